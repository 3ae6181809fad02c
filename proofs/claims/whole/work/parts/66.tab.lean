theorem dTable_sizeOf_0 : decode uTable_sizeOf.2.1 0 = .ok (.iload_n 0, 1) := by decide +kernel
theorem dTable_sizeOf_1 : decode uTable_sizeOf.2.1 1 = .ok (.ifCond .lt 9, 3) := by decide +kernel
theorem dTable_sizeOf_4 : decode uTable_sizeOf.2.1 4 = .ok (.iload_n 0, 1) := by decide +kernel
theorem dTable_sizeOf_5 : decode uTable_sizeOf.2.1 5 = .ok (.ldc 57, 2) := by decide +kernel
theorem dTable_sizeOf_7 : decode uTable_sizeOf.2.1 7 = .ok (.if_icmp .le 6, 3) := by decide +kernel
theorem dTable_sizeOf_10 : decode uTable_sizeOf.2.1 10 = .ok (.bipush 37, 2) := by decide +kernel
theorem dTable_sizeOf_12 : decode uTable_sizeOf.2.1 12 = .ok (.ireturn, 1) := by decide +kernel
theorem dTable_sizeOf_13 : decode uTable_sizeOf.2.1 13 = .ok (.iload_n 0, 1) := by decide +kernel
theorem dTable_sizeOf_14 : decode uTable_sizeOf.2.1 14 = .ok (.ldc 58, 2) := by decide +kernel
theorem dTable_sizeOf_16 : decode uTable_sizeOf.2.1 16 = .ok (.if_icmp .le 6, 3) := by decide +kernel
theorem dTable_sizeOf_19 : decode uTable_sizeOf.2.1 19 = .ok (.bipush 36, 2) := by decide +kernel
theorem dTable_sizeOf_21 : decode uTable_sizeOf.2.1 21 = .ok (.ireturn, 1) := by decide +kernel
theorem dTable_sizeOf_22 : decode uTable_sizeOf.2.1 22 = .ok (.iload_n 0, 1) := by decide +kernel
theorem dTable_sizeOf_23 : decode uTable_sizeOf.2.1 23 = .ok (.sipush 255, 3) := by decide +kernel
theorem dTable_sizeOf_26 : decode uTable_sizeOf.2.1 26 = .ok (.if_icmp .le 8, 3) := by decide +kernel
theorem dTable_sizeOf_29 : decode uTable_sizeOf.2.1 29 = .ok (.bipush 35, 2) := by decide +kernel
theorem dTable_sizeOf_31 : decode uTable_sizeOf.2.1 31 = .ok (.goto 5, 3) := by decide +kernel
theorem dTable_sizeOf_34 : decode uTable_sizeOf.2.1 34 = .ok (.bipush 34, 2) := by decide +kernel
theorem dTable_sizeOf_36 : decode uTable_sizeOf.2.1 36 = .ok (.ireturn, 1) := by decide +kernel
theorem dTable_dropDownTo_0 : decode uTable_dropDownTo.2.1 0 = .ok (.aload_n 0, 1) := by decide +kernel
theorem dTable_dropDownTo_1 : decode uTable_dropDownTo.2.1 1 = .ok (.getfield 21, 3) := by decide +kernel
theorem dTable_dropDownTo_4 : decode uTable_dropDownTo.2.1 4 = .ok (.ifCond .le 42, 3) := by decide +kernel
theorem dTable_dropDownTo_7 : decode uTable_dropDownTo.2.1 7 = .ok (.aload_n 0, 1) := by decide +kernel
theorem dTable_dropDownTo_8 : decode uTable_dropDownTo.2.1 8 = .ok (.getfield 25, 3) := by decide +kernel
theorem dTable_dropDownTo_11 : decode uTable_dropDownTo.2.1 11 = .ok (.iload_n 1, 1) := by decide +kernel
theorem dTable_dropDownTo_12 : decode uTable_dropDownTo.2.1 12 = .ok (.if_icmp .le 34, 3) := by decide +kernel
theorem dTable_dropDownTo_15 : decode uTable_dropDownTo.2.1 15 = .ok (.aload_n 0, 1) := by decide +kernel
theorem dTable_dropDownTo_16 : decode uTable_dropDownTo.2.1 16 = .ok (.dup, 1) := by decide +kernel
theorem dTable_dropDownTo_17 : decode uTable_dropDownTo.2.1 17 = .ok (.getfield 21, 3) := by decide +kernel
theorem dTable_dropDownTo_20 : decode uTable_dropDownTo.2.1 20 = .ok (.iconst 1, 1) := by decide +kernel
theorem dTable_dropDownTo_21 : decode uTable_dropDownTo.2.1 21 = .ok (.isub, 1) := by decide +kernel
theorem dTable_dropDownTo_22 : decode uTable_dropDownTo.2.1 22 = .ok (.putfield 21, 3) := by decide +kernel
theorem dTable_dropDownTo_25 : decode uTable_dropDownTo.2.1 25 = .ok (.aload_n 0, 1) := by decide +kernel
theorem dTable_dropDownTo_26 : decode uTable_dropDownTo.2.1 26 = .ok (.dup, 1) := by decide +kernel
theorem dTable_dropDownTo_27 : decode uTable_dropDownTo.2.1 27 = .ok (.getfield 25, 3) := by decide +kernel
theorem dTable_dropDownTo_30 : decode uTable_dropDownTo.2.1 30 = .ok (.aload_n 0, 1) := by decide +kernel
theorem dTable_dropDownTo_31 : decode uTable_dropDownTo.2.1 31 = .ok (.getfield 18, 3) := by decide +kernel
theorem dTable_dropDownTo_34 : decode uTable_dropDownTo.2.1 34 = .ok (.aload_n 0, 1) := by decide +kernel
theorem dTable_dropDownTo_35 : decode uTable_dropDownTo.2.1 35 = .ok (.getfield 21, 3) := by decide +kernel
theorem dTable_dropDownTo_38 : decode uTable_dropDownTo.2.1 38 = .ok (.iaload, 1) := by decide +kernel
theorem dTable_dropDownTo_39 : decode uTable_dropDownTo.2.1 39 = .ok (.isub, 1) := by decide +kernel
theorem dTable_dropDownTo_40 : decode uTable_dropDownTo.2.1 40 = .ok (.putfield 25, 3) := by decide +kernel
theorem dTable_dropDownTo_43 : decode uTable_dropDownTo.2.1 43 = .ok (.goto (-43), 3) := by decide +kernel
theorem dTable_dropDownTo_46 : decode uTable_dropDownTo.2.1 46 = .ok (.return_, 1) := by decide +kernel
theorem dTable_setMaximum_0 : decode uTable_setMaximum.2.1 0 = .ok (.aload_n 0, 1) := by decide +kernel
theorem dTable_setMaximum_1 : decode uTable_setMaximum.2.1 1 = .ok (.iload_n 1, 1) := by decide +kernel
theorem dTable_setMaximum_2 : decode uTable_setMaximum.2.1 2 = .ok (.putfield 30, 3) := by decide +kernel
theorem dTable_setMaximum_5 : decode uTable_setMaximum.2.1 5 = .ok (.aload_n 0, 1) := by decide +kernel
theorem dTable_setMaximum_6 : decode uTable_setMaximum.2.1 6 = .ok (.iload_n 1, 1) := by decide +kernel
theorem dTable_setMaximum_7 : decode uTable_setMaximum.2.1 7 = .ok (.invokevirtual 50, 3) := by decide +kernel
theorem dTable_setMaximum_10 : decode uTable_setMaximum.2.1 10 = .ok (.return_, 1) := by decide +kernel
theorem dTable_add_0 : decode uTable_add.2.1 0 = .ok (.iload_n 2, 1) := by decide +kernel
theorem dTable_add_1 : decode uTable_add.2.1 1 = .ok (.invokestatic 54, 3) := by decide +kernel
theorem dTable_add_4 : decode uTable_add.2.1 4 = .ok (.istore_n 3, 1) := by decide +kernel
theorem dTable_add_5 : decode uTable_add.2.1 5 = .ok (.aload_n 0, 1) := by decide +kernel
theorem dTable_add_6 : decode uTable_add.2.1 6 = .ok (.aload_n 0, 1) := by decide +kernel
theorem dTable_add_7 : decode uTable_add.2.1 7 = .ok (.getfield 30, 3) := by decide +kernel
theorem dTable_add_10 : decode uTable_add.2.1 10 = .ok (.iload_n 3, 1) := by decide +kernel
theorem dTable_add_11 : decode uTable_add.2.1 11 = .ok (.isub, 1) := by decide +kernel
theorem dTable_add_12 : decode uTable_add.2.1 12 = .ok (.invokevirtual 50, 3) := by decide +kernel
theorem dTable_add_15 : decode uTable_add.2.1 15 = .ok (.aload_n 0, 1) := by decide +kernel
theorem dTable_add_16 : decode uTable_add.2.1 16 = .ok (.getfield 25, 3) := by decide +kernel
theorem dTable_add_19 : decode uTable_add.2.1 19 = .ok (.iload_n 3, 1) := by decide +kernel
theorem dTable_add_20 : decode uTable_add.2.1 20 = .ok (.iadd, 1) := by decide +kernel
theorem dTable_add_21 : decode uTable_add.2.1 21 = .ok (.aload_n 0, 1) := by decide +kernel
theorem dTable_add_22 : decode uTable_add.2.1 22 = .ok (.getfield 30, 3) := by decide +kernel
theorem dTable_add_25 : decode uTable_add.2.1 25 = .ok (.if_icmp .gt 11, 3) := by decide +kernel
theorem dTable_add_28 : decode uTable_add.2.1 28 = .ok (.aload_n 0, 1) := by decide +kernel
theorem dTable_add_29 : decode uTable_add.2.1 29 = .ok (.getfield 21, 3) := by decide +kernel
theorem dTable_add_32 : decode uTable_add.2.1 32 = .ok (.iconst 5, 1) := by decide +kernel
theorem dTable_add_33 : decode uTable_add.2.1 33 = .ok (.if_icmp .lt 4, 3) := by decide +kernel
theorem dTable_add_36 : decode uTable_add.2.1 36 = .ok (.return_, 1) := by decide +kernel
theorem dTable_add_37 : decode uTable_add.2.1 37 = .ok (.aload_n 0, 1) := by decide +kernel
theorem dTable_add_38 : decode uTable_add.2.1 38 = .ok (.getfield 21, 3) := by decide +kernel
theorem dTable_add_41 : decode uTable_add.2.1 41 = .ok (.istore 4, 2) := by decide +kernel
theorem dTable_add_43 : decode uTable_add.2.1 43 = .ok (.iload 4, 2) := by decide +kernel
theorem dTable_add_45 : decode uTable_add.2.1 45 = .ok (.ifCond .le 57, 3) := by decide +kernel
theorem dTable_add_48 : decode uTable_add.2.1 48 = .ok (.aload_n 0, 1) := by decide +kernel
theorem dTable_add_49 : decode uTable_add.2.1 49 = .ok (.getfield 9, 3) := by decide +kernel
theorem dTable_add_52 : decode uTable_add.2.1 52 = .ok (.iload 4, 2) := by decide +kernel
theorem dTable_add_54 : decode uTable_add.2.1 54 = .ok (.aload_n 0, 1) := by decide +kernel
theorem dTable_add_55 : decode uTable_add.2.1 55 = .ok (.getfield 9, 3) := by decide +kernel
theorem dTable_add_58 : decode uTable_add.2.1 58 = .ok (.iload 4, 2) := by decide +kernel
theorem dTable_add_60 : decode uTable_add.2.1 60 = .ok (.iconst 1, 1) := by decide +kernel
theorem dTable_add_61 : decode uTable_add.2.1 61 = .ok (.isub, 1) := by decide +kernel
theorem dTable_add_62 : decode uTable_add.2.1 62 = .ok (.iaload, 1) := by decide +kernel
theorem dTable_add_63 : decode uTable_add.2.1 63 = .ok (.iastore, 1) := by decide +kernel
theorem dTable_add_64 : decode uTable_add.2.1 64 = .ok (.aload_n 0, 1) := by decide +kernel
theorem dTable_add_65 : decode uTable_add.2.1 65 = .ok (.getfield 15, 3) := by decide +kernel
theorem dTable_add_68 : decode uTable_add.2.1 68 = .ok (.iload 4, 2) := by decide +kernel
theorem dTable_add_70 : decode uTable_add.2.1 70 = .ok (.aload_n 0, 1) := by decide +kernel
theorem dTable_add_71 : decode uTable_add.2.1 71 = .ok (.getfield 15, 3) := by decide +kernel
theorem dTable_add_74 : decode uTable_add.2.1 74 = .ok (.iload 4, 2) := by decide +kernel
theorem dTable_add_76 : decode uTable_add.2.1 76 = .ok (.iconst 1, 1) := by decide +kernel
theorem dTable_add_77 : decode uTable_add.2.1 77 = .ok (.isub, 1) := by decide +kernel
theorem dTable_add_78 : decode uTable_add.2.1 78 = .ok (.iaload, 1) := by decide +kernel
theorem dTable_add_79 : decode uTable_add.2.1 79 = .ok (.iastore, 1) := by decide +kernel
theorem dTable_add_80 : decode uTable_add.2.1 80 = .ok (.aload_n 0, 1) := by decide +kernel
theorem dTable_add_81 : decode uTable_add.2.1 81 = .ok (.getfield 18, 3) := by decide +kernel
theorem dTable_add_84 : decode uTable_add.2.1 84 = .ok (.iload 4, 2) := by decide +kernel
theorem dTable_add_86 : decode uTable_add.2.1 86 = .ok (.aload_n 0, 1) := by decide +kernel
theorem dTable_add_87 : decode uTable_add.2.1 87 = .ok (.getfield 18, 3) := by decide +kernel
theorem dTable_add_90 : decode uTable_add.2.1 90 = .ok (.iload 4, 2) := by decide +kernel
theorem dTable_add_92 : decode uTable_add.2.1 92 = .ok (.iconst 1, 1) := by decide +kernel
theorem dTable_add_93 : decode uTable_add.2.1 93 = .ok (.isub, 1) := by decide +kernel
theorem dTable_add_94 : decode uTable_add.2.1 94 = .ok (.iaload, 1) := by decide +kernel
theorem dTable_add_95 : decode uTable_add.2.1 95 = .ok (.iastore, 1) := by decide +kernel
theorem dTable_add_96 : decode uTable_add.2.1 96 = .ok (.iinc 4 (-1), 3) := by decide +kernel
theorem dTable_add_99 : decode uTable_add.2.1 99 = .ok (.goto (-56), 3) := by decide +kernel
theorem dTable_add_102 : decode uTable_add.2.1 102 = .ok (.aload_n 0, 1) := by decide +kernel
theorem dTable_add_103 : decode uTable_add.2.1 103 = .ok (.getfield 9, 3) := by decide +kernel
theorem dTable_add_106 : decode uTable_add.2.1 106 = .ok (.iconst 0, 1) := by decide +kernel
theorem dTable_add_107 : decode uTable_add.2.1 107 = .ok (.iload_n 1, 1) := by decide +kernel
theorem dTable_add_108 : decode uTable_add.2.1 108 = .ok (.iastore, 1) := by decide +kernel
theorem dTable_add_109 : decode uTable_add.2.1 109 = .ok (.aload_n 0, 1) := by decide +kernel
theorem dTable_add_110 : decode uTable_add.2.1 110 = .ok (.getfield 15, 3) := by decide +kernel
theorem dTable_add_113 : decode uTable_add.2.1 113 = .ok (.iconst 0, 1) := by decide +kernel
theorem dTable_add_114 : decode uTable_add.2.1 114 = .ok (.iload_n 2, 1) := by decide +kernel
theorem dTable_add_115 : decode uTable_add.2.1 115 = .ok (.iastore, 1) := by decide +kernel
theorem dTable_add_116 : decode uTable_add.2.1 116 = .ok (.aload_n 0, 1) := by decide +kernel
theorem dTable_add_117 : decode uTable_add.2.1 117 = .ok (.getfield 18, 3) := by decide +kernel
theorem dTable_add_120 : decode uTable_add.2.1 120 = .ok (.iconst 0, 1) := by decide +kernel
theorem dTable_add_121 : decode uTable_add.2.1 121 = .ok (.iload_n 3, 1) := by decide +kernel
theorem dTable_add_122 : decode uTable_add.2.1 122 = .ok (.iastore, 1) := by decide +kernel
theorem dTable_add_123 : decode uTable_add.2.1 123 = .ok (.aload_n 0, 1) := by decide +kernel
theorem dTable_add_124 : decode uTable_add.2.1 124 = .ok (.dup, 1) := by decide +kernel
theorem dTable_add_125 : decode uTable_add.2.1 125 = .ok (.getfield 21, 3) := by decide +kernel
theorem dTable_add_128 : decode uTable_add.2.1 128 = .ok (.iconst 1, 1) := by decide +kernel
theorem dTable_add_129 : decode uTable_add.2.1 129 = .ok (.iadd, 1) := by decide +kernel
theorem dTable_add_130 : decode uTable_add.2.1 130 = .ok (.putfield 21, 3) := by decide +kernel
theorem dTable_add_133 : decode uTable_add.2.1 133 = .ok (.aload_n 0, 1) := by decide +kernel
theorem dTable_add_134 : decode uTable_add.2.1 134 = .ok (.dup, 1) := by decide +kernel
theorem dTable_add_135 : decode uTable_add.2.1 135 = .ok (.getfield 25, 3) := by decide +kernel
theorem dTable_add_138 : decode uTable_add.2.1 138 = .ok (.iload_n 3, 1) := by decide +kernel
theorem dTable_add_139 : decode uTable_add.2.1 139 = .ok (.iadd, 1) := by decide +kernel
theorem dTable_add_140 : decode uTable_add.2.1 140 = .ok (.putfield 25, 3) := by decide +kernel
theorem dTable_add_143 : decode uTable_add.2.1 143 = .ok (.return_, 1) := by decide +kernel
theorem dTable_hasIndex_0 : decode uTable_hasIndex.2.1 0 = .ok (.iload_n 1, 1) := by decide +kernel
theorem dTable_hasIndex_1 : decode uTable_hasIndex.2.1 1 = .ok (.iconst 1, 1) := by decide +kernel
theorem dTable_hasIndex_2 : decode uTable_hasIndex.2.1 2 = .ok (.if_icmp .lt 18, 3) := by decide +kernel
theorem dTable_hasIndex_5 : decode uTable_hasIndex.2.1 5 = .ok (.iload_n 1, 1) := by decide +kernel
theorem dTable_hasIndex_6 : decode uTable_hasIndex.2.1 6 = .ok (.bipush 6, 2) := by decide +kernel
theorem dTable_hasIndex_8 : decode uTable_hasIndex.2.1 8 = .ok (.aload_n 0, 1) := by decide +kernel
theorem dTable_hasIndex_9 : decode uTable_hasIndex.2.1 9 = .ok (.getfield 21, 3) := by decide +kernel
theorem dTable_hasIndex_12 : decode uTable_hasIndex.2.1 12 = .ok (.iadd, 1) := by decide +kernel
theorem dTable_hasIndex_13 : decode uTable_hasIndex.2.1 13 = .ok (.if_icmp .gt 7, 3) := by decide +kernel
theorem dTable_hasIndex_16 : decode uTable_hasIndex.2.1 16 = .ok (.iconst 1, 1) := by decide +kernel
theorem dTable_hasIndex_17 : decode uTable_hasIndex.2.1 17 = .ok (.goto 4, 3) := by decide +kernel
theorem dTable_hasIndex_20 : decode uTable_hasIndex.2.1 20 = .ok (.iconst 0, 1) := by decide +kernel
theorem dTable_hasIndex_21 : decode uTable_hasIndex.2.1 21 = .ok (.ireturn, 1) := by decide +kernel
theorem dTable_nameOf_0 : decode uTable_nameOf.2.1 0 = .ok (.aload_n 0, 1) := by decide +kernel
theorem dTable_nameOf_1 : decode uTable_nameOf.2.1 1 = .ok (.iload_n 1, 1) := by decide +kernel
theorem dTable_nameOf_2 : decode uTable_nameOf.2.1 2 = .ok (.invokevirtual 33, 3) := by decide +kernel
theorem dTable_nameOf_5 : decode uTable_nameOf.2.1 5 = .ok (.ifCond .ne 5, 3) := by decide +kernel
theorem dTable_nameOf_8 : decode uTable_nameOf.2.1 8 = .ok (.iconst (-1), 1) := by decide +kernel
theorem dTable_nameOf_9 : decode uTable_nameOf.2.1 9 = .ok (.ireturn, 1) := by decide +kernel
theorem dTable_nameOf_10 : decode uTable_nameOf.2.1 10 = .ok (.iload_n 1, 1) := by decide +kernel
theorem dTable_nameOf_11 : decode uTable_nameOf.2.1 11 = .ok (.bipush 6, 2) := by decide +kernel
theorem dTable_nameOf_13 : decode uTable_nameOf.2.1 13 = .ok (.if_icmp .gt 13, 3) := by decide +kernel
theorem dTable_nameOf_16 : decode uTable_nameOf.2.1 16 = .ok (.getstatic 37, 3) := by decide +kernel
theorem dTable_nameOf_19 : decode uTable_nameOf.2.1 19 = .ok (.iload_n 1, 1) := by decide +kernel
theorem dTable_nameOf_20 : decode uTable_nameOf.2.1 20 = .ok (.iconst 1, 1) := by decide +kernel
theorem dTable_nameOf_21 : decode uTable_nameOf.2.1 21 = .ok (.isub, 1) := by decide +kernel
theorem dTable_nameOf_22 : decode uTable_nameOf.2.1 22 = .ok (.iaload, 1) := by decide +kernel
theorem dTable_nameOf_23 : decode uTable_nameOf.2.1 23 = .ok (.goto 14, 3) := by decide +kernel
theorem dTable_nameOf_26 : decode uTable_nameOf.2.1 26 = .ok (.aload_n 0, 1) := by decide +kernel
theorem dTable_nameOf_27 : decode uTable_nameOf.2.1 27 = .ok (.getfield 9, 3) := by decide +kernel
theorem dTable_nameOf_30 : decode uTable_nameOf.2.1 30 = .ok (.iload_n 1, 1) := by decide +kernel
theorem dTable_nameOf_31 : decode uTable_nameOf.2.1 31 = .ok (.bipush 6, 2) := by decide +kernel
theorem dTable_nameOf_33 : decode uTable_nameOf.2.1 33 = .ok (.isub, 1) := by decide +kernel
theorem dTable_nameOf_34 : decode uTable_nameOf.2.1 34 = .ok (.iconst 1, 1) := by decide +kernel
theorem dTable_nameOf_35 : decode uTable_nameOf.2.1 35 = .ok (.isub, 1) := by decide +kernel
theorem dTable_nameOf_36 : decode uTable_nameOf.2.1 36 = .ok (.iaload, 1) := by decide +kernel
theorem dTable_nameOf_37 : decode uTable_nameOf.2.1 37 = .ok (.ireturn, 1) := by decide +kernel
theorem dTable_valueOf_0 : decode uTable_valueOf.2.1 0 = .ok (.aload_n 0, 1) := by decide +kernel
theorem dTable_valueOf_1 : decode uTable_valueOf.2.1 1 = .ok (.iload_n 1, 1) := by decide +kernel
theorem dTable_valueOf_2 : decode uTable_valueOf.2.1 2 = .ok (.invokevirtual 33, 3) := by decide +kernel
theorem dTable_valueOf_5 : decode uTable_valueOf.2.1 5 = .ok (.ifCond .ne 5, 3) := by decide +kernel
theorem dTable_valueOf_8 : decode uTable_valueOf.2.1 8 = .ok (.iconst 0, 1) := by decide +kernel
theorem dTable_valueOf_9 : decode uTable_valueOf.2.1 9 = .ok (.ireturn, 1) := by decide +kernel
theorem dTable_valueOf_10 : decode uTable_valueOf.2.1 10 = .ok (.iload_n 1, 1) := by decide +kernel
theorem dTable_valueOf_11 : decode uTable_valueOf.2.1 11 = .ok (.bipush 6, 2) := by decide +kernel
theorem dTable_valueOf_13 : decode uTable_valueOf.2.1 13 = .ok (.if_icmp .gt 13, 3) := by decide +kernel
theorem dTable_valueOf_16 : decode uTable_valueOf.2.1 16 = .ok (.getstatic 40, 3) := by decide +kernel
theorem dTable_valueOf_19 : decode uTable_valueOf.2.1 19 = .ok (.iload_n 1, 1) := by decide +kernel
theorem dTable_valueOf_20 : decode uTable_valueOf.2.1 20 = .ok (.iconst 1, 1) := by decide +kernel
theorem dTable_valueOf_21 : decode uTable_valueOf.2.1 21 = .ok (.isub, 1) := by decide +kernel
theorem dTable_valueOf_22 : decode uTable_valueOf.2.1 22 = .ok (.iaload, 1) := by decide +kernel
theorem dTable_valueOf_23 : decode uTable_valueOf.2.1 23 = .ok (.goto 14, 3) := by decide +kernel
theorem dTable_valueOf_26 : decode uTable_valueOf.2.1 26 = .ok (.aload_n 0, 1) := by decide +kernel
theorem dTable_valueOf_27 : decode uTable_valueOf.2.1 27 = .ok (.getfield 15, 3) := by decide +kernel
theorem dTable_valueOf_30 : decode uTable_valueOf.2.1 30 = .ok (.iload_n 1, 1) := by decide +kernel
theorem dTable_valueOf_31 : decode uTable_valueOf.2.1 31 = .ok (.bipush 6, 2) := by decide +kernel
theorem dTable_valueOf_33 : decode uTable_valueOf.2.1 33 = .ok (.isub, 1) := by decide +kernel
theorem dTable_valueOf_34 : decode uTable_valueOf.2.1 34 = .ok (.iconst 1, 1) := by decide +kernel
theorem dTable_valueOf_35 : decode uTable_valueOf.2.1 35 = .ok (.isub, 1) := by decide +kernel
theorem dTable_valueOf_36 : decode uTable_valueOf.2.1 36 = .ok (.iaload, 1) := by decide +kernel
theorem dTable_valueOf_37 : decode uTable_valueOf.2.1 37 = .ok (.ireturn, 1) := by decide +kernel
theorem dTable_leastNamed_0 : decode uTable_leastNamed.2.1 0 = .ok (.iconst 1, 1) := by decide +kernel
theorem dTable_leastNamed_1 : decode uTable_leastNamed.2.1 1 = .ok (.istore_n 2, 1) := by decide +kernel
theorem dTable_leastNamed_2 : decode uTable_leastNamed.2.1 2 = .ok (.iload_n 2, 1) := by decide +kernel
theorem dTable_leastNamed_3 : decode uTable_leastNamed.2.1 3 = .ok (.bipush 6, 2) := by decide +kernel
theorem dTable_leastNamed_5 : decode uTable_leastNamed.2.1 5 = .ok (.aload_n 0, 1) := by decide +kernel
theorem dTable_leastNamed_6 : decode uTable_leastNamed.2.1 6 = .ok (.getfield 21, 3) := by decide +kernel
theorem dTable_leastNamed_9 : decode uTable_leastNamed.2.1 9 = .ok (.iadd, 1) := by decide +kernel
theorem dTable_leastNamed_10 : decode uTable_leastNamed.2.1 10 = .ok (.if_icmp .gt 20, 3) := by decide +kernel
theorem dTable_leastNamed_13 : decode uTable_leastNamed.2.1 13 = .ok (.aload_n 0, 1) := by decide +kernel
theorem dTable_leastNamed_14 : decode uTable_leastNamed.2.1 14 = .ok (.iload_n 2, 1) := by decide +kernel
theorem dTable_leastNamed_15 : decode uTable_leastNamed.2.1 15 = .ok (.invokevirtual 43, 3) := by decide +kernel
theorem dTable_leastNamed_18 : decode uTable_leastNamed.2.1 18 = .ok (.iload_n 1, 1) := by decide +kernel
theorem dTable_leastNamed_19 : decode uTable_leastNamed.2.1 19 = .ok (.if_icmp .ne 5, 3) := by decide +kernel
theorem dTable_leastNamed_22 : decode uTable_leastNamed.2.1 22 = .ok (.iload_n 2, 1) := by decide +kernel
theorem dTable_leastNamed_23 : decode uTable_leastNamed.2.1 23 = .ok (.ireturn, 1) := by decide +kernel
theorem dTable_leastNamed_24 : decode uTable_leastNamed.2.1 24 = .ok (.iinc 2 1, 3) := by decide +kernel
theorem dTable_leastNamed_27 : decode uTable_leastNamed.2.1 27 = .ok (.goto (-25), 3) := by decide +kernel
theorem dTable_leastNamed_30 : decode uTable_leastNamed.2.1 30 = .ok (.iconst 0, 1) := by decide +kernel
theorem dTable_leastNamed_31 : decode uTable_leastNamed.2.1 31 = .ok (.ireturn, 1) := by decide +kernel
theorem dTable_leastEqual_0 : decode uTable_leastEqual.2.1 0 = .ok (.iconst 1, 1) := by decide +kernel
theorem dTable_leastEqual_1 : decode uTable_leastEqual.2.1 1 = .ok (.istore_n 3, 1) := by decide +kernel
theorem dTable_leastEqual_2 : decode uTable_leastEqual.2.1 2 = .ok (.iload_n 3, 1) := by decide +kernel
theorem dTable_leastEqual_3 : decode uTable_leastEqual.2.1 3 = .ok (.bipush 6, 2) := by decide +kernel
theorem dTable_leastEqual_5 : decode uTable_leastEqual.2.1 5 = .ok (.aload_n 0, 1) := by decide +kernel
theorem dTable_leastEqual_6 : decode uTable_leastEqual.2.1 6 = .ok (.getfield 21, 3) := by decide +kernel
theorem dTable_leastEqual_9 : decode uTable_leastEqual.2.1 9 = .ok (.iadd, 1) := by decide +kernel
theorem dTable_leastEqual_10 : decode uTable_leastEqual.2.1 10 = .ok (.if_icmp .gt 29, 3) := by decide +kernel
theorem dTable_leastEqual_13 : decode uTable_leastEqual.2.1 13 = .ok (.aload_n 0, 1) := by decide +kernel
theorem dTable_leastEqual_14 : decode uTable_leastEqual.2.1 14 = .ok (.iload_n 3, 1) := by decide +kernel
theorem dTable_leastEqual_15 : decode uTable_leastEqual.2.1 15 = .ok (.invokevirtual 43, 3) := by decide +kernel
theorem dTable_leastEqual_18 : decode uTable_leastEqual.2.1 18 = .ok (.iload_n 1, 1) := by decide +kernel
theorem dTable_leastEqual_19 : decode uTable_leastEqual.2.1 19 = .ok (.if_icmp .ne 14, 3) := by decide +kernel
theorem dTable_leastEqual_22 : decode uTable_leastEqual.2.1 22 = .ok (.aload_n 0, 1) := by decide +kernel
theorem dTable_leastEqual_23 : decode uTable_leastEqual.2.1 23 = .ok (.iload_n 3, 1) := by decide +kernel
theorem dTable_leastEqual_24 : decode uTable_leastEqual.2.1 24 = .ok (.invokevirtual 47, 3) := by decide +kernel
theorem dTable_leastEqual_27 : decode uTable_leastEqual.2.1 27 = .ok (.iload_n 2, 1) := by decide +kernel
theorem dTable_leastEqual_28 : decode uTable_leastEqual.2.1 28 = .ok (.if_icmp .ne 5, 3) := by decide +kernel
theorem dTable_leastEqual_31 : decode uTable_leastEqual.2.1 31 = .ok (.iload_n 3, 1) := by decide +kernel
theorem dTable_leastEqual_32 : decode uTable_leastEqual.2.1 32 = .ok (.ireturn, 1) := by decide +kernel
theorem dTable_leastEqual_33 : decode uTable_leastEqual.2.1 33 = .ok (.iinc 3 1, 3) := by decide +kernel
theorem dTable_leastEqual_36 : decode uTable_leastEqual.2.1 36 = .ok (.goto (-34), 3) := by decide +kernel
theorem dTable_leastEqual_39 : decode uTable_leastEqual.2.1 39 = .ok (.iconst 0, 1) := by decide +kernel
theorem dTable_leastEqual_40 : decode uTable_leastEqual.2.1 40 = .ok (.ireturn, 1) := by decide +kernel
theorem lc_Table_57 : Cond.constant "InterleavedLink$Table" 57 16777215 ∈ gW := gW_in 508 (by decide +kernel) rfl
theorem lc_Table_58 : Cond.constant "InterleavedLink$Table" 58 65535 ∈ gW := gW_in 509 (by decide +kernel) rfl
theorem fs_Table_21 : fS "InterleavedLink$Table" 21 5 3 := ⟨"InterleavedLink$Table", T_Table, 6, cf_Table, by decide, Or.inl (gW_in 159 (by decide +kernel) rfl)⟩
theorem fs_Table_25 : fS "InterleavedLink$Table" 25 5 4 := ⟨"InterleavedLink$Table", T_Table, 6, cf_Table, by decide, Or.inl (gW_in 161 (by decide +kernel) rfl)⟩
theorem fs_Table_18 : fS "InterleavedLink$Table" 18 5 2 := ⟨"InterleavedLink$Table", T_Table, 6, cf_Table, by decide, Or.inl (gW_in 158 (by decide +kernel) rfl)⟩
theorem cs_Table_50 : cV "InterleavedLink$Table" 50 uTable_dropDownTo 1 := ⟨⟨Or.inl (gW_in 469 (by decide +kernel) rfl), (gW_in 69 (by decide +kernel) rfl), (gW_in 472 (by decide +kernel) rfl), ⟨by decide, by decide⟩, by decide +kernel⟩, (gW_in 471 (by decide +kernel) rfl), (gW_in 4 (by decide +kernel) rfl)⟩
theorem fs_Table_9 : fS "InterleavedLink$Table" 9 5 0 := ⟨"InterleavedLink$Table", T_Table, 6, cf_Table, by decide, Or.inl (gW_in 155 (by decide +kernel) rfl)⟩
theorem fs_Table_15 : fS "InterleavedLink$Table" 15 5 1 := ⟨"InterleavedLink$Table", T_Table, 6, cf_Table, by decide, Or.inl (gW_in 156 (by decide +kernel) rfl)⟩
theorem cs_Table_54 : cSt "InterleavedLink$Table" 54 uTable_sizeOf 1 := ⟨⟨Or.inl (gW_in 505 (by decide +kernel) rfl), (gW_in 69 (by decide +kernel) rfl), (gW_in 507 (by decide +kernel) rfl), ⟨by decide, by decide⟩, by decide +kernel⟩, (gW_in 506 (by decide +kernel) rfl)⟩
theorem fs_Table_30 : fS "InterleavedLink$Table" 30 5 5 := ⟨"InterleavedLink$Table", T_Table, 6, cf_Table, by decide, Or.inl (gW_in 163 (by decide +kernel) rfl)⟩
theorem cs_Table_33 : cV "InterleavedLink$Table" 33 uTable_hasIndex 1 := ⟨⟨Or.inl (gW_in 485 (by decide +kernel) rfl), (gW_in 69 (by decide +kernel) rfl), (gW_in 488 (by decide +kernel) rfl), ⟨by decide, by decide⟩, by decide +kernel⟩, (gW_in 486 (by decide +kernel) rfl), (gW_in 487 (by decide +kernel) rfl)⟩
theorem cs_Table_43 : cV "InterleavedLink$Table" 43 uTable_nameOf 1 := ⟨⟨Or.inl (gW_in 481 (by decide +kernel) rfl), (gW_in 69 (by decide +kernel) rfl), (gW_in 484 (by decide +kernel) rfl), ⟨by decide, by decide⟩, by decide +kernel⟩, (gW_in 482 (by decide +kernel) rfl), (gW_in 483 (by decide +kernel) rfl)⟩
theorem cs_Table_47 : cV "InterleavedLink$Table" 47 uTable_valueOf 1 := ⟨⟨Or.inl (gW_in 495 (by decide +kernel) rfl), (gW_in 69 (by decide +kernel) rfl), (gW_in 498 (by decide +kernel) rfl), ⟨by decide, by decide⟩, by decide +kernel⟩, (gW_in 496 (by decide +kernel) rfl), (gW_in 497 (by decide +kernel) rfl)⟩
/-! ===== tables over lists ===== -/
def TGeo (M : mM) (t : Nat) : Prop := (mT M t).1 = 5 ∧ t + 3 < mN M ∧ (mR M t 0 = some (t + 1) ∧ mT M (t + 1) = (100, 5)) ∧ (mR M t 1 = some (t + 2) ∧ mT M (t + 2) = (100, 5)) ∧ (mR M t 2 = some (t + 3) ∧ mT M (t + 3) = (100, 5))
def TabG (M : mM) (t : Nat) (L : List (Int32 × Int32)) (mx : Int32) : Prop := mI M t 3 = nI L.length ∧ L.length ≤ 5 ∧ mI M t 4 = sumT L ∧ mI M t 5 = mx ∧ ∀ j x, L[j]? = some x → mI M (t + 1) j = x.1 ∧ mI M (t + 2) j = x.2 ∧ mI M (t + 3) j = szV x.2
theorem TGeo.mv {M M' : mM} {t : Nat} {PI PR : Nat → Nat → Prop} (h : TGeo M t) (c : Chg M M' PI PR) (n : ∀ j, ¬ PR t j) : TGeo M' t := by
  obtain ⟨h1, h2, ⟨a1, a2⟩, ⟨b1, b2⟩, ⟨c1, c2⟩⟩ := h
  refine ⟨by rw [c.2.1 t (by omega)]; exact h1, Nat.lt_of_lt_of_le h2 c.1, ⟨by rw [c.2.2.2.2 _ _ (by omega) (n _)]; exact a1, by rw [c.2.1 _ (by omega)]; exact a2⟩, ⟨by rw [c.2.2.2.2 _ _ (by omega) (n _)]; exact b1, by rw [c.2.1 _ (by omega)]; exact b2⟩, ⟨by rw [c.2.2.2.2 _ _ (by omega) (n _)]; exact c1, by rw [c.2.1 _ (by omega)]; exact c2⟩⟩
theorem TabG.mv {M M' : mM} {t : Nat} {L : List (Int32 × Int32)} {mx : Int32} {PI PR : Nat → Nat → Prop} (h : TabG M t L mx) (c : Chg M M' PI PR) (hN : t + 3 < mN M) (n : ∀ a j, PI a j → ¬ (t ≤ a ∧ a ≤ t + 3)) : TabG M' t L mx := by
  have hI : ∀ a k, t ≤ a → a ≤ t + 3 → mI M' a k = mI M a k := fun a k h1 h2 => c.2.2.1 a k (by omega) fun q => n _ _ q ⟨h1, h2⟩
  obtain ⟨h1, h2, h3, h4, h5⟩ := h
  refine ⟨by rw [hI _ _ (by omega) (by omega)]; exact h1, h2, by rw [hI _ _ (by omega) (by omega)]; exact h3, by rw [hI _ _ (by omega) (by omega)]; exact h4, fun j x hx => ?_⟩
  rw [hI _ _ (by omega) (by omega), hI _ _ (by omega) (by omega), hI _ _ (by omega) (by omega)]
  exact h5 j x hx
theorem TabC.g {M : mM} {e g : Nat} {L : List (Int32 × Int32)} {mx : Int32} : TabC M e g L mx ↔ TabG M (15 + 80 * e + 5 * g) L mx := by
  unfold TabC TabG
  rw [show 15 + 80 * e + 5 * g + 1 = 16 + 80 * e + 5 * g by omega, show 15 + 80 * e + 5 * g + 2 = 17 + 80 * e + 5 * g by omega, show 15 + 80 * e + 5 * g + 3 = 18 + 80 * e + 5 * g by omega]
theorem Shp.tg0 {M : mM} {e : Nat} (h : Shp M) (he : e < 2) : TGeo M (15 + 80 * e) := by
  have := h.1
  refine ⟨h.tTabE he, by omega, ?_, ?_, ?_⟩
  · rw [show 15 + 80 * e + 1 = 16 + 80 * e by omega]; exact ⟨h.rTabE0 he, h.TTEn he⟩
  · rw [show 15 + 80 * e + 2 = 17 + 80 * e by omega]; exact ⟨h.rTabE1 he, h.TTEv he⟩
  · rw [show 15 + 80 * e + 3 = 18 + 80 * e by omega]; exact ⟨h.rTabE2 he, h.TTEs he⟩
theorem Shp.tg1 {M : mM} {e : Nat} (h : Shp M) (he : e < 2) : TGeo M (20 + 80 * e) := by
  have := h.1
  refine ⟨h.tTabD he, by omega, ?_, ?_, ?_⟩
  · rw [show 20 + 80 * e + 1 = 21 + 80 * e by omega]; exact ⟨h.rTabD0 he, h.TTDn he⟩
  · rw [show 20 + 80 * e + 2 = 22 + 80 * e by omega]; exact ⟨h.rTabD1 he, h.TTDv he⟩
  · rw [show 20 + 80 * e + 3 = 23 + 80 * e by omega]; exact ⟨h.rTabD2 he, h.TTDs he⟩
theorem RC.tg0 {M : mM} {A : zA} {e : Nat} (h : RC M A) (he : e < 2) : TabG M (15 + 80 * e) (zB A e 0).1 (zB A e 0).2 := TabC.g.mp (h.tb he (g := 0) (by decide))
theorem RC.tg1 {M : mM} {A : zA} {e : Nat} (h : RC M A) (he : e < 2) : TabG M (20 + 80 * e) (zB A e 1).1 (zB A e 1).2 := by
  have := TabC.g.mp (h.tb he (g := 1) (by decide))
  rwa [show 15 + 80 * e + 5 * 1 = 20 + 80 * e by omega] at this
theorem szV_eq (v : Int32) : szV v = sizeZ v := by unfold szV sizeZ; simp only [Int32.not_le]
theorem sumT_app : ∀ (L : List (Int32 × Int32)) (x : Int32 × Int32), sumT (L ++ [x]) = sumT L + szV x.2
  | [], x => by show szV x.2 + 0 = 0 + szV x.2; rw [Int32.add_comm]
  | y :: L, x => by
    show szV y.2 + sumT (L ++ [x]) = szV y.2 + sumT L + szV x.2
    rw [sumT_app L x, Int32.add_assoc]
theorem sumT_last {L : List (Int32 × Int32)} {n : Nat} {x : Int32 × Int32} (hL : L.length = n + 1) (hx : L[n]? = some x) : sumT L - szV x.2 = sumT L.dropLast := by
  have h1 : L = L.dropLast ++ [x] := by
    have hne : L ≠ [] := fun q => by rw [q] at hL; cases hL
    have h2 : L.getLast hne = x := by
      rw [List.getLast_eq_getElem]
      have := List.getElem?_eq_some_iff.mp hx
      obtain ⟨h3, h4⟩ := this
      simp only [hL, Nat.add_sub_cancel]
      exact h4
    rw [← h2, List.dropLast_concat_getLast]
  have h3 : sumT L = sumT L.dropLast + szV x.2 := by
    have := sumT_app L.dropLast x
    rw [← h1] at this
    exact this
  rw [h3, Int32.add_sub_cancel]
/-- the last ones dropped while the sum is above m -/
def dropF (m : Int32) : Nat → List (Int32 × Int32) → List (Int32 × Int32)
  | 0, L => L
  | n + 1, L => if sumT L ≤ m then L else dropF m n L.dropLast
def dropT (m : Int32) (L : List (Int32 × Int32)) : List (Int32 × Int32) := dropF m L.length L
def addT (L : List (Int32 × Int32)) (mx n v : Int32) : List (Int32 × Int32) := if mx < sumT (dropT (mx - szV v) L) + szV v then dropT (mx - szV v) L else if (dropT (mx - szV v) L).length < 5 then (n, v) :: dropT (mx - szV v) L else dropT (mx - szV v) L
theorem dropF_len (m : Int32) : ∀ n (L : List (Int32 × Int32)), (dropF m n L).length ≤ L.length
  | 0, L => Nat.le_refl _
  | n + 1, L => by
    unfold dropF
    split
    · exact Nat.le_refl _
    · have := dropF_len m n L.dropLast
      rw [List.length_dropLast] at this
      omega
theorem dropT_len (m : Int32) (L : List (Int32 × Int32)) : (dropT m L).length ≤ L.length := dropF_len m _ L
theorem addT_len {L : List (Int32 × Int32)} {mx n v : Int32} (h : L.length ≤ 5) : (addT L mx n v).length ≤ 5 := by
  have := dropT_len (mx - szV v) L
  unfold addT
  split
  · omega
  · split
    · rw [List.length_cons]; omega
    · omega
/-- what an index means -/
def nmT (L : List (Int32 × Int32)) (i : Nat) : Int32 := if i ≤ 6 then fixN (i - 1) else ((L[i - 7]?).getD (0, 0)).1
def vlT (L : List (Int32 × Int32)) (i : Nat) : Int32 := if i ≤ 6 then fixV (i - 1) else ((L[i - 7]?).getD (0, 0)).2
def hiT (L : List (Int32 × Int32)) (x : Int32) : Int32 := if x < 1 then 0 else if 6 + nI L.length < x then 0 else 1
/-- the least index with the name (and the value) among n from i on, or 0 -/
def lnT (L : List (Int32 × Int32)) (a : Int32) : Nat → Nat → Nat
  | 0, _ => 0
  | n + 1, i => if nmT L i = a then i else lnT L a n (i + 1)
def leT (L : List (Int32 × Int32)) (a b : Int32) : Nat → Nat → Nat
  | 0, _ => 0
  | n + 1, i => if nmT L i = a then (if vlT L i = b then i else leT L a b n (i + 1)) else leT L a b n (i + 1)
theorem lnT_le (L : List (Int32 × Int32)) (a : Int32) : ∀ n i, lnT L a n i < i + n + 1
  | 0, i => Nat.succ_pos _
  | n + 1, i => by have := lnT_le L a n (i + 1); unfold lnT; split <;> omega
theorem leT_le (L : List (Int32 × Int32)) (a b : Int32) : ∀ n i, leT L a b n i < i + n + 1
  | 0, i => Nat.succ_pos _
  | n + 1, i => by have := leT_le L a b n (i + 1); unfold leT; split; split; omega; omega; omega
/-- the fixed fields -/
def FX (X : mX) : Prop := xL X 1 = 6 ∧ xI X 1 = fixN ∧ xL X 2 = 6 ∧ xI X 2 = fixV
set_option maxRecDepth 100000 in
set_option maxHeartbeats 4000000 in
theorem ct_T_size0 {X : mX} {l : Launch} {M : mM} {v : Int32} : Ct X l uTable_sizeOf (rk 0 0) [.int v] M (fun r M' => r = some (.int (sizeZ v)) ∧ M' = M) := by
  refine Ct.of (by decide) (Nat.le_of_ble_eq_true rfl) ?_
  show G X l uTable_sizeOf (rk 0 0) 0 0 M 0 [some (.int v)] [] _
  refine g_iload_n 0 dTable_sizeOf_0 rfl ?_
  refine g_if_lt 1 10 dTable_sizeOf_1 rfl (fun h1 => ?_) (fun h1 => ?_)
  · refine g_bipush 10 37 dTable_sizeOf_10 rfl ?_
    exact g_iret 12 dTable_sizeOf_12 rfl ⟨by first | (simp only [sizeZ, *, if_true, if_false, not_true_eq_false, not_false_eq_true, and_true, true_and, and_false, false_and, and_self, reduceIte]; done) | (simp_all [sizeZ]; done), rfl⟩
  · refine g_iload_n 4 dTable_sizeOf_4 rfl ?_
    refine g_ldc 5 16777215 dTable_sizeOf_5 lc_Table_57 ?_
    refine g_icmp_le 7 13 dTable_sizeOf_7 rfl (fun h7 => ?_) (fun h7 => ?_)
    · refine g_iload_n 13 dTable_sizeOf_13 rfl ?_
      refine g_ldc 14 65535 dTable_sizeOf_14 lc_Table_58 ?_
      refine g_icmp_le 16 22 dTable_sizeOf_16 rfl (fun h16 => ?_) (fun h16 => ?_)
      · refine g_iload_n 22 dTable_sizeOf_22 rfl ?_
        refine g_sipush 23 255 dTable_sizeOf_23 rfl ?_
        refine g_icmp_le 26 34 dTable_sizeOf_26 rfl (fun h26 => ?_) (fun h26 => ?_)
        · refine g_bipush 34 34 dTable_sizeOf_34 rfl ?_
          exact g_iret 36 dTable_sizeOf_36 rfl ⟨by first | (simp only [sizeZ, *, if_true, if_false, not_true_eq_false, not_false_eq_true, and_true, true_and, and_false, false_and, and_self, reduceIte]; done) | (simp_all [sizeZ]; done), rfl⟩
        · refine g_bipush 29 35 dTable_sizeOf_29 rfl ?_
          refine g_goto 31 36 dTable_sizeOf_31 rfl ?_
          exact g_iret 36 dTable_sizeOf_36 rfl ⟨by first | (simp only [sizeZ, *, if_true, if_false, not_true_eq_false, not_false_eq_true, and_true, true_and, and_false, false_and, and_self, reduceIte]; done) | (simp_all [sizeZ]; done), rfl⟩
      · refine g_bipush 19 36 dTable_sizeOf_19 rfl ?_
        exact g_iret 21 dTable_sizeOf_21 rfl ⟨by first | (simp only [sizeZ, *, if_true, if_false, not_true_eq_false, not_false_eq_true, and_true, true_and, and_false, false_and, and_self, reduceIte]; done) | (simp_all [sizeZ]; done), rfl⟩
    · refine g_bipush 10 37 dTable_sizeOf_10 rfl ?_
      exact g_iret 12 dTable_sizeOf_12 rfl ⟨by first | (simp only [sizeZ, *, if_true, if_false, not_true_eq_false, not_false_eq_true, and_true, true_and, and_false, false_and, and_self, reduceIte]; done) | (simp_all [sizeZ]; done), rfl⟩

theorem ct_T_size {X : mX} {l : Launch} {M : mM} {v : Int32} : Ct X l uTable_sizeOf (rk 0 0) [.int v] M (fun r M' => r = some (.int (szV v)) ∧ M' = M) := by rw [szV_eq]; exact ct_T_size0
set_option maxRecDepth 100000 in
set_option maxHeartbeats 4000000 in
theorem g_drop {X : mX} {l : Launch} {M : mM} {t : Nat} {most mx : Int32} {Q : Option Value → mM → Prop} : ∀ (n : Nat) (L : List (Int32 × Int32)), L.length = n → ∀ M1, TGeo M1 t → TabG M1 t L mx → Chg M M1 (fun a _ => a = t) no2 → (∀ M', TabG M' t (dropF most n L) mx → Chg M M' (fun a _ => a = t) no2 → Q none M') → G X l uTable_dropDownTo (rk 0 0) 0 0 M1 0 [some (.ref t), some (.int most)] [] Q
  | 0, L, hL, M1, hT, hB, hC, hq => by
    refine g_aload_n 0 dTable_dropDownTo_0 rfl ?_
    refine g_geti 1 5 3 dTable_dropDownTo_1 fs_Table_21 rfl hT.1 ?_
    refine g_top (nI (0)) (hB.1.trans (by rw [hL])) ?_
    refine g_if_leN 4 46 dTable_dropDownTo_4 rfl (by omega) (fun h4 => ?_) (fun h4 => ?_)
    · exact g_vret 46 dTable_dropDownTo_46 rfl (hq _ hB hC)
    · exact absurd (Nat.le_refl 0) h4
  | n + 1, L, hL, M1, hT, hB, hC, hq => by
    have hn5 := hB.2.1
    have hx : L[n]? = some L[n] := List.getElem?_eq_getElem (by omega)
    refine g_aload_n 0 dTable_dropDownTo_0 rfl ?_
    refine g_geti 1 5 3 dTable_dropDownTo_1 fs_Table_21 rfl hT.1 ?_
    refine g_top (nI ((n + 1))) (hB.1.trans (by rw [hL])) ?_
    refine g_if_leN 4 46 dTable_dropDownTo_4 rfl (by omega) (fun h4 => ?_) (fun h4 => ?_)
    · exact absurd h4 (by omega)
    · refine g_aload_n 7 dTable_dropDownTo_7 rfl ?_
      refine g_geti 8 5 4 dTable_dropDownTo_8 fs_Table_25 rfl hT.1 ?_
      refine g_top (sumT L) (hB.2.2.1) ?_
      refine g_iload_n 11 dTable_dropDownTo_11 rfl ?_
      refine g_icmp_le 12 46 dTable_dropDownTo_12 rfl (fun h12 => ?_) (fun h12 => ?_)
      · exact g_vret 46 dTable_dropDownTo_46 rfl (hq _ (by unfold dropF; rw [if_pos h12]; exact hB) hC)
      · refine g_aload_n 15 dTable_dropDownTo_15 rfl ?_
        refine g_dup 16 dTable_dropDownTo_16 rfl ?_
        refine g_geti 17 5 3 dTable_dropDownTo_17 fs_Table_21 rfl hT.1 ?_
        refine g_top (nI ((n + 1))) (hB.1.trans (by rw [hL])) ?_
        refine g_iconst 20 (nI 1) dTable_dropDownTo_20 rfl ?_
        refine g_isubN 21 dTable_dropDownTo_21 (by omega) ?_
        refine g_puti 22 5 3 dTable_dropDownTo_22 ps_Table_21 rfl hT.1 ?_
        refine g_aload_n 25 dTable_dropDownTo_25 rfl ?_
        refine g_dup 26 dTable_dropDownTo_26 rfl ?_
        refine g_geti 27 5 4 dTable_dropDownTo_27 fs_Table_25 rfl hT.1 ?_
        refine g_top (sumT L) ((up2_k (by decide)).trans hB.2.2.1) ?_
        refine g_aload_n 30 dTable_dropDownTo_30 rfl ?_
        refine g_getr 31 5 2 dTable_dropDownTo_31 fs_Table_18 rfl hT.1 hT.2.2.2.2.1 ?_
        refine g_aload_n 34 dTable_dropDownTo_34 rfl ?_
        refine g_geti 35 5 3 dTable_dropDownTo_35 fs_Table_21 rfl hT.1 ?_
        refine g_top (nI (n)) (up2_same) ?_
        refine g_ialdN 38 dTable_dropDownTo_38 hT.2.2.2.2.2 (by omega) (by decide) ?_
        refine g_top (szV L[n].2) ((up2_a (by omega)).trans (hB.2.2.2.2 n _ hx).2.2) ?_
        refine g_isub 39 dTable_dropDownTo_39 ?_
        refine g_puti 40 5 4 dTable_dropDownTo_40 ps_Table_25 rfl hT.1 ?_
        refine g_goto 43 0 dTable_dropDownTo_43 rfl ?_
        refine g_drop n L.dropLast (by rw [List.length_dropLast]; omega) _ hT ⟨?_, ?_, ?_, ?_, ?_⟩ ((hC.setI (Or.inl rfl)).setI (Or.inl rfl)) (fun M' h1 h2 => hq M' (by unfold dropF; rw [if_neg h12]; exact h1) h2)
        · rw [mI_setI, up2_k (by decide), mI_setI, up2_same, List.length_dropLast, hL]
        · rw [List.length_dropLast]; omega
        · rw [mI_setI, up2_same]; exact sumT_last hL hx
        · rw [mI_setI, up2_k (by decide), mI_setI, up2_k (by decide)]; exact hB.2.2.2.1
        · intro j x hj
          rw [mI_setI, mI_setI, up2_a (by omega), up2_a (by omega), up2_a (by omega), up2_a (by omega), up2_a (by omega), up2_a (by omega)]
          have h1 := (List.getElem?_eq_some_iff.mp hj).1
          rw [List.length_dropLast] at h1
          rw [List.getElem?_dropLast, if_pos (by omega)] at hj
          exact hB.2.2.2.2 j x hj
theorem ct_T_drop {X : mX} {l : Launch} {M : mM} {t : Nat} {L : List (Int32 × Int32)} {mx : Int32} (hT : TGeo M t) (hB : TabG M t L mx) {m : Int32} : Ct X l uTable_dropDownTo (rk 0 0) [.ref t, .int m] M (fun r M' => r = none ∧ TabG M' t (dropT m L) mx ∧ Chg M M' (fun a _ => t ≤ a ∧ a ≤ t + 3) no2) := by
  refine Ct.of (by decide) (Nat.le_of_ble_eq_true rfl) ?_
  exact g_drop L.length L rfl M hT hB Chg.rf fun M' h1 h2 => ⟨rfl, h1, h2.mono (fun a j q => by omega) fun _ _ q => q⟩
set_option maxRecDepth 100000 in
set_option maxHeartbeats 4000000 in
theorem ct_T_max {X : mX} {l : Launch} {M : mM} {t : Nat} {L : List (Int32 × Int32)} {mx : Int32} (hT : TGeo M t) (hB : TabG M t L mx) {m : Int32} : Ct X l uTable_setMaximum (rk 1 21) [.ref t, .int m] M (fun r M' => r = none ∧ TabG M' t (dropT m L) m ∧ Chg M M' (fun a _ => t ≤ a ∧ a ≤ t + 3) no2) := by
  refine Ct.of (by decide) (Nat.le_of_ble_eq_true rfl) ?_
  show G X l uTable_setMaximum (rk 1 21) 0 0 M 0 [some (.ref t), some (.int m)] [] _
  refine g_aload_n 0 dTable_setMaximum_0 rfl ?_
  refine g_iload_n 1 dTable_setMaximum_1 rfl ?_
  refine g_puti 2 5 5 dTable_setMaximum_2 ps_Table_30 rfl hT.1 ?_
  have hT2 : TGeo (setI M t 5 m) t := hT
  have hB2 : TabG (setI M t 5 m) t L m := ⟨(up2_k (by decide)).trans hB.1, hB.2.1, (up2_k (by decide)).trans hB.2.2.1, up2_same, fun j x hj => by rw [mI_setI, up2_a (by omega), up2_a (by omega), up2_a (by omega)]; exact hB.2.2.2.2 j x hj⟩
  refine g_aload_n 5 dTable_setMaximum_5 rfl ?_
  refine g_iload_n 6 dTable_setMaximum_6 rfl ?_
  refine g_callV 7 [_] dTable_setMaximum_7 cs_Table_50 rfl (ci := 5) rfl (by decide) hT.1 rfl ⟨(Nat.le_of_ble_eq_true rfl), (Nat.le_of_ble_eq_true rfl)⟩ (Nat.le_of_ble_eq_true rfl) (ct_T_drop hT2 hB2) (Nat.le_of_ble_eq_true rfl) (Nat.le_of_ble_eq_true rfl) ?_
  rintro _ M2 ⟨rfl, hB3, hc⟩
  exact g_vret 10 dTable_setMaximum_10 rfl ⟨rfl, hB3, (Chg.rf.setI (Or.inl ⟨Nat.le_refl _, by omega⟩)).tr hc⟩

def shI (M M1 : mM) (t c k : Nat) : Prop := Chg M M1 (fun a _ => t + 1 ≤ a ∧ a ≤ t + 3) no2 ∧ ∀ a, t + 1 ≤ a → a ≤ t + 3 → ∀ j, j ≤ c → mI M1 a j = if k < j then mI M a (j - 1) else mI M a j
theorem shI_st {M M1 : mM} {t c k : Nat} (hN : t + 3 < mN M) (hk : k + 1 ≤ c) (h : shI M M1 t c (k + 1)) : shI M (setI (setI (setI M1 (t + 1) (k + 1) (mI M1 (t + 1) k)) (t + 2) (k + 1) (mI M1 (t + 2) k)) (t + 3) (k + 1) (mI M1 (t + 3) k)) t c k := by
  refine ⟨((h.1.setI (Or.inl ⟨by omega, by omega⟩)).setI (Or.inl ⟨by omega, by omega⟩)).setI (Or.inl ⟨by omega, by omega⟩), fun a h1 h2 j hj => ?_⟩
  have hb := h.2 a h1 h2 j hj
  have hp := h.2 a h1 h2 k (by omega)
  rw [if_neg (by omega)] at hp
  simp only [mI_setI, up2]
  by_cases q : j = k + 1
  · subst q
    rw [show (if k < k + 1 then mI M a (k + 1 - 1) else mI M a (k + 1)) = mI M a k from if_pos (Nat.lt_succ_self k)]
    rcases (by omega : a = t + 1 ∨ a = t + 2 ∨ a = t + 3) with rfl | rfl | rfl <;> simp [hp]
  · simp only [q, and_false, if_false]
    rw [hb]
    by_cases q2 : k < j
    · rw [if_pos q2, if_pos (by omega)]
    · rw [if_neg q2, if_neg (by omega)]
section INM
variable {X : mX} {l : Launch} {u : mU} {rm : Room} {bc bs : Nat} {M : mM} {ls : List (Option Value)} {st : List Value} {Q : Option Value → mM → Prop}
theorem nI_m1 (x : Nat) : nI (x + 1) + (-1) = nI x := by
  have h : nI (x + 1) = nI x + 1 := (Int32.ofNat_add x 1)
  rw [h, Int32.add_assoc, show (1 : Int32) + (-1) = 0 from by decide, Int32.add_zero]
theorem g_iincM (pc : Nat) {i x : Nat} (hd : decode u.2.1 pc = .ok (.iinc i (-1), 3)) (hx : ls[i]? = some (some (.int (nI (x + 1))))) (hi : i < u.2.2.1) (hk : lOK ls i = true) (k : G X l u rm bc bs M (pc + 3) (ls.set i (some (.int (nI x)))) st Q) : G X l u rm bc bs M pc ls st Q := g_iinc pc (-1) hd hx rfl hi hk (by rw [nI_m1]; exact k)
end INM
set_option maxRecDepth 100000 in
set_option maxHeartbeats 4000000 in
theorem g_shift {X : mX} {l : Launch} {M : mM} {t c : Nat} {a1 a2 a3 : Int32} {Q : Option Value → mM → Prop} (hTM : TGeo M t) (hc : c < 5) (hq : ∀ M', shI M M' t c 0 → TGeo M' t → G X l uTable_add (rk 1 21) 0 0 M' 102 [some (.ref t), some (.int a1), some (.int a2), some (.int a3), some (.int (nI 0))] [] Q) : ∀ (k : Nat), k ≤ c → ∀ M1, shI M M1 t c k → TGeo M1 t → G X l uTable_add (rk 1 21) 0 0 M1 43 [some (.ref t), some (.int a1), some (.int a2), some (.int a3), some (.int (nI k))] [] Q
  | 0, hk, M1, hI, hT => by
    refine g_iload 43 dTable_add_43 rfl ?_
    refine g_if_leN 45 102 dTable_add_45 rfl (by omega) (fun h45 => ?_) (fun h45 => ?_)
    · exact hq M1 hI hT
    · exact absurd (Nat.le_refl 0) h45
  | k + 1, hk, M1, hI, hT => by
    refine g_iload 43 dTable_add_43 rfl ?_
    refine g_if_leN 45 102 dTable_add_45 rfl (by omega) (fun h45 => ?_) (fun h45 => ?_)
    · exact absurd h45 (by omega)
    · refine g_aload_n 48 dTable_add_48 rfl ?_
      refine g_getr 49 5 0 dTable_add_49 fs_Table_9 rfl hT.1 hT.2.2.1.1 ?_
      refine g_iload 52 dTable_add_52 rfl ?_
      refine g_aload_n 54 dTable_add_54 rfl ?_
      refine g_getr 55 5 0 dTable_add_55 fs_Table_9 rfl hT.1 hT.2.2.1.1 ?_
      refine g_iload 58 dTable_add_58 rfl ?_
      refine g_iconst 60 (nI 1) dTable_add_60 rfl ?_
      refine g_isubN 61 dTable_add_61 (by omega) ?_
      refine g_top (nI (k)) (rfl) ?_
      refine g_ialdN 62 dTable_add_62 hT.2.2.1.2 (by omega) (by decide) ?_
      refine g_iastN 63 dTable_add_63 hT.2.2.1.2 (by omega) (by decide) ?_
      refine g_aload_n 64 dTable_add_64 rfl ?_
      refine g_getr 65 5 1 dTable_add_65 fs_Table_15 rfl hT.1 hT.2.2.2.1.1 ?_
      refine g_iload 68 dTable_add_68 rfl ?_
      refine g_aload_n 70 dTable_add_70 rfl ?_
      refine g_getr 71 5 1 dTable_add_71 fs_Table_15 rfl hT.1 hT.2.2.2.1.1 ?_
      refine g_iload 74 dTable_add_74 rfl ?_
      refine g_iconst 76 (nI 1) dTable_add_76 rfl ?_
      refine g_isubN 77 dTable_add_77 (by omega) ?_
      refine g_top (nI (k)) (rfl) ?_
      refine g_ialdN 78 dTable_add_78 hT.2.2.2.1.2 (by omega) (by decide) ?_
      refine g_top (mI M1 (t + 2) k) (up2_a (by omega)) ?_
      refine g_iastN 79 dTable_add_79 hT.2.2.2.1.2 (by omega) (by decide) ?_
      refine g_aload_n 80 dTable_add_80 rfl ?_
      refine g_getr 81 5 2 dTable_add_81 fs_Table_18 rfl hT.1 hT.2.2.2.2.1 ?_
      refine g_iload 84 dTable_add_84 rfl ?_
      refine g_aload_n 86 dTable_add_86 rfl ?_
      refine g_getr 87 5 2 dTable_add_87 fs_Table_18 rfl hT.1 hT.2.2.2.2.1 ?_
      refine g_iload 90 dTable_add_90 rfl ?_
      refine g_iconst 92 (nI 1) dTable_add_92 rfl ?_
      refine g_isubN 93 dTable_add_93 (by omega) ?_
      refine g_top (nI (k)) (rfl) ?_
      refine g_ialdN 94 dTable_add_94 hT.2.2.2.2.2 (by omega) (by decide) ?_
      refine g_top (mI M1 (t + 3) k) ((up2_a (by omega)).trans (up2_a (by omega))) ?_
      refine g_iastN 95 dTable_add_95 hT.2.2.2.2.2 (by omega) (by decide) ?_
      refine g_iincM 96 dTable_add_96 rfl (by decide) rfl ?_
      refine g_goto 99 43 dTable_add_99 rfl ?_
      exact g_shift hTM hc hq k (by omega) _ (shI_st hTM.2.1 hk hI) hT
theorem addEnd_T {M M2 : mM} {t : Nat} {L : List (Int32 × Int32)} {mx a1 a2 : Int32} (hB : TabG M t L mx) (hI : shI M M2 t L.length 0) (hN : t + 3 < mN M) (h5 : L.length < 5) (hm5 : mI M2 t 5 = mx) : TabG (setI (setI (setI (setI (setI M2 (t + 1) 0 a1) (t + 2) 0 a2) (t + 3) 0 (szV a2)) t 3 (nI (L.length + 1))) t 4 (sumT L + szV a2)) t ((a1, a2) :: L) mx := by
  refine ⟨?_, by rw [List.length_cons]; omega, ?_, ?_, fun j x hj => ?_⟩
  · rw [mI_setI, up2_k (by decide), mI_setI, up2_same, List.length_cons]
  · rw [mI_setI, up2_same]
    show sumT L + szV a2 = szV a2 + sumT L
    exact Int32.add_comm _ _
  · rw [mI_setI, up2_k (by decide), mI_setI, up2_k (by decide), mI_setI, up2_a (by omega), mI_setI, up2_a (by omega), mI_setI, up2_a (by omega)]
    exact hm5
  · rcases j with _ | j
    · have hx : (a1, a2) = x := by simpa using hj
      subst hx
      refine ⟨?_, ?_, ?_⟩ <;> simp [mI_setI, up2]
    · rw [List.getElem?_cons_succ] at hj
      have hlt := (List.getElem?_eq_some_iff.mp hj).1
      obtain ⟨g1, g2, g3⟩ := hB.2.2.2.2 j x hj
      have e1 := hI.2 (t + 1) (by omega) (by omega) (j + 1) (by omega)
      have e2 := hI.2 (t + 2) (by omega) (by omega) (j + 1) (by omega)
      have e3 := hI.2 (t + 3) (by omega) (by omega) (j + 1) (by omega)
      rw [if_pos (by omega), Nat.add_sub_cancel] at e1 e2 e3
      refine ⟨?_, ?_, ?_⟩ <;> simp [mI_setI, up2, e1, e2, e3, g1, g2, g3]
set_option maxRecDepth 100000 in
set_option maxHeartbeats 4000000 in
theorem g_addEnd {X : mX} {l : Launch} {M M2 : mM} {t : Nat} {L : List (Int32 × Int32)} {mx a1 a2 : Int32} {Q : Option Value → mM → Prop} (hTM : TGeo M t) (hB : TabG M t L mx) (hI : shI M M2 t L.length 0) (hT : TGeo M2 t) (h5 : L.length < 5) (hq : ∀ M', TabG M' t ((a1, a2) :: L) mx → Chg M M' (fun a _ => t ≤ a ∧ a ≤ t + 3) no2 → Q none M') : G X l uTable_add (rk 1 21) 0 0 M2 102 [some (.ref t), some (.int a1), some (.int a2), some (.int (szV a2)), some (.int (nI 0))] [] Q := by
  have hN := hTM.2.1
  have hc3 : mI M2 t 3 = nI L.length := (hI.1.2.2.1 t 3 (by omega) (by omega)).trans hB.1
  have hs4 : mI M2 t 4 = sumT L := (hI.1.2.2.1 t 4 (by omega) (by omega)).trans hB.2.2.1
  have hm5 : mI M2 t 5 = mx := (hI.1.2.2.1 t 5 (by omega) (by omega)).trans hB.2.2.2.1
  refine g_aload_n 102 dTable_add_102 rfl ?_
  refine g_getr 103 5 0 dTable_add_103 fs_Table_9 rfl hT.1 hT.2.2.1.1 ?_
  refine g_iconst 106 (nI 0) dTable_add_106 rfl ?_
  refine g_iload_n 107 dTable_add_107 rfl ?_
  refine g_iastN 108 dTable_add_108 hT.2.2.1.2 (by omega) (by decide) ?_
  refine g_aload_n 109 dTable_add_109 rfl ?_
  refine g_getr 110 5 1 dTable_add_110 fs_Table_15 rfl hT.1 hT.2.2.2.1.1 ?_
  refine g_iconst 113 (nI 0) dTable_add_113 rfl ?_
  refine g_iload_n 114 dTable_add_114 rfl ?_
  refine g_iastN 115 dTable_add_115 hT.2.2.2.1.2 (by omega) (by decide) ?_
  refine g_aload_n 116 dTable_add_116 rfl ?_
  refine g_getr 117 5 2 dTable_add_117 fs_Table_18 rfl hT.1 hT.2.2.2.2.1 ?_
  refine g_iconst 120 (nI 0) dTable_add_120 rfl ?_
  refine g_iload_n 121 dTable_add_121 rfl ?_
  refine g_iastN 122 dTable_add_122 hT.2.2.2.2.2 (by omega) (by decide) ?_
  refine g_aload_n 123 dTable_add_123 rfl ?_
  refine g_dup 124 dTable_add_124 rfl ?_
  refine g_geti 125 5 3 dTable_add_125 fs_Table_21 rfl hT.1 ?_
  refine g_top (nI (L.length)) ((up2_a (by omega)).trans ((up2_a (by omega)).trans ((up2_a (by omega)).trans hc3))) ?_
  refine g_iconst 128 (nI 1) dTable_add_128 rfl ?_
  refine g_iaddN 129 dTable_add_129 ?_
  refine g_puti 130 5 3 dTable_add_130 ps_Table_21 rfl hT.1 ?_
  refine g_aload_n 133 dTable_add_133 rfl ?_
  refine g_dup 134 dTable_add_134 rfl ?_
  refine g_geti 135 5 4 dTable_add_135 fs_Table_25 rfl hT.1 ?_
  refine g_top (sumT L) ((up2_k (by decide)).trans ((up2_a (by omega)).trans ((up2_a (by omega)).trans ((up2_a (by omega)).trans hs4)))) ?_
  refine g_iload_n 138 dTable_add_138 rfl ?_
  refine g_iadd 139 dTable_add_139 ?_
  refine g_puti 140 5 4 dTable_add_140 ps_Table_25 rfl hT.1 ?_
  exact g_vret 143 dTable_add_143 rfl (hq _ (addEnd_T hB hI hN h5 hm5) ((((((hI.1.mono (fun a j q => by omega) fun _ _ q => q).setI (Or.inl (by omega))).setI (Or.inl (by omega))).setI (Or.inl (by omega))).setI (Or.inl (by omega))).setI (Or.inl (by omega))))
set_option maxRecDepth 100000 in
set_option maxHeartbeats 4000000 in
theorem ct_T_add {X : mX} {l : Launch} {M : mM} {t : Nat} {L : List (Int32 × Int32)} {mx : Int32} (hT : TGeo M t) (hB : TabG M t L mx) {a v : Int32} : Ct X l uTable_add (rk 1 21) [.ref t, .int a, .int v] M (fun r M' => r = none ∧ TabG M' t (addT L mx a v) mx ∧ Chg M M' (fun a _ => t ≤ a ∧ a ≤ t + 3) no2) := by
  refine Ct.of (by decide) (Nat.le_of_ble_eq_true rfl) ?_
  show G X l uTable_add (rk 1 21) 0 0 M 0 [some (.ref t), some (.int a), some (.int v), none, none] [] _
  have hnl := dropT_len (mx - szV v) L
  have hn5 := hB.2.1
  refine g_iload_n 0 dTable_add_0 rfl ?_
  refine g_callS 1 [_] dTable_add_1 cs_Table_54 rfl rfl ⟨(Nat.le_of_ble_eq_true rfl), (Nat.le_of_ble_eq_true rfl)⟩ (Nat.le_of_ble_eq_true rfl) (ct_T_size) (Nat.le_of_ble_eq_true rfl) (Nat.le_of_ble_eq_true rfl) ?_
  rintro _ M2 ⟨rfl, hM2⟩
  rw [hM2]
  clear hM2 M2
  refine g_istore_n 4 dTable_add_4 (by decide) rfl ?_
  refine g_aload_n 5 dTable_add_5 rfl ?_
  refine g_aload_n 6 dTable_add_6 rfl ?_
  refine g_geti 7 5 5 dTable_add_7 fs_Table_30 rfl hT.1 ?_
  refine g_top (mx) (hB.2.2.2.1) ?_
  refine g_iload_n 10 dTable_add_10 rfl ?_
  refine g_isub 11 dTable_add_11 ?_
  refine g_callV 12 [_] dTable_add_12 cs_Table_50 rfl (ci := 5) rfl (by decide) hT.1 rfl ⟨(Nat.le_of_ble_eq_true rfl), (Nat.le_of_ble_eq_true rfl)⟩ (Nat.le_of_ble_eq_true rfl) (ct_T_drop hT hB) (Nat.le_of_ble_eq_true rfl) (Nat.le_of_ble_eq_true rfl) ?_
  rintro _ M1 ⟨rfl, hB1, hc1⟩
  have hTM := hT
  clear hT
  have hT := hTM.mv hc1 (fun _ q => q.elim)
  refine g_aload_n 15 dTable_add_15 rfl ?_
  refine g_geti 16 5 4 dTable_add_16 fs_Table_25 rfl hT.1 ?_
  refine g_top (sumT (dropT (mx - szV v) L)) (hB1.2.2.1) ?_
  refine g_iload_n 19 dTable_add_19 rfl ?_
  refine g_iadd 20 dTable_add_20 ?_
  refine g_aload_n 21 dTable_add_21 rfl ?_
  refine g_geti 22 5 5 dTable_add_22 fs_Table_30 rfl hT.1 ?_
  refine g_top (mx) (hB1.2.2.2.1) ?_
  refine g_icmp_gt 25 36 dTable_add_25 rfl (fun h25 => ?_) (fun h25 => ?_)
  · have hrr : addT L mx a v = (dropT (mx - szV v) L) := by unfold addT; rw [if_pos h25]
    exact g_vret 36 dTable_add_36 rfl ⟨rfl, by rw [hrr]; exact hB1, hc1⟩
  · refine g_aload_n 28 dTable_add_28 rfl ?_
    refine g_geti 29 5 3 dTable_add_29 fs_Table_21 rfl hT.1 ?_
    refine g_top (nI ((dropT (mx - szV v) L).length)) (hB1.1) ?_
    refine g_iconst 32 (nI 5) dTable_add_32 rfl ?_
    refine g_icmp_ltN 33 37 dTable_add_33 rfl (by omega) (by omega) (fun h33 => ?_) (fun h33 => ?_)
    · refine g_aload_n 37 dTable_add_37 rfl ?_
      refine g_geti 38 5 3 dTable_add_38 fs_Table_21 rfl hT.1 ?_
      refine g_top (nI ((dropT (mx - szV v) L).length)) (hB1.1) ?_
      refine g_istore 41 dTable_add_41 (by decide) rfl ?_
      refine g_shift (c := (dropT (mx - szV v) L).length) hT h33 (fun M2 hI2 hT2 => ?_) _ (Nat.le_refl _) M1 ⟨Chg.rf, fun a _ _ j hj => by rw [if_neg (by omega)]⟩ hT
      refine g_addEnd hT hB1 hI2 hT2 h33 (fun M3 h1 h2 => ⟨rfl, by unfold addT; rw [if_neg h25, if_pos h33]; exact h1, hc1.tr h2⟩)
    · have hrr : addT L mx a v = (dropT (mx - szV v) L) := by unfold addT; rw [if_neg h25, if_neg h33]
      exact g_vret 36 dTable_add_36 rfl ⟨rfl, by rw [hrr]; exact hB1, hc1⟩

theorem TabG.nm {M : mM} {t i : Nat} {L : List (Int32 × Int32)} {mx : Int32} (h : TabG M t L mx) (h1 : 6 < i) (h2 : i ≤ 6 + L.length) : mI M (t + 1) (i - 6 - 1) = nmT L i ∧ mI M (t + 2) (i - 6 - 1) = vlT L i := by
  have hj : L[i - 7]? = some L[i - 7] := List.getElem?_eq_getElem (by omega)
  have := h.2.2.2.2 (i - 7) _ hj
  unfold nmT vlT
  rw [if_neg (by omega), if_neg (by omega), hj, show i - 6 - 1 = i - 7 by omega]
  exact ⟨this.1, this.2.1⟩
theorem hiT_in {L : List (Int32 × Int32)} {i : Nat} (h1 : 1 ≤ i) (h2 : i ≤ 6 + L.length) (h5 : L.length ≤ 5) : hiT L (nI i) = 1 := by
  unfold hiT
  have n1 : ¬ nI i < 1 := fun q => by
    have := (nI_ltI (a := i) (b := 1) (by omega) (by decide)).mp q
    omega
  have n2 : ¬ 6 + nI L.length < nI i := fun q => by
    have q2 : nI (6 + L.length) < nI i := by
      rw [← nI_add]
      exact q
    have := (nI_ltI (by omega) (by omega)).mp q2
    omega
  rw [if_neg n1, if_neg n2]
theorem hiT_of {L : List (Int32 × Int32)} {x : Int32} (h : ¬ hiT L x = 0) (h5 : L.length ≤ 5) : ∃ i : Nat, 1 ≤ i ∧ i ≤ 6 + L.length ∧ x = nI i := by
  unfold hiT at h
  have h1 : ¬ x < 1 := fun q => h (if_pos q)
  rw [if_neg h1] at h
  have h2 : ¬ 6 + nI L.length < x := fun q => h (if_pos q)
  have h3 : ¬ x < 0 := fun q => h1 (by rw [Int32.lt_iff_toInt_lt] at q ⊢; have : (1 : Int32).toInt = 1 := rfl; have : (0 : Int32).toInt = 0 := rfl; omega)
  have e := nI_cl h3
  refine ⟨x.toNatClampNeg, ?_, ?_, e.symm⟩
  · apply Nat.pos_of_ne_zero
    intro q
    rw [q] at e
    exact h1 (by rw [← e]; decide)
  · apply Nat.le_of_not_lt
    intro q
    apply h2
    rw [← e]
    have hx := x.toNatClampNeg_lt
    exact (nI_add 6 L.length) ▸ (nI_ltI (by omega) (by omega)).mpr q
set_option maxRecDepth 100000 in
set_option maxHeartbeats 4000000 in
theorem ct_T_hi {X : mX} {l : Launch} {M : mM} {t : Nat} {L : List (Int32 × Int32)} {mx : Int32} (hT : TGeo M t) (hB : TabG M t L mx) {x : Int32} : Ct X l uTable_hasIndex (rk 0 0) [.ref t, .int x] M (fun r M' => r = some (.int (hiT L x)) ∧ M' = M) := by
  refine Ct.of (by decide) (Nat.le_of_ble_eq_true rfl) ?_
  show G X l uTable_hasIndex (rk 0 0) 0 0 M 0 [some (.ref t), some (.int x)] [] _
  refine g_iload_n 0 dTable_hasIndex_0 rfl ?_
  refine g_iconst 1 1 dTable_hasIndex_1 rfl ?_
  refine g_icmp_lt 2 20 dTable_hasIndex_2 rfl (fun h2 => ?_) (fun h2 => ?_)
  · refine g_iconst 20 0 dTable_hasIndex_20 rfl ?_
    exact g_zret 21 dTable_hasIndex_21 rfl (by decide) ⟨by first | (simp only [hiT, *, if_true, if_false, not_true_eq_false, not_false_eq_true, and_true, true_and, and_false, false_and, and_self, reduceIte]; done) | (simp_all [hiT]; done), rfl⟩
  · refine g_iload_n 5 dTable_hasIndex_5 rfl ?_
    refine g_bipush 6 6 dTable_hasIndex_6 rfl ?_
    refine g_aload_n 8 dTable_hasIndex_8 rfl ?_
    refine g_geti 9 5 3 dTable_hasIndex_9 fs_Table_21 rfl hT.1 ?_
    refine g_top (nI L.length) (hB.1) ?_
    refine g_iadd 12 dTable_hasIndex_12 ?_
    refine g_icmp_gt 13 20 dTable_hasIndex_13 rfl (fun h13 => ?_) (fun h13 => ?_)
    · refine g_iconst 20 0 dTable_hasIndex_20 rfl ?_
      exact g_zret 21 dTable_hasIndex_21 rfl (by decide) ⟨by first | (simp only [hiT, *, if_true, if_false, not_true_eq_false, not_false_eq_true, and_true, true_and, and_false, false_and, and_self, reduceIte]; done) | (simp_all [hiT]; done), rfl⟩
    · refine g_iconst 16 1 dTable_hasIndex_16 rfl ?_
      refine g_goto 17 21 dTable_hasIndex_17 rfl ?_
      exact g_zret 21 dTable_hasIndex_21 rfl (by decide) ⟨by first | (simp only [hiT, *, if_true, if_false, not_true_eq_false, not_false_eq_true, and_true, true_and, and_false, false_and, and_self, reduceIte]; done) | (simp_all [hiT]; done), rfl⟩

theorem ct_T_hi1 {X : mX} {l : Launch} {M : mM} {t : Nat} {L : List (Int32 × Int32)} {mx : Int32} (hT : TGeo M t) (hB : TabG M t L mx) {i : Nat} (h1 : 1 ≤ i) (h2 : i ≤ 6 + L.length) : Ct X l uTable_hasIndex (rk 0 0) [.ref t, .int (nI i)] M (fun r M' => r = some (.int 1) ∧ M' = M) := by rw [← hiT_in h1 h2 hB.2.1]; exact ct_T_hi hT hB
set_option maxRecDepth 100000 in
set_option maxHeartbeats 4000000 in
theorem ct_T_nm {X : mX} {l : Launch} {M : mM} {t : Nat} {L : List (Int32 × Int32)} {mx : Int32} (hT : TGeo M t) (hB : TabG M t L mx) {i : Nat} (hX : FX X) (h1 : 1 ≤ i) (h2 : i ≤ 6 + L.length) : Ct X l uTable_nameOf (rk 1 21) [.ref t, .int (nI i)] M (fun r M' => r = some (.int (nmT L i)) ∧ M' = M) := by
  refine Ct.of (by decide) (Nat.le_of_ble_eq_true rfl) ?_
  show G X l uTable_nameOf (rk 1 21) 0 0 M 0 [some (.ref t), some (.int (nI i))] [] _
  have hn5 := hB.2.1
  refine g_aload_n 0 dTable_nameOf_0 rfl ?_
  refine g_iload_n 1 dTable_nameOf_1 rfl ?_
  refine g_callV 2 [_] dTable_nameOf_2 cs_Table_33 rfl (ci := 5) rfl (by decide) hT.1 rfl ⟨(Nat.le_of_ble_eq_true rfl), (Nat.le_of_ble_eq_true rfl)⟩ (Nat.le_of_ble_eq_true rfl) (ct_T_hi1 hT hB h1 h2) (Nat.le_of_ble_eq_true rfl) (Nat.le_of_ble_eq_true rfl) ?_
  rintro _ M2 ⟨rfl, hM2⟩
  rw [hM2]
  clear hM2 M2
  refine g_if_ne 5 10 dTable_nameOf_5 rfl (fun h5 => ?_) (fun h5 => ?_)
  · refine g_iload_n 10 dTable_nameOf_10 rfl ?_
    refine g_bipush 11 (nI 6) dTable_nameOf_11 rfl ?_
    refine g_icmp_gtN 13 26 dTable_nameOf_13 rfl (by omega) (by omega) (fun h13 => ?_) (fun h13 => ?_)
    · refine g_aload_n 26 dTable_nameOf_26 rfl ?_
      refine g_getr 27 5 0 dTable_nameOf_27 fs_Table_9 rfl hT.1 hT.2.2.1.1 ?_
      refine g_iload_n 30 dTable_nameOf_30 rfl ?_
      refine g_bipush 31 (nI 6) dTable_nameOf_31 rfl ?_
      refine g_isubN 33 dTable_nameOf_33 (by omega) ?_
      refine g_iconst 34 (nI 1) dTable_nameOf_34 rfl ?_
      refine g_isubN 35 dTable_nameOf_35 (by omega) ?_
      refine g_ialdN 36 dTable_nameOf_36 hT.2.2.1.2 (by omega) (by decide) ?_
      refine g_top (nmT L i) ((hB.nm (by omega) h2).1) ?_
      exact g_iret 37 dTable_nameOf_37 rfl ⟨rfl, rfl⟩
    · refine g_fix1 16 dTable_nameOf_16 (Or.inr ⟨"InterleavedLink", (gN_in 489 (by decide +kernel) rfl)⟩) ?_
      refine g_iload_n 19 dTable_nameOf_19 rfl ?_
      refine g_iconst 20 (nI 1) dTable_nameOf_20 rfl ?_
      refine g_isubN 21 dTable_nameOf_21 (by omega) ?_
      refine g_oaldN 22 (by decide) dTable_nameOf_22 (by rw [hX.1]; omega) (by rw [hX.1]; decide) ?_
      refine g_top (nmT L i) (by rw [hX.2.1]; unfold nmT; rw [if_pos (by omega)]) ?_
      refine g_goto 23 37 dTable_nameOf_23 rfl ?_
      exact g_iret 37 dTable_nameOf_37 rfl ⟨rfl, rfl⟩
  · exact absurd h5 (by decide)

set_option maxRecDepth 100000 in
set_option maxHeartbeats 4000000 in
theorem ct_T_vl {X : mX} {l : Launch} {M : mM} {t : Nat} {L : List (Int32 × Int32)} {mx : Int32} (hT : TGeo M t) (hB : TabG M t L mx) {i : Nat} (hX : FX X) (h1 : 1 ≤ i) (h2 : i ≤ 6 + L.length) : Ct X l uTable_valueOf (rk 1 21) [.ref t, .int (nI i)] M (fun r M' => r = some (.int (vlT L i)) ∧ M' = M) := by
  refine Ct.of (by decide) (Nat.le_of_ble_eq_true rfl) ?_
  show G X l uTable_valueOf (rk 1 21) 0 0 M 0 [some (.ref t), some (.int (nI i))] [] _
  have hn5 := hB.2.1
  refine g_aload_n 0 dTable_valueOf_0 rfl ?_
  refine g_iload_n 1 dTable_valueOf_1 rfl ?_
  refine g_callV 2 [_] dTable_valueOf_2 cs_Table_33 rfl (ci := 5) rfl (by decide) hT.1 rfl ⟨(Nat.le_of_ble_eq_true rfl), (Nat.le_of_ble_eq_true rfl)⟩ (Nat.le_of_ble_eq_true rfl) (ct_T_hi1 hT hB h1 h2) (Nat.le_of_ble_eq_true rfl) (Nat.le_of_ble_eq_true rfl) ?_
  rintro _ M2 ⟨rfl, hM2⟩
  rw [hM2]
  clear hM2 M2
  refine g_if_ne 5 10 dTable_valueOf_5 rfl (fun h5 => ?_) (fun h5 => ?_)
  · refine g_iload_n 10 dTable_valueOf_10 rfl ?_
    refine g_bipush 11 (nI 6) dTable_valueOf_11 rfl ?_
    refine g_icmp_gtN 13 26 dTable_valueOf_13 rfl (by omega) (by omega) (fun h13 => ?_) (fun h13 => ?_)
    · refine g_aload_n 26 dTable_valueOf_26 rfl ?_
      refine g_getr 27 5 1 dTable_valueOf_27 fs_Table_15 rfl hT.1 hT.2.2.2.1.1 ?_
      refine g_iload_n 30 dTable_valueOf_30 rfl ?_
      refine g_bipush 31 (nI 6) dTable_valueOf_31 rfl ?_
      refine g_isubN 33 dTable_valueOf_33 (by omega) ?_
      refine g_iconst 34 (nI 1) dTable_valueOf_34 rfl ?_
      refine g_isubN 35 dTable_valueOf_35 (by omega) ?_
      refine g_ialdN 36 dTable_valueOf_36 hT.2.2.2.1.2 (by omega) (by decide) ?_
      refine g_top (vlT L i) ((hB.nm (by omega) h2).2) ?_
      exact g_iret 37 dTable_valueOf_37 rfl ⟨rfl, rfl⟩
    · refine g_fix2 16 dTable_valueOf_16 (Or.inr ⟨"InterleavedLink", (gN_in 499 (by decide +kernel) rfl)⟩) ?_
      refine g_iload_n 19 dTable_valueOf_19 rfl ?_
      refine g_iconst 20 (nI 1) dTable_valueOf_20 rfl ?_
      refine g_isubN 21 dTable_valueOf_21 (by omega) ?_
      refine g_oaldN 22 (by decide) dTable_valueOf_22 (by rw [hX.2.2.1]; omega) (by rw [hX.2.2.1]; decide) ?_
      refine g_top (vlT L i) (by rw [hX.2.2.2]; unfold vlT; rw [if_pos (by omega)]) ?_
      refine g_goto 23 37 dTable_valueOf_23 rfl ?_
      exact g_iret 37 dTable_valueOf_37 rfl ⟨rfl, rfl⟩
  · exact absurd h5 (by decide)

set_option maxRecDepth 100000 in
set_option maxHeartbeats 4000000 in
theorem g_ln {X : mX} {l : Launch} {M : mM} {t : Nat} {L : List (Int32 × Int32)} {mx a : Int32} {Q : Option Value → mM → Prop} (hX : FX X) (hT : TGeo M t) (hB : TabG M t L mx) : ∀ (n i : Nat), 1 ≤ i → i + n = 7 + L.length → Q (some (.int (nI (lnT L a n i)))) M → G X l uTable_leastNamed (rk 2 42) 0 0 M 2 [some (.ref t), some (.int a), some (.int (nI i))] [] Q
  | 0, i, h1, hn, hq => by
    have hn5 := hB.2.1
    refine g_iload_n 2 dTable_leastNamed_2 rfl ?_
    refine g_bipush 3 (nI 6) dTable_leastNamed_3 rfl ?_
    refine g_aload_n 5 dTable_leastNamed_5 rfl ?_
    refine g_geti 6 5 3 dTable_leastNamed_6 fs_Table_21 rfl hT.1 ?_
    refine g_top (nI (L.length)) (hB.1) ?_
    refine g_iaddN 9 dTable_leastNamed_9 ?_
    refine g_icmp_gtN 10 30 dTable_leastNamed_10 rfl (by omega) (by omega) (fun h10 => ?_) (fun h10 => ?_)
    · refine g_iconst 30 (nI 0) dTable_leastNamed_30 rfl ?_
      exact g_iret 31 dTable_leastNamed_31 rfl hq
    · exact absurd h10 (by omega)
  | n + 1, i, h1, hn, hq => by
    have hn5 := hB.2.1
    refine g_iload_n 2 dTable_leastNamed_2 rfl ?_
    refine g_bipush 3 (nI 6) dTable_leastNamed_3 rfl ?_
    refine g_aload_n 5 dTable_leastNamed_5 rfl ?_
    refine g_geti 6 5 3 dTable_leastNamed_6 fs_Table_21 rfl hT.1 ?_
    refine g_top (nI (L.length)) (hB.1) ?_
    refine g_iaddN 9 dTable_leastNamed_9 ?_
    refine g_icmp_gtN 10 30 dTable_leastNamed_10 rfl (by omega) (by omega) (fun h10 => ?_) (fun h10 => ?_)
    · exact absurd h10 (by omega)
    · refine g_aload_n 13 dTable_leastNamed_13 rfl ?_
      refine g_iload_n 14 dTable_leastNamed_14 rfl ?_
      refine g_callV 15 [_] dTable_leastNamed_15 cs_Table_43 rfl (ci := 5) rfl (by decide) hT.1 rfl ⟨(Nat.le_of_ble_eq_true rfl), (Nat.le_of_ble_eq_true rfl)⟩ (Nat.le_of_ble_eq_true rfl) (ct_T_nm hT hB hX (by omega) (by omega)) (Nat.le_of_ble_eq_true rfl) (Nat.le_of_ble_eq_true rfl) ?_
      rintro _ M2 ⟨rfl, hM2⟩
      rw [hM2]
      clear hM2 M2
      refine g_iload_n 18 dTable_leastNamed_18 rfl ?_
      refine g_icmp_ne 19 24 dTable_leastNamed_19 rfl (fun h19 => ?_) (fun h19 => ?_)
      · unfold lnT at hq
        rw [if_neg h19] at hq
        refine g_iincN 24 dTable_leastNamed_24 rfl (by decide) rfl ?_
        refine g_goto 27 2 dTable_leastNamed_27 rfl ?_
        exact g_ln hX hT hB n (i + 1) (by omega) (by omega) hq
      · unfold lnT at hq
        rw [if_pos h19] at hq
        refine g_iload_n 22 dTable_leastNamed_22 rfl ?_
        exact g_iret 23 dTable_leastNamed_23 rfl hq
set_option maxRecDepth 100000 in
set_option maxHeartbeats 4000000 in
theorem ct_T_ln {X : mX} {l : Launch} {M : mM} {t : Nat} {L : List (Int32 × Int32)} {mx : Int32} (hT : TGeo M t) (hB : TabG M t L mx) {a : Int32} (hX : FX X) : Ct X l uTable_leastNamed (rk 2 42) [.ref t, .int a] M (fun r M' => r = some (.int (nI (lnT L a (6 + L.length) 1))) ∧ M' = M) := by
  refine Ct.of (by decide) (Nat.le_of_ble_eq_true rfl) ?_
  show G X l uTable_leastNamed (rk 2 42) 0 0 M 0 [some (.ref t), some (.int a), none] [] _
  refine g_iconst 0 (nI 1) dTable_leastNamed_0 rfl ?_
  refine g_istore_n 1 dTable_leastNamed_1 (by decide) rfl ?_
  exact g_ln hX hT hB _ 1 (Nat.le_refl _) (by omega) ⟨rfl, rfl⟩

set_option maxRecDepth 100000 in
set_option maxHeartbeats 4000000 in
theorem g_le {X : mX} {l : Launch} {M : mM} {t : Nat} {L : List (Int32 × Int32)} {mx a b : Int32} {Q : Option Value → mM → Prop} (hX : FX X) (hT : TGeo M t) (hB : TabG M t L mx) : ∀ (n i : Nat), 1 ≤ i → i + n = 7 + L.length → Q (some (.int (nI (leT L a b n i)))) M → G X l uTable_leastEqual (rk 2 42) 0 0 M 2 [some (.ref t), some (.int a), some (.int b), some (.int (nI i))] [] Q
  | 0, i, h1, hn, hq => by
    have hn5 := hB.2.1
    refine g_iload_n 2 dTable_leastEqual_2 rfl ?_
    refine g_bipush 3 (nI 6) dTable_leastEqual_3 rfl ?_
    refine g_aload_n 5 dTable_leastEqual_5 rfl ?_
    refine g_geti 6 5 3 dTable_leastEqual_6 fs_Table_21 rfl hT.1 ?_
    refine g_top (nI (L.length)) (hB.1) ?_
    refine g_iaddN 9 dTable_leastEqual_9 ?_
    refine g_icmp_gtN 10 39 dTable_leastEqual_10 rfl (by omega) (by omega) (fun h10 => ?_) (fun h10 => ?_)
    · refine g_iconst 39 (nI 0) dTable_leastEqual_39 rfl ?_
      exact g_iret 40 dTable_leastEqual_40 rfl hq
    · exact absurd h10 (by omega)
  | n + 1, i, h1, hn, hq => by
    have hn5 := hB.2.1
    refine g_iload_n 2 dTable_leastEqual_2 rfl ?_
    refine g_bipush 3 (nI 6) dTable_leastEqual_3 rfl ?_
    refine g_aload_n 5 dTable_leastEqual_5 rfl ?_
    refine g_geti 6 5 3 dTable_leastEqual_6 fs_Table_21 rfl hT.1 ?_
    refine g_top (nI (L.length)) (hB.1) ?_
    refine g_iaddN 9 dTable_leastEqual_9 ?_
    refine g_icmp_gtN 10 39 dTable_leastEqual_10 rfl (by omega) (by omega) (fun h10 => ?_) (fun h10 => ?_)
    · exact absurd h10 (by omega)
    · refine g_aload_n 13 dTable_leastEqual_13 rfl ?_
      refine g_iload_n 14 dTable_leastEqual_14 rfl ?_
      refine g_callV 15 [_] dTable_leastEqual_15 cs_Table_43 rfl (ci := 5) rfl (by decide) hT.1 rfl ⟨(Nat.le_of_ble_eq_true rfl), (Nat.le_of_ble_eq_true rfl)⟩ (Nat.le_of_ble_eq_true rfl) (ct_T_nm hT hB hX (by omega) (by omega)) (Nat.le_of_ble_eq_true rfl) (Nat.le_of_ble_eq_true rfl) ?_
      rintro _ M2 ⟨rfl, hM2⟩
      rw [hM2]
      clear hM2 M2
      refine g_iload_n 18 dTable_leastEqual_18 rfl ?_
      refine g_icmp_ne 19 33 dTable_leastEqual_19 rfl (fun h19 => ?_) (fun h19 => ?_)
      · unfold leT at hq
        rw [if_neg h19] at hq
        refine g_iincN 33 dTable_leastEqual_33 rfl (by decide) rfl ?_
        refine g_goto 36 2 dTable_leastEqual_36 rfl ?_
        exact g_le hX hT hB n (i + 1) (by omega) (by omega) hq
      · unfold leT at hq
        rw [if_pos h19] at hq
        refine g_aload_n 22 dTable_leastEqual_22 rfl ?_
        refine g_iload_n 23 dTable_leastEqual_23 rfl ?_
        refine g_callV 24 [_] dTable_leastEqual_24 cs_Table_47 rfl (ci := 5) rfl (by decide) hT.1 rfl ⟨(Nat.le_of_ble_eq_true rfl), (Nat.le_of_ble_eq_true rfl)⟩ (Nat.le_of_ble_eq_true rfl) (ct_T_vl hT hB hX (by omega) (by omega)) (Nat.le_of_ble_eq_true rfl) (Nat.le_of_ble_eq_true rfl) ?_
        rintro _ M2 ⟨rfl, hM2⟩
        rw [hM2]
        clear hM2 M2
        refine g_iload_n 27 dTable_leastEqual_27 rfl ?_
        refine g_icmp_ne 28 33 dTable_leastEqual_28 rfl (fun h28 => ?_) (fun h28 => ?_)
        · rw [if_neg h28] at hq
          refine g_iincN 33 dTable_leastEqual_33 rfl (by decide) rfl ?_
          refine g_goto 36 2 dTable_leastEqual_36 rfl ?_
          exact g_le hX hT hB n (i + 1) (by omega) (by omega) hq
        · rw [if_pos h28] at hq
          refine g_iload_n 31 dTable_leastEqual_31 rfl ?_
          exact g_iret 32 dTable_leastEqual_32 rfl hq
set_option maxRecDepth 100000 in
set_option maxHeartbeats 4000000 in
theorem ct_T_le {X : mX} {l : Launch} {M : mM} {t : Nat} {L : List (Int32 × Int32)} {mx : Int32} (hT : TGeo M t) (hB : TabG M t L mx) {a b : Int32} (hX : FX X) : Ct X l uTable_leastEqual (rk 2 42) [.ref t, .int a, .int b] M (fun r M' => r = some (.int (nI (leT L a b (6 + L.length) 1))) ∧ M' = M) := by
  refine Ct.of (by decide) (Nat.le_of_ble_eq_true rfl) ?_
  show G X l uTable_leastEqual (rk 2 42) 0 0 M 0 [some (.ref t), some (.int a), some (.int b), none] [] _
  refine g_iconst 0 (nI 1) dTable_leastEqual_0 rfl ?_
  refine g_istore_n 1 dTable_leastEqual_1 (by decide) rfl ?_
  exact g_le hX hT hB _ 1 (Nat.le_refl _) (by omega) ⟨rfl, rfl⟩
