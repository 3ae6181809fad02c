theorem dStream_open_0 : decode uStream_open.2.1 0 = .ok (.aload_n 0, 1) := by decide +kernel
theorem dStream_open_1 : decode uStream_open.2.1 1 = .ok (.iconst 1, 1) := by decide +kernel
theorem dStream_open_2 : decode uStream_open.2.1 2 = .ok (.putfield 9, 3) := by decide +kernel
theorem dStream_open_5 : decode uStream_open.2.1 5 = .ok (.aload_n 0, 1) := by decide +kernel
theorem dStream_open_6 : decode uStream_open.2.1 6 = .ok (.iload_n 1, 1) := by decide +kernel
theorem dStream_open_7 : decode uStream_open.2.1 7 = .ok (.putfield 19, 3) := by decide +kernel
theorem dStream_open_10 : decode uStream_open.2.1 10 = .ok (.aload_n 0, 1) := by decide +kernel
theorem dStream_open_11 : decode uStream_open.2.1 11 = .ok (.iload_n 2, 1) := by decide +kernel
theorem dStream_open_12 : decode uStream_open.2.1 12 = .ok (.putfield 22, 3) := by decide +kernel
theorem dStream_open_15 : decode uStream_open.2.1 15 = .ok (.return_, 1) := by decide +kernel
theorem dStream_endSent_0 : decode uStream_endSent.2.1 0 = .ok (.aload_n 0, 1) := by decide +kernel
theorem dStream_endSent_1 : decode uStream_endSent.2.1 1 = .ok (.aload_n 0, 1) := by decide +kernel
theorem dStream_endSent_2 : decode uStream_endSent.2.1 2 = .ok (.getfield 9, 3) := by decide +kernel
theorem dStream_endSent_5 : decode uStream_endSent.2.1 5 = .ok (.iconst 1, 1) := by decide +kernel
theorem dStream_endSent_6 : decode uStream_endSent.2.1 6 = .ok (.if_icmp .ne 7, 3) := by decide +kernel
theorem dStream_endSent_9 : decode uStream_endSent.2.1 9 = .ok (.iconst 2, 1) := by decide +kernel
theorem dStream_endSent_10 : decode uStream_endSent.2.1 10 = .ok (.goto 4, 3) := by decide +kernel
theorem dStream_endSent_13 : decode uStream_endSent.2.1 13 = .ok (.iconst 4, 1) := by decide +kernel
theorem dStream_endSent_14 : decode uStream_endSent.2.1 14 = .ok (.putfield 9, 3) := by decide +kernel
theorem dStream_endSent_17 : decode uStream_endSent.2.1 17 = .ok (.return_, 1) := by decide +kernel
theorem dStream_endGot_0 : decode uStream_endGot.2.1 0 = .ok (.aload_n 0, 1) := by decide +kernel
theorem dStream_endGot_1 : decode uStream_endGot.2.1 1 = .ok (.aload_n 0, 1) := by decide +kernel
theorem dStream_endGot_2 : decode uStream_endGot.2.1 2 = .ok (.getfield 9, 3) := by decide +kernel
theorem dStream_endGot_5 : decode uStream_endGot.2.1 5 = .ok (.iconst 1, 1) := by decide +kernel
theorem dStream_endGot_6 : decode uStream_endGot.2.1 6 = .ok (.if_icmp .ne 7, 3) := by decide +kernel
theorem dStream_endGot_9 : decode uStream_endGot.2.1 9 = .ok (.iconst 3, 1) := by decide +kernel
theorem dStream_endGot_10 : decode uStream_endGot.2.1 10 = .ok (.goto 4, 3) := by decide +kernel
theorem dStream_endGot_13 : decode uStream_endGot.2.1 13 = .ok (.iconst 4, 1) := by decide +kernel
theorem dStream_endGot_14 : decode uStream_endGot.2.1 14 = .ok (.putfield 9, 3) := by decide +kernel
theorem dStream_endGot_17 : decode uStream_endGot.2.1 17 = .ok (.return_, 1) := by decide +kernel
theorem dEnd_endWithReset_0 : decode uEnd_endWithReset.2.1 0 = .ok (.aload_n 0, 1) := by decide +kernel
theorem dEnd_endWithReset_1 : decode uEnd_endWithReset.2.1 1 = .ok (.getfield 82, 3) := by decide +kernel
theorem dEnd_endWithReset_4 : decode uEnd_endWithReset.2.1 4 = .ok (.aload_n 1, 1) := by decide +kernel
theorem dEnd_endWithReset_5 : decode uEnd_endWithReset.2.1 5 = .ok (.getfield 121, 3) := by decide +kernel
theorem dEnd_endWithReset_8 : decode uEnd_endWithReset.2.1 8 = .ok (.iload_n 2, 1) := by decide +kernel
theorem dEnd_endWithReset_9 : decode uEnd_endWithReset.2.1 9 = .ok (.invokestatic 205, 3) := by decide +kernel
theorem dEnd_endWithReset_12 : decode uEnd_endWithReset.2.1 12 = .ok (.invokevirtual 134, 3) := by decide +kernel
theorem dEnd_endWithReset_15 : decode uEnd_endWithReset.2.1 15 = .ok (.aload_n 0, 1) := by decide +kernel
theorem dEnd_endWithReset_16 : decode uEnd_endWithReset.2.1 16 = .ok (.aload_n 1, 1) := by decide +kernel
theorem dEnd_endWithReset_17 : decode uEnd_endWithReset.2.1 17 = .ok (.invokevirtual 208, 3) := by decide +kernel
theorem dEnd_endWithReset_20 : decode uEnd_endWithReset.2.1 20 = .ok (.iload_n 3, 1) := by decide +kernel
theorem dEnd_endWithReset_21 : decode uEnd_endWithReset.2.1 21 = .ok (.iadd, 1) := by decide +kernel
theorem dEnd_endWithReset_22 : decode uEnd_endWithReset.2.1 22 = .ok (.invokevirtual 191, 3) := by decide +kernel
theorem dEnd_endWithReset_25 : decode uEnd_endWithReset.2.1 25 = .ok (.iload_n 2, 1) := by decide +kernel
theorem dEnd_endWithReset_26 : decode uEnd_endWithReset.2.1 26 = .ok (.ireturn, 1) := by decide +kernel
theorem dEnd_getReset_0 : decode uEnd_getReset.2.1 0 = .ok (.aload_n 0, 1) := by decide +kernel
theorem dEnd_getReset_1 : decode uEnd_getReset.2.1 1 = .ok (.aload_n 1, 1) := by decide +kernel
theorem dEnd_getReset_2 : decode uEnd_getReset.2.1 2 = .ok (.getfield 243, 3) := by decide +kernel
theorem dEnd_getReset_5 : decode uEnd_getReset.2.1 5 = .ok (.invokevirtual 106, 3) := by decide +kernel
theorem dEnd_getReset_8 : decode uEnd_getReset.2.1 8 = .ok (.astore_n 2, 1) := by decide +kernel
theorem dEnd_getReset_9 : decode uEnd_getReset.2.1 9 = .ok (.aload_n 2, 1) := by decide +kernel
theorem dEnd_getReset_10 : decode uEnd_getReset.2.1 10 = .ok (.ifnull 10, 3) := by decide +kernel
theorem dEnd_getReset_13 : decode uEnd_getReset.2.1 13 = .ok (.aload_n 2, 1) := by decide +kernel
theorem dEnd_getReset_14 : decode uEnd_getReset.2.1 14 = .ok (.getfield 253, 3) := by decide +kernel
theorem dEnd_getReset_17 : decode uEnd_getReset.2.1 17 = .ok (.ifCond .ne 9, 3) := by decide +kernel
theorem dEnd_getReset_20 : decode uEnd_getReset.2.1 20 = .ok (.aload_n 0, 1) := by decide +kernel
theorem dEnd_getReset_21 : decode uEnd_getReset.2.1 21 = .ok (.iconst 1, 1) := by decide +kernel
theorem dEnd_getReset_22 : decode uEnd_getReset.2.1 22 = .ok (.invokevirtual 256, 3) := by decide +kernel
theorem dEnd_getReset_25 : decode uEnd_getReset.2.1 25 = .ok (.ireturn, 1) := by decide +kernel
theorem dEnd_getReset_26 : decode uEnd_getReset.2.1 26 = .ok (.aload_n 2, 1) := by decide +kernel
theorem dEnd_getReset_27 : decode uEnd_getReset.2.1 27 = .ok (.getfield 253, 3) := by decide +kernel
theorem dEnd_getReset_30 : decode uEnd_getReset.2.1 30 = .ok (.iconst 4, 1) := by decide +kernel
theorem dEnd_getReset_31 : decode uEnd_getReset.2.1 31 = .ok (.if_icmp .eq 11, 3) := by decide +kernel
theorem dEnd_getReset_34 : decode uEnd_getReset.2.1 34 = .ok (.aload_n 0, 1) := by decide +kernel
theorem dEnd_getReset_35 : decode uEnd_getReset.2.1 35 = .ok (.aload_n 2, 1) := by decide +kernel
theorem dEnd_getReset_36 : decode uEnd_getReset.2.1 36 = .ok (.invokevirtual 208, 3) := by decide +kernel
theorem dEnd_getReset_39 : decode uEnd_getReset.2.1 39 = .ok (.invokevirtual 191, 3) := by decide +kernel
theorem dEnd_getReset_42 : decode uEnd_getReset.2.1 42 = .ok (.iconst 0, 1) := by decide +kernel
theorem dEnd_getReset_43 : decode uEnd_getReset.2.1 43 = .ok (.ireturn, 1) := by decide +kernel
theorem dEnd_getStreamWindow_0 : decode uEnd_getStreamWindow.2.1 0 = .ok (.aload_n 0, 1) := by decide +kernel
theorem dEnd_getStreamWindow_1 : decode uEnd_getStreamWindow.2.1 1 = .ok (.aload_n 1, 1) := by decide +kernel
theorem dEnd_getStreamWindow_2 : decode uEnd_getStreamWindow.2.1 2 = .ok (.getfield 243, 3) := by decide +kernel
theorem dEnd_getStreamWindow_5 : decode uEnd_getStreamWindow.2.1 5 = .ok (.invokevirtual 106, 3) := by decide +kernel
theorem dEnd_getStreamWindow_8 : decode uEnd_getStreamWindow.2.1 8 = .ok (.astore_n 2, 1) := by decide +kernel
theorem dEnd_getStreamWindow_9 : decode uEnd_getStreamWindow.2.1 9 = .ok (.aload_n 1, 1) := by decide +kernel
theorem dEnd_getStreamWindow_10 : decode uEnd_getStreamWindow.2.1 10 = .ok (.getfield 237, 3) := by decide +kernel
theorem dEnd_getStreamWindow_13 : decode uEnd_getStreamWindow.2.1 13 = .ok (.istore_n 3, 1) := by decide +kernel
theorem dEnd_getStreamWindow_14 : decode uEnd_getStreamWindow.2.1 14 = .ok (.aload_n 2, 1) := by decide +kernel
theorem dEnd_getStreamWindow_15 : decode uEnd_getStreamWindow.2.1 15 = .ok (.ifnull 10, 3) := by decide +kernel
theorem dEnd_getStreamWindow_18 : decode uEnd_getStreamWindow.2.1 18 = .ok (.aload_n 2, 1) := by decide +kernel
theorem dEnd_getStreamWindow_19 : decode uEnd_getStreamWindow.2.1 19 = .ok (.getfield 253, 3) := by decide +kernel
theorem dEnd_getStreamWindow_22 : decode uEnd_getStreamWindow.2.1 22 = .ok (.ifCond .ne 9, 3) := by decide +kernel
theorem dEnd_getStreamWindow_25 : decode uEnd_getStreamWindow.2.1 25 = .ok (.aload_n 0, 1) := by decide +kernel
theorem dEnd_getStreamWindow_26 : decode uEnd_getStreamWindow.2.1 26 = .ok (.iconst 1, 1) := by decide +kernel
theorem dEnd_getStreamWindow_27 : decode uEnd_getStreamWindow.2.1 27 = .ok (.invokevirtual 256, 3) := by decide +kernel
theorem dEnd_getStreamWindow_30 : decode uEnd_getStreamWindow.2.1 30 = .ok (.ireturn, 1) := by decide +kernel
theorem dEnd_getStreamWindow_31 : decode uEnd_getStreamWindow.2.1 31 = .ok (.aload_n 2, 1) := by decide +kernel
theorem dEnd_getStreamWindow_32 : decode uEnd_getStreamWindow.2.1 32 = .ok (.getfield 253, 3) := by decide +kernel
theorem dEnd_getStreamWindow_35 : decode uEnd_getStreamWindow.2.1 35 = .ok (.iconst 4, 1) := by decide +kernel
theorem dEnd_getStreamWindow_36 : decode uEnd_getStreamWindow.2.1 36 = .ok (.if_icmp .ne 5, 3) := by decide +kernel
theorem dEnd_getStreamWindow_39 : decode uEnd_getStreamWindow.2.1 39 = .ok (.iconst 0, 1) := by decide +kernel
theorem dEnd_getStreamWindow_40 : decode uEnd_getStreamWindow.2.1 40 = .ok (.ireturn, 1) := by decide +kernel
theorem dEnd_getStreamWindow_41 : decode uEnd_getStreamWindow.2.1 41 = .ok (.iload_n 3, 1) := by decide +kernel
theorem dEnd_getStreamWindow_42 : decode uEnd_getStreamWindow.2.1 42 = .ok (.iconst 1, 1) := by decide +kernel
theorem dEnd_getStreamWindow_43 : decode uEnd_getStreamWindow.2.1 43 = .ok (.if_icmp .ge 11, 3) := by decide +kernel
theorem dEnd_getStreamWindow_46 : decode uEnd_getStreamWindow.2.1 46 = .ok (.aload_n 0, 1) := by decide +kernel
theorem dEnd_getStreamWindow_47 : decode uEnd_getStreamWindow.2.1 47 = .ok (.aload_n 2, 1) := by decide +kernel
theorem dEnd_getStreamWindow_48 : decode uEnd_getStreamWindow.2.1 48 = .ok (.iconst 1, 1) := by decide +kernel
theorem dEnd_getStreamWindow_49 : decode uEnd_getStreamWindow.2.1 49 = .ok (.iconst 0, 1) := by decide +kernel
theorem dEnd_getStreamWindow_50 : decode uEnd_getStreamWindow.2.1 50 = .ok (.invokevirtual 262, 3) := by decide +kernel
theorem dEnd_getStreamWindow_53 : decode uEnd_getStreamWindow.2.1 53 = .ok (.ireturn, 1) := by decide +kernel
theorem dEnd_getStreamWindow_54 : decode uEnd_getStreamWindow.2.1 54 = .ok (.iload_n 3, 1) := by decide +kernel
theorem dEnd_getStreamWindow_55 : decode uEnd_getStreamWindow.2.1 55 = .ok (.sipush 200, 3) := by decide +kernel
theorem dEnd_getStreamWindow_58 : decode uEnd_getStreamWindow.2.1 58 = .ok (.aload_n 2, 1) := by decide +kernel
theorem dEnd_getStreamWindow_59 : decode uEnd_getStreamWindow.2.1 59 = .ok (.getfield 173, 3) := by decide +kernel
theorem dEnd_getStreamWindow_62 : decode uEnd_getStreamWindow.2.1 62 = .ok (.isub, 1) := by decide +kernel
theorem dEnd_getStreamWindow_63 : decode uEnd_getStreamWindow.2.1 63 = .ok (.if_icmp .le 11, 3) := by decide +kernel
theorem dEnd_getStreamWindow_66 : decode uEnd_getStreamWindow.2.1 66 = .ok (.aload_n 0, 1) := by decide +kernel
theorem dEnd_getStreamWindow_67 : decode uEnd_getStreamWindow.2.1 67 = .ok (.aload_n 2, 1) := by decide +kernel
theorem dEnd_getStreamWindow_68 : decode uEnd_getStreamWindow.2.1 68 = .ok (.iconst 3, 1) := by decide +kernel
theorem dEnd_getStreamWindow_69 : decode uEnd_getStreamWindow.2.1 69 = .ok (.iconst 0, 1) := by decide +kernel
theorem dEnd_getStreamWindow_70 : decode uEnd_getStreamWindow.2.1 70 = .ok (.invokevirtual 262, 3) := by decide +kernel
theorem dEnd_getStreamWindow_73 : decode uEnd_getStreamWindow.2.1 73 = .ok (.ireturn, 1) := by decide +kernel
theorem dEnd_getStreamWindow_74 : decode uEnd_getStreamWindow.2.1 74 = .ok (.aload_n 2, 1) := by decide +kernel
theorem dEnd_getStreamWindow_75 : decode uEnd_getStreamWindow.2.1 75 = .ok (.dup, 1) := by decide +kernel
theorem dEnd_getStreamWindow_76 : decode uEnd_getStreamWindow.2.1 76 = .ok (.getfield 173, 3) := by decide +kernel
theorem dEnd_getStreamWindow_79 : decode uEnd_getStreamWindow.2.1 79 = .ok (.iload_n 3, 1) := by decide +kernel
theorem dEnd_getStreamWindow_80 : decode uEnd_getStreamWindow.2.1 80 = .ok (.iadd, 1) := by decide +kernel
theorem dEnd_getStreamWindow_81 : decode uEnd_getStreamWindow.2.1 81 = .ok (.putfield 173, 3) := by decide +kernel
theorem dEnd_getStreamWindow_84 : decode uEnd_getStreamWindow.2.1 84 = .ok (.iconst 0, 1) := by decide +kernel
theorem dEnd_getStreamWindow_85 : decode uEnd_getStreamWindow.2.1 85 = .ok (.ireturn, 1) := by decide +kernel
theorem dEnd_getData_0 : decode uEnd_getData.2.1 0 = .ok (.aload_n 0, 1) := by decide +kernel
theorem dEnd_getData_1 : decode uEnd_getData.2.1 1 = .ok (.aload_n 1, 1) := by decide +kernel
theorem dEnd_getData_2 : decode uEnd_getData.2.1 2 = .ok (.getfield 243, 3) := by decide +kernel
theorem dEnd_getData_5 : decode uEnd_getData.2.1 5 = .ok (.invokevirtual 106, 3) := by decide +kernel
theorem dEnd_getData_8 : decode uEnd_getData.2.1 8 = .ok (.astore_n 2, 1) := by decide +kernel
theorem dEnd_getData_9 : decode uEnd_getData.2.1 9 = .ok (.aload_n 1, 1) := by decide +kernel
theorem dEnd_getData_10 : decode uEnd_getData.2.1 10 = .ok (.getfield 237, 3) := by decide +kernel
theorem dEnd_getData_13 : decode uEnd_getData.2.1 13 = .ok (.istore_n 3, 1) := by decide +kernel
theorem dEnd_getData_14 : decode uEnd_getData.2.1 14 = .ok (.aload_n 2, 1) := by decide +kernel
theorem dEnd_getData_15 : decode uEnd_getData.2.1 15 = .ok (.ifnull 10, 3) := by decide +kernel
theorem dEnd_getData_18 : decode uEnd_getData.2.1 18 = .ok (.aload_n 2, 1) := by decide +kernel
theorem dEnd_getData_19 : decode uEnd_getData.2.1 19 = .ok (.getfield 253, 3) := by decide +kernel
theorem dEnd_getData_22 : decode uEnd_getData.2.1 22 = .ok (.ifCond .ne 9, 3) := by decide +kernel
theorem dEnd_getData_25 : decode uEnd_getData.2.1 25 = .ok (.aload_n 0, 1) := by decide +kernel
theorem dEnd_getData_26 : decode uEnd_getData.2.1 26 = .ok (.iconst 1, 1) := by decide +kernel
theorem dEnd_getData_27 : decode uEnd_getData.2.1 27 = .ok (.invokevirtual 256, 3) := by decide +kernel
theorem dEnd_getData_30 : decode uEnd_getData.2.1 30 = .ok (.ireturn, 1) := by decide +kernel
theorem dEnd_getData_31 : decode uEnd_getData.2.1 31 = .ok (.iload_n 3, 1) := by decide +kernel
theorem dEnd_getData_32 : decode uEnd_getData.2.1 32 = .ok (.aload_n 0, 1) := by decide +kernel
theorem dEnd_getData_33 : decode uEnd_getData.2.1 33 = .ok (.getfield 18, 3) := by decide +kernel
theorem dEnd_getData_36 : decode uEnd_getData.2.1 36 = .ok (.if_icmp .le 9, 3) := by decide +kernel
theorem dEnd_getData_39 : decode uEnd_getData.2.1 39 = .ok (.aload_n 0, 1) := by decide +kernel
theorem dEnd_getData_40 : decode uEnd_getData.2.1 40 = .ok (.iconst 3, 1) := by decide +kernel
theorem dEnd_getData_41 : decode uEnd_getData.2.1 41 = .ok (.invokevirtual 256, 3) := by decide +kernel
theorem dEnd_getData_44 : decode uEnd_getData.2.1 44 = .ok (.ireturn, 1) := by decide +kernel
theorem dEnd_getData_45 : decode uEnd_getData.2.1 45 = .ok (.aload_n 0, 1) := by decide +kernel
theorem dEnd_getData_46 : decode uEnd_getData.2.1 46 = .ok (.dup, 1) := by decide +kernel
theorem dEnd_getData_47 : decode uEnd_getData.2.1 47 = .ok (.getfield 18, 3) := by decide +kernel
theorem dEnd_getData_50 : decode uEnd_getData.2.1 50 = .ok (.iload_n 3, 1) := by decide +kernel
theorem dEnd_getData_51 : decode uEnd_getData.2.1 51 = .ok (.isub, 1) := by decide +kernel
theorem dEnd_getData_52 : decode uEnd_getData.2.1 52 = .ok (.putfield 18, 3) := by decide +kernel
theorem dEnd_getData_55 : decode uEnd_getData.2.1 55 = .ok (.aload_n 2, 1) := by decide +kernel
theorem dEnd_getData_56 : decode uEnd_getData.2.1 56 = .ok (.getfield 253, 3) := by decide +kernel
theorem dEnd_getData_59 : decode uEnd_getData.2.1 59 = .ok (.iconst 4, 1) := by decide +kernel
theorem dEnd_getData_60 : decode uEnd_getData.2.1 60 = .ok (.if_icmp .ne 17, 3) := by decide +kernel
theorem dEnd_getData_63 : decode uEnd_getData.2.1 63 = .ok (.aload_n 2, 1) := by decide +kernel
theorem dEnd_getData_64 : decode uEnd_getData.2.1 64 = .ok (.getfield 259, 3) := by decide +kernel
theorem dEnd_getData_67 : decode uEnd_getData.2.1 67 = .ok (.ifCond .eq 10, 3) := by decide +kernel
theorem dEnd_getData_70 : decode uEnd_getData.2.1 70 = .ok (.aload_n 0, 1) := by decide +kernel
theorem dEnd_getData_71 : decode uEnd_getData.2.1 71 = .ok (.iload_n 3, 1) := by decide +kernel
theorem dEnd_getData_72 : decode uEnd_getData.2.1 72 = .ok (.invokevirtual 191, 3) := by decide +kernel
theorem dEnd_getData_75 : decode uEnd_getData.2.1 75 = .ok (.iconst 0, 1) := by decide +kernel
theorem dEnd_getData_76 : decode uEnd_getData.2.1 76 = .ok (.ireturn, 1) := by decide +kernel
theorem dEnd_getData_77 : decode uEnd_getData.2.1 77 = .ok (.aload_n 2, 1) := by decide +kernel
theorem dEnd_getData_78 : decode uEnd_getData.2.1 78 = .ok (.invokevirtual 194, 3) := by decide +kernel
theorem dEnd_getData_81 : decode uEnd_getData.2.1 81 = .ok (.ifCond .ne 11, 3) := by decide +kernel
theorem dEnd_getData_84 : decode uEnd_getData.2.1 84 = .ok (.aload_n 0, 1) := by decide +kernel
theorem dEnd_getData_85 : decode uEnd_getData.2.1 85 = .ok (.aload_n 2, 1) := by decide +kernel
theorem dEnd_getData_86 : decode uEnd_getData.2.1 86 = .ok (.iconst 5, 1) := by decide +kernel
theorem dEnd_getData_87 : decode uEnd_getData.2.1 87 = .ok (.iload_n 3, 1) := by decide +kernel
theorem dEnd_getData_88 : decode uEnd_getData.2.1 88 = .ok (.invokevirtual 262, 3) := by decide +kernel
theorem dEnd_getData_91 : decode uEnd_getData.2.1 91 = .ok (.ireturn, 1) := by decide +kernel
theorem dEnd_getData_92 : decode uEnd_getData.2.1 92 = .ok (.aload_n 2, 1) := by decide +kernel
theorem dEnd_getData_93 : decode uEnd_getData.2.1 93 = .ok (.getfield 266, 3) := by decide +kernel
theorem dEnd_getData_96 : decode uEnd_getData.2.1 96 = .ok (.ifnonnull 11, 3) := by decide +kernel
theorem dEnd_getData_99 : decode uEnd_getData.2.1 99 = .ok (.aload_n 0, 1) := by decide +kernel
theorem dEnd_getData_100 : decode uEnd_getData.2.1 100 = .ok (.aload_n 2, 1) := by decide +kernel
theorem dEnd_getData_101 : decode uEnd_getData.2.1 101 = .ok (.iconst 1, 1) := by decide +kernel
theorem dEnd_getData_102 : decode uEnd_getData.2.1 102 = .ok (.iload_n 3, 1) := by decide +kernel
theorem dEnd_getData_103 : decode uEnd_getData.2.1 103 = .ok (.invokevirtual 262, 3) := by decide +kernel
theorem dEnd_getData_106 : decode uEnd_getData.2.1 106 = .ok (.ireturn, 1) := by decide +kernel
theorem dEnd_getData_107 : decode uEnd_getData.2.1 107 = .ok (.iload_n 3, 1) := by decide +kernel
theorem dEnd_getData_108 : decode uEnd_getData.2.1 108 = .ok (.ifCond .le 19, 3) := by decide +kernel
theorem dEnd_getData_111 : decode uEnd_getData.2.1 111 = .ok (.iload_n 3, 1) := by decide +kernel
theorem dEnd_getData_112 : decode uEnd_getData.2.1 112 = .ok (.aload_n 2, 1) := by decide +kernel
theorem dEnd_getData_113 : decode uEnd_getData.2.1 113 = .ok (.getfield 197, 3) := by decide +kernel
theorem dEnd_getData_116 : decode uEnd_getData.2.1 116 = .ok (.if_icmp .le 11, 3) := by decide +kernel
theorem dEnd_getData_119 : decode uEnd_getData.2.1 119 = .ok (.aload_n 0, 1) := by decide +kernel
theorem dEnd_getData_120 : decode uEnd_getData.2.1 120 = .ok (.aload_n 2, 1) := by decide +kernel
theorem dEnd_getData_121 : decode uEnd_getData.2.1 121 = .ok (.iconst 3, 1) := by decide +kernel
theorem dEnd_getData_122 : decode uEnd_getData.2.1 122 = .ok (.iload_n 3, 1) := by decide +kernel
theorem dEnd_getData_123 : decode uEnd_getData.2.1 123 = .ok (.invokevirtual 262, 3) := by decide +kernel
theorem dEnd_getData_126 : decode uEnd_getData.2.1 126 = .ok (.ireturn, 1) := by decide +kernel
theorem dEnd_getData_127 : decode uEnd_getData.2.1 127 = .ok (.aload_n 2, 1) := by decide +kernel
theorem dEnd_getData_128 : decode uEnd_getData.2.1 128 = .ok (.dup, 1) := by decide +kernel
theorem dEnd_getData_129 : decode uEnd_getData.2.1 129 = .ok (.getfield 197, 3) := by decide +kernel
theorem dEnd_getData_132 : decode uEnd_getData.2.1 132 = .ok (.iload_n 3, 1) := by decide +kernel
theorem dEnd_getData_133 : decode uEnd_getData.2.1 133 = .ok (.isub, 1) := by decide +kernel
theorem dEnd_getData_134 : decode uEnd_getData.2.1 134 = .ok (.putfield 197, 3) := by decide +kernel
theorem dEnd_getData_137 : decode uEnd_getData.2.1 137 = .ok (.aload_n 2, 1) := by decide +kernel
theorem dEnd_getData_138 : decode uEnd_getData.2.1 138 = .ok (.getfield 188, 3) := by decide +kernel
theorem dEnd_getData_141 : decode uEnd_getData.2.1 141 = .ok (.aload_n 1, 1) := by decide +kernel
theorem dEnd_getData_142 : decode uEnd_getData.2.1 142 = .ok (.getfield 269, 3) := by decide +kernel
theorem dEnd_getData_145 : decode uEnd_getData.2.1 145 = .ok (.invokevirtual 273, 3) := by decide +kernel
theorem dEnd_getData_148 : decode uEnd_getData.2.1 148 = .ok (.aload_n 1, 1) := by decide +kernel
theorem dEnd_getData_149 : decode uEnd_getData.2.1 149 = .ok (.getfield 228, 3) := by decide +kernel
theorem dEnd_getData_152 : decode uEnd_getData.2.1 152 = .ok (.ifCond .eq 7, 3) := by decide +kernel
theorem dEnd_getData_155 : decode uEnd_getData.2.1 155 = .ok (.aload_n 2, 1) := by decide +kernel
theorem dEnd_getData_156 : decode uEnd_getData.2.1 156 = .ok (.invokevirtual 276, 3) := by decide +kernel
theorem dEnd_getData_159 : decode uEnd_getData.2.1 159 = .ok (.iconst 0, 1) := by decide +kernel
theorem dEnd_getData_160 : decode uEnd_getData.2.1 160 = .ok (.ireturn, 1) := by decide +kernel
theorem dEnd_getLinkWindow_0 : decode uEnd_getLinkWindow.2.1 0 = .ok (.iload_n 1, 1) := by decide +kernel
theorem dEnd_getLinkWindow_1 : decode uEnd_getLinkWindow.2.1 1 = .ok (.iconst 1, 1) := by decide +kernel
theorem dEnd_getLinkWindow_2 : decode uEnd_getLinkWindow.2.1 2 = .ok (.if_icmp .ge 9, 3) := by decide +kernel
theorem dEnd_getLinkWindow_5 : decode uEnd_getLinkWindow.2.1 5 = .ok (.aload_n 0, 1) := by decide +kernel
theorem dEnd_getLinkWindow_6 : decode uEnd_getLinkWindow.2.1 6 = .ok (.iconst 1, 1) := by decide +kernel
theorem dEnd_getLinkWindow_7 : decode uEnd_getLinkWindow.2.1 7 = .ok (.invokevirtual 256, 3) := by decide +kernel
theorem dEnd_getLinkWindow_10 : decode uEnd_getLinkWindow.2.1 10 = .ok (.ireturn, 1) := by decide +kernel
theorem dEnd_getLinkWindow_11 : decode uEnd_getLinkWindow.2.1 11 = .ok (.iload_n 1, 1) := by decide +kernel
theorem dEnd_getLinkWindow_12 : decode uEnd_getLinkWindow.2.1 12 = .ok (.sipush 200, 3) := by decide +kernel
theorem dEnd_getLinkWindow_15 : decode uEnd_getLinkWindow.2.1 15 = .ok (.aload_n 0, 1) := by decide +kernel
theorem dEnd_getLinkWindow_16 : decode uEnd_getLinkWindow.2.1 16 = .ok (.getfield 15, 3) := by decide +kernel
theorem dEnd_getLinkWindow_19 : decode uEnd_getLinkWindow.2.1 19 = .ok (.isub, 1) := by decide +kernel
theorem dEnd_getLinkWindow_20 : decode uEnd_getLinkWindow.2.1 20 = .ok (.if_icmp .le 9, 3) := by decide +kernel
theorem dEnd_getLinkWindow_23 : decode uEnd_getLinkWindow.2.1 23 = .ok (.aload_n 0, 1) := by decide +kernel
theorem dEnd_getLinkWindow_24 : decode uEnd_getLinkWindow.2.1 24 = .ok (.iconst 3, 1) := by decide +kernel
theorem dEnd_getLinkWindow_25 : decode uEnd_getLinkWindow.2.1 25 = .ok (.invokevirtual 256, 3) := by decide +kernel
theorem dEnd_getLinkWindow_28 : decode uEnd_getLinkWindow.2.1 28 = .ok (.ireturn, 1) := by decide +kernel
theorem dEnd_getLinkWindow_29 : decode uEnd_getLinkWindow.2.1 29 = .ok (.aload_n 0, 1) := by decide +kernel
theorem dEnd_getLinkWindow_30 : decode uEnd_getLinkWindow.2.1 30 = .ok (.dup, 1) := by decide +kernel
theorem dEnd_getLinkWindow_31 : decode uEnd_getLinkWindow.2.1 31 = .ok (.getfield 15, 3) := by decide +kernel
theorem dEnd_getLinkWindow_34 : decode uEnd_getLinkWindow.2.1 34 = .ok (.iload_n 1, 1) := by decide +kernel
theorem dEnd_getLinkWindow_35 : decode uEnd_getLinkWindow.2.1 35 = .ok (.iadd, 1) := by decide +kernel
theorem dEnd_getLinkWindow_36 : decode uEnd_getLinkWindow.2.1 36 = .ok (.putfield 15, 3) := by decide +kernel
theorem dEnd_getLinkWindow_39 : decode uEnd_getLinkWindow.2.1 39 = .ok (.iconst 0, 1) := by decide +kernel
theorem dEnd_getLinkWindow_40 : decode uEnd_getLinkWindow.2.1 40 = .ok (.ireturn, 1) := by decide +kernel
theorem dEnd_takeList_0 : decode uEnd_takeList.2.1 0 = .ok (.aload_n 1, 1) := by decide +kernel
theorem dEnd_takeList_1 : decode uEnd_takeList.2.1 1 = .ok (.aload_n 2, 1) := by decide +kernel
theorem dEnd_takeList_2 : decode uEnd_takeList.2.1 2 = .ok (.putfield 266, 3) := by decide +kernel
theorem dEnd_takeList_5 : decode uEnd_takeList.2.1 5 = .ok (.iload_n 3, 1) := by decide +kernel
theorem dEnd_takeList_6 : decode uEnd_takeList.2.1 6 = .ok (.ifCond .eq 7, 3) := by decide +kernel
theorem dEnd_takeList_9 : decode uEnd_takeList.2.1 9 = .ok (.aload_n 1, 1) := by decide +kernel
theorem dEnd_takeList_10 : decode uEnd_takeList.2.1 10 = .ok (.invokevirtual 276, 3) := by decide +kernel
theorem dEnd_takeList_13 : decode uEnd_takeList.2.1 13 = .ok (.return_, 1) := by decide +kernel
theorem dEnd_moveSendWindows_0 : decode uEnd_moveSendWindows.2.1 0 = .ok (.iconst 0, 1) := by decide +kernel
theorem dEnd_moveSendWindows_1 : decode uEnd_moveSendWindows.2.1 1 = .ok (.istore_n 2, 1) := by decide +kernel
theorem dEnd_moveSendWindows_2 : decode uEnd_moveSendWindows.2.1 2 = .ok (.iload_n 2, 1) := by decide +kernel
theorem dEnd_moveSendWindows_3 : decode uEnd_moveSendWindows.2.1 3 = .ok (.bipush 12, 2) := by decide +kernel
theorem dEnd_moveSendWindows_5 : decode uEnd_moveSendWindows.2.1 5 = .ok (.if_icmp .ge 36, 3) := by decide +kernel
theorem dEnd_moveSendWindows_8 : decode uEnd_moveSendWindows.2.1 8 = .ok (.aload_n 0, 1) := by decide +kernel
theorem dEnd_moveSendWindows_9 : decode uEnd_moveSendWindows.2.1 9 = .ok (.getfield 44, 3) := by decide +kernel
theorem dEnd_moveSendWindows_12 : decode uEnd_moveSendWindows.2.1 12 = .ok (.iload_n 2, 1) := by decide +kernel
theorem dEnd_moveSendWindows_13 : decode uEnd_moveSendWindows.2.1 13 = .ok (.aaload, 1) := by decide +kernel
theorem dEnd_moveSendWindows_14 : decode uEnd_moveSendWindows.2.1 14 = .ok (.invokevirtual 92, 3) := by decide +kernel
theorem dEnd_moveSendWindows_17 : decode uEnd_moveSendWindows.2.1 17 = .ok (.ifCond .eq 18, 3) := by decide +kernel
theorem dEnd_moveSendWindows_20 : decode uEnd_moveSendWindows.2.1 20 = .ok (.aload_n 0, 1) := by decide +kernel
theorem dEnd_moveSendWindows_21 : decode uEnd_moveSendWindows.2.1 21 = .ok (.getfield 44, 3) := by decide +kernel
theorem dEnd_moveSendWindows_24 : decode uEnd_moveSendWindows.2.1 24 = .ok (.iload_n 2, 1) := by decide +kernel
theorem dEnd_moveSendWindows_25 : decode uEnd_moveSendWindows.2.1 25 = .ok (.aaload, 1) := by decide +kernel
theorem dEnd_moveSendWindows_26 : decode uEnd_moveSendWindows.2.1 26 = .ok (.dup, 1) := by decide +kernel
theorem dEnd_moveSendWindows_27 : decode uEnd_moveSendWindows.2.1 27 = .ok (.getfield 173, 3) := by decide +kernel
theorem dEnd_moveSendWindows_30 : decode uEnd_moveSendWindows.2.1 30 = .ok (.iload_n 1, 1) := by decide +kernel
theorem dEnd_moveSendWindows_31 : decode uEnd_moveSendWindows.2.1 31 = .ok (.iadd, 1) := by decide +kernel
theorem dEnd_moveSendWindows_32 : decode uEnd_moveSendWindows.2.1 32 = .ok (.putfield 173, 3) := by decide +kernel
theorem dEnd_moveSendWindows_35 : decode uEnd_moveSendWindows.2.1 35 = .ok (.iinc 2 1, 3) := by decide +kernel
theorem dEnd_moveSendWindows_38 : decode uEnd_moveSendWindows.2.1 38 = .ok (.goto (-36), 3) := by decide +kernel
theorem dEnd_moveSendWindows_41 : decode uEnd_moveSendWindows.2.1 41 = .ok (.return_, 1) := by decide +kernel
theorem dEnd_moveReceiveWindows_0 : decode uEnd_moveReceiveWindows.2.1 0 = .ok (.iconst 0, 1) := by decide +kernel
theorem dEnd_moveReceiveWindows_1 : decode uEnd_moveReceiveWindows.2.1 1 = .ok (.istore_n 2, 1) := by decide +kernel
theorem dEnd_moveReceiveWindows_2 : decode uEnd_moveReceiveWindows.2.1 2 = .ok (.iload_n 2, 1) := by decide +kernel
theorem dEnd_moveReceiveWindows_3 : decode uEnd_moveReceiveWindows.2.1 3 = .ok (.bipush 12, 2) := by decide +kernel
theorem dEnd_moveReceiveWindows_5 : decode uEnd_moveReceiveWindows.2.1 5 = .ok (.if_icmp .ge 36, 3) := by decide +kernel
theorem dEnd_moveReceiveWindows_8 : decode uEnd_moveReceiveWindows.2.1 8 = .ok (.aload_n 0, 1) := by decide +kernel
theorem dEnd_moveReceiveWindows_9 : decode uEnd_moveReceiveWindows.2.1 9 = .ok (.getfield 44, 3) := by decide +kernel
theorem dEnd_moveReceiveWindows_12 : decode uEnd_moveReceiveWindows.2.1 12 = .ok (.iload_n 2, 1) := by decide +kernel
theorem dEnd_moveReceiveWindows_13 : decode uEnd_moveReceiveWindows.2.1 13 = .ok (.aaload, 1) := by decide +kernel
theorem dEnd_moveReceiveWindows_14 : decode uEnd_moveReceiveWindows.2.1 14 = .ok (.invokevirtual 92, 3) := by decide +kernel
theorem dEnd_moveReceiveWindows_17 : decode uEnd_moveReceiveWindows.2.1 17 = .ok (.ifCond .eq 18, 3) := by decide +kernel
theorem dEnd_moveReceiveWindows_20 : decode uEnd_moveReceiveWindows.2.1 20 = .ok (.aload_n 0, 1) := by decide +kernel
theorem dEnd_moveReceiveWindows_21 : decode uEnd_moveReceiveWindows.2.1 21 = .ok (.getfield 44, 3) := by decide +kernel
theorem dEnd_moveReceiveWindows_24 : decode uEnd_moveReceiveWindows.2.1 24 = .ok (.iload_n 2, 1) := by decide +kernel
theorem dEnd_moveReceiveWindows_25 : decode uEnd_moveReceiveWindows.2.1 25 = .ok (.aaload, 1) := by decide +kernel
theorem dEnd_moveReceiveWindows_26 : decode uEnd_moveReceiveWindows.2.1 26 = .ok (.dup, 1) := by decide +kernel
theorem dEnd_moveReceiveWindows_27 : decode uEnd_moveReceiveWindows.2.1 27 = .ok (.getfield 197, 3) := by decide +kernel
theorem dEnd_moveReceiveWindows_30 : decode uEnd_moveReceiveWindows.2.1 30 = .ok (.iload_n 1, 1) := by decide +kernel
theorem dEnd_moveReceiveWindows_31 : decode uEnd_moveReceiveWindows.2.1 31 = .ok (.iadd, 1) := by decide +kernel
theorem dEnd_moveReceiveWindows_32 : decode uEnd_moveReceiveWindows.2.1 32 = .ok (.putfield 197, 3) := by decide +kernel
theorem dEnd_moveReceiveWindows_35 : decode uEnd_moveReceiveWindows.2.1 35 = .ok (.iinc 2 1, 3) := by decide +kernel
theorem dEnd_moveReceiveWindows_38 : decode uEnd_moveReceiveWindows.2.1 38 = .ok (.goto (-36), 3) := by decide +kernel
theorem dEnd_moveReceiveWindows_41 : decode uEnd_moveReceiveWindows.2.1 41 = .ok (.return_, 1) := by decide +kernel
theorem dEnd_closeIdleBelow_0 : decode uEnd_closeIdleBelow.2.1 0 = .ok (.iconst 0, 1) := by decide +kernel
theorem dEnd_closeIdleBelow_1 : decode uEnd_closeIdleBelow.2.1 1 = .ok (.istore_n 2, 1) := by decide +kernel
theorem dEnd_closeIdleBelow_2 : decode uEnd_closeIdleBelow.2.1 2 = .ok (.iload_n 2, 1) := by decide +kernel
theorem dEnd_closeIdleBelow_3 : decode uEnd_closeIdleBelow.2.1 3 = .ok (.bipush 12, 2) := by decide +kernel
theorem dEnd_closeIdleBelow_5 : decode uEnd_closeIdleBelow.2.1 5 = .ok (.if_icmp .ge 44, 3) := by decide +kernel
theorem dEnd_closeIdleBelow_8 : decode uEnd_closeIdleBelow.2.1 8 = .ok (.aload_n 0, 1) := by decide +kernel
theorem dEnd_closeIdleBelow_9 : decode uEnd_closeIdleBelow.2.1 9 = .ok (.getfield 44, 3) := by decide +kernel
theorem dEnd_closeIdleBelow_12 : decode uEnd_closeIdleBelow.2.1 12 = .ok (.iload_n 2, 1) := by decide +kernel
theorem dEnd_closeIdleBelow_13 : decode uEnd_closeIdleBelow.2.1 13 = .ok (.aaload, 1) := by decide +kernel
theorem dEnd_closeIdleBelow_14 : decode uEnd_closeIdleBelow.2.1 14 = .ok (.getfield 121, 3) := by decide +kernel
theorem dEnd_closeIdleBelow_17 : decode uEnd_closeIdleBelow.2.1 17 = .ok (.iload_n 1, 1) := by decide +kernel
theorem dEnd_closeIdleBelow_18 : decode uEnd_closeIdleBelow.2.1 18 = .ok (.if_icmp .ge 31, 3) := by decide +kernel
theorem dEnd_closeIdleBelow_21 : decode uEnd_closeIdleBelow.2.1 21 = .ok (.aload_n 0, 1) := by decide +kernel
theorem dEnd_closeIdleBelow_22 : decode uEnd_closeIdleBelow.2.1 22 = .ok (.getfield 44, 3) := by decide +kernel
theorem dEnd_closeIdleBelow_25 : decode uEnd_closeIdleBelow.2.1 25 = .ok (.iload_n 2, 1) := by decide +kernel
theorem dEnd_closeIdleBelow_26 : decode uEnd_closeIdleBelow.2.1 26 = .ok (.aaload, 1) := by decide +kernel
theorem dEnd_closeIdleBelow_27 : decode uEnd_closeIdleBelow.2.1 27 = .ok (.getfield 253, 3) := by decide +kernel
theorem dEnd_closeIdleBelow_30 : decode uEnd_closeIdleBelow.2.1 30 = .ok (.ifCond .ne 13, 3) := by decide +kernel
theorem dEnd_closeIdleBelow_33 : decode uEnd_closeIdleBelow.2.1 33 = .ok (.aload_n 0, 1) := by decide +kernel
theorem dEnd_closeIdleBelow_34 : decode uEnd_closeIdleBelow.2.1 34 = .ok (.getfield 44, 3) := by decide +kernel
theorem dEnd_closeIdleBelow_37 : decode uEnd_closeIdleBelow.2.1 37 = .ok (.iload_n 2, 1) := by decide +kernel
theorem dEnd_closeIdleBelow_38 : decode uEnd_closeIdleBelow.2.1 38 = .ok (.aaload, 1) := by decide +kernel
theorem dEnd_closeIdleBelow_39 : decode uEnd_closeIdleBelow.2.1 39 = .ok (.iconst 4, 1) := by decide +kernel
theorem dEnd_closeIdleBelow_40 : decode uEnd_closeIdleBelow.2.1 40 = .ok (.putfield 253, 3) := by decide +kernel
theorem dEnd_closeIdleBelow_43 : decode uEnd_closeIdleBelow.2.1 43 = .ok (.iinc 2 1, 3) := by decide +kernel
theorem dEnd_closeIdleBelow_46 : decode uEnd_closeIdleBelow.2.1 46 = .ok (.goto (-44), 3) := by decide +kernel
theorem dEnd_closeIdleBelow_49 : decode uEnd_closeIdleBelow.2.1 49 = .ok (.return_, 1) := by decide +kernel
theorem dEnc_hearLimit_0 : decode uEnc_hearLimit.2.1 0 = .ok (.aload_n 0, 1) := by decide +kernel
theorem dEnc_hearLimit_1 : decode uEnc_hearLimit.2.1 1 = .ok (.aload_n 0, 1) := by decide +kernel
theorem dEnc_hearLimit_2 : decode uEnc_hearLimit.2.1 2 = .ok (.getfield 18, 3) := by decide +kernel
theorem dEnc_hearLimit_5 : decode uEnc_hearLimit.2.1 5 = .ok (.ifCond .eq 14, 3) := by decide +kernel
theorem dEnc_hearLimit_8 : decode uEnc_hearLimit.2.1 8 = .ok (.aload_n 0, 1) := by decide +kernel
theorem dEnc_hearLimit_9 : decode uEnc_hearLimit.2.1 9 = .ok (.getfield 22, 3) := by decide +kernel
theorem dEnc_hearLimit_12 : decode uEnc_hearLimit.2.1 12 = .ok (.iload_n 1, 1) := by decide +kernel
theorem dEnc_hearLimit_13 : decode uEnc_hearLimit.2.1 13 = .ok (.invokestatic 29, 3) := by decide +kernel
theorem dEnc_hearLimit_16 : decode uEnc_hearLimit.2.1 16 = .ok (.goto 4, 3) := by decide +kernel
theorem dEnc_hearLimit_19 : decode uEnc_hearLimit.2.1 19 = .ok (.iload_n 1, 1) := by decide +kernel
theorem dEnc_hearLimit_20 : decode uEnc_hearLimit.2.1 20 = .ok (.putfield 22, 3) := by decide +kernel
theorem dEnc_hearLimit_23 : decode uEnc_hearLimit.2.1 23 = .ok (.aload_n 0, 1) := by decide +kernel
theorem dEnc_hearLimit_24 : decode uEnc_hearLimit.2.1 24 = .ok (.iload_n 1, 1) := by decide +kernel
theorem dEnc_hearLimit_25 : decode uEnc_hearLimit.2.1 25 = .ok (.putfield 26, 3) := by decide +kernel
theorem dEnc_hearLimit_28 : decode uEnc_hearLimit.2.1 28 = .ok (.aload_n 0, 1) := by decide +kernel
theorem dEnc_hearLimit_29 : decode uEnc_hearLimit.2.1 29 = .ok (.iconst 1, 1) := by decide +kernel
theorem dEnc_hearLimit_30 : decode uEnc_hearLimit.2.1 30 = .ok (.putfield 18, 3) := by decide +kernel
theorem dEnc_hearLimit_33 : decode uEnc_hearLimit.2.1 33 = .ok (.return_, 1) := by decide +kernel
theorem dDec_limitInForce_0 : decode uDec_limitInForce.2.1 0 = .ok (.iload_n 1, 1) := by decide +kernel
theorem dDec_limitInForce_1 : decode uDec_limitInForce.2.1 1 = .ok (.aload_n 0, 1) := by decide +kernel
theorem dDec_limitInForce_2 : decode uDec_limitInForce.2.1 2 = .ok (.getfield 12, 3) := by decide +kernel
theorem dDec_limitInForce_5 : decode uDec_limitInForce.2.1 5 = .ok (.getfield 22, 3) := by decide +kernel
theorem dDec_limitInForce_8 : decode uDec_limitInForce.2.1 8 = .ok (.if_icmp .ge 8, 3) := by decide +kernel
theorem dDec_limitInForce_11 : decode uDec_limitInForce.2.1 11 = .ok (.aload_n 0, 1) := by decide +kernel
theorem dDec_limitInForce_12 : decode uDec_limitInForce.2.1 12 = .ok (.iconst 1, 1) := by decide +kernel
theorem dDec_limitInForce_13 : decode uDec_limitInForce.2.1 13 = .ok (.putfield 18, 3) := by decide +kernel
theorem dDec_limitInForce_16 : decode uDec_limitInForce.2.1 16 = .ok (.return_, 1) := by decide +kernel
theorem dEnd_putInForce_0 : decode uEnd_putInForce.2.1 0 = .ok (.iload_n 1, 1) := by decide +kernel
theorem dEnd_putInForce_1 : decode uEnd_putInForce.2.1 1 = .ok (.lookupswitch 57 #[(1, 27), (3, 46)], 27) := by decide +kernel
theorem dEnd_putInForce_28 : decode uEnd_putInForce.2.1 28 = .ok (.aload_n 0, 1) := by decide +kernel
theorem dEnd_putInForce_29 : decode uEnd_putInForce.2.1 29 = .ok (.getfield 38, 3) := by decide +kernel
theorem dEnd_putInForce_32 : decode uEnd_putInForce.2.1 32 = .ok (.iload_n 2, 1) := by decide +kernel
theorem dEnd_putInForce_33 : decode uEnd_putInForce.2.1 33 = .ok (.invokevirtual 304, 3) := by decide +kernel
theorem dEnd_putInForce_36 : decode uEnd_putInForce.2.1 36 = .ok (.aload_n 0, 1) := by decide +kernel
theorem dEnd_putInForce_37 : decode uEnd_putInForce.2.1 37 = .ok (.getfield 55, 3) := by decide +kernel
theorem dEnd_putInForce_40 : decode uEnd_putInForce.2.1 40 = .ok (.iload_n 2, 1) := by decide +kernel
theorem dEnd_putInForce_41 : decode uEnd_putInForce.2.1 41 = .ok (.putfield 283, 3) := by decide +kernel
theorem dEnd_putInForce_44 : decode uEnd_putInForce.2.1 44 = .ok (.goto 35, 3) := by decide +kernel
theorem dEnd_putInForce_47 : decode uEnd_putInForce.2.1 47 = .ok (.aload_n 0, 1) := by decide +kernel
theorem dEnd_putInForce_48 : decode uEnd_putInForce.2.1 48 = .ok (.getfield 55, 3) := by decide +kernel
theorem dEnd_putInForce_51 : decode uEnd_putInForce.2.1 51 = .ok (.iload_n 2, 1) := by decide +kernel
theorem dEnd_putInForce_52 : decode uEnd_putInForce.2.1 52 = .ok (.putfield 103, 3) := by decide +kernel
theorem dEnd_putInForce_55 : decode uEnd_putInForce.2.1 55 = .ok (.goto 24, 3) := by decide +kernel
theorem dEnd_putInForce_58 : decode uEnd_putInForce.2.1 58 = .ok (.aload_n 0, 1) := by decide +kernel
theorem dEnd_putInForce_59 : decode uEnd_putInForce.2.1 59 = .ok (.iload_n 2, 1) := by decide +kernel
theorem dEnd_putInForce_60 : decode uEnd_putInForce.2.1 60 = .ok (.aload_n 0, 1) := by decide +kernel
theorem dEnd_putInForce_61 : decode uEnd_putInForce.2.1 61 = .ok (.getfield 55, 3) := by decide +kernel
theorem dEnd_putInForce_64 : decode uEnd_putInForce.2.1 64 = .ok (.getfield 110, 3) := by decide +kernel
theorem dEnd_putInForce_67 : decode uEnd_putInForce.2.1 67 = .ok (.isub, 1) := by decide +kernel
theorem dEnd_putInForce_68 : decode uEnd_putInForce.2.1 68 = .ok (.invokevirtual 307, 3) := by decide +kernel
theorem dEnd_putInForce_71 : decode uEnd_putInForce.2.1 71 = .ok (.aload_n 0, 1) := by decide +kernel
theorem dEnd_putInForce_72 : decode uEnd_putInForce.2.1 72 = .ok (.getfield 55, 3) := by decide +kernel
theorem dEnd_putInForce_75 : decode uEnd_putInForce.2.1 75 = .ok (.iload_n 2, 1) := by decide +kernel
theorem dEnd_putInForce_76 : decode uEnd_putInForce.2.1 76 = .ok (.putfield 110, 3) := by decide +kernel
theorem dEnd_putInForce_79 : decode uEnd_putInForce.2.1 79 = .ok (.return_, 1) := by decide +kernel
theorem dEnd_hearSetting_0 : decode uEnd_hearSetting.2.1 0 = .ok (.iload_n 1, 1) := by decide +kernel
theorem dEnd_hearSetting_1 : decode uEnd_hearSetting.2.1 1 = .ok (.tableswitch 77 1 4 #[31, 77, 42, 53], 31) := by decide +kernel
theorem dEnd_hearSetting_32 : decode uEnd_hearSetting.2.1 32 = .ok (.aload_n 0, 1) := by decide +kernel
theorem dEnd_hearSetting_33 : decode uEnd_hearSetting.2.1 33 = .ok (.getfield 31, 3) := by decide +kernel
theorem dEnd_hearSetting_36 : decode uEnd_hearSetting.2.1 36 = .ok (.iload_n 2, 1) := by decide +kernel
theorem dEnd_hearSetting_37 : decode uEnd_hearSetting.2.1 37 = .ok (.invokevirtual 321, 3) := by decide +kernel
theorem dEnd_hearSetting_40 : decode uEnd_hearSetting.2.1 40 = .ok (.goto 38, 3) := by decide +kernel
theorem dEnd_hearSetting_43 : decode uEnd_hearSetting.2.1 43 = .ok (.aload_n 0, 1) := by decide +kernel
theorem dEnd_hearSetting_44 : decode uEnd_hearSetting.2.1 44 = .ok (.getfield 51, 3) := by decide +kernel
theorem dEnd_hearSetting_47 : decode uEnd_hearSetting.2.1 47 = .ok (.iload_n 2, 1) := by decide +kernel
theorem dEnd_hearSetting_48 : decode uEnd_hearSetting.2.1 48 = .ok (.putfield 103, 3) := by decide +kernel
theorem dEnd_hearSetting_51 : decode uEnd_hearSetting.2.1 51 = .ok (.goto 27, 3) := by decide +kernel
theorem dEnd_hearSetting_54 : decode uEnd_hearSetting.2.1 54 = .ok (.aload_n 0, 1) := by decide +kernel
theorem dEnd_hearSetting_55 : decode uEnd_hearSetting.2.1 55 = .ok (.iload_n 2, 1) := by decide +kernel
theorem dEnd_hearSetting_56 : decode uEnd_hearSetting.2.1 56 = .ok (.aload_n 0, 1) := by decide +kernel
theorem dEnd_hearSetting_57 : decode uEnd_hearSetting.2.1 57 = .ok (.getfield 51, 3) := by decide +kernel
theorem dEnd_hearSetting_60 : decode uEnd_hearSetting.2.1 60 = .ok (.getfield 110, 3) := by decide +kernel
theorem dEnd_hearSetting_63 : decode uEnd_hearSetting.2.1 63 = .ok (.isub, 1) := by decide +kernel
theorem dEnd_hearSetting_64 : decode uEnd_hearSetting.2.1 64 = .ok (.invokevirtual 324, 3) := by decide +kernel
theorem dEnd_hearSetting_67 : decode uEnd_hearSetting.2.1 67 = .ok (.aload_n 0, 1) := by decide +kernel
theorem dEnd_hearSetting_68 : decode uEnd_hearSetting.2.1 68 = .ok (.getfield 51, 3) := by decide +kernel
theorem dEnd_hearSetting_71 : decode uEnd_hearSetting.2.1 71 = .ok (.iload_n 2, 1) := by decide +kernel
theorem dEnd_hearSetting_72 : decode uEnd_hearSetting.2.1 72 = .ok (.putfield 110, 3) := by decide +kernel
theorem dEnd_hearSetting_75 : decode uEnd_hearSetting.2.1 75 = .ok (.goto 3, 3) := by decide +kernel
theorem dEnd_hearSetting_78 : decode uEnd_hearSetting.2.1 78 = .ok (.return_, 1) := by decide +kernel
theorem dEnd_getSetting_0 : decode uEnd_getSetting.2.1 0 = .ok (.iload_n 1, 1) := by decide +kernel
theorem dEnd_getSetting_1 : decode uEnd_getSetting.2.1 1 = .ok (.iload_n 2, 1) := by decide +kernel
theorem dEnd_getSetting_2 : decode uEnd_getSetting.2.1 2 = .ok (.invokestatic 310, 3) := by decide +kernel
theorem dEnd_getSetting_5 : decode uEnd_getSetting.2.1 5 = .ok (.ifCond .ne 18, 3) := by decide +kernel
theorem dEnd_getSetting_8 : decode uEnd_getSetting.2.1 8 = .ok (.aload_n 0, 1) := by decide +kernel
theorem dEnd_getSetting_9 : decode uEnd_getSetting.2.1 9 = .ok (.iload_n 1, 1) := by decide +kernel
theorem dEnd_getSetting_10 : decode uEnd_getSetting.2.1 10 = .ok (.iconst 4, 1) := by decide +kernel
theorem dEnd_getSetting_11 : decode uEnd_getSetting.2.1 11 = .ok (.if_icmp .ne 7, 3) := by decide +kernel
theorem dEnd_getSetting_14 : decode uEnd_getSetting.2.1 14 = .ok (.iconst 3, 1) := by decide +kernel
theorem dEnd_getSetting_15 : decode uEnd_getSetting.2.1 15 = .ok (.goto 4, 3) := by decide +kernel
theorem dEnd_getSetting_18 : decode uEnd_getSetting.2.1 18 = .ok (.iconst 1, 1) := by decide +kernel
theorem dEnd_getSetting_19 : decode uEnd_getSetting.2.1 19 = .ok (.invokevirtual 256, 3) := by decide +kernel
theorem dEnd_getSetting_22 : decode uEnd_getSetting.2.1 22 = .ok (.ireturn, 1) := by decide +kernel
theorem dEnd_getSetting_23 : decode uEnd_getSetting.2.1 23 = .ok (.aload_n 0, 1) := by decide +kernel
theorem dEnd_getSetting_24 : decode uEnd_getSetting.2.1 24 = .ok (.iload_n 1, 1) := by decide +kernel
theorem dEnd_getSetting_25 : decode uEnd_getSetting.2.1 25 = .ok (.iload_n 2, 1) := by decide +kernel
theorem dEnd_getSetting_26 : decode uEnd_getSetting.2.1 26 = .ok (.invokevirtual 314, 3) := by decide +kernel
theorem dEnd_getSetting_29 : decode uEnd_getSetting.2.1 29 = .ok (.aload_n 0, 1) := by decide +kernel
theorem dEnd_getSetting_30 : decode uEnd_getSetting.2.1 30 = .ok (.getfield 82, 3) := by decide +kernel
theorem dEnd_getSetting_33 : decode uEnd_getSetting.2.1 33 = .ok (.invokestatic 317, 3) := by decide +kernel
theorem dEnd_getSetting_36 : decode uEnd_getSetting.2.1 36 = .ok (.invokevirtual 134, 3) := by decide +kernel
theorem dEnd_getSetting_39 : decode uEnd_getSetting.2.1 39 = .ok (.iconst 0, 1) := by decide +kernel
theorem dEnd_getSetting_40 : decode uEnd_getSetting.2.1 40 = .ok (.ireturn, 1) := by decide +kernel
theorem dEnd_getRequest_0 : decode uEnd_getRequest.2.1 0 = .ok (.aload_n 0, 1) := by decide +kernel
theorem dEnd_getRequest_1 : decode uEnd_getRequest.2.1 1 = .ok (.aload_n 1, 1) := by decide +kernel
theorem dEnd_getRequest_2 : decode uEnd_getRequest.2.1 2 = .ok (.getfield 121, 3) := by decide +kernel
theorem dEnd_getRequest_5 : decode uEnd_getRequest.2.1 5 = .ok (.invokevirtual 298, 3) := by decide +kernel
theorem dEnd_getRequest_8 : decode uEnd_getRequest.2.1 8 = .ok (.aload_n 0, 1) := by decide +kernel
theorem dEnd_getRequest_9 : decode uEnd_getRequest.2.1 9 = .ok (.invokevirtual 99, 3) := by decide +kernel
theorem dEnd_getRequest_12 : decode uEnd_getRequest.2.1 12 = .ok (.aload_n 0, 1) := by decide +kernel
theorem dEnd_getRequest_13 : decode uEnd_getRequest.2.1 13 = .ok (.getfield 55, 3) := by decide +kernel
theorem dEnd_getRequest_16 : decode uEnd_getRequest.2.1 16 = .ok (.getfield 103, 3) := by decide +kernel
theorem dEnd_getRequest_19 : decode uEnd_getRequest.2.1 19 = .ok (.if_icmp .lt 27, 3) := by decide +kernel
theorem dEnd_getRequest_22 : decode uEnd_getRequest.2.1 22 = .ok (.aload_n 0, 1) := by decide +kernel
theorem dEnd_getRequest_23 : decode uEnd_getRequest.2.1 23 = .ok (.getfield 82, 3) := by decide +kernel
theorem dEnd_getRequest_26 : decode uEnd_getRequest.2.1 26 = .ok (.aload_n 1, 1) := by decide +kernel
theorem dEnd_getRequest_27 : decode uEnd_getRequest.2.1 27 = .ok (.getfield 121, 3) := by decide +kernel
theorem dEnd_getRequest_30 : decode uEnd_getRequest.2.1 30 = .ok (.bipush 7, 2) := by decide +kernel
theorem dEnd_getRequest_32 : decode uEnd_getRequest.2.1 32 = .ok (.invokestatic 205, 3) := by decide +kernel
theorem dEnd_getRequest_35 : decode uEnd_getRequest.2.1 35 = .ok (.invokevirtual 134, 3) := by decide +kernel
theorem dEnd_getRequest_38 : decode uEnd_getRequest.2.1 38 = .ok (.aload_n 1, 1) := by decide +kernel
theorem dEnd_getRequest_39 : decode uEnd_getRequest.2.1 39 = .ok (.invokevirtual 208, 3) := by decide +kernel
theorem dEnd_getRequest_42 : decode uEnd_getRequest.2.1 42 = .ok (.pop, 1) := by decide +kernel
theorem dEnd_getRequest_43 : decode uEnd_getRequest.2.1 43 = .ok (.bipush 7, 2) := by decide +kernel
theorem dEnd_getRequest_45 : decode uEnd_getRequest.2.1 45 = .ok (.ireturn, 1) := by decide +kernel
theorem dEnd_getRequest_46 : decode uEnd_getRequest.2.1 46 = .ok (.aload_n 1, 1) := by decide +kernel
theorem dEnd_getRequest_47 : decode uEnd_getRequest.2.1 47 = .ok (.aload_n 0, 1) := by decide +kernel
theorem dEnd_getRequest_48 : decode uEnd_getRequest.2.1 48 = .ok (.getfield 51, 3) := by decide +kernel
theorem dEnd_getRequest_51 : decode uEnd_getRequest.2.1 51 = .ok (.getfield 110, 3) := by decide +kernel
theorem dEnd_getRequest_54 : decode uEnd_getRequest.2.1 54 = .ok (.aload_n 0, 1) := by decide +kernel
theorem dEnd_getRequest_55 : decode uEnd_getRequest.2.1 55 = .ok (.getfield 55, 3) := by decide +kernel
theorem dEnd_getRequest_58 : decode uEnd_getRequest.2.1 58 = .ok (.getfield 110, 3) := by decide +kernel
theorem dEnd_getRequest_61 : decode uEnd_getRequest.2.1 61 = .ok (.invokevirtual 113, 3) := by decide +kernel
theorem dEnd_getRequest_64 : decode uEnd_getRequest.2.1 64 = .ok (.aload_n 0, 1) := by decide +kernel
theorem dEnd_getRequest_65 : decode uEnd_getRequest.2.1 65 = .ok (.aload_n 1, 1) := by decide +kernel
theorem dEnd_getRequest_66 : decode uEnd_getRequest.2.1 66 = .ok (.aload_n 2, 1) := by decide +kernel
theorem dEnd_getRequest_67 : decode uEnd_getRequest.2.1 67 = .ok (.iload_n 3, 1) := by decide +kernel
theorem dEnd_getRequest_68 : decode uEnd_getRequest.2.1 68 = .ok (.invokevirtual 294, 3) := by decide +kernel
theorem dEnd_getRequest_71 : decode uEnd_getRequest.2.1 71 = .ok (.iconst 0, 1) := by decide +kernel
theorem dEnd_getRequest_72 : decode uEnd_getRequest.2.1 72 = .ok (.ireturn, 1) := by decide +kernel
theorem fs_End_121 : fS "InterleavedLink$End" 121 8 0 := ⟨"InterleavedLink$Stream", T_Stream, 10, cf_Stream, by decide, Or.inl (gW_in 252 (by decide +kernel) rfl)⟩
theorem cs_End_205 : cSt "InterleavedLink$End" 205 uFrame_ofReset 2 := ⟨⟨Or.inl (gW_in 658 (by decide +kernel) rfl), (gW_in 76 (by decide +kernel) rfl), (gW_in 660 (by decide +kernel) rfl), ⟨by decide, by decide⟩, by decide +kernel⟩, (gW_in 659 (by decide +kernel) rfl)⟩
theorem cs_End_208 : cV "InterleavedLink$End" 208 uStream_cut 0 := ⟨⟨Or.inl (gW_in 661 (by decide +kernel) rfl), (gW_in 72 (by decide +kernel) rfl), (gW_in 664 (by decide +kernel) rfl), ⟨by decide, by decide⟩, by decide +kernel⟩, (gW_in 662 (by decide +kernel) rfl), (gW_in 663 (by decide +kernel) rfl)⟩
theorem cs_End_191 : cV "InterleavedLink$End" 191 uEnd_giveBack 1 := ⟨⟨Or.inl (gW_in 638 (by decide +kernel) rfl), (gW_in 66 (by decide +kernel) rfl), (gW_in 641 (by decide +kernel) rfl), ⟨by decide, by decide⟩, by decide +kernel⟩, (gW_in 640 (by decide +kernel) rfl), (gW_in 9 (by decide +kernel) rfl)⟩
theorem fs_End_243 : fS "InterleavedLink$End" 243 12 1 := ⟨"InterleavedLink$Frame", T_Frame, 7, cf_Frame, by decide, Or.inl (gW_in 522 (by decide +kernel) rfl)⟩
theorem cs_End_106 : cV "InterleavedLink$End" 106 uEnd_streamOf 1 := ⟨⟨Or.inl (gW_in 408 (by decide +kernel) rfl), (gW_in 66 (by decide +kernel) rfl), (gW_in 411 (by decide +kernel) rfl), ⟨by decide, by decide⟩, by decide +kernel⟩, (gW_in 409 (by decide +kernel) rfl), (gW_in 410 (by decide +kernel) rfl)⟩
theorem cs_End_256 : cV "InterleavedLink$End" 256 uEnd_linkError 1 := ⟨⟨Or.inl (gW_in 707 (by decide +kernel) rfl), (gW_in 66 (by decide +kernel) rfl), (gW_in 710 (by decide +kernel) rfl), ⟨by decide, by decide⟩, by decide +kernel⟩, (gW_in 709 (by decide +kernel) rfl), (gW_in 11 (by decide +kernel) rfl)⟩
theorem fs_End_237 : fS "InterleavedLink$End" 237 12 2 := ⟨"InterleavedLink$Frame", T_Frame, 7, cf_Frame, by decide, Or.inl (gW_in 524 (by decide +kernel) rfl)⟩
theorem fs_End_253 : fS "InterleavedLink$End" 253 8 1 := ⟨"InterleavedLink$Stream", T_Stream, 10, cf_Stream, by decide, Or.inl (gW_in 255 (by decide +kernel) rfl)⟩
theorem ps_End_173 {nm : String} : pS "InterleavedLink$End" nm 173 8 3 .int := ⟨"InterleavedLink$Stream", T_Stream, 10, cf_Stream, by decide, by decide +kernel, Or.inl ⟨rfl, Or.inl (gW_in 259 (by decide +kernel) rfl)⟩⟩
theorem cs_End_262 : cV "InterleavedLink$End" 262 uEnd_endWithReset 3 := ⟨⟨Or.inl (gW_in 714 (by decide +kernel) rfl), (gW_in 66 (by decide +kernel) rfl), (gW_in 657 (by decide +kernel) rfl), ⟨by decide, by decide⟩, by decide +kernel⟩, (gW_in 655 (by decide +kernel) rfl), (gW_in 656 (by decide +kernel) rfl)⟩
theorem ps_End_266 {nm : String} : pS "InterleavedLink$End" nm 266 8 7 (.object "InterleavedLink$FieldList") := ⟨"InterleavedLink$Stream", T_Stream, 10, cf_Stream, by decide, by decide +kernel, Or.inl ⟨rfl, Or.inl (gW_in 272 (by decide +kernel) rfl)⟩⟩
theorem cs_End_276 : cV "InterleavedLink$End" 276 uStream_endGot 0 := ⟨⟨Or.inl (gW_in 719 (by decide +kernel) rfl), (gW_in 72 (by decide +kernel) rfl), (gW_in 722 (by decide +kernel) rfl), ⟨by decide, by decide⟩, by decide +kernel⟩, (gW_in 720 (by decide +kernel) rfl), (gW_in 721 (by decide +kernel) rfl)⟩
theorem fs_End_197 : fS "InterleavedLink$End" 197 8 4 := ⟨"InterleavedLink$Stream", T_Stream, 10, cf_Stream, by decide, Or.inl (gW_in 262 (by decide +kernel) rfl)⟩
theorem ps_End_197 {nm : String} : pS "InterleavedLink$End" nm 197 8 4 .int := ⟨"InterleavedLink$Stream", T_Stream, 10, cf_Stream, by decide, by decide +kernel, Or.inl ⟨rfl, Or.inl (gW_in 262 (by decide +kernel) rfl)⟩⟩
theorem ps_End_253 {nm : String} : pS "InterleavedLink$End" nm 253 8 1 .int := ⟨"InterleavedLink$Stream", T_Stream, 10, cf_Stream, by decide, by decide +kernel, Or.inl ⟨rfl, Or.inl (gW_in 255 (by decide +kernel) rfl)⟩⟩
theorem fs_Enc_18 : fS "InterleavedLink$Encoder" 18 4 1 := ⟨"InterleavedLink$Encoder", T_Enc, 4, cf_Enc, by decide, Or.inl (gW_in 181 (by decide +kernel) rfl)⟩
theorem fs_Enc_22 : fS "InterleavedLink$Encoder" 22 4 2 := ⟨"InterleavedLink$Encoder", T_Enc, 4, cf_Enc, by decide, Or.inl (gW_in 182 (by decide +kernel) rfl)⟩
theorem fs_Dec_12 : fS "InterleavedLink$Decoder" 12 6 0 := ⟨"InterleavedLink$Decoder", T_Dec, 2, cf_Dec, by decide, Or.inl (gW_in 201 (by decide +kernel) rfl)⟩
theorem fs_Dec_22 : fS "InterleavedLink$Decoder" 22 5 5 := ⟨"InterleavedLink$Table", T_Table, 6, cf_Table, by decide, Or.inl (gW_in 164 (by decide +kernel) rfl)⟩
theorem fs_End_38 : fS "InterleavedLink$End" 38 2 8 := ⟨"InterleavedLink$End", T_End, 17, cf_End, by decide, Or.inl (gW_in 315 (by decide +kernel) rfl)⟩
theorem cs_End_304 : cV "InterleavedLink$End" 304 uDec_limitInForce 1 := ⟨⟨Or.inl (gW_in 767 (by decide +kernel) rfl), (gW_in 70 (by decide +kernel) rfl), (gW_in 770 (by decide +kernel) rfl), ⟨by decide, by decide⟩, by decide +kernel⟩, (gW_in 768 (by decide +kernel) rfl), (gW_in 769 (by decide +kernel) rfl)⟩
theorem fs_End_55 : fS "InterleavedLink$End" 55 2 11 := ⟨"InterleavedLink$End", T_End, 17, cf_End, by decide, Or.inl (gW_in 319 (by decide +kernel) rfl)⟩
theorem ps_End_283 {nm : String} : pS "InterleavedLink$End" nm 283 7 0 .int := ⟨"InterleavedLink$Settings", T_Sett, 3, cf_Sett, by decide, by decide +kernel, Or.inl ⟨rfl, Or.inl (gW_in 218 (by decide +kernel) rfl)⟩⟩
theorem ps_End_103 {nm : String} : pS "InterleavedLink$End" nm 103 7 1 .int := ⟨"InterleavedLink$Settings", T_Sett, 3, cf_Sett, by decide, by decide +kernel, Or.inl ⟨rfl, Or.inl (gW_in 220 (by decide +kernel) rfl)⟩⟩
theorem fs_End_110 : fS "InterleavedLink$End" 110 7 2 := ⟨"InterleavedLink$Settings", T_Sett, 3, cf_Sett, by decide, Or.inl (gW_in 222 (by decide +kernel) rfl)⟩
theorem cs_End_307 : cV "InterleavedLink$End" 307 uEnd_moveReceiveWindows 1 := ⟨⟨Or.inl (gW_in 771 (by decide +kernel) rfl), (gW_in 66 (by decide +kernel) rfl), (gW_in 774 (by decide +kernel) rfl), ⟨by decide, by decide⟩, by decide +kernel⟩, (gW_in 773 (by decide +kernel) rfl), (gW_in 20 (by decide +kernel) rfl)⟩
theorem ps_End_110 {nm : String} : pS "InterleavedLink$End" nm 110 7 2 .int := ⟨"InterleavedLink$Settings", T_Sett, 3, cf_Sett, by decide, by decide +kernel, Or.inl ⟨rfl, Or.inl (gW_in 222 (by decide +kernel) rfl)⟩⟩
theorem fs_End_31 : fS "InterleavedLink$End" 31 2 7 := ⟨"InterleavedLink$End", T_End, 17, cf_End, by decide, Or.inl (gW_in 313 (by decide +kernel) rfl)⟩
theorem cs_End_321 : cV "InterleavedLink$End" 321 uEnc_hearLimit 1 := ⟨⟨Or.inl (gW_in 784 (by decide +kernel) rfl), (gW_in 68 (by decide +kernel) rfl), (gW_in 787 (by decide +kernel) rfl), ⟨by decide, by decide⟩, by decide +kernel⟩, (gW_in 785 (by decide +kernel) rfl), (gW_in 786 (by decide +kernel) rfl)⟩
theorem cs_End_324 : cV "InterleavedLink$End" 324 uEnd_moveSendWindows 1 := ⟨⟨Or.inl (gW_in 789 (by decide +kernel) rfl), (gW_in 66 (by decide +kernel) rfl), (gW_in 792 (by decide +kernel) rfl), ⟨by decide, by decide⟩, by decide +kernel⟩, (gW_in 791 (by decide +kernel) rfl), (gW_in 23 (by decide +kernel) rfl)⟩
theorem cs_End_310 : cSt "InterleavedLink$End" 310 uSett_isInRange 2 := ⟨⟨Or.inl (gW_in 779 (by decide +kernel) rfl), (gW_in 71 (by decide +kernel) rfl), (gW_in 678 (by decide +kernel) rfl), ⟨by decide, by decide⟩, by decide +kernel⟩, (gW_in 677 (by decide +kernel) rfl)⟩
theorem cs_End_314 : cV "InterleavedLink$End" 314 uEnd_hearSetting 2 := ⟨⟨Or.inl (gW_in 780 (by decide +kernel) rfl), (gW_in 66 (by decide +kernel) rfl), (gW_in 783 (by decide +kernel) rfl), ⟨by decide, by decide⟩, by decide +kernel⟩, (gW_in 782 (by decide +kernel) rfl), (gW_in 22 (by decide +kernel) rfl)⟩
theorem cs_End_317 : cSt "InterleavedLink$End" 317 uFrame_ofAck 0 := ⟨⟨Or.inl (gW_in 793 (by decide +kernel) rfl), (gW_in 76 (by decide +kernel) rfl), (gW_in 795 (by decide +kernel) rfl), ⟨by decide, by decide⟩, by decide +kernel⟩, (gW_in 794 (by decide +kernel) rfl)⟩
theorem cs_End_298 : cV "InterleavedLink$End" 298 uEnd_closeIdleBelow 1 := ⟨⟨Or.inl (gW_in 747 (by decide +kernel) rfl), (gW_in 66 (by decide +kernel) rfl), (gW_in 750 (by decide +kernel) rfl), ⟨by decide, by decide⟩, by decide +kernel⟩, (gW_in 749 (by decide +kernel) rfl), (gW_in 15 (by decide +kernel) rfl)⟩
theorem cs_End_113 : cV "InterleavedLink$End" 113 uStream_open 2 := ⟨⟨Or.inl (gW_in 413 (by decide +kernel) rfl), (gW_in 72 (by decide +kernel) rfl), (gW_in 416 (by decide +kernel) rfl), ⟨by decide, by decide⟩, by decide +kernel⟩, (gW_in 414 (by decide +kernel) rfl), (gW_in 415 (by decide +kernel) rfl)⟩
theorem cs_End_294 : cV "InterleavedLink$End" 294 uEnd_takeList 3 := ⟨⟨Or.inl (gW_in 751 (by decide +kernel) rfl), (gW_in 66 (by decide +kernel) rfl), (gW_in 754 (by decide +kernel) rfl), ⟨by decide, by decide⟩, by decide +kernel⟩, (gW_in 753 (by decide +kernel) rfl), (gW_in 16 (by decide +kernel) rfl)⟩
theorem cs_End_194 : cV "InterleavedLink$End" 194 uStream_mayGet 0 := ⟨⟨Or.inl (gW_in 645 (by decide +kernel) rfl), (gW_in 72 (by decide +kernel) rfl), (gW_in 648 (by decide +kernel) rfl), ⟨by decide, by decide⟩, by decide +kernel⟩, (gW_in 646 (by decide +kernel) rfl), (gW_in 647 (by decide +kernel) rfl)⟩
theorem fs_End_266 : fS "InterleavedLink$End" 266 8 7 := ⟨"InterleavedLink$Stream", T_Stream, 10, cf_Stream, by decide, Or.inl (gW_in 272 (by decide +kernel) rfl)⟩
theorem fs_End_259 : fS "InterleavedLink$End" 259 8 2 := ⟨"InterleavedLink$Stream", T_Stream, 10, cf_Stream, by decide, Or.inl (gW_in 257 (by decide +kernel) rfl)⟩
theorem fs_End_188 : fS "InterleavedLink$End" 188 8 9 := ⟨"InterleavedLink$Stream", T_Stream, 10, cf_Stream, by decide, Or.inl (gW_in 277 (by decide +kernel) rfl)⟩
theorem fs_End_269 : fS "InterleavedLink$End" 269 12 5 := ⟨"InterleavedLink$Frame", T_Frame, 7, cf_Frame, by decide, Or.inl (gW_in 530 (by decide +kernel) rfl)⟩
theorem cs_End_273 : cV "InterleavedLink$End" 273 uBQ_add 1 := ⟨⟨Or.inl (gW_in 715 (by decide +kernel) rfl), (gW_in 73 (by decide +kernel) rfl), (gW_in 718 (by decide +kernel) rfl), ⟨by decide, by decide⟩, by decide +kernel⟩, (gW_in 716 (by decide +kernel) rfl), (gW_in 717 (by decide +kernel) rfl)⟩
theorem fs_End_228 : fS "InterleavedLink$End" 228 12 3 := ⟨"InterleavedLink$Frame", T_Frame, 7, cf_Frame, by decide, Or.inl (gW_in 526 (by decide +kernel) rfl)⟩
/-! ===== the class over the state: streams, windows, settings ===== -/
def opnA (A : zA) (e k : Nat) (s r : Int32) : zA := yI (yI (yI A (29 + 80 * e + 5 * k) 1 1) (29 + 80 * e + 5 * k) 3 s) (29 + 80 * e + 5 * k) 4 r
def endS (A : zA) (e k : Nat) : zA := if zI A (29 + 80 * e + 5 * k) 1 = 1 then yI A (29 + 80 * e + 5 * k) 1 2 else yI A (29 + 80 * e + 5 * k) 1 4
def endG (A : zA) (e k : Nat) : zA := if zI A (29 + 80 * e + 5 * k) 1 = 1 then yI A (29 + 80 * e + 5 * k) 1 3 else yI A (29 + 80 * e + 5 * k) 1 4
def rstA (A : zA) (e k : Nat) (c n : Int32) : zA := give (cutA (push A (1 - e) (3, nI (2 * k + 1), c, 0, 0, [], [])) e k) e (nI (unrd (zU A e) k).length + n)
def gRs (A : zA) (e k : Nat) : Int32 × zA := if zI A (29 + 80 * e + 5 * k) 1 = 0 then (100 + 1, lerr A e 1) else if zI A (29 + 80 * e + 5 * k) 1 = 4 then (0, A) else (0, give (cutA A e k) e (nI (unrd (zU A e) k).length))
def gLW (A : zA) (e : Nat) (n : Int32) : Int32 × zA := if 1 ≤ n then (if n ≤ 200 - zI A (9 + 80 * e) 4 then (0, yI A (9 + 80 * e) 4 (zI A (9 + 80 * e) 4 + n)) else (100 + 3, lerr A e 3)) else (100 + 1, lerr A e 1)
def gSW (A : zA) (e k : Nat) (n : Int32) : Int32 × zA := if zI A (29 + 80 * e + 5 * k) 1 = 0 then (100 + 1, lerr A e 1) else if zI A (29 + 80 * e + 5 * k) 1 = 4 then (0, A) else if 1 ≤ n then (if n ≤ 200 - zI A (29 + 80 * e + 5 * k) 3 then (0, yI A (29 + 80 * e + 5 * k) 3 (zI A (29 + 80 * e + 5 * k) 3 + n)) else (3, rstA A e k 3 0)) else (1, rstA A e k 1 0)
def tkL (A : zA) (e k : Nat) (L : List (Int32 × Int32)) (z : Int32) : zA := if z = 0 then yL A e k (some L) else endG (yL A e k (some L)) e k
/-- the windows at place j of the first n streams moved by c -/
def mvW (A : zA) (e j : Nat) (c : Int32) : Nat → zA
  | 0 => A
  | n + 1 => if acZ (mvW A e j c n) e n = 0 then mvW A e j c n else yI (mvW A e j c n) (29 + 80 * e + 5 * n) j (zI (mvW A e j c n) (29 + 80 * e + 5 * n) j + c)
/-- idle ones of the first n streams closed -/
def clI (A : zA) (e : Nat) : Nat → zA
  | 0 => A
  | n + 1 => if zI (clI A e n) (29 + 80 * e + 5 * n) 1 = 0 then yI (clI A e n) (29 + 80 * e + 5 * n) 1 4 else clI A e n
theorem yI_P {A : zA} {a j : Nat} {v : Int32} : zP (yI A a j v) = zP A := rfl
theorem mvW_P (A : zA) (e j : Nat) (c : Int32) : ∀ n, zP (mvW A e j c n) = zP A
  | 0 => rfl
  | n + 1 => by
    unfold mvW
    split
    · exact mvW_P A e j c n
    · exact mvW_P A e j c n
theorem clI_P (A : zA) (e : Nat) : ∀ n, zP (clI A e n) = zP A
  | 0 => rfl
  | n + 1 => by
    unfold clI
    split
    · exact clI_P A e n
    · exact clI_P A e n
def hlA (A : zA) (e : Nat) (v : Int32) : zA := yI (yI (yI A (14 + 80 * e) 2 (if zI A (14 + 80 * e) 1 = 0 then v else if v < zI A (14 + 80 * e) 2 then v else zI A (14 + 80 * e) 2)) (14 + 80 * e) 3 v) (14 + 80 * e) 1 1
def lifA (A : zA) (e : Nat) (v : Int32) : zA := if (zB A e 1).2 ≤ v then A else yI A (19 + 80 * e) 1 1
def frcA (A : zA) (e : Nat) (s v : Int32) : zA := if s = 1 then yI (lifA A e v) (26 + 80 * e) 0 v else if s = 3 then yI A (26 + 80 * e) 1 v else yI (mvW A e 4 (v - zI A (26 + 80 * e) 2) 12) (26 + 80 * e) 2 v
def hrS (A : zA) (e : Nat) (s v : Int32) : zA := if s = 1 then hlA A e v else if s = 3 then yI A (25 + 80 * e) 1 v else if s = 4 then yI (mvW A e 3 (v - zI A (25 + 80 * e) 2) 12) (25 + 80 * e) 2 v else A
theorem hrS_P (A : zA) (e : Nat) (s v : Int32) : zP (hrS A e s v) = zP A := by
  unfold hrS hlA
  split
  · rfl
  · split
    · rfl
    · split
      · rw [yI_P]
        exact mvW_P A e 3 _ 12
      · rfl
def gSt (A : zA) (e : Nat) (s v : Int32) : Int32 × zA := if rgC s v = 0 then (if s = 4 then (100 + 3, lerr A e 3) else (100 + 1, lerr A e 1)) else (0, push (hrS A e s v) (1 - e) (4, 0, 0, 1, 0, [], []))
def gRq (A : zA) (e k : Nat) (L : List (Int32 × Int32)) (z : Int32) : Int32 × zA := if nI (cntZ A e 12) < zI A (26 + 80 * e) 1 then (0, tkL (opnA A e k (zI A (25 + 80 * e) 2) (zI A (26 + 80 * e) 2)) e k L z) else (7, cutA (push A (1 - e) (3, nI (2 * k + 1), 7, 0, 0, [], [])) e k)
set_option maxRecDepth 100000 in
set_option maxHeartbeats 4000000 in
theorem ct_openR {X : mX} {l : Launch} {M : mM} {A : zA} {e k : Nat} (hR : RC M A) (he : e < 2) (hk : k < 12) {s w : Int32} : Ct X l uStream_open (rk 0 0) [.ref (29 + 80 * e + 5 * k), .int s, .int w] M (fun r M' => r = none ∧ RC M' (opnA A e k s w) ∧ Chg M M' cP cP) := by
  refine Ct.of (by decide) (Nat.le_of_ble_eq_true rfl) ?_
  show G X l uStream_open (rk 0 0) 0 0 M 0 [some (.ref (29 + 80 * e + 5 * k)), some (.int s), some (.int w)] [] _
  have hC : Chg M M cP cP := Chg.rf
  refine g_aload_n 0 dStream_open_0 rfl ?_
  refine g_iconst 1 1 dStream_open_1 rfl ?_
  refine g_puti 2 8 1 dStream_open_2 ps_Stream_9 rfl (hR.1.tStr he hk) ?_
  refine g_yI hR hC (sc_S he hk (by omega) (by omega)) (fun M1 hR1 hC1 => ?_)
  refine g_aload_n 5 dStream_open_5 rfl ?_
  refine g_iload_n 6 dStream_open_6 rfl ?_
  refine g_puti 7 8 3 dStream_open_7 ps_Stream_19 rfl (hR1.1.tStr he hk) ?_
  refine g_yI hR1 hC1 (sc_S he hk (by omega) (by omega)) (fun M2 hR2 hC2 => ?_)
  refine g_aload_n 10 dStream_open_10 rfl ?_
  refine g_iload_n 11 dStream_open_11 rfl ?_
  refine g_puti 12 8 4 dStream_open_12 ps_Stream_22 rfl (hR2.1.tStr he hk) ?_
  refine g_yI hR2 hC2 (sc_S he hk (by omega) (by omega)) (fun M3 hR3 hC3 => ?_)
  exact g_vret 15 dStream_open_15 rfl ⟨rfl, hR3, hC3⟩

set_option maxRecDepth 100000 in
set_option maxHeartbeats 4000000 in
theorem ct_endSR {X : mX} {l : Launch} {M : mM} {A : zA} {e k : Nat} (hR : RC M A) (he : e < 2) (hk : k < 12) : Ct X l uStream_endSent (rk 0 0) [.ref (29 + 80 * e + 5 * k)] M (fun r M' => r = none ∧ RC M' (endS A e k) ∧ Chg M M' cP cP) := by
  refine Ct.of (by decide) (Nat.le_of_ble_eq_true rfl) ?_
  show G X l uStream_endSent (rk 0 0) 0 0 M 0 [some (.ref (29 + 80 * e + 5 * k))] [] _
  have hC : Chg M M cP cP := Chg.rf
  refine g_aload_n 0 dStream_endSent_0 rfl ?_
  refine g_aload_n 1 dStream_endSent_1 rfl ?_
  refine g_geti 2 8 1 dStream_endSent_2 fs_Stream_9 rfl (hR.1.tStr he hk) ?_
  refine g_top _ (hR.sI (sc_S he hk (by omega) (by omega))) ?_
  refine g_iconst 5 1 dStream_endSent_5 rfl ?_
  refine g_icmp_ne 6 13 dStream_endSent_6 rfl (fun h6 => ?_) (fun h6 => ?_)
  · refine g_iconst 13 4 dStream_endSent_13 rfl ?_
    refine g_puti 14 8 1 dStream_endSent_14 ps_Stream_9 rfl (hR.1.tStr he hk) ?_
    refine g_yI hR hC (sc_S he hk (by omega) (by omega)) (fun M1 hR1 hC1 => ?_)
    exact g_vret 17 dStream_endSent_17 rfl (by unfold endS; (try rw [if_neg h6]); exact ⟨rfl, hR1, hC1⟩)
  · refine g_iconst 9 2 dStream_endSent_9 rfl ?_
    refine g_goto 10 14 dStream_endSent_10 rfl ?_
    refine g_puti 14 8 1 dStream_endSent_14 ps_Stream_9 rfl (hR.1.tStr he hk) ?_
    refine g_yI hR hC (sc_S he hk (by omega) (by omega)) (fun M1 hR1 hC1 => ?_)
    exact g_vret 17 dStream_endSent_17 rfl (by unfold endS; (try rw [if_pos h6]); exact ⟨rfl, hR1, hC1⟩)

set_option maxRecDepth 100000 in
set_option maxHeartbeats 4000000 in
theorem ct_endGR {X : mX} {l : Launch} {M : mM} {A : zA} {e k : Nat} (hR : RC M A) (he : e < 2) (hk : k < 12) : Ct X l uStream_endGot (rk 0 0) [.ref (29 + 80 * e + 5 * k)] M (fun r M' => r = none ∧ RC M' (endG A e k) ∧ Chg M M' cP cP) := by
  refine Ct.of (by decide) (Nat.le_of_ble_eq_true rfl) ?_
  show G X l uStream_endGot (rk 0 0) 0 0 M 0 [some (.ref (29 + 80 * e + 5 * k))] [] _
  have hC : Chg M M cP cP := Chg.rf
  refine g_aload_n 0 dStream_endGot_0 rfl ?_
  refine g_aload_n 1 dStream_endGot_1 rfl ?_
  refine g_geti 2 8 1 dStream_endGot_2 fs_Stream_9 rfl (hR.1.tStr he hk) ?_
  refine g_top _ (hR.sI (sc_S he hk (by omega) (by omega))) ?_
  refine g_iconst 5 1 dStream_endGot_5 rfl ?_
  refine g_icmp_ne 6 13 dStream_endGot_6 rfl (fun h6 => ?_) (fun h6 => ?_)
  · refine g_iconst 13 4 dStream_endGot_13 rfl ?_
    refine g_puti 14 8 1 dStream_endGot_14 ps_Stream_9 rfl (hR.1.tStr he hk) ?_
    refine g_yI hR hC (sc_S he hk (by omega) (by omega)) (fun M1 hR1 hC1 => ?_)
    exact g_vret 17 dStream_endGot_17 rfl (by unfold endG; (try rw [if_neg h6]); exact ⟨rfl, hR1, hC1⟩)
  · refine g_iconst 9 3 dStream_endGot_9 rfl ?_
    refine g_goto 10 14 dStream_endGot_10 rfl ?_
    refine g_puti 14 8 1 dStream_endGot_14 ps_Stream_9 rfl (hR.1.tStr he hk) ?_
    refine g_yI hR hC (sc_S he hk (by omega) (by omega)) (fun M1 hR1 hC1 => ?_)
    exact g_vret 17 dStream_endGot_17 rfl (by unfold endG; (try rw [if_pos h6]); exact ⟨rfl, hR1, hC1⟩)

set_option maxRecDepth 100000 in
set_option maxHeartbeats 4000000 in
theorem ct_rstR {X : mX} {l : Launch} {M : mM} {A : zA} {e k : Nat} (hR : RC M A) (he : e < 2) (hk : k < 12) {c n : Int32} (hp : (zP A (1 - e)).length ≤ 44) : Ct X l uEnd_endWithReset (rn 4 81 2 14) [.ref (9 + 80 * e), .ref (29 + 80 * e + 5 * k), .int c, .int n] M (fun r M' => r = some (.int c) ∧ RC M' (rstA A e k c n) ∧ Chg M M' cP cP) := by
  refine Ct.of (by decide) (Nat.le_of_ble_eq_true rfl) ?_
  show G X l uEnd_endWithReset (rn 4 81 2 14) 2 14 M 0 [some (.ref (9 + 80 * e)), some (.ref (29 + 80 * e + 5 * k)), some (.int c), some (.int n)] [] _
  have hC : Chg M M cP cP := Chg.rf
  refine g_aload_n 0 dEnd_endWithReset_0 rfl ?_
  refine g_getr 1 2 2 dEnd_endWithReset_1 fs_End_82 rfl (hR.1.tEnd he) (hR.1.rEnd2 he) ?_
  refine g_aload_n 4 dEnd_endWithReset_4 rfl ?_
  refine g_geti 5 8 0 dEnd_endWithReset_5 fs_End_121 rfl (hR.1.tStr he hk) ?_
  refine g_top _ (hR.num he hk) ?_
  refine g_iload_n 8 dEnd_endWithReset_8 rfl ?_
  refine g_callS 9 [_, _] dEnd_endWithReset_9 cs_End_205 rfl rfl ⟨(Nat.le_of_ble_eq_true rfl), (Nat.le_of_ble_eq_true rfl)⟩ (Nat.le_of_ble_eq_true rfl) (ct_ofResetR hR) (Nat.le_of_ble_eq_true rfl) (Nat.le_of_ble_eq_true rfl) ?_
  rintro _ M1 ⟨f1, rfl, hG1, hR1, hc⟩
  have hC1 := hC.tr hc
  refine g_callV 12 [_] dEnd_endWithReset_12 cs_End_134 rfl (ci := 1) rfl (by decide) (hR1.1.tPipeO he) rfl ⟨(Nat.le_of_ble_eq_true rfl), (Nat.le_of_ble_eq_true rfl)⟩ (Nat.le_of_ble_eq_true rfl) (ct_addR hR1 he hG1 (show (zP A (1 - e)).length < 47 by omega)) (Nat.le_of_ble_eq_true rfl) (Nat.le_of_ble_eq_true rfl) ?_
  rintro _ M2 ⟨rfl, hR2, hc⟩
  have hC2 := hC1.tr hc
  refine g_aload_n 15 dEnd_endWithReset_15 rfl ?_
  refine g_aload_n 16 dEnd_endWithReset_16 rfl ?_
  refine g_callV 17 [] dEnd_endWithReset_17 cs_End_208 rfl (ci := 8) rfl (by decide) (hR2.1.tStr he hk) rfl ⟨(Nat.le_of_ble_eq_true rfl), (Nat.le_of_ble_eq_true rfl)⟩ (Nat.le_of_ble_eq_true rfl) (ct_cutR hR2 he hk) (Nat.le_of_ble_eq_true rfl) (Nat.le_of_ble_eq_true rfl) ?_
  rintro _ M3 ⟨rfl, hR3, hc⟩
  have hC3 := hC2.tr hc
  refine g_iload_n 20 dEnd_endWithReset_20 rfl ?_
  refine g_iadd 21 dEnd_endWithReset_21 ?_
  refine g_callV 22 [_] dEnd_endWithReset_22 cs_End_191 rfl (ci := 2) rfl (by decide) (hR3.1.tEnd he) rfl ⟨(Nat.le_of_ble_eq_true rfl), (Nat.le_of_ble_eq_true rfl)⟩ (Nat.le_of_ble_eq_true rfl) (ct_giveR hR3 he (Nat.lt_of_le_of_lt (Nat.le_of_eq push_len) (show (zP A (1 - e)).length + 1 < 47 by omega))) (Nat.le_of_ble_eq_true rfl) (Nat.le_of_ble_eq_true rfl) ?_
  rintro _ M4 ⟨rfl, hR4, hc⟩
  have hC4 := hC3.tr hc
  refine g_iload_n 25 dEnd_endWithReset_25 rfl ?_
  exact g_iret 26 dEnd_endWithReset_26 rfl ⟨rfl, hR4, hC4⟩

set_option maxRecDepth 100000 in
set_option maxHeartbeats 4000000 in
theorem ct_gRs_no {X : mX} {l : Launch} {M : mM} {A : zA} {e : Nat} (hR : RC M A) (he : e < 2) {a : Nat} {f : zF} (hF : FrC M a f) (hfs : ¬ isStr f.2.1) (hp : (zP A (1 - e)).length ≤ 44) : Ct X l uEnd_getReset (rn 4 81 2 14) [.ref (9 + 80 * e), .ref a] M (fun r M' => r = some (.int (100 + 1)) ∧ RC M' (lerr A e 1) ∧ Chg M M' cP cP) := by
  refine Ct.of (by decide) (Nat.le_of_ble_eq_true rfl) ?_
  show G X l uEnd_getReset (rn 4 81 2 14) 2 14 M 0 [some (.ref (9 + 80 * e)), some (.ref a), none] [] _
  have hC : Chg M M cP cP := Chg.rf
  refine g_aload_n 0 dEnd_getReset_0 rfl ?_
  refine g_aload_n 1 dEnd_getReset_1 rfl ?_
  refine g_geti 2 12 1 dEnd_getReset_2 fs_End_243 rfl (hF.cg hC).2.2.1 ?_
  refine g_top _ (hF.cg hC).2.2.2.2.1 ?_
  refine g_callV 5 [_] dEnd_getReset_5 cs_End_106 rfl (ci := 2) rfl (by decide) (hR.1.tEnd he) rfl ⟨(Nat.le_of_ble_eq_true rfl), (Nat.le_of_ble_eq_true rfl)⟩ (Nat.le_of_ble_eq_true rfl) (ct_End_streamOf_no hR.1 he hfs) (Nat.le_of_ble_eq_true rfl) (Nat.le_of_ble_eq_true rfl) ?_
  rintro _ M2 ⟨rfl, hM2⟩
  rw [hM2]
  clear hM2 M2
  refine g_astore_nN 8 dEnd_getReset_8 (by decide) rfl ?_
  refine g_aload_nN 9 dEnd_getReset_9 rfl ?_
  refine g_ifnullN 10 20 dEnd_getReset_10 rfl ?_
  refine g_aload_n 20 dEnd_getReset_20 rfl ?_
  refine g_iconst 21 1 dEnd_getReset_21 rfl ?_
  refine g_callV 22 [_] dEnd_getReset_22 cs_End_256 rfl (ci := 2) rfl (by decide) (hR.1.tEnd he) rfl ⟨(Nat.le_of_ble_eq_true rfl), (Nat.le_of_ble_eq_true rfl)⟩ (Nat.le_of_ble_eq_true rfl) (ct_lerrR hR he (show (zP A (1 - e)).length < 47 by omega)) (Nat.le_of_ble_eq_true rfl) (Nat.le_of_ble_eq_true rfl) ?_
  rintro _ M1 ⟨rfl, hR1, hc⟩
  have hC1 := hC.tr hc
  exact g_iret 25 dEnd_getReset_25 rfl ⟨rfl, hR1, hC1⟩

set_option maxRecDepth 100000 in
set_option maxHeartbeats 4000000 in
theorem ct_gSW_no {X : mX} {l : Launch} {M : mM} {A : zA} {e : Nat} (hR : RC M A) (he : e < 2) {a : Nat} {f : zF} (hF : FrC M a f) (hfs : ¬ isStr f.2.1) (hp : (zP A (1 - e)).length ≤ 44) : Ct X l uEnd_getStreamWindow (rn 5 104 2 14) [.ref (9 + 80 * e), .ref a] M (fun r M' => r = some (.int (100 + 1)) ∧ RC M' (lerr A e 1) ∧ Chg M M' cP cP) := by
  refine Ct.of (by decide) (Nat.le_of_ble_eq_true rfl) ?_
  show G X l uEnd_getStreamWindow (rn 5 104 2 14) 2 14 M 0 [some (.ref (9 + 80 * e)), some (.ref a), none, none] [] _
  have hC : Chg M M cP cP := Chg.rf
  refine g_aload_n 0 dEnd_getStreamWindow_0 rfl ?_
  refine g_aload_n 1 dEnd_getStreamWindow_1 rfl ?_
  refine g_geti 2 12 1 dEnd_getStreamWindow_2 fs_End_243 rfl (hF.cg hC).2.2.1 ?_
  refine g_top _ (hF.cg hC).2.2.2.2.1 ?_
  refine g_callV 5 [_] dEnd_getStreamWindow_5 cs_End_106 rfl (ci := 2) rfl (by decide) (hR.1.tEnd he) rfl ⟨(Nat.le_of_ble_eq_true rfl), (Nat.le_of_ble_eq_true rfl)⟩ (Nat.le_of_ble_eq_true rfl) (ct_End_streamOf_no hR.1 he hfs) (Nat.le_of_ble_eq_true rfl) (Nat.le_of_ble_eq_true rfl) ?_
  rintro _ M2 ⟨rfl, hM2⟩
  rw [hM2]
  clear hM2 M2
  refine g_astore_nN 8 dEnd_getStreamWindow_8 (by decide) rfl ?_
  refine g_aload_n 9 dEnd_getStreamWindow_9 rfl ?_
  refine g_geti 10 12 2 dEnd_getStreamWindow_10 fs_End_237 rfl (hF.cg hC).2.2.1 ?_
  refine g_top _ (hF.cg hC).2.2.2.2.2.1 ?_
  refine g_istore_n 13 dEnd_getStreamWindow_13 (by decide) rfl ?_
  refine g_aload_nN 14 dEnd_getStreamWindow_14 rfl ?_
  refine g_ifnullN 15 25 dEnd_getStreamWindow_15 rfl ?_
  refine g_aload_n 25 dEnd_getStreamWindow_25 rfl ?_
  refine g_iconst 26 1 dEnd_getStreamWindow_26 rfl ?_
  refine g_callV 27 [_] dEnd_getStreamWindow_27 cs_End_256 rfl (ci := 2) rfl (by decide) (hR.1.tEnd he) rfl ⟨(Nat.le_of_ble_eq_true rfl), (Nat.le_of_ble_eq_true rfl)⟩ (Nat.le_of_ble_eq_true rfl) (ct_lerrR hR he (show (zP A (1 - e)).length < 47 by omega)) (Nat.le_of_ble_eq_true rfl) (Nat.le_of_ble_eq_true rfl) ?_
  rintro _ M1 ⟨rfl, hR1, hc⟩
  have hC1 := hC.tr hc
  exact g_iret 30 dEnd_getStreamWindow_30 rfl ⟨rfl, hR1, hC1⟩

set_option maxRecDepth 100000 in
set_option maxHeartbeats 4000000 in
theorem ct_gDt_no {X : mX} {l : Launch} {M : mM} {A : zA} {e : Nat} (hR : RC M A) (he : e < 2) {a : Nat} {f : zF} (hF : FrC M a f) (hfs : ¬ isStr f.2.1) (hp : (zP A (1 - e)).length ≤ 44) : Ct X l uEnd_getData (rn 5 104 2 14) [.ref (9 + 80 * e), .ref a] M (fun r M' => r = some (.int (100 + 1)) ∧ RC M' (lerr A e 1) ∧ Chg M M' cP cP) := by
  refine Ct.of (by decide) (Nat.le_of_ble_eq_true rfl) ?_
  show G X l uEnd_getData (rn 5 104 2 14) 2 14 M 0 [some (.ref (9 + 80 * e)), some (.ref a), none, none] [] _
  have hC : Chg M M cP cP := Chg.rf
  refine g_aload_n 0 dEnd_getData_0 rfl ?_
  refine g_aload_n 1 dEnd_getData_1 rfl ?_
  refine g_geti 2 12 1 dEnd_getData_2 fs_End_243 rfl (hF.cg hC).2.2.1 ?_
  refine g_top _ (hF.cg hC).2.2.2.2.1 ?_
  refine g_callV 5 [_] dEnd_getData_5 cs_End_106 rfl (ci := 2) rfl (by decide) (hR.1.tEnd he) rfl ⟨(Nat.le_of_ble_eq_true rfl), (Nat.le_of_ble_eq_true rfl)⟩ (Nat.le_of_ble_eq_true rfl) (ct_End_streamOf_no hR.1 he hfs) (Nat.le_of_ble_eq_true rfl) (Nat.le_of_ble_eq_true rfl) ?_
  rintro _ M2 ⟨rfl, hM2⟩
  rw [hM2]
  clear hM2 M2
  refine g_astore_nN 8 dEnd_getData_8 (by decide) rfl ?_
  refine g_aload_n 9 dEnd_getData_9 rfl ?_
  refine g_geti 10 12 2 dEnd_getData_10 fs_End_237 rfl (hF.cg hC).2.2.1 ?_
  refine g_top _ (hF.cg hC).2.2.2.2.2.1 ?_
  refine g_istore_n 13 dEnd_getData_13 (by decide) rfl ?_
  refine g_aload_nN 14 dEnd_getData_14 rfl ?_
  refine g_ifnullN 15 25 dEnd_getData_15 rfl ?_
  refine g_aload_n 25 dEnd_getData_25 rfl ?_
  refine g_iconst 26 1 dEnd_getData_26 rfl ?_
  refine g_callV 27 [_] dEnd_getData_27 cs_End_256 rfl (ci := 2) rfl (by decide) (hR.1.tEnd he) rfl ⟨(Nat.le_of_ble_eq_true rfl), (Nat.le_of_ble_eq_true rfl)⟩ (Nat.le_of_ble_eq_true rfl) (ct_lerrR hR he (show (zP A (1 - e)).length < 47 by omega)) (Nat.le_of_ble_eq_true rfl) (Nat.le_of_ble_eq_true rfl) ?_
  rintro _ M1 ⟨rfl, hR1, hc⟩
  have hC1 := hC.tr hc
  exact g_iret 30 dEnd_getData_30 rfl ⟨rfl, hR1, hC1⟩

set_option maxRecDepth 100000 in
set_option maxHeartbeats 4000000 in
theorem ct_gRs {X : mX} {l : Launch} {M : mM} {A : zA} {e k : Nat} (hR : RC M A) (he : e < 2) (hk : k < 12) {a : Nat} {f : zF} (hF : FrC M a f) (hfs : f.2.1 = nI (2 * k + 1)) (hp : (zP A (1 - e)).length ≤ 44) : Ct X l uEnd_getReset (rn 4 81 2 14) [.ref (9 + 80 * e), .ref a] M (fun r M' => r = some (.int (gRs A e k).1) ∧ RC M' (gRs A e k).2 ∧ Chg M M' cP cP) := by
  refine Ct.of (by decide) (Nat.le_of_ble_eq_true rfl) ?_
  show G X l uEnd_getReset (rn 4 81 2 14) 2 14 M 0 [some (.ref (9 + 80 * e)), some (.ref a), none] [] _
  have hC : Chg M M cP cP := Chg.rf
  refine g_aload_n 0 dEnd_getReset_0 rfl ?_
  refine g_aload_n 1 dEnd_getReset_1 rfl ?_
  refine g_geti 2 12 1 dEnd_getReset_2 fs_End_243 rfl (hF.cg hC).2.2.1 ?_
  refine g_top _ (hF.cg hC).2.2.2.2.1 ?_
  refine g_top (nI ((2 * k + 1))) (hfs) ?_
  refine g_callV 5 [_] dEnd_getReset_5 cs_End_106 rfl (ci := 2) rfl (by decide) (hR.1.tEnd he) rfl ⟨(Nat.le_of_ble_eq_true rfl), (Nat.le_of_ble_eq_true rfl)⟩ (Nat.le_of_ble_eq_true rfl) (ct_End_streamOf hR.1 he hk) (Nat.le_of_ble_eq_true rfl) (Nat.le_of_ble_eq_true rfl) ?_
  rintro _ M2 ⟨rfl, hM2⟩
  rw [hM2]
  clear hM2 M2
  refine g_astore_n 8 dEnd_getReset_8 (by decide) rfl ?_
  refine g_aload_n 9 dEnd_getReset_9 rfl ?_
  refine g_ifnull 10 dEnd_getReset_10 ?_
  refine g_aload_n 13 dEnd_getReset_13 rfl ?_
  refine g_geti 14 8 1 dEnd_getReset_14 fs_End_253 rfl (hR.1.tStr he hk) ?_
  refine g_top _ (hR.sI (sc_S he hk (by omega) (by omega))) ?_
  refine g_if_ne 17 26 dEnd_getReset_17 rfl (fun h17 => ?_) (fun h17 => ?_)
  · refine g_aload_n 26 dEnd_getReset_26 rfl ?_
    refine g_geti 27 8 1 dEnd_getReset_27 fs_End_253 rfl (hR.1.tStr he hk) ?_
    refine g_top _ (hR.sI (sc_S he hk (by omega) (by omega))) ?_
    refine g_iconst 30 4 dEnd_getReset_30 rfl ?_
    refine g_icmp_eq 31 42 dEnd_getReset_31 rfl (fun h31 => ?_) (fun h31 => ?_)
    · refine g_iconst 42 0 dEnd_getReset_42 rfl ?_
      exact g_iret 43 dEnd_getReset_43 rfl (by unfold gRs; (try rw [if_neg h17]); (try rw [if_pos h31]); exact ⟨rfl, hR, hC⟩)
    · refine g_aload_n 34 dEnd_getReset_34 rfl ?_
      refine g_aload_n 35 dEnd_getReset_35 rfl ?_
      refine g_callV 36 [] dEnd_getReset_36 cs_End_208 rfl (ci := 8) rfl (by decide) (hR.1.tStr he hk) rfl ⟨(Nat.le_of_ble_eq_true rfl), (Nat.le_of_ble_eq_true rfl)⟩ (Nat.le_of_ble_eq_true rfl) (ct_cutR hR he hk) (Nat.le_of_ble_eq_true rfl) (Nat.le_of_ble_eq_true rfl) ?_
      rintro _ M1 ⟨rfl, hR1, hc⟩
      have hC1 := hC.tr hc
      refine g_callV 39 [_] dEnd_getReset_39 cs_End_191 rfl (ci := 2) rfl (by decide) (hR1.1.tEnd he) rfl ⟨(Nat.le_of_ble_eq_true rfl), (Nat.le_of_ble_eq_true rfl)⟩ (Nat.le_of_ble_eq_true rfl) (ct_giveR hR1 he (show (zP A (1 - e)).length < 47 by omega)) (Nat.le_of_ble_eq_true rfl) (Nat.le_of_ble_eq_true rfl) ?_
      rintro _ M2 ⟨rfl, hR2, hc⟩
      have hC2 := hC1.tr hc
      refine g_iconst 42 0 dEnd_getReset_42 rfl ?_
      exact g_iret 43 dEnd_getReset_43 rfl (by unfold gRs; (try rw [if_neg h17]); (try rw [if_neg h31]); exact ⟨rfl, hR2, hC2⟩)
  · refine g_aload_n 20 dEnd_getReset_20 rfl ?_
    refine g_iconst 21 1 dEnd_getReset_21 rfl ?_
    refine g_callV 22 [_] dEnd_getReset_22 cs_End_256 rfl (ci := 2) rfl (by decide) (hR.1.tEnd he) rfl ⟨(Nat.le_of_ble_eq_true rfl), (Nat.le_of_ble_eq_true rfl)⟩ (Nat.le_of_ble_eq_true rfl) (ct_lerrR hR he (show (zP A (1 - e)).length < 47 by omega)) (Nat.le_of_ble_eq_true rfl) (Nat.le_of_ble_eq_true rfl) ?_
    rintro _ M1 ⟨rfl, hR1, hc⟩
    have hC1 := hC.tr hc
    exact g_iret 25 dEnd_getReset_25 rfl (by unfold gRs; (try rw [if_pos h17]); exact ⟨rfl, hR1, hC1⟩)

set_option maxRecDepth 100000 in
set_option maxHeartbeats 4000000 in
theorem ct_gSW {X : mX} {l : Launch} {M : mM} {A : zA} {e k : Nat} (hR : RC M A) (he : e < 2) (hk : k < 12) {a : Nat} {f : zF} (hF : FrC M a f) (hfs : f.2.1 = nI (2 * k + 1)) (hp : (zP A (1 - e)).length ≤ 44) : Ct X l uEnd_getStreamWindow (rn 5 104 2 14) [.ref (9 + 80 * e), .ref a] M (fun r M' => r = some (.int (gSW A e k f.2.2.1).1) ∧ RC M' (gSW A e k f.2.2.1).2 ∧ Chg M M' cP cP) := by
  refine Ct.of (by decide) (Nat.le_of_ble_eq_true rfl) ?_
  show G X l uEnd_getStreamWindow (rn 5 104 2 14) 2 14 M 0 [some (.ref (9 + 80 * e)), some (.ref a), none, none] [] _
  have hC : Chg M M cP cP := Chg.rf
  refine g_aload_n 0 dEnd_getStreamWindow_0 rfl ?_
  refine g_aload_n 1 dEnd_getStreamWindow_1 rfl ?_
  refine g_geti 2 12 1 dEnd_getStreamWindow_2 fs_End_243 rfl (hF.cg hC).2.2.1 ?_
  refine g_top _ (hF.cg hC).2.2.2.2.1 ?_
  refine g_top (nI ((2 * k + 1))) (hfs) ?_
  refine g_callV 5 [_] dEnd_getStreamWindow_5 cs_End_106 rfl (ci := 2) rfl (by decide) (hR.1.tEnd he) rfl ⟨(Nat.le_of_ble_eq_true rfl), (Nat.le_of_ble_eq_true rfl)⟩ (Nat.le_of_ble_eq_true rfl) (ct_End_streamOf hR.1 he hk) (Nat.le_of_ble_eq_true rfl) (Nat.le_of_ble_eq_true rfl) ?_
  rintro _ M2 ⟨rfl, hM2⟩
  rw [hM2]
  clear hM2 M2
  refine g_astore_n 8 dEnd_getStreamWindow_8 (by decide) rfl ?_
  refine g_aload_n 9 dEnd_getStreamWindow_9 rfl ?_
  refine g_geti 10 12 2 dEnd_getStreamWindow_10 fs_End_237 rfl (hF.cg hC).2.2.1 ?_
  refine g_top _ (hF.cg hC).2.2.2.2.2.1 ?_
  refine g_istore_n 13 dEnd_getStreamWindow_13 (by decide) rfl ?_
  refine g_aload_n 14 dEnd_getStreamWindow_14 rfl ?_
  refine g_ifnull 15 dEnd_getStreamWindow_15 ?_
  refine g_aload_n 18 dEnd_getStreamWindow_18 rfl ?_
  refine g_geti 19 8 1 dEnd_getStreamWindow_19 fs_End_253 rfl (hR.1.tStr he hk) ?_
  refine g_top _ (hR.sI (sc_S he hk (by omega) (by omega))) ?_
  refine g_if_ne 22 31 dEnd_getStreamWindow_22 rfl (fun h22 => ?_) (fun h22 => ?_)
  · refine g_aload_n 31 dEnd_getStreamWindow_31 rfl ?_
    refine g_geti 32 8 1 dEnd_getStreamWindow_32 fs_End_253 rfl (hR.1.tStr he hk) ?_
    refine g_top _ (hR.sI (sc_S he hk (by omega) (by omega))) ?_
    refine g_iconst 35 4 dEnd_getStreamWindow_35 rfl ?_
    refine g_icmp_ne 36 41 dEnd_getStreamWindow_36 rfl (fun h36 => ?_) (fun h36 => ?_)
    · refine g_iload_n 41 dEnd_getStreamWindow_41 rfl ?_
      refine g_iconst 42 1 dEnd_getStreamWindow_42 rfl ?_
      refine g_icmp_ge 43 54 dEnd_getStreamWindow_43 rfl (fun h43 => ?_) (fun h43 => ?_)
      · refine g_iload_n 54 dEnd_getStreamWindow_54 rfl ?_
        refine g_sipush 55 200 dEnd_getStreamWindow_55 rfl ?_
        refine g_aload_n 58 dEnd_getStreamWindow_58 rfl ?_
        refine g_geti 59 8 3 dEnd_getStreamWindow_59 fs_End_173 rfl (hR.1.tStr he hk) ?_
        refine g_top _ (hR.sI (sc_S he hk (by omega) (by omega))) ?_
        refine g_isub 62 dEnd_getStreamWindow_62 ?_
        refine g_icmp_le 63 74 dEnd_getStreamWindow_63 rfl (fun h63 => ?_) (fun h63 => ?_)
        · refine g_aload_n 74 dEnd_getStreamWindow_74 rfl ?_
          refine g_dup 75 dEnd_getStreamWindow_75 rfl ?_
          refine g_geti 76 8 3 dEnd_getStreamWindow_76 fs_End_173 rfl (hR.1.tStr he hk) ?_
          refine g_top _ (hR.sI (sc_S he hk (by omega) (by omega))) ?_
          refine g_iload_n 79 dEnd_getStreamWindow_79 rfl ?_
          refine g_iadd 80 dEnd_getStreamWindow_80 ?_
          refine g_puti 81 8 3 dEnd_getStreamWindow_81 ps_End_173 rfl (hR.1.tStr he hk) ?_
          refine g_yI hR hC (sc_S he hk (by omega) (by omega)) (fun M1 hR1 hC1 => ?_)
          refine g_iconst 84 0 dEnd_getStreamWindow_84 rfl ?_
          exact g_iret 85 dEnd_getStreamWindow_85 rfl (by unfold gSW; (try rw [if_neg h22]); (try rw [if_neg h36]); (try rw [if_pos h43]); (try rw [if_pos h63]); exact ⟨rfl, hR1, hC1⟩)
        · refine g_aload_n 66 dEnd_getStreamWindow_66 rfl ?_
          refine g_aload_n 67 dEnd_getStreamWindow_67 rfl ?_
          refine g_iconst 68 3 dEnd_getStreamWindow_68 rfl ?_
          refine g_iconst 69 0 dEnd_getStreamWindow_69 rfl ?_
          refine g_callV 70 [_, _, _] dEnd_getStreamWindow_70 cs_End_262 rfl (ci := 2) rfl (by decide) (hR.1.tEnd he) rfl ⟨(Nat.le_of_ble_eq_true rfl), (Nat.le_of_ble_eq_true rfl)⟩ (Nat.le_of_ble_eq_true rfl) (ct_rstR hR he hk (show (zP A (1 - e)).length ≤ 44 by omega)) (Nat.le_of_ble_eq_true rfl) (Nat.le_of_ble_eq_true rfl) ?_
          rintro _ M1 ⟨rfl, hR1, hc⟩
          have hC1 := hC.tr hc
          exact g_iret 73 dEnd_getStreamWindow_73 rfl (by unfold gSW; (try rw [if_neg h22]); (try rw [if_neg h36]); (try rw [if_pos h43]); (try rw [if_neg h63]); exact ⟨rfl, hR1, hC1⟩)
      · refine g_aload_n 46 dEnd_getStreamWindow_46 rfl ?_
        refine g_aload_n 47 dEnd_getStreamWindow_47 rfl ?_
        refine g_iconst 48 1 dEnd_getStreamWindow_48 rfl ?_
        refine g_iconst 49 0 dEnd_getStreamWindow_49 rfl ?_
        refine g_callV 50 [_, _, _] dEnd_getStreamWindow_50 cs_End_262 rfl (ci := 2) rfl (by decide) (hR.1.tEnd he) rfl ⟨(Nat.le_of_ble_eq_true rfl), (Nat.le_of_ble_eq_true rfl)⟩ (Nat.le_of_ble_eq_true rfl) (ct_rstR hR he hk (show (zP A (1 - e)).length ≤ 44 by omega)) (Nat.le_of_ble_eq_true rfl) (Nat.le_of_ble_eq_true rfl) ?_
        rintro _ M1 ⟨rfl, hR1, hc⟩
        have hC1 := hC.tr hc
        exact g_iret 53 dEnd_getStreamWindow_53 rfl (by unfold gSW; (try rw [if_neg h22]); (try rw [if_neg h36]); (try rw [if_neg h43]); exact ⟨rfl, hR1, hC1⟩)
    · refine g_iconst 39 0 dEnd_getStreamWindow_39 rfl ?_
      exact g_iret 40 dEnd_getStreamWindow_40 rfl (by unfold gSW; (try rw [if_neg h22]); (try rw [if_pos h36]); exact ⟨rfl, hR, hC⟩)
  · refine g_aload_n 25 dEnd_getStreamWindow_25 rfl ?_
    refine g_iconst 26 1 dEnd_getStreamWindow_26 rfl ?_
    refine g_callV 27 [_] dEnd_getStreamWindow_27 cs_End_256 rfl (ci := 2) rfl (by decide) (hR.1.tEnd he) rfl ⟨(Nat.le_of_ble_eq_true rfl), (Nat.le_of_ble_eq_true rfl)⟩ (Nat.le_of_ble_eq_true rfl) (ct_lerrR hR he (show (zP A (1 - e)).length < 47 by omega)) (Nat.le_of_ble_eq_true rfl) (Nat.le_of_ble_eq_true rfl) ?_
    rintro _ M1 ⟨rfl, hR1, hc⟩
    have hC1 := hC.tr hc
    exact g_iret 30 dEnd_getStreamWindow_30 rfl (by unfold gSW; (try rw [if_pos h22]); exact ⟨rfl, hR1, hC1⟩)

set_option maxRecDepth 100000 in
set_option maxHeartbeats 4000000 in
theorem ct_gLW {X : mX} {l : Launch} {M : mM} {A : zA} {e : Nat} (hR : RC M A) (he : e < 2) {n : Int32} (hp : (zP A (1 - e)).length ≤ 44) : Ct X l uEnd_getLinkWindow (rn 4 80 2 14) [.ref (9 + 80 * e), .int n] M (fun r M' => r = some (.int (gLW A e n).1) ∧ RC M' (gLW A e n).2 ∧ Chg M M' cP cP) := by
  refine Ct.of (by decide) (Nat.le_of_ble_eq_true rfl) ?_
  show G X l uEnd_getLinkWindow (rn 4 80 2 14) 2 14 M 0 [some (.ref (9 + 80 * e)), some (.int n)] [] _
  have hC : Chg M M cP cP := Chg.rf
  refine g_iload_n 0 dEnd_getLinkWindow_0 rfl ?_
  refine g_iconst 1 1 dEnd_getLinkWindow_1 rfl ?_
  refine g_icmp_ge 2 11 dEnd_getLinkWindow_2 rfl (fun h2 => ?_) (fun h2 => ?_)
  · refine g_iload_n 11 dEnd_getLinkWindow_11 rfl ?_
    refine g_sipush 12 200 dEnd_getLinkWindow_12 rfl ?_
    refine g_aload_n 15 dEnd_getLinkWindow_15 rfl ?_
    refine g_geti 16 2 4 dEnd_getLinkWindow_16 fs_End_15 rfl (hR.1.tEnd he) ?_
    refine g_top _ (hR.sI (sc_E he (by omega))) ?_
    refine g_isub 19 dEnd_getLinkWindow_19 ?_
    refine g_icmp_le 20 29 dEnd_getLinkWindow_20 rfl (fun h20 => ?_) (fun h20 => ?_)
    · refine g_aload_n 29 dEnd_getLinkWindow_29 rfl ?_
      refine g_dup 30 dEnd_getLinkWindow_30 rfl ?_
      refine g_geti 31 2 4 dEnd_getLinkWindow_31 fs_End_15 rfl (hR.1.tEnd he) ?_
      refine g_top _ (hR.sI (sc_E he (by omega))) ?_
      refine g_iload_n 34 dEnd_getLinkWindow_34 rfl ?_
      refine g_iadd 35 dEnd_getLinkWindow_35 ?_
      refine g_puti 36 2 4 dEnd_getLinkWindow_36 ps_End_15 rfl (hR.1.tEnd he) ?_
      refine g_yI hR hC (sc_E he (by omega)) (fun M1 hR1 hC1 => ?_)
      refine g_iconst 39 0 dEnd_getLinkWindow_39 rfl ?_
      exact g_iret 40 dEnd_getLinkWindow_40 rfl (by unfold gLW; (try rw [if_pos h2]); (try rw [if_pos h20]); exact ⟨rfl, hR1, hC1⟩)
    · refine g_aload_n 23 dEnd_getLinkWindow_23 rfl ?_
      refine g_iconst 24 3 dEnd_getLinkWindow_24 rfl ?_
      refine g_callV 25 [_] dEnd_getLinkWindow_25 cs_End_256 rfl (ci := 2) rfl (by decide) (hR.1.tEnd he) rfl ⟨(Nat.le_of_ble_eq_true rfl), (Nat.le_of_ble_eq_true rfl)⟩ (Nat.le_of_ble_eq_true rfl) (ct_lerrR hR he (show (zP A (1 - e)).length < 47 by omega)) (Nat.le_of_ble_eq_true rfl) (Nat.le_of_ble_eq_true rfl) ?_
      rintro _ M1 ⟨rfl, hR1, hc⟩
      have hC1 := hC.tr hc
      exact g_iret 28 dEnd_getLinkWindow_28 rfl (by unfold gLW; (try rw [if_pos h2]); (try rw [if_neg h20]); exact ⟨rfl, hR1, hC1⟩)
  · refine g_aload_n 5 dEnd_getLinkWindow_5 rfl ?_
    refine g_iconst 6 1 dEnd_getLinkWindow_6 rfl ?_
    refine g_callV 7 [_] dEnd_getLinkWindow_7 cs_End_256 rfl (ci := 2) rfl (by decide) (hR.1.tEnd he) rfl ⟨(Nat.le_of_ble_eq_true rfl), (Nat.le_of_ble_eq_true rfl)⟩ (Nat.le_of_ble_eq_true rfl) (ct_lerrR hR he (show (zP A (1 - e)).length < 47 by omega)) (Nat.le_of_ble_eq_true rfl) (Nat.le_of_ble_eq_true rfl) ?_
    rintro _ M1 ⟨rfl, hR1, hc⟩
    have hC1 := hC.tr hc
    exact g_iret 10 dEnd_getLinkWindow_10 rfl (by unfold gLW; (try rw [if_neg h2]); exact ⟨rfl, hR1, hC1⟩)

set_option maxRecDepth 100000 in
set_option maxHeartbeats 4000000 in
theorem ct_tkL {X : mX} {l : Launch} {M : mM} {A : zA} {e k : Nat} (hR : RC M A) (he : e < 2) (hk : k < 12) {a : Nat} {L : List (Int32 × Int32)} {z : Int32} (hl : FlC 223 M a L) : Ct X l uEnd_takeList (rk 1 20) [.ref (9 + 80 * e), .ref (29 + 80 * e + 5 * k), .ref a, .int z] M (fun r M' => r = none ∧ RC M' (tkL A e k L z) ∧ Chg M M' cP cP) := by
  refine Ct.of (by decide) (Nat.le_of_ble_eq_true rfl) ?_
  show G X l uEnd_takeList (rk 1 20) 0 0 M 0 [some (.ref (9 + 80 * e)), some (.ref (29 + 80 * e + 5 * k)), some (.ref a), some (.int z)] [] _
  have hC : Chg M M cP cP := Chg.rf
  refine g_aload_n 0 dEnd_takeList_0 rfl ?_
  refine g_aload_n 1 dEnd_takeList_1 rfl ?_
  refine g_putr 2 8 7 dEnd_takeList_2 ps_End_266 rfl rfl (hR.1.tStr he hk) ?_
  refine g_yL hR hC he hk (hl.cg hC) (fun M1 hR1 hC1 => ?_)
  refine g_iload_n 5 dEnd_takeList_5 rfl ?_
  refine g_if_eq 6 13 dEnd_takeList_6 rfl (fun h6 => ?_) (fun h6 => ?_)
  · exact g_vret 13 dEnd_takeList_13 rfl (by unfold tkL; (try rw [if_pos h6]); exact ⟨rfl, hR1, hC1⟩)
  · refine g_aload_n 9 dEnd_takeList_9 rfl ?_
    refine g_callV 10 [] dEnd_takeList_10 cs_End_276 rfl (ci := 8) rfl (by decide) (hR1.1.tStr he hk) rfl ⟨(Nat.le_of_ble_eq_true rfl), (Nat.le_of_ble_eq_true rfl)⟩ (Nat.le_of_ble_eq_true rfl) (ct_endGR hR1 he hk) (Nat.le_of_ble_eq_true rfl) (Nat.le_of_ble_eq_true rfl) ?_
    rintro _ M2 ⟨rfl, hR2, hc⟩
    have hC2 := hC1.tr hc
    exact g_vret 13 dEnd_takeList_13 rfl (by unfold tkL; (try rw [if_neg h6]); exact ⟨rfl, hR2, hC2⟩)

set_option maxRecDepth 100000 in
set_option maxHeartbeats 4000000 in
theorem g_mvS {X : mX} {l : Launch} {M : mM} {A : zA} {e : Nat} {c : Int32} {Q : Option Value → mM → Prop} (he : e < 2) (hq : ∀ M', RC M' (mvW A e 3 c 12) → Chg M M' cP cP → Q none M') : ∀ (j n : Nat), n + j = 12 → ∀ M1, RC M1 (mvW A e 3 c n) → Chg M M1 cP cP → G X l uEnd_moveSendWindows (rk 1 20) 0 0 M1 2 [some (.ref (9 + 80 * e)), some (.int c), some (.int (nI n))] [] Q
  | 0, n, hn, M1, hR1, hC1 => by
    have hn : n = 12 := by omega
    subst hn
    refine g_iload_n 2 dEnd_moveSendWindows_2 rfl ?_
    refine g_bipush 3 (nI 12) dEnd_moveSendWindows_3 rfl ?_
    refine g_icmp_geN 5 41 dEnd_moveSendWindows_5 rfl (by omega) (by omega) (fun h5 => ?_) (fun h5 => ?_)
    · exact g_vret 41 dEnd_moveSendWindows_41 rfl (hq _ hR1 hC1)
    · exact absurd (Nat.le_refl 12) h5
  | j + 1, n, hn, M1, hR1, hC1 => by
    have hk : n < 12 := by omega
    have ih := g_mvS (X := X) (l := l) he hq j (n + 1) (by omega)
    refine g_iload_n 2 dEnd_moveSendWindows_2 rfl ?_
    refine g_bipush 3 (nI 12) dEnd_moveSendWindows_3 rfl ?_
    refine g_icmp_geN 5 41 dEnd_moveSendWindows_5 rfl (by omega) (by omega) (fun h5 => ?_) (fun h5 => ?_)
    · exact absurd h5 (by omega)
    · refine g_aload_n 8 dEnd_moveSendWindows_8 rfl ?_
      refine g_getr 9 2 9 dEnd_moveSendWindows_9 fs_End_44 rfl (hR1.1.tEnd he) (hR1.1.rEnd9 he) ?_
      refine g_iload_n 12 dEnd_moveSendWindows_12 rfl ?_
      refine g_aaldN 13 5 (o := some _) dEnd_moveSendWindows_13 rfl (by decide) (hR1.1.TStrs he) (by omega) (by decide) (hR1.1.rStrs he hk) ?_
      refine g_callV 14 [] dEnd_moveSendWindows_14 cs_End_92 rfl (ci := 8) rfl (by decide) (hR1.1.tStr he hk) rfl ⟨(Nat.le_of_ble_eq_true rfl), (Nat.le_of_ble_eq_true rfl)⟩ (Nat.le_of_ble_eq_true rfl) (ct_acR hR1 he hk) (Nat.le_of_ble_eq_true rfl) (Nat.le_of_ble_eq_true rfl) ?_
      rintro _ M2 ⟨rfl, hM2⟩
      rw [hM2]
      clear hM2 M2
      refine g_if_eq 17 35 dEnd_moveSendWindows_17 rfl (fun h17 => ?_) (fun h17 => ?_)
      · refine g_iincN 35 dEnd_moveSendWindows_35 rfl (by decide) rfl ?_
        refine g_goto 38 2 dEnd_moveSendWindows_38 rfl ?_
        exact ih _ (by unfold mvW; (first | rw [if_pos h17] | rw [if_neg h17]); exact hR1) hC1
      · refine g_aload_n 20 dEnd_moveSendWindows_20 rfl ?_
        refine g_getr 21 2 9 dEnd_moveSendWindows_21 fs_End_44 rfl (hR1.1.tEnd he) (hR1.1.rEnd9 he) ?_
        refine g_iload_n 24 dEnd_moveSendWindows_24 rfl ?_
        refine g_aaldN 25 5 (o := some _) dEnd_moveSendWindows_25 rfl (by decide) (hR1.1.TStrs he) (by omega) (by decide) (hR1.1.rStrs he hk) ?_
        refine g_dup 26 dEnd_moveSendWindows_26 rfl ?_
        refine g_geti 27 8 3 dEnd_moveSendWindows_27 fs_End_173 rfl (hR1.1.tStr he hk) ?_
        refine g_top _ (hR1.sI (sc_S he hk (by omega) (by omega))) ?_
        refine g_iload_n 30 dEnd_moveSendWindows_30 rfl ?_
        refine g_iadd 31 dEnd_moveSendWindows_31 ?_
        refine g_puti 32 8 3 dEnd_moveSendWindows_32 ps_End_173 rfl (hR1.1.tStr he hk) ?_
        refine g_yI hR1 hC1 (sc_S he hk (by omega) (by omega)) (fun M2 hR2 hC2 => ?_)
        refine g_iincN 35 dEnd_moveSendWindows_35 rfl (by decide) rfl ?_
        refine g_goto 38 2 dEnd_moveSendWindows_38 rfl ?_
        exact ih _ (by unfold mvW; (first | rw [if_pos h17] | rw [if_neg h17]); exact hR2) hC2
set_option maxRecDepth 100000 in
set_option maxHeartbeats 4000000 in
theorem ct_mvS {X : mX} {l : Launch} {M : mM} {A : zA} {e : Nat} (hR : RC M A) (he : e < 2) {c : Int32} : Ct X l uEnd_moveSendWindows (rk 1 20) [.ref (9 + 80 * e), .int c] M (fun r M' => r = none ∧ RC M' (mvW A e 3 c 12) ∧ Chg M M' cP cP) := by
  refine Ct.of (by decide) (Nat.le_of_ble_eq_true rfl) ?_
  show G X l uEnd_moveSendWindows (rk 1 20) 0 0 M 0 [some (.ref (9 + 80 * e)), some (.int c), none] [] _
  have hC : Chg M M cP cP := Chg.rf
  refine g_iconst 0 (nI 0) dEnd_moveSendWindows_0 rfl ?_
  refine g_istore_n 1 dEnd_moveSendWindows_1 (by decide) rfl ?_
  exact g_mvS he (fun M' h1 h2 => ⟨rfl, h1, h2⟩) 12 0 rfl M hR hC

set_option maxRecDepth 100000 in
set_option maxHeartbeats 4000000 in
theorem g_mvR_ {X : mX} {l : Launch} {M : mM} {A : zA} {e : Nat} {c : Int32} {Q : Option Value → mM → Prop} (he : e < 2) (hq : ∀ M', RC M' (mvW A e 4 c 12) → Chg M M' cP cP → Q none M') : ∀ (j n : Nat), n + j = 12 → ∀ M1, RC M1 (mvW A e 4 c n) → Chg M M1 cP cP → G X l uEnd_moveReceiveWindows (rk 1 20) 0 0 M1 2 [some (.ref (9 + 80 * e)), some (.int c), some (.int (nI n))] [] Q
  | 0, n, hn, M1, hR1, hC1 => by
    have hn : n = 12 := by omega
    subst hn
    refine g_iload_n 2 dEnd_moveReceiveWindows_2 rfl ?_
    refine g_bipush 3 (nI 12) dEnd_moveReceiveWindows_3 rfl ?_
    refine g_icmp_geN 5 41 dEnd_moveReceiveWindows_5 rfl (by omega) (by omega) (fun h5 => ?_) (fun h5 => ?_)
    · exact g_vret 41 dEnd_moveReceiveWindows_41 rfl (hq _ hR1 hC1)
    · exact absurd (Nat.le_refl 12) h5
  | j + 1, n, hn, M1, hR1, hC1 => by
    have hk : n < 12 := by omega
    have ih := g_mvR_ (X := X) (l := l) he hq j (n + 1) (by omega)
    refine g_iload_n 2 dEnd_moveReceiveWindows_2 rfl ?_
    refine g_bipush 3 (nI 12) dEnd_moveReceiveWindows_3 rfl ?_
    refine g_icmp_geN 5 41 dEnd_moveReceiveWindows_5 rfl (by omega) (by omega) (fun h5 => ?_) (fun h5 => ?_)
    · exact absurd h5 (by omega)
    · refine g_aload_n 8 dEnd_moveReceiveWindows_8 rfl ?_
      refine g_getr 9 2 9 dEnd_moveReceiveWindows_9 fs_End_44 rfl (hR1.1.tEnd he) (hR1.1.rEnd9 he) ?_
      refine g_iload_n 12 dEnd_moveReceiveWindows_12 rfl ?_
      refine g_aaldN 13 5 (o := some _) dEnd_moveReceiveWindows_13 rfl (by decide) (hR1.1.TStrs he) (by omega) (by decide) (hR1.1.rStrs he hk) ?_
      refine g_callV 14 [] dEnd_moveReceiveWindows_14 cs_End_92 rfl (ci := 8) rfl (by decide) (hR1.1.tStr he hk) rfl ⟨(Nat.le_of_ble_eq_true rfl), (Nat.le_of_ble_eq_true rfl)⟩ (Nat.le_of_ble_eq_true rfl) (ct_acR hR1 he hk) (Nat.le_of_ble_eq_true rfl) (Nat.le_of_ble_eq_true rfl) ?_
      rintro _ M2 ⟨rfl, hM2⟩
      rw [hM2]
      clear hM2 M2
      refine g_if_eq 17 35 dEnd_moveReceiveWindows_17 rfl (fun h17 => ?_) (fun h17 => ?_)
      · refine g_iincN 35 dEnd_moveReceiveWindows_35 rfl (by decide) rfl ?_
        refine g_goto 38 2 dEnd_moveReceiveWindows_38 rfl ?_
        exact ih _ (by unfold mvW; (first | rw [if_pos h17] | rw [if_neg h17]); exact hR1) hC1
      · refine g_aload_n 20 dEnd_moveReceiveWindows_20 rfl ?_
        refine g_getr 21 2 9 dEnd_moveReceiveWindows_21 fs_End_44 rfl (hR1.1.tEnd he) (hR1.1.rEnd9 he) ?_
        refine g_iload_n 24 dEnd_moveReceiveWindows_24 rfl ?_
        refine g_aaldN 25 5 (o := some _) dEnd_moveReceiveWindows_25 rfl (by decide) (hR1.1.TStrs he) (by omega) (by decide) (hR1.1.rStrs he hk) ?_
        refine g_dup 26 dEnd_moveReceiveWindows_26 rfl ?_
        refine g_geti 27 8 4 dEnd_moveReceiveWindows_27 fs_End_197 rfl (hR1.1.tStr he hk) ?_
        refine g_top _ (hR1.sI (sc_S he hk (by omega) (by omega))) ?_
        refine g_iload_n 30 dEnd_moveReceiveWindows_30 rfl ?_
        refine g_iadd 31 dEnd_moveReceiveWindows_31 ?_
        refine g_puti 32 8 4 dEnd_moveReceiveWindows_32 ps_End_197 rfl (hR1.1.tStr he hk) ?_
        refine g_yI hR1 hC1 (sc_S he hk (by omega) (by omega)) (fun M2 hR2 hC2 => ?_)
        refine g_iincN 35 dEnd_moveReceiveWindows_35 rfl (by decide) rfl ?_
        refine g_goto 38 2 dEnd_moveReceiveWindows_38 rfl ?_
        exact ih _ (by unfold mvW; (first | rw [if_pos h17] | rw [if_neg h17]); exact hR2) hC2
set_option maxRecDepth 100000 in
set_option maxHeartbeats 4000000 in
theorem ct_mvR_ {X : mX} {l : Launch} {M : mM} {A : zA} {e : Nat} (hR : RC M A) (he : e < 2) {c : Int32} : Ct X l uEnd_moveReceiveWindows (rk 1 20) [.ref (9 + 80 * e), .int c] M (fun r M' => r = none ∧ RC M' (mvW A e 4 c 12) ∧ Chg M M' cP cP) := by
  refine Ct.of (by decide) (Nat.le_of_ble_eq_true rfl) ?_
  show G X l uEnd_moveReceiveWindows (rk 1 20) 0 0 M 0 [some (.ref (9 + 80 * e)), some (.int c), none] [] _
  have hC : Chg M M cP cP := Chg.rf
  refine g_iconst 0 (nI 0) dEnd_moveReceiveWindows_0 rfl ?_
  refine g_istore_n 1 dEnd_moveReceiveWindows_1 (by decide) rfl ?_
  exact g_mvR_ he (fun M' h1 h2 => ⟨rfl, h1, h2⟩) 12 0 rfl M hR hC

set_option maxRecDepth 100000 in
set_option maxHeartbeats 4000000 in
theorem g_clI {X : mX} {l : Launch} {M : mM} {A : zA} {e k : Nat} {Q : Option Value → mM → Prop} (he : e < 2) (hk : k < 12) (hq : ∀ M', RC M' (clI A e k) → Chg M M' cP cP → Q none M') : ∀ (j n : Nat), n + j = k → ∀ M1, RC M1 (clI A e n) → Chg M M1 cP cP → G X l uEnd_closeIdleBelow (rk 0 0) 0 0 M1 2 [some (.ref (9 + 80 * e)), some (.int (nI (2 * k + 1))), some (.int (nI n))] [] Q
  | 0, n, hn, M1, hR1, hC1 => by
    have hn : n = k := by omega
    subst hn
    have hn2 := hk
    refine g_iload_n 2 dEnd_closeIdleBelow_2 rfl ?_
    refine g_bipush 3 (nI 12) dEnd_closeIdleBelow_3 rfl ?_
    refine g_icmp_geN 5 49 dEnd_closeIdleBelow_5 rfl (by omega) (by omega) (fun h5 => ?_) (fun h5 => ?_)
    · exact absurd h5 (by omega)
    · refine g_aload_n 8 dEnd_closeIdleBelow_8 rfl ?_
      refine g_getr 9 2 9 dEnd_closeIdleBelow_9 fs_End_44 rfl (hR1.1.tEnd he) (hR1.1.rEnd9 he) ?_
      refine g_iload_n 12 dEnd_closeIdleBelow_12 rfl ?_
      refine g_aaldN 13 5 (o := some _) dEnd_closeIdleBelow_13 rfl (by decide) (hR1.1.TStrs he) (by omega) (by decide) (hR1.1.rStrs he hn2) ?_
      refine g_geti 14 8 0 dEnd_closeIdleBelow_14 fs_End_121 rfl (hR1.1.tStr he hn2) ?_
      refine g_top _ (hR1.num he hn2) ?_
      refine g_iload_n 17 dEnd_closeIdleBelow_17 rfl ?_
      refine g_icmp_geN 18 49 dEnd_closeIdleBelow_18 rfl (by omega) (by omega) (fun h18 => ?_) (fun h18 => ?_)
      · exact g_vret 49 dEnd_closeIdleBelow_49 rfl (hq _ hR1 hC1)
      · exact absurd (Nat.le_refl _) h18
  | j + 1, n, hn, M1, hR1, hC1 => by
    have hn2 : n < 12 := by omega
    have ih := g_clI (X := X) (l := l) he hk hq j (n + 1) (by omega)
    refine g_iload_n 2 dEnd_closeIdleBelow_2 rfl ?_
    refine g_bipush 3 (nI 12) dEnd_closeIdleBelow_3 rfl ?_
    refine g_icmp_geN 5 49 dEnd_closeIdleBelow_5 rfl (by omega) (by omega) (fun h5 => ?_) (fun h5 => ?_)
    · exact absurd h5 (by omega)
    · refine g_aload_n 8 dEnd_closeIdleBelow_8 rfl ?_
      refine g_getr 9 2 9 dEnd_closeIdleBelow_9 fs_End_44 rfl (hR1.1.tEnd he) (hR1.1.rEnd9 he) ?_
      refine g_iload_n 12 dEnd_closeIdleBelow_12 rfl ?_
      refine g_aaldN 13 5 (o := some _) dEnd_closeIdleBelow_13 rfl (by decide) (hR1.1.TStrs he) (by omega) (by decide) (hR1.1.rStrs he hn2) ?_
      refine g_geti 14 8 0 dEnd_closeIdleBelow_14 fs_End_121 rfl (hR1.1.tStr he hn2) ?_
      refine g_top _ (hR1.num he hn2) ?_
      refine g_iload_n 17 dEnd_closeIdleBelow_17 rfl ?_
      refine g_icmp_geN 18 49 dEnd_closeIdleBelow_18 rfl (by omega) (by omega) (fun h18 => ?_) (fun h18 => ?_)
      · exact absurd h18 (by omega)
      · refine g_aload_n 21 dEnd_closeIdleBelow_21 rfl ?_
        refine g_getr 22 2 9 dEnd_closeIdleBelow_22 fs_End_44 rfl (hR1.1.tEnd he) (hR1.1.rEnd9 he) ?_
        refine g_iload_n 25 dEnd_closeIdleBelow_25 rfl ?_
        refine g_aaldN 26 5 (o := some _) dEnd_closeIdleBelow_26 rfl (by decide) (hR1.1.TStrs he) (by omega) (by decide) (hR1.1.rStrs he hn2) ?_
        refine g_geti 27 8 1 dEnd_closeIdleBelow_27 fs_End_253 rfl (hR1.1.tStr he hn2) ?_
        refine g_top _ (hR1.sI (sc_S he hn2 (by omega) (by omega))) ?_
        refine g_if_ne 30 43 dEnd_closeIdleBelow_30 rfl (fun h30 => ?_) (fun h30 => ?_)
        · refine g_iincN 43 dEnd_closeIdleBelow_43 rfl (by decide) rfl ?_
          refine g_goto 46 2 dEnd_closeIdleBelow_46 rfl ?_
          exact ih _ (by unfold clI; (first | rw [if_pos h30] | rw [if_neg h30]); exact hR1) hC1
        · refine g_aload_n 33 dEnd_closeIdleBelow_33 rfl ?_
          refine g_getr 34 2 9 dEnd_closeIdleBelow_34 fs_End_44 rfl (hR1.1.tEnd he) (hR1.1.rEnd9 he) ?_
          refine g_iload_n 37 dEnd_closeIdleBelow_37 rfl ?_
          refine g_aaldN 38 5 (o := some _) dEnd_closeIdleBelow_38 rfl (by decide) (hR1.1.TStrs he) (by omega) (by decide) (hR1.1.rStrs he hn2) ?_
          refine g_iconst 39 4 dEnd_closeIdleBelow_39 rfl ?_
          refine g_puti 40 8 1 dEnd_closeIdleBelow_40 ps_End_253 rfl (hR1.1.tStr he hn2) ?_
          refine g_yI hR1 hC1 (sc_S he hn2 (by omega) (by omega)) (fun M2 hR2 hC2 => ?_)
          refine g_iincN 43 dEnd_closeIdleBelow_43 rfl (by decide) rfl ?_
          refine g_goto 46 2 dEnd_closeIdleBelow_46 rfl ?_
          exact ih _ (by unfold clI; (first | rw [if_pos h30] | rw [if_neg h30]); exact hR2) hC2
set_option maxRecDepth 100000 in
set_option maxHeartbeats 4000000 in
theorem ct_clI {X : mX} {l : Launch} {M : mM} {A : zA} {e k : Nat} (hR : RC M A) (he : e < 2) (hk : k < 12) : Ct X l uEnd_closeIdleBelow (rk 0 0) [.ref (9 + 80 * e), .int (nI (2 * k + 1))] M (fun r M' => r = none ∧ RC M' (clI A e k) ∧ Chg M M' cP cP) := by
  refine Ct.of (by decide) (Nat.le_of_ble_eq_true rfl) ?_
  show G X l uEnd_closeIdleBelow (rk 0 0) 0 0 M 0 [some (.ref (9 + 80 * e)), some (.int (nI (2 * k + 1))), none] [] _
  have hC : Chg M M cP cP := Chg.rf
  refine g_iconst 0 (nI 0) dEnd_closeIdleBelow_0 rfl ?_
  refine g_istore_n 1 dEnd_closeIdleBelow_1 (by decide) rfl ?_
  exact g_clI he hk (fun M' h1 h2 => ⟨rfl, h1, h2⟩) k 0 (by omega) M hR hC

set_option maxRecDepth 100000 in
set_option maxHeartbeats 4000000 in
theorem ct_hlA {X : mX} {l : Launch} {M : mM} {A : zA} {e : Nat} (hR : RC M A) (he : e < 2) {v : Int32} : Ct X l uEnc_hearLimit (rk 1 21) [.ref (14 + 80 * e), .int v] M (fun r M' => r = none ∧ RC M' (hlA A e v) ∧ Chg M M' cP cP) := by
  refine Ct.of (by decide) (Nat.le_of_ble_eq_true rfl) ?_
  show G X l uEnc_hearLimit (rk 1 21) 0 0 M 0 [some (.ref (14 + 80 * e)), some (.int v)] [] _
  have hC : Chg M M cP cP := Chg.rf
  refine g_aload_n 0 dEnc_hearLimit_0 rfl ?_
  refine g_aload_n 1 dEnc_hearLimit_1 rfl ?_
  refine g_geti 2 4 1 dEnc_hearLimit_2 fs_Enc_18 rfl (hR.1.tEnc he) ?_
  refine g_top _ (hR.sI (sc_N he (by omega) (by omega))) ?_
  refine g_if_eq 5 19 dEnc_hearLimit_5 rfl (fun h5 => ?_) (fun h5 => ?_)
  · refine g_iload_n 19 dEnc_hearLimit_19 rfl ?_
    refine g_puti 20 4 2 dEnc_hearLimit_20 ps_Enc_22 rfl (hR.1.tEnc he) ?_
    refine g_yI hR hC (sc_N he (by omega) (by omega)) (fun M1 hR1 hC1 => ?_)
    refine g_aload_n 23 dEnc_hearLimit_23 rfl ?_
    refine g_iload_n 24 dEnc_hearLimit_24 rfl ?_
    refine g_puti 25 4 3 dEnc_hearLimit_25 ps_Enc_26 rfl (hR1.1.tEnc he) ?_
    refine g_yI hR1 hC1 (sc_N he (by omega) (by omega)) (fun M2 hR2 hC2 => ?_)
    refine g_aload_n 28 dEnc_hearLimit_28 rfl ?_
    refine g_iconst 29 1 dEnc_hearLimit_29 rfl ?_
    refine g_putz 30 4 1 dEnc_hearLimit_30 ps_Enc_18 rfl (by decide) (hR2.1.tEnc he) ?_
    refine g_yI hR2 hC2 (sc_N he (by omega) (by omega)) (fun M3 hR3 hC3 => ?_)
    exact g_vret 33 dEnc_hearLimit_33 rfl (by unfold hlA; (try rw [if_pos h5]); exact ⟨rfl, hR3, hC3⟩)
  · refine g_aload_n 8 dEnc_hearLimit_8 rfl ?_
    refine g_geti 9 4 2 dEnc_hearLimit_9 fs_Enc_22 rfl (hR.1.tEnc he) ?_
    refine g_top _ (hR.sI (sc_N he (by omega) (by omega))) ?_
    refine g_iload_n 12 dEnc_hearLimit_12 rfl ?_
    refine g_mmin 13 dEnc_hearLimit_13 jm_Enc_29 jm_min jm_init jm_minc ⟨(Nat.le_of_ble_eq_true rfl), (Nat.le_of_ble_eq_true rfl)⟩ ?_
    refine g_goto 16 20 dEnc_hearLimit_16 rfl ?_
    refine g_puti 20 4 2 dEnc_hearLimit_20 ps_Enc_22 rfl (hR.1.tEnc he) ?_
    refine g_yI hR hC (sc_N he (by omega) (by omega)) (fun M1 hR1 hC1 => ?_)
    refine g_aload_n 23 dEnc_hearLimit_23 rfl ?_
    refine g_iload_n 24 dEnc_hearLimit_24 rfl ?_
    refine g_puti 25 4 3 dEnc_hearLimit_25 ps_Enc_26 rfl (hR1.1.tEnc he) ?_
    refine g_yI hR1 hC1 (sc_N he (by omega) (by omega)) (fun M2 hR2 hC2 => ?_)
    refine g_aload_n 28 dEnc_hearLimit_28 rfl ?_
    refine g_iconst 29 1 dEnc_hearLimit_29 rfl ?_
    refine g_putz 30 4 1 dEnc_hearLimit_30 ps_Enc_18 rfl (by decide) (hR2.1.tEnc he) ?_
    refine g_yI hR2 hC2 (sc_N he (by omega) (by omega)) (fun M3 hR3 hC3 => ?_)
    exact g_vret 33 dEnc_hearLimit_33 rfl (by unfold hlA; (try rw [if_neg h5]); exact ⟨rfl, hR3, hC3⟩)

set_option maxRecDepth 100000 in
set_option maxHeartbeats 4000000 in
theorem ct_lifA {X : mX} {l : Launch} {M : mM} {A : zA} {e : Nat} (hR : RC M A) (he : e < 2) {v : Int32} : Ct X l uDec_limitInForce (rk 0 0) [.ref (19 + 80 * e), .int v] M (fun r M' => r = none ∧ RC M' (lifA A e v) ∧ Chg M M' cP cP) := by
  refine Ct.of (by decide) (Nat.le_of_ble_eq_true rfl) ?_
  show G X l uDec_limitInForce (rk 0 0) 0 0 M 0 [some (.ref (19 + 80 * e)), some (.int v)] [] _
  have hC : Chg M M cP cP := Chg.rf
  refine g_iload_n 0 dDec_limitInForce_0 rfl ?_
  refine g_aload_n 1 dDec_limitInForce_1 rfl ?_
  refine g_getr 2 6 0 dDec_limitInForce_2 fs_Dec_12 rfl (hR.1.tDec he) (hR.1.rDec0 he) ?_
  refine g_geti 5 5 5 dDec_limitInForce_5 fs_Dec_22 rfl (hR.1.tTabD he) ?_
  refine g_top _ (hR.tm1 he) ?_
  refine g_icmp_ge 8 16 dDec_limitInForce_8 rfl (fun h8 => ?_) (fun h8 => ?_)
  · exact g_vret 16 dDec_limitInForce_16 rfl (by unfold lifA; (try rw [if_pos h8]); exact ⟨rfl, hR, hC⟩)
  · refine g_aload_n 11 dDec_limitInForce_11 rfl ?_
    refine g_iconst 12 1 dDec_limitInForce_12 rfl ?_
    refine g_putz 13 6 1 dDec_limitInForce_13 ps_Dec_18 rfl (by decide) (hR.1.tDec he) ?_
    refine g_yI hR hC (sc_D he) (fun M1 hR1 hC1 => ?_)
    exact g_vret 16 dDec_limitInForce_16 rfl (by unfold lifA; (try rw [if_neg h8]); exact ⟨rfl, hR1, hC1⟩)

set_option maxRecDepth 100000 in
set_option maxHeartbeats 4000000 in
theorem ct_frcA {X : mX} {l : Launch} {M : mM} {A : zA} {e : Nat} (hR : RC M A) (he : e < 2) {s v : Int32} : Ct X l uEnd_putInForce (rk 2 42) [.ref (9 + 80 * e), .int s, .int v] M (fun r M' => r = none ∧ RC M' (frcA A e s v) ∧ Chg M M' cP cP) := by
  refine Ct.of (by decide) (Nat.le_of_ble_eq_true rfl) ?_
  show G X l uEnd_putInForce (rk 2 42) 0 0 M 0 [some (.ref (9 + 80 * e)), some (.int s), some (.int v)] [] _
  have hC : Chg M M cP cP := Chg.rf
  refine g_iload_n 0 dEnd_putInForce_0 rfl ?_
  by_cases s1_1 : s = 1
  · refine g_top 1 s1_1 ?_
    refine g_lookup 1 28 dEnd_putInForce_1 rfl rfl rfl ?_
    refine g_aload_n 28 dEnd_putInForce_28 rfl ?_
    refine g_getr 29 2 8 dEnd_putInForce_29 fs_End_38 rfl (hR.1.tEnd he) (hR.1.rEnd8 he) ?_
    refine g_iload_n 32 dEnd_putInForce_32 rfl ?_
    refine g_callV 33 [_] dEnd_putInForce_33 cs_End_304 rfl (ci := 6) rfl (by decide) (hR.1.tDec he) rfl ⟨(Nat.le_of_ble_eq_true rfl), (Nat.le_of_ble_eq_true rfl)⟩ (Nat.le_of_ble_eq_true rfl) (ct_lifA hR he) (Nat.le_of_ble_eq_true rfl) (Nat.le_of_ble_eq_true rfl) ?_
    rintro _ M1 ⟨rfl, hR1, hc⟩
    have hC1 := hC.tr hc
    refine g_aload_n 36 dEnd_putInForce_36 rfl ?_
    refine g_getr 37 2 11 dEnd_putInForce_37 fs_End_55 rfl (hR1.1.tEnd he) (hR1.1.rEnd11 he) ?_
    refine g_iload_n 40 dEnd_putInForce_40 rfl ?_
    refine g_puti 41 7 0 dEnd_putInForce_41 ps_End_283 rfl (hR1.1.tForce he) ?_
    refine g_yI hR1 hC1 (sc_F he (by omega)) (fun M2 hR2 hC2 => ?_)
    refine g_goto 44 79 dEnd_putInForce_44 rfl ?_
    exact g_vret 79 dEnd_putInForce_79 rfl (by unfold frcA; (try rw [if_pos s1_1]); exact ⟨rfl, hR2, hC2⟩)
  by_cases s1_3 : s = 3
  · refine g_top 3 s1_3 ?_
    refine g_lookup 1 47 dEnd_putInForce_1 rfl rfl rfl ?_
    refine g_aload_n 47 dEnd_putInForce_47 rfl ?_
    refine g_getr 48 2 11 dEnd_putInForce_48 fs_End_55 rfl (hR.1.tEnd he) (hR.1.rEnd11 he) ?_
    refine g_iload_n 51 dEnd_putInForce_51 rfl ?_
    refine g_puti 52 7 1 dEnd_putInForce_52 ps_End_103 rfl (hR.1.tForce he) ?_
    refine g_yI hR hC (sc_F he (by omega)) (fun M1 hR1 hC1 => ?_)
    refine g_goto 55 79 dEnd_putInForce_55 rfl ?_
    exact g_vret 79 dEnd_putInForce_79 rfl (by unfold frcA; (try rw [if_neg s1_1]); (try rw [if_pos s1_3]); exact ⟨rfl, hR1, hC1⟩)
  refine g_lookup 1 58 dEnd_putInForce_1 rfl (by have q0 := lv_neT s1_1 (a := 1) rfl; have q1 := lv_neT s1_3 (a := 3) rfl; simp [Op.lookupswitch.offset, Ne.symm, *]; rfl) rfl ?_
  refine g_aload_n 58 dEnd_putInForce_58 rfl ?_
  refine g_iload_n 59 dEnd_putInForce_59 rfl ?_
  refine g_aload_n 60 dEnd_putInForce_60 rfl ?_
  refine g_getr 61 2 11 dEnd_putInForce_61 fs_End_55 rfl (hR.1.tEnd he) (hR.1.rEnd11 he) ?_
  refine g_geti 64 7 2 dEnd_putInForce_64 fs_End_110 rfl (hR.1.tForce he) ?_
  refine g_top _ (hR.sI (sc_F he (by omega))) ?_
  refine g_isub 67 dEnd_putInForce_67 ?_
  refine g_callV 68 [_] dEnd_putInForce_68 cs_End_307 rfl (ci := 2) rfl (by decide) (hR.1.tEnd he) rfl ⟨(Nat.le_of_ble_eq_true rfl), (Nat.le_of_ble_eq_true rfl)⟩ (Nat.le_of_ble_eq_true rfl) (ct_mvR_ hR he) (Nat.le_of_ble_eq_true rfl) (Nat.le_of_ble_eq_true rfl) ?_
  rintro _ M1 ⟨rfl, hR1, hc⟩
  have hC1 := hC.tr hc
  refine g_aload_n 71 dEnd_putInForce_71 rfl ?_
  refine g_getr 72 2 11 dEnd_putInForce_72 fs_End_55 rfl (hR1.1.tEnd he) (hR1.1.rEnd11 he) ?_
  refine g_iload_n 75 dEnd_putInForce_75 rfl ?_
  refine g_puti 76 7 2 dEnd_putInForce_76 ps_End_110 rfl (hR1.1.tForce he) ?_
  refine g_yI hR1 hC1 (sc_F he (by omega)) (fun M2 hR2 hC2 => ?_)
  exact g_vret 79 dEnd_putInForce_79 rfl (by unfold frcA; (try rw [if_neg s1_1]); (try rw [if_neg s1_3]); exact ⟨rfl, hR2, hC2⟩)

set_option maxRecDepth 100000 in
set_option maxHeartbeats 4000000 in
theorem ct_hrS {X : mX} {l : Launch} {M : mM} {A : zA} {e : Nat} (hR : RC M A) (he : e < 2) {s v : Int32} : Ct X l uEnd_hearSetting (rk 2 42) [.ref (9 + 80 * e), .int s, .int v] M (fun r M' => r = none ∧ RC M' (hrS A e s v) ∧ Chg M M' cP cP) := by
  refine Ct.of (by decide) (Nat.le_of_ble_eq_true rfl) ?_
  show G X l uEnd_hearSetting (rk 2 42) 0 0 M 0 [some (.ref (9 + 80 * e)), some (.int s), some (.int v)] [] _
  have hC : Chg M M cP cP := Chg.rf
  refine g_iload_n 0 dEnd_hearSetting_0 rfl ?_
  by_cases s1_1 : s = 1
  · refine g_top 1 s1_1 ?_
    refine g_tableIn 1 32 dEnd_hearSetting_1 (by decide) (by decide) rfl rfl ?_
    refine g_aload_n 32 dEnd_hearSetting_32 rfl ?_
    refine g_getr 33 2 7 dEnd_hearSetting_33 fs_End_31 rfl (hR.1.tEnd he) (hR.1.rEnd7 he) ?_
    refine g_iload_n 36 dEnd_hearSetting_36 rfl ?_
    refine g_callV 37 [_] dEnd_hearSetting_37 cs_End_321 rfl (ci := 4) rfl (by decide) (hR.1.tEnc he) rfl ⟨(Nat.le_of_ble_eq_true rfl), (Nat.le_of_ble_eq_true rfl)⟩ (Nat.le_of_ble_eq_true rfl) (ct_hlA hR he) (Nat.le_of_ble_eq_true rfl) (Nat.le_of_ble_eq_true rfl) ?_
    rintro _ M1 ⟨rfl, hR1, hc⟩
    have hC1 := hC.tr hc
    refine g_goto 40 78 dEnd_hearSetting_40 rfl ?_
    exact g_vret 78 dEnd_hearSetting_78 rfl (by unfold hrS; first | (rw [if_pos s1_1]; exact ⟨rfl, hR1, hC1⟩) | (rw [if_neg s1_1, if_pos s1_3]; exact ⟨rfl, hR1, hC1⟩) | (rw [if_neg s1_1, if_neg s1_3, if_pos s1_4]; exact ⟨rfl, hR1, hC1⟩) | (rw [if_neg s1_1, if_neg s1_3, if_neg s1_4]; exact ⟨rfl, hR1, hC1⟩) | (rw [if_neg s1_1, if_neg (by rw [s1_2]; decide), if_neg (by rw [s1_2]; decide)]; exact ⟨rfl, hR1, hC1⟩))
  by_cases s1_2 : s = 2
  · refine g_top 2 s1_2 ?_
    refine g_tableIn 1 78 dEnd_hearSetting_1 (by decide) (by decide) rfl rfl ?_
    exact g_vret 78 dEnd_hearSetting_78 rfl (by unfold hrS; first | (rw [if_pos s1_1]; exact ⟨rfl, hR, hC⟩) | (rw [if_neg s1_1, if_pos s1_3]; exact ⟨rfl, hR, hC⟩) | (rw [if_neg s1_1, if_neg s1_3, if_pos s1_4]; exact ⟨rfl, hR, hC⟩) | (rw [if_neg s1_1, if_neg s1_3, if_neg s1_4]; exact ⟨rfl, hR, hC⟩) | (rw [if_neg s1_1, if_neg (by rw [s1_2]; decide), if_neg (by rw [s1_2]; decide)]; exact ⟨rfl, hR, hC⟩))
  by_cases s1_3 : s = 3
  · refine g_top 3 s1_3 ?_
    refine g_tableIn 1 43 dEnd_hearSetting_1 (by decide) (by decide) rfl rfl ?_
    refine g_aload_n 43 dEnd_hearSetting_43 rfl ?_
    refine g_getr 44 2 10 dEnd_hearSetting_44 fs_End_51 rfl (hR.1.tEnd he) (hR.1.rEnd10 he) ?_
    refine g_iload_n 47 dEnd_hearSetting_47 rfl ?_
    refine g_puti 48 7 1 dEnd_hearSetting_48 ps_End_103 rfl (hR.1.tTold he) ?_
    refine g_yI hR hC (sc_T he (by omega)) (fun M1 hR1 hC1 => ?_)
    refine g_goto 51 78 dEnd_hearSetting_51 rfl ?_
    exact g_vret 78 dEnd_hearSetting_78 rfl (by unfold hrS; first | (rw [if_pos s1_1]; exact ⟨rfl, hR1, hC1⟩) | (rw [if_neg s1_1, if_pos s1_3]; exact ⟨rfl, hR1, hC1⟩) | (rw [if_neg s1_1, if_neg s1_3, if_pos s1_4]; exact ⟨rfl, hR1, hC1⟩) | (rw [if_neg s1_1, if_neg s1_3, if_neg s1_4]; exact ⟨rfl, hR1, hC1⟩) | (rw [if_neg s1_1, if_neg (by rw [s1_2]; decide), if_neg (by rw [s1_2]; decide)]; exact ⟨rfl, hR1, hC1⟩))
  by_cases s1_4 : s = 4
  · refine g_top 4 s1_4 ?_
    refine g_tableIn 1 54 dEnd_hearSetting_1 (by decide) (by decide) rfl rfl ?_
    refine g_aload_n 54 dEnd_hearSetting_54 rfl ?_
    refine g_iload_n 55 dEnd_hearSetting_55 rfl ?_
    refine g_aload_n 56 dEnd_hearSetting_56 rfl ?_
    refine g_getr 57 2 10 dEnd_hearSetting_57 fs_End_51 rfl (hR.1.tEnd he) (hR.1.rEnd10 he) ?_
    refine g_geti 60 7 2 dEnd_hearSetting_60 fs_End_110 rfl (hR.1.tTold he) ?_
    refine g_top _ (hR.sI (sc_T he (by omega))) ?_
    refine g_isub 63 dEnd_hearSetting_63 ?_
    refine g_callV 64 [_] dEnd_hearSetting_64 cs_End_324 rfl (ci := 2) rfl (by decide) (hR.1.tEnd he) rfl ⟨(Nat.le_of_ble_eq_true rfl), (Nat.le_of_ble_eq_true rfl)⟩ (Nat.le_of_ble_eq_true rfl) (ct_mvS hR he) (Nat.le_of_ble_eq_true rfl) (Nat.le_of_ble_eq_true rfl) ?_
    rintro _ M1 ⟨rfl, hR1, hc⟩
    have hC1 := hC.tr hc
    refine g_aload_n 67 dEnd_hearSetting_67 rfl ?_
    refine g_getr 68 2 10 dEnd_hearSetting_68 fs_End_51 rfl (hR1.1.tEnd he) (hR1.1.rEnd10 he) ?_
    refine g_iload_n 71 dEnd_hearSetting_71 rfl ?_
    refine g_puti 72 7 2 dEnd_hearSetting_72 ps_End_110 rfl (hR1.1.tTold he) ?_
    refine g_yI hR1 hC1 (sc_T he (by omega)) (fun M2 hR2 hC2 => ?_)
    refine g_goto 75 78 dEnd_hearSetting_75 rfl ?_
    exact g_vret 78 dEnd_hearSetting_78 rfl (by unfold hrS; first | (rw [if_pos s1_1]; exact ⟨rfl, hR2, hC2⟩) | (rw [if_neg s1_1, if_pos s1_3]; exact ⟨rfl, hR2, hC2⟩) | (rw [if_neg s1_1, if_neg s1_3, if_pos s1_4]; exact ⟨rfl, hR2, hC2⟩) | (rw [if_neg s1_1, if_neg s1_3, if_neg s1_4]; exact ⟨rfl, hR2, hC2⟩) | (rw [if_neg s1_1, if_neg (by rw [s1_2]; decide), if_neg (by rw [s1_2]; decide)]; exact ⟨rfl, hR2, hC2⟩))
  refine g_tableOut 1 78 dEnd_hearSetting_1 (by have q0 := lv_neT s1_1 (a := 1) rfl; have q1 := lv_neT s1_2 (a := 2) rfl; have q2 := lv_neT s1_3 (a := 3) rfl; have q3 := lv_neT s1_4 (a := 4) rfl; omega) rfl ?_
  exact g_vret 78 dEnd_hearSetting_78 rfl (by unfold hrS; first | (rw [if_pos s1_1]; exact ⟨rfl, hR, hC⟩) | (rw [if_neg s1_1, if_pos s1_3]; exact ⟨rfl, hR, hC⟩) | (rw [if_neg s1_1, if_neg s1_3, if_pos s1_4]; exact ⟨rfl, hR, hC⟩) | (rw [if_neg s1_1, if_neg s1_3, if_neg s1_4]; exact ⟨rfl, hR, hC⟩) | (rw [if_neg s1_1, if_neg (by rw [s1_2]; decide), if_neg (by rw [s1_2]; decide)]; exact ⟨rfl, hR, hC⟩))

set_option maxRecDepth 100000 in
set_option maxHeartbeats 4000000 in
theorem ct_gSt {X : mX} {l : Launch} {M : mM} {A : zA} {e : Nat} (hR : RC M A) (he : e < 2) {s v : Int32} (hp : (zP A (1 - e)).length ≤ 44) : Ct X l uEnd_getSetting (rn 4 80 2 14) [.ref (9 + 80 * e), .int s, .int v] M (fun r M' => r = some (.int (gSt A e s v).1) ∧ RC M' (gSt A e s v).2 ∧ Chg M M' cP cP) := by
  refine Ct.of (by decide) (Nat.le_of_ble_eq_true rfl) ?_
  show G X l uEnd_getSetting (rn 4 80 2 14) 2 14 M 0 [some (.ref (9 + 80 * e)), some (.int s), some (.int v)] [] _
  have hC : Chg M M cP cP := Chg.rf
  refine g_iload_n 0 dEnd_getSetting_0 rfl ?_
  refine g_iload_n 1 dEnd_getSetting_1 rfl ?_
  refine g_callS 2 [_, _] dEnd_getSetting_2 cs_End_310 rfl rfl ⟨(Nat.le_of_ble_eq_true rfl), (Nat.le_of_ble_eq_true rfl)⟩ (Nat.le_of_ble_eq_true rfl) (ct_Sett_isInRange) (Nat.le_of_ble_eq_true rfl) (Nat.le_of_ble_eq_true rfl) ?_
  rintro _ M2 ⟨rfl, hM2⟩
  rw [hM2]
  clear hM2 M2
  refine g_if_ne 5 23 dEnd_getSetting_5 rfl (fun h5 => ?_) (fun h5 => ?_)
  · refine g_aload_n 23 dEnd_getSetting_23 rfl ?_
    refine g_iload_n 24 dEnd_getSetting_24 rfl ?_
    refine g_iload_n 25 dEnd_getSetting_25 rfl ?_
    refine g_callV 26 [_, _] dEnd_getSetting_26 cs_End_314 rfl (ci := 2) rfl (by decide) (hR.1.tEnd he) rfl ⟨(Nat.le_of_ble_eq_true rfl), (Nat.le_of_ble_eq_true rfl)⟩ (Nat.le_of_ble_eq_true rfl) (ct_hrS hR he) (Nat.le_of_ble_eq_true rfl) (Nat.le_of_ble_eq_true rfl) ?_
    rintro _ M1 ⟨rfl, hR1, hc⟩
    have hC1 := hC.tr hc
    refine g_aload_n 29 dEnd_getSetting_29 rfl ?_
    refine g_getr 30 2 2 dEnd_getSetting_30 fs_End_82 rfl (hR1.1.tEnd he) (hR1.1.rEnd2 he) ?_
    refine g_callS 33 [] dEnd_getSetting_33 cs_End_317 rfl rfl ⟨(Nat.le_of_ble_eq_true rfl), (Nat.le_of_ble_eq_true rfl)⟩ (Nat.le_of_ble_eq_true rfl) (ct_ofAckR hR1) (Nat.le_of_ble_eq_true rfl) (Nat.le_of_ble_eq_true rfl) ?_
    rintro _ M2 ⟨f2, rfl, hG2, hR2, hc⟩
    have hC2 := hC1.tr hc
    refine g_callV 36 [_] dEnd_getSetting_36 cs_End_134 rfl (ci := 1) rfl (by decide) (hR2.1.tPipeO he) rfl ⟨(Nat.le_of_ble_eq_true rfl), (Nat.le_of_ble_eq_true rfl)⟩ (Nat.le_of_ble_eq_true rfl) (ct_addR hR2 he hG2 (show (zP (hrS A e s v) (1 - e)).length < 47 by rw [hrS_P]; omega)) (Nat.le_of_ble_eq_true rfl) (Nat.le_of_ble_eq_true rfl) ?_
    rintro _ M3 ⟨rfl, hR3, hc⟩
    have hC3 := hC2.tr hc
    refine g_iconst 39 0 dEnd_getSetting_39 rfl ?_
    exact g_iret 40 dEnd_getSetting_40 rfl (by unfold gSt; (try rw [if_neg h5]); exact ⟨rfl, hR3, hC3⟩)
  · refine g_aload_n 8 dEnd_getSetting_8 rfl ?_
    refine g_iload_n 9 dEnd_getSetting_9 rfl ?_
    refine g_iconst 10 4 dEnd_getSetting_10 rfl ?_
    refine g_icmp_ne 11 18 dEnd_getSetting_11 rfl (fun h11 => ?_) (fun h11 => ?_)
    · refine g_iconst 18 1 dEnd_getSetting_18 rfl ?_
      refine g_callV 19 [_] dEnd_getSetting_19 cs_End_256 rfl (ci := 2) rfl (by decide) (hR.1.tEnd he) rfl ⟨(Nat.le_of_ble_eq_true rfl), (Nat.le_of_ble_eq_true rfl)⟩ (Nat.le_of_ble_eq_true rfl) (ct_lerrR hR he (show (zP A (1 - e)).length < 47 by omega)) (Nat.le_of_ble_eq_true rfl) (Nat.le_of_ble_eq_true rfl) ?_
      rintro _ M1 ⟨rfl, hR1, hc⟩
      have hC1 := hC.tr hc
      exact g_iret 22 dEnd_getSetting_22 rfl (by unfold gSt; (try rw [if_pos h5]); (try rw [if_neg h11]); exact ⟨rfl, hR1, hC1⟩)
    · refine g_iconst 14 3 dEnd_getSetting_14 rfl ?_
      refine g_goto 15 19 dEnd_getSetting_15 rfl ?_
      refine g_callV 19 [_] dEnd_getSetting_19 cs_End_256 rfl (ci := 2) rfl (by decide) (hR.1.tEnd he) rfl ⟨(Nat.le_of_ble_eq_true rfl), (Nat.le_of_ble_eq_true rfl)⟩ (Nat.le_of_ble_eq_true rfl) (ct_lerrR hR he (show (zP A (1 - e)).length < 47 by omega)) (Nat.le_of_ble_eq_true rfl) (Nat.le_of_ble_eq_true rfl) ?_
      rintro _ M1 ⟨rfl, hR1, hc⟩
      have hC1 := hC.tr hc
      exact g_iret 22 dEnd_getSetting_22 rfl (by unfold gSt; (try rw [if_pos h5]); (try rw [if_pos h11]); exact ⟨rfl, hR1, hC1⟩)

set_option maxRecDepth 100000 in
set_option maxHeartbeats 4000000 in
theorem ct_gRq {X : mX} {l : Launch} {M : mM} {A : zA} {e k : Nat} (hR : RC M A) (he : e < 2) (hk : k < 12) {a : Nat} {L : List (Int32 × Int32)} {z : Int32} (hl : FlC 223 M a L) (hp : (zP A (1 - e)).length ≤ 44) : Ct X l uEnd_getRequest (rn 3 60 2 14) [.ref (9 + 80 * e), .ref (29 + 80 * e + 5 * k), .ref a, .int z] M (fun r M' => r = some (.int (gRq (clI A e k) e k L z).1) ∧ RC M' (gRq (clI A e k) e k L z).2 ∧ Chg M M' cP cP) := by
  refine Ct.of (by decide) (Nat.le_of_ble_eq_true rfl) ?_
  show G X l uEnd_getRequest (rn 3 60 2 14) 2 14 M 0 [some (.ref (9 + 80 * e)), some (.ref (29 + 80 * e + 5 * k)), some (.ref a), some (.int z)] [] _
  have hC : Chg M M cP cP := Chg.rf
  refine g_aload_n 0 dEnd_getRequest_0 rfl ?_
  refine g_aload_n 1 dEnd_getRequest_1 rfl ?_
  refine g_geti 2 8 0 dEnd_getRequest_2 fs_End_121 rfl (hR.1.tStr he hk) ?_
  refine g_top _ (hR.num he hk) ?_
  refine g_callV 5 [_] dEnd_getRequest_5 cs_End_298 rfl (ci := 2) rfl (by decide) (hR.1.tEnd he) rfl ⟨(Nat.le_of_ble_eq_true rfl), (Nat.le_of_ble_eq_true rfl)⟩ (Nat.le_of_ble_eq_true rfl) (ct_clI hR he hk) (Nat.le_of_ble_eq_true rfl) (Nat.le_of_ble_eq_true rfl) ?_
  rintro _ M1 ⟨rfl, hR1, hc⟩
  have hC1 := hC.tr hc
  refine g_aload_n 8 dEnd_getRequest_8 rfl ?_
  refine g_callV 9 [] dEnd_getRequest_9 cs_End_99 rfl (ci := 2) rfl (by decide) (hR1.1.tEnd he) rfl ⟨(Nat.le_of_ble_eq_true rfl), (Nat.le_of_ble_eq_true rfl)⟩ (Nat.le_of_ble_eq_true rfl) (ct_cntR hR1 he) (Nat.le_of_ble_eq_true rfl) (Nat.le_of_ble_eq_true rfl) ?_
  rintro _ M2 ⟨rfl, hM2⟩
  rw [hM2]
  clear hM2 M2
  refine g_aload_n 12 dEnd_getRequest_12 rfl ?_
  refine g_getr 13 2 11 dEnd_getRequest_13 fs_End_55 rfl (hR1.1.tEnd he) (hR1.1.rEnd11 he) ?_
  refine g_geti 16 7 1 dEnd_getRequest_16 fs_End_103 rfl (hR1.1.tForce he) ?_
  refine g_top _ (hR1.sI (sc_F he (by omega))) ?_
  refine g_icmp_lt 19 46 dEnd_getRequest_19 rfl (fun h19 => ?_) (fun h19 => ?_)
  · refine g_aload_n 46 dEnd_getRequest_46 rfl ?_
    refine g_aload_n 47 dEnd_getRequest_47 rfl ?_
    refine g_getr 48 2 10 dEnd_getRequest_48 fs_End_51 rfl (hR1.1.tEnd he) (hR1.1.rEnd10 he) ?_
    refine g_geti 51 7 2 dEnd_getRequest_51 fs_End_110 rfl (hR1.1.tTold he) ?_
    refine g_top _ (hR1.sI (sc_T he (by omega))) ?_
    refine g_aload_n 54 dEnd_getRequest_54 rfl ?_
    refine g_getr 55 2 11 dEnd_getRequest_55 fs_End_55 rfl (hR1.1.tEnd he) (hR1.1.rEnd11 he) ?_
    refine g_geti 58 7 2 dEnd_getRequest_58 fs_End_110 rfl (hR1.1.tForce he) ?_
    refine g_top _ (hR1.sI (sc_F he (by omega))) ?_
    refine g_callV 61 [_, _] dEnd_getRequest_61 cs_End_113 rfl (ci := 8) rfl (by decide) (hR1.1.tStr he hk) rfl ⟨(Nat.le_of_ble_eq_true rfl), (Nat.le_of_ble_eq_true rfl)⟩ (Nat.le_of_ble_eq_true rfl) (ct_openR hR1 he hk) (Nat.le_of_ble_eq_true rfl) (Nat.le_of_ble_eq_true rfl) ?_
    rintro _ M2 ⟨rfl, hR2, hc⟩
    have hC2 := hC1.tr hc
    refine g_aload_n 64 dEnd_getRequest_64 rfl ?_
    refine g_aload_n 65 dEnd_getRequest_65 rfl ?_
    refine g_aload_n 66 dEnd_getRequest_66 rfl ?_
    refine g_iload_n 67 dEnd_getRequest_67 rfl ?_
    refine g_callV 68 [_, _, _] dEnd_getRequest_68 cs_End_294 rfl (ci := 2) rfl (by decide) (hR2.1.tEnd he) rfl ⟨(Nat.le_of_ble_eq_true rfl), (Nat.le_of_ble_eq_true rfl)⟩ (Nat.le_of_ble_eq_true rfl) (ct_tkL hR2 he hk (hl.cg hC2)) (Nat.le_of_ble_eq_true rfl) (Nat.le_of_ble_eq_true rfl) ?_
    rintro _ M3 ⟨rfl, hR3, hc⟩
    have hC3 := hC2.tr hc
    refine g_iconst 71 0 dEnd_getRequest_71 rfl ?_
    exact g_iret 72 dEnd_getRequest_72 rfl (by unfold gRq; (try rw [if_pos h19]); exact ⟨rfl, hR3, hC3⟩)
  · refine g_aload_n 22 dEnd_getRequest_22 rfl ?_
    refine g_getr 23 2 2 dEnd_getRequest_23 fs_End_82 rfl (hR1.1.tEnd he) (hR1.1.rEnd2 he) ?_
    refine g_aload_n 26 dEnd_getRequest_26 rfl ?_
    refine g_geti 27 8 0 dEnd_getRequest_27 fs_End_121 rfl (hR1.1.tStr he hk) ?_
    refine g_top _ (hR1.num he hk) ?_
    refine g_bipush 30 7 dEnd_getRequest_30 rfl ?_
    refine g_callS 32 [_, _] dEnd_getRequest_32 cs_End_205 rfl rfl ⟨(Nat.le_of_ble_eq_true rfl), (Nat.le_of_ble_eq_true rfl)⟩ (Nat.le_of_ble_eq_true rfl) (ct_ofResetR hR1) (Nat.le_of_ble_eq_true rfl) (Nat.le_of_ble_eq_true rfl) ?_
    rintro _ M2 ⟨f2, rfl, hG2, hR2, hc⟩
    have hC2 := hC1.tr hc
    refine g_callV 35 [_] dEnd_getRequest_35 cs_End_134 rfl (ci := 1) rfl (by decide) (hR2.1.tPipeO he) rfl ⟨(Nat.le_of_ble_eq_true rfl), (Nat.le_of_ble_eq_true rfl)⟩ (Nat.le_of_ble_eq_true rfl) (ct_addR hR2 he hG2 (show (zP (clI A e k) (1 - e)).length < 47 by rw [clI_P]; omega)) (Nat.le_of_ble_eq_true rfl) (Nat.le_of_ble_eq_true rfl) ?_
    rintro _ M3 ⟨rfl, hR3, hc⟩
    have hC3 := hC2.tr hc
    refine g_aload_n 38 dEnd_getRequest_38 rfl ?_
    refine g_callV 39 [] dEnd_getRequest_39 cs_End_208 rfl (ci := 8) rfl (by decide) (hR3.1.tStr he hk) rfl ⟨(Nat.le_of_ble_eq_true rfl), (Nat.le_of_ble_eq_true rfl)⟩ (Nat.le_of_ble_eq_true rfl) (ct_cutR hR3 he hk) (Nat.le_of_ble_eq_true rfl) (Nat.le_of_ble_eq_true rfl) ?_
    rintro _ M4 ⟨rfl, hR4, hc⟩
    have hC4 := hC3.tr hc
    refine g_pop 42 dEnd_getRequest_42 rfl ?_
    refine g_bipush 43 7 dEnd_getRequest_43 rfl ?_
    exact g_iret 45 dEnd_getRequest_45 rfl (by unfold gRq; (try rw [if_neg h19]); exact ⟨rfl, hR4, hC4⟩)

def addU (A : zA) (e k : Nat) (L : List Int32) : zA := yU A e (zU A e ++ L.map fun b => (nI (2 * k + 1), b))
theorem unrd_len (U : List (Int32 × Int32)) (k : Nat) : (unrd U k).length ≤ U.length := by
  unfold unrd
  rw [List.length_map]
  exact List.length_filter_le _ _
theorem unrd_add (U : List (Int32 × Int32)) (k : Nat) (L : List Int32) : unrd (U ++ L.map fun b => (nI (2 * k + 1), b)) k = unrd U k ++ L := by
  unfold unrd
  rw [List.filter_append, List.map_append]
  congr 1
  rw [List.filter_eq_self.mpr, List.map_map]
  · exact List.map_id' L
  · intro x hx
    obtain ⟨b, _, rfl⟩ := List.mem_map.mp hx
    exact beq_self_eq_true _
theorem unrd_addne {U : List (Int32 × Int32)} {k g : Nat} {L : List Int32} (hg : g < 12) (hk : k < 12) (h : g ≠ k) : unrd (U ++ L.map fun b => (nI (2 * k + 1), b)) g = unrd U g := by
  unfold unrd
  have h2 : (L.map fun b => (nI (2 * k + 1), b)).filter (fun x => x.1 == nI (2 * g + 1)) = [] := by
    refine List.filter_eq_nil_iff.mpr fun x hx q => ?_
    obtain ⟨b, _, rfl⟩ := List.mem_map.mp hx
    have := (nI_eq (a := 2 * k + 1) (b := 2 * g + 1) (by omega) (by omega)).mp (eq_of_beq q)
    omega
  rw [List.filter_append, h2, List.append_nil]
theorem ct_addUR {X : mX} {l : Launch} {M : mM} {A : zA} {e k b : Nat} {K : List Int32} (h : RC M A) (he : e < 2) (hk : k < 12) (hp : PayC M b K) (hn : (unrd (zU A e) k).length + K.length ≤ 40) : Ct X l uBQ_add (rk 1 40) [.ref (32 + 80 * e + 5 * k), .ref b] M (fun r M' => r = none ∧ RC M' (addU A e k K) ∧ Chg M M' cP cP) := by
  have hN := h.1.1
  refine (ct_addQ (h.1.tUr he hk) (h.1.rUr0 he hk) (h.1.TUrR he hk) (by omega) (by omega) (by decide) (by omega) (h.2.2.2.2.2.1 e k he hk) hp hn).post ?_
  rintro r M' ⟨rfl, hq, hc⟩
  exact ⟨rfl, h.yU he hk hc (by rw [unrd_add]; exact hq) (fun g hg hgk => unrd_addne hg hk hgk), hc.mono (fun a j q => show a < 169 by omega) fun _ _ q => q.elim⟩
def gDt2 (A : zA) (e k : Nat) (f : zF) : Int32 × zA := if f.2.2.2.1 = 0 then (0, addU (yI A (29 + 80 * e + 5 * k) 4 (zI A (29 + 80 * e + 5 * k) 4 - f.2.2.1)) e k f.2.2.2.2.2.1) else (0, endG (addU (yI A (29 + 80 * e + 5 * k) 4 (zI A (29 + 80 * e + 5 * k) 4 - f.2.2.1)) e k f.2.2.2.2.2.1) e k)
def gDt1 (A : zA) (b : Bool) (e k : Nat) (f : zF) : Int32 × zA := if mgZ A e k = 0 then (5, rstA A e k 5 f.2.2.1) else if b = false then (1, rstA A e k 1 f.2.2.1) else if f.2.2.1 ≤ 0 then gDt2 A e k f else if f.2.2.1 ≤ zI A (29 + 80 * e + 5 * k) 4 then gDt2 A e k f else (3, rstA A e k 3 f.2.2.1)
def gDt (A : zA) (b : Bool) (e k : Nat) (f : zF) : Int32 × zA := if zI A (29 + 80 * e + 5 * k) 1 = 0 then (100 + 1, lerr A e 1) else if f.2.2.1 ≤ zI A (9 + 80 * e) 5 then (if zI (yI A (9 + 80 * e) 5 (zI A (9 + 80 * e) 5 - f.2.2.1)) (29 + 80 * e + 5 * k) 1 = 4 then (if zI (yI A (9 + 80 * e) 5 (zI A (9 + 80 * e) 5 - f.2.2.1)) (29 + 80 * e + 5 * k) 2 = 0 then gDt1 (yI A (9 + 80 * e) 5 (zI A (9 + 80 * e) 5 - f.2.2.1)) b e k f else (0, give (yI A (9 + 80 * e) 5 (zI A (9 + 80 * e) 5 - f.2.2.1)) e f.2.2.1)) else gDt1 (yI A (9 + 80 * e) 5 (zI A (9 + 80 * e) 5 - f.2.2.1)) b e k f) else (100 + 3, lerr A e 3)
set_option maxRecDepth 100000 in
set_option maxHeartbeats 4000000 in
theorem ct_gDt_N {X : mX} {l : Launch} {M : mM} {A : zA} {e k : Nat} (hR : RC M A) (he : e < 2) (hk : k < 12) {a : Nat} {f : zF} (hF : FrC M a f) (hfs : f.2.1 = nI (2 * k + 1)) (hp : (zP A (1 - e)).length ≤ 44) (h0 : f.1 = 0) (hU : zI A (9 + 80 * e) 5 = nI (40 - (zU A e).length)) (hU40 : (zU A e).length ≤ 40) (hn : f.2.2.1 = nI f.2.2.2.2.2.1.length) (hn15 : f.2.2.2.2.2.1.length ≤ 15) (hz : zL A e k = none) : Ct X l uEnd_getData (rn 5 104 2 14) [.ref (9 + 80 * e), .ref a] M (fun r M' => r = some (.int (gDt A false e k f).1) ∧ RC M' (gDt A false e k f).2 ∧ Chg M M' cP cP) := by
  refine Ct.of (by decide) (Nat.le_of_ble_eq_true rfl) ?_
  show G X l uEnd_getData (rn 5 104 2 14) 2 14 M 0 [some (.ref (9 + 80 * e)), some (.ref a), none, none] [] _
  have hC : Chg M M cP cP := Chg.rf
  obtain ⟨b, hb, hpb⟩ := hF.2.2.2.2.2.2.2.2.1 h0
  have hul := unrd_len (zU A e) k
  have hrm : f.2.2.1 ≤ zI A (9 + 80 * e) 5 → (unrd (zU A e) k).length + f.2.2.2.2.2.1.length ≤ 40 := fun q => by rw [hU, hn, nI_leI (by omega) (by omega)] at q; omega
  refine g_aload_n 0 dEnd_getData_0 rfl ?_
  refine g_aload_n 1 dEnd_getData_1 rfl ?_
  refine g_geti 2 12 1 dEnd_getData_2 fs_End_243 rfl (hF.cg hC).2.2.1 ?_
  refine g_top _ (hF.cg hC).2.2.2.2.1 ?_
  refine g_top (nI ((2 * k + 1))) (hfs) ?_
  refine g_callV 5 [_] dEnd_getData_5 cs_End_106 rfl (ci := 2) rfl (by decide) (hR.1.tEnd he) rfl ⟨(Nat.le_of_ble_eq_true rfl), (Nat.le_of_ble_eq_true rfl)⟩ (Nat.le_of_ble_eq_true rfl) (ct_End_streamOf hR.1 he hk) (Nat.le_of_ble_eq_true rfl) (Nat.le_of_ble_eq_true rfl) ?_
  rintro _ M2 ⟨rfl, hM2⟩
  rw [hM2]
  clear hM2 M2
  refine g_astore_n 8 dEnd_getData_8 (by decide) rfl ?_
  refine g_aload_n 9 dEnd_getData_9 rfl ?_
  refine g_geti 10 12 2 dEnd_getData_10 fs_End_237 rfl (hF.cg hC).2.2.1 ?_
  refine g_top _ (hF.cg hC).2.2.2.2.2.1 ?_
  refine g_istore_n 13 dEnd_getData_13 (by decide) rfl ?_
  refine g_aload_n 14 dEnd_getData_14 rfl ?_
  refine g_ifnull 15 dEnd_getData_15 ?_
  refine g_aload_n 18 dEnd_getData_18 rfl ?_
  refine g_geti 19 8 1 dEnd_getData_19 fs_End_253 rfl (hR.1.tStr he hk) ?_
  refine g_top _ (hR.sI (sc_S he hk (by omega) (by omega))) ?_
  refine g_if_ne 22 31 dEnd_getData_22 rfl (fun h22 => ?_) (fun h22 => ?_)
  · refine g_iload_n 31 dEnd_getData_31 rfl ?_
    refine g_aload_n 32 dEnd_getData_32 rfl ?_
    refine g_geti 33 2 5 dEnd_getData_33 fs_End_18 rfl (hR.1.tEnd he) ?_
    refine g_top _ (hR.sI (sc_E he (by omega))) ?_
    refine g_icmp_le 36 45 dEnd_getData_36 rfl (fun h36 => ?_) (fun h36 => ?_)
    · refine g_aload_n 45 dEnd_getData_45 rfl ?_
      refine g_dup 46 dEnd_getData_46 rfl ?_
      refine g_geti 47 2 5 dEnd_getData_47 fs_End_18 rfl (hR.1.tEnd he) ?_
      refine g_top _ (hR.sI (sc_E he (by omega))) ?_
      refine g_iload_n 50 dEnd_getData_50 rfl ?_
      refine g_isub 51 dEnd_getData_51 ?_
      refine g_puti 52 2 5 dEnd_getData_52 ps_End_18 rfl (hR.1.tEnd he) ?_
      refine g_yI hR hC (sc_E he (by omega)) (fun M1 hR1 hC1 => ?_)
      refine g_aload_n 55 dEnd_getData_55 rfl ?_
      refine g_geti 56 8 1 dEnd_getData_56 fs_End_253 rfl (hR1.1.tStr he hk) ?_
      refine g_top _ (hR1.sI (sc_S he hk (by omega) (by omega))) ?_
      refine g_iconst 59 4 dEnd_getData_59 rfl ?_
      refine g_icmp_ne 60 77 dEnd_getData_60 rfl (fun h60 => ?_) (fun h60 => ?_)
      · refine g_aload_n 77 dEnd_getData_77 rfl ?_
        refine g_callV 78 [] dEnd_getData_78 cs_End_194 rfl (ci := 8) rfl (by decide) (hR1.1.tStr he hk) rfl ⟨(Nat.le_of_ble_eq_true rfl), (Nat.le_of_ble_eq_true rfl)⟩ (Nat.le_of_ble_eq_true rfl) (ct_mgR hR1 he hk) (Nat.le_of_ble_eq_true rfl) (Nat.le_of_ble_eq_true rfl) ?_
        rintro _ M2 ⟨rfl, hM2⟩
        rw [hM2]
        clear hM2 M2
        refine g_if_ne 81 92 dEnd_getData_81 rfl (fun h81 => ?_) (fun h81 => ?_)
        · refine g_aload_n 92 dEnd_getData_92 rfl ?_
          refine g_getN 93 8 7 dEnd_getData_93 fs_End_266 rfl (hR1.1.tStr he hk) (hR1.lsN he hk hz) ?_
          refine g_ifnonnullN 96 dEnd_getData_96 ?_
          refine g_aload_n 99 dEnd_getData_99 rfl ?_
          refine g_aload_n 100 dEnd_getData_100 rfl ?_
          refine g_iconst 101 1 dEnd_getData_101 rfl ?_
          refine g_iload_n 102 dEnd_getData_102 rfl ?_
          refine g_callV 103 [_, _, _] dEnd_getData_103 cs_End_262 rfl (ci := 2) rfl (by decide) (hR1.1.tEnd he) rfl ⟨(Nat.le_of_ble_eq_true rfl), (Nat.le_of_ble_eq_true rfl)⟩ (Nat.le_of_ble_eq_true rfl) (ct_rstR hR1 he hk (show (zP A (1 - e)).length ≤ 44 by omega)) (Nat.le_of_ble_eq_true rfl) (Nat.le_of_ble_eq_true rfl) ?_
          rintro _ M2 ⟨rfl, hR2, hc⟩
          have hC2 := hC1.tr hc
          exact g_iret 106 dEnd_getData_106 rfl (by unfold gDt gDt1; (try rw [if_pos (rfl : false = false)]); (try rw [if_neg h22]); (try rw [if_pos h36]); (try rw [if_neg h60]); (try rw [if_neg h81]); exact ⟨rfl, hR2, hC2⟩)
        · refine g_aload_n 84 dEnd_getData_84 rfl ?_
          refine g_aload_n 85 dEnd_getData_85 rfl ?_
          refine g_iconst 86 5 dEnd_getData_86 rfl ?_
          refine g_iload_n 87 dEnd_getData_87 rfl ?_
          refine g_callV 88 [_, _, _] dEnd_getData_88 cs_End_262 rfl (ci := 2) rfl (by decide) (hR1.1.tEnd he) rfl ⟨(Nat.le_of_ble_eq_true rfl), (Nat.le_of_ble_eq_true rfl)⟩ (Nat.le_of_ble_eq_true rfl) (ct_rstR hR1 he hk (show (zP A (1 - e)).length ≤ 44 by omega)) (Nat.le_of_ble_eq_true rfl) (Nat.le_of_ble_eq_true rfl) ?_
          rintro _ M2 ⟨rfl, hR2, hc⟩
          have hC2 := hC1.tr hc
          exact g_iret 91 dEnd_getData_91 rfl (by unfold gDt gDt1; (try rw [if_pos (rfl : false = false)]); (try rw [if_neg h22]); (try rw [if_pos h36]); (try rw [if_neg h60]); (try rw [if_pos h81]); exact ⟨rfl, hR2, hC2⟩)
      · refine g_aload_n 63 dEnd_getData_63 rfl ?_
        refine g_geti 64 8 2 dEnd_getData_64 fs_End_259 rfl (hR1.1.tStr he hk) ?_
        refine g_top _ (hR1.sI (sc_S he hk (by omega) (by omega))) ?_
        refine g_if_eq 67 77 dEnd_getData_67 rfl (fun h67 => ?_) (fun h67 => ?_)
        · refine g_aload_n 77 dEnd_getData_77 rfl ?_
          refine g_callV 78 [] dEnd_getData_78 cs_End_194 rfl (ci := 8) rfl (by decide) (hR1.1.tStr he hk) rfl ⟨(Nat.le_of_ble_eq_true rfl), (Nat.le_of_ble_eq_true rfl)⟩ (Nat.le_of_ble_eq_true rfl) (ct_mgR hR1 he hk) (Nat.le_of_ble_eq_true rfl) (Nat.le_of_ble_eq_true rfl) ?_
          rintro _ M2 ⟨rfl, hM2⟩
          rw [hM2]
          clear hM2 M2
          refine g_if_ne 81 92 dEnd_getData_81 rfl (fun h81 => ?_) (fun h81 => ?_)
          · refine g_aload_n 92 dEnd_getData_92 rfl ?_
            refine g_getN 93 8 7 dEnd_getData_93 fs_End_266 rfl (hR1.1.tStr he hk) (hR1.lsN he hk hz) ?_
            refine g_ifnonnullN 96 dEnd_getData_96 ?_
            refine g_aload_n 99 dEnd_getData_99 rfl ?_
            refine g_aload_n 100 dEnd_getData_100 rfl ?_
            refine g_iconst 101 1 dEnd_getData_101 rfl ?_
            refine g_iload_n 102 dEnd_getData_102 rfl ?_
            refine g_callV 103 [_, _, _] dEnd_getData_103 cs_End_262 rfl (ci := 2) rfl (by decide) (hR1.1.tEnd he) rfl ⟨(Nat.le_of_ble_eq_true rfl), (Nat.le_of_ble_eq_true rfl)⟩ (Nat.le_of_ble_eq_true rfl) (ct_rstR hR1 he hk (show (zP A (1 - e)).length ≤ 44 by omega)) (Nat.le_of_ble_eq_true rfl) (Nat.le_of_ble_eq_true rfl) ?_
            rintro _ M2 ⟨rfl, hR2, hc⟩
            have hC2 := hC1.tr hc
            exact g_iret 106 dEnd_getData_106 rfl (by unfold gDt gDt1; (try rw [if_pos (rfl : false = false)]); (try rw [if_neg h22]); (try rw [if_pos h36]); (try rw [if_pos h60]); (try rw [if_pos h67]); (try rw [if_neg h81]); exact ⟨rfl, hR2, hC2⟩)
          · refine g_aload_n 84 dEnd_getData_84 rfl ?_
            refine g_aload_n 85 dEnd_getData_85 rfl ?_
            refine g_iconst 86 5 dEnd_getData_86 rfl ?_
            refine g_iload_n 87 dEnd_getData_87 rfl ?_
            refine g_callV 88 [_, _, _] dEnd_getData_88 cs_End_262 rfl (ci := 2) rfl (by decide) (hR1.1.tEnd he) rfl ⟨(Nat.le_of_ble_eq_true rfl), (Nat.le_of_ble_eq_true rfl)⟩ (Nat.le_of_ble_eq_true rfl) (ct_rstR hR1 he hk (show (zP A (1 - e)).length ≤ 44 by omega)) (Nat.le_of_ble_eq_true rfl) (Nat.le_of_ble_eq_true rfl) ?_
            rintro _ M2 ⟨rfl, hR2, hc⟩
            have hC2 := hC1.tr hc
            exact g_iret 91 dEnd_getData_91 rfl (by unfold gDt gDt1; (try rw [if_pos (rfl : false = false)]); (try rw [if_neg h22]); (try rw [if_pos h36]); (try rw [if_pos h60]); (try rw [if_pos h67]); (try rw [if_pos h81]); exact ⟨rfl, hR2, hC2⟩)
        · refine g_aload_n 70 dEnd_getData_70 rfl ?_
          refine g_iload_n 71 dEnd_getData_71 rfl ?_
          refine g_callV 72 [_] dEnd_getData_72 cs_End_191 rfl (ci := 2) rfl (by decide) (hR1.1.tEnd he) rfl ⟨(Nat.le_of_ble_eq_true rfl), (Nat.le_of_ble_eq_true rfl)⟩ (Nat.le_of_ble_eq_true rfl) (ct_giveR hR1 he (show (zP A (1 - e)).length < 47 by omega)) (Nat.le_of_ble_eq_true rfl) (Nat.le_of_ble_eq_true rfl) ?_
          rintro _ M2 ⟨rfl, hR2, hc⟩
          have hC2 := hC1.tr hc
          refine g_iconst 75 0 dEnd_getData_75 rfl ?_
          exact g_iret 76 dEnd_getData_76 rfl (by unfold gDt gDt1; (try rw [if_pos (rfl : false = false)]); (try rw [if_neg h22]); (try rw [if_pos h36]); (try rw [if_pos h60]); (try rw [if_neg h67]); exact ⟨rfl, hR2, hC2⟩)
    · refine g_aload_n 39 dEnd_getData_39 rfl ?_
      refine g_iconst 40 3 dEnd_getData_40 rfl ?_
      refine g_callV 41 [_] dEnd_getData_41 cs_End_256 rfl (ci := 2) rfl (by decide) (hR.1.tEnd he) rfl ⟨(Nat.le_of_ble_eq_true rfl), (Nat.le_of_ble_eq_true rfl)⟩ (Nat.le_of_ble_eq_true rfl) (ct_lerrR hR he (show (zP A (1 - e)).length < 47 by omega)) (Nat.le_of_ble_eq_true rfl) (Nat.le_of_ble_eq_true rfl) ?_
      rintro _ M1 ⟨rfl, hR1, hc⟩
      have hC1 := hC.tr hc
      exact g_iret 44 dEnd_getData_44 rfl (by unfold gDt gDt1; (try rw [if_pos (rfl : false = false)]); (try rw [if_neg h22]); (try rw [if_neg h36]); exact ⟨rfl, hR1, hC1⟩)
  · refine g_aload_n 25 dEnd_getData_25 rfl ?_
    refine g_iconst 26 1 dEnd_getData_26 rfl ?_
    refine g_callV 27 [_] dEnd_getData_27 cs_End_256 rfl (ci := 2) rfl (by decide) (hR.1.tEnd he) rfl ⟨(Nat.le_of_ble_eq_true rfl), (Nat.le_of_ble_eq_true rfl)⟩ (Nat.le_of_ble_eq_true rfl) (ct_lerrR hR he (show (zP A (1 - e)).length < 47 by omega)) (Nat.le_of_ble_eq_true rfl) (Nat.le_of_ble_eq_true rfl) ?_
    rintro _ M1 ⟨rfl, hR1, hc⟩
    have hC1 := hC.tr hc
    exact g_iret 30 dEnd_getData_30 rfl (by unfold gDt gDt1; (try rw [if_pos (rfl : false = false)]); (try rw [if_pos h22]); exact ⟨rfl, hR1, hC1⟩)

set_option maxRecDepth 100000 in
set_option maxHeartbeats 4000000 in
theorem ct_gDt_L {X : mX} {l : Launch} {M : mM} {A : zA} {e k : Nat} (hR : RC M A) (he : e < 2) (hk : k < 12) {a : Nat} {f : zF} (hF : FrC M a f) (hfs : f.2.1 = nI (2 * k + 1)) (hp : (zP A (1 - e)).length ≤ 44) (h0 : f.1 = 0) (hU : zI A (9 + 80 * e) 5 = nI (40 - (zU A e).length)) (hU40 : (zU A e).length ≤ 40) (hn : f.2.2.1 = nI f.2.2.2.2.2.1.length) (hn15 : f.2.2.2.2.2.1.length ≤ 15) {L0 : List (Int32 × Int32)} (hz : zL A e k = some L0) : Ct X l uEnd_getData (rn 5 104 2 14) [.ref (9 + 80 * e), .ref a] M (fun r M' => r = some (.int (gDt A true e k f).1) ∧ RC M' (gDt A true e k f).2 ∧ Chg M M' cP cP) := by
  refine Ct.of (by decide) (Nat.le_of_ble_eq_true rfl) ?_
  show G X l uEnd_getData (rn 5 104 2 14) 2 14 M 0 [some (.ref (9 + 80 * e)), some (.ref a), none, none] [] _
  have hC : Chg M M cP cP := Chg.rf
  obtain ⟨b, hb, hpb⟩ := hF.2.2.2.2.2.2.2.2.1 h0
  have hul := unrd_len (zU A e) k
  have hrm : f.2.2.1 ≤ zI A (9 + 80 * e) 5 → (unrd (zU A e) k).length + f.2.2.2.2.2.1.length ≤ 40 := fun q => by rw [hU, hn, nI_leI (by omega) (by omega)] at q; omega
  refine g_aload_n 0 dEnd_getData_0 rfl ?_
  refine g_aload_n 1 dEnd_getData_1 rfl ?_
  refine g_geti 2 12 1 dEnd_getData_2 fs_End_243 rfl (hF.cg hC).2.2.1 ?_
  refine g_top _ (hF.cg hC).2.2.2.2.1 ?_
  refine g_top (nI ((2 * k + 1))) (hfs) ?_
  refine g_callV 5 [_] dEnd_getData_5 cs_End_106 rfl (ci := 2) rfl (by decide) (hR.1.tEnd he) rfl ⟨(Nat.le_of_ble_eq_true rfl), (Nat.le_of_ble_eq_true rfl)⟩ (Nat.le_of_ble_eq_true rfl) (ct_End_streamOf hR.1 he hk) (Nat.le_of_ble_eq_true rfl) (Nat.le_of_ble_eq_true rfl) ?_
  rintro _ M2 ⟨rfl, hM2⟩
  rw [hM2]
  clear hM2 M2
  refine g_astore_n 8 dEnd_getData_8 (by decide) rfl ?_
  refine g_aload_n 9 dEnd_getData_9 rfl ?_
  refine g_geti 10 12 2 dEnd_getData_10 fs_End_237 rfl (hF.cg hC).2.2.1 ?_
  refine g_top _ (hF.cg hC).2.2.2.2.2.1 ?_
  refine g_istore_n 13 dEnd_getData_13 (by decide) rfl ?_
  refine g_aload_n 14 dEnd_getData_14 rfl ?_
  refine g_ifnull 15 dEnd_getData_15 ?_
  refine g_aload_n 18 dEnd_getData_18 rfl ?_
  refine g_geti 19 8 1 dEnd_getData_19 fs_End_253 rfl (hR.1.tStr he hk) ?_
  refine g_top _ (hR.sI (sc_S he hk (by omega) (by omega))) ?_
  refine g_if_ne 22 31 dEnd_getData_22 rfl (fun h22 => ?_) (fun h22 => ?_)
  · refine g_iload_n 31 dEnd_getData_31 rfl ?_
    refine g_aload_n 32 dEnd_getData_32 rfl ?_
    refine g_geti 33 2 5 dEnd_getData_33 fs_End_18 rfl (hR.1.tEnd he) ?_
    refine g_top _ (hR.sI (sc_E he (by omega))) ?_
    refine g_icmp_le 36 45 dEnd_getData_36 rfl (fun h36 => ?_) (fun h36 => ?_)
    · refine g_aload_n 45 dEnd_getData_45 rfl ?_
      refine g_dup 46 dEnd_getData_46 rfl ?_
      refine g_geti 47 2 5 dEnd_getData_47 fs_End_18 rfl (hR.1.tEnd he) ?_
      refine g_top _ (hR.sI (sc_E he (by omega))) ?_
      refine g_iload_n 50 dEnd_getData_50 rfl ?_
      refine g_isub 51 dEnd_getData_51 ?_
      refine g_puti 52 2 5 dEnd_getData_52 ps_End_18 rfl (hR.1.tEnd he) ?_
      refine g_yI hR hC (sc_E he (by omega)) (fun M1 hR1 hC1 => ?_)
      refine g_aload_n 55 dEnd_getData_55 rfl ?_
      refine g_geti 56 8 1 dEnd_getData_56 fs_End_253 rfl (hR1.1.tStr he hk) ?_
      refine g_top _ (hR1.sI (sc_S he hk (by omega) (by omega))) ?_
      refine g_iconst 59 4 dEnd_getData_59 rfl ?_
      refine g_icmp_ne 60 77 dEnd_getData_60 rfl (fun h60 => ?_) (fun h60 => ?_)
      · refine g_aload_n 77 dEnd_getData_77 rfl ?_
        refine g_callV 78 [] dEnd_getData_78 cs_End_194 rfl (ci := 8) rfl (by decide) (hR1.1.tStr he hk) rfl ⟨(Nat.le_of_ble_eq_true rfl), (Nat.le_of_ble_eq_true rfl)⟩ (Nat.le_of_ble_eq_true rfl) (ct_mgR hR1 he hk) (Nat.le_of_ble_eq_true rfl) (Nat.le_of_ble_eq_true rfl) ?_
        rintro _ M2 ⟨rfl, hM2⟩
        rw [hM2]
        clear hM2 M2
        refine g_if_ne 81 92 dEnd_getData_81 rfl (fun h81 => ?_) (fun h81 => ?_)
        · obtain ⟨la, hla, _⟩ := hR1.lsS he hk hz
          refine g_aload_n 92 dEnd_getData_92 rfl ?_
          refine g_getr 93 8 7 dEnd_getData_93 fs_End_266 rfl (hR1.1.tStr he hk) hla ?_
          refine g_ifnonnull 96 107 dEnd_getData_96 rfl ?_
          refine g_iload_n 107 dEnd_getData_107 rfl ?_
          refine g_if_le 108 127 dEnd_getData_108 rfl (fun h108 => ?_) (fun h108 => ?_)
          · refine g_aload_n 127 dEnd_getData_127 rfl ?_
            refine g_dup 128 dEnd_getData_128 rfl ?_
            refine g_geti 129 8 4 dEnd_getData_129 fs_End_197 rfl (hR1.1.tStr he hk) ?_
            refine g_top _ (hR1.sI (sc_S he hk (by omega) (by omega))) ?_
            refine g_iload_n 132 dEnd_getData_132 rfl ?_
            refine g_isub 133 dEnd_getData_133 ?_
            refine g_puti 134 8 4 dEnd_getData_134 ps_End_197 rfl (hR1.1.tStr he hk) ?_
            refine g_yI hR1 hC1 (sc_S he hk (by omega) (by omega)) (fun M2 hR2 hC2 => ?_)
            refine g_aload_n 137 dEnd_getData_137 rfl ?_
            refine g_getr 138 8 9 dEnd_getData_138 fs_End_188 rfl (hR2.1.tStr he hk) (hR2.1.rStr9 he hk) ?_
            refine g_aload_n 141 dEnd_getData_141 rfl ?_
            refine g_getr 142 12 5 dEnd_getData_142 fs_End_269 rfl (hF.cg hC2).2.2.1 ((hF.cg hC2).2.2.2.2.2.2.2.2.1 h0).choose_spec.1 ?_
            refine g_callV 145 [_] dEnd_getData_145 cs_End_273 rfl (ci := 9) rfl (by decide) (hR2.1.tUr he hk) rfl ⟨(Nat.le_of_ble_eq_true rfl), (Nat.le_of_ble_eq_true rfl)⟩ (Nat.le_of_ble_eq_true rfl) (ct_addUR hR2 he hk ((hF.cg hC2).2.2.2.2.2.2.2.2.1 h0).choose_spec.2 (hrm h36)) (Nat.le_of_ble_eq_true rfl) (Nat.le_of_ble_eq_true rfl) ?_
            rintro _ M3 ⟨rfl, hR3, hc⟩
            have hC3 := hC2.tr hc
            refine g_aload_n 148 dEnd_getData_148 rfl ?_
            refine g_geti 149 12 3 dEnd_getData_149 fs_End_228 rfl (hF.cg hC3).2.2.1 ?_
            refine g_top _ (hF.cg hC3).2.2.2.2.2.2.1 ?_
            refine g_if_eq 152 159 dEnd_getData_152 rfl (fun h152 => ?_) (fun h152 => ?_)
            · refine g_iconst 159 0 dEnd_getData_159 rfl ?_
              exact g_iret 160 dEnd_getData_160 rfl (by unfold gDt gDt1; rw [if_neg (show ¬ true = false by decide)]; unfold gDt2; (try rw [if_neg h22]); (try rw [if_pos h36]); (try rw [if_neg h60]); (try rw [if_neg h81]); (try rw [if_pos h108]); (try rw [if_pos h152]); exact ⟨rfl, hR3, hC3⟩)
            · refine g_aload_n 155 dEnd_getData_155 rfl ?_
              refine g_callV 156 [] dEnd_getData_156 cs_End_276 rfl (ci := 8) rfl (by decide) (hR3.1.tStr he hk) rfl ⟨(Nat.le_of_ble_eq_true rfl), (Nat.le_of_ble_eq_true rfl)⟩ (Nat.le_of_ble_eq_true rfl) (ct_endGR hR3 he hk) (Nat.le_of_ble_eq_true rfl) (Nat.le_of_ble_eq_true rfl) ?_
              rintro _ M4 ⟨rfl, hR4, hc⟩
              have hC4 := hC3.tr hc
              refine g_iconst 159 0 dEnd_getData_159 rfl ?_
              exact g_iret 160 dEnd_getData_160 rfl (by unfold gDt gDt1; rw [if_neg (show ¬ true = false by decide)]; unfold gDt2; (try rw [if_neg h22]); (try rw [if_pos h36]); (try rw [if_neg h60]); (try rw [if_neg h81]); (try rw [if_pos h108]); (try rw [if_neg h152]); exact ⟨rfl, hR4, hC4⟩)
          · refine g_iload_n 111 dEnd_getData_111 rfl ?_
            refine g_aload_n 112 dEnd_getData_112 rfl ?_
            refine g_geti 113 8 4 dEnd_getData_113 fs_End_197 rfl (hR1.1.tStr he hk) ?_
            refine g_top _ (hR1.sI (sc_S he hk (by omega) (by omega))) ?_
            refine g_icmp_le 116 127 dEnd_getData_116 rfl (fun h116 => ?_) (fun h116 => ?_)
            · refine g_aload_n 127 dEnd_getData_127 rfl ?_
              refine g_dup 128 dEnd_getData_128 rfl ?_
              refine g_geti 129 8 4 dEnd_getData_129 fs_End_197 rfl (hR1.1.tStr he hk) ?_
              refine g_top _ (hR1.sI (sc_S he hk (by omega) (by omega))) ?_
              refine g_iload_n 132 dEnd_getData_132 rfl ?_
              refine g_isub 133 dEnd_getData_133 ?_
              refine g_puti 134 8 4 dEnd_getData_134 ps_End_197 rfl (hR1.1.tStr he hk) ?_
              refine g_yI hR1 hC1 (sc_S he hk (by omega) (by omega)) (fun M2 hR2 hC2 => ?_)
              refine g_aload_n 137 dEnd_getData_137 rfl ?_
              refine g_getr 138 8 9 dEnd_getData_138 fs_End_188 rfl (hR2.1.tStr he hk) (hR2.1.rStr9 he hk) ?_
              refine g_aload_n 141 dEnd_getData_141 rfl ?_
              refine g_getr 142 12 5 dEnd_getData_142 fs_End_269 rfl (hF.cg hC2).2.2.1 ((hF.cg hC2).2.2.2.2.2.2.2.2.1 h0).choose_spec.1 ?_
              refine g_callV 145 [_] dEnd_getData_145 cs_End_273 rfl (ci := 9) rfl (by decide) (hR2.1.tUr he hk) rfl ⟨(Nat.le_of_ble_eq_true rfl), (Nat.le_of_ble_eq_true rfl)⟩ (Nat.le_of_ble_eq_true rfl) (ct_addUR hR2 he hk ((hF.cg hC2).2.2.2.2.2.2.2.2.1 h0).choose_spec.2 (hrm h36)) (Nat.le_of_ble_eq_true rfl) (Nat.le_of_ble_eq_true rfl) ?_
              rintro _ M3 ⟨rfl, hR3, hc⟩
              have hC3 := hC2.tr hc
              refine g_aload_n 148 dEnd_getData_148 rfl ?_
              refine g_geti 149 12 3 dEnd_getData_149 fs_End_228 rfl (hF.cg hC3).2.2.1 ?_
              refine g_top _ (hF.cg hC3).2.2.2.2.2.2.1 ?_
              refine g_if_eq 152 159 dEnd_getData_152 rfl (fun h152 => ?_) (fun h152 => ?_)
              · refine g_iconst 159 0 dEnd_getData_159 rfl ?_
                exact g_iret 160 dEnd_getData_160 rfl (by unfold gDt gDt1; rw [if_neg (show ¬ true = false by decide)]; unfold gDt2; (try rw [if_neg h22]); (try rw [if_pos h36]); (try rw [if_neg h60]); (try rw [if_neg h81]); (try rw [if_neg h108]); (try rw [if_pos h116]); (try rw [if_pos h152]); exact ⟨rfl, hR3, hC3⟩)
              · refine g_aload_n 155 dEnd_getData_155 rfl ?_
                refine g_callV 156 [] dEnd_getData_156 cs_End_276 rfl (ci := 8) rfl (by decide) (hR3.1.tStr he hk) rfl ⟨(Nat.le_of_ble_eq_true rfl), (Nat.le_of_ble_eq_true rfl)⟩ (Nat.le_of_ble_eq_true rfl) (ct_endGR hR3 he hk) (Nat.le_of_ble_eq_true rfl) (Nat.le_of_ble_eq_true rfl) ?_
                rintro _ M4 ⟨rfl, hR4, hc⟩
                have hC4 := hC3.tr hc
                refine g_iconst 159 0 dEnd_getData_159 rfl ?_
                exact g_iret 160 dEnd_getData_160 rfl (by unfold gDt gDt1; rw [if_neg (show ¬ true = false by decide)]; unfold gDt2; (try rw [if_neg h22]); (try rw [if_pos h36]); (try rw [if_neg h60]); (try rw [if_neg h81]); (try rw [if_neg h108]); (try rw [if_pos h116]); (try rw [if_neg h152]); exact ⟨rfl, hR4, hC4⟩)
            · refine g_aload_n 119 dEnd_getData_119 rfl ?_
              refine g_aload_n 120 dEnd_getData_120 rfl ?_
              refine g_iconst 121 3 dEnd_getData_121 rfl ?_
              refine g_iload_n 122 dEnd_getData_122 rfl ?_
              refine g_callV 123 [_, _, _] dEnd_getData_123 cs_End_262 rfl (ci := 2) rfl (by decide) (hR1.1.tEnd he) rfl ⟨(Nat.le_of_ble_eq_true rfl), (Nat.le_of_ble_eq_true rfl)⟩ (Nat.le_of_ble_eq_true rfl) (ct_rstR hR1 he hk (show (zP A (1 - e)).length ≤ 44 by omega)) (Nat.le_of_ble_eq_true rfl) (Nat.le_of_ble_eq_true rfl) ?_
              rintro _ M2 ⟨rfl, hR2, hc⟩
              have hC2 := hC1.tr hc
              exact g_iret 126 dEnd_getData_126 rfl (by unfold gDt gDt1; rw [if_neg (show ¬ true = false by decide)]; unfold gDt2; (try rw [if_neg h22]); (try rw [if_pos h36]); (try rw [if_neg h60]); (try rw [if_neg h81]); (try rw [if_neg h108]); (try rw [if_neg h116]); exact ⟨rfl, hR2, hC2⟩)
        · refine g_aload_n 84 dEnd_getData_84 rfl ?_
          refine g_aload_n 85 dEnd_getData_85 rfl ?_
          refine g_iconst 86 5 dEnd_getData_86 rfl ?_
          refine g_iload_n 87 dEnd_getData_87 rfl ?_
          refine g_callV 88 [_, _, _] dEnd_getData_88 cs_End_262 rfl (ci := 2) rfl (by decide) (hR1.1.tEnd he) rfl ⟨(Nat.le_of_ble_eq_true rfl), (Nat.le_of_ble_eq_true rfl)⟩ (Nat.le_of_ble_eq_true rfl) (ct_rstR hR1 he hk (show (zP A (1 - e)).length ≤ 44 by omega)) (Nat.le_of_ble_eq_true rfl) (Nat.le_of_ble_eq_true rfl) ?_
          rintro _ M2 ⟨rfl, hR2, hc⟩
          have hC2 := hC1.tr hc
          exact g_iret 91 dEnd_getData_91 rfl (by unfold gDt gDt1; rw [if_neg (show ¬ true = false by decide)]; unfold gDt2; (try rw [if_neg h22]); (try rw [if_pos h36]); (try rw [if_neg h60]); (try rw [if_pos h81]); exact ⟨rfl, hR2, hC2⟩)
      · refine g_aload_n 63 dEnd_getData_63 rfl ?_
        refine g_geti 64 8 2 dEnd_getData_64 fs_End_259 rfl (hR1.1.tStr he hk) ?_
        refine g_top _ (hR1.sI (sc_S he hk (by omega) (by omega))) ?_
        refine g_if_eq 67 77 dEnd_getData_67 rfl (fun h67 => ?_) (fun h67 => ?_)
        · refine g_aload_n 77 dEnd_getData_77 rfl ?_
          refine g_callV 78 [] dEnd_getData_78 cs_End_194 rfl (ci := 8) rfl (by decide) (hR1.1.tStr he hk) rfl ⟨(Nat.le_of_ble_eq_true rfl), (Nat.le_of_ble_eq_true rfl)⟩ (Nat.le_of_ble_eq_true rfl) (ct_mgR hR1 he hk) (Nat.le_of_ble_eq_true rfl) (Nat.le_of_ble_eq_true rfl) ?_
          rintro _ M2 ⟨rfl, hM2⟩
          rw [hM2]
          clear hM2 M2
          refine g_if_ne 81 92 dEnd_getData_81 rfl (fun h81 => ?_) (fun h81 => ?_)
          · obtain ⟨la, hla, _⟩ := hR1.lsS he hk hz
            refine g_aload_n 92 dEnd_getData_92 rfl ?_
            refine g_getr 93 8 7 dEnd_getData_93 fs_End_266 rfl (hR1.1.tStr he hk) hla ?_
            refine g_ifnonnull 96 107 dEnd_getData_96 rfl ?_
            refine g_iload_n 107 dEnd_getData_107 rfl ?_
            refine g_if_le 108 127 dEnd_getData_108 rfl (fun h108 => ?_) (fun h108 => ?_)
            · refine g_aload_n 127 dEnd_getData_127 rfl ?_
              refine g_dup 128 dEnd_getData_128 rfl ?_
              refine g_geti 129 8 4 dEnd_getData_129 fs_End_197 rfl (hR1.1.tStr he hk) ?_
              refine g_top _ (hR1.sI (sc_S he hk (by omega) (by omega))) ?_
              refine g_iload_n 132 dEnd_getData_132 rfl ?_
              refine g_isub 133 dEnd_getData_133 ?_
              refine g_puti 134 8 4 dEnd_getData_134 ps_End_197 rfl (hR1.1.tStr he hk) ?_
              refine g_yI hR1 hC1 (sc_S he hk (by omega) (by omega)) (fun M2 hR2 hC2 => ?_)
              refine g_aload_n 137 dEnd_getData_137 rfl ?_
              refine g_getr 138 8 9 dEnd_getData_138 fs_End_188 rfl (hR2.1.tStr he hk) (hR2.1.rStr9 he hk) ?_
              refine g_aload_n 141 dEnd_getData_141 rfl ?_
              refine g_getr 142 12 5 dEnd_getData_142 fs_End_269 rfl (hF.cg hC2).2.2.1 ((hF.cg hC2).2.2.2.2.2.2.2.2.1 h0).choose_spec.1 ?_
              refine g_callV 145 [_] dEnd_getData_145 cs_End_273 rfl (ci := 9) rfl (by decide) (hR2.1.tUr he hk) rfl ⟨(Nat.le_of_ble_eq_true rfl), (Nat.le_of_ble_eq_true rfl)⟩ (Nat.le_of_ble_eq_true rfl) (ct_addUR hR2 he hk ((hF.cg hC2).2.2.2.2.2.2.2.2.1 h0).choose_spec.2 (hrm h36)) (Nat.le_of_ble_eq_true rfl) (Nat.le_of_ble_eq_true rfl) ?_
              rintro _ M3 ⟨rfl, hR3, hc⟩
              have hC3 := hC2.tr hc
              refine g_aload_n 148 dEnd_getData_148 rfl ?_
              refine g_geti 149 12 3 dEnd_getData_149 fs_End_228 rfl (hF.cg hC3).2.2.1 ?_
              refine g_top _ (hF.cg hC3).2.2.2.2.2.2.1 ?_
              refine g_if_eq 152 159 dEnd_getData_152 rfl (fun h152 => ?_) (fun h152 => ?_)
              · refine g_iconst 159 0 dEnd_getData_159 rfl ?_
                exact g_iret 160 dEnd_getData_160 rfl (by unfold gDt gDt1; rw [if_neg (show ¬ true = false by decide)]; unfold gDt2; (try rw [if_neg h22]); (try rw [if_pos h36]); (try rw [if_pos h60]); (try rw [if_pos h67]); (try rw [if_neg h81]); (try rw [if_pos h108]); (try rw [if_pos h152]); exact ⟨rfl, hR3, hC3⟩)
              · refine g_aload_n 155 dEnd_getData_155 rfl ?_
                refine g_callV 156 [] dEnd_getData_156 cs_End_276 rfl (ci := 8) rfl (by decide) (hR3.1.tStr he hk) rfl ⟨(Nat.le_of_ble_eq_true rfl), (Nat.le_of_ble_eq_true rfl)⟩ (Nat.le_of_ble_eq_true rfl) (ct_endGR hR3 he hk) (Nat.le_of_ble_eq_true rfl) (Nat.le_of_ble_eq_true rfl) ?_
                rintro _ M4 ⟨rfl, hR4, hc⟩
                have hC4 := hC3.tr hc
                refine g_iconst 159 0 dEnd_getData_159 rfl ?_
                exact g_iret 160 dEnd_getData_160 rfl (by unfold gDt gDt1; rw [if_neg (show ¬ true = false by decide)]; unfold gDt2; (try rw [if_neg h22]); (try rw [if_pos h36]); (try rw [if_pos h60]); (try rw [if_pos h67]); (try rw [if_neg h81]); (try rw [if_pos h108]); (try rw [if_neg h152]); exact ⟨rfl, hR4, hC4⟩)
            · refine g_iload_n 111 dEnd_getData_111 rfl ?_
              refine g_aload_n 112 dEnd_getData_112 rfl ?_
              refine g_geti 113 8 4 dEnd_getData_113 fs_End_197 rfl (hR1.1.tStr he hk) ?_
              refine g_top _ (hR1.sI (sc_S he hk (by omega) (by omega))) ?_
              refine g_icmp_le 116 127 dEnd_getData_116 rfl (fun h116 => ?_) (fun h116 => ?_)
              · refine g_aload_n 127 dEnd_getData_127 rfl ?_
                refine g_dup 128 dEnd_getData_128 rfl ?_
                refine g_geti 129 8 4 dEnd_getData_129 fs_End_197 rfl (hR1.1.tStr he hk) ?_
                refine g_top _ (hR1.sI (sc_S he hk (by omega) (by omega))) ?_
                refine g_iload_n 132 dEnd_getData_132 rfl ?_
                refine g_isub 133 dEnd_getData_133 ?_
                refine g_puti 134 8 4 dEnd_getData_134 ps_End_197 rfl (hR1.1.tStr he hk) ?_
                refine g_yI hR1 hC1 (sc_S he hk (by omega) (by omega)) (fun M2 hR2 hC2 => ?_)
                refine g_aload_n 137 dEnd_getData_137 rfl ?_
                refine g_getr 138 8 9 dEnd_getData_138 fs_End_188 rfl (hR2.1.tStr he hk) (hR2.1.rStr9 he hk) ?_
                refine g_aload_n 141 dEnd_getData_141 rfl ?_
                refine g_getr 142 12 5 dEnd_getData_142 fs_End_269 rfl (hF.cg hC2).2.2.1 ((hF.cg hC2).2.2.2.2.2.2.2.2.1 h0).choose_spec.1 ?_
                refine g_callV 145 [_] dEnd_getData_145 cs_End_273 rfl (ci := 9) rfl (by decide) (hR2.1.tUr he hk) rfl ⟨(Nat.le_of_ble_eq_true rfl), (Nat.le_of_ble_eq_true rfl)⟩ (Nat.le_of_ble_eq_true rfl) (ct_addUR hR2 he hk ((hF.cg hC2).2.2.2.2.2.2.2.2.1 h0).choose_spec.2 (hrm h36)) (Nat.le_of_ble_eq_true rfl) (Nat.le_of_ble_eq_true rfl) ?_
                rintro _ M3 ⟨rfl, hR3, hc⟩
                have hC3 := hC2.tr hc
                refine g_aload_n 148 dEnd_getData_148 rfl ?_
                refine g_geti 149 12 3 dEnd_getData_149 fs_End_228 rfl (hF.cg hC3).2.2.1 ?_
                refine g_top _ (hF.cg hC3).2.2.2.2.2.2.1 ?_
                refine g_if_eq 152 159 dEnd_getData_152 rfl (fun h152 => ?_) (fun h152 => ?_)
                · refine g_iconst 159 0 dEnd_getData_159 rfl ?_
                  exact g_iret 160 dEnd_getData_160 rfl (by unfold gDt gDt1; rw [if_neg (show ¬ true = false by decide)]; unfold gDt2; (try rw [if_neg h22]); (try rw [if_pos h36]); (try rw [if_pos h60]); (try rw [if_pos h67]); (try rw [if_neg h81]); (try rw [if_neg h108]); (try rw [if_pos h116]); (try rw [if_pos h152]); exact ⟨rfl, hR3, hC3⟩)
                · refine g_aload_n 155 dEnd_getData_155 rfl ?_
                  refine g_callV 156 [] dEnd_getData_156 cs_End_276 rfl (ci := 8) rfl (by decide) (hR3.1.tStr he hk) rfl ⟨(Nat.le_of_ble_eq_true rfl), (Nat.le_of_ble_eq_true rfl)⟩ (Nat.le_of_ble_eq_true rfl) (ct_endGR hR3 he hk) (Nat.le_of_ble_eq_true rfl) (Nat.le_of_ble_eq_true rfl) ?_
                  rintro _ M4 ⟨rfl, hR4, hc⟩
                  have hC4 := hC3.tr hc
                  refine g_iconst 159 0 dEnd_getData_159 rfl ?_
                  exact g_iret 160 dEnd_getData_160 rfl (by unfold gDt gDt1; rw [if_neg (show ¬ true = false by decide)]; unfold gDt2; (try rw [if_neg h22]); (try rw [if_pos h36]); (try rw [if_pos h60]); (try rw [if_pos h67]); (try rw [if_neg h81]); (try rw [if_neg h108]); (try rw [if_pos h116]); (try rw [if_neg h152]); exact ⟨rfl, hR4, hC4⟩)
              · refine g_aload_n 119 dEnd_getData_119 rfl ?_
                refine g_aload_n 120 dEnd_getData_120 rfl ?_
                refine g_iconst 121 3 dEnd_getData_121 rfl ?_
                refine g_iload_n 122 dEnd_getData_122 rfl ?_
                refine g_callV 123 [_, _, _] dEnd_getData_123 cs_End_262 rfl (ci := 2) rfl (by decide) (hR1.1.tEnd he) rfl ⟨(Nat.le_of_ble_eq_true rfl), (Nat.le_of_ble_eq_true rfl)⟩ (Nat.le_of_ble_eq_true rfl) (ct_rstR hR1 he hk (show (zP A (1 - e)).length ≤ 44 by omega)) (Nat.le_of_ble_eq_true rfl) (Nat.le_of_ble_eq_true rfl) ?_
                rintro _ M2 ⟨rfl, hR2, hc⟩
                have hC2 := hC1.tr hc
                exact g_iret 126 dEnd_getData_126 rfl (by unfold gDt gDt1; rw [if_neg (show ¬ true = false by decide)]; unfold gDt2; (try rw [if_neg h22]); (try rw [if_pos h36]); (try rw [if_pos h60]); (try rw [if_pos h67]); (try rw [if_neg h81]); (try rw [if_neg h108]); (try rw [if_neg h116]); exact ⟨rfl, hR2, hC2⟩)
          · refine g_aload_n 84 dEnd_getData_84 rfl ?_
            refine g_aload_n 85 dEnd_getData_85 rfl ?_
            refine g_iconst 86 5 dEnd_getData_86 rfl ?_
            refine g_iload_n 87 dEnd_getData_87 rfl ?_
            refine g_callV 88 [_, _, _] dEnd_getData_88 cs_End_262 rfl (ci := 2) rfl (by decide) (hR1.1.tEnd he) rfl ⟨(Nat.le_of_ble_eq_true rfl), (Nat.le_of_ble_eq_true rfl)⟩ (Nat.le_of_ble_eq_true rfl) (ct_rstR hR1 he hk (show (zP A (1 - e)).length ≤ 44 by omega)) (Nat.le_of_ble_eq_true rfl) (Nat.le_of_ble_eq_true rfl) ?_
            rintro _ M2 ⟨rfl, hR2, hc⟩
            have hC2 := hC1.tr hc
            exact g_iret 91 dEnd_getData_91 rfl (by unfold gDt gDt1; rw [if_neg (show ¬ true = false by decide)]; unfold gDt2; (try rw [if_neg h22]); (try rw [if_pos h36]); (try rw [if_pos h60]); (try rw [if_pos h67]); (try rw [if_pos h81]); exact ⟨rfl, hR2, hC2⟩)
        · refine g_aload_n 70 dEnd_getData_70 rfl ?_
          refine g_iload_n 71 dEnd_getData_71 rfl ?_
          refine g_callV 72 [_] dEnd_getData_72 cs_End_191 rfl (ci := 2) rfl (by decide) (hR1.1.tEnd he) rfl ⟨(Nat.le_of_ble_eq_true rfl), (Nat.le_of_ble_eq_true rfl)⟩ (Nat.le_of_ble_eq_true rfl) (ct_giveR hR1 he (show (zP A (1 - e)).length < 47 by omega)) (Nat.le_of_ble_eq_true rfl) (Nat.le_of_ble_eq_true rfl) ?_
          rintro _ M2 ⟨rfl, hR2, hc⟩
          have hC2 := hC1.tr hc
          refine g_iconst 75 0 dEnd_getData_75 rfl ?_
          exact g_iret 76 dEnd_getData_76 rfl (by unfold gDt gDt1; rw [if_neg (show ¬ true = false by decide)]; unfold gDt2; (try rw [if_neg h22]); (try rw [if_pos h36]); (try rw [if_pos h60]); (try rw [if_neg h67]); exact ⟨rfl, hR2, hC2⟩)
    · refine g_aload_n 39 dEnd_getData_39 rfl ?_
      refine g_iconst 40 3 dEnd_getData_40 rfl ?_
      refine g_callV 41 [_] dEnd_getData_41 cs_End_256 rfl (ci := 2) rfl (by decide) (hR.1.tEnd he) rfl ⟨(Nat.le_of_ble_eq_true rfl), (Nat.le_of_ble_eq_true rfl)⟩ (Nat.le_of_ble_eq_true rfl) (ct_lerrR hR he (show (zP A (1 - e)).length < 47 by omega)) (Nat.le_of_ble_eq_true rfl) (Nat.le_of_ble_eq_true rfl) ?_
      rintro _ M1 ⟨rfl, hR1, hc⟩
      have hC1 := hC.tr hc
      exact g_iret 44 dEnd_getData_44 rfl (by unfold gDt gDt1; rw [if_neg (show ¬ true = false by decide)]; unfold gDt2; (try rw [if_neg h22]); (try rw [if_neg h36]); exact ⟨rfl, hR1, hC1⟩)
  · refine g_aload_n 25 dEnd_getData_25 rfl ?_
    refine g_iconst 26 1 dEnd_getData_26 rfl ?_
    refine g_callV 27 [_] dEnd_getData_27 cs_End_256 rfl (ci := 2) rfl (by decide) (hR.1.tEnd he) rfl ⟨(Nat.le_of_ble_eq_true rfl), (Nat.le_of_ble_eq_true rfl)⟩ (Nat.le_of_ble_eq_true rfl) (ct_lerrR hR he (show (zP A (1 - e)).length < 47 by omega)) (Nat.le_of_ble_eq_true rfl) (Nat.le_of_ble_eq_true rfl) ?_
    rintro _ M1 ⟨rfl, hR1, hc⟩
    have hC1 := hC.tr hc
    exact g_iret 30 dEnd_getData_30 rfl (by unfold gDt gDt1; rw [if_neg (show ¬ true = false by decide)]; unfold gDt2; (try rw [if_pos h22]); exact ⟨rfl, hR1, hC1⟩)
