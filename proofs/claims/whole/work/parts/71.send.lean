theorem dPipe_takeOldest_0 : decode uPipe_takeOldest.2.1 0 = .ok (.aload_n 0, 1) := by decide +kernel
theorem dPipe_takeOldest_1 : decode uPipe_takeOldest.2.1 1 = .ok (.iconst 0, 1) := by decide +kernel
theorem dPipe_takeOldest_2 : decode uPipe_takeOldest.2.1 2 = .ok (.invokevirtual 24, 3) := by decide +kernel
theorem dPipe_takeOldest_5 : decode uPipe_takeOldest.2.1 5 = .ok (.astore_n 1, 1) := by decide +kernel
theorem dPipe_takeOldest_6 : decode uPipe_takeOldest.2.1 6 = .ok (.aload_n 1, 1) := by decide +kernel
theorem dPipe_takeOldest_7 : decode uPipe_takeOldest.2.1 7 = .ok (.ifnull 36, 3) := by decide +kernel
theorem dPipe_takeOldest_10 : decode uPipe_takeOldest.2.1 10 = .ok (.aload_n 0, 1) := by decide +kernel
theorem dPipe_takeOldest_11 : decode uPipe_takeOldest.2.1 11 = .ok (.getfield 11, 3) := by decide +kernel
theorem dPipe_takeOldest_14 : decode uPipe_takeOldest.2.1 14 = .ok (.aload_n 0, 1) := by decide +kernel
theorem dPipe_takeOldest_15 : decode uPipe_takeOldest.2.1 15 = .ok (.getfield 17, 3) := by decide +kernel
theorem dPipe_takeOldest_18 : decode uPipe_takeOldest.2.1 18 = .ok (.aconst_null, 1) := by decide +kernel
theorem dPipe_takeOldest_19 : decode uPipe_takeOldest.2.1 19 = .ok (.aastore, 1) := by decide +kernel
theorem dPipe_takeOldest_20 : decode uPipe_takeOldest.2.1 20 = .ok (.aload_n 0, 1) := by decide +kernel
theorem dPipe_takeOldest_21 : decode uPipe_takeOldest.2.1 21 = .ok (.aload_n 0, 1) := by decide +kernel
theorem dPipe_takeOldest_22 : decode uPipe_takeOldest.2.1 22 = .ok (.getfield 17, 3) := by decide +kernel
theorem dPipe_takeOldest_25 : decode uPipe_takeOldest.2.1 25 = .ok (.iconst 1, 1) := by decide +kernel
theorem dPipe_takeOldest_26 : decode uPipe_takeOldest.2.1 26 = .ok (.iadd, 1) := by decide +kernel
theorem dPipe_takeOldest_27 : decode uPipe_takeOldest.2.1 27 = .ok (.bipush 48, 2) := by decide +kernel
theorem dPipe_takeOldest_29 : decode uPipe_takeOldest.2.1 29 = .ok (.irem, 1) := by decide +kernel
theorem dPipe_takeOldest_30 : decode uPipe_takeOldest.2.1 30 = .ok (.putfield 17, 3) := by decide +kernel
theorem dPipe_takeOldest_33 : decode uPipe_takeOldest.2.1 33 = .ok (.aload_n 0, 1) := by decide +kernel
theorem dPipe_takeOldest_34 : decode uPipe_takeOldest.2.1 34 = .ok (.dup, 1) := by decide +kernel
theorem dPipe_takeOldest_35 : decode uPipe_takeOldest.2.1 35 = .ok (.getfield 21, 3) := by decide +kernel
theorem dPipe_takeOldest_38 : decode uPipe_takeOldest.2.1 38 = .ok (.iconst 1, 1) := by decide +kernel
theorem dPipe_takeOldest_39 : decode uPipe_takeOldest.2.1 39 = .ok (.isub, 1) := by decide +kernel
theorem dPipe_takeOldest_40 : decode uPipe_takeOldest.2.1 40 = .ok (.putfield 21, 3) := by decide +kernel
theorem dPipe_takeOldest_43 : decode uPipe_takeOldest.2.1 43 = .ok (.aload_n 1, 1) := by decide +kernel
theorem dPipe_takeOldest_44 : decode uPipe_takeOldest.2.1 44 = .ok (.areturn, 1) := by decide +kernel
theorem dEnd_sendHeaders_0 : decode uEnd_sendHeaders.2.1 0 = .ok (.aload_n 0, 1) := by decide +kernel
theorem dEnd_sendHeaders_1 : decode uEnd_sendHeaders.2.1 1 = .ok (.getfield 82, 3) := by decide +kernel
theorem dEnd_sendHeaders_4 : decode uEnd_sendHeaders.2.1 4 = .ok (.aload_n 1, 1) := by decide +kernel
theorem dEnd_sendHeaders_5 : decode uEnd_sendHeaders.2.1 5 = .ok (.getfield 121, 3) := by decide +kernel
theorem dEnd_sendHeaders_8 : decode uEnd_sendHeaders.2.1 8 = .ok (.aload_n 0, 1) := by decide +kernel
theorem dEnd_sendHeaders_9 : decode uEnd_sendHeaders.2.1 9 = .ok (.getfield 31, 3) := by decide +kernel
theorem dEnd_sendHeaders_12 : decode uEnd_sendHeaders.2.1 12 = .ok (.aload_n 0, 1) := by decide +kernel
theorem dEnd_sendHeaders_13 : decode uEnd_sendHeaders.2.1 13 = .ok (.getfield 24, 3) := by decide +kernel
theorem dEnd_sendHeaders_16 : decode uEnd_sendHeaders.2.1 16 = .ok (.invokevirtual 124, 3) := by decide +kernel
theorem dEnd_sendHeaders_19 : decode uEnd_sendHeaders.2.1 19 = .ok (.iload_n 2, 1) := by decide +kernel
theorem dEnd_sendHeaders_20 : decode uEnd_sendHeaders.2.1 20 = .ok (.invokestatic 128, 3) := by decide +kernel
theorem dEnd_sendHeaders_23 : decode uEnd_sendHeaders.2.1 23 = .ok (.invokevirtual 134, 3) := by decide +kernel
theorem dEnd_sendHeaders_26 : decode uEnd_sendHeaders.2.1 26 = .ok (.aload_n 0, 1) := by decide +kernel
theorem dEnd_sendHeaders_27 : decode uEnd_sendHeaders.2.1 27 = .ok (.getfield 24, 3) := by decide +kernel
theorem dEnd_sendHeaders_30 : decode uEnd_sendHeaders.2.1 30 = .ok (.iconst 0, 1) := by decide +kernel
theorem dEnd_sendHeaders_31 : decode uEnd_sendHeaders.2.1 31 = .ok (.putfield 96, 3) := by decide +kernel
theorem dEnd_sendHeaders_34 : decode uEnd_sendHeaders.2.1 34 = .ok (.aload_n 1, 1) := by decide +kernel
theorem dEnd_sendHeaders_35 : decode uEnd_sendHeaders.2.1 35 = .ok (.iconst 1, 1) := by decide +kernel
theorem dEnd_sendHeaders_36 : decode uEnd_sendHeaders.2.1 36 = .ok (.putfield 140, 3) := by decide +kernel
theorem dEnd_sendHeaders_39 : decode uEnd_sendHeaders.2.1 39 = .ok (.iload_n 2, 1) := by decide +kernel
theorem dEnd_sendHeaders_40 : decode uEnd_sendHeaders.2.1 40 = .ok (.ifCond .eq 12, 3) := by decide +kernel
theorem dEnd_sendHeaders_43 : decode uEnd_sendHeaders.2.1 43 = .ok (.aload_n 1, 1) := by decide +kernel
theorem dEnd_sendHeaders_44 : decode uEnd_sendHeaders.2.1 44 = .ok (.iconst 1, 1) := by decide +kernel
theorem dEnd_sendHeaders_45 : decode uEnd_sendHeaders.2.1 45 = .ok (.putfield 143, 3) := by decide +kernel
theorem dEnd_sendHeaders_48 : decode uEnd_sendHeaders.2.1 48 = .ok (.aload_n 1, 1) := by decide +kernel
theorem dEnd_sendHeaders_49 : decode uEnd_sendHeaders.2.1 49 = .ok (.invokevirtual 146, 3) := by decide +kernel
theorem dEnd_sendHeaders_52 : decode uEnd_sendHeaders.2.1 52 = .ok (.return_, 1) := by decide +kernel
theorem dEnd_openStream_0 : decode uEnd_openStream.2.1 0 = .ok (.aload_n 0, 1) := by decide +kernel
theorem dEnd_openStream_1 : decode uEnd_openStream.2.1 1 = .ok (.aload_n 0, 1) := by decide +kernel
theorem dEnd_openStream_2 : decode uEnd_openStream.2.1 2 = .ok (.getfield 68, 3) := by decide +kernel
theorem dEnd_openStream_5 : decode uEnd_openStream.2.1 5 = .ok (.invokevirtual 106, 3) := by decide +kernel
theorem dEnd_openStream_8 : decode uEnd_openStream.2.1 8 = .ok (.astore_n 2, 1) := by decide +kernel
theorem dEnd_openStream_9 : decode uEnd_openStream.2.1 9 = .ok (.aload_n 2, 1) := by decide +kernel
theorem dEnd_openStream_10 : decode uEnd_openStream.2.1 10 = .ok (.ifnonnull 5, 3) := by decide +kernel
theorem dEnd_openStream_13 : decode uEnd_openStream.2.1 13 = .ok (.iconst (-1), 1) := by decide +kernel
theorem dEnd_openStream_14 : decode uEnd_openStream.2.1 14 = .ok (.ireturn, 1) := by decide +kernel
theorem dEnd_openStream_15 : decode uEnd_openStream.2.1 15 = .ok (.aload_n 0, 1) := by decide +kernel
theorem dEnd_openStream_16 : decode uEnd_openStream.2.1 16 = .ok (.dup, 1) := by decide +kernel
theorem dEnd_openStream_17 : decode uEnd_openStream.2.1 17 = .ok (.getfield 68, 3) := by decide +kernel
theorem dEnd_openStream_20 : decode uEnd_openStream.2.1 20 = .ok (.iconst 2, 1) := by decide +kernel
theorem dEnd_openStream_21 : decode uEnd_openStream.2.1 21 = .ok (.iadd, 1) := by decide +kernel
theorem dEnd_openStream_22 : decode uEnd_openStream.2.1 22 = .ok (.putfield 68, 3) := by decide +kernel
theorem dEnd_openStream_25 : decode uEnd_openStream.2.1 25 = .ok (.aload_n 2, 1) := by decide +kernel
theorem dEnd_openStream_26 : decode uEnd_openStream.2.1 26 = .ok (.aload_n 0, 1) := by decide +kernel
theorem dEnd_openStream_27 : decode uEnd_openStream.2.1 27 = .ok (.getfield 51, 3) := by decide +kernel
theorem dEnd_openStream_30 : decode uEnd_openStream.2.1 30 = .ok (.getfield 110, 3) := by decide +kernel
theorem dEnd_openStream_33 : decode uEnd_openStream.2.1 33 = .ok (.aload_n 0, 1) := by decide +kernel
theorem dEnd_openStream_34 : decode uEnd_openStream.2.1 34 = .ok (.getfield 55, 3) := by decide +kernel
theorem dEnd_openStream_37 : decode uEnd_openStream.2.1 37 = .ok (.getfield 110, 3) := by decide +kernel
theorem dEnd_openStream_40 : decode uEnd_openStream.2.1 40 = .ok (.invokevirtual 113, 3) := by decide +kernel
theorem dEnd_openStream_43 : decode uEnd_openStream.2.1 43 = .ok (.aload_n 0, 1) := by decide +kernel
theorem dEnd_openStream_44 : decode uEnd_openStream.2.1 44 = .ok (.aload_n 2, 1) := by decide +kernel
theorem dEnd_openStream_45 : decode uEnd_openStream.2.1 45 = .ok (.iload_n 1, 1) := by decide +kernel
theorem dEnd_openStream_46 : decode uEnd_openStream.2.1 46 = .ok (.invokevirtual 117, 3) := by decide +kernel
theorem dEnd_openStream_49 : decode uEnd_openStream.2.1 49 = .ok (.aload_n 2, 1) := by decide +kernel
theorem dEnd_openStream_50 : decode uEnd_openStream.2.1 50 = .ok (.getfield 121, 3) := by decide +kernel
theorem dEnd_openStream_53 : decode uEnd_openStream.2.1 53 = .ok (.ireturn, 1) := by decide +kernel
theorem dEnd_sendData_0 : decode uEnd_sendData.2.1 0 = .ok (.bipush 8, 2) := by decide +kernel
theorem dEnd_sendData_2 : decode uEnd_sendData.2.1 2 = .ok (.aload_n 1, 1) := by decide +kernel
theorem dEnd_sendData_3 : decode uEnd_sendData.2.1 3 = .ok (.getfield 173, 3) := by decide +kernel
theorem dEnd_sendData_6 : decode uEnd_sendData.2.1 6 = .ok (.aload_n 0, 1) := by decide +kernel
theorem dEnd_sendData_7 : decode uEnd_sendData.2.1 7 = .ok (.getfield 15, 3) := by decide +kernel
theorem dEnd_sendData_10 : decode uEnd_sendData.2.1 10 = .ok (.invokestatic 174, 3) := by decide +kernel
theorem dEnd_sendData_13 : decode uEnd_sendData.2.1 13 = .ok (.invokestatic 174, 3) := by decide +kernel
theorem dEnd_sendData_16 : decode uEnd_sendData.2.1 16 = .ok (.istore_n 2, 1) := by decide +kernel
theorem dEnd_sendData_17 : decode uEnd_sendData.2.1 17 = .ok (.aload_n 1, 1) := by decide +kernel
theorem dEnd_sendData_18 : decode uEnd_sendData.2.1 18 = .ok (.getfield 166, 3) := by decide +kernel
theorem dEnd_sendData_21 : decode uEnd_sendData.2.1 21 = .ok (.iload_n 2, 1) := by decide +kernel
theorem dEnd_sendData_22 : decode uEnd_sendData.2.1 22 = .ok (.invokevirtual 180, 3) := by decide +kernel
theorem dEnd_sendData_25 : decode uEnd_sendData.2.1 25 = .ok (.astore_n 3, 1) := by decide +kernel
theorem dEnd_sendData_26 : decode uEnd_sendData.2.1 26 = .ok (.aload_n 1, 1) := by decide +kernel
theorem dEnd_sendData_27 : decode uEnd_sendData.2.1 27 = .ok (.dup, 1) := by decide +kernel
theorem dEnd_sendData_28 : decode uEnd_sendData.2.1 28 = .ok (.getfield 173, 3) := by decide +kernel
theorem dEnd_sendData_31 : decode uEnd_sendData.2.1 31 = .ok (.aload_n 3, 1) := by decide +kernel
theorem dEnd_sendData_32 : decode uEnd_sendData.2.1 32 = .ok (.arraylength, 1) := by decide +kernel
theorem dEnd_sendData_33 : decode uEnd_sendData.2.1 33 = .ok (.isub, 1) := by decide +kernel
theorem dEnd_sendData_34 : decode uEnd_sendData.2.1 34 = .ok (.putfield 173, 3) := by decide +kernel
theorem dEnd_sendData_37 : decode uEnd_sendData.2.1 37 = .ok (.aload_n 0, 1) := by decide +kernel
theorem dEnd_sendData_38 : decode uEnd_sendData.2.1 38 = .ok (.dup, 1) := by decide +kernel
theorem dEnd_sendData_39 : decode uEnd_sendData.2.1 39 = .ok (.getfield 15, 3) := by decide +kernel
theorem dEnd_sendData_42 : decode uEnd_sendData.2.1 42 = .ok (.aload_n 3, 1) := by decide +kernel
theorem dEnd_sendData_43 : decode uEnd_sendData.2.1 43 = .ok (.arraylength, 1) := by decide +kernel
theorem dEnd_sendData_44 : decode uEnd_sendData.2.1 44 = .ok (.isub, 1) := by decide +kernel
theorem dEnd_sendData_45 : decode uEnd_sendData.2.1 45 = .ok (.putfield 15, 3) := by decide +kernel
theorem dEnd_sendData_48 : decode uEnd_sendData.2.1 48 = .ok (.aload_n 1, 1) := by decide +kernel
theorem dEnd_sendData_49 : decode uEnd_sendData.2.1 49 = .ok (.getfield 143, 3) := by decide +kernel
theorem dEnd_sendData_52 : decode uEnd_sendData.2.1 52 = .ok (.ifCond .eq 17, 3) := by decide +kernel
theorem dEnd_sendData_55 : decode uEnd_sendData.2.1 55 = .ok (.aload_n 1, 1) := by decide +kernel
theorem dEnd_sendData_56 : decode uEnd_sendData.2.1 56 = .ok (.getfield 166, 3) := by decide +kernel
theorem dEnd_sendData_59 : decode uEnd_sendData.2.1 59 = .ok (.getfield 170, 3) := by decide +kernel
theorem dEnd_sendData_62 : decode uEnd_sendData.2.1 62 = .ok (.ifCond .ne 7, 3) := by decide +kernel
theorem dEnd_sendData_65 : decode uEnd_sendData.2.1 65 = .ok (.iconst 1, 1) := by decide +kernel
theorem dEnd_sendData_66 : decode uEnd_sendData.2.1 66 = .ok (.goto 4, 3) := by decide +kernel
theorem dEnd_sendData_69 : decode uEnd_sendData.2.1 69 = .ok (.iconst 0, 1) := by decide +kernel
theorem dEnd_sendData_70 : decode uEnd_sendData.2.1 70 = .ok (.istore 4, 2) := by decide +kernel
theorem dEnd_sendData_72 : decode uEnd_sendData.2.1 72 = .ok (.aload_n 0, 1) := by decide +kernel
theorem dEnd_sendData_73 : decode uEnd_sendData.2.1 73 = .ok (.getfield 82, 3) := by decide +kernel
theorem dEnd_sendData_76 : decode uEnd_sendData.2.1 76 = .ok (.aload_n 1, 1) := by decide +kernel
theorem dEnd_sendData_77 : decode uEnd_sendData.2.1 77 = .ok (.getfield 121, 3) := by decide +kernel
theorem dEnd_sendData_80 : decode uEnd_sendData.2.1 80 = .ok (.aload_n 3, 1) := by decide +kernel
theorem dEnd_sendData_81 : decode uEnd_sendData.2.1 81 = .ok (.iload 4, 2) := by decide +kernel
theorem dEnd_sendData_83 : decode uEnd_sendData.2.1 83 = .ok (.invokestatic 184, 3) := by decide +kernel
theorem dEnd_sendData_86 : decode uEnd_sendData.2.1 86 = .ok (.invokevirtual 134, 3) := by decide +kernel
theorem dEnd_sendData_89 : decode uEnd_sendData.2.1 89 = .ok (.iload 4, 2) := by decide +kernel
theorem dEnd_sendData_91 : decode uEnd_sendData.2.1 91 = .ok (.ifCond .eq 7, 3) := by decide +kernel
theorem dEnd_sendData_94 : decode uEnd_sendData.2.1 94 = .ok (.aload_n 1, 1) := by decide +kernel
theorem dEnd_sendData_95 : decode uEnd_sendData.2.1 95 = .ok (.invokevirtual 146, 3) := by decide +kernel
theorem dEnd_sendData_98 : decode uEnd_sendData.2.1 98 = .ok (.return_, 1) := by decide +kernel
theorem dEnd_takeUnread_0 : decode uEnd_takeUnread.2.1 0 = .ok (.aload_n 1, 1) := by decide +kernel
theorem dEnd_takeUnread_1 : decode uEnd_takeUnread.2.1 1 = .ok (.getfield 188, 3) := by decide +kernel
theorem dEnd_takeUnread_4 : decode uEnd_takeUnread.2.1 4 = .ok (.iload_n 2, 1) := by decide +kernel
theorem dEnd_takeUnread_5 : decode uEnd_takeUnread.2.1 5 = .ok (.invokevirtual 180, 3) := by decide +kernel
theorem dEnd_takeUnread_8 : decode uEnd_takeUnread.2.1 8 = .ok (.astore_n 3, 1) := by decide +kernel
theorem dEnd_takeUnread_9 : decode uEnd_takeUnread.2.1 9 = .ok (.aload_n 0, 1) := by decide +kernel
theorem dEnd_takeUnread_10 : decode uEnd_takeUnread.2.1 10 = .ok (.aload_n 3, 1) := by decide +kernel
theorem dEnd_takeUnread_11 : decode uEnd_takeUnread.2.1 11 = .ok (.arraylength, 1) := by decide +kernel
theorem dEnd_takeUnread_12 : decode uEnd_takeUnread.2.1 12 = .ok (.invokevirtual 191, 3) := by decide +kernel
theorem dEnd_takeUnread_15 : decode uEnd_takeUnread.2.1 15 = .ok (.aload_n 3, 1) := by decide +kernel
theorem dEnd_takeUnread_16 : decode uEnd_takeUnread.2.1 16 = .ok (.arraylength, 1) := by decide +kernel
theorem dEnd_takeUnread_17 : decode uEnd_takeUnread.2.1 17 = .ok (.ifCond .le 37, 3) := by decide +kernel
theorem dEnd_takeUnread_20 : decode uEnd_takeUnread.2.1 20 = .ok (.aload_n 1, 1) := by decide +kernel
theorem dEnd_takeUnread_21 : decode uEnd_takeUnread.2.1 21 = .ok (.invokevirtual 194, 3) := by decide +kernel
theorem dEnd_takeUnread_24 : decode uEnd_takeUnread.2.1 24 = .ok (.ifCond .eq 30, 3) := by decide +kernel
theorem dEnd_takeUnread_27 : decode uEnd_takeUnread.2.1 27 = .ok (.aload_n 1, 1) := by decide +kernel
theorem dEnd_takeUnread_28 : decode uEnd_takeUnread.2.1 28 = .ok (.dup, 1) := by decide +kernel
theorem dEnd_takeUnread_29 : decode uEnd_takeUnread.2.1 29 = .ok (.getfield 197, 3) := by decide +kernel
theorem dEnd_takeUnread_32 : decode uEnd_takeUnread.2.1 32 = .ok (.aload_n 3, 1) := by decide +kernel
theorem dEnd_takeUnread_33 : decode uEnd_takeUnread.2.1 33 = .ok (.arraylength, 1) := by decide +kernel
theorem dEnd_takeUnread_34 : decode uEnd_takeUnread.2.1 34 = .ok (.iadd, 1) := by decide +kernel
theorem dEnd_takeUnread_35 : decode uEnd_takeUnread.2.1 35 = .ok (.putfield 197, 3) := by decide +kernel
theorem dEnd_takeUnread_38 : decode uEnd_takeUnread.2.1 38 = .ok (.aload_n 0, 1) := by decide +kernel
theorem dEnd_takeUnread_39 : decode uEnd_takeUnread.2.1 39 = .ok (.getfield 82, 3) := by decide +kernel
theorem dEnd_takeUnread_42 : decode uEnd_takeUnread.2.1 42 = .ok (.aload_n 1, 1) := by decide +kernel
theorem dEnd_takeUnread_43 : decode uEnd_takeUnread.2.1 43 = .ok (.getfield 121, 3) := by decide +kernel
theorem dEnd_takeUnread_46 : decode uEnd_takeUnread.2.1 46 = .ok (.aload_n 3, 1) := by decide +kernel
theorem dEnd_takeUnread_47 : decode uEnd_takeUnread.2.1 47 = .ok (.arraylength, 1) := by decide +kernel
theorem dEnd_takeUnread_48 : decode uEnd_takeUnread.2.1 48 = .ok (.invokestatic 198, 3) := by decide +kernel
theorem dEnd_takeUnread_51 : decode uEnd_takeUnread.2.1 51 = .ok (.invokevirtual 134, 3) := by decide +kernel
theorem dEnd_takeUnread_54 : decode uEnd_takeUnread.2.1 54 = .ok (.lconst 0, 1) := by decide +kernel
theorem dEnd_takeUnread_55 : decode uEnd_takeUnread.2.1 55 = .ok (.lstore 4, 2) := by decide +kernel
theorem dEnd_takeUnread_57 : decode uEnd_takeUnread.2.1 57 = .ok (.aload_n 3, 1) := by decide +kernel
theorem dEnd_takeUnread_58 : decode uEnd_takeUnread.2.1 58 = .ok (.arraylength, 1) := by decide +kernel
theorem dEnd_takeUnread_59 : decode uEnd_takeUnread.2.1 59 = .ok (.iconst 1, 1) := by decide +kernel
theorem dEnd_takeUnread_60 : decode uEnd_takeUnread.2.1 60 = .ok (.isub, 1) := by decide +kernel
theorem dEnd_takeUnread_61 : decode uEnd_takeUnread.2.1 61 = .ok (.istore 6, 2) := by decide +kernel
theorem dEnd_takeUnread_63 : decode uEnd_takeUnread.2.1 63 = .ok (.iload 6, 2) := by decide +kernel
theorem dEnd_takeUnread_65 : decode uEnd_takeUnread.2.1 65 = .ok (.ifCond .lt 26, 3) := by decide +kernel
theorem dEnd_takeUnread_68 : decode uEnd_takeUnread.2.1 68 = .ok (.lload 4, 2) := by decide +kernel
theorem dEnd_takeUnread_70 : decode uEnd_takeUnread.2.1 70 = .ok (.bipush 8, 2) := by decide +kernel
theorem dEnd_takeUnread_72 : decode uEnd_takeUnread.2.1 72 = .ok (.lshl, 1) := by decide +kernel
theorem dEnd_takeUnread_73 : decode uEnd_takeUnread.2.1 73 = .ok (.aload_n 3, 1) := by decide +kernel
theorem dEnd_takeUnread_74 : decode uEnd_takeUnread.2.1 74 = .ok (.iload 6, 2) := by decide +kernel
theorem dEnd_takeUnread_76 : decode uEnd_takeUnread.2.1 76 = .ok (.baload, 1) := by decide +kernel
theorem dEnd_takeUnread_77 : decode uEnd_takeUnread.2.1 77 = .ok (.sipush 255, 3) := by decide +kernel
theorem dEnd_takeUnread_80 : decode uEnd_takeUnread.2.1 80 = .ok (.iand, 1) := by decide +kernel
theorem dEnd_takeUnread_81 : decode uEnd_takeUnread.2.1 81 = .ok (.i2l, 1) := by decide +kernel
theorem dEnd_takeUnread_82 : decode uEnd_takeUnread.2.1 82 = .ok (.lor, 1) := by decide +kernel
theorem dEnd_takeUnread_83 : decode uEnd_takeUnread.2.1 83 = .ok (.lstore 4, 2) := by decide +kernel
theorem dEnd_takeUnread_85 : decode uEnd_takeUnread.2.1 85 = .ok (.iinc 6 (-1), 3) := by decide +kernel
theorem dEnd_takeUnread_88 : decode uEnd_takeUnread.2.1 88 = .ok (.goto (-25), 3) := by decide +kernel
theorem dEnd_takeUnread_91 : decode uEnd_takeUnread.2.1 91 = .ok (.lload 4, 2) := by decide +kernel
theorem dEnd_takeUnread_93 : decode uEnd_takeUnread.2.1 93 = .ok (.lreturn, 1) := by decide +kernel
theorem cs_Pipe_24 : cV "InterleavedLink$Pipe" 24 uPipe_get 1 := ⟨⟨Or.inl (gW_in 695 (by decide +kernel) rfl), (gW_in 65 (by decide +kernel) rfl), (gW_in 698 (by decide +kernel) rfl), ⟨by decide, by decide⟩, by decide +kernel⟩, (gW_in 696 (by decide +kernel) rfl), (gW_in 697 (by decide +kernel) rfl)⟩
theorem cs_End_124 : cV "InterleavedLink$End" 124 uEnc_encode 1 := ⟨⟨Or.inl (gW_in 421 (by decide +kernel) rfl), (gW_in 68 (by decide +kernel) rfl), (gW_in 424 (by decide +kernel) rfl), ⟨by decide, by decide⟩, by decide +kernel⟩, (gW_in 422 (by decide +kernel) rfl), (gW_in 423 (by decide +kernel) rfl)⟩
theorem cs_End_128 : cSt "InterleavedLink$End" 128 uFrame_ofHeaders 3 := ⟨⟨Or.inl (gW_in 510 (by decide +kernel) rfl), (gW_in 76 (by decide +kernel) rfl), (gW_in 512 (by decide +kernel) rfl), ⟨by decide, by decide⟩, by decide +kernel⟩, (gW_in 511 (by decide +kernel) rfl)⟩
theorem ps_End_96 {nm : String} : pS "InterleavedLink$End" nm 96 3 3 .int := ⟨"InterleavedLink$FieldList", T_FList, 4, cf_FList, by decide, by decide +kernel, Or.inl ⟨rfl, Or.inl (gW_in 131 (by decide +kernel) rfl)⟩⟩
theorem ps_End_140 {nm : String} : pS "InterleavedLink$End" nm 140 8 5 .boolean := ⟨"InterleavedLink$Stream", T_Stream, 10, cf_Stream, by decide, by decide +kernel, Or.inl ⟨rfl, Or.inl (gW_in 266 (by decide +kernel) rfl)⟩⟩
theorem ps_End_143 {nm : String} : pS "InterleavedLink$End" nm 143 8 6 .boolean := ⟨"InterleavedLink$Stream", T_Stream, 10, cf_Stream, by decide, by decide +kernel, Or.inl ⟨rfl, Or.inl (gW_in 269 (by decide +kernel) rfl)⟩⟩
theorem cs_End_146 : cV "InterleavedLink$End" 146 uStream_endSent 0 := ⟨⟨Or.inl (gW_in 552 (by decide +kernel) rfl), (gW_in 72 (by decide +kernel) rfl), (gW_in 555 (by decide +kernel) rfl), ⟨by decide, by decide⟩, by decide +kernel⟩, (gW_in 553 (by decide +kernel) rfl), (gW_in 554 (by decide +kernel) rfl)⟩
theorem cs_End_117 : cV "InterleavedLink$End" 117 uEnd_sendHeaders 2 := ⟨⟨Or.inl (gW_in 417 (by decide +kernel) rfl), (gW_in 66 (by decide +kernel) rfl), (gW_in 420 (by decide +kernel) rfl), ⟨by decide, by decide⟩, by decide +kernel⟩, (gW_in 418 (by decide +kernel) rfl), (gW_in 419 (by decide +kernel) rfl)⟩
theorem cs_End_180 : cV "InterleavedLink$End" 180 uBQ_take 1 := ⟨⟨Or.inl (gW_in 602 (by decide +kernel) rfl), (gW_in 73 (by decide +kernel) rfl), (gW_in 605 (by decide +kernel) rfl), ⟨by decide, by decide⟩, by decide +kernel⟩, (gW_in 603 (by decide +kernel) rfl), (gW_in 604 (by decide +kernel) rfl)⟩
theorem cs_End_184 : cSt "InterleavedLink$End" 184 uFrame_ofData 3 := ⟨⟨Or.inl (gW_in 625 (by decide +kernel) rfl), (gW_in 76 (by decide +kernel) rfl), (gW_in 627 (by decide +kernel) rfl), ⟨by decide, by decide⟩, by decide +kernel⟩, (gW_in 626 (by decide +kernel) rfl)⟩
theorem cs_End_155 : cV "InterleavedLink$End" 155 uEnd_sendData 1 := ⟨⟨Or.inl (gW_in 595 (by decide +kernel) rfl), (gW_in 66 (by decide +kernel) rfl), (gW_in 598 (by decide +kernel) rfl), ⟨by decide, by decide⟩, by decide +kernel⟩, (gW_in 597 (by decide +kernel) rfl), (gW_in 8 (by decide +kernel) rfl)⟩
/-! ===== pipes emptied; frames sent ===== -/
set_option maxRecDepth 100000 in
set_option maxHeartbeats 4000000 in
theorem ct_pget {X : mX} {l : Launch} {M : mM} {p q i n k a : Nat} (hp : (mT M p).1 = 1) (hr : mR M p 0 = some q) (hT : mT M q = (104, 48)) (h1 : mI M p 1 = nI i) (h2 : mI M p 2 = nI n) (hk : k < n) (hi : i < 48) (hn : n < 48) (ha : mR M q ((i + k) % 48) = some a) : Ct X l uPipe_get (rk 0 0) [.ref p, .int (nI k)] M (fun r M' => r = some (.ref a) ∧ M' = M) := by
  refine Ct.of (by decide) (Nat.le_of_ble_eq_true rfl) ?_
  show G X l uPipe_get (rk 0 0) 0 0 M 0 [some (.ref p), some (.int (nI k))] [] _
  refine g_iload_n 0 dPipe_get_0 rfl ?_
  refine g_if_ltN 1 29 dPipe_get_1 rfl (by omega) (fun h1_ => ?_) (fun h1_ => ?_)
  · exact absurd h1_ (Nat.not_lt_zero _)
  · refine g_iload_n 4 dPipe_get_4 rfl ?_
    refine g_aload_n 5 dPipe_get_5 rfl ?_
    refine g_geti 6 1 2 dPipe_get_6 fs_Pipe_21 rfl hp ?_
    refine g_top (nI (n)) (h2) ?_
    refine g_icmp_geN 9 29 dPipe_get_9 rfl (by omega) (by omega) (fun h9 => ?_) (fun h9 => ?_)
    · exact absurd h9 (by omega)
    · refine g_aload_n 12 dPipe_get_12 rfl ?_
      refine g_getr 13 1 0 dPipe_get_13 fs_Pipe_11 rfl hp hr ?_
      refine g_aload_n 16 dPipe_get_16 rfl ?_
      refine g_geti 17 1 1 dPipe_get_17 fs_Pipe_17 rfl hp ?_
      refine g_top (nI (i)) (h1) ?_
      refine g_iload_n 20 dPipe_get_20 rfl ?_
      refine g_iaddN 21 dPipe_get_21 ?_
      refine g_bipush 22 (nI 48) dPipe_get_22 rfl ?_
      refine g_iremN 24 dPipe_get_24 (by omega) (by decide) (by decide) ?_
      refine g_aaldN 25 4 (o := some _) dPipe_get_25 rfl (by decide) hT (Nat.mod_lt _ (by decide)) (by decide) ha ?_
      refine g_goto 26 30 dPipe_get_26 rfl ?_
      exact g_aret 30 dPipe_get_30 rfl (Or.inl ⟨_, rfl⟩) ⟨rfl, rfl⟩

set_option maxRecDepth 100000 in
set_option maxHeartbeats 4000000 in
theorem ct_ptake {X : mX} {l : Launch} {M : mM} {p q i n a : Nat} (hp : (mT M p).1 = 1) (hr : mR M p 0 = some q) (hT : mT M q = (104, 48)) (h1 : mI M p 1 = nI i) (h2 : mI M p 2 = nI (n + 1)) (hi : i < 48) (hn : n + 1 < 48) (hpq : p ≠ q) (ha : mR M q ((i + 0) % 48) = some a) : Ct X l uPipe_takeOldest (rk 1 21) [.ref p] M (fun r M' => r = some (.ref a) ∧ M' = setI (setI (setR M q i none) p 1 (nI ((i + 1) % 48))) p 2 (nI n)) := by
  refine Ct.of (by decide) (Nat.le_of_ble_eq_true rfl) ?_
  show G X l uPipe_takeOldest (rk 1 21) 0 0 M 0 [some (.ref p), none] [] _
  refine g_aload_n 0 dPipe_takeOldest_0 rfl ?_
  refine g_iconst 1 (nI 0) dPipe_takeOldest_1 rfl ?_
  refine g_callV 2 [_] dPipe_takeOldest_2 cs_Pipe_24 rfl (ci := 1) rfl (by decide) hp rfl ⟨(Nat.le_of_ble_eq_true rfl), (Nat.le_of_ble_eq_true rfl)⟩ (Nat.le_of_ble_eq_true rfl) (ct_pget hp hr hT h1 h2 (Nat.succ_pos _) hi hn ha) (Nat.le_of_ble_eq_true rfl) (Nat.le_of_ble_eq_true rfl) ?_
  rintro _ M2 ⟨rfl, hM2⟩
  rw [hM2]
  clear hM2 M2
  refine g_astore_n 5 dPipe_takeOldest_5 (by decide) rfl ?_
  refine g_aload_n 6 dPipe_takeOldest_6 rfl ?_
  refine g_ifnull 7 dPipe_takeOldest_7 ?_
  refine g_aload_n 10 dPipe_takeOldest_10 rfl ?_
  refine g_getr 11 1 0 dPipe_takeOldest_11 fs_Pipe_11 rfl hp hr ?_
  refine g_aload_n 14 dPipe_takeOldest_14 rfl ?_
  refine g_geti 15 1 1 dPipe_takeOldest_15 fs_Pipe_17 rfl hp ?_
  refine g_top (nI (i)) (h1) ?_
  refine g_null 18 dPipe_takeOldest_18 ?_
  refine g_aastNN 19 4 dPipe_takeOldest_19 rfl (by decide) hT (by omega) (by decide) ?_
  refine g_aload_n 20 dPipe_takeOldest_20 rfl ?_
  refine g_aload_n 21 dPipe_takeOldest_21 rfl ?_
  refine g_geti 22 1 1 dPipe_takeOldest_22 fs_Pipe_17 rfl hp ?_
  refine g_top (nI (i)) (h1) ?_
  refine g_iconst 25 (nI 1) dPipe_takeOldest_25 rfl ?_
  refine g_iaddN 26 dPipe_takeOldest_26 ?_
  refine g_bipush 27 (nI 48) dPipe_takeOldest_27 rfl ?_
  refine g_iremN 29 dPipe_takeOldest_29 (by omega) (by decide) (by decide) ?_
  refine g_puti 30 1 1 dPipe_takeOldest_30 ps_Pipe_17 rfl hp ?_
  refine g_aload_n 33 dPipe_takeOldest_33 rfl ?_
  refine g_dup 34 dPipe_takeOldest_34 rfl ?_
  refine g_geti 35 1 2 dPipe_takeOldest_35 fs_Pipe_21 rfl hp ?_
  refine g_top (nI ((n + 1))) ((up2_k (by decide)).trans h2) ?_
  refine g_iconst 38 (nI 1) dPipe_takeOldest_38 rfl ?_
  refine g_isubN 39 dPipe_takeOldest_39 (by omega) ?_
  refine g_top (nI (n)) (rfl) ?_
  refine g_puti 40 1 2 dPipe_takeOldest_40 ps_Pipe_21 rfl hp ?_
  refine g_aload_n 43 dPipe_takeOldest_43 rfl ?_
  exact g_aret 44 dPipe_takeOldest_44 rfl (Or.inl ⟨_, rfl⟩) ⟨rfl, rfl⟩

theorem RC.pop {M : mM} {A : zA} {e i : Nat} {f : zF} {L : List zF} (h : RC M A) (he : e < 2) (hz : zP A e = f :: L) (hi : i < 48) (p1 : mI M (4 + 2 * e) 1 = nI i) (hL : L.length + 1 < 48) (p3 : ∀ j g, (f :: L)[j]? = some g → ∃ b, mR M (5 + 2 * e) ((i + j) % 48) = some b ∧ FrC M b g) : RC (setI (setI (setR M (5 + 2 * e) i none) (4 + 2 * e) 1 (nI ((i + 1) % 48))) (4 + 2 * e) 2 (nI L.length)) (yP A e L) ∧ Chg M (setI (setI (setR M (5 + 2 * e) i none) (4 + 2 * e) 1 (nI ((i + 1) % 48))) (4 + 2 * e) 2 (nI L.length)) cP cP := by
  obtain ⟨h0, h1, h2, h3, h4, h5, h6, h7, h8, h9⟩ := h
  have hN := h0.1
  have c : Chg M (setI (setI (setR M (5 + 2 * e) i none) (4 + 2 * e) 1 (nI ((i + 1) % 48))) (4 + 2 * e) 2 (nI L.length)) (fun b k => b = 4 + 2 * e) (fun b k => b = 5 + 2 * e) := by
    exact Chg.setI (Chg.setI (Chg.setR Chg.rf (Or.inl rfl)) (Or.inl rfl)) (Or.inl rfl)
  have n1 : ∀ b (k : Nat), b = 4 + 2 * e → b < 223 := fun b k q => by omega
  have n2 : ∀ b (k : Nat), b = 5 + 2 * e → b < 223 := fun b k q => by omega
  refine ⟨⟨h0.mv c fun b k q _ => by unfold mvR; omega, fun b j hs => ?_, fun d hd => (h2 d hd).mv c hN hd fun b j q => by omega, fun d hd => ?_, fun d k hd hk => (h4 d k hd hk).mv c (by omega) (by omega) (by omega) (by omega), fun d k hd hk => (h5 d k hd hk).mv c (by omega) (by omega) (by omega) (by omega), fun d k hd hk => (h6 d k hd hk).mv c hN hd hk n1 fun b j q => by omega, fun d g hd hg => (h7 d g hd hg).mv c hN hd hg fun b j q => by omega, fun d hd => (h8 d hd).mv c hN hd fun b j q => by omega, fun d hd => (h9 d hd).mv c hN hd fun b j q => by omega⟩, c.mono (fun b k q => by show b < 169; omega) fun b k q => by show b < 169; omega⟩
  · rw [c.2.2.1 b j (by have := hs.2.1; omega) fun q => by have := hs.1; omega]
    exact h1 b j hs
  · by_cases q : d = e
    · subst q
      show PipeC _ _ (upf (zP A) d L d)
      rw [upf_same]
      refine ⟨(i + 1) % 48, Nat.mod_lt _ (by decide), by omega, ?_, ?_, fun j g hg => ?_⟩
      · rw [mI_setI, up2_k (by decide), mI_setI, up2_same]
      · rw [mI_setI, up2_same]
      · obtain ⟨b, g1, g2⟩ := p3 (j + 1) g (by rw [List.getElem?_cons_succ]; exact hg)
        have hj := (List.getElem?_eq_some_iff.mp hg).1
        refine ⟨b, ?_, g2.mv c n1 n2⟩
        rw [mR_setI, mR_setI, mR_setR, up2_k (by omega), ← g1]
        congr 1
        omega
    · show PipeC _ _ (upf (zP A) e L d)
      rw [upf_ne q]
      exact (h3 d hd).mv c hN hd (fun b j q => by omega) fun b j q => by omega
theorem ct_popR {X : mX} {l : Launch} {M : mM} {A : zA} {e : Nat} {f : zF} {L : List zF} (h : RC M A) (he : e < 2) (hz : zP A e = f :: L) : Ct X l uPipe_takeOldest (rk 1 21) [.ref (4 + 2 * e)] M (fun r M' => ∃ a, r = some (.ref a) ∧ FrC M' a f ∧ RC M' (yP A e L) ∧ Chg M M' cP cP) := by
  obtain ⟨i, hi, hl, p1, p2, p3⟩ := h.2.2.2.1 e he
  rw [hz] at hl p2 p3
  obtain ⟨a, ha, hfa⟩ := p3 0 f rfl
  refine (ct_ptake (h.1.tPipe he) (h.1.rPipe0 he) (h.1.TRow he) p1 p2 hi hl (by omega) ha).post ?_
  rintro r M' ⟨rfl, rfl⟩
  have hp := h.pop he hz hi p1 hl p3
  exact ⟨a, rfl, hfa.cg hp.2, hp.1, hp.2⟩
/-- a setting sent -/
def sSt (A : zA) (e : Nat) (s v : Int32) : zA := push (yD A e (zD A e ++ [(s, v)])) (1 - e) (4, 0, v, 0, s, [], [])
theorem PdC.app {M : mM} {e : Nat} {D : List (Int32 × Int32)} {s v : Int32} (h : PdC M e D) (h8 : D.length < 8) : PdC (setI (setI (setI M (27 + 80 * e) D.length s) (28 + 80 * e) D.length v) (9 + 80 * e) 14 (nI (D.length + 1))) e (D ++ [(s, v)]) := by
  obtain ⟨h1, h2, h5⟩ := h
  refine ⟨?_, by rw [List.length_append]; exact h8, fun j x hs => ?_⟩
  · rw [mI_setI, up2_same, List.length_append]
    rfl
  · by_cases hj : j < D.length
    · rw [List.getElem?_append_left hj] at hs
      have hne : j ≠ D.length := by omega
      simp only [mI_setI, up2, hne, and_false, if_false]
      rw [if_neg (by omega), if_neg (by omega)]
      exact h5 j x hs
    · rw [List.getElem?_append_right (by omega)] at hs
      have h6 := (List.getElem?_eq_some_iff.mp hs).1
      have hj2 : j = D.length := by simp at h6; omega
      subst hj2
      simp at hs
      subst hs
      refine ⟨?_, ?_⟩ <;> simp only [mI_setI]
      · rw [up2_a (by omega), up2_a (by omega), up2_same]
      · rw [up2_a (by omega), up2_same]
theorem MkC.app {M : mM} {e : Nat} {D : List (Int32 × Int32 × Int32)} {s v z : Int32} (h : MkC M e D) (h8 : D.length < 6) : MkC (setI (setI (setI (setI M (11 + 80 * e) D.length s) (12 + 80 * e) D.length v) (13 + 80 * e) D.length z) (10 + 80 * e) 3 (nI (D.length + 1))) e (D ++ [(s, v, z)]) := by
  obtain ⟨h1, h2, h5⟩ := h
  refine ⟨?_, by rw [List.length_append]; exact h8, fun j x hs => ?_⟩
  · rw [mI_setI, up2_same, List.length_append]
    rfl
  · by_cases hj : j < D.length
    · rw [List.getElem?_append_left hj] at hs
      have hne : j ≠ D.length := by omega
      simp only [mI_setI, up2, hne, and_false, if_false]
      rw [if_neg (by omega), if_neg (by omega), if_neg (by omega)]
      exact h5 j x hs
    · rw [List.getElem?_append_right (by omega)] at hs
      have h6 := (List.getElem?_eq_some_iff.mp hs).1
      have hj2 : j = D.length := by simp at h6; omega
      subst hj2
      simp at hs
      subst hs
      refine ⟨?_, ?_, ?_⟩ <;> simp only [mI_setI]
      · rw [up2_a (by omega), up2_a (by omega), up2_a (by omega), up2_same]
      · rw [up2_a (by omega), up2_a (by omega), up2_same]
      · rw [up2_a (by omega), up2_same]
set_option maxRecDepth 100000 in
set_option maxHeartbeats 4000000 in
theorem ct_sStR {X : mX} {l : Launch} {M : mM} {A : zA} {e : Nat} (hR : RC M A) (he : e < 2) {s v : Int32} (h8 : (zD A e).length < 8) (hp : (zP A (1 - e)).length ≤ 44) : Ct X l uEnd_sendSetting (rn 3 60 1 7) [.ref (9 + 80 * e), .int s, .int v] M (fun r M' => r = none ∧ RC M' (sSt A e s v) ∧ Chg M M' cP cP) := by
  refine Ct.of (by decide) (Nat.le_of_ble_eq_true rfl) ?_
  show G X l uEnd_sendSetting (rn 3 60 1 7) 1 7 M 0 [some (.ref (9 + 80 * e)), some (.int s), some (.int v)] [] _
  have hC : Chg M M cP cP := Chg.rf
  refine g_aload_n 0 dEnd_sendSetting_0 rfl ?_
  refine g_geti 1 2 14 dEnd_sendSetting_1 fs_End_65 rfl (hR.1.tEnd he) ?_
  refine g_top _ (hR.pdc he) ?_
  refine g_bipush 4 (nI 8) dEnd_sendSetting_4 rfl ?_
  refine g_icmp_geN 6 51 dEnd_sendSetting_6 rfl (by omega) (by omega) (fun h6 => ?_) (fun h6 => ?_)
  · exact absurd h6 (by omega)
  · refine g_aload_n 9 dEnd_sendSetting_9 rfl ?_
    refine g_getr 10 2 12 dEnd_sendSetting_10 fs_End_58 rfl (hR.1.tEnd he) (hR.1.rEnd12 he) ?_
    refine g_aload_n 13 dEnd_sendSetting_13 rfl ?_
    refine g_geti 14 2 14 dEnd_sendSetting_14 fs_End_65 rfl (hR.1.tEnd he) ?_
    refine g_top _ (hR.pdc he) ?_
    refine g_iload_n 17 dEnd_sendSetting_17 rfl ?_
    refine g_iastN 18 dEnd_sendSetting_18 (hR.1.TPS he) (by omega) (by decide) ?_
    refine g_aload_n 19 dEnd_sendSetting_19 rfl ?_
    refine g_getr 20 2 13 dEnd_sendSetting_20 fs_End_62 rfl (hR.1.tEnd he) (hR.1.rEnd13 he) ?_
    refine g_aload_n 23 dEnd_sendSetting_23 rfl ?_
    refine g_geti 24 2 14 dEnd_sendSetting_24 fs_End_65 rfl (hR.1.tEnd he) ?_
    refine g_top (nI ((zD A e).length)) ((up2_a (by omega)).trans (hR.pdc he)) ?_
    refine g_iload_n 27 dEnd_sendSetting_27 rfl ?_
    refine g_iastN 28 dEnd_sendSetting_28 (hR.1.TPV he) (by omega) (by decide) ?_
    refine g_aload_n 29 dEnd_sendSetting_29 rfl ?_
    refine g_dup 30 dEnd_sendSetting_30 rfl ?_
    refine g_geti 31 2 14 dEnd_sendSetting_31 fs_End_65 rfl (hR.1.tEnd he) ?_
    refine g_top (nI ((zD A e).length)) ((up2_a (by omega)).trans ((up2_a (by omega)).trans (hR.pdc he))) ?_
    refine g_iconst 34 (nI 1) dEnd_sendSetting_34 rfl ?_
    refine g_iaddN 35 dEnd_sendSetting_35 ?_
    refine g_puti 36 2 14 dEnd_sendSetting_36 ps_End_65 rfl (hR.1.tEnd he) ?_
    refine g_mem (hR.yD he (((Chg.rf.setI (Or.inl (Or.inr (Or.inl rfl)))).setI (Or.inl (Or.inr (Or.inr rfl)))).setI (Or.inl (Or.inl ⟨rfl, rfl⟩))) ((hR.2.2.2.2.2.2.2.2.2 e he).app h8)) (((hC.setI (Or.inl (show 27 + 80 * e < 169 by omega))).setI (Or.inl (show 28 + 80 * e < 169 by omega))).setI (Or.inl (show 9 + 80 * e < 169 by omega))) (fun M1 hR1 hC1 => ?_)
    refine g_aload_n 39 dEnd_sendSetting_39 rfl ?_
    refine g_getr 40 2 2 dEnd_sendSetting_40 fs_End_82 rfl (hR1.1.tEnd he) (hR1.1.rEnd2 he) ?_
    refine g_iload_n 43 dEnd_sendSetting_43 rfl ?_
    refine g_iload_n 44 dEnd_sendSetting_44 rfl ?_
    refine g_callS 45 [_, _] dEnd_sendSetting_45 cs_End_202 rfl rfl ⟨(Nat.le_of_ble_eq_true rfl), (Nat.le_of_ble_eq_true rfl)⟩ (Nat.le_of_ble_eq_true rfl) (ct_ofSettingR hR1) (Nat.le_of_ble_eq_true rfl) (Nat.le_of_ble_eq_true rfl) ?_
    rintro _ M2 ⟨f2, rfl, hG2, hR2, hc⟩
    have hC2 := hC1.tr hc
    refine g_callV 48 [_] dEnd_sendSetting_48 cs_End_134 rfl (ci := 1) rfl (by decide) (hR2.1.tPipeO he) rfl ⟨(Nat.le_of_ble_eq_true rfl), (Nat.le_of_ble_eq_true rfl)⟩ (Nat.le_of_ble_eq_true rfl) (ct_addR hR2 he hG2 (show (zP A (1 - e)).length < 47 by omega)) (Nat.le_of_ble_eq_true rfl) (Nat.le_of_ble_eq_true rfl) ?_
    rintro _ M3 ⟨rfl, hR3, hc⟩
    have hC3 := hC2.tr hc
    exact g_vret 51 dEnd_sendSetting_51 rfl ⟨rfl, hR3, hC3⟩

theorem rc_yK0 {M : mM} {A : zA} {e : Nat} (h : RC M A) (he : e < 2) : RC (setI M (10 + 80 * e) 3 0) (yK A e []) := h.yK he (Chg.rf.setI (Or.inl ⟨Nat.le_refl _, by omega⟩)) ⟨up2_same, Nat.zero_le _, fun j x hx => by simp at hx⟩
def sHd1 (A : zA) (e k : Nat) (z : Int32) : zA := yI (yK (push (encA A e) (1 - e) (1, nI (2 * k + 1), nI (encB A e).length, z, sumS (encB A e), [], encB A e)) e []) (29 + 80 * e + 5 * k) 5 1
def sHd (A : zA) (e k : Nat) (z : Int32) : zA := if z = 0 then sHd1 A e k z else endS (yI (sHd1 A e k z) (29 + 80 * e + 5 * k) 6 1) e k
def op1 (A : zA) (e : Nat) : zA := yI A (9 + 80 * e) 15 (zI A (9 + 80 * e) 15 + 2)
def opS (A : zA) (e k : Nat) (z : Int32) : zA := sHd (opnA (op1 A e) e k (zI (op1 A e) (25 + 80 * e) 2) (zI (op1 A e) (26 + 80 * e) 2)) e k z
set_option maxRecDepth 100000 in
set_option maxHeartbeats 4000000 in
theorem ct_sHdR {X : mX} {l : Launch} {M : mM} {A : zA} {e k : Nat} (hR : RC M A) (he : e < 2) (hk : k < 12) {z : Int32} (hX : FX X) (hz : z = 0 ∨ z = 1) (hp : (zP A (1 - e)).length ≤ 44) : Ct X l uEnd_sendHeaders (rn 5 113 6 45) [.ref (9 + 80 * e), .ref (29 + 80 * e + 5 * k), .int z] M (fun r M' => r = none ∧ RC M' (sHd A e k z) ∧ Chg M M' cP cP) := by
  refine Ct.of (by decide) (Nat.le_of_ble_eq_true rfl) ?_
  show G X l uEnd_sendHeaders (rn 5 113 6 45) 6 45 M 0 [some (.ref (9 + 80 * e)), some (.ref (29 + 80 * e + 5 * k)), some (.int z)] [] _
  have hC : Chg M M cP cP := Chg.rf
  refine g_aload_n 0 dEnd_sendHeaders_0 rfl ?_
  refine g_getr 1 2 2 dEnd_sendHeaders_1 fs_End_82 rfl (hR.1.tEnd he) (hR.1.rEnd2 he) ?_
  refine g_aload_n 4 dEnd_sendHeaders_4 rfl ?_
  refine g_geti 5 8 0 dEnd_sendHeaders_5 fs_End_121 rfl (hR.1.tStr he hk) ?_
  refine g_top _ (hR.num he hk) ?_
  refine g_aload_n 8 dEnd_sendHeaders_8 rfl ?_
  refine g_getr 9 2 7 dEnd_sendHeaders_9 fs_End_31 rfl (hR.1.tEnd he) (hR.1.rEnd7 he) ?_
  refine g_aload_n 12 dEnd_sendHeaders_12 rfl ?_
  refine g_getr 13 2 6 dEnd_sendHeaders_13 fs_End_24 rfl (hR.1.tEnd he) (hR.1.rEnd6 he) ?_
  refine g_callV 16 [_] dEnd_sendHeaders_16 cs_End_124 rfl (ci := 4) rfl (by decide) (hR.1.tEnc he) rfl ⟨(Nat.le_of_ble_eq_true rfl), (Nat.le_of_ble_eq_true rfl)⟩ (Nat.le_of_ble_eq_true rfl) (ct_encR hR he hX) (Nat.le_of_ble_eq_true rfl) (Nat.le_of_ble_eq_true rfl) ?_
  rintro _ M1 ⟨b, rfl, hbk, hR1, hc⟩
  have hC1 := hC.tr hc
  refine g_iload_n 19 dEnd_sendHeaders_19 rfl ?_
  refine g_callS 20 [_, _, _] dEnd_sendHeaders_20 cs_End_128 rfl rfl ⟨(Nat.le_of_ble_eq_true rfl), (Nat.le_of_ble_eq_true rfl)⟩ (Nat.le_of_ble_eq_true rfl) (ct_ofHeadersR hR1 hbk hz) (Nat.le_of_ble_eq_true rfl) (Nat.le_of_ble_eq_true rfl) ?_
  rintro _ M2 ⟨f2, rfl, hG2, hR2, hc⟩
  have hC2 := hC1.tr hc
  refine g_callV 23 [_] dEnd_sendHeaders_23 cs_End_134 rfl (ci := 1) rfl (by decide) (hR2.1.tPipeO he) rfl ⟨(Nat.le_of_ble_eq_true rfl), (Nat.le_of_ble_eq_true rfl)⟩ (Nat.le_of_ble_eq_true rfl) (ct_addR hR2 he hG2 (show (zP A (1 - e)).length < 47 by omega)) (Nat.le_of_ble_eq_true rfl) (Nat.le_of_ble_eq_true rfl) ?_
  rintro _ M3 ⟨rfl, hR3, hc⟩
  have hC3 := hC2.tr hc
  refine g_aload_n 26 dEnd_sendHeaders_26 rfl ?_
  refine g_getr 27 2 6 dEnd_sendHeaders_27 fs_End_24 rfl (hR3.1.tEnd he) (hR3.1.rEnd6 he) ?_
  refine g_iconst 30 0 dEnd_sendHeaders_30 rfl ?_
  refine g_puti 31 3 3 dEnd_sendHeaders_31 ps_End_96 rfl (hR3.1.tFL he) ?_
  refine g_mem (rc_yK0 hR3 he) (hC3.setI (Or.inl (show 10 + 80 * e < 169 by omega))) (fun M4 hR4 hC4 => ?_)
  refine g_aload_n 34 dEnd_sendHeaders_34 rfl ?_
  refine g_iconst 35 1 dEnd_sendHeaders_35 rfl ?_
  refine g_putz 36 8 5 dEnd_sendHeaders_36 ps_End_140 rfl (by decide) (hR4.1.tStr he hk) ?_
  refine g_yI hR4 hC4 (sc_S he hk (by omega) (by omega)) (fun M5 hR5 hC5 => ?_)
  refine g_iload_n 39 dEnd_sendHeaders_39 rfl ?_
  refine g_if_eq 40 52 dEnd_sendHeaders_40 rfl (fun h40 => ?_) (fun h40 => ?_)
  · exact g_vret 52 dEnd_sendHeaders_52 rfl (by unfold sHd; (try rw [if_pos h40]); exact ⟨rfl, hR5, hC5⟩)
  · refine g_aload_n 43 dEnd_sendHeaders_43 rfl ?_
    refine g_iconst 44 1 dEnd_sendHeaders_44 rfl ?_
    refine g_putz 45 8 6 dEnd_sendHeaders_45 ps_End_143 rfl (by decide) (hR5.1.tStr he hk) ?_
    refine g_yI hR5 hC5 (sc_S he hk (by omega) (by omega)) (fun M6 hR6 hC6 => ?_)
    refine g_aload_n 48 dEnd_sendHeaders_48 rfl ?_
    refine g_callV 49 [] dEnd_sendHeaders_49 cs_End_146 rfl (ci := 8) rfl (by decide) (hR6.1.tStr he hk) rfl ⟨(Nat.le_of_ble_eq_true rfl), (Nat.le_of_ble_eq_true rfl)⟩ (Nat.le_of_ble_eq_true rfl) (ct_endSR hR6 he hk) (Nat.le_of_ble_eq_true rfl) (Nat.le_of_ble_eq_true rfl) ?_
    rintro _ M7 ⟨rfl, hR7, hc⟩
    have hC7 := hC6.tr hc
    exact g_vret 52 dEnd_sendHeaders_52 rfl (by unfold sHd; (try rw [if_neg h40]); exact ⟨rfl, hR7, hC7⟩)

set_option maxRecDepth 100000 in
set_option maxHeartbeats 4000000 in
theorem ct_opSR {X : mX} {l : Launch} {M : mM} {A : zA} {e k : Nat} (hR : RC M A) (he : e < 2) (hk : k < 12) {z : Int32} (hX : FX X) (hz : z = 0 ∨ z = 1) (hno : zI A (9 + 80 * e) 15 = nI (2 * k + 1)) (hp : (zP A (1 - e)).length ≤ 44) : Ct X l uEnd_openStream (rn 6 135 6 45) [.ref (9 + 80 * e), .int z] M (fun r M' => r = some (.int (nI (2 * k + 1))) ∧ RC M' (opS A e k z) ∧ Chg M M' cP cP) := by
  refine Ct.of (by decide) (Nat.le_of_ble_eq_true rfl) ?_
  show G X l uEnd_openStream (rn 6 135 6 45) 6 45 M 0 [some (.ref (9 + 80 * e)), some (.int z), none] [] _
  have hC : Chg M M cP cP := Chg.rf
  refine g_aload_n 0 dEnd_openStream_0 rfl ?_
  refine g_aload_n 1 dEnd_openStream_1 rfl ?_
  refine g_geti 2 2 15 dEnd_openStream_2 fs_End_68 rfl (hR.1.tEnd he) ?_
  refine g_top _ (hR.sI (sc_E he (by omega))) ?_
  refine g_top (nI ((2 * k + 1))) (hno) ?_
  refine g_callV 5 [_] dEnd_openStream_5 cs_End_106 rfl (ci := 2) rfl (by decide) (hR.1.tEnd he) rfl ⟨(Nat.le_of_ble_eq_true rfl), (Nat.le_of_ble_eq_true rfl)⟩ (Nat.le_of_ble_eq_true rfl) (ct_End_streamOf hR.1 he hk) (Nat.le_of_ble_eq_true rfl) (Nat.le_of_ble_eq_true rfl) ?_
  rintro _ M2 ⟨rfl, hM2⟩
  rw [hM2]
  clear hM2 M2
  refine g_astore_n 8 dEnd_openStream_8 (by decide) rfl ?_
  refine g_aload_n 9 dEnd_openStream_9 rfl ?_
  refine g_ifnonnull 10 15 dEnd_openStream_10 rfl ?_
  refine g_aload_n 15 dEnd_openStream_15 rfl ?_
  refine g_dup 16 dEnd_openStream_16 rfl ?_
  refine g_geti 17 2 15 dEnd_openStream_17 fs_End_68 rfl (hR.1.tEnd he) ?_
  refine g_top _ (hR.sI (sc_E he (by omega))) ?_
  refine g_iconst 20 2 dEnd_openStream_20 rfl ?_
  refine g_iadd 21 dEnd_openStream_21 ?_
  refine g_puti 22 2 15 dEnd_openStream_22 ps_End_68 rfl (hR.1.tEnd he) ?_
  refine g_yI hR hC (sc_E he (by omega)) (fun M1 hR1 hC1 => ?_)
  refine g_aload_n 25 dEnd_openStream_25 rfl ?_
  refine g_aload_n 26 dEnd_openStream_26 rfl ?_
  refine g_getr 27 2 10 dEnd_openStream_27 fs_End_51 rfl (hR1.1.tEnd he) (hR1.1.rEnd10 he) ?_
  refine g_geti 30 7 2 dEnd_openStream_30 fs_End_110 rfl (hR1.1.tTold he) ?_
  refine g_top _ (hR1.sI (sc_T he (by omega))) ?_
  refine g_aload_n 33 dEnd_openStream_33 rfl ?_
  refine g_getr 34 2 11 dEnd_openStream_34 fs_End_55 rfl (hR1.1.tEnd he) (hR1.1.rEnd11 he) ?_
  refine g_geti 37 7 2 dEnd_openStream_37 fs_End_110 rfl (hR1.1.tForce he) ?_
  refine g_top _ (hR1.sI (sc_F he (by omega))) ?_
  refine g_callV 40 [_, _] dEnd_openStream_40 cs_End_113 rfl (ci := 8) rfl (by decide) (hR1.1.tStr he hk) rfl ⟨(Nat.le_of_ble_eq_true rfl), (Nat.le_of_ble_eq_true rfl)⟩ (Nat.le_of_ble_eq_true rfl) (ct_openR hR1 he hk) (Nat.le_of_ble_eq_true rfl) (Nat.le_of_ble_eq_true rfl) ?_
  rintro _ M2 ⟨rfl, hR2, hc⟩
  have hC2 := hC1.tr hc
  refine g_aload_n 43 dEnd_openStream_43 rfl ?_
  refine g_aload_n 44 dEnd_openStream_44 rfl ?_
  refine g_iload_n 45 dEnd_openStream_45 rfl ?_
  refine g_callV 46 [_, _] dEnd_openStream_46 cs_End_117 rfl (ci := 2) rfl (by decide) (hR2.1.tEnd he) rfl ⟨(Nat.le_of_ble_eq_true rfl), (Nat.le_of_ble_eq_true rfl)⟩ (Nat.le_of_ble_eq_true rfl) (ct_sHdR hR2 he hk hX hz (by exact hp)) (Nat.le_of_ble_eq_true rfl) (Nat.le_of_ble_eq_true rfl) ?_
  rintro _ M3 ⟨rfl, hR3, hc⟩
  have hC3 := hC2.tr hc
  refine g_aload_n 49 dEnd_openStream_49 rfl ?_
  refine g_geti 50 8 0 dEnd_openStream_50 fs_End_121 rfl (hR3.1.tStr he hk) ?_
  refine g_top _ (hR3.num he hk) ?_
  exact g_iret 53 dEnd_openStream_53 rfl ⟨rfl, hR3, hC3⟩

theorem tkn8 {n : Int32} {c : Nat} (h : n ≤ 8) : tkn n c ≤ 8 := by
  have h1 : n.toInt ≤ 8 := Int32.le_iff_toInt_le.mp h
  have h2 : n.toNatClampNeg ≤ 8 := by
    show n.toInt.toNat ≤ 8
    omega
  exact Nat.le_trans (Nat.min_le_left _ _) h2
theorem ct_takeWR {X : mX} {l : Launch} {M : mM} {A : zA} {e k : Nat} {n : Int32} (h : RC M A) (he : e < 2) (hk : k < 12) (h8 : n ≤ 8) : Ct X l uBQ_take (rn 2 62 1 8) [.ref (30 + 80 * e + 5 * k), .int n] M (fun r M' => ∃ b, r = some (.ref b) ∧ PayC M' b ((zW A e k).take (tkn n (zW A e k).length)) ∧ RC M' (yW A e k ((zW A e k).drop (tkn n (zW A e k).length))) ∧ Chg M M' cP cP) := by
  have hN := h.1.1
  refine (ct_take (h.1.tWt he hk) (h.1.rWt0 he hk) (h.1.TWtR he hk) (by omega) (by omega) (by decide) (by decide) hN (h.2.2.2.2.1 e k he hk) (tkn8 h8)).post ?_
  rintro r M' ⟨rfl, hp, hq, hc⟩
  exact ⟨_, rfl, hp, h.yW he hk hc hq, hc.mono (fun a j q => show a < 169 by omega) fun _ _ q => q.elim⟩
/-- U without the first t bytes of stream place k -/
def tkU : List (Int32 × Int32) → Nat → Nat → List (Int32 × Int32)
  | [], _, _ => []
  | x :: U, k, t => if x.1 = nI (2 * k + 1) then (if t = 0 then x :: U else tkU U k (t - 1)) else x :: tkU U k t
theorem tkU_0 : ∀ (U : List (Int32 × Int32)) (k : Nat), tkU U k 0 = U
  | [], _ => rfl
  | x :: U, k => by
    unfold tkU
    rw [tkU_0 U k, if_pos rfl]
    split <;> rfl
theorem tkU_k : ∀ (U : List (Int32 × Int32)) (k t : Nat), unrd (tkU U k t) k = (unrd U k).drop t
  | [], k, t => by simp [tkU, unrd]
  | x :: U, k, t => by
    unfold tkU
    by_cases q : x.1 = nI (2 * k + 1)
    · rw [if_pos q]
      have hu : unrd (x :: U) k = x.2 :: unrd U k := by unfold unrd; simp [q]
      by_cases q2 : t = 0
      · rw [if_pos q2, q2, List.drop_zero]
      · obtain ⟨s, rfl⟩ : ∃ s, t = s + 1 := ⟨t - 1, by omega⟩
        rw [if_neg q2, hu, List.drop_succ_cons]
        exact tkU_k U k s
    · rw [if_neg q]
      have hu : ∀ V, unrd (x :: V) k = unrd V k := fun V => by unfold unrd; simp [q]
      rw [hu, hu]
      exact tkU_k U k t
theorem tkU_g : ∀ (U : List (Int32 × Int32)) (k g t : Nat), g < 12 → k < 12 → g ≠ k → unrd (tkU U k t) g = unrd U g
  | [], _, _, _, _, _, _ => rfl
  | x :: U, k, g, t, hg, hk, h => by
    unfold tkU
    by_cases q : x.1 = nI (2 * k + 1)
    · rw [if_pos q]
      have hne : ¬ nI (2 * k + 1) = nI (2 * g + 1) := fun q => by have := (nI_eq (by omega) (by omega)).mp q; omega
      have hu : ∀ V, unrd (x :: V) g = unrd V g := fun V => by unfold unrd; simp [q, hne]
      by_cases q2 : t = 0
      · rw [if_pos q2]
      · rw [if_neg q2, hu]
        exact tkU_g U k g (t - 1) hg hk h
    · rw [if_neg q]
      have := tkU_g U k g t hg hk h
      unfold unrd at this ⊢
      rw [List.filter_cons, List.filter_cons]
      split
      · rw [List.map_cons, List.map_cons, this]
      · exact this
theorem ct_takeUR {X : mX} {l : Launch} {M : mM} {A : zA} {e k : Nat} {n : Int32} (h : RC M A) (he : e < 2) (hk : k < 12) (h8 : n ≤ 8) : Ct X l uBQ_take (rn 2 62 1 8) [.ref (32 + 80 * e + 5 * k), .int n] M (fun r M' => ∃ b, r = some (.ref b) ∧ PayC M' b ((unrd (zU A e) k).take (tkn n (unrd (zU A e) k).length)) ∧ RC M' (yU A e (tkU (zU A e) k (tkn n (unrd (zU A e) k).length))) ∧ Chg M M' cP cP) := by
  have hN := h.1.1
  refine (ct_take (h.1.tUr he hk) (h.1.rUr0 he hk) (h.1.TUrR he hk) (by omega) (by omega) (by decide) (by decide) hN (h.2.2.2.2.2.1 e k he hk) (tkn8 h8)).post ?_
  rintro r M' ⟨rfl, hp, hq, hc⟩
  exact ⟨_, rfl, hp, h.yU he hk hc (by rw [tkU_k]; exact hq) (fun g hg hgk => tkU_g _ _ _ _ hg hk hgk), hc.mono (fun a j q => show a < 169 by omega) fun _ _ q => q.elim⟩
def mostW (A : zA) (e k : Nat) : Int32 := if (if zI A (9 + 80 * e) 4 < zI A (29 + 80 * e + 5 * k) 3 then zI A (9 + 80 * e) 4 else zI A (29 + 80 * e + 5 * k) 3) < 8 then (if zI A (9 + 80 * e) 4 < zI A (29 + 80 * e + 5 * k) 3 then zI A (9 + 80 * e) 4 else zI A (29 + 80 * e + 5 * k) 3) else 8
theorem mostW_le (A : zA) (e k : Nat) : mostW A e k ≤ 8 := by
  unfold mostW
  generalize (if zI A (9 + 80 * e) 4 < zI A (29 + 80 * e + 5 * k) 3 then zI A (9 + 80 * e) 4 else zI A (29 + 80 * e + 5 * k) 3) = w
  split
  · exact Int32.le_of_lt (by assumption)
  · exact Int32.le_refl _
/-- the waiting bytes that the next frame takes -/
def sDp (A : zA) (e k : Nat) : List Int32 := (zW A e k).take (tkn (mostW A e k) (zW A e k).length)
def sD1 (A : zA) (e k : Nat) : zA := yW A e k ((zW A e k).drop (tkn (mostW A e k) (zW A e k).length))
def sD2 (A : zA) (e k : Nat) : zA := yI (sD1 A e k) (29 + 80 * e + 5 * k) 3 (zI (sD1 A e k) (29 + 80 * e + 5 * k) 3 - nI (sDp A e k).length)
def sD3 (A : zA) (e k : Nat) : zA := yI (sD2 A e k) (9 + 80 * e) 4 (zI (sD2 A e k) (9 + 80 * e) 4 - nI (sDp A e k).length)
def sD4 (A : zA) (e k : Nat) (z : Int32) : zA := push (sD3 A e k) (1 - e) (0, nI (2 * k + 1), nI (sDp A e k).length, z, 0, sDp A e k, [])
def sDt (A : zA) (e k : Nat) : zA := if zI (sD3 A e k) (29 + 80 * e + 5 * k) 6 = 0 then sD4 A e k 0 else if (zW (sD3 A e k) e k).length = 0 then endS (sD4 A e k 1) e k else sD4 A e k 0
set_option maxRecDepth 100000 in
set_option maxHeartbeats 4000000 in
theorem ct_sDtR {X : mX} {l : Launch} {M : mM} {A : zA} {e k : Nat} (hR : RC M A) (he : e < 2) (hk : k < 12) (hp : (zP A (1 - e)).length ≤ 44) : Ct X l uEnd_sendData (rn 3 85 2 15) [.ref (9 + 80 * e), .ref (29 + 80 * e + 5 * k)] M (fun r M' => r = none ∧ RC M' (sDt A e k) ∧ Chg M M' cP cP) := by
  refine Ct.of (by decide) (Nat.le_of_ble_eq_true rfl) ?_
  show G X l uEnd_sendData (rn 3 85 2 15) 2 15 M 0 [some (.ref (9 + 80 * e)), some (.ref (29 + 80 * e + 5 * k)), none, none, none] [] _
  have hC : Chg M M cP cP := Chg.rf
  have hw32 := hR.w32 he hk
  refine g_bipush 0 8 dEnd_sendData_0 rfl ?_
  refine g_aload_n 2 dEnd_sendData_2 rfl ?_
  refine g_geti 3 8 3 dEnd_sendData_3 fs_End_173 rfl (hR.1.tStr he hk) ?_
  refine g_top _ (hR.sI (sc_S he hk (by omega) (by omega))) ?_
  refine g_aload_n 6 dEnd_sendData_6 rfl ?_
  refine g_geti 7 2 4 dEnd_sendData_7 fs_End_15 rfl (hR.1.tEnd he) ?_
  refine g_top _ (hR.sI (sc_E he (by omega))) ?_
  refine g_mmin 10 dEnd_sendData_10 jm_End_174 jm_min jm_init jm_minc ⟨(Nat.le_of_ble_eq_true rfl), (Nat.le_of_ble_eq_true rfl)⟩ ?_
  refine g_mmin 13 dEnd_sendData_13 jm_End_174 jm_min jm_init jm_minc ⟨(Nat.le_of_ble_eq_true rfl), (Nat.le_of_ble_eq_true rfl)⟩ ?_
  refine g_top (mostW A e k) (rfl) ?_
  refine g_istore_n 16 dEnd_sendData_16 (by decide) rfl ?_
  refine g_aload_n 17 dEnd_sendData_17 rfl ?_
  refine g_getr 18 8 8 dEnd_sendData_18 fs_End_166 rfl (hR.1.tStr he hk) (hR.1.rStr8 he hk) ?_
  refine g_iload_n 21 dEnd_sendData_21 rfl ?_
  refine g_callV 22 [_] dEnd_sendData_22 cs_End_180 rfl (ci := 9) rfl (by decide) (hR.1.tWt he hk) rfl ⟨(Nat.le_of_ble_eq_true rfl), (Nat.le_of_ble_eq_true rfl)⟩ (Nat.le_of_ble_eq_true rfl) (ct_takeWR hR he hk (mostW_le A e k)) (Nat.le_of_ble_eq_true rfl) (Nat.le_of_ble_eq_true rfl) ?_
  rintro _ M1 ⟨b, rfl, hPay, hR1, hC0⟩
  have hC1 : Chg M1 M1 cP cP := Chg.rf
  refine g_astore_n 25 dEnd_sendData_25 (by decide) rfl ?_
  refine g_aload_n 26 dEnd_sendData_26 rfl ?_
  refine g_dup 27 dEnd_sendData_27 rfl ?_
  refine g_geti 28 8 3 dEnd_sendData_28 fs_End_173 rfl (hR1.1.tStr he hk) ?_
  refine g_top _ (hR1.sI (sc_S he hk (by omega) (by omega))) ?_
  refine g_aload_n 31 dEnd_sendData_31 rfl ?_
  refine g_alen 32 1 dEnd_sendData_32 rfl (hPay.cg hC1).2.2.1 ?_
  refine g_isub 33 dEnd_sendData_33 ?_
  refine g_puti 34 8 3 dEnd_sendData_34 ps_End_173 rfl (hR1.1.tStr he hk) ?_
  refine g_yI hR1 hC1 (sc_S he hk (by omega) (by omega)) (fun M2 hR2 hC2 => ?_)
  refine g_aload_n 37 dEnd_sendData_37 rfl ?_
  refine g_dup 38 dEnd_sendData_38 rfl ?_
  refine g_geti 39 2 4 dEnd_sendData_39 fs_End_15 rfl (hR2.1.tEnd he) ?_
  refine g_top _ (hR2.sI (sc_E he (by omega))) ?_
  refine g_aload_n 42 dEnd_sendData_42 rfl ?_
  refine g_alen 43 1 dEnd_sendData_43 rfl (hPay.cg hC2).2.2.1 ?_
  refine g_isub 44 dEnd_sendData_44 ?_
  refine g_puti 45 2 4 dEnd_sendData_45 ps_End_15 rfl (hR2.1.tEnd he) ?_
  refine g_yI hR2 hC2 (sc_E he (by omega)) (fun M3 hR3 hC3 => ?_)
  refine g_aload_n 48 dEnd_sendData_48 rfl ?_
  refine g_geti 49 8 6 dEnd_sendData_49 fs_End_143 rfl (hR3.1.tStr he hk) ?_
  refine g_top _ (hR3.sI (sc_S he hk (by omega) (by omega))) ?_
  refine g_if_eq 52 69 dEnd_sendData_52 rfl (fun h52 => ?_) (fun h52 => ?_)
  · refine g_iconst 69 0 dEnd_sendData_69 rfl ?_
    refine g_istore 70 dEnd_sendData_70 (by decide) rfl ?_
    refine g_aload_n 72 dEnd_sendData_72 rfl ?_
    refine g_getr 73 2 2 dEnd_sendData_73 fs_End_82 rfl (hR3.1.tEnd he) (hR3.1.rEnd2 he) ?_
    refine g_aload_n 76 dEnd_sendData_76 rfl ?_
    refine g_geti 77 8 0 dEnd_sendData_77 fs_End_121 rfl (hR3.1.tStr he hk) ?_
    refine g_top _ (hR3.num he hk) ?_
    refine g_aload_n 80 dEnd_sendData_80 rfl ?_
    refine g_iload 81 dEnd_sendData_81 rfl ?_
    refine g_callS 83 [_, _, _] dEnd_sendData_83 cs_End_184 rfl rfl ⟨(Nat.le_of_ble_eq_true rfl), (Nat.le_of_ble_eq_true rfl)⟩ (Nat.le_of_ble_eq_true rfl) (ct_ofDataR hR3 (hPay.cg hC3) (by decide)) (Nat.le_of_ble_eq_true rfl) (Nat.le_of_ble_eq_true rfl) ?_
    rintro _ M4 ⟨f4, rfl, hG4, hR4, hc⟩
    have hC4 := hC3.tr hc
    refine g_callV 86 [_] dEnd_sendData_86 cs_End_134 rfl (ci := 1) rfl (by decide) (hR4.1.tPipeO he) rfl ⟨(Nat.le_of_ble_eq_true rfl), (Nat.le_of_ble_eq_true rfl)⟩ (Nat.le_of_ble_eq_true rfl) (ct_addR hR4 he hG4 (show (zP A (1 - e)).length < 47 by omega)) (Nat.le_of_ble_eq_true rfl) (Nat.le_of_ble_eq_true rfl) ?_
    rintro _ M5 ⟨rfl, hR5, hc⟩
    have hC5 := hC4.tr hc
    refine g_iload 89 dEnd_sendData_89 rfl ?_
    refine g_if_eq 91 98 dEnd_sendData_91 rfl (fun h91 => ?_) (fun h91 => ?_)
    · exact g_vret 98 dEnd_sendData_98 rfl (by unfold sDt; first | (rw [if_pos (show zI (sD3 A e k) (29 + 80 * e + 5 * k) 6 = 0 from h52)]; exact ⟨rfl, hR5, hC0.tr hC5⟩) | (rw [if_neg (show ¬ zI (sD3 A e k) (29 + 80 * e + 5 * k) 6 = 0 from h52), if_pos (show (zW (sD3 A e k) e k).length = 0 from h62)]; exact ⟨rfl, hR5, hC0.tr hC5⟩) | (rw [if_neg (show ¬ zI (sD3 A e k) (29 + 80 * e + 5 * k) 6 = 0 from h52), if_neg (show ¬ (zW (sD3 A e k) e k).length = 0 from h62)]; exact ⟨rfl, hR5, hC0.tr hC5⟩))
    · exact absurd rfl h91
  · refine g_aload_n 55 dEnd_sendData_55 rfl ?_
    refine g_getr 56 8 8 dEnd_sendData_56 fs_End_166 rfl (hR3.1.tStr he hk) (hR3.1.rStr8 he hk) ?_
    refine g_geti 59 9 1 dEnd_sendData_59 fs_End_170 rfl (hR3.1.tWt he hk) ?_
    refine g_top _ (hR3.wc he hk) ?_
    have hw62 := hR3.w32 he hk
    refine g_if_neN 62 69 dEnd_sendData_62 rfl (by omega) (fun h62 => ?_) (fun h62 => ?_)
    · refine g_iconst 69 0 dEnd_sendData_69 rfl ?_
      refine g_istore 70 dEnd_sendData_70 (by decide) rfl ?_
      refine g_aload_n 72 dEnd_sendData_72 rfl ?_
      refine g_getr 73 2 2 dEnd_sendData_73 fs_End_82 rfl (hR3.1.tEnd he) (hR3.1.rEnd2 he) ?_
      refine g_aload_n 76 dEnd_sendData_76 rfl ?_
      refine g_geti 77 8 0 dEnd_sendData_77 fs_End_121 rfl (hR3.1.tStr he hk) ?_
      refine g_top _ (hR3.num he hk) ?_
      refine g_aload_n 80 dEnd_sendData_80 rfl ?_
      refine g_iload 81 dEnd_sendData_81 rfl ?_
      refine g_callS 83 [_, _, _] dEnd_sendData_83 cs_End_184 rfl rfl ⟨(Nat.le_of_ble_eq_true rfl), (Nat.le_of_ble_eq_true rfl)⟩ (Nat.le_of_ble_eq_true rfl) (ct_ofDataR hR3 (hPay.cg hC3) (by decide)) (Nat.le_of_ble_eq_true rfl) (Nat.le_of_ble_eq_true rfl) ?_
      rintro _ M4 ⟨f4, rfl, hG4, hR4, hc⟩
      have hC4 := hC3.tr hc
      refine g_callV 86 [_] dEnd_sendData_86 cs_End_134 rfl (ci := 1) rfl (by decide) (hR4.1.tPipeO he) rfl ⟨(Nat.le_of_ble_eq_true rfl), (Nat.le_of_ble_eq_true rfl)⟩ (Nat.le_of_ble_eq_true rfl) (ct_addR hR4 he hG4 (show (zP A (1 - e)).length < 47 by omega)) (Nat.le_of_ble_eq_true rfl) (Nat.le_of_ble_eq_true rfl) ?_
      rintro _ M5 ⟨rfl, hR5, hc⟩
      have hC5 := hC4.tr hc
      refine g_iload 89 dEnd_sendData_89 rfl ?_
      refine g_if_eq 91 98 dEnd_sendData_91 rfl (fun h91 => ?_) (fun h91 => ?_)
      · exact g_vret 98 dEnd_sendData_98 rfl (by unfold sDt; first | (rw [if_pos (show zI (sD3 A e k) (29 + 80 * e + 5 * k) 6 = 0 from h52)]; exact ⟨rfl, hR5, hC0.tr hC5⟩) | (rw [if_neg (show ¬ zI (sD3 A e k) (29 + 80 * e + 5 * k) 6 = 0 from h52), if_pos (show (zW (sD3 A e k) e k).length = 0 from h62)]; exact ⟨rfl, hR5, hC0.tr hC5⟩) | (rw [if_neg (show ¬ zI (sD3 A e k) (29 + 80 * e + 5 * k) 6 = 0 from h52), if_neg (show ¬ (zW (sD3 A e k) e k).length = 0 from h62)]; exact ⟨rfl, hR5, hC0.tr hC5⟩))
      · exact absurd rfl h91
    · refine g_iconst 65 1 dEnd_sendData_65 rfl ?_
      refine g_goto 66 70 dEnd_sendData_66 rfl ?_
      refine g_istore 70 dEnd_sendData_70 (by decide) rfl ?_
      refine g_aload_n 72 dEnd_sendData_72 rfl ?_
      refine g_getr 73 2 2 dEnd_sendData_73 fs_End_82 rfl (hR3.1.tEnd he) (hR3.1.rEnd2 he) ?_
      refine g_aload_n 76 dEnd_sendData_76 rfl ?_
      refine g_geti 77 8 0 dEnd_sendData_77 fs_End_121 rfl (hR3.1.tStr he hk) ?_
      refine g_top _ (hR3.num he hk) ?_
      refine g_aload_n 80 dEnd_sendData_80 rfl ?_
      refine g_iload 81 dEnd_sendData_81 rfl ?_
      refine g_callS 83 [_, _, _] dEnd_sendData_83 cs_End_184 rfl rfl ⟨(Nat.le_of_ble_eq_true rfl), (Nat.le_of_ble_eq_true rfl)⟩ (Nat.le_of_ble_eq_true rfl) (ct_ofDataR hR3 (hPay.cg hC3) (by decide)) (Nat.le_of_ble_eq_true rfl) (Nat.le_of_ble_eq_true rfl) ?_
      rintro _ M4 ⟨f4, rfl, hG4, hR4, hc⟩
      have hC4 := hC3.tr hc
      refine g_callV 86 [_] dEnd_sendData_86 cs_End_134 rfl (ci := 1) rfl (by decide) (hR4.1.tPipeO he) rfl ⟨(Nat.le_of_ble_eq_true rfl), (Nat.le_of_ble_eq_true rfl)⟩ (Nat.le_of_ble_eq_true rfl) (ct_addR hR4 he hG4 (show (zP A (1 - e)).length < 47 by omega)) (Nat.le_of_ble_eq_true rfl) (Nat.le_of_ble_eq_true rfl) ?_
      rintro _ M5 ⟨rfl, hR5, hc⟩
      have hC5 := hC4.tr hc
      refine g_iload 89 dEnd_sendData_89 rfl ?_
      refine g_if_eq 91 98 dEnd_sendData_91 rfl (fun h91 => ?_) (fun h91 => ?_)
      · exact absurd h91 (by decide)
      · refine g_aload_n 94 dEnd_sendData_94 rfl ?_
        refine g_callV 95 [] dEnd_sendData_95 cs_End_146 rfl (ci := 8) rfl (by decide) (hR5.1.tStr he hk) rfl ⟨(Nat.le_of_ble_eq_true rfl), (Nat.le_of_ble_eq_true rfl)⟩ (Nat.le_of_ble_eq_true rfl) (ct_endSR hR5 he hk) (Nat.le_of_ble_eq_true rfl) (Nat.le_of_ble_eq_true rfl) ?_
        rintro _ M6 ⟨rfl, hR6, hc⟩
        have hC6 := hC5.tr hc
        exact g_vret 98 dEnd_sendData_98 rfl (by unfold sDt; first | (rw [if_pos (show zI (sD3 A e k) (29 + 80 * e + 5 * k) 6 = 0 from h52)]; exact ⟨rfl, hR6, hC0.tr hC6⟩) | (rw [if_neg (show ¬ zI (sD3 A e k) (29 + 80 * e + 5 * k) 6 = 0 from h52), if_pos (show (zW (sD3 A e k) e k).length = 0 from h62)]; exact ⟨rfl, hR6, hC0.tr hC6⟩) | (rw [if_neg (show ¬ zI (sD3 A e k) (29 + 80 * e + 5 * k) 6 = 0 from h52), if_neg (show ¬ (zW (sD3 A e k) e k).length = 0 from h62)]; exact ⟨rfl, hR6, hC0.tr hC6⟩))

def csZ (A : zA) (e k : Nat) : Int32 := if msZ A e k = 0 then 0 else if nI (zW A e k).length = 0 then zI A (29 + 80 * e + 5 * k) 6 else if zI A (29 + 80 * e + 5 * k) 3 ≤ 0 then 0 else if zI A (9 + 80 * e) 4 ≤ 0 then 0 else 1
theorem RC.cs {M : mM} {A : zA} {e k : Nat} (h : RC M A) (he : e < 2) (hk : k < 12) : csC M e k = csZ A e k := by
  unfold csC csZ
  rw [h.ms he hk, h.wc he hk, h.sI (sc_S (j := 6) he hk (by omega) (by omega)), h.sI (sc_S (j := 3) he hk (by omega) (by omega)), h.sI (sc_E (j := 4) he (by omega))]
theorem nxF_congr {c d : Nat → Int32} (q : Nat) (h : ∀ k, k < 12 → c k = d k) : ∀ j n, nxF c q j n = nxF d q j n
  | 0, _ => rfl
  | j + 1, n => by unfold nxF; rw [h _ (Nat.mod_lt _ (by decide)), nxF_congr q h j (n + 1)]
theorem nxF_lt {c : Nat → Int32} {q : Nat} : ∀ j n {p}, nxF c q j n = some p → p < 12
  | 0, _, _, h => by cases h
  | j + 1, n, p, h => by
    unfold nxF at h
    split at h
    · exact nxF_lt j (n + 1) h
    · cases h
      exact Nat.mod_lt _ (by decide)
/-- what pump wants of the state: flags are flags, the last sender a place -/
def pmW (A : zA) (e q : Nat) : Prop := (∀ k, k < 12 → zI A (29 + 80 * e + 5 * k) 6 = 0 ∨ zI A (29 + 80 * e + 5 * k) 6 = 1) ∧ zI A (9 + 80 * e) 16 = nI q - 1 ∧ q ≤ 12
theorem ct_nxtR {X : mX} {l : Launch} {M : mM} {A : zA} {e q : Nat} (h : RC M A) (he : e < 2) (hw : pmW A e q) : Ct X l uEnd_nextSender (rk 2 41) [.ref (9 + 80 * e)] M (fun r M' => r = some (.int (oI (nxF (csZ A e) q 12 1))) ∧ M' = M) := by
  rw [← nxF_congr q (fun k hk => h.cs he hk)]
  exact ct_nextSender h.1 he (fun k hk => by rw [h.sI (sc_S (j := 6) he hk (by omega) (by omega))]; exact hw.1 k hk) ((h.sI (sc_E (j := 16) he (by omega))).trans hw.2.1) hw.2.2
theorem ct_fullR {X : mX} {l : Launch} {M : mM} {A : zA} {e : Nat} (h : RC M A) (he : e < 2) : Ct X l uPipe_isFull (rk 0 0) [.ref (6 - 2 * e)] M (fun r M' => r = some (.int (if 30 ≤ (zP A (1 - e)).length then 1 else 0)) ∧ M' = M) := by
  refine Ct.of (by decide) (Nat.le_of_ble_eq_true rfl) ?_
  show G X l uPipe_isFull (rk 0 0) 0 0 M 0 [some (.ref (6 - 2 * e))] [] _
  have hR := h
  have hl := h.pi8 (e := 1 - e) (by omega)
  refine g_aload_n 0 dPipe_isFull_0 rfl ?_
  refine g_geti 1 1 2 dPipe_isFull_1 fs_Pipe_21 rfl (hR.1.tPipeO he) ?_
  refine g_top _ (hR.poc he) ?_
  refine g_bipush 4 (nI 30) dPipe_isFull_4 rfl ?_
  refine g_icmp_ltN 6 13 dPipe_isFull_6 rfl (by omega) (by omega) (fun h6 => ?_) (fun h6 => ?_)
  · refine g_iconst 13 0 dPipe_isFull_13 rfl ?_
    exact g_zret 14 dPipe_isFull_14 rfl (by decide) ⟨by first | rw [if_pos (by omega)] | rw [if_neg (by omega)], rfl⟩
  · refine g_iconst 9 1 dPipe_isFull_9 rfl ?_
    refine g_goto 10 14 dPipe_isFull_10 rfl ?_
    exact g_zret 14 dPipe_isFull_14 rfl (by decide) ⟨by first | rw [if_pos (by omega)] | rw [if_neg (by omega)], rfl⟩
/-- at most n frames of data: how many, and the state behind them; q - 1 is the last sender -/
def pmp (e : Nat) : Nat → Nat → zA → Nat × zA
  | 0, _, A => (0, A)
  | n + 1, q, A => if 30 ≤ (zP A (1 - e)).length then (0, A) else match nxF (csZ A e) q 12 1 with
    | none => (0, A)
    | some k => ((pmp e n (k + 1) (sDt (yI A (9 + 80 * e) 16 (nI k)) e k)).1 + 1, (pmp e n (k + 1) (sDt (yI A (9 + 80 * e) 16 (nI k)) e k)).2)
theorem endS_I {A : zA} {e k a j : Nat} (h : ¬ (a = 29 + 80 * e + 5 * k ∧ j = 1)) : zI (endS A e k) a j = zI A a j := by
  unfold endS
  split <;> exact up2_ne h
theorem sDt_I {A : zA} {e k a j : Nat} (h : ¬ (a = 29 + 80 * e + 5 * k ∧ (j = 1 ∨ j = 3)) ∧ ¬ (a = 9 + 80 * e ∧ j = 4)) : zI (sDt A e k) a j = zI A a j := by
  have h4 : ∀ z, zI (sD4 A e k z) a j = zI A a j := fun z => by
    show up2 (up2 (zI A) (29 + 80 * e + 5 * k) 3 _) (9 + 80 * e) 4 _ a j = _
    rw [up2_ne (fun q => h.2 q), up2_ne (fun q => h.1 ⟨q.1, Or.inr q.2⟩)]
  unfold sDt
  split
  · exact h4 0
  · split
    · rw [endS_I (fun q => h.1 ⟨q.1, Or.inl q.2⟩)]
      exact h4 1
    · exact h4 0
theorem endS_P {A : zA} {e k : Nat} : zP (endS A e k) = zP A := by unfold endS; split <;> rfl
theorem sDt_P {A : zA} {e k : Nat} : ((zP (sDt A e k) (1 - e)).length) = (zP A (1 - e)).length + 1 := by
  unfold sDt
  split
  · exact push_len
  · split
    · rw [endS_P]; exact push_len
    · exact push_len
theorem sDt_W {A : zA} {e k q : Nat} (h : pmW A e q) (hk : k < 12) : pmW (sDt (yI A (9 + 80 * e) 16 (nI k)) e k) e (k + 1) := by
  refine ⟨fun g hg => ?_, ?_, hk⟩
  · rw [sDt_I (by omega)]
    show up2 (zI A) (9 + 80 * e) 16 (nI k) _ 6 = 0 ∨ up2 (zI A) (9 + 80 * e) 16 (nI k) _ 6 = 1
    rw [up2_ne (by omega)]
    exact h.1 g hg
  · rw [sDt_I (by omega)]
    show up2 (zI A) (9 + 80 * e) 16 (nI k) _ 16 = _
    rw [up2_same]
    have : nI (k + 1) = nI k + 1 := Int32.ofNat_add k 1
    rw [this, Int32.add_sub_cancel]
set_option maxRecDepth 100000 in
set_option maxHeartbeats 4000000 in
theorem g_pmp {X : mX} {l : Launch} {M : mM} {e N : Nat} {Q : Option Value → mM → Prop} (he : e < 2) (hN : N ≤ 8) : ∀ (j n q : Nat) (A : zA) (M1 : mM), n + j = N → pmW A e q → RC M1 A → Chg M M1 cP cP → ∀ (v : Option Value), (v = none ∨ ∃ x : Int32, v = some (.int x)) → (∀ M', RC M' (pmp e j q A).2 → Chg M M' cP cP → Q (some (.int (nI (n + (pmp e j q A).1)))) M') → G X l uEnd_sendWaiting (rn 4 109 16 120) (2 * j) (15 * j) M1 2 [some (.ref (9 + 80 * e)), some (.int (nI N)), some (.int (nI n)), v] [] Q
  | 0, n, q, A, M1, hn, hw, hR1, hC1, v, hv, hq => by
    have hn : n = N := by omega
    subst hn
    refine g_iload_n 2 dEnd_sendWaiting_2 rfl ?_
    refine g_iload_n 3 dEnd_sendWaiting_3 rfl ?_
    refine g_icmp_geN 4 49 dEnd_sendWaiting_4 rfl (by omega) (by omega) (fun h4 => ?_) (fun h4 => ?_)
    · refine g_iload_n 49 dEnd_sendWaiting_49 rfl ?_
      exact g_iret 50 dEnd_sendWaiting_50 rfl (hq M1 hR1 hC1)
    · exact absurd (Nat.le_refl _) h4
  | j + 1, n, q, A, M1, hn, hw, hR1, hC1, v, hv, hq => by
    have hpl := hR1.pi8 (e := 1 - e) (by omega)
    refine g_iload_n 2 dEnd_sendWaiting_2 rfl ?_
    refine g_iload_n 3 dEnd_sendWaiting_3 rfl ?_
    refine g_icmp_geN 4 49 dEnd_sendWaiting_4 rfl (by omega) (by omega) (fun h4 => ?_) (fun h4 => ?_)
    · exact absurd h4 (by omega)
    · refine g_aload_n 7 dEnd_sendWaiting_7 rfl ?_
      refine g_getr 8 2 2 dEnd_sendWaiting_8 fs_End_82 rfl (hR1.1.tEnd he) (hR1.1.rEnd2 he) ?_
      refine g_callV 11 [] dEnd_sendWaiting_11 cs_End_149 rfl (ci := 1) rfl (by decide) (hR1.1.tPipeO he) rfl ⟨(Nat.le_of_ble_eq_true rfl), (Nat.le_of_ble_eq_true rfl)⟩ (Nat.le_of_ble_eq_true rfl) (ct_fullR hR1 he) (Nat.le_of_ble_eq_true rfl) (Nat.le_of_ble_eq_true rfl) ?_
      rintro _ M2 ⟨rfl, hM2⟩
      rw [hM2]
      clear hM2 M2
      refine g_if_ne 14 49 dEnd_sendWaiting_14 rfl (fun h14 => ?_) (fun h14 => ?_)
      · have hfu : 30 ≤ (zP A (1 - e)).length := Decidable.byContradiction fun q => h14 (if_neg q)
        have hz : pmp e (j + 1) q A = (0, A) := by rw [pmp, if_pos hfu]
        refine g_iload_n 49 dEnd_sendWaiting_49 rfl ?_
        exact g_iret 50 dEnd_sendWaiting_50 rfl (by rw [hz] at hq; exact hq M1 hR1 hC1)
      · have hfu : ¬ 30 ≤ (zP A (1 - e)).length := fun q => absurd h14 (by rw [if_pos q]; decide)
        rcases hx : nxF (csZ A e) q 12 1 with _ | k
        · have hz : pmp e (j + 1) q A = (0, A) := by rw [pmp, if_neg hfu, hx]
          refine g_aload_n 17 dEnd_sendWaiting_17 rfl ?_
          refine g_callV 18 [] dEnd_sendWaiting_18 cs_End_152 rfl (ci := 2) rfl (by decide) (hR1.1.tEnd he) rfl ⟨(Nat.le_of_ble_eq_true rfl), (Nat.le_of_ble_eq_true rfl)⟩ (Nat.le_of_ble_eq_true rfl) (ct_nxtR hR1 he hw) (Nat.le_of_ble_eq_true rfl) (Nat.le_of_ble_eq_true rfl) ?_
          rintro _ M2 ⟨rfl, hM2⟩
          rw [hM2, hx]
          clear hM2 M2
          refine g_istore_n 21 dEnd_sendWaiting_21 (by decide) rfl ?_
          refine g_iload_n 22 dEnd_sendWaiting_22 rfl ?_
          refine g_if_ge 23 28 dEnd_sendWaiting_23 rfl (fun h23 => ?_) (fun h23 => ?_)
          · exact absurd h23 (by decide)
          · refine g_iload_n 26 dEnd_sendWaiting_26 rfl ?_
            exact g_iret 27 dEnd_sendWaiting_27 rfl (by rw [hz] at hq; exact hq M1 hR1 hC1)
        · have hk := nxF_lt 12 1 hx
          have hz : pmp e (j + 1) q A = ((pmp e j (k + 1) (sDt (yI A (9 + 80 * e) 16 (nI k)) e k)).1 + 1, (pmp e j (k + 1) (sDt (yI A (9 + 80 * e) 16 (nI k)) e k)).2) := by rw [pmp, if_neg hfu, hx]
          refine g_aload_n 17 dEnd_sendWaiting_17 rfl ?_
          refine g_callV 18 [] dEnd_sendWaiting_18 cs_End_152 rfl (ci := 2) rfl (by decide) (hR1.1.tEnd he) rfl ⟨(Nat.le_of_ble_eq_true rfl), (Nat.le_of_ble_eq_true rfl)⟩ (Nat.le_of_ble_eq_true rfl) (ct_nxtR hR1 he hw) (Nat.le_of_ble_eq_true rfl) (Nat.le_of_ble_eq_true rfl) ?_
          rintro _ M2 ⟨rfl, hM2⟩
          rw [hM2, hx]
          clear hM2 M2
          refine g_istore_n 21 dEnd_sendWaiting_21 (by decide) rfl ?_
          refine g_iload_n 22 dEnd_sendWaiting_22 rfl ?_
          refine g_if_geN 23 28 dEnd_sendWaiting_23 rfl (by omega) (fun h23 => ?_) (fun h23 => ?_)
          · refine g_aload_n 28 dEnd_sendWaiting_28 rfl ?_
            refine g_iload_n 29 dEnd_sendWaiting_29 rfl ?_
            refine g_puti 30 2 16 dEnd_sendWaiting_30 ps_End_71 rfl (hR1.1.tEnd he) ?_
            refine g_yI hR1 hC1 (sc_E he (by omega)) (fun M2 hR2 hC2 => ?_)
            refine g_aload_n 33 dEnd_sendWaiting_33 rfl ?_
            refine g_aload_n 34 dEnd_sendWaiting_34 rfl ?_
            refine g_getr 35 2 9 dEnd_sendWaiting_35 fs_End_44 rfl (hR2.1.tEnd he) (hR2.1.rEnd9 he) ?_
            refine g_iload_n 38 dEnd_sendWaiting_38 rfl ?_
            refine g_aaldN 39 5 (o := some _) dEnd_sendWaiting_39 rfl (by decide) (hR2.1.TStrs he) (by omega) (by decide) (hR2.1.rStrs he hk) ?_
            refine g_callV 40 [_] dEnd_sendWaiting_40 cs_End_155 rfl (ci := 2) rfl (by decide) (hR2.1.tEnd he) rfl ⟨(Nat.le_of_ble_eq_true rfl), (Nat.le_of_ble_eq_true rfl)⟩ (Nat.le_of_ble_eq_true rfl) (ct_sDtR hR2 he hk (by show (zP A (1 - e)).length ≤ 44; omega)) (Nat.le_of_ble_eq_true rfl) (Nat.le_of_ble_eq_true rfl) ?_
            rintro _ M3 ⟨rfl, hR3, hc⟩
            have hC3 := hC2.tr hc
            refine g_iincN 43 dEnd_sendWaiting_43 rfl (by decide) rfl ?_
            refine g_goto 46 2 dEnd_sendWaiting_46 rfl ?_
            refine G.bud (2 * j) (15 * j) (by show 2 * j ≤ 2 * (j + 1) - 2; omega) (by show 15 * j ≤ 15 * (j + 1) - 15; omega) ?_
            refine g_pmp he hN j (n + 1) (k + 1) _ _ (by omega) (sDt_W hw hk) hR3 hC3 _ (Or.inr ⟨_, rfl⟩) fun M' h1 h2 => ?_
            rw [hz] at hq
            have := hq M' h1 h2
            rw [show n + ((pmp e j (k + 1) (sDt (yI A (9 + 80 * e) 16 (nI k)) e k)).1 + 1) = n + 1 + (pmp e j (k + 1) (sDt (yI A (9 + 80 * e) 16 (nI k)) e k)).1 by omega] at this
            exact this
          · exact absurd (Nat.zero_le _) h23
set_option maxRecDepth 100000 in
set_option maxHeartbeats 4000000 in
theorem ct_pmpR {X : mX} {l : Launch} {M : mM} {A : zA} {e : Nat} (hR : RC M A) (he : e < 2) {N q : Nat} (hN : N ≤ 8) (hw : pmW A e q) : Ct X l uEnd_sendWaiting (rn 4 109 16 120) [.ref (9 + 80 * e), .int (nI N)] M (fun r M' => r = some (.int (nI (pmp e N q A).1)) ∧ RC M' (pmp e N q A).2 ∧ Chg M M' cP cP) := by
  refine Ct.of (by decide) (Nat.le_of_ble_eq_true rfl) ?_
  show G X l uEnd_sendWaiting (rn 4 109 16 120) 16 120 M 0 [some (.ref (9 + 80 * e)), some (.int (nI N)), none, none] [] _
  have hC : Chg M M cP cP := Chg.rf
  refine g_iconst 0 (nI 0) dEnd_sendWaiting_0 rfl ?_
  refine g_istore_n 1 dEnd_sendWaiting_1 (by decide) rfl ?_
  refine G.bud (2 * N) (15 * N) (by omega) (by omega) ?_
  exact g_pmp he hN N 0 q A M (Nat.zero_add _) hw hR hC none (Or.inl rfl) fun M' h1 h2 => ⟨by rw [Nat.zero_add], h1, h2⟩

/-- bytes as one number, the first lowest -/
def pkB : List Int32 → Int64
  | [] => 0
  | x :: L => (pkB L <<< ((8 : Int32).toInt64 &&& 63)) ||| (sb x &&& 255).toInt64
def rdP (A : zA) (e k : Nat) (n : Int32) : List Int32 := (unrd (zU A e) k).take (tkn n (unrd (zU A e) k).length)
def rd1 (A : zA) (e k : Nat) (n : Int32) : zA := give (yU A e (tkU (zU A e) k (tkn n (unrd (zU A e) k).length))) e (nI (rdP A e k n).length)
def rdA (A : zA) (e k : Nat) (n : Int32) : zA := if (rdP A e k n).length ≤ 0 then rd1 A e k n else if mgZ (rd1 A e k n) e k = 0 then rd1 A e k n else push (yI (rd1 A e k n) (29 + 80 * e + 5 * k) 4 (zI (rd1 A e k n) (29 + 80 * e + 5 * k) 4 + nI (rdP A e k n).length)) (1 - e) (8, nI (2 * k + 1), nI (rdP A e k n).length, 0, 0, [], [])
theorem give_len {A : zA} {e : Nat} {n : Int32} : (zP (give A e n) (1 - e)).length ≤ (zP A (1 - e)).length + 1 := by
  unfold give
  split
  · exact Nat.le_succ _
  · exact Nat.le_of_eq push_len
theorem g_lst {X : mX} {l : Launch} {u : mU} {rm : Room} {bc bs : Nat} {M : mM} {pc : Nat} {ls ls' : List (Option Value)} {st : List Value} {Q : Option Value → mM → Prop} (h : ls = ls') (k : G X l u rm bc bs M pc ls' st Q) : G X l u rm bc bs M pc ls st Q := by subst h; exact k
set_option maxRecDepth 100000 in
set_option maxHeartbeats 4000000 in
theorem g_rd {X : mX} {l : Launch} {M : mM} {e k b : Nat} {n : Int32} {L : List Int32} {bc bs : Nat} {Q : Option Value → mM → Prop} (hp : PayC M b L) (hL : L.length ≤ 8) (hq : Q (some (.long (pkB L))) M) : ∀ (i : Nat), i ≤ L.length → ∀ (x : Int32) (y : Int64), x = nI i - 1 → y = pkB (L.drop i) → G X l uEnd_takeUnread (rn 4 85 3 22) bc bs M 63 [some (.ref (9 + 80 * e)), some (.ref (29 + 80 * e + 5 * k)), some (.int n), some (.ref b), some (.long y), none, some (.int x)] [] Q
  | 0, hi, x, y, hx, hy => by
    subst hx hy
    refine g_iload 63 dEnd_takeUnread_63 rfl ?_
    refine g_if_lt 65 91 dEnd_takeUnread_65 rfl (fun h65 => ?_) (fun h65 => ?_)
    · refine g_lload 91 dEnd_takeUnread_91 rfl ?_
      exact g_lret 93 dEnd_takeUnread_93 rfl hq
    · exact absurd (by decide) h65
  | i + 1, hi, x, y, hx, hy => by
    have hxi : x = nI i := by rw [hx, show nI (i + 1) = nI i + 1 from Int32.ofNat_add i 1, Int32.add_sub_cancel]
    subst hxi hy
    have hj : L[i]? = some L[i] := List.getElem?_eq_getElem hi
    refine g_iload 63 dEnd_takeUnread_63 rfl ?_
    refine g_if_ltN 65 91 dEnd_takeUnread_65 rfl (by omega) (fun h65 => ?_) (fun h65 => ?_)
    · exact absurd h65 (Nat.not_lt_zero _)
    · refine g_lload 68 dEnd_takeUnread_68 rfl ?_
      refine g_bipush 70 8 dEnd_takeUnread_70 rfl ?_
      refine g_lshl 72 dEnd_takeUnread_72 ?_
      refine g_aload_n 73 dEnd_takeUnread_73 rfl ?_
      refine g_iload 74 dEnd_takeUnread_74 rfl ?_
      refine g_baldN 76 dEnd_takeUnread_76 hp.2.2.1 hi (by omega) ?_
      refine g_top (sb L[i]) (hp.2.2.2 i _ hj) ?_
      refine g_sipush 77 255 dEnd_takeUnread_77 rfl ?_
      refine g_iand 80 dEnd_takeUnread_80 ?_
      refine g_i2l 81 dEnd_takeUnread_81 ?_
      refine g_lor 82 dEnd_takeUnread_82 ?_
      refine g_lstore 83 dEnd_takeUnread_83 (by decide) rfl ?_
      refine g_iinc 85 (-1) dEnd_takeUnread_85 rfl rfl (by decide) rfl ?_
      refine g_goto 88 63 dEnd_takeUnread_88 rfl ?_
      exact g_rd hp hL hq i (by omega) _ _ (by rw [Int32.sub_eq_add_neg]) (by rw [List.drop_eq_getElem_cons hi, pkB])
set_option maxRecDepth 100000 in
set_option maxHeartbeats 4000000 in
theorem ct_rdR {X : mX} {l : Launch} {M : mM} {A : zA} {e k : Nat} (hR : RC M A) (he : e < 2) (hk : k < 12) {n : Int32} (h8 : n ≤ 8) (hp : (zP A (1 - e)).length ≤ 44) : Ct X l uEnd_takeUnread (rn 4 85 3 22) [.ref (9 + 80 * e), .ref (29 + 80 * e + 5 * k), .int n] M (fun r M' => r = some (.long (pkB (rdP A e k n))) ∧ RC M' (rdA A e k n) ∧ Chg M M' cP cP) := by
  refine Ct.of (by decide) (Nat.le_of_ble_eq_true rfl) ?_
  show G X l uEnd_takeUnread (rn 4 85 3 22) 3 22 M 0 [some (.ref (9 + 80 * e)), some (.ref (29 + 80 * e + 5 * k)), some (.int n), none, none, none, none] [] _
  have hC : Chg M M cP cP := Chg.rf
  have hu40 := hR.u40 he hk
  refine g_aload_n 0 dEnd_takeUnread_0 rfl ?_
  refine g_getr 1 8 9 dEnd_takeUnread_1 fs_End_188 rfl (hR.1.tStr he hk) (hR.1.rStr9 he hk) ?_
  refine g_iload_n 4 dEnd_takeUnread_4 rfl ?_
  refine g_callV 5 [_] dEnd_takeUnread_5 cs_End_180 rfl (ci := 9) rfl (by decide) (hR.1.tUr he hk) rfl ⟨(Nat.le_of_ble_eq_true rfl), (Nat.le_of_ble_eq_true rfl)⟩ (Nat.le_of_ble_eq_true rfl) (ct_takeUR hR he hk h8) (Nat.le_of_ble_eq_true rfl) (Nat.le_of_ble_eq_true rfl) ?_
  rintro _ M1 ⟨b, rfl, hPay, hR1, hC0⟩
  have hC1 : Chg M1 M1 cP cP := Chg.rf
  have hPl : (rdP A e k n).length ≤ 8 := Nat.le_trans (List.length_take_le _ _) (tkn8 h8)
  have hPl2 : ((unrd (zU A e) k).take (tkn n (unrd (zU A e) k).length)).length ≤ 8 := hPl
  refine g_astore_n 8 dEnd_takeUnread_8 (by decide) rfl ?_
  refine g_aload_n 9 dEnd_takeUnread_9 rfl ?_
  refine g_aload_n 10 dEnd_takeUnread_10 rfl ?_
  refine g_alen 11 1 dEnd_takeUnread_11 rfl (hPay.cg hC1).2.2.1 ?_
  refine g_callV 12 [_] dEnd_takeUnread_12 cs_End_191 rfl (ci := 2) rfl (by decide) (hR1.1.tEnd he) rfl ⟨(Nat.le_of_ble_eq_true rfl), (Nat.le_of_ble_eq_true rfl)⟩ (Nat.le_of_ble_eq_true rfl) (ct_giveR hR1 he (show (zP A (1 - e)).length < 47 by omega)) (Nat.le_of_ble_eq_true rfl) (Nat.le_of_ble_eq_true rfl) ?_
  rintro _ M2 ⟨rfl, hR2, hc⟩
  have hC2 := hC1.tr hc
  refine g_aload_n 15 dEnd_takeUnread_15 rfl ?_
  refine g_alen 16 1 dEnd_takeUnread_16 rfl (hPay.cg hC2).2.2.1 ?_
  refine g_if_leN 17 54 dEnd_takeUnread_17 rfl (by omega) (fun h17 => ?_) (fun h17 => ?_)
  · have hz : RC _ (rdA A e k n) := (by unfold rdA; (first | rw [if_pos (show (rdP A e k n).length ≤ 0 from h17)] | rw [if_neg (show ¬ (rdP A e k n).length ≤ 0 from h17), if_pos (show mgZ (rd1 A e k n) e k = 0 from h24)] | rw [if_neg (show ¬ (rdP A e k n).length ≤ 0 from h17), if_neg (show ¬ mgZ (rd1 A e k n) e k = 0 from h24)]); exact hR2)
    refine g_lconst 54 0 dEnd_takeUnread_54 rfl ?_
    refine g_lstore 55 dEnd_takeUnread_55 (by decide) rfl ?_
    refine g_aload_n 57 dEnd_takeUnread_57 rfl ?_
    refine g_alen 58 1 dEnd_takeUnread_58 rfl (hPay.cg hC2).2.2.1 ?_
    refine g_iconst 59 1 dEnd_takeUnread_59 rfl ?_
    refine g_isub 60 dEnd_takeUnread_60 ?_
    refine g_istore 61 dEnd_takeUnread_61 (by decide) rfl ?_
    exact g_rd (hPay.cg hC2) hPl ⟨rfl, hz, hC0.tr hC2⟩ _ (Nat.le_refl _) _ _ rfl (by rw [List.drop_length]; rfl)
  · refine g_aload_n 20 dEnd_takeUnread_20 rfl ?_
    refine g_callV 21 [] dEnd_takeUnread_21 cs_End_194 rfl (ci := 8) rfl (by decide) (hR2.1.tStr he hk) rfl ⟨(Nat.le_of_ble_eq_true rfl), (Nat.le_of_ble_eq_true rfl)⟩ (Nat.le_of_ble_eq_true rfl) (ct_mgR hR2 he hk) (Nat.le_of_ble_eq_true rfl) (Nat.le_of_ble_eq_true rfl) ?_
    rintro _ M2 ⟨rfl, hM2⟩
    rw [hM2]
    clear hM2 M2
    refine g_if_eq 24 54 dEnd_takeUnread_24 rfl (fun h24 => ?_) (fun h24 => ?_)
    · have hz : RC _ (rdA A e k n) := (by unfold rdA; (first | rw [if_pos (show (rdP A e k n).length ≤ 0 from h17)] | rw [if_neg (show ¬ (rdP A e k n).length ≤ 0 from h17), if_pos (show mgZ (rd1 A e k n) e k = 0 from h24)] | rw [if_neg (show ¬ (rdP A e k n).length ≤ 0 from h17), if_neg (show ¬ mgZ (rd1 A e k n) e k = 0 from h24)]); exact hR2)
      refine g_lconst 54 0 dEnd_takeUnread_54 rfl ?_
      refine g_lstore 55 dEnd_takeUnread_55 (by decide) rfl ?_
      refine g_aload_n 57 dEnd_takeUnread_57 rfl ?_
      refine g_alen 58 1 dEnd_takeUnread_58 rfl (hPay.cg hC2).2.2.1 ?_
      refine g_iconst 59 1 dEnd_takeUnread_59 rfl ?_
      refine g_isub 60 dEnd_takeUnread_60 ?_
      refine g_istore 61 dEnd_takeUnread_61 (by decide) rfl ?_
      exact g_rd (hPay.cg hC2) hPl ⟨rfl, hz, hC0.tr hC2⟩ _ (Nat.le_refl _) _ _ rfl (by rw [List.drop_length]; rfl)
    · refine g_aload_n 27 dEnd_takeUnread_27 rfl ?_
      refine g_dup 28 dEnd_takeUnread_28 rfl ?_
      refine g_geti 29 8 4 dEnd_takeUnread_29 fs_End_197 rfl (hR2.1.tStr he hk) ?_
      refine g_top _ (hR2.sI (sc_S he hk (by omega) (by omega))) ?_
      refine g_aload_n 32 dEnd_takeUnread_32 rfl ?_
      refine g_alen 33 1 dEnd_takeUnread_33 rfl (hPay.cg hC2).2.2.1 ?_
      refine g_iadd 34 dEnd_takeUnread_34 ?_
      refine g_puti 35 8 4 dEnd_takeUnread_35 ps_End_197 rfl (hR2.1.tStr he hk) ?_
      refine g_yI hR2 hC2 (sc_S he hk (by omega) (by omega)) (fun M3 hR3 hC3 => ?_)
      refine g_aload_n 38 dEnd_takeUnread_38 rfl ?_
      refine g_getr 39 2 2 dEnd_takeUnread_39 fs_End_82 rfl (hR3.1.tEnd he) (hR3.1.rEnd2 he) ?_
      refine g_aload_n 42 dEnd_takeUnread_42 rfl ?_
      refine g_geti 43 8 0 dEnd_takeUnread_43 fs_End_121 rfl (hR3.1.tStr he hk) ?_
      refine g_top _ (hR3.num he hk) ?_
      refine g_aload_n 46 dEnd_takeUnread_46 rfl ?_
      refine g_alen 47 1 dEnd_takeUnread_47 rfl (hPay.cg hC3).2.2.1 ?_
      refine g_callS 48 [_, _] dEnd_takeUnread_48 cs_End_198 rfl rfl ⟨(Nat.le_of_ble_eq_true rfl), (Nat.le_of_ble_eq_true rfl)⟩ (Nat.le_of_ble_eq_true rfl) (ct_ofWindowR hR3) (Nat.le_of_ble_eq_true rfl) (Nat.le_of_ble_eq_true rfl) ?_
      rintro _ M4 ⟨f4, rfl, hG4, hR4, hc⟩
      have hC4 := hC3.tr hc
      refine g_callV 51 [_] dEnd_takeUnread_51 cs_End_134 rfl (ci := 1) rfl (by decide) (hR4.1.tPipeO he) rfl ⟨(Nat.le_of_ble_eq_true rfl), (Nat.le_of_ble_eq_true rfl)⟩ (Nat.le_of_ble_eq_true rfl) (ct_addR hR4 he hG4 (Nat.lt_of_le_of_lt give_len (show (zP A (1 - e)).length + 1 < 47 by omega))) (Nat.le_of_ble_eq_true rfl) (Nat.le_of_ble_eq_true rfl) ?_
      rintro _ M5 ⟨rfl, hR5, hc⟩
      have hC5 := hC4.tr hc
      have hz : RC _ (rdA A e k n) := (by unfold rdA; (first | rw [if_pos (show (rdP A e k n).length ≤ 0 from h17)] | rw [if_neg (show ¬ (rdP A e k n).length ≤ 0 from h17), if_pos (show mgZ (rd1 A e k n) e k = 0 from h24)] | rw [if_neg (show ¬ (rdP A e k n).length ≤ 0 from h17), if_neg (show ¬ mgZ (rd1 A e k n) e k = 0 from h24)]); exact hR5)
      refine g_lconst 54 0 dEnd_takeUnread_54 rfl ?_
      refine g_lstore 55 dEnd_takeUnread_55 (by decide) rfl ?_
      refine g_aload_n 57 dEnd_takeUnread_57 rfl ?_
      refine g_alen 58 1 dEnd_takeUnread_58 rfl (hPay.cg hC5).2.2.1 ?_
      refine g_iconst 59 1 dEnd_takeUnread_59 rfl ?_
      refine g_isub 60 dEnd_takeUnread_60 ?_
      refine g_istore 61 dEnd_takeUnread_61 (by decide) rfl ?_
      exact g_rd (hPay.cg hC5) hPl ⟨rfl, hz, hC0.tr hC5⟩ _ (Nat.le_refl _) _ _ rfl (by rw [List.drop_length]; rfl)
