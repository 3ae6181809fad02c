theorem dMod_isEnd_0 : decode uMod_isEnd.2.1 0 = .ok (.iload_n 0, 1) := by decide +kernel
theorem dMod_isEnd_1 : decode uMod_isEnd.2.1 1 = .ok (.ifCond .eq 8, 3) := by decide +kernel
theorem dMod_isEnd_4 : decode uMod_isEnd.2.1 4 = .ok (.iload_n 0, 1) := by decide +kernel
theorem dMod_isEnd_5 : decode uMod_isEnd.2.1 5 = .ok (.iconst 1, 1) := by decide +kernel
theorem dMod_isEnd_6 : decode uMod_isEnd.2.1 6 = .ok (.if_icmp .ne 7, 3) := by decide +kernel
theorem dMod_isEnd_9 : decode uMod_isEnd.2.1 9 = .ok (.iconst 1, 1) := by decide +kernel
theorem dMod_isEnd_10 : decode uMod_isEnd.2.1 10 = .ok (.goto 4, 3) := by decide +kernel
theorem dMod_isEnd_13 : decode uMod_isEnd.2.1 13 = .ok (.iconst 0, 1) := by decide +kernel
theorem dMod_isEnd_14 : decode uMod_isEnd.2.1 14 = .ok (.ireturn, 1) := by decide +kernel
theorem dMod_isStream_0 : decode uMod_isStream.2.1 0 = .ok (.iload_n 0, 1) := by decide +kernel
theorem dMod_isStream_1 : decode uMod_isStream.2.1 1 = .ok (.iconst 1, 1) := by decide +kernel
theorem dMod_isStream_2 : decode uMod_isStream.2.1 2 = .ok (.if_icmp .lt 20, 3) := by decide +kernel
theorem dMod_isStream_5 : decode uMod_isStream.2.1 5 = .ok (.iload_n 0, 1) := by decide +kernel
theorem dMod_isStream_6 : decode uMod_isStream.2.1 6 = .ok (.bipush 23, 2) := by decide +kernel
theorem dMod_isStream_8 : decode uMod_isStream.2.1 8 = .ok (.if_icmp .gt 14, 3) := by decide +kernel
theorem dMod_isStream_11 : decode uMod_isStream.2.1 11 = .ok (.iload_n 0, 1) := by decide +kernel
theorem dMod_isStream_12 : decode uMod_isStream.2.1 12 = .ok (.iconst 1, 1) := by decide +kernel
theorem dMod_isStream_13 : decode uMod_isStream.2.1 13 = .ok (.iand, 1) := by decide +kernel
theorem dMod_isStream_14 : decode uMod_isStream.2.1 14 = .ok (.iconst 1, 1) := by decide +kernel
theorem dMod_isStream_15 : decode uMod_isStream.2.1 15 = .ok (.if_icmp .ne 7, 3) := by decide +kernel
theorem dMod_isStream_18 : decode uMod_isStream.2.1 18 = .ok (.iconst 1, 1) := by decide +kernel
theorem dMod_isStream_19 : decode uMod_isStream.2.1 19 = .ok (.goto 4, 3) := by decide +kernel
theorem dMod_isStream_22 : decode uMod_isStream.2.1 22 = .ok (.iconst 0, 1) := by decide +kernel
theorem dMod_isStream_23 : decode uMod_isStream.2.1 23 = .ok (.ireturn, 1) := by decide +kernel
theorem dMod_at_0 : decode uMod_at.2.1 0 = .ok (.bipush 12, 2) := by decide +kernel
theorem dMod_at_2 : decode uMod_at.2.1 2 = .ok (.iload_n 0, 1) := by decide +kernel
theorem dMod_at_3 : decode uMod_at.2.1 3 = .ok (.imul, 1) := by decide +kernel
theorem dMod_at_4 : decode uMod_at.2.1 4 = .ok (.iload_n 1, 1) := by decide +kernel
theorem dMod_at_5 : decode uMod_at.2.1 5 = .ok (.iconst 2, 1) := by decide +kernel
theorem dMod_at_6 : decode uMod_at.2.1 6 = .ok (.idiv, 1) := by decide +kernel
theorem dMod_at_7 : decode uMod_at.2.1 7 = .ok (.iadd, 1) := by decide +kernel
theorem dMod_at_8 : decode uMod_at.2.1 8 = .ok (.ireturn, 1) := by decide +kernel
theorem dMod_up_0 : decode uMod_up.2.1 0 = .ok (.iload_n 1, 1) := by decide +kernel
theorem dMod_up_1 : decode uMod_up.2.1 1 = .ok (.invokestatic 171, 3) := by decide +kernel
theorem dMod_up_4 : decode uMod_up.2.1 4 = .ok (.ifCond .eq 16, 3) := by decide +kernel
theorem dMod_up_7 : decode uMod_up.2.1 7 = .ok (.aload_n 0, 1) := by decide +kernel
theorem dMod_up_8 : decode uMod_up.2.1 8 = .ok (.getfield 7, 3) := by decide +kernel
theorem dMod_up_11 : decode uMod_up.2.1 11 = .ok (.iload_n 1, 1) := by decide +kernel
theorem dMod_up_12 : decode uMod_up.2.1 12 = .ok (.iaload, 1) := by decide +kernel
theorem dMod_up_13 : decode uMod_up.2.1 13 = .ok (.ifCond .ne 7, 3) := by decide +kernel
theorem dMod_up_16 : decode uMod_up.2.1 16 = .ok (.iconst 1, 1) := by decide +kernel
theorem dMod_up_17 : decode uMod_up.2.1 17 = .ok (.goto 4, 3) := by decide +kernel
theorem dMod_up_20 : decode uMod_up.2.1 20 = .ok (.iconst 0, 1) := by decide +kernel
theorem dMod_up_21 : decode uMod_up.2.1 21 = .ok (.ireturn, 1) := by decide +kernel
theorem dMod_stateAt_0 : decode uMod_stateAt.2.1 0 = .ok (.aload_n 0, 1) := by decide +kernel
theorem dMod_stateAt_1 : decode uMod_stateAt.2.1 1 = .ok (.getfield 51, 3) := by decide +kernel
theorem dMod_stateAt_4 : decode uMod_stateAt.2.1 4 = .ok (.iload_n 1, 1) := by decide +kernel
theorem dMod_stateAt_5 : decode uMod_stateAt.2.1 5 = .ok (.baload, 1) := by decide +kernel
theorem dMod_stateAt_6 : decode uMod_stateAt.2.1 6 = .ok (.ifCond .ne 5, 3) := by decide +kernel
theorem dMod_stateAt_9 : decode uMod_stateAt.2.1 9 = .ok (.iconst 0, 1) := by decide +kernel
theorem dMod_stateAt_10 : decode uMod_stateAt.2.1 10 = .ok (.ireturn, 1) := by decide +kernel
theorem dMod_stateAt_11 : decode uMod_stateAt.2.1 11 = .ok (.aload_n 0, 1) := by decide +kernel
theorem dMod_stateAt_12 : decode uMod_stateAt.2.1 12 = .ok (.getfield 54, 3) := by decide +kernel
theorem dMod_stateAt_15 : decode uMod_stateAt.2.1 15 = .ok (.iload_n 1, 1) := by decide +kernel
theorem dMod_stateAt_16 : decode uMod_stateAt.2.1 16 = .ok (.baload, 1) := by decide +kernel
theorem dMod_stateAt_17 : decode uMod_stateAt.2.1 17 = .ok (.ifCond .ne 21, 3) := by decide +kernel
theorem dMod_stateAt_20 : decode uMod_stateAt.2.1 20 = .ok (.aload_n 0, 1) := by decide +kernel
theorem dMod_stateAt_21 : decode uMod_stateAt.2.1 21 = .ok (.getfield 57, 3) := by decide +kernel
theorem dMod_stateAt_24 : decode uMod_stateAt.2.1 24 = .ok (.iload_n 1, 1) := by decide +kernel
theorem dMod_stateAt_25 : decode uMod_stateAt.2.1 25 = .ok (.baload, 1) := by decide +kernel
theorem dMod_stateAt_26 : decode uMod_stateAt.2.1 26 = .ok (.ifCond .eq 14, 3) := by decide +kernel
theorem dMod_stateAt_29 : decode uMod_stateAt.2.1 29 = .ok (.aload_n 0, 1) := by decide +kernel
theorem dMod_stateAt_30 : decode uMod_stateAt.2.1 30 = .ok (.getfield 60, 3) := by decide +kernel
theorem dMod_stateAt_33 : decode uMod_stateAt.2.1 33 = .ok (.iload_n 1, 1) := by decide +kernel
theorem dMod_stateAt_34 : decode uMod_stateAt.2.1 34 = .ok (.baload, 1) := by decide +kernel
theorem dMod_stateAt_35 : decode uMod_stateAt.2.1 35 = .ok (.ifCond .eq 5, 3) := by decide +kernel
theorem dMod_stateAt_38 : decode uMod_stateAt.2.1 38 = .ok (.iconst 4, 1) := by decide +kernel
theorem dMod_stateAt_39 : decode uMod_stateAt.2.1 39 = .ok (.ireturn, 1) := by decide +kernel
theorem dMod_stateAt_40 : decode uMod_stateAt.2.1 40 = .ok (.aload_n 0, 1) := by decide +kernel
theorem dMod_stateAt_41 : decode uMod_stateAt.2.1 41 = .ok (.getfield 57, 3) := by decide +kernel
theorem dMod_stateAt_44 : decode uMod_stateAt.2.1 44 = .ok (.iload_n 1, 1) := by decide +kernel
theorem dMod_stateAt_45 : decode uMod_stateAt.2.1 45 = .ok (.baload, 1) := by decide +kernel
theorem dMod_stateAt_46 : decode uMod_stateAt.2.1 46 = .ok (.ifCond .eq 7, 3) := by decide +kernel
theorem dMod_stateAt_49 : decode uMod_stateAt.2.1 49 = .ok (.iconst 2, 1) := by decide +kernel
theorem dMod_stateAt_50 : decode uMod_stateAt.2.1 50 = .ok (.goto 17, 3) := by decide +kernel
theorem dMod_stateAt_53 : decode uMod_stateAt.2.1 53 = .ok (.aload_n 0, 1) := by decide +kernel
theorem dMod_stateAt_54 : decode uMod_stateAt.2.1 54 = .ok (.getfield 60, 3) := by decide +kernel
theorem dMod_stateAt_57 : decode uMod_stateAt.2.1 57 = .ok (.iload_n 1, 1) := by decide +kernel
theorem dMod_stateAt_58 : decode uMod_stateAt.2.1 58 = .ok (.baload, 1) := by decide +kernel
theorem dMod_stateAt_59 : decode uMod_stateAt.2.1 59 = .ok (.ifCond .eq 7, 3) := by decide +kernel
theorem dMod_stateAt_62 : decode uMod_stateAt.2.1 62 = .ok (.iconst 3, 1) := by decide +kernel
theorem dMod_stateAt_63 : decode uMod_stateAt.2.1 63 = .ok (.goto 4, 3) := by decide +kernel
theorem dMod_stateAt_66 : decode uMod_stateAt.2.1 66 = .ok (.iconst 1, 1) := by decide +kernel
theorem dMod_stateAt_67 : decode uMod_stateAt.2.1 67 = .ok (.ireturn, 1) := by decide +kernel
theorem dMod_active_0 : decode uMod_active.2.1 0 = .ok (.aload_n 0, 1) := by decide +kernel
theorem dMod_active_1 : decode uMod_active.2.1 1 = .ok (.iload_n 1, 1) := by decide +kernel
theorem dMod_active_2 : decode uMod_active.2.1 2 = .ok (.invokevirtual 175, 3) := by decide +kernel
theorem dMod_active_5 : decode uMod_active.2.1 5 = .ok (.istore_n 2, 1) := by decide +kernel
theorem dMod_active_6 : decode uMod_active.2.1 6 = .ok (.iload_n 2, 1) := by decide +kernel
theorem dMod_active_7 : decode uMod_active.2.1 7 = .ok (.iconst 1, 1) := by decide +kernel
theorem dMod_active_8 : decode uMod_active.2.1 8 = .ok (.if_icmp .lt 12, 3) := by decide +kernel
theorem dMod_active_11 : decode uMod_active.2.1 11 = .ok (.iload_n 2, 1) := by decide +kernel
theorem dMod_active_12 : decode uMod_active.2.1 12 = .ok (.iconst 3, 1) := by decide +kernel
theorem dMod_active_13 : decode uMod_active.2.1 13 = .ok (.if_icmp .gt 7, 3) := by decide +kernel
theorem dMod_active_16 : decode uMod_active.2.1 16 = .ok (.iconst 1, 1) := by decide +kernel
theorem dMod_active_17 : decode uMod_active.2.1 17 = .ok (.goto 4, 3) := by decide +kernel
theorem dMod_active_20 : decode uMod_active.2.1 20 = .ok (.iconst 0, 1) := by decide +kernel
theorem dMod_active_21 : decode uMod_active.2.1 21 = .ok (.ireturn, 1) := by decide +kernel
theorem dMod_activeAt_0 : decode uMod_activeAt.2.1 0 = .ok (.iconst 0, 1) := by decide +kernel
theorem dMod_activeAt_1 : decode uMod_activeAt.2.1 1 = .ok (.istore_n 2, 1) := by decide +kernel
theorem dMod_activeAt_2 : decode uMod_activeAt.2.1 2 = .ok (.iconst 0, 1) := by decide +kernel
theorem dMod_activeAt_3 : decode uMod_activeAt.2.1 3 = .ok (.istore_n 3, 1) := by decide +kernel
theorem dMod_activeAt_4 : decode uMod_activeAt.2.1 4 = .ok (.iload_n 3, 1) := by decide +kernel
theorem dMod_activeAt_5 : decode uMod_activeAt.2.1 5 = .ok (.bipush 12, 2) := by decide +kernel
theorem dMod_activeAt_7 : decode uMod_activeAt.2.1 7 = .ok (.if_icmp .ge 30, 3) := by decide +kernel
theorem dMod_activeAt_10 : decode uMod_activeAt.2.1 10 = .ok (.aload_n 0, 1) := by decide +kernel
theorem dMod_activeAt_11 : decode uMod_activeAt.2.1 11 = .ok (.bipush 12, 2) := by decide +kernel
theorem dMod_activeAt_13 : decode uMod_activeAt.2.1 13 = .ok (.iload_n 1, 1) := by decide +kernel
theorem dMod_activeAt_14 : decode uMod_activeAt.2.1 14 = .ok (.imul, 1) := by decide +kernel
theorem dMod_activeAt_15 : decode uMod_activeAt.2.1 15 = .ok (.iload_n 3, 1) := by decide +kernel
theorem dMod_activeAt_16 : decode uMod_activeAt.2.1 16 = .ok (.iadd, 1) := by decide +kernel
theorem dMod_activeAt_17 : decode uMod_activeAt.2.1 17 = .ok (.invokevirtual 179, 3) := by decide +kernel
theorem dMod_activeAt_20 : decode uMod_activeAt.2.1 20 = .ok (.ifCond .eq 9, 3) := by decide +kernel
theorem dMod_activeAt_23 : decode uMod_activeAt.2.1 23 = .ok (.iload_n 2, 1) := by decide +kernel
theorem dMod_activeAt_24 : decode uMod_activeAt.2.1 24 = .ok (.iconst 1, 1) := by decide +kernel
theorem dMod_activeAt_25 : decode uMod_activeAt.2.1 25 = .ok (.iadd, 1) := by decide +kernel
theorem dMod_activeAt_26 : decode uMod_activeAt.2.1 26 = .ok (.goto 4, 3) := by decide +kernel
theorem dMod_activeAt_29 : decode uMod_activeAt.2.1 29 = .ok (.iload_n 2, 1) := by decide +kernel
theorem dMod_activeAt_30 : decode uMod_activeAt.2.1 30 = .ok (.istore_n 2, 1) := by decide +kernel
theorem dMod_activeAt_31 : decode uMod_activeAt.2.1 31 = .ok (.iinc 3 1, 3) := by decide +kernel
theorem dMod_activeAt_34 : decode uMod_activeAt.2.1 34 = .ok (.goto (-30), 3) := by decide +kernel
theorem dMod_activeAt_37 : decode uMod_activeAt.2.1 37 = .ok (.iload_n 2, 1) := by decide +kernel
theorem dMod_activeAt_38 : decode uMod_activeAt.2.1 38 = .ok (.ireturn, 1) := by decide +kernel
theorem dMod_sendWindow_0 : decode uMod_sendWindow.2.1 0 = .ok (.aload_n 0, 1) := by decide +kernel
theorem dMod_sendWindow_1 : decode uMod_sendWindow.2.1 1 = .ok (.getfield 120, 3) := by decide +kernel
theorem dMod_sendWindow_4 : decode uMod_sendWindow.2.1 4 = .ok (.iconst 3, 1) := by decide +kernel
theorem dMod_sendWindow_5 : decode uMod_sendWindow.2.1 5 = .ok (.iload_n 1, 1) := by decide +kernel
theorem dMod_sendWindow_6 : decode uMod_sendWindow.2.1 6 = .ok (.bipush 12, 2) := by decide +kernel
theorem dMod_sendWindow_8 : decode uMod_sendWindow.2.1 8 = .ok (.idiv, 1) := by decide +kernel
theorem dMod_sendWindow_9 : decode uMod_sendWindow.2.1 9 = .ok (.imul, 1) := by decide +kernel
theorem dMod_sendWindow_10 : decode uMod_sendWindow.2.1 10 = .ok (.iconst 2, 1) := by decide +kernel
theorem dMod_sendWindow_11 : decode uMod_sendWindow.2.1 11 = .ok (.iadd, 1) := by decide +kernel
theorem dMod_sendWindow_12 : decode uMod_sendWindow.2.1 12 = .ok (.iaload, 1) := by decide +kernel
theorem dMod_sendWindow_13 : decode uMod_sendWindow.2.1 13 = .ok (.aload_n 0, 1) := by decide +kernel
theorem dMod_sendWindow_14 : decode uMod_sendWindow.2.1 14 = .ok (.getfield 75, 3) := by decide +kernel
theorem dMod_sendWindow_17 : decode uMod_sendWindow.2.1 17 = .ok (.iload_n 1, 1) := by decide +kernel
theorem dMod_sendWindow_18 : decode uMod_sendWindow.2.1 18 = .ok (.iaload, 1) := by decide +kernel
theorem dMod_sendWindow_19 : decode uMod_sendWindow.2.1 19 = .ok (.iadd, 1) := by decide +kernel
theorem dMod_sendWindow_20 : decode uMod_sendWindow.2.1 20 = .ok (.aload_n 0, 1) := by decide +kernel
theorem dMod_sendWindow_21 : decode uMod_sendWindow.2.1 21 = .ok (.getfield 72, 3) := by decide +kernel
theorem dMod_sendWindow_24 : decode uMod_sendWindow.2.1 24 = .ok (.iload_n 1, 1) := by decide +kernel
theorem dMod_sendWindow_25 : decode uMod_sendWindow.2.1 25 = .ok (.iaload, 1) := by decide +kernel
theorem dMod_sendWindow_26 : decode uMod_sendWindow.2.1 26 = .ok (.isub, 1) := by decide +kernel
theorem dMod_sendWindow_27 : decode uMod_sendWindow.2.1 27 = .ok (.ireturn, 1) := by decide +kernel
theorem dMod_receiveWindow_0 : decode uMod_receiveWindow.2.1 0 = .ok (.aload_n 0, 1) := by decide +kernel
theorem dMod_receiveWindow_1 : decode uMod_receiveWindow.2.1 1 = .ok (.getfield 117, 3) := by decide +kernel
theorem dMod_receiveWindow_4 : decode uMod_receiveWindow.2.1 4 = .ok (.iconst 3, 1) := by decide +kernel
theorem dMod_receiveWindow_5 : decode uMod_receiveWindow.2.1 5 = .ok (.iload_n 1, 1) := by decide +kernel
theorem dMod_receiveWindow_6 : decode uMod_receiveWindow.2.1 6 = .ok (.bipush 12, 2) := by decide +kernel
theorem dMod_receiveWindow_8 : decode uMod_receiveWindow.2.1 8 = .ok (.idiv, 1) := by decide +kernel
theorem dMod_receiveWindow_9 : decode uMod_receiveWindow.2.1 9 = .ok (.imul, 1) := by decide +kernel
theorem dMod_receiveWindow_10 : decode uMod_receiveWindow.2.1 10 = .ok (.iconst 2, 1) := by decide +kernel
theorem dMod_receiveWindow_11 : decode uMod_receiveWindow.2.1 11 = .ok (.iadd, 1) := by decide +kernel
theorem dMod_receiveWindow_12 : decode uMod_receiveWindow.2.1 12 = .ok (.iaload, 1) := by decide +kernel
theorem dMod_receiveWindow_13 : decode uMod_receiveWindow.2.1 13 = .ok (.aload_n 0, 1) := by decide +kernel
theorem dMod_receiveWindow_14 : decode uMod_receiveWindow.2.1 14 = .ok (.getfield 81, 3) := by decide +kernel
theorem dMod_receiveWindow_17 : decode uMod_receiveWindow.2.1 17 = .ok (.iload_n 1, 1) := by decide +kernel
theorem dMod_receiveWindow_18 : decode uMod_receiveWindow.2.1 18 = .ok (.iaload, 1) := by decide +kernel
theorem dMod_receiveWindow_19 : decode uMod_receiveWindow.2.1 19 = .ok (.iadd, 1) := by decide +kernel
theorem dMod_receiveWindow_20 : decode uMod_receiveWindow.2.1 20 = .ok (.aload_n 0, 1) := by decide +kernel
theorem dMod_receiveWindow_21 : decode uMod_receiveWindow.2.1 21 = .ok (.getfield 78, 3) := by decide +kernel
theorem dMod_receiveWindow_24 : decode uMod_receiveWindow.2.1 24 = .ok (.iload_n 1, 1) := by decide +kernel
theorem dMod_receiveWindow_25 : decode uMod_receiveWindow.2.1 25 = .ok (.iaload, 1) := by decide +kernel
theorem dMod_receiveWindow_26 : decode uMod_receiveWindow.2.1 26 = .ok (.isub, 1) := by decide +kernel
theorem dMod_receiveWindow_27 : decode uMod_receiveWindow.2.1 27 = .ok (.ireturn, 1) := by decide +kernel
theorem dMod_linkSend_0 : decode uMod_linkSend.2.1 0 = .ok (.bipush 40, 2) := by decide +kernel
theorem dMod_linkSend_2 : decode uMod_linkSend.2.1 2 = .ok (.aload_n 0, 1) := by decide +kernel
theorem dMod_linkSend_3 : decode uMod_linkSend.2.1 3 = .ok (.getfield 111, 3) := by decide +kernel
theorem dMod_linkSend_6 : decode uMod_linkSend.2.1 6 = .ok (.iload_n 1, 1) := by decide +kernel
theorem dMod_linkSend_7 : decode uMod_linkSend.2.1 7 = .ok (.iaload, 1) := by decide +kernel
theorem dMod_linkSend_8 : decode uMod_linkSend.2.1 8 = .ok (.iadd, 1) := by decide +kernel
theorem dMod_linkSend_9 : decode uMod_linkSend.2.1 9 = .ok (.aload_n 0, 1) := by decide +kernel
theorem dMod_linkSend_10 : decode uMod_linkSend.2.1 10 = .ok (.getfield 108, 3) := by decide +kernel
theorem dMod_linkSend_13 : decode uMod_linkSend.2.1 13 = .ok (.iload_n 1, 1) := by decide +kernel
theorem dMod_linkSend_14 : decode uMod_linkSend.2.1 14 = .ok (.iaload, 1) := by decide +kernel
theorem dMod_linkSend_15 : decode uMod_linkSend.2.1 15 = .ok (.isub, 1) := by decide +kernel
theorem dMod_linkSend_16 : decode uMod_linkSend.2.1 16 = .ok (.ireturn, 1) := by decide +kernel
theorem dMod_linkReceive_0 : decode uMod_linkReceive.2.1 0 = .ok (.bipush 40, 2) := by decide +kernel
theorem dMod_linkReceive_2 : decode uMod_linkReceive.2.1 2 = .ok (.aload_n 0, 1) := by decide +kernel
theorem dMod_linkReceive_3 : decode uMod_linkReceive.2.1 3 = .ok (.getfield 99, 3) := by decide +kernel
theorem dMod_linkReceive_6 : decode uMod_linkReceive.2.1 6 = .ok (.iload_n 1, 1) := by decide +kernel
theorem dMod_linkReceive_7 : decode uMod_linkReceive.2.1 7 = .ok (.iaload, 1) := by decide +kernel
theorem dMod_linkReceive_8 : decode uMod_linkReceive.2.1 8 = .ok (.isub, 1) := by decide +kernel
theorem dMod_linkReceive_9 : decode uMod_linkReceive.2.1 9 = .ok (.ireturn, 1) := by decide +kernel
theorem dMod_push_0 : decode uMod_push.2.1 0 = .ok (.bipush 48, 2) := by decide +kernel
theorem dMod_push_2 : decode uMod_push.2.1 2 = .ok (.iload_n 1, 1) := by decide +kernel
theorem dMod_push_3 : decode uMod_push.2.1 3 = .ok (.imul, 1) := by decide +kernel
theorem dMod_push_4 : decode uMod_push.2.1 4 = .ok (.aload_n 0, 1) := by decide +kernel
theorem dMod_push_5 : decode uMod_push.2.1 5 = .ok (.getfield 13, 3) := by decide +kernel
theorem dMod_push_8 : decode uMod_push.2.1 8 = .ok (.iload_n 1, 1) := by decide +kernel
theorem dMod_push_9 : decode uMod_push.2.1 9 = .ok (.iaload, 1) := by decide +kernel
theorem dMod_push_10 : decode uMod_push.2.1 10 = .ok (.aload_n 0, 1) := by decide +kernel
theorem dMod_push_11 : decode uMod_push.2.1 11 = .ok (.getfield 16, 3) := by decide +kernel
theorem dMod_push_14 : decode uMod_push.2.1 14 = .ok (.iload_n 1, 1) := by decide +kernel
theorem dMod_push_15 : decode uMod_push.2.1 15 = .ok (.iaload, 1) := by decide +kernel
theorem dMod_push_16 : decode uMod_push.2.1 16 = .ok (.iadd, 1) := by decide +kernel
theorem dMod_push_17 : decode uMod_push.2.1 17 = .ok (.bipush 48, 2) := by decide +kernel
theorem dMod_push_19 : decode uMod_push.2.1 19 = .ok (.irem, 1) := by decide +kernel
theorem dMod_push_20 : decode uMod_push.2.1 20 = .ok (.iadd, 1) := by decide +kernel
theorem dMod_push_21 : decode uMod_push.2.1 21 = .ok (.istore 6, 2) := by decide +kernel
theorem dMod_push_23 : decode uMod_push.2.1 23 = .ok (.aload_n 0, 1) := by decide +kernel
theorem dMod_push_24 : decode uMod_push.2.1 24 = .ok (.getfield 19, 3) := by decide +kernel
theorem dMod_push_27 : decode uMod_push.2.1 27 = .ok (.iload 6, 2) := by decide +kernel
theorem dMod_push_29 : decode uMod_push.2.1 29 = .ok (.iload_n 2, 1) := by decide +kernel
theorem dMod_push_30 : decode uMod_push.2.1 30 = .ok (.iastore, 1) := by decide +kernel
theorem dMod_push_31 : decode uMod_push.2.1 31 = .ok (.aload_n 0, 1) := by decide +kernel
theorem dMod_push_32 : decode uMod_push.2.1 32 = .ok (.getfield 22, 3) := by decide +kernel
theorem dMod_push_35 : decode uMod_push.2.1 35 = .ok (.iload 6, 2) := by decide +kernel
theorem dMod_push_37 : decode uMod_push.2.1 37 = .ok (.iload_n 3, 1) := by decide +kernel
theorem dMod_push_38 : decode uMod_push.2.1 38 = .ok (.iastore, 1) := by decide +kernel
theorem dMod_push_39 : decode uMod_push.2.1 39 = .ok (.aload_n 0, 1) := by decide +kernel
theorem dMod_push_40 : decode uMod_push.2.1 40 = .ok (.getfield 25, 3) := by decide +kernel
theorem dMod_push_43 : decode uMod_push.2.1 43 = .ok (.iload 6, 2) := by decide +kernel
theorem dMod_push_45 : decode uMod_push.2.1 45 = .ok (.iload 4, 2) := by decide +kernel
theorem dMod_push_47 : decode uMod_push.2.1 47 = .ok (.iastore, 1) := by decide +kernel
theorem dMod_push_48 : decode uMod_push.2.1 48 = .ok (.aload_n 0, 1) := by decide +kernel
theorem dMod_push_49 : decode uMod_push.2.1 49 = .ok (.getfield 28, 3) := by decide +kernel
theorem dMod_push_52 : decode uMod_push.2.1 52 = .ok (.iload 6, 2) := by decide +kernel
theorem dMod_push_54 : decode uMod_push.2.1 54 = .ok (.iload 5, 2) := by decide +kernel
theorem dMod_push_56 : decode uMod_push.2.1 56 = .ok (.bastore, 1) := by decide +kernel
theorem dMod_push_57 : decode uMod_push.2.1 57 = .ok (.aload_n 0, 1) := by decide +kernel
theorem dMod_push_58 : decode uMod_push.2.1 58 = .ok (.getfield 32, 3) := by decide +kernel
theorem dMod_push_61 : decode uMod_push.2.1 61 = .ok (.iload 6, 2) := by decide +kernel
theorem dMod_push_63 : decode uMod_push.2.1 63 = .ok (.iconst 0, 1) := by decide +kernel
theorem dMod_push_64 : decode uMod_push.2.1 64 = .ok (.iastore, 1) := by decide +kernel
theorem dMod_push_65 : decode uMod_push.2.1 65 = .ok (.aload_n 0, 1) := by decide +kernel
theorem dMod_push_66 : decode uMod_push.2.1 66 = .ok (.getfield 35, 3) := by decide +kernel
theorem dMod_push_69 : decode uMod_push.2.1 69 = .ok (.iload 6, 2) := by decide +kernel
theorem dMod_push_71 : decode uMod_push.2.1 71 = .ok (.lconst 0, 1) := by decide +kernel
theorem dMod_push_72 : decode uMod_push.2.1 72 = .ok (.lastore, 1) := by decide +kernel
theorem dMod_push_73 : decode uMod_push.2.1 73 = .ok (.aload_n 0, 1) := by decide +kernel
theorem dMod_push_74 : decode uMod_push.2.1 74 = .ok (.getfield 16, 3) := by decide +kernel
theorem dMod_push_77 : decode uMod_push.2.1 77 = .ok (.iload_n 1, 1) := by decide +kernel
theorem dMod_push_78 : decode uMod_push.2.1 78 = .ok (.aload_n 0, 1) := by decide +kernel
theorem dMod_push_79 : decode uMod_push.2.1 79 = .ok (.getfield 16, 3) := by decide +kernel
theorem dMod_push_82 : decode uMod_push.2.1 82 = .ok (.iload_n 1, 1) := by decide +kernel
theorem dMod_push_83 : decode uMod_push.2.1 83 = .ok (.iaload, 1) := by decide +kernel
theorem dMod_push_84 : decode uMod_push.2.1 84 = .ok (.iconst 1, 1) := by decide +kernel
theorem dMod_push_85 : decode uMod_push.2.1 85 = .ok (.iadd, 1) := by decide +kernel
theorem dMod_push_86 : decode uMod_push.2.1 86 = .ok (.iastore, 1) := by decide +kernel
theorem dMod_push_87 : decode uMod_push.2.1 87 = .ok (.iload 6, 2) := by decide +kernel
theorem dMod_push_89 : decode uMod_push.2.1 89 = .ok (.ireturn, 1) := by decide +kernel
theorem dMod_full_0 : decode uMod_full.2.1 0 = .ok (.aload_n 0, 1) := by decide +kernel
theorem dMod_full_1 : decode uMod_full.2.1 1 = .ok (.getfield 16, 3) := by decide +kernel
theorem dMod_full_4 : decode uMod_full.2.1 4 = .ok (.iconst 1, 1) := by decide +kernel
theorem dMod_full_5 : decode uMod_full.2.1 5 = .ok (.iload_n 1, 1) := by decide +kernel
theorem dMod_full_6 : decode uMod_full.2.1 6 = .ok (.isub, 1) := by decide +kernel
theorem dMod_full_7 : decode uMod_full.2.1 7 = .ok (.iaload, 1) := by decide +kernel
theorem dMod_full_8 : decode uMod_full.2.1 8 = .ok (.bipush 30, 2) := by decide +kernel
theorem dMod_full_10 : decode uMod_full.2.1 10 = .ok (.if_icmp .lt 7, 3) := by decide +kernel
theorem dMod_full_13 : decode uMod_full.2.1 13 = .ok (.iconst 1, 1) := by decide +kernel
theorem dMod_full_14 : decode uMod_full.2.1 14 = .ok (.goto 4, 3) := by decide +kernel
theorem dMod_full_17 : decode uMod_full.2.1 17 = .ok (.iconst 0, 1) := by decide +kernel
theorem dMod_full_18 : decode uMod_full.2.1 18 = .ok (.ireturn, 1) := by decide +kernel
theorem dMod_sizeOf_0 : decode uMod_sizeOf.2.1 0 = .ok (.iload_n 0, 1) := by decide +kernel
theorem dMod_sizeOf_1 : decode uMod_sizeOf.2.1 1 = .ok (.ifCond .lt 9, 3) := by decide +kernel
theorem dMod_sizeOf_4 : decode uMod_sizeOf.2.1 4 = .ok (.iload_n 0, 1) := by decide +kernel
theorem dMod_sizeOf_5 : decode uMod_sizeOf.2.1 5 = .ok (.ldc 205, 2) := by decide +kernel
theorem dMod_sizeOf_7 : decode uMod_sizeOf.2.1 7 = .ok (.if_icmp .le 8, 3) := by decide +kernel
theorem dMod_sizeOf_10 : decode uMod_sizeOf.2.1 10 = .ok (.bipush 37, 2) := by decide +kernel
theorem dMod_sizeOf_12 : decode uMod_sizeOf.2.1 12 = .ok (.goto 28, 3) := by decide +kernel
theorem dMod_sizeOf_15 : decode uMod_sizeOf.2.1 15 = .ok (.iload_n 0, 1) := by decide +kernel
theorem dMod_sizeOf_16 : decode uMod_sizeOf.2.1 16 = .ok (.ldc 206, 2) := by decide +kernel
theorem dMod_sizeOf_18 : decode uMod_sizeOf.2.1 18 = .ok (.if_icmp .le 8, 3) := by decide +kernel
theorem dMod_sizeOf_21 : decode uMod_sizeOf.2.1 21 = .ok (.bipush 36, 2) := by decide +kernel
theorem dMod_sizeOf_23 : decode uMod_sizeOf.2.1 23 = .ok (.goto 17, 3) := by decide +kernel
theorem dMod_sizeOf_26 : decode uMod_sizeOf.2.1 26 = .ok (.iload_n 0, 1) := by decide +kernel
theorem dMod_sizeOf_27 : decode uMod_sizeOf.2.1 27 = .ok (.sipush 255, 3) := by decide +kernel
theorem dMod_sizeOf_30 : decode uMod_sizeOf.2.1 30 = .ok (.if_icmp .le 8, 3) := by decide +kernel
theorem dMod_sizeOf_33 : decode uMod_sizeOf.2.1 33 = .ok (.bipush 35, 2) := by decide +kernel
theorem dMod_sizeOf_35 : decode uMod_sizeOf.2.1 35 = .ok (.goto 5, 3) := by decide +kernel
theorem dMod_sizeOf_38 : decode uMod_sizeOf.2.1 38 = .ok (.bipush 34, 2) := by decide +kernel
theorem dMod_sizeOf_40 : decode uMod_sizeOf.2.1 40 = .ok (.ireturn, 1) := by decide +kernel
theorem cs_Mod_171 : cSt "InterleavedLinkModel" 171 uMod_isEnd 1 := ⟨⟨Or.inl (gW_in 1035 (by decide +kernel) rfl), (gW_in 74 (by decide +kernel) rfl), (gW_in 1037 (by decide +kernel) rfl), ⟨by decide, by decide⟩, by decide +kernel⟩, (gW_in 1036 (by decide +kernel) rfl)⟩
theorem fs_Mod_7 : fS "InterleavedLinkModel" 7 10 0 := ⟨"InterleavedLinkModel", T_Mod, 56, cf_Mod, by decide, Or.inl (gW_in 861 (by decide +kernel) rfl)⟩
theorem fs_Mod_51 : fS "InterleavedLinkModel" 51 10 13 := ⟨"InterleavedLinkModel", T_Mod, 56, cf_Mod, by decide, Or.inl (gW_in 874 (by decide +kernel) rfl)⟩
theorem fs_Mod_54 : fS "InterleavedLinkModel" 54 10 14 := ⟨"InterleavedLinkModel", T_Mod, 56, cf_Mod, by decide, Or.inl (gW_in 875 (by decide +kernel) rfl)⟩
theorem fs_Mod_57 : fS "InterleavedLinkModel" 57 10 15 := ⟨"InterleavedLinkModel", T_Mod, 56, cf_Mod, by decide, Or.inl (gW_in 876 (by decide +kernel) rfl)⟩
theorem fs_Mod_60 : fS "InterleavedLinkModel" 60 10 16 := ⟨"InterleavedLinkModel", T_Mod, 56, cf_Mod, by decide, Or.inl (gW_in 877 (by decide +kernel) rfl)⟩
theorem cs_Mod_175 : cV "InterleavedLinkModel" 175 uMod_stateAt 1 := ⟨⟨Or.inl (gW_in 1133 (by decide +kernel) rfl), (gW_in 74 (by decide +kernel) rfl), (gW_in 1136 (by decide +kernel) rfl), ⟨by decide, by decide⟩, by decide +kernel⟩, (gW_in 1135 (by decide +kernel) rfl), (gW_in 47 (by decide +kernel) rfl)⟩
theorem cs_Mod_179 : cV "InterleavedLinkModel" 179 uMod_active 1 := ⟨⟨Or.inl (gW_in 1129 (by decide +kernel) rfl), (gW_in 74 (by decide +kernel) rfl), (gW_in 1132 (by decide +kernel) rfl), ⟨by decide, by decide⟩, by decide +kernel⟩, (gW_in 1131 (by decide +kernel) rfl), (gW_in 46 (by decide +kernel) rfl)⟩
theorem fs_Mod_75 : fS "InterleavedLinkModel" 75 10 21 := ⟨"InterleavedLinkModel", T_Mod, 56, cf_Mod, by decide, Or.inl (gW_in 882 (by decide +kernel) rfl)⟩
theorem fs_Mod_72 : fS "InterleavedLinkModel" 72 10 20 := ⟨"InterleavedLinkModel", T_Mod, 56, cf_Mod, by decide, Or.inl (gW_in 881 (by decide +kernel) rfl)⟩
theorem fs_Mod_81 : fS "InterleavedLinkModel" 81 10 23 := ⟨"InterleavedLinkModel", T_Mod, 56, cf_Mod, by decide, Or.inl (gW_in 884 (by decide +kernel) rfl)⟩
theorem fs_Mod_78 : fS "InterleavedLinkModel" 78 10 22 := ⟨"InterleavedLinkModel", T_Mod, 56, cf_Mod, by decide, Or.inl (gW_in 883 (by decide +kernel) rfl)⟩
theorem fs_Mod_111 : fS "InterleavedLinkModel" 111 10 33 := ⟨"InterleavedLinkModel", T_Mod, 56, cf_Mod, by decide, Or.inl (gW_in 894 (by decide +kernel) rfl)⟩
theorem fs_Mod_108 : fS "InterleavedLinkModel" 108 10 32 := ⟨"InterleavedLinkModel", T_Mod, 56, cf_Mod, by decide, Or.inl (gW_in 893 (by decide +kernel) rfl)⟩
theorem fs_Mod_99 : fS "InterleavedLinkModel" 99 10 29 := ⟨"InterleavedLinkModel", T_Mod, 56, cf_Mod, by decide, Or.inl (gW_in 890 (by decide +kernel) rfl)⟩
theorem fs_Mod_13 : fS "InterleavedLinkModel" 13 10 1 := ⟨"InterleavedLinkModel", T_Mod, 56, cf_Mod, by decide, Or.inl (gW_in 862 (by decide +kernel) rfl)⟩
theorem fs_Mod_16 : fS "InterleavedLinkModel" 16 10 2 := ⟨"InterleavedLinkModel", T_Mod, 56, cf_Mod, by decide, Or.inl (gW_in 863 (by decide +kernel) rfl)⟩
theorem fs_Mod_19 : fS "InterleavedLinkModel" 19 10 3 := ⟨"InterleavedLinkModel", T_Mod, 56, cf_Mod, by decide, Or.inl (gW_in 864 (by decide +kernel) rfl)⟩
theorem fs_Mod_22 : fS "InterleavedLinkModel" 22 10 4 := ⟨"InterleavedLinkModel", T_Mod, 56, cf_Mod, by decide, Or.inl (gW_in 865 (by decide +kernel) rfl)⟩
theorem fs_Mod_25 : fS "InterleavedLinkModel" 25 10 5 := ⟨"InterleavedLinkModel", T_Mod, 56, cf_Mod, by decide, Or.inl (gW_in 866 (by decide +kernel) rfl)⟩
theorem fs_Mod_28 : fS "InterleavedLinkModel" 28 10 6 := ⟨"InterleavedLinkModel", T_Mod, 56, cf_Mod, by decide, Or.inl (gW_in 867 (by decide +kernel) rfl)⟩
theorem fs_Mod_32 : fS "InterleavedLinkModel" 32 10 7 := ⟨"InterleavedLinkModel", T_Mod, 56, cf_Mod, by decide, Or.inl (gW_in 868 (by decide +kernel) rfl)⟩
theorem fs_Mod_35 : fS "InterleavedLinkModel" 35 10 8 := ⟨"InterleavedLinkModel", T_Mod, 56, cf_Mod, by decide, Or.inl (gW_in 869 (by decide +kernel) rfl)⟩
theorem lc_Mod_205 : Cond.constant "InterleavedLinkModel" 205 16777215 ∈ gW := gW_in 1103 (by decide +kernel) rfl
theorem lc_Mod_206 : Cond.constant "InterleavedLinkModel" 206 65535 ∈ gW := gW_in 1104 (by decide +kernel) rfl
/-! ===== the reference: small reads ===== -/
abbrev Rdowns (M : mM) (i : Nat) : Int32 := mI M 170 i
abbrev Rhead (M : mM) (i : Nat) : Int32 := mI M 171 i
abbrev Rcount (M : mM) (i : Nat) : Int32 := mI M 172 i
abbrev Rkinds (M : mM) (i : Nat) : Int32 := mI M 173 i
abbrev Rstreams (M : mM) (i : Nat) : Int32 := mI M 174 i
abbrev Ramounts (M : mM) (i : Nat) : Int32 := mI M 175 i
abbrev Rflags (M : mM) (i : Nat) : Int32 := mI M 176 i
abbrev Rsettings (M : mM) (i : Nat) : Int32 := mI M 177 i
abbrev Rloads (M : mM) (i : Nat) : Int64 := mL M 178 i
abbrev RstepKind (M : mM) (i : Nat) : Int32 := mI M 179 i
abbrev RstepIndex (M : mM) (i : Nat) : Int32 := mI M 180 i
abbrev RstepName (M : mM) (i : Nat) : Int32 := mI M 181 i
abbrev RstepValue (M : mM) (i : Nat) : Int32 := mI M 182 i
abbrev Ropened (M : mM) (i : Nat) : Int32 := mI M 183 i
abbrev Rcut (M : mM) (i : Nat) : Int32 := mI M 184 i
abbrev RsentEnd (M : mM) (i : Nat) : Int32 := mI M 185 i
abbrev RgotEnd (M : mM) (i : Nat) : Int32 := mI M 186 i
abbrev Rcame (M : mM) (i : Nat) : Int32 := mI M 187 i
abbrev Rresponded (M : mM) (i : Nat) : Int32 := mI M 188 i
abbrev RlastSaid (M : mM) (i : Nat) : Int32 := mI M 189 i
abbrev Rsent (M : mM) (i : Nat) : Int32 := mI M 190 i
abbrev Rcredit (M : mM) (i : Nat) : Int32 := mI M 191 i
abbrev Rgot (M : mM) (i : Nat) : Int32 := mI M 192 i
abbrev Rback (M : mM) (i : Nat) : Int32 := mI M 193 i
abbrev Rfields (M : mM) (i : Nat) : Int32 := mI M 194 i
abbrev RfieldName (M : mM) (i : Nat) : Int32 := mI M 195 i
abbrev RfieldValue (M : mM) (i : Nat) : Int32 := mI M 196 i
abbrev Rwaits (M : mM) (i : Nat) : Int32 := mI M 197 i
abbrev Rwait (M : mM) (i : Nat) : Int32 := mI M 198 i
abbrev Runread (M : mM) (i : Nat) : Int32 := mI M 199 i
abbrev RunreadStream (M : mM) (i : Nat) : Int32 := mI M 200 i
abbrev RunreadByte (M : mM) (i : Nat) : Int32 := mI M 201 i
abbrev RlinkSent (M : mM) (i : Nat) : Int32 := mI M 202 i
abbrev RlinkCredit (M : mM) (i : Nat) : Int32 := mI M 203 i
abbrev RlastData (M : mM) (i : Nat) : Int32 := mI M 204 i
abbrev Rforce (M : mM) (i : Nat) : Int32 := mI M 205 i
abbrev Rtold (M : mM) (i : Nat) : Int32 := mI M 206 i
abbrev RtoldSince (M : mM) (i : Nat) : Int32 := mI M 207 i
abbrev RleastTold (M : mM) (i : Nat) : Int32 := mI M 208 i
abbrev Rneed (M : mM) (i : Nat) : Int32 := mI M 209 i
abbrev Ropen (M : mM) (i : Nat) : Int32 := mI M 210 i
abbrev RopenSetting (M : mM) (i : Nat) : Int32 := mI M 211 i
abbrev RopenValue (M : mM) (i : Nat) : Int32 := mI M 212 i
abbrev Rmaximum (M : mM) (i : Nat) : Int32 := mI M 213 i
abbrev Rsize (M : mM) (i : Nat) : Int32 := mI M 214 i
abbrev RtableName (M : mM) (i : Nat) : Int32 := mI M 215 i
abbrev RtableValue (M : mM) (i : Nat) : Int32 := mI M 216 i
abbrev Rmaking (M : mM) (i : Nat) : Int32 := mI M 217 i
abbrev RmakingName (M : mM) (i : Nat) : Int32 := mI M 218 i
abbrev RmakingValue (M : mM) (i : Nat) : Int32 := mI M 219 i
abbrev RmakingSecret (M : mM) (i : Nat) : Int32 := mI M 220 i
abbrev RlistName (M : mM) (i : Nat) : Int32 := mI M 221 i
abbrev RlistValue (M : mM) (i : Nat) : Int32 := mI M 222 i
abbrev Rrequests (M : mM) : Int32 := mI M 169 35
abbrev Rlisted (M : mM) : Int32 := mI M 169 52
abbrev Rtaken (M : mM) : Int64 := mL M 169 55
def isEndZ (x : Int32) : Int32 := if x = 0 then 1 else if x = 1 then 1 else 0
def isStrZ (x : Int32) : Int32 := if x < 1 then 0 else if 23 < x then 0 else if x &&& 1 = 1 then 1 else 0
def stA (M : mM) (i : Nat) : Int32 := if Ropened M i = 0 then 0 else if ¬ Rcut M i = 0 then 4 else if ¬ RsentEnd M i = 0 ∧ ¬ RgotEnd M i = 0 then 4 else if ¬ RsentEnd M i = 0 then 2 else if ¬ RgotEnd M i = 0 then 3 else 1
def acA (M : mM) (i : Nat) : Int32 := if stA M i < 1 then 0 else if 3 < stA M i then 0 else 1
theorem acA_z (M : mM) (i : Nat) : acA M i = 0 ∨ acA M i = 1 := by unfold acA; split; exact Or.inl rfl; split; exact Or.inl rfl; exact Or.inr rfl
/-- how many of the first k streams of end e are active -/
def cntA (M : mM) (e : Nat) : Nat → Nat
  | 0 => 0
  | k + 1 => if acA M (12 * e + k) = 0 then cntA M e k else cntA M e k + 1
theorem cntA_le (M : mM) (e : Nat) : ∀ k, cntA M e k ≤ k
  | 0 => Nat.le_refl _
  | k + 1 => by have := cntA_le M e k; unfold cntA; split <;> omega
def sizeZ (v : Int32) : Int32 := if v < 0 then 37 else if ¬ v ≤ 16777215 then 37 else if ¬ v ≤ 65535 then 36 else if ¬ v ≤ 255 then 35 else 34
set_option maxRecDepth 100000 in
set_option maxHeartbeats 4000000 in
theorem ct_Mod_isEnd {X : mX} {l : Launch} {M : mM} {x : Int32} : Ct X l uMod_isEnd (rk 0 0) [.int x] M (fun r M' => r = some (.int (isEndZ x)) ∧ M' = M) := by
  refine Ct.of (by decide) (Nat.le_of_ble_eq_true rfl) ?_
  show G X l uMod_isEnd (rk 0 0) 0 0 M 0 [some (.int x)] [] _
  refine g_iload_n 0 dMod_isEnd_0 rfl ?_
  refine g_if_eq 1 9 dMod_isEnd_1 rfl (fun h1 => ?_) (fun h1 => ?_)
  · refine g_iconst 9 1 dMod_isEnd_9 rfl ?_
    refine g_goto 10 14 dMod_isEnd_10 rfl ?_
    exact g_zret 14 dMod_isEnd_14 rfl (by decide) ⟨by first | (simp only [isEndZ, *, if_true, if_false, not_true_eq_false, not_false_eq_true, and_true, true_and, and_false, false_and, and_self, reduceIte]; done) | (simp_all [isEndZ]; done), rfl⟩
  · refine g_iload_n 4 dMod_isEnd_4 rfl ?_
    refine g_iconst 5 1 dMod_isEnd_5 rfl ?_
    refine g_icmp_ne 6 13 dMod_isEnd_6 rfl (fun h6 => ?_) (fun h6 => ?_)
    · refine g_iconst 13 0 dMod_isEnd_13 rfl ?_
      exact g_zret 14 dMod_isEnd_14 rfl (by decide) ⟨by first | (simp only [isEndZ, *, if_true, if_false, not_true_eq_false, not_false_eq_true, and_true, true_and, and_false, false_and, and_self, reduceIte]; done) | (simp_all [isEndZ]; done), rfl⟩
    · refine g_iconst 9 1 dMod_isEnd_9 rfl ?_
      refine g_goto 10 14 dMod_isEnd_10 rfl ?_
      exact g_zret 14 dMod_isEnd_14 rfl (by decide) ⟨by first | (simp only [isEndZ, *, if_true, if_false, not_true_eq_false, not_false_eq_true, and_true, true_and, and_false, false_and, and_self, reduceIte]; done) | (simp_all [isEndZ]; done), rfl⟩

set_option maxRecDepth 100000 in
set_option maxHeartbeats 4000000 in
theorem ct_Mod_isStream {X : mX} {l : Launch} {M : mM} {x : Int32} : Ct X l uMod_isStream (rk 0 0) [.int x] M (fun r M' => r = some (.int (isStrZ x)) ∧ M' = M) := by
  refine Ct.of (by decide) (Nat.le_of_ble_eq_true rfl) ?_
  show G X l uMod_isStream (rk 0 0) 0 0 M 0 [some (.int x)] [] _
  refine g_iload_n 0 dMod_isStream_0 rfl ?_
  refine g_iconst 1 1 dMod_isStream_1 rfl ?_
  refine g_icmp_lt 2 22 dMod_isStream_2 rfl (fun h2 => ?_) (fun h2 => ?_)
  · refine g_iconst 22 0 dMod_isStream_22 rfl ?_
    exact g_zret 23 dMod_isStream_23 rfl (by decide) ⟨by first | (simp only [isStrZ, *, if_true, if_false, not_true_eq_false, not_false_eq_true, and_true, true_and, and_false, false_and, and_self, reduceIte]; done) | (simp_all [isStrZ]; done), rfl⟩
  · refine g_iload_n 5 dMod_isStream_5 rfl ?_
    refine g_bipush 6 23 dMod_isStream_6 rfl ?_
    refine g_icmp_gt 8 22 dMod_isStream_8 rfl (fun h8 => ?_) (fun h8 => ?_)
    · refine g_iconst 22 0 dMod_isStream_22 rfl ?_
      exact g_zret 23 dMod_isStream_23 rfl (by decide) ⟨by first | (simp only [isStrZ, *, if_true, if_false, not_true_eq_false, not_false_eq_true, and_true, true_and, and_false, false_and, and_self, reduceIte]; done) | (simp_all [isStrZ]; done), rfl⟩
    · refine g_iload_n 11 dMod_isStream_11 rfl ?_
      refine g_iconst 12 1 dMod_isStream_12 rfl ?_
      refine g_iand 13 dMod_isStream_13 ?_
      refine g_iconst 14 1 dMod_isStream_14 rfl ?_
      refine g_icmp_ne 15 22 dMod_isStream_15 rfl (fun h15 => ?_) (fun h15 => ?_)
      · refine g_iconst 22 0 dMod_isStream_22 rfl ?_
        exact g_zret 23 dMod_isStream_23 rfl (by decide) ⟨by first | (simp only [isStrZ, *, if_true, if_false, not_true_eq_false, not_false_eq_true, and_true, true_and, and_false, false_and, and_self, reduceIte]; done) | (simp_all [isStrZ]; done), rfl⟩
      · refine g_iconst 18 1 dMod_isStream_18 rfl ?_
        refine g_goto 19 23 dMod_isStream_19 rfl ?_
        exact g_zret 23 dMod_isStream_23 rfl (by decide) ⟨by first | (simp only [isStrZ, *, if_true, if_false, not_true_eq_false, not_false_eq_true, and_true, true_and, and_false, false_and, and_self, reduceIte]; done) | (simp_all [isStrZ]; done), rfl⟩

set_option maxRecDepth 100000 in
set_option maxHeartbeats 4000000 in
theorem ct_Mod_at {X : mX} {l : Launch} {M : mM} {e s : Nat} (he : e < 2) (hs : s < 24) : Ct X l uMod_at (rk 0 0) [.int (nI e), .int (nI s)] M (fun r M' => r = some (.int (nI (12 * e + s / 2))) ∧ M' = M) := by
  refine Ct.of (by decide) (Nat.le_of_ble_eq_true rfl) ?_
  show G X l uMod_at (rk 0 0) 0 0 M 0 [some (.int (nI e)), some (.int (nI s))] [] _
  refine g_bipush 0 (nI 12) dMod_at_0 rfl ?_
  refine g_iload_n 2 dMod_at_2 rfl ?_
  refine g_imulN 3 dMod_at_3 ?_
  refine g_iload_n 4 dMod_at_4 rfl ?_
  refine g_iconst 5 (nI 2) dMod_at_5 rfl ?_
  refine g_idivN 6 dMod_at_6 (by omega) (by decide) (by decide) ?_
  refine g_iaddN 7 dMod_at_7 ?_
  exact g_iret 8 dMod_at_8 rfl ⟨rfl, rfl⟩

set_option maxRecDepth 100000 in
set_option maxHeartbeats 4000000 in
theorem ct_Mod_up {X : mX} {l : Launch} {M : mM} {e : Nat} (hS : Shp M) (he : e < 2) : Ct X l uMod_up (rk 1 20) [.ref 169, .int (nI e)] M (fun r M' => r = some (.int (if Rdowns M e = 0 then 1 else 0)) ∧ M' = M) := by
  refine Ct.of (by decide) (Nat.le_of_ble_eq_true rfl) ?_
  show G X l uMod_up (rk 1 20) 0 0 M 0 [some (.ref 169), some (.int (nI e))] [] _
  refine g_iload_n 0 dMod_up_0 rfl ?_
  refine g_callS 1 [_] dMod_up_1 cs_Mod_171 rfl rfl ⟨(Nat.le_of_ble_eq_true rfl), (Nat.le_of_ble_eq_true rfl)⟩ (Nat.le_of_ble_eq_true rfl) (ct_Mod_isEnd) (Nat.le_of_ble_eq_true rfl) (Nat.le_of_ble_eq_true rfl) ?_
  rintro _ M2 ⟨rfl, hM2⟩
  rw [hM2]
  clear hM2 M2
  refine g_if_eq 4 20 dMod_up_4 rfl (fun h4 => ?_) (fun h4 => ?_)
  · exact absurd h4 (by rcases (by omega : e = 0 ∨ e = 1) with rfl | rfl <;> decide)
  · refine g_aload_n 7 dMod_up_7 rfl ?_
    refine g_getr 8 10 0 dMod_up_8 fs_Mod_7 rfl hS.mod hS.R_downs ?_
    refine g_iload_n 11 dMod_up_11 rfl ?_
    refine g_ialdN 12 dMod_up_12 hS.T_downs (by omega) (by decide) ?_
    refine g_if_ne 13 20 dMod_up_13 rfl (fun h13 => ?_) (fun h13 => ?_)
    · refine g_iconst 20 0 dMod_up_20 rfl ?_
      exact g_zret 21 dMod_up_21 rfl (by decide) ⟨by first | (simp only [*, if_true, if_false, not_true_eq_false, not_false_eq_true, and_true, true_and, and_false, false_and, and_self, reduceIte]; done) | (simp_all []; done), rfl⟩
    · refine g_iconst 16 1 dMod_up_16 rfl ?_
      refine g_goto 17 21 dMod_up_17 rfl ?_
      exact g_zret 21 dMod_up_21 rfl (by decide) ⟨by first | (simp only [*, if_true, if_false, not_true_eq_false, not_false_eq_true, and_true, true_and, and_false, false_and, and_self, reduceIte]; done) | (simp_all []; done), rfl⟩

set_option maxRecDepth 100000 in
set_option maxHeartbeats 4000000 in
theorem ct_Mod_up_no {X : mX} {l : Launch} {M : mM} {x : Int32} (h0 : ¬ x = 0) (h1 : ¬ x = 1) : Ct X l uMod_up (rk 1 20) [.ref 169, .int x] M (fun r M' => r = some (.int 0) ∧ M' = M) := by
  refine Ct.of (by decide) (Nat.le_of_ble_eq_true rfl) ?_
  show G X l uMod_up (rk 1 20) 0 0 M 0 [some (.ref 169), some (.int x)] [] _
  refine g_iload_n 0 dMod_up_0 rfl ?_
  refine g_callS 1 [_] dMod_up_1 cs_Mod_171 rfl rfl ⟨(Nat.le_of_ble_eq_true rfl), (Nat.le_of_ble_eq_true rfl)⟩ (Nat.le_of_ble_eq_true rfl) (ct_Mod_isEnd) (Nat.le_of_ble_eq_true rfl) (Nat.le_of_ble_eq_true rfl) ?_
  rintro _ M2 ⟨rfl, hM2⟩
  rw [hM2]
  clear hM2 M2
  refine g_if_eq 4 20 dMod_up_4 rfl (fun h4 => ?_) (fun h4 => ?_)
  · refine g_iconst 20 0 dMod_up_20 rfl ?_
    exact g_zret 21 dMod_up_21 rfl (by decide) ⟨rfl, rfl⟩
  · exact absurd (by simp [isEndZ, h0, h1]) h4

set_option maxRecDepth 100000 in
set_option maxHeartbeats 4000000 in
theorem ct_Mod_stateAt {X : mX} {l : Launch} {M : mM} {i : Nat} (hS : Shp M) (hi : i < 24) : Ct X l uMod_stateAt (rk 0 0) [.ref 169, .int (nI i)] M (fun r M' => r = some (.int (stA M i)) ∧ M' = M) := by
  refine Ct.of (by decide) (Nat.le_of_ble_eq_true rfl) ?_
  show G X l uMod_stateAt (rk 0 0) 0 0 M 0 [some (.ref 169), some (.int (nI i))] [] _
  refine g_aload_n 0 dMod_stateAt_0 rfl ?_
  refine g_getr 1 10 13 dMod_stateAt_1 fs_Mod_51 rfl hS.mod hS.R_opened ?_
  refine g_iload_n 4 dMod_stateAt_4 rfl ?_
  refine g_zaldN 5 dMod_stateAt_5 hS.T_opened (by omega) (by decide) ?_
  refine g_if_ne 6 11 dMod_stateAt_6 rfl (fun h6 => ?_) (fun h6 => ?_)
  · refine g_aload_n 11 dMod_stateAt_11 rfl ?_
    refine g_getr 12 10 14 dMod_stateAt_12 fs_Mod_54 rfl hS.mod hS.R_cut ?_
    refine g_iload_n 15 dMod_stateAt_15 rfl ?_
    refine g_zaldN 16 dMod_stateAt_16 hS.T_cut (by omega) (by decide) ?_
    refine g_if_ne 17 38 dMod_stateAt_17 rfl (fun h17 => ?_) (fun h17 => ?_)
    · refine g_iconst 38 4 dMod_stateAt_38 rfl ?_
      exact g_iret 39 dMod_stateAt_39 rfl ⟨by first | (simp only [stA, *, if_true, if_false, not_true_eq_false, not_false_eq_true, and_true, true_and, and_false, false_and, and_self, reduceIte]; done) | (simp_all [stA]; done), rfl⟩
    · refine g_aload_n 20 dMod_stateAt_20 rfl ?_
      refine g_getr 21 10 15 dMod_stateAt_21 fs_Mod_57 rfl hS.mod hS.R_sentEnd ?_
      refine g_iload_n 24 dMod_stateAt_24 rfl ?_
      refine g_zaldN 25 dMod_stateAt_25 hS.T_sentEnd (by omega) (by decide) ?_
      refine g_if_eq 26 40 dMod_stateAt_26 rfl (fun h26 => ?_) (fun h26 => ?_)
      · refine g_aload_n 40 dMod_stateAt_40 rfl ?_
        refine g_getr 41 10 15 dMod_stateAt_41 fs_Mod_57 rfl hS.mod hS.R_sentEnd ?_
        refine g_iload_n 44 dMod_stateAt_44 rfl ?_
        refine g_zaldN 45 dMod_stateAt_45 hS.T_sentEnd (by omega) (by decide) ?_
        refine g_if_eq 46 53 dMod_stateAt_46 rfl (fun h46 => ?_) (fun h46 => ?_)
        · refine g_aload_n 53 dMod_stateAt_53 rfl ?_
          refine g_getr 54 10 16 dMod_stateAt_54 fs_Mod_60 rfl hS.mod hS.R_gotEnd ?_
          refine g_iload_n 57 dMod_stateAt_57 rfl ?_
          refine g_zaldN 58 dMod_stateAt_58 hS.T_gotEnd (by omega) (by decide) ?_
          refine g_if_eq 59 66 dMod_stateAt_59 rfl (fun h59 => ?_) (fun h59 => ?_)
          · refine g_iconst 66 1 dMod_stateAt_66 rfl ?_
            exact g_iret 67 dMod_stateAt_67 rfl ⟨by first | (simp only [stA, *, if_true, if_false, not_true_eq_false, not_false_eq_true, and_true, true_and, and_false, false_and, and_self, reduceIte]; done) | (simp_all [stA]; done), rfl⟩
          · refine g_iconst 62 3 dMod_stateAt_62 rfl ?_
            refine g_goto 63 67 dMod_stateAt_63 rfl ?_
            exact g_iret 67 dMod_stateAt_67 rfl ⟨by first | (simp only [stA, *, if_true, if_false, not_true_eq_false, not_false_eq_true, and_true, true_and, and_false, false_and, and_self, reduceIte]; done) | (simp_all [stA]; done), rfl⟩
        · refine g_iconst 49 2 dMod_stateAt_49 rfl ?_
          refine g_goto 50 67 dMod_stateAt_50 rfl ?_
          exact g_iret 67 dMod_stateAt_67 rfl ⟨by first | (simp only [stA, *, if_true, if_false, not_true_eq_false, not_false_eq_true, and_true, true_and, and_false, false_and, and_self, reduceIte]; done) | (simp_all [stA]; done), rfl⟩
      · refine g_aload_n 29 dMod_stateAt_29 rfl ?_
        refine g_getr 30 10 16 dMod_stateAt_30 fs_Mod_60 rfl hS.mod hS.R_gotEnd ?_
        refine g_iload_n 33 dMod_stateAt_33 rfl ?_
        refine g_zaldN 34 dMod_stateAt_34 hS.T_gotEnd (by omega) (by decide) ?_
        refine g_if_eq 35 40 dMod_stateAt_35 rfl (fun h35 => ?_) (fun h35 => ?_)
        · refine g_aload_n 40 dMod_stateAt_40 rfl ?_
          refine g_getr 41 10 15 dMod_stateAt_41 fs_Mod_57 rfl hS.mod hS.R_sentEnd ?_
          refine g_iload_n 44 dMod_stateAt_44 rfl ?_
          refine g_zaldN 45 dMod_stateAt_45 hS.T_sentEnd (by omega) (by decide) ?_
          refine g_if_eq 46 53 dMod_stateAt_46 rfl (fun h46 => ?_) (fun h46 => ?_)
          · refine g_aload_n 53 dMod_stateAt_53 rfl ?_
            refine g_getr 54 10 16 dMod_stateAt_54 fs_Mod_60 rfl hS.mod hS.R_gotEnd ?_
            refine g_iload_n 57 dMod_stateAt_57 rfl ?_
            refine g_zaldN 58 dMod_stateAt_58 hS.T_gotEnd (by omega) (by decide) ?_
            refine g_if_eq 59 66 dMod_stateAt_59 rfl (fun h59 => ?_) (fun h59 => ?_)
            · refine g_iconst 66 1 dMod_stateAt_66 rfl ?_
              exact g_iret 67 dMod_stateAt_67 rfl ⟨by first | (simp only [stA, *, if_true, if_false, not_true_eq_false, not_false_eq_true, and_true, true_and, and_false, false_and, and_self, reduceIte]; done) | (simp_all [stA]; done), rfl⟩
            · refine g_iconst 62 3 dMod_stateAt_62 rfl ?_
              refine g_goto 63 67 dMod_stateAt_63 rfl ?_
              exact g_iret 67 dMod_stateAt_67 rfl ⟨by first | (simp only [stA, *, if_true, if_false, not_true_eq_false, not_false_eq_true, and_true, true_and, and_false, false_and, and_self, reduceIte]; done) | (simp_all [stA]; done), rfl⟩
          · refine g_iconst 49 2 dMod_stateAt_49 rfl ?_
            refine g_goto 50 67 dMod_stateAt_50 rfl ?_
            exact g_iret 67 dMod_stateAt_67 rfl ⟨by first | (simp only [stA, *, if_true, if_false, not_true_eq_false, not_false_eq_true, and_true, true_and, and_false, false_and, and_self, reduceIte]; done) | (simp_all [stA]; done), rfl⟩
        · refine g_iconst 38 4 dMod_stateAt_38 rfl ?_
          exact g_iret 39 dMod_stateAt_39 rfl ⟨by first | (simp only [stA, *, if_true, if_false, not_true_eq_false, not_false_eq_true, and_true, true_and, and_false, false_and, and_self, reduceIte]; done) | (simp_all [stA]; done), rfl⟩
  · refine g_iconst 9 0 dMod_stateAt_9 rfl ?_
    exact g_iret 10 dMod_stateAt_10 rfl ⟨by first | (simp only [stA, *, if_true, if_false, not_true_eq_false, not_false_eq_true, and_true, true_and, and_false, false_and, and_self, reduceIte]; done) | (simp_all [stA]; done), rfl⟩

set_option maxRecDepth 100000 in
set_option maxHeartbeats 4000000 in
theorem ct_Mod_active {X : mX} {l : Launch} {M : mM} {i : Nat} (hS : Shp M) (hi : i < 24) : Ct X l uMod_active (rk 1 21) [.ref 169, .int (nI i)] M (fun r M' => r = some (.int (acA M i)) ∧ M' = M) := by
  refine Ct.of (by decide) (Nat.le_of_ble_eq_true rfl) ?_
  show G X l uMod_active (rk 1 21) 0 0 M 0 [some (.ref 169), some (.int (nI i)), none] [] _
  refine g_aload_n 0 dMod_active_0 rfl ?_
  refine g_iload_n 1 dMod_active_1 rfl ?_
  refine g_callV 2 [_] dMod_active_2 cs_Mod_175 rfl (ci := 10) rfl (by decide) hS.mod rfl ⟨(Nat.le_of_ble_eq_true rfl), (Nat.le_of_ble_eq_true rfl)⟩ (Nat.le_of_ble_eq_true rfl) (ct_Mod_stateAt hS (by omega)) (Nat.le_of_ble_eq_true rfl) (Nat.le_of_ble_eq_true rfl) ?_
  rintro _ M2 ⟨rfl, hM2⟩
  rw [hM2]
  clear hM2 M2
  refine g_istore_n 5 dMod_active_5 (by decide) rfl ?_
  refine g_iload_n 6 dMod_active_6 rfl ?_
  refine g_iconst 7 1 dMod_active_7 rfl ?_
  refine g_icmp_lt 8 20 dMod_active_8 rfl (fun h8 => ?_) (fun h8 => ?_)
  · refine g_iconst 20 0 dMod_active_20 rfl ?_
    exact g_zret 21 dMod_active_21 rfl (by decide) ⟨by first | (simp only [acA, *, if_true, if_false, not_true_eq_false, not_false_eq_true, and_true, true_and, and_false, false_and, and_self, reduceIte]; done) | (simp_all [acA]; done), rfl⟩
  · refine g_iload_n 11 dMod_active_11 rfl ?_
    refine g_iconst 12 3 dMod_active_12 rfl ?_
    refine g_icmp_gt 13 20 dMod_active_13 rfl (fun h13 => ?_) (fun h13 => ?_)
    · refine g_iconst 20 0 dMod_active_20 rfl ?_
      exact g_zret 21 dMod_active_21 rfl (by decide) ⟨by first | (simp only [acA, *, if_true, if_false, not_true_eq_false, not_false_eq_true, and_true, true_and, and_false, false_and, and_self, reduceIte]; done) | (simp_all [acA]; done), rfl⟩
    · refine g_iconst 16 1 dMod_active_16 rfl ?_
      refine g_goto 17 21 dMod_active_17 rfl ?_
      exact g_zret 21 dMod_active_21 rfl (by decide) ⟨by first | (simp only [acA, *, if_true, if_false, not_true_eq_false, not_false_eq_true, and_true, true_and, and_false, false_and, and_self, reduceIte]; done) | (simp_all [acA]; done), rfl⟩

set_option maxRecDepth 100000 in
set_option maxHeartbeats 4000000 in
theorem g_activeAt {X : mX} {l : Launch} {M : mM} {e : Nat} {Q : Option Value → mM → Prop} (hS : Shp M) (he : e < 2) (hq : Q (some (.int (nI (cntA M e 12)))) M) : ∀ (j n : Nat), n + j = 12 → G X l uMod_activeAt (rk 2 43) 0 0 M 4 [some (.ref 169), some (.int (nI e)), some (.int (nI (cntA M e n))), some (.int (nI n))] [] Q
  | 0, n, hn => by
    have hn : n = 12 := by omega
    subst hn
    have hc := cntA_le M e 12
    refine g_iload_n 4 dMod_activeAt_4 rfl ?_
    refine g_bipush 5 (nI 12) dMod_activeAt_5 rfl ?_
    refine g_icmp_geN 7 37 dMod_activeAt_7 rfl (by omega) (by omega) (fun h7 => ?_) (fun h7 => ?_)
    · refine g_iload_n 37 dMod_activeAt_37 rfl ?_
      exact g_iret 38 dMod_activeAt_38 rfl hq
    · exact absurd (Nat.le_refl 12) h7
  | j + 1, n, hn => by
    have hc := cntA_le M e n
    have ih := g_activeAt (X := X) (l := l) hS he hq j (n + 1) (by omega)
    refine g_iload_n 4 dMod_activeAt_4 rfl ?_
    refine g_bipush 5 (nI 12) dMod_activeAt_5 rfl ?_
    refine g_icmp_geN 7 37 dMod_activeAt_7 rfl (by omega) (by omega) (fun h7 => ?_) (fun h7 => ?_)
    · exact absurd h7 (by omega)
    · refine g_aload_n 10 dMod_activeAt_10 rfl ?_
      refine g_bipush 11 (nI 12) dMod_activeAt_11 rfl ?_
      refine g_iload_n 13 dMod_activeAt_13 rfl ?_
      refine g_imulN 14 dMod_activeAt_14 ?_
      refine g_iload_n 15 dMod_activeAt_15 rfl ?_
      refine g_iaddN 16 dMod_activeAt_16 ?_
      refine g_callV 17 [_] dMod_activeAt_17 cs_Mod_179 rfl (ci := 10) rfl (by decide) hS.mod rfl ⟨(Nat.le_of_ble_eq_true rfl), (Nat.le_of_ble_eq_true rfl)⟩ (Nat.le_of_ble_eq_true rfl) (ct_Mod_active hS (by omega)) (Nat.le_of_ble_eq_true rfl) (Nat.le_of_ble_eq_true rfl) ?_
      rintro _ M2 ⟨rfl, hM2⟩
      rw [hM2]
      clear hM2 M2
      refine g_if_eq 20 29 dMod_activeAt_20 rfl (fun h20 => ?_) (fun h20 => ?_)
      · have hc2 : cntA M e (n + 1) = cntA M e n := by simp [cntA, h20]
        refine g_iload_n 29 dMod_activeAt_29 rfl ?_
        refine g_istore_n 30 dMod_activeAt_30 (by decide) rfl ?_
        refine g_iincN 31 dMod_activeAt_31 rfl (by decide) rfl ?_
        refine g_goto 34 4 dMod_activeAt_34 rfl ?_
        rw [hc2] at ih
        exact ih
      · have hc2 : cntA M e (n + 1) = cntA M e n + 1 := by simp [cntA, h20]
        refine g_iload_n 23 dMod_activeAt_23 rfl ?_
        refine g_iconst 24 (nI 1) dMod_activeAt_24 rfl ?_
        refine g_iaddN 25 dMod_activeAt_25 ?_
        refine g_goto 26 30 dMod_activeAt_26 rfl ?_
        refine g_istore_n 30 dMod_activeAt_30 (by decide) rfl ?_
        refine g_iincN 31 dMod_activeAt_31 rfl (by decide) rfl ?_
        refine g_goto 34 4 dMod_activeAt_34 rfl ?_
        rw [hc2] at ih
        exact ih
set_option maxRecDepth 100000 in
set_option maxHeartbeats 4000000 in
theorem ct_Mod_activeAt {X : mX} {l : Launch} {M : mM} {e : Nat} (hS : Shp M) (he : e < 2) : Ct X l uMod_activeAt (rk 2 43) [.ref 169, .int (nI e)] M (fun r M' => r = some (.int (nI (cntA M e 12))) ∧ M' = M) := by
  refine Ct.of (by decide) (Nat.le_of_ble_eq_true rfl) ?_
  show G X l uMod_activeAt (rk 2 43) 0 0 M 0 [some (.ref 169), some (.int (nI e)), none, none] [] _
  refine g_iconst 0 (nI 0) dMod_activeAt_0 rfl ?_
  refine g_istore_n 1 dMod_activeAt_1 (by decide) rfl ?_
  refine g_iconst 2 (nI 0) dMod_activeAt_2 rfl ?_
  refine g_istore_n 3 dMod_activeAt_3 (by decide) rfl ?_
  exact g_activeAt hS he ⟨rfl, rfl⟩ 12 0 rfl

set_option maxRecDepth 100000 in
set_option maxHeartbeats 4000000 in
theorem ct_Mod_sendWindow {X : mX} {l : Launch} {M : mM} {i : Nat} (hS : Shp M) (hi : i < 24) : Ct X l uMod_sendWindow (rk 0 0) [.ref 169, .int (nI i)] M (fun r M' => r = some (.int (Rtold M (3 * (i / 12) + 2) + Rcredit M i - Rsent M i)) ∧ M' = M) := by
  refine Ct.of (by decide) (Nat.le_of_ble_eq_true rfl) ?_
  show G X l uMod_sendWindow (rk 0 0) 0 0 M 0 [some (.ref 169), some (.int (nI i))] [] _
  refine g_aload_n 0 dMod_sendWindow_0 rfl ?_
  refine g_getr 1 10 37 dMod_sendWindow_1 fs_Mod_120 rfl hS.mod hS.R_told ?_
  refine g_iconst 4 (nI 3) dMod_sendWindow_4 rfl ?_
  refine g_iload_n 5 dMod_sendWindow_5 rfl ?_
  refine g_bipush 6 (nI 12) dMod_sendWindow_6 rfl ?_
  refine g_idivN 8 dMod_sendWindow_8 (by omega) (by decide) (by decide) ?_
  refine g_imulN 9 dMod_sendWindow_9 ?_
  refine g_iconst 10 (nI 2) dMod_sendWindow_10 rfl ?_
  refine g_iaddN 11 dMod_sendWindow_11 ?_
  refine g_ialdN 12 dMod_sendWindow_12 hS.T_told (by omega) (by decide) ?_
  refine g_aload_n 13 dMod_sendWindow_13 rfl ?_
  refine g_getr 14 10 21 dMod_sendWindow_14 fs_Mod_75 rfl hS.mod hS.R_credit ?_
  refine g_iload_n 17 dMod_sendWindow_17 rfl ?_
  refine g_ialdN 18 dMod_sendWindow_18 hS.T_credit (by omega) (by decide) ?_
  refine g_iadd 19 dMod_sendWindow_19 ?_
  refine g_aload_n 20 dMod_sendWindow_20 rfl ?_
  refine g_getr 21 10 20 dMod_sendWindow_21 fs_Mod_72 rfl hS.mod hS.R_sent ?_
  refine g_iload_n 24 dMod_sendWindow_24 rfl ?_
  refine g_ialdN 25 dMod_sendWindow_25 hS.T_sent (by omega) (by decide) ?_
  refine g_isub 26 dMod_sendWindow_26 ?_
  exact g_iret 27 dMod_sendWindow_27 rfl ⟨rfl, rfl⟩

set_option maxRecDepth 100000 in
set_option maxHeartbeats 4000000 in
theorem ct_Mod_receiveWindow {X : mX} {l : Launch} {M : mM} {i : Nat} (hS : Shp M) (hi : i < 24) : Ct X l uMod_receiveWindow (rk 0 0) [.ref 169, .int (nI i)] M (fun r M' => r = some (.int (Rforce M (3 * (i / 12) + 2) + Rback M i - Rgot M i)) ∧ M' = M) := by
  refine Ct.of (by decide) (Nat.le_of_ble_eq_true rfl) ?_
  show G X l uMod_receiveWindow (rk 0 0) 0 0 M 0 [some (.ref 169), some (.int (nI i))] [] _
  refine g_aload_n 0 dMod_receiveWindow_0 rfl ?_
  refine g_getr 1 10 36 dMod_receiveWindow_1 fs_Mod_117 rfl hS.mod hS.R_force ?_
  refine g_iconst 4 (nI 3) dMod_receiveWindow_4 rfl ?_
  refine g_iload_n 5 dMod_receiveWindow_5 rfl ?_
  refine g_bipush 6 (nI 12) dMod_receiveWindow_6 rfl ?_
  refine g_idivN 8 dMod_receiveWindow_8 (by omega) (by decide) (by decide) ?_
  refine g_imulN 9 dMod_receiveWindow_9 ?_
  refine g_iconst 10 (nI 2) dMod_receiveWindow_10 rfl ?_
  refine g_iaddN 11 dMod_receiveWindow_11 ?_
  refine g_ialdN 12 dMod_receiveWindow_12 hS.T_force (by omega) (by decide) ?_
  refine g_aload_n 13 dMod_receiveWindow_13 rfl ?_
  refine g_getr 14 10 23 dMod_receiveWindow_14 fs_Mod_81 rfl hS.mod hS.R_back ?_
  refine g_iload_n 17 dMod_receiveWindow_17 rfl ?_
  refine g_ialdN 18 dMod_receiveWindow_18 hS.T_back (by omega) (by decide) ?_
  refine g_iadd 19 dMod_receiveWindow_19 ?_
  refine g_aload_n 20 dMod_receiveWindow_20 rfl ?_
  refine g_getr 21 10 22 dMod_receiveWindow_21 fs_Mod_78 rfl hS.mod hS.R_got ?_
  refine g_iload_n 24 dMod_receiveWindow_24 rfl ?_
  refine g_ialdN 25 dMod_receiveWindow_25 hS.T_got (by omega) (by decide) ?_
  refine g_isub 26 dMod_receiveWindow_26 ?_
  exact g_iret 27 dMod_receiveWindow_27 rfl ⟨rfl, rfl⟩

set_option maxRecDepth 100000 in
set_option maxHeartbeats 4000000 in
theorem ct_Mod_linkSend {X : mX} {l : Launch} {M : mM} {e : Nat} (hS : Shp M) (he : e < 2) : Ct X l uMod_linkSend (rk 0 0) [.ref 169, .int (nI e)] M (fun r M' => r = some (.int (40 + RlinkCredit M e - RlinkSent M e)) ∧ M' = M) := by
  refine Ct.of (by decide) (Nat.le_of_ble_eq_true rfl) ?_
  show G X l uMod_linkSend (rk 0 0) 0 0 M 0 [some (.ref 169), some (.int (nI e))] [] _
  refine g_bipush 0 40 dMod_linkSend_0 rfl ?_
  refine g_aload_n 2 dMod_linkSend_2 rfl ?_
  refine g_getr 3 10 33 dMod_linkSend_3 fs_Mod_111 rfl hS.mod hS.R_linkCredit ?_
  refine g_iload_n 6 dMod_linkSend_6 rfl ?_
  refine g_ialdN 7 dMod_linkSend_7 hS.T_linkCredit (by omega) (by decide) ?_
  refine g_iadd 8 dMod_linkSend_8 ?_
  refine g_aload_n 9 dMod_linkSend_9 rfl ?_
  refine g_getr 10 10 32 dMod_linkSend_10 fs_Mod_108 rfl hS.mod hS.R_linkSent ?_
  refine g_iload_n 13 dMod_linkSend_13 rfl ?_
  refine g_ialdN 14 dMod_linkSend_14 hS.T_linkSent (by omega) (by decide) ?_
  refine g_isub 15 dMod_linkSend_15 ?_
  exact g_iret 16 dMod_linkSend_16 rfl ⟨rfl, rfl⟩

set_option maxRecDepth 100000 in
set_option maxHeartbeats 4000000 in
theorem ct_Mod_linkReceive {X : mX} {l : Launch} {M : mM} {e : Nat} (hS : Shp M) (he : e < 2) : Ct X l uMod_linkReceive (rk 0 0) [.ref 169, .int (nI e)] M (fun r M' => r = some (.int (40 - Runread M e)) ∧ M' = M) := by
  refine Ct.of (by decide) (Nat.le_of_ble_eq_true rfl) ?_
  show G X l uMod_linkReceive (rk 0 0) 0 0 M 0 [some (.ref 169), some (.int (nI e))] [] _
  refine g_bipush 0 40 dMod_linkReceive_0 rfl ?_
  refine g_aload_n 2 dMod_linkReceive_2 rfl ?_
  refine g_getr 3 10 29 dMod_linkReceive_3 fs_Mod_99 rfl hS.mod hS.R_unread ?_
  refine g_iload_n 6 dMod_linkReceive_6 rfl ?_
  refine g_ialdN 7 dMod_linkReceive_7 hS.T_unread (by omega) (by decide) ?_
  refine g_isub 8 dMod_linkReceive_8 ?_
  exact g_iret 9 dMod_linkReceive_9 rfl ⟨rfl, rfl⟩

def pushM (M : mM) (e h c : Nat) (kd s a f : Int32) : mM := setI (setL (setI (setI (setI (setI (setI M 173 (48 * e + (h + c) % 48) kd) 174 (48 * e + (h + c) % 48) s) 175 (48 * e + (h + c) % 48) a) 176 (48 * e + (h + c) % 48) f) 177 (48 * e + (h + c) % 48) 0) 178 (48 * e + (h + c) % 48) 0) 172 e (nI (c + 1))
set_option maxRecDepth 100000 in
set_option maxHeartbeats 4000000 in
theorem ct_Mod_push {X : mX} {l : Launch} {M : mM} {e h c : Nat} {kd s a f : Int32} (hS : Shp M) (he : e < 2) (hh : Rhead M e = nI h) (hc : Rcount M e = nI c) (hh8 : h < 48) (hc8 : c < 48) (hf : f = 0 ∨ f = 1) : Ct X l uMod_push (rk 0 0) [.ref 169, .int (nI e), .int kd, .int s, .int a, .int f] M (fun r M' => r = some (.int (nI (48 * e + (h + c) % 48))) ∧ M' = pushM M e h c kd s a f) := by
  refine Ct.of (by decide) (Nat.le_of_ble_eq_true rfl) ?_
  show G X l uMod_push (rk 0 0) 0 0 M 0 [some (.ref 169), some (.int (nI e)), some (.int kd), some (.int s), some (.int a), some (.int f), none] [] _
  refine g_bipush 0 (nI 48) dMod_push_0 rfl ?_
  refine g_iload_n 2 dMod_push_2 rfl ?_
  refine g_imulN 3 dMod_push_3 ?_
  refine g_aload_n 4 dMod_push_4 rfl ?_
  refine g_getr 5 10 1 dMod_push_5 fs_Mod_13 rfl hS.mod hS.R_head ?_
  refine g_iload_n 8 dMod_push_8 rfl ?_
  refine g_ialdN 9 dMod_push_9 hS.T_head (by omega) (by decide) ?_
  refine g_top (nI (h)) (hh) ?_
  refine g_aload_n 10 dMod_push_10 rfl ?_
  refine g_getr 11 10 2 dMod_push_11 fs_Mod_16 rfl hS.mod hS.R_count ?_
  refine g_iload_n 14 dMod_push_14 rfl ?_
  refine g_ialdN 15 dMod_push_15 hS.T_count (by omega) (by decide) ?_
  refine g_top (nI (c)) (hc) ?_
  refine g_iaddN 16 dMod_push_16 ?_
  refine g_bipush 17 (nI 48) dMod_push_17 rfl ?_
  refine g_iremN 19 dMod_push_19 (by omega) (by decide) (by decide) ?_
  refine g_iaddN 20 dMod_push_20 ?_
  refine g_istore 21 dMod_push_21 (by decide) rfl ?_
  refine g_aload_n 23 dMod_push_23 rfl ?_
  refine g_getr 24 10 3 dMod_push_24 fs_Mod_19 rfl hS.mod hS.R_kinds ?_
  refine g_iload 27 dMod_push_27 rfl ?_
  refine g_iload_n 29 dMod_push_29 rfl ?_
  refine g_iastN 30 dMod_push_30 hS.T_kinds (by omega) (by decide) ?_
  refine g_aload_n 31 dMod_push_31 rfl ?_
  refine g_getr 32 10 4 dMod_push_32 fs_Mod_22 rfl hS.mod hS.R_streams ?_
  refine g_iload 35 dMod_push_35 rfl ?_
  refine g_iload_n 37 dMod_push_37 rfl ?_
  refine g_iastN 38 dMod_push_38 hS.T_streams (by omega) (by decide) ?_
  refine g_aload_n 39 dMod_push_39 rfl ?_
  refine g_getr 40 10 5 dMod_push_40 fs_Mod_25 rfl hS.mod hS.R_amounts ?_
  refine g_iload 43 dMod_push_43 rfl ?_
  refine g_iload 45 dMod_push_45 rfl ?_
  refine g_iastN 47 dMod_push_47 hS.T_amounts (by omega) (by decide) ?_
  refine g_aload_n 48 dMod_push_48 rfl ?_
  refine g_getr 49 10 6 dMod_push_49 fs_Mod_28 rfl hS.mod hS.R_flags ?_
  refine g_iload 52 dMod_push_52 rfl ?_
  refine g_iload 54 dMod_push_54 rfl ?_
  refine g_zastN 56 dMod_push_56 hS.T_flags (by omega) (by decide) hf ?_
  refine g_aload_n 57 dMod_push_57 rfl ?_
  refine g_getr 58 10 7 dMod_push_58 fs_Mod_32 rfl hS.mod hS.R_settings ?_
  refine g_iload 61 dMod_push_61 rfl ?_
  refine g_iconst 63 0 dMod_push_63 rfl ?_
  refine g_iastN 64 dMod_push_64 hS.T_settings (by omega) (by decide) ?_
  refine g_aload_n 65 dMod_push_65 rfl ?_
  refine g_getr 66 10 8 dMod_push_66 fs_Mod_35 rfl hS.mod hS.R_loads ?_
  refine g_iload 69 dMod_push_69 rfl ?_
  refine g_lconst 71 0 dMod_push_71 rfl ?_
  refine g_lastN 72 dMod_push_72 hS.T_loads (by omega) (by decide) ?_
  refine g_aload_n 73 dMod_push_73 rfl ?_
  refine g_getr 74 10 2 dMod_push_74 fs_Mod_16 rfl hS.mod hS.R_count ?_
  refine g_iload_n 77 dMod_push_77 rfl ?_
  refine g_aload_n 78 dMod_push_78 rfl ?_
  refine g_getr 79 10 2 dMod_push_79 fs_Mod_16 rfl hS.mod hS.R_count ?_
  refine g_iload_n 82 dMod_push_82 rfl ?_
  refine g_ialdN 83 dMod_push_83 hS.T_count (by omega) (by decide) ?_
  refine g_top (nI (c)) ((by simp [mI_setI, mI_setL, mI_setR, up2, hc])) ?_
  refine g_iconst 84 (nI 1) dMod_push_84 rfl ?_
  refine g_iaddN 85 dMod_push_85 ?_
  refine g_iastN 86 dMod_push_86 hS.T_count (by omega) (by decide) ?_
  refine g_iload 87 dMod_push_87 rfl ?_
  exact g_iret 89 dMod_push_89 rfl ⟨rfl, rfl⟩

set_option maxRecDepth 100000 in
set_option maxHeartbeats 4000000 in
theorem ct_Mod_full {X : mX} {l : Launch} {M : mM} {e : Nat} (hS : Shp M) (he : e < 2) : Ct X l uMod_full (rk 0 0) [.ref 169, .int (nI e)] M (fun r M' => r = some (.int (if Rcount M (1 - e) < 30 then 0 else 1)) ∧ M' = M) := by
  refine Ct.of (by decide) (Nat.le_of_ble_eq_true rfl) ?_
  show G X l uMod_full (rk 0 0) 0 0 M 0 [some (.ref 169), some (.int (nI e))] [] _
  refine g_aload_n 0 dMod_full_0 rfl ?_
  refine g_getr 1 10 2 dMod_full_1 fs_Mod_16 rfl hS.mod hS.R_count ?_
  refine g_iconst 4 (nI 1) dMod_full_4 rfl ?_
  refine g_iload_n 5 dMod_full_5 rfl ?_
  refine g_isubN 6 dMod_full_6 (by omega) ?_
  refine g_ialdN 7 dMod_full_7 hS.T_count (by omega) (by decide) ?_
  refine g_bipush 8 30 dMod_full_8 rfl ?_
  refine g_icmp_lt 10 17 dMod_full_10 rfl (fun h10 => ?_) (fun h10 => ?_)
  · refine g_iconst 17 0 dMod_full_17 rfl ?_
    exact g_zret 18 dMod_full_18 rfl (by decide) ⟨by first | (simp only [*, if_true, if_false, not_true_eq_false, not_false_eq_true, and_true, true_and, and_false, false_and, and_self, reduceIte]; done) | (simp_all []; done), rfl⟩
  · refine g_iconst 13 1 dMod_full_13 rfl ?_
    refine g_goto 14 18 dMod_full_14 rfl ?_
    exact g_zret 18 dMod_full_18 rfl (by decide) ⟨by first | (simp only [*, if_true, if_false, not_true_eq_false, not_false_eq_true, and_true, true_and, and_false, false_and, and_self, reduceIte]; done) | (simp_all []; done), rfl⟩

set_option maxRecDepth 100000 in
set_option maxHeartbeats 4000000 in
theorem ct_Mod_sizeOf {X : mX} {l : Launch} {M : mM} {x : Int32} : Ct X l uMod_sizeOf (rk 0 0) [.int x] M (fun r M' => r = some (.int (sizeZ x)) ∧ M' = M) := by
  refine Ct.of (by decide) (Nat.le_of_ble_eq_true rfl) ?_
  show G X l uMod_sizeOf (rk 0 0) 0 0 M 0 [some (.int x)] [] _
  refine g_iload_n 0 dMod_sizeOf_0 rfl ?_
  refine g_if_lt 1 10 dMod_sizeOf_1 rfl (fun h1 => ?_) (fun h1 => ?_)
  · refine g_bipush 10 37 dMod_sizeOf_10 rfl ?_
    refine g_goto 12 40 dMod_sizeOf_12 rfl ?_
    exact g_iret 40 dMod_sizeOf_40 rfl ⟨by first | (simp only [sizeZ, *, if_true, if_false, not_true_eq_false, not_false_eq_true, and_true, true_and, and_false, false_and, and_self, reduceIte]; done) | (simp_all [sizeZ]; done), rfl⟩
  · refine g_iload_n 4 dMod_sizeOf_4 rfl ?_
    refine g_ldc 5 16777215 dMod_sizeOf_5 lc_Mod_205 ?_
    refine g_icmp_le 7 15 dMod_sizeOf_7 rfl (fun h7 => ?_) (fun h7 => ?_)
    · refine g_iload_n 15 dMod_sizeOf_15 rfl ?_
      refine g_ldc 16 65535 dMod_sizeOf_16 lc_Mod_206 ?_
      refine g_icmp_le 18 26 dMod_sizeOf_18 rfl (fun h18 => ?_) (fun h18 => ?_)
      · refine g_iload_n 26 dMod_sizeOf_26 rfl ?_
        refine g_sipush 27 255 dMod_sizeOf_27 rfl ?_
        refine g_icmp_le 30 38 dMod_sizeOf_30 rfl (fun h30 => ?_) (fun h30 => ?_)
        · refine g_bipush 38 34 dMod_sizeOf_38 rfl ?_
          exact g_iret 40 dMod_sizeOf_40 rfl ⟨by first | (simp only [sizeZ, *, if_true, if_false, not_true_eq_false, not_false_eq_true, and_true, true_and, and_false, false_and, and_self, reduceIte]; done) | (simp_all [sizeZ]; done), rfl⟩
        · refine g_bipush 33 35 dMod_sizeOf_33 rfl ?_
          refine g_goto 35 40 dMod_sizeOf_35 rfl ?_
          exact g_iret 40 dMod_sizeOf_40 rfl ⟨by first | (simp only [sizeZ, *, if_true, if_false, not_true_eq_false, not_false_eq_true, and_true, true_and, and_false, false_and, and_self, reduceIte]; done) | (simp_all [sizeZ]; done), rfl⟩
      · refine g_bipush 21 36 dMod_sizeOf_21 rfl ?_
        refine g_goto 23 40 dMod_sizeOf_23 rfl ?_
        exact g_iret 40 dMod_sizeOf_40 rfl ⟨by first | (simp only [sizeZ, *, if_true, if_false, not_true_eq_false, not_false_eq_true, and_true, true_and, and_false, false_and, and_self, reduceIte]; done) | (simp_all [sizeZ]; done), rfl⟩
    · refine g_bipush 10 37 dMod_sizeOf_10 rfl ?_
      refine g_goto 12 40 dMod_sizeOf_12 rfl ?_
      exact g_iret 40 dMod_sizeOf_40 rfl ⟨by first | (simp only [sizeZ, *, if_true, if_false, not_true_eq_false, not_false_eq_true, and_true, true_and, and_false, false_and, and_self, reduceIte]; done) | (simp_all [sizeZ]; done), rfl⟩
