theorem dMod_down_0 : decode uMod_down.2.1 0 = .ok (.iload_n 1, 1) := by decide +kernel
theorem dMod_down_1 : decode uMod_down.2.1 1 = .ok (.invokestatic 171, 3) := by decide +kernel
theorem dMod_down_4 : decode uMod_down.2.1 4 = .ok (.ifCond .eq 12, 3) := by decide +kernel
theorem dMod_down_7 : decode uMod_down.2.1 7 = .ok (.aload_n 0, 1) := by decide +kernel
theorem dMod_down_8 : decode uMod_down.2.1 8 = .ok (.getfield 7, 3) := by decide +kernel
theorem dMod_down_11 : decode uMod_down.2.1 11 = .ok (.iload_n 1, 1) := by decide +kernel
theorem dMod_down_12 : decode uMod_down.2.1 12 = .ok (.iaload, 1) := by decide +kernel
theorem dMod_down_13 : decode uMod_down.2.1 13 = .ok (.goto 4, 3) := by decide +kernel
theorem dMod_down_16 : decode uMod_down.2.1 16 = .ok (.iconst (-1), 1) := by decide +kernel
theorem dMod_down_17 : decode uMod_down.2.1 17 = .ok (.ireturn, 1) := by decide +kernel
theorem dMod_state_0 : decode uMod_state.2.1 0 = .ok (.iload_n 1, 1) := by decide +kernel
theorem dMod_state_1 : decode uMod_state.2.1 1 = .ok (.invokestatic 171, 3) := by decide +kernel
theorem dMod_state_4 : decode uMod_state.2.1 4 = .ok (.ifCond .eq 22, 3) := by decide +kernel
theorem dMod_state_7 : decode uMod_state.2.1 7 = .ok (.iload_n 2, 1) := by decide +kernel
theorem dMod_state_8 : decode uMod_state.2.1 8 = .ok (.invokestatic 246, 3) := by decide +kernel
theorem dMod_state_11 : decode uMod_state.2.1 11 = .ok (.ifCond .eq 15, 3) := by decide +kernel
theorem dMod_state_14 : decode uMod_state.2.1 14 = .ok (.aload_n 0, 1) := by decide +kernel
theorem dMod_state_15 : decode uMod_state.2.1 15 = .ok (.iload_n 1, 1) := by decide +kernel
theorem dMod_state_16 : decode uMod_state.2.1 16 = .ok (.iload_n 2, 1) := by decide +kernel
theorem dMod_state_17 : decode uMod_state.2.1 17 = .ok (.invokestatic 190, 3) := by decide +kernel
theorem dMod_state_20 : decode uMod_state.2.1 20 = .ok (.invokevirtual 175, 3) := by decide +kernel
theorem dMod_state_23 : decode uMod_state.2.1 23 = .ok (.goto 4, 3) := by decide +kernel
theorem dMod_state_26 : decode uMod_state.2.1 26 = .ok (.iconst (-1), 1) := by decide +kernel
theorem dMod_state_27 : decode uMod_state.2.1 27 = .ok (.ireturn, 1) := by decide +kernel
theorem dMod_window_0 : decode uMod_window.2.1 0 = .ok (.iload_n 1, 1) := by decide +kernel
theorem dMod_window_1 : decode uMod_window.2.1 1 = .ok (.invokestatic 171, 3) := by decide +kernel
theorem dMod_window_4 : decode uMod_window.2.1 4 = .ok (.ifCond .ne 5, 3) := by decide +kernel
theorem dMod_window_7 : decode uMod_window.2.1 7 = .ok (.iconst 0, 1) := by decide +kernel
theorem dMod_window_8 : decode uMod_window.2.1 8 = .ok (.ireturn, 1) := by decide +kernel
theorem dMod_window_9 : decode uMod_window.2.1 9 = .ok (.iload_n 2, 1) := by decide +kernel
theorem dMod_window_10 : decode uMod_window.2.1 10 = .ok (.ifCond .ne 21, 3) := by decide +kernel
theorem dMod_window_13 : decode uMod_window.2.1 13 = .ok (.iload_n 3, 1) := by decide +kernel
theorem dMod_window_14 : decode uMod_window.2.1 14 = .ok (.ifCond .eq 11, 3) := by decide +kernel
theorem dMod_window_17 : decode uMod_window.2.1 17 = .ok (.aload_n 0, 1) := by decide +kernel
theorem dMod_window_18 : decode uMod_window.2.1 18 = .ok (.iload_n 1, 1) := by decide +kernel
theorem dMod_window_19 : decode uMod_window.2.1 19 = .ok (.invokevirtual 252, 3) := by decide +kernel
theorem dMod_window_22 : decode uMod_window.2.1 22 = .ok (.goto 8, 3) := by decide +kernel
theorem dMod_window_25 : decode uMod_window.2.1 25 = .ok (.aload_n 0, 1) := by decide +kernel
theorem dMod_window_26 : decode uMod_window.2.1 26 = .ok (.iload_n 1, 1) := by decide +kernel
theorem dMod_window_27 : decode uMod_window.2.1 27 = .ok (.invokevirtual 285, 3) := by decide +kernel
theorem dMod_window_30 : decode uMod_window.2.1 30 = .ok (.ireturn, 1) := by decide +kernel
theorem dMod_window_31 : decode uMod_window.2.1 31 = .ok (.iload_n 2, 1) := by decide +kernel
theorem dMod_window_32 : decode uMod_window.2.1 32 = .ok (.invokestatic 246, 3) := by decide +kernel
theorem dMod_window_35 : decode uMod_window.2.1 35 = .ok (.ifCond .eq 15, 3) := by decide +kernel
theorem dMod_window_38 : decode uMod_window.2.1 38 = .ok (.aload_n 0, 1) := by decide +kernel
theorem dMod_window_39 : decode uMod_window.2.1 39 = .ok (.iload_n 1, 1) := by decide +kernel
theorem dMod_window_40 : decode uMod_window.2.1 40 = .ok (.iload_n 2, 1) := by decide +kernel
theorem dMod_window_41 : decode uMod_window.2.1 41 = .ok (.invokestatic 190, 3) := by decide +kernel
theorem dMod_window_44 : decode uMod_window.2.1 44 = .ok (.invokevirtual 179, 3) := by decide +kernel
theorem dMod_window_47 : decode uMod_window.2.1 47 = .ok (.ifCond .ne 5, 3) := by decide +kernel
theorem dMod_window_50 : decode uMod_window.2.1 50 = .ok (.iconst 0, 1) := by decide +kernel
theorem dMod_window_51 : decode uMod_window.2.1 51 = .ok (.ireturn, 1) := by decide +kernel
theorem dMod_window_52 : decode uMod_window.2.1 52 = .ok (.iload_n 3, 1) := by decide +kernel
theorem dMod_window_53 : decode uMod_window.2.1 53 = .ok (.ifCond .eq 15, 3) := by decide +kernel
theorem dMod_window_56 : decode uMod_window.2.1 56 = .ok (.aload_n 0, 1) := by decide +kernel
theorem dMod_window_57 : decode uMod_window.2.1 57 = .ok (.iload_n 1, 1) := by decide +kernel
theorem dMod_window_58 : decode uMod_window.2.1 58 = .ok (.iload_n 2, 1) := by decide +kernel
theorem dMod_window_59 : decode uMod_window.2.1 59 = .ok (.invokestatic 190, 3) := by decide +kernel
theorem dMod_window_62 : decode uMod_window.2.1 62 = .ok (.invokevirtual 259, 3) := by decide +kernel
theorem dMod_window_65 : decode uMod_window.2.1 65 = .ok (.goto 12, 3) := by decide +kernel
theorem dMod_window_68 : decode uMod_window.2.1 68 = .ok (.aload_n 0, 1) := by decide +kernel
theorem dMod_window_69 : decode uMod_window.2.1 69 = .ok (.iload_n 1, 1) := by decide +kernel
theorem dMod_window_70 : decode uMod_window.2.1 70 = .ok (.iload_n 2, 1) := by decide +kernel
theorem dMod_window_71 : decode uMod_window.2.1 71 = .ok (.invokestatic 190, 3) := by decide +kernel
theorem dMod_window_74 : decode uMod_window.2.1 74 = .ok (.invokevirtual 288, 3) := by decide +kernel
theorem dMod_window_77 : decode uMod_window.2.1 77 = .ok (.ireturn, 1) := by decide +kernel
theorem dMod_unreadOf_0 : decode uMod_unreadOf.2.1 0 = .ok (.iconst 0, 1) := by decide +kernel
theorem dMod_unreadOf_1 : decode uMod_unreadOf.2.1 1 = .ok (.istore_n 3, 1) := by decide +kernel
theorem dMod_unreadOf_2 : decode uMod_unreadOf.2.1 2 = .ok (.iconst 0, 1) := by decide +kernel
theorem dMod_unreadOf_3 : decode uMod_unreadOf.2.1 3 = .ok (.istore 4, 2) := by decide +kernel
theorem dMod_unreadOf_5 : decode uMod_unreadOf.2.1 5 = .ok (.iload 4, 2) := by decide +kernel
theorem dMod_unreadOf_7 : decode uMod_unreadOf.2.1 7 = .ok (.aload_n 0, 1) := by decide +kernel
theorem dMod_unreadOf_8 : decode uMod_unreadOf.2.1 8 = .ok (.getfield 99, 3) := by decide +kernel
theorem dMod_unreadOf_11 : decode uMod_unreadOf.2.1 11 = .ok (.iload_n 1, 1) := by decide +kernel
theorem dMod_unreadOf_12 : decode uMod_unreadOf.2.1 12 = .ok (.iaload, 1) := by decide +kernel
theorem dMod_unreadOf_13 : decode uMod_unreadOf.2.1 13 = .ok (.if_icmp .ge 33, 3) := by decide +kernel
theorem dMod_unreadOf_16 : decode uMod_unreadOf.2.1 16 = .ok (.aload_n 0, 1) := by decide +kernel
theorem dMod_unreadOf_17 : decode uMod_unreadOf.2.1 17 = .ok (.getfield 102, 3) := by decide +kernel
theorem dMod_unreadOf_20 : decode uMod_unreadOf.2.1 20 = .ok (.bipush 40, 2) := by decide +kernel
theorem dMod_unreadOf_22 : decode uMod_unreadOf.2.1 22 = .ok (.iload_n 1, 1) := by decide +kernel
theorem dMod_unreadOf_23 : decode uMod_unreadOf.2.1 23 = .ok (.imul, 1) := by decide +kernel
theorem dMod_unreadOf_24 : decode uMod_unreadOf.2.1 24 = .ok (.iload 4, 2) := by decide +kernel
theorem dMod_unreadOf_26 : decode uMod_unreadOf.2.1 26 = .ok (.iadd, 1) := by decide +kernel
theorem dMod_unreadOf_27 : decode uMod_unreadOf.2.1 27 = .ok (.iaload, 1) := by decide +kernel
theorem dMod_unreadOf_28 : decode uMod_unreadOf.2.1 28 = .ok (.iload_n 2, 1) := by decide +kernel
theorem dMod_unreadOf_29 : decode uMod_unreadOf.2.1 29 = .ok (.if_icmp .ne 9, 3) := by decide +kernel
theorem dMod_unreadOf_32 : decode uMod_unreadOf.2.1 32 = .ok (.iload_n 3, 1) := by decide +kernel
theorem dMod_unreadOf_33 : decode uMod_unreadOf.2.1 33 = .ok (.iconst 1, 1) := by decide +kernel
theorem dMod_unreadOf_34 : decode uMod_unreadOf.2.1 34 = .ok (.iadd, 1) := by decide +kernel
theorem dMod_unreadOf_35 : decode uMod_unreadOf.2.1 35 = .ok (.goto 4, 3) := by decide +kernel
theorem dMod_unreadOf_38 : decode uMod_unreadOf.2.1 38 = .ok (.iload_n 3, 1) := by decide +kernel
theorem dMod_unreadOf_39 : decode uMod_unreadOf.2.1 39 = .ok (.istore_n 3, 1) := by decide +kernel
theorem dMod_unreadOf_40 : decode uMod_unreadOf.2.1 40 = .ok (.iinc 4 1, 3) := by decide +kernel
theorem dMod_unreadOf_43 : decode uMod_unreadOf.2.1 43 = .ok (.goto (-38), 3) := by decide +kernel
theorem dMod_unreadOf_46 : decode uMod_unreadOf.2.1 46 = .ok (.iload_n 3, 1) := by decide +kernel
theorem dMod_unreadOf_47 : decode uMod_unreadOf.2.1 47 = .ok (.ireturn, 1) := by decide +kernel
theorem dMod_bytes_0 : decode uMod_bytes.2.1 0 = .ok (.iload_n 1, 1) := by decide +kernel
theorem dMod_bytes_1 : decode uMod_bytes.2.1 1 = .ok (.invokestatic 171, 3) := by decide +kernel
theorem dMod_bytes_4 : decode uMod_bytes.2.1 4 = .ok (.ifCond .eq 10, 3) := by decide +kernel
theorem dMod_bytes_7 : decode uMod_bytes.2.1 7 = .ok (.iload_n 2, 1) := by decide +kernel
theorem dMod_bytes_8 : decode uMod_bytes.2.1 8 = .ok (.invokestatic 246, 3) := by decide +kernel
theorem dMod_bytes_11 : decode uMod_bytes.2.1 11 = .ok (.ifCond .ne 5, 3) := by decide +kernel
theorem dMod_bytes_14 : decode uMod_bytes.2.1 14 = .ok (.iconst (-1), 1) := by decide +kernel
theorem dMod_bytes_15 : decode uMod_bytes.2.1 15 = .ok (.ireturn, 1) := by decide +kernel
theorem dMod_bytes_16 : decode uMod_bytes.2.1 16 = .ok (.iload_n 3, 1) := by decide +kernel
theorem dMod_bytes_17 : decode uMod_bytes.2.1 17 = .ok (.ifCond .eq 12, 3) := by decide +kernel
theorem dMod_bytes_20 : decode uMod_bytes.2.1 20 = .ok (.aload_n 0, 1) := by decide +kernel
theorem dMod_bytes_21 : decode uMod_bytes.2.1 21 = .ok (.iload_n 1, 1) := by decide +kernel
theorem dMod_bytes_22 : decode uMod_bytes.2.1 22 = .ok (.iload_n 2, 1) := by decide +kernel
theorem dMod_bytes_23 : decode uMod_bytes.2.1 23 = .ok (.invokevirtual 332, 3) := by decide +kernel
theorem dMod_bytes_26 : decode uMod_bytes.2.1 26 = .ok (.goto 13, 3) := by decide +kernel
theorem dMod_bytes_29 : decode uMod_bytes.2.1 29 = .ok (.aload_n 0, 1) := by decide +kernel
theorem dMod_bytes_30 : decode uMod_bytes.2.1 30 = .ok (.getfield 93, 3) := by decide +kernel
theorem dMod_bytes_33 : decode uMod_bytes.2.1 33 = .ok (.iload_n 1, 1) := by decide +kernel
theorem dMod_bytes_34 : decode uMod_bytes.2.1 34 = .ok (.iload_n 2, 1) := by decide +kernel
theorem dMod_bytes_35 : decode uMod_bytes.2.1 35 = .ok (.invokestatic 190, 3) := by decide +kernel
theorem dMod_bytes_38 : decode uMod_bytes.2.1 38 = .ok (.iaload, 1) := by decide +kernel
theorem dMod_bytes_39 : decode uMod_bytes.2.1 39 = .ok (.ireturn, 1) := by decide +kernel
theorem dMod_field_0 : decode uMod_field.2.1 0 = .ok (.iload_n 1, 1) := by decide +kernel
theorem dMod_field_1 : decode uMod_field.2.1 1 = .ok (.invokestatic 171, 3) := by decide +kernel
theorem dMod_field_4 : decode uMod_field.2.1 4 = .ok (.ifCond .eq 28, 3) := by decide +kernel
theorem dMod_field_7 : decode uMod_field.2.1 7 = .ok (.iload_n 2, 1) := by decide +kernel
theorem dMod_field_8 : decode uMod_field.2.1 8 = .ok (.invokestatic 246, 3) := by decide +kernel
theorem dMod_field_11 : decode uMod_field.2.1 11 = .ok (.ifCond .eq 21, 3) := by decide +kernel
theorem dMod_field_14 : decode uMod_field.2.1 14 = .ok (.iload_n 3, 1) := by decide +kernel
theorem dMod_field_15 : decode uMod_field.2.1 15 = .ok (.ifCond .lt 17, 3) := by decide +kernel
theorem dMod_field_18 : decode uMod_field.2.1 18 = .ok (.iload_n 3, 1) := by decide +kernel
theorem dMod_field_19 : decode uMod_field.2.1 19 = .ok (.aload_n 0, 1) := by decide +kernel
theorem dMod_field_20 : decode uMod_field.2.1 20 = .ok (.getfield 84, 3) := by decide +kernel
theorem dMod_field_23 : decode uMod_field.2.1 23 = .ok (.iload_n 1, 1) := by decide +kernel
theorem dMod_field_24 : decode uMod_field.2.1 24 = .ok (.iload_n 2, 1) := by decide +kernel
theorem dMod_field_25 : decode uMod_field.2.1 25 = .ok (.invokestatic 190, 3) := by decide +kernel
theorem dMod_field_28 : decode uMod_field.2.1 28 = .ok (.iaload, 1) := by decide +kernel
theorem dMod_field_29 : decode uMod_field.2.1 29 = .ok (.if_icmp .lt 5, 3) := by decide +kernel
theorem dMod_field_32 : decode uMod_field.2.1 32 = .ok (.iconst (-1), 1) := by decide +kernel
theorem dMod_field_33 : decode uMod_field.2.1 33 = .ok (.ireturn, 1) := by decide +kernel
theorem dMod_field_34 : decode uMod_field.2.1 34 = .ok (.bipush 6, 2) := by decide +kernel
theorem dMod_field_36 : decode uMod_field.2.1 36 = .ok (.iload_n 1, 1) := by decide +kernel
theorem dMod_field_37 : decode uMod_field.2.1 37 = .ok (.iload_n 2, 1) := by decide +kernel
theorem dMod_field_38 : decode uMod_field.2.1 38 = .ok (.invokestatic 190, 3) := by decide +kernel
theorem dMod_field_41 : decode uMod_field.2.1 41 = .ok (.imul, 1) := by decide +kernel
theorem dMod_field_42 : decode uMod_field.2.1 42 = .ok (.iload_n 3, 1) := by decide +kernel
theorem dMod_field_43 : decode uMod_field.2.1 43 = .ok (.iadd, 1) := by decide +kernel
theorem dMod_field_44 : decode uMod_field.2.1 44 = .ok (.istore 5, 2) := by decide +kernel
theorem dMod_field_46 : decode uMod_field.2.1 46 = .ok (.iload 4, 2) := by decide +kernel
theorem dMod_field_48 : decode uMod_field.2.1 48 = .ok (.ifCond .eq 13, 3) := by decide +kernel
theorem dMod_field_51 : decode uMod_field.2.1 51 = .ok (.aload_n 0, 1) := by decide +kernel
theorem dMod_field_52 : decode uMod_field.2.1 52 = .ok (.getfield 90, 3) := by decide +kernel
theorem dMod_field_55 : decode uMod_field.2.1 55 = .ok (.iload 5, 2) := by decide +kernel
theorem dMod_field_57 : decode uMod_field.2.1 57 = .ok (.iaload, 1) := by decide +kernel
theorem dMod_field_58 : decode uMod_field.2.1 58 = .ok (.goto 10, 3) := by decide +kernel
theorem dMod_field_61 : decode uMod_field.2.1 61 = .ok (.aload_n 0, 1) := by decide +kernel
theorem dMod_field_62 : decode uMod_field.2.1 62 = .ok (.getfield 87, 3) := by decide +kernel
theorem dMod_field_65 : decode uMod_field.2.1 65 = .ok (.iload 5, 2) := by decide +kernel
theorem dMod_field_67 : decode uMod_field.2.1 67 = .ok (.iaload, 1) := by decide +kernel
theorem dMod_field_68 : decode uMod_field.2.1 68 = .ok (.ireturn, 1) := by decide +kernel
theorem dMod_table_0 : decode uMod_table.2.1 0 = .ok (.iload_n 1, 1) := by decide +kernel
theorem dMod_table_1 : decode uMod_table.2.1 1 = .ok (.invokestatic 171, 3) := by decide +kernel
theorem dMod_table_4 : decode uMod_table.2.1 4 = .ok (.ifCond .eq 9, 3) := by decide +kernel
theorem dMod_table_7 : decode uMod_table.2.1 7 = .ok (.iload_n 3, 1) := by decide +kernel
theorem dMod_table_8 : decode uMod_table.2.1 8 = .ok (.bipush (-2), 2) := by decide +kernel
theorem dMod_table_10 : decode uMod_table.2.1 10 = .ok (.if_icmp .ge 5, 3) := by decide +kernel
theorem dMod_table_13 : decode uMod_table.2.1 13 = .ok (.iconst (-1), 1) := by decide +kernel
theorem dMod_table_14 : decode uMod_table.2.1 14 = .ok (.ireturn, 1) := by decide +kernel
theorem dMod_table_15 : decode uMod_table.2.1 15 = .ok (.iconst 2, 1) := by decide +kernel
theorem dMod_table_16 : decode uMod_table.2.1 16 = .ok (.iload_n 1, 1) := by decide +kernel
theorem dMod_table_17 : decode uMod_table.2.1 17 = .ok (.imul, 1) := by decide +kernel
theorem dMod_table_18 : decode uMod_table.2.1 18 = .ok (.iload_n 2, 1) := by decide +kernel
theorem dMod_table_19 : decode uMod_table.2.1 19 = .ok (.ifCond .eq 7, 3) := by decide +kernel
theorem dMod_table_22 : decode uMod_table.2.1 22 = .ok (.iconst 1, 1) := by decide +kernel
theorem dMod_table_23 : decode uMod_table.2.1 23 = .ok (.goto 4, 3) := by decide +kernel
theorem dMod_table_26 : decode uMod_table.2.1 26 = .ok (.iconst 0, 1) := by decide +kernel
theorem dMod_table_27 : decode uMod_table.2.1 27 = .ok (.iadd, 1) := by decide +kernel
theorem dMod_table_28 : decode uMod_table.2.1 28 = .ok (.istore 4, 2) := by decide +kernel
theorem dMod_table_30 : decode uMod_table.2.1 30 = .ok (.iload_n 3, 1) := by decide +kernel
theorem dMod_table_31 : decode uMod_table.2.1 31 = .ok (.ifCond .ge 25, 3) := by decide +kernel
theorem dMod_table_34 : decode uMod_table.2.1 34 = .ok (.iload_n 3, 1) := by decide +kernel
theorem dMod_table_35 : decode uMod_table.2.1 35 = .ok (.iconst (-1), 1) := by decide +kernel
theorem dMod_table_36 : decode uMod_table.2.1 36 = .ok (.if_icmp .ne 12, 3) := by decide +kernel
theorem dMod_table_39 : decode uMod_table.2.1 39 = .ok (.aload_n 0, 1) := by decide +kernel
theorem dMod_table_40 : decode uMod_table.2.1 40 = .ok (.iload 4, 2) := by decide +kernel
theorem dMod_table_42 : decode uMod_table.2.1 42 = .ok (.invokevirtual 210, 3) := by decide +kernel
theorem dMod_table_45 : decode uMod_table.2.1 45 = .ok (.goto 10, 3) := by decide +kernel
theorem dMod_table_48 : decode uMod_table.2.1 48 = .ok (.aload_n 0, 1) := by decide +kernel
theorem dMod_table_49 : decode uMod_table.2.1 49 = .ok (.getfield 141, 3) := by decide +kernel
theorem dMod_table_52 : decode uMod_table.2.1 52 = .ok (.iload 4, 2) := by decide +kernel
theorem dMod_table_54 : decode uMod_table.2.1 54 = .ok (.iaload, 1) := by decide +kernel
theorem dMod_table_55 : decode uMod_table.2.1 55 = .ok (.ireturn, 1) := by decide +kernel
theorem dMod_table_56 : decode uMod_table.2.1 56 = .ok (.iload_n 3, 1) := by decide +kernel
theorem dMod_table_57 : decode uMod_table.2.1 57 = .ok (.aload_n 0, 1) := by decide +kernel
theorem dMod_table_58 : decode uMod_table.2.1 58 = .ok (.getfield 144, 3) := by decide +kernel
theorem dMod_table_61 : decode uMod_table.2.1 61 = .ok (.iload 4, 2) := by decide +kernel
theorem dMod_table_63 : decode uMod_table.2.1 63 = .ok (.iaload, 1) := by decide +kernel
theorem dMod_table_64 : decode uMod_table.2.1 64 = .ok (.if_icmp .ge 18, 3) := by decide +kernel
theorem dMod_table_67 : decode uMod_table.2.1 67 = .ok (.aload_n 0, 1) := by decide +kernel
theorem dMod_table_68 : decode uMod_table.2.1 68 = .ok (.getfield 150, 3) := by decide +kernel
theorem dMod_table_71 : decode uMod_table.2.1 71 = .ok (.bipush 6, 2) := by decide +kernel
theorem dMod_table_73 : decode uMod_table.2.1 73 = .ok (.iload 4, 2) := by decide +kernel
theorem dMod_table_75 : decode uMod_table.2.1 75 = .ok (.imul, 1) := by decide +kernel
theorem dMod_table_76 : decode uMod_table.2.1 76 = .ok (.iload_n 3, 1) := by decide +kernel
theorem dMod_table_77 : decode uMod_table.2.1 77 = .ok (.iadd, 1) := by decide +kernel
theorem dMod_table_78 : decode uMod_table.2.1 78 = .ok (.iaload, 1) := by decide +kernel
theorem dMod_table_79 : decode uMod_table.2.1 79 = .ok (.goto 4, 3) := by decide +kernel
theorem dMod_table_82 : decode uMod_table.2.1 82 = .ok (.iconst 0, 1) := by decide +kernel
theorem dMod_table_83 : decode uMod_table.2.1 83 = .ok (.ireturn, 1) := by decide +kernel
theorem dMod_header_0 : decode uMod_header.2.1 0 = .ok (.aload_n 0, 1) := by decide +kernel
theorem dMod_header_1 : decode uMod_header.2.1 1 = .ok (.iload_n 1, 1) := by decide +kernel
theorem dMod_header_2 : decode uMod_header.2.1 2 = .ok (.invokevirtual 309, 3) := by decide +kernel
theorem dMod_header_5 : decode uMod_header.2.1 5 = .ok (.ifCond .eq 24, 3) := by decide +kernel
theorem dMod_header_8 : decode uMod_header.2.1 8 = .ok (.iload_n 2, 1) := by decide +kernel
theorem dMod_header_9 : decode uMod_header.2.1 9 = .ok (.ifCond .lt 20, 3) := by decide +kernel
theorem dMod_header_12 : decode uMod_header.2.1 12 = .ok (.iload_n 2, 1) := by decide +kernel
theorem dMod_header_13 : decode uMod_header.2.1 13 = .ok (.bipush 15, 2) := by decide +kernel
theorem dMod_header_15 : decode uMod_header.2.1 15 = .ok (.if_icmp .gt 14, 3) := by decide +kernel
theorem dMod_header_18 : decode uMod_header.2.1 18 = .ok (.aload_n 0, 1) := by decide +kernel
theorem dMod_header_19 : decode uMod_header.2.1 19 = .ok (.getfield 153, 3) := by decide +kernel
theorem dMod_header_22 : decode uMod_header.2.1 22 = .ok (.iload_n 1, 1) := by decide +kernel
theorem dMod_header_23 : decode uMod_header.2.1 23 = .ok (.iaload, 1) := by decide +kernel
theorem dMod_header_24 : decode uMod_header.2.1 24 = .ok (.bipush 6, 2) := by decide +kernel
theorem dMod_header_26 : decode uMod_header.2.1 26 = .ok (.if_icmp .lt 5, 3) := by decide +kernel
theorem dMod_header_29 : decode uMod_header.2.1 29 = .ok (.iconst (-1), 1) := by decide +kernel
theorem dMod_header_30 : decode uMod_header.2.1 30 = .ok (.ireturn, 1) := by decide +kernel
theorem dMod_header_31 : decode uMod_header.2.1 31 = .ok (.bipush 6, 2) := by decide +kernel
theorem dMod_header_33 : decode uMod_header.2.1 33 = .ok (.iload_n 1, 1) := by decide +kernel
theorem dMod_header_34 : decode uMod_header.2.1 34 = .ok (.imul, 1) := by decide +kernel
theorem dMod_header_35 : decode uMod_header.2.1 35 = .ok (.aload_n 0, 1) := by decide +kernel
theorem dMod_header_36 : decode uMod_header.2.1 36 = .ok (.getfield 153, 3) := by decide +kernel
theorem dMod_header_39 : decode uMod_header.2.1 39 = .ok (.iload_n 1, 1) := by decide +kernel
theorem dMod_header_40 : decode uMod_header.2.1 40 = .ok (.iaload, 1) := by decide +kernel
theorem dMod_header_41 : decode uMod_header.2.1 41 = .ok (.iadd, 1) := by decide +kernel
theorem dMod_header_42 : decode uMod_header.2.1 42 = .ok (.istore 5, 2) := by decide +kernel
theorem dMod_header_44 : decode uMod_header.2.1 44 = .ok (.aload_n 0, 1) := by decide +kernel
theorem dMod_header_45 : decode uMod_header.2.1 45 = .ok (.getfield 156, 3) := by decide +kernel
theorem dMod_header_48 : decode uMod_header.2.1 48 = .ok (.iload 5, 2) := by decide +kernel
theorem dMod_header_50 : decode uMod_header.2.1 50 = .ok (.iload_n 2, 1) := by decide +kernel
theorem dMod_header_51 : decode uMod_header.2.1 51 = .ok (.iastore, 1) := by decide +kernel
theorem dMod_header_52 : decode uMod_header.2.1 52 = .ok (.aload_n 0, 1) := by decide +kernel
theorem dMod_header_53 : decode uMod_header.2.1 53 = .ok (.getfield 159, 3) := by decide +kernel
theorem dMod_header_56 : decode uMod_header.2.1 56 = .ok (.iload 5, 2) := by decide +kernel
theorem dMod_header_58 : decode uMod_header.2.1 58 = .ok (.iload_n 3, 1) := by decide +kernel
theorem dMod_header_59 : decode uMod_header.2.1 59 = .ok (.iastore, 1) := by decide +kernel
theorem dMod_header_60 : decode uMod_header.2.1 60 = .ok (.aload_n 0, 1) := by decide +kernel
theorem dMod_header_61 : decode uMod_header.2.1 61 = .ok (.getfield 162, 3) := by decide +kernel
theorem dMod_header_64 : decode uMod_header.2.1 64 = .ok (.iload 5, 2) := by decide +kernel
theorem dMod_header_66 : decode uMod_header.2.1 66 = .ok (.iload 4, 2) := by decide +kernel
theorem dMod_header_68 : decode uMod_header.2.1 68 = .ok (.bastore, 1) := by decide +kernel
theorem dMod_header_69 : decode uMod_header.2.1 69 = .ok (.aload_n 0, 1) := by decide +kernel
theorem dMod_header_70 : decode uMod_header.2.1 70 = .ok (.getfield 153, 3) := by decide +kernel
theorem dMod_header_73 : decode uMod_header.2.1 73 = .ok (.iload_n 1, 1) := by decide +kernel
theorem dMod_header_74 : decode uMod_header.2.1 74 = .ok (.aload_n 0, 1) := by decide +kernel
theorem dMod_header_75 : decode uMod_header.2.1 75 = .ok (.getfield 153, 3) := by decide +kernel
theorem dMod_header_78 : decode uMod_header.2.1 78 = .ok (.iload_n 1, 1) := by decide +kernel
theorem dMod_header_79 : decode uMod_header.2.1 79 = .ok (.iaload, 1) := by decide +kernel
theorem dMod_header_80 : decode uMod_header.2.1 80 = .ok (.iconst 1, 1) := by decide +kernel
theorem dMod_header_81 : decode uMod_header.2.1 81 = .ok (.iadd, 1) := by decide +kernel
theorem dMod_header_82 : decode uMod_header.2.1 82 = .ok (.iastore, 1) := by decide +kernel
theorem dMod_header_83 : decode uMod_header.2.1 83 = .ok (.aload_n 0, 1) := by decide +kernel
theorem dMod_header_84 : decode uMod_header.2.1 84 = .ok (.getfield 153, 3) := by decide +kernel
theorem dMod_header_87 : decode uMod_header.2.1 87 = .ok (.iload_n 1, 1) := by decide +kernel
theorem dMod_header_88 : decode uMod_header.2.1 88 = .ok (.iaload, 1) := by decide +kernel
theorem dMod_header_89 : decode uMod_header.2.1 89 = .ok (.ireturn, 1) := by decide +kernel
theorem dMod_pump_0 : decode uMod_pump.2.1 0 = .ok (.aload_n 0, 1) := by decide +kernel
theorem dMod_pump_1 : decode uMod_pump.2.1 1 = .ok (.iload_n 1, 1) := by decide +kernel
theorem dMod_pump_2 : decode uMod_pump.2.1 2 = .ok (.invokevirtual 309, 3) := by decide +kernel
theorem dMod_pump_5 : decode uMod_pump.2.1 5 = .ok (.ifCond .eq 14, 3) := by decide +kernel
theorem dMod_pump_8 : decode uMod_pump.2.1 8 = .ok (.iload_n 2, 1) := by decide +kernel
theorem dMod_pump_9 : decode uMod_pump.2.1 9 = .ok (.iconst 1, 1) := by decide +kernel
theorem dMod_pump_10 : decode uMod_pump.2.1 10 = .ok (.if_icmp .lt 9, 3) := by decide +kernel
theorem dMod_pump_13 : decode uMod_pump.2.1 13 = .ok (.iload_n 2, 1) := by decide +kernel
theorem dMod_pump_14 : decode uMod_pump.2.1 14 = .ok (.bipush 8, 2) := by decide +kernel
theorem dMod_pump_16 : decode uMod_pump.2.1 16 = .ok (.if_icmp .le 5, 3) := by decide +kernel
theorem dMod_pump_19 : decode uMod_pump.2.1 19 = .ok (.iconst (-1), 1) := by decide +kernel
theorem dMod_pump_20 : decode uMod_pump.2.1 20 = .ok (.ireturn, 1) := by decide +kernel
theorem dMod_pump_21 : decode uMod_pump.2.1 21 = .ok (.iconst 0, 1) := by decide +kernel
theorem dMod_pump_22 : decode uMod_pump.2.1 22 = .ok (.istore_n 3, 1) := by decide +kernel
theorem dMod_pump_23 : decode uMod_pump.2.1 23 = .ok (.iload_n 3, 1) := by decide +kernel
theorem dMod_pump_24 : decode uMod_pump.2.1 24 = .ok (.iload_n 2, 1) := by decide +kernel
theorem dMod_pump_25 : decode uMod_pump.2.1 25 = .ok (.if_icmp .ge 93, 3) := by decide +kernel
theorem dMod_pump_28 : decode uMod_pump.2.1 28 = .ok (.iconst (-1), 1) := by decide +kernel
theorem dMod_pump_29 : decode uMod_pump.2.1 29 = .ok (.istore 4, 2) := by decide +kernel
theorem dMod_pump_31 : decode uMod_pump.2.1 31 = .ok (.iconst 1, 1) := by decide +kernel
theorem dMod_pump_32 : decode uMod_pump.2.1 32 = .ok (.istore 5, 2) := by decide +kernel
theorem dMod_pump_34 : decode uMod_pump.2.1 34 = .ok (.iload 5, 2) := by decide +kernel
theorem dMod_pump_36 : decode uMod_pump.2.1 36 = .ok (.bipush 12, 2) := by decide +kernel
theorem dMod_pump_38 : decode uMod_pump.2.1 38 = .ok (.if_icmp .gt 60, 3) := by decide +kernel
theorem dMod_pump_41 : decode uMod_pump.2.1 41 = .ok (.aload_n 0, 1) := by decide +kernel
theorem dMod_pump_42 : decode uMod_pump.2.1 42 = .ok (.iload_n 1, 1) := by decide +kernel
theorem dMod_pump_43 : decode uMod_pump.2.1 43 = .ok (.invokevirtual 315, 3) := by decide +kernel
theorem dMod_pump_46 : decode uMod_pump.2.1 46 = .ok (.ifCond .ne 52, 3) := by decide +kernel
theorem dMod_pump_49 : decode uMod_pump.2.1 49 = .ok (.aload_n 0, 1) := by decide +kernel
theorem dMod_pump_50 : decode uMod_pump.2.1 50 = .ok (.getfield 114, 3) := by decide +kernel
theorem dMod_pump_53 : decode uMod_pump.2.1 53 = .ok (.iload_n 1, 1) := by decide +kernel
theorem dMod_pump_54 : decode uMod_pump.2.1 54 = .ok (.iaload, 1) := by decide +kernel
theorem dMod_pump_55 : decode uMod_pump.2.1 55 = .ok (.iload 5, 2) := by decide +kernel
theorem dMod_pump_57 : decode uMod_pump.2.1 57 = .ok (.iadd, 1) := by decide +kernel
theorem dMod_pump_58 : decode uMod_pump.2.1 58 = .ok (.bipush 12, 2) := by decide +kernel
theorem dMod_pump_60 : decode uMod_pump.2.1 60 = .ok (.irem, 1) := by decide +kernel
theorem dMod_pump_61 : decode uMod_pump.2.1 61 = .ok (.istore 6, 2) := by decide +kernel
theorem dMod_pump_63 : decode uMod_pump.2.1 63 = .ok (.iload 4, 2) := by decide +kernel
theorem dMod_pump_65 : decode uMod_pump.2.1 65 = .ok (.ifCond .ge 23, 3) := by decide +kernel
theorem dMod_pump_68 : decode uMod_pump.2.1 68 = .ok (.aload_n 0, 1) := by decide +kernel
theorem dMod_pump_69 : decode uMod_pump.2.1 69 = .ok (.iload_n 1, 1) := by decide +kernel
theorem dMod_pump_70 : decode uMod_pump.2.1 70 = .ok (.bipush 12, 2) := by decide +kernel
theorem dMod_pump_72 : decode uMod_pump.2.1 72 = .ok (.iload_n 1, 1) := by decide +kernel
theorem dMod_pump_73 : decode uMod_pump.2.1 73 = .ok (.imul, 1) := by decide +kernel
theorem dMod_pump_74 : decode uMod_pump.2.1 74 = .ok (.iload 6, 2) := by decide +kernel
theorem dMod_pump_76 : decode uMod_pump.2.1 76 = .ok (.iadd, 1) := by decide +kernel
theorem dMod_pump_77 : decode uMod_pump.2.1 77 = .ok (.invokevirtual 322, 3) := by decide +kernel
theorem dMod_pump_80 : decode uMod_pump.2.1 80 = .ok (.ifCond .eq 8, 3) := by decide +kernel
theorem dMod_pump_83 : decode uMod_pump.2.1 83 = .ok (.iload 6, 2) := by decide +kernel
theorem dMod_pump_85 : decode uMod_pump.2.1 85 = .ok (.goto 5, 3) := by decide +kernel
theorem dMod_pump_88 : decode uMod_pump.2.1 88 = .ok (.iload 4, 2) := by decide +kernel
theorem dMod_pump_90 : decode uMod_pump.2.1 90 = .ok (.istore 4, 2) := by decide +kernel
theorem dMod_pump_92 : decode uMod_pump.2.1 92 = .ok (.iinc 5 1, 3) := by decide +kernel
theorem dMod_pump_95 : decode uMod_pump.2.1 95 = .ok (.goto (-61), 3) := by decide +kernel
theorem dMod_pump_98 : decode uMod_pump.2.1 98 = .ok (.iload 4, 2) := by decide +kernel
theorem dMod_pump_100 : decode uMod_pump.2.1 100 = .ok (.ifCond .ge 5, 3) := by decide +kernel
theorem dMod_pump_103 : decode uMod_pump.2.1 103 = .ok (.iload_n 3, 1) := by decide +kernel
theorem dMod_pump_104 : decode uMod_pump.2.1 104 = .ok (.ireturn, 1) := by decide +kernel
theorem dMod_pump_105 : decode uMod_pump.2.1 105 = .ok (.aload_n 0, 1) := by decide +kernel
theorem dMod_pump_106 : decode uMod_pump.2.1 106 = .ok (.iload_n 1, 1) := by decide +kernel
theorem dMod_pump_107 : decode uMod_pump.2.1 107 = .ok (.iload 4, 2) := by decide +kernel
theorem dMod_pump_109 : decode uMod_pump.2.1 109 = .ok (.invokevirtual 325, 3) := by decide +kernel
theorem dMod_pump_112 : decode uMod_pump.2.1 112 = .ok (.iinc 3 1, 3) := by decide +kernel
theorem dMod_pump_115 : decode uMod_pump.2.1 115 = .ok (.goto (-92), 3) := by decide +kernel
theorem dMod_pump_118 : decode uMod_pump.2.1 118 = .ok (.iload_n 2, 1) := by decide +kernel
theorem dMod_pump_119 : decode uMod_pump.2.1 119 = .ok (.ireturn, 1) := by decide +kernel
theorem dMod_write_0 : decode uMod_write.2.1 0 = .ok (.aload_n 0, 1) := by decide +kernel
theorem dMod_write_1 : decode uMod_write.2.1 1 = .ok (.iload_n 1, 1) := by decide +kernel
theorem dMod_write_2 : decode uMod_write.2.1 2 = .ok (.invokevirtual 309, 3) := by decide +kernel
theorem dMod_write_5 : decode uMod_write.2.1 5 = .ok (.ifCond .eq 22, 3) := by decide +kernel
theorem dMod_write_8 : decode uMod_write.2.1 8 = .ok (.iload_n 2, 1) := by decide +kernel
theorem dMod_write_9 : decode uMod_write.2.1 9 = .ok (.invokestatic 246, 3) := by decide +kernel
theorem dMod_write_12 : decode uMod_write.2.1 12 = .ok (.ifCond .eq 15, 3) := by decide +kernel
theorem dMod_write_15 : decode uMod_write.2.1 15 = .ok (.iload 5, 2) := by decide +kernel
theorem dMod_write_17 : decode uMod_write.2.1 17 = .ok (.ifCond .lt 10, 3) := by decide +kernel
theorem dMod_write_20 : decode uMod_write.2.1 20 = .ok (.iload 5, 2) := by decide +kernel
theorem dMod_write_22 : decode uMod_write.2.1 22 = .ok (.bipush 8, 2) := by decide +kernel
theorem dMod_write_24 : decode uMod_write.2.1 24 = .ok (.if_icmp .le 5, 3) := by decide +kernel
theorem dMod_write_27 : decode uMod_write.2.1 27 = .ok (.iconst (-1), 1) := by decide +kernel
theorem dMod_write_28 : decode uMod_write.2.1 28 = .ok (.ireturn, 1) := by decide +kernel
theorem dMod_write_29 : decode uMod_write.2.1 29 = .ok (.iload_n 1, 1) := by decide +kernel
theorem dMod_write_30 : decode uMod_write.2.1 30 = .ok (.iload_n 2, 1) := by decide +kernel
theorem dMod_write_31 : decode uMod_write.2.1 31 = .ok (.invokestatic 190, 3) := by decide +kernel
theorem dMod_write_34 : decode uMod_write.2.1 34 = .ok (.istore 7, 2) := by decide +kernel
theorem dMod_write_36 : decode uMod_write.2.1 36 = .ok (.aload_n 0, 1) := by decide +kernel
theorem dMod_write_37 : decode uMod_write.2.1 37 = .ok (.iload 7, 2) := by decide +kernel
theorem dMod_write_39 : decode uMod_write.2.1 39 = .ok (.invokevirtual 175, 3) := by decide +kernel
theorem dMod_write_42 : decode uMod_write.2.1 42 = .ok (.istore 8, 2) := by decide +kernel
theorem dMod_write_44 : decode uMod_write.2.1 44 = .ok (.iload 8, 2) := by decide +kernel
theorem dMod_write_46 : decode uMod_write.2.1 46 = .ok (.iconst 1, 1) := by decide +kernel
theorem dMod_write_47 : decode uMod_write.2.1 47 = .ok (.if_icmp .eq 9, 3) := by decide +kernel
theorem dMod_write_50 : decode uMod_write.2.1 50 = .ok (.iload 8, 2) := by decide +kernel
theorem dMod_write_52 : decode uMod_write.2.1 52 = .ok (.iconst 3, 1) := by decide +kernel
theorem dMod_write_53 : decode uMod_write.2.1 53 = .ok (.if_icmp .ne 43, 3) := by decide +kernel
theorem dMod_write_56 : decode uMod_write.2.1 56 = .ok (.iload_n 1, 1) := by decide +kernel
theorem dMod_write_57 : decode uMod_write.2.1 57 = .ok (.iconst 1, 1) := by decide +kernel
theorem dMod_write_58 : decode uMod_write.2.1 58 = .ok (.if_icmp .ne 13, 3) := by decide +kernel
theorem dMod_write_61 : decode uMod_write.2.1 61 = .ok (.aload_n 0, 1) := by decide +kernel
theorem dMod_write_62 : decode uMod_write.2.1 62 = .ok (.getfield 66, 3) := by decide +kernel
theorem dMod_write_65 : decode uMod_write.2.1 65 = .ok (.iload 7, 2) := by decide +kernel
theorem dMod_write_67 : decode uMod_write.2.1 67 = .ok (.baload, 1) := by decide +kernel
theorem dMod_write_68 : decode uMod_write.2.1 68 = .ok (.ifCond .eq 28, 3) := by decide +kernel
theorem dMod_write_71 : decode uMod_write.2.1 71 = .ok (.aload_n 0, 1) := by decide +kernel
theorem dMod_write_72 : decode uMod_write.2.1 72 = .ok (.getfield 93, 3) := by decide +kernel
theorem dMod_write_75 : decode uMod_write.2.1 75 = .ok (.iload 7, 2) := by decide +kernel
theorem dMod_write_77 : decode uMod_write.2.1 77 = .ok (.iaload, 1) := by decide +kernel
theorem dMod_write_78 : decode uMod_write.2.1 78 = .ok (.iload 5, 2) := by decide +kernel
theorem dMod_write_80 : decode uMod_write.2.1 80 = .ok (.iadd, 1) := by decide +kernel
theorem dMod_write_81 : decode uMod_write.2.1 81 = .ok (.bipush 32, 2) := by decide +kernel
theorem dMod_write_83 : decode uMod_write.2.1 83 = .ok (.if_icmp .gt 13, 3) := by decide +kernel
theorem dMod_write_86 : decode uMod_write.2.1 86 = .ok (.aload_n 0, 1) := by decide +kernel
theorem dMod_write_87 : decode uMod_write.2.1 87 = .ok (.getfield 69, 3) := by decide +kernel
theorem dMod_write_90 : decode uMod_write.2.1 90 = .ok (.iload 7, 2) := by decide +kernel
theorem dMod_write_92 : decode uMod_write.2.1 92 = .ok (.baload, 1) := by decide +kernel
theorem dMod_write_93 : decode uMod_write.2.1 93 = .ok (.ifCond .eq 5, 3) := by decide +kernel
theorem dMod_write_96 : decode uMod_write.2.1 96 = .ok (.iconst (-1), 1) := by decide +kernel
theorem dMod_write_97 : decode uMod_write.2.1 97 = .ok (.ireturn, 1) := by decide +kernel
theorem dMod_write_98 : decode uMod_write.2.1 98 = .ok (.iconst 0, 1) := by decide +kernel
theorem dMod_write_99 : decode uMod_write.2.1 99 = .ok (.istore 9, 2) := by decide +kernel
theorem dMod_write_101 : decode uMod_write.2.1 101 = .ok (.iload 9, 2) := by decide +kernel
theorem dMod_write_103 : decode uMod_write.2.1 103 = .ok (.iload 5, 2) := by decide +kernel
theorem dMod_write_105 : decode uMod_write.2.1 105 = .ok (.if_icmp .ge 55, 3) := by decide +kernel
theorem dMod_write_108 : decode uMod_write.2.1 108 = .ok (.aload_n 0, 1) := by decide +kernel
theorem dMod_write_109 : decode uMod_write.2.1 109 = .ok (.getfield 96, 3) := by decide +kernel
theorem dMod_write_112 : decode uMod_write.2.1 112 = .ok (.bipush 32, 2) := by decide +kernel
theorem dMod_write_114 : decode uMod_write.2.1 114 = .ok (.iload 7, 2) := by decide +kernel
theorem dMod_write_116 : decode uMod_write.2.1 116 = .ok (.imul, 1) := by decide +kernel
theorem dMod_write_117 : decode uMod_write.2.1 117 = .ok (.aload_n 0, 1) := by decide +kernel
theorem dMod_write_118 : decode uMod_write.2.1 118 = .ok (.getfield 93, 3) := by decide +kernel
theorem dMod_write_121 : decode uMod_write.2.1 121 = .ok (.iload 7, 2) := by decide +kernel
theorem dMod_write_123 : decode uMod_write.2.1 123 = .ok (.iaload, 1) := by decide +kernel
theorem dMod_write_124 : decode uMod_write.2.1 124 = .ok (.iadd, 1) := by decide +kernel
theorem dMod_write_125 : decode uMod_write.2.1 125 = .ok (.lload_n 3, 1) := by decide +kernel
theorem dMod_write_126 : decode uMod_write.2.1 126 = .ok (.bipush 8, 2) := by decide +kernel
theorem dMod_write_128 : decode uMod_write.2.1 128 = .ok (.iload 9, 2) := by decide +kernel
theorem dMod_write_130 : decode uMod_write.2.1 130 = .ok (.imul, 1) := by decide +kernel
theorem dMod_write_131 : decode uMod_write.2.1 131 = .ok (.lushr, 1) := by decide +kernel
theorem dMod_write_132 : decode uMod_write.2.1 132 = .ok (.l2i, 1) := by decide +kernel
theorem dMod_write_133 : decode uMod_write.2.1 133 = .ok (.sipush 255, 3) := by decide +kernel
theorem dMod_write_136 : decode uMod_write.2.1 136 = .ok (.iand, 1) := by decide +kernel
theorem dMod_write_137 : decode uMod_write.2.1 137 = .ok (.iastore, 1) := by decide +kernel
theorem dMod_write_138 : decode uMod_write.2.1 138 = .ok (.aload_n 0, 1) := by decide +kernel
theorem dMod_write_139 : decode uMod_write.2.1 139 = .ok (.getfield 93, 3) := by decide +kernel
theorem dMod_write_142 : decode uMod_write.2.1 142 = .ok (.iload 7, 2) := by decide +kernel
theorem dMod_write_144 : decode uMod_write.2.1 144 = .ok (.aload_n 0, 1) := by decide +kernel
theorem dMod_write_145 : decode uMod_write.2.1 145 = .ok (.getfield 93, 3) := by decide +kernel
theorem dMod_write_148 : decode uMod_write.2.1 148 = .ok (.iload 7, 2) := by decide +kernel
theorem dMod_write_150 : decode uMod_write.2.1 150 = .ok (.iaload, 1) := by decide +kernel
theorem dMod_write_151 : decode uMod_write.2.1 151 = .ok (.iconst 1, 1) := by decide +kernel
theorem dMod_write_152 : decode uMod_write.2.1 152 = .ok (.iadd, 1) := by decide +kernel
theorem dMod_write_153 : decode uMod_write.2.1 153 = .ok (.iastore, 1) := by decide +kernel
theorem dMod_write_154 : decode uMod_write.2.1 154 = .ok (.iinc 9 1, 3) := by decide +kernel
theorem dMod_write_157 : decode uMod_write.2.1 157 = .ok (.goto (-56), 3) := by decide +kernel
theorem dMod_write_160 : decode uMod_write.2.1 160 = .ok (.aload_n 0, 1) := by decide +kernel
theorem dMod_write_161 : decode uMod_write.2.1 161 = .ok (.getfield 69, 3) := by decide +kernel
theorem dMod_write_164 : decode uMod_write.2.1 164 = .ok (.iload 7, 2) := by decide +kernel
theorem dMod_write_166 : decode uMod_write.2.1 166 = .ok (.iload 6, 2) := by decide +kernel
theorem dMod_write_168 : decode uMod_write.2.1 168 = .ok (.bastore, 1) := by decide +kernel
theorem dMod_write_169 : decode uMod_write.2.1 169 = .ok (.aload_n 0, 1) := by decide +kernel
theorem dMod_write_170 : decode uMod_write.2.1 170 = .ok (.getfield 93, 3) := by decide +kernel
theorem dMod_write_173 : decode uMod_write.2.1 173 = .ok (.iload 7, 2) := by decide +kernel
theorem dMod_write_175 : decode uMod_write.2.1 175 = .ok (.iaload, 1) := by decide +kernel
theorem dMod_write_176 : decode uMod_write.2.1 176 = .ok (.ireturn, 1) := by decide +kernel
theorem dMod_read_0 : decode uMod_read.2.1 0 = .ok (.aload_n 0, 1) := by decide +kernel
theorem dMod_read_1 : decode uMod_read.2.1 1 = .ok (.iload_n 1, 1) := by decide +kernel
theorem dMod_read_2 : decode uMod_read.2.1 2 = .ok (.invokevirtual 309, 3) := by decide +kernel
theorem dMod_read_5 : decode uMod_read.2.1 5 = .ok (.ifCond .eq 34, 3) := by decide +kernel
theorem dMod_read_8 : decode uMod_read.2.1 8 = .ok (.iload_n 2, 1) := by decide +kernel
theorem dMod_read_9 : decode uMod_read.2.1 9 = .ok (.invokestatic 246, 3) := by decide +kernel
theorem dMod_read_12 : decode uMod_read.2.1 12 = .ok (.ifCond .eq 27, 3) := by decide +kernel
theorem dMod_read_15 : decode uMod_read.2.1 15 = .ok (.iload_n 3, 1) := by decide +kernel
theorem dMod_read_16 : decode uMod_read.2.1 16 = .ok (.iconst 1, 1) := by decide +kernel
theorem dMod_read_17 : decode uMod_read.2.1 17 = .ok (.if_icmp .lt 22, 3) := by decide +kernel
theorem dMod_read_20 : decode uMod_read.2.1 20 = .ok (.iload_n 3, 1) := by decide +kernel
theorem dMod_read_21 : decode uMod_read.2.1 21 = .ok (.bipush 7, 2) := by decide +kernel
theorem dMod_read_23 : decode uMod_read.2.1 23 = .ok (.if_icmp .gt 16, 3) := by decide +kernel
theorem dMod_read_26 : decode uMod_read.2.1 26 = .ok (.aload_n 0, 1) := by decide +kernel
theorem dMod_read_27 : decode uMod_read.2.1 27 = .ok (.getfield 51, 3) := by decide +kernel
theorem dMod_read_30 : decode uMod_read.2.1 30 = .ok (.iload_n 1, 1) := by decide +kernel
theorem dMod_read_31 : decode uMod_read.2.1 31 = .ok (.iload_n 2, 1) := by decide +kernel
theorem dMod_read_32 : decode uMod_read.2.1 32 = .ok (.invokestatic 190, 3) := by decide +kernel
theorem dMod_read_35 : decode uMod_read.2.1 35 = .ok (.baload, 1) := by decide +kernel
theorem dMod_read_36 : decode uMod_read.2.1 36 = .ok (.ifCond .ne 7, 3) := by decide +kernel
theorem dMod_read_39 : decode uMod_read.2.1 39 = .ok (.ldc2_w 328, 3) := by decide +kernel
theorem dMod_read_42 : decode uMod_read.2.1 42 = .ok (.lreturn, 1) := by decide +kernel
theorem dMod_read_43 : decode uMod_read.2.1 43 = .ok (.aload_n 0, 1) := by decide +kernel
theorem dMod_read_44 : decode uMod_read.2.1 44 = .ok (.iload_n 1, 1) := by decide +kernel
theorem dMod_read_45 : decode uMod_read.2.1 45 = .ok (.invokevirtual 315, 3) := by decide +kernel
theorem dMod_read_48 : decode uMod_read.2.1 48 = .ok (.ifCond .eq 7, 3) := by decide +kernel
theorem dMod_read_51 : decode uMod_read.2.1 51 = .ok (.ldc2_w 330, 3) := by decide +kernel
theorem dMod_read_54 : decode uMod_read.2.1 54 = .ok (.lreturn, 1) := by decide +kernel
theorem dMod_read_55 : decode uMod_read.2.1 55 = .ok (.iload_n 1, 1) := by decide +kernel
theorem dMod_read_56 : decode uMod_read.2.1 56 = .ok (.iload_n 2, 1) := by decide +kernel
theorem dMod_read_57 : decode uMod_read.2.1 57 = .ok (.invokestatic 190, 3) := by decide +kernel
theorem dMod_read_60 : decode uMod_read.2.1 60 = .ok (.istore 4, 2) := by decide +kernel
theorem dMod_read_62 : decode uMod_read.2.1 62 = .ok (.aload_n 0, 1) := by decide +kernel
theorem dMod_read_63 : decode uMod_read.2.1 63 = .ok (.iload_n 1, 1) := by decide +kernel
theorem dMod_read_64 : decode uMod_read.2.1 64 = .ok (.iload_n 2, 1) := by decide +kernel
theorem dMod_read_65 : decode uMod_read.2.1 65 = .ok (.iload_n 3, 1) := by decide +kernel
theorem dMod_read_66 : decode uMod_read.2.1 66 = .ok (.invokevirtual 194, 3) := by decide +kernel
theorem dMod_read_69 : decode uMod_read.2.1 69 = .ok (.istore 5, 2) := by decide +kernel
theorem dMod_read_71 : decode uMod_read.2.1 71 = .ok (.aload_n 0, 1) := by decide +kernel
theorem dMod_read_72 : decode uMod_read.2.1 72 = .ok (.iload_n 1, 1) := by decide +kernel
theorem dMod_read_73 : decode uMod_read.2.1 73 = .ok (.iload 5, 2) := by decide +kernel
theorem dMod_read_75 : decode uMod_read.2.1 75 = .ok (.invokevirtual 201, 3) := by decide +kernel
theorem dMod_read_78 : decode uMod_read.2.1 78 = .ok (.aload_n 0, 1) := by decide +kernel
theorem dMod_read_79 : decode uMod_read.2.1 79 = .ok (.iload 4, 2) := by decide +kernel
theorem dMod_read_81 : decode uMod_read.2.1 81 = .ok (.invokevirtual 175, 3) := by decide +kernel
theorem dMod_read_84 : decode uMod_read.2.1 84 = .ok (.istore 6, 2) := by decide +kernel
theorem dMod_read_86 : decode uMod_read.2.1 86 = .ok (.iload 5, 2) := by decide +kernel
theorem dMod_read_88 : decode uMod_read.2.1 88 = .ok (.ifCond .le 46, 3) := by decide +kernel
theorem dMod_read_91 : decode uMod_read.2.1 91 = .ok (.iload 6, 2) := by decide +kernel
theorem dMod_read_93 : decode uMod_read.2.1 93 = .ok (.iconst 1, 1) := by decide +kernel
theorem dMod_read_94 : decode uMod_read.2.1 94 = .ok (.if_icmp .eq 9, 3) := by decide +kernel
theorem dMod_read_97 : decode uMod_read.2.1 97 = .ok (.iload 6, 2) := by decide +kernel
theorem dMod_read_99 : decode uMod_read.2.1 99 = .ok (.iconst 2, 1) := by decide +kernel
theorem dMod_read_100 : decode uMod_read.2.1 100 = .ok (.if_icmp .ne 34, 3) := by decide +kernel
theorem dMod_read_103 : decode uMod_read.2.1 103 = .ok (.aload_n 0, 1) := by decide +kernel
theorem dMod_read_104 : decode uMod_read.2.1 104 = .ok (.getfield 81, 3) := by decide +kernel
theorem dMod_read_107 : decode uMod_read.2.1 107 = .ok (.iload 4, 2) := by decide +kernel
theorem dMod_read_109 : decode uMod_read.2.1 109 = .ok (.aload_n 0, 1) := by decide +kernel
theorem dMod_read_110 : decode uMod_read.2.1 110 = .ok (.getfield 81, 3) := by decide +kernel
theorem dMod_read_113 : decode uMod_read.2.1 113 = .ok (.iload 4, 2) := by decide +kernel
theorem dMod_read_115 : decode uMod_read.2.1 115 = .ok (.iaload, 1) := by decide +kernel
theorem dMod_read_116 : decode uMod_read.2.1 116 = .ok (.iload 5, 2) := by decide +kernel
theorem dMod_read_118 : decode uMod_read.2.1 118 = .ok (.iadd, 1) := by decide +kernel
theorem dMod_read_119 : decode uMod_read.2.1 119 = .ok (.iastore, 1) := by decide +kernel
theorem dMod_read_120 : decode uMod_read.2.1 120 = .ok (.aload_n 0, 1) := by decide +kernel
theorem dMod_read_121 : decode uMod_read.2.1 121 = .ok (.iconst 1, 1) := by decide +kernel
theorem dMod_read_122 : decode uMod_read.2.1 122 = .ok (.iload_n 1, 1) := by decide +kernel
theorem dMod_read_123 : decode uMod_read.2.1 123 = .ok (.isub, 1) := by decide +kernel
theorem dMod_read_124 : decode uMod_read.2.1 124 = .ok (.bipush 8, 2) := by decide +kernel
theorem dMod_read_126 : decode uMod_read.2.1 126 = .ok (.iload_n 2, 1) := by decide +kernel
theorem dMod_read_127 : decode uMod_read.2.1 127 = .ok (.iload 5, 2) := by decide +kernel
theorem dMod_read_129 : decode uMod_read.2.1 129 = .ok (.iconst 0, 1) := by decide +kernel
theorem dMod_read_130 : decode uMod_read.2.1 130 = .ok (.invokevirtual 182, 3) := by decide +kernel
theorem dMod_read_133 : decode uMod_read.2.1 133 = .ok (.pop, 1) := by decide +kernel
theorem dMod_read_134 : decode uMod_read.2.1 134 = .ok (.aload_n 0, 1) := by decide +kernel
theorem dMod_read_135 : decode uMod_read.2.1 135 = .ok (.getfield 186, 3) := by decide +kernel
theorem dMod_read_138 : decode uMod_read.2.1 138 = .ok (.lreturn, 1) := by decide +kernel
theorem dMod_reset_0 : decode uMod_reset.2.1 0 = .ok (.aload_n 0, 1) := by decide +kernel
theorem dMod_reset_1 : decode uMod_reset.2.1 1 = .ok (.iload_n 1, 1) := by decide +kernel
theorem dMod_reset_2 : decode uMod_reset.2.1 2 = .ok (.invokevirtual 309, 3) := by decide +kernel
theorem dMod_reset_5 : decode uMod_reset.2.1 5 = .ok (.ifCond .eq 28, 3) := by decide +kernel
theorem dMod_reset_8 : decode uMod_reset.2.1 8 = .ok (.iload_n 2, 1) := by decide +kernel
theorem dMod_reset_9 : decode uMod_reset.2.1 9 = .ok (.invokestatic 246, 3) := by decide +kernel
theorem dMod_reset_12 : decode uMod_reset.2.1 12 = .ok (.ifCond .eq 21, 3) := by decide +kernel
theorem dMod_reset_15 : decode uMod_reset.2.1 15 = .ok (.iload_n 3, 1) := by decide +kernel
theorem dMod_reset_16 : decode uMod_reset.2.1 16 = .ok (.ifCond .lt 17, 3) := by decide +kernel
theorem dMod_reset_19 : decode uMod_reset.2.1 19 = .ok (.iload_n 3, 1) := by decide +kernel
theorem dMod_reset_20 : decode uMod_reset.2.1 20 = .ok (.bipush 15, 2) := by decide +kernel
theorem dMod_reset_22 : decode uMod_reset.2.1 22 = .ok (.if_icmp .gt 11, 3) := by decide +kernel
theorem dMod_reset_25 : decode uMod_reset.2.1 25 = .ok (.aload_n 0, 1) := by decide +kernel
theorem dMod_reset_26 : decode uMod_reset.2.1 26 = .ok (.iload_n 1, 1) := by decide +kernel
theorem dMod_reset_27 : decode uMod_reset.2.1 27 = .ok (.invokevirtual 315, 3) := by decide +kernel
theorem dMod_reset_30 : decode uMod_reset.2.1 30 = .ok (.ifCond .eq 5, 3) := by decide +kernel
theorem dMod_reset_33 : decode uMod_reset.2.1 33 = .ok (.iconst 0, 1) := by decide +kernel
theorem dMod_reset_34 : decode uMod_reset.2.1 34 = .ok (.ireturn, 1) := by decide +kernel
theorem dMod_reset_35 : decode uMod_reset.2.1 35 = .ok (.aload_n 0, 1) := by decide +kernel
theorem dMod_reset_36 : decode uMod_reset.2.1 36 = .ok (.iload_n 1, 1) := by decide +kernel
theorem dMod_reset_37 : decode uMod_reset.2.1 37 = .ok (.iload_n 2, 1) := by decide +kernel
theorem dMod_reset_38 : decode uMod_reset.2.1 38 = .ok (.invokestatic 190, 3) := by decide +kernel
theorem dMod_reset_41 : decode uMod_reset.2.1 41 = .ok (.invokevirtual 179, 3) := by decide +kernel
theorem dMod_reset_44 : decode uMod_reset.2.1 44 = .ok (.ifCond .ne 5, 3) := by decide +kernel
theorem dMod_reset_47 : decode uMod_reset.2.1 47 = .ok (.iconst 0, 1) := by decide +kernel
theorem dMod_reset_48 : decode uMod_reset.2.1 48 = .ok (.ireturn, 1) := by decide +kernel
theorem dMod_reset_49 : decode uMod_reset.2.1 49 = .ok (.aload_n 0, 1) := by decide +kernel
theorem dMod_reset_50 : decode uMod_reset.2.1 50 = .ok (.iload_n 1, 1) := by decide +kernel
theorem dMod_reset_51 : decode uMod_reset.2.1 51 = .ok (.iload_n 2, 1) := by decide +kernel
theorem dMod_reset_52 : decode uMod_reset.2.1 52 = .ok (.iload_n 3, 1) := by decide +kernel
theorem dMod_reset_53 : decode uMod_reset.2.1 53 = .ok (.iconst 0, 1) := by decide +kernel
theorem dMod_reset_54 : decode uMod_reset.2.1 54 = .ok (.invokevirtual 255, 3) := by decide +kernel
theorem dMod_reset_57 : decode uMod_reset.2.1 57 = .ok (.pop, 1) := by decide +kernel
theorem dMod_reset_58 : decode uMod_reset.2.1 58 = .ok (.iconst 1, 1) := by decide +kernel
theorem dMod_reset_59 : decode uMod_reset.2.1 59 = .ok (.ireturn, 1) := by decide +kernel
theorem dMod_setting_0 : decode uMod_setting.2.1 0 = .ok (.aload_n 0, 1) := by decide +kernel
theorem dMod_setting_1 : decode uMod_setting.2.1 1 = .ok (.iload_n 1, 1) := by decide +kernel
theorem dMod_setting_2 : decode uMod_setting.2.1 2 = .ok (.invokevirtual 309, 3) := by decide +kernel
theorem dMod_setting_5 : decode uMod_setting.2.1 5 = .ok (.ifCond .eq 41, 3) := by decide +kernel
theorem dMod_setting_8 : decode uMod_setting.2.1 8 = .ok (.iload_n 2, 1) := by decide +kernel
theorem dMod_setting_9 : decode uMod_setting.2.1 9 = .ok (.invokestatic 279, 3) := by decide +kernel
theorem dMod_setting_12 : decode uMod_setting.2.1 12 = .ok (.ifCond .eq 34, 3) := by decide +kernel
theorem dMod_setting_15 : decode uMod_setting.2.1 15 = .ok (.iload_n 3, 1) := by decide +kernel
theorem dMod_setting_16 : decode uMod_setting.2.1 16 = .ok (.ifCond .lt 30, 3) := by decide +kernel
theorem dMod_setting_19 : decode uMod_setting.2.1 19 = .ok (.iload_n 3, 1) := by decide +kernel
theorem dMod_setting_20 : decode uMod_setting.2.1 20 = .ok (.iload_n 2, 1) := by decide +kernel
theorem dMod_setting_21 : decode uMod_setting.2.1 21 = .ok (.invokestatic 282, 3) := by decide +kernel
theorem dMod_setting_24 : decode uMod_setting.2.1 24 = .ok (.if_icmp .gt 22, 3) := by decide +kernel
theorem dMod_setting_27 : decode uMod_setting.2.1 27 = .ok (.aload_n 0, 1) := by decide +kernel
theorem dMod_setting_28 : decode uMod_setting.2.1 28 = .ok (.getfield 132, 3) := by decide +kernel
theorem dMod_setting_31 : decode uMod_setting.2.1 31 = .ok (.iload_n 1, 1) := by decide +kernel
theorem dMod_setting_32 : decode uMod_setting.2.1 32 = .ok (.iaload, 1) := by decide +kernel
theorem dMod_setting_33 : decode uMod_setting.2.1 33 = .ok (.bipush 8, 2) := by decide +kernel
theorem dMod_setting_35 : decode uMod_setting.2.1 35 = .ok (.if_icmp .ge 11, 3) := by decide +kernel
theorem dMod_setting_38 : decode uMod_setting.2.1 38 = .ok (.aload_n 0, 1) := by decide +kernel
theorem dMod_setting_39 : decode uMod_setting.2.1 39 = .ok (.iload_n 1, 1) := by decide +kernel
theorem dMod_setting_40 : decode uMod_setting.2.1 40 = .ok (.invokevirtual 315, 3) := by decide +kernel
theorem dMod_setting_43 : decode uMod_setting.2.1 43 = .ok (.ifCond .eq 5, 3) := by decide +kernel
theorem dMod_setting_46 : decode uMod_setting.2.1 46 = .ok (.iconst 0, 1) := by decide +kernel
theorem dMod_setting_47 : decode uMod_setting.2.1 47 = .ok (.ireturn, 1) := by decide +kernel
theorem dMod_setting_48 : decode uMod_setting.2.1 48 = .ok (.aload_n 0, 1) := by decide +kernel
theorem dMod_setting_49 : decode uMod_setting.2.1 49 = .ok (.getfield 135, 3) := by decide +kernel
theorem dMod_setting_52 : decode uMod_setting.2.1 52 = .ok (.bipush 8, 2) := by decide +kernel
theorem dMod_setting_54 : decode uMod_setting.2.1 54 = .ok (.iload_n 1, 1) := by decide +kernel
theorem dMod_setting_55 : decode uMod_setting.2.1 55 = .ok (.imul, 1) := by decide +kernel
theorem dMod_setting_56 : decode uMod_setting.2.1 56 = .ok (.aload_n 0, 1) := by decide +kernel
theorem dMod_setting_57 : decode uMod_setting.2.1 57 = .ok (.getfield 132, 3) := by decide +kernel
theorem dMod_setting_60 : decode uMod_setting.2.1 60 = .ok (.iload_n 1, 1) := by decide +kernel
theorem dMod_setting_61 : decode uMod_setting.2.1 61 = .ok (.iaload, 1) := by decide +kernel
theorem dMod_setting_62 : decode uMod_setting.2.1 62 = .ok (.iadd, 1) := by decide +kernel
theorem dMod_setting_63 : decode uMod_setting.2.1 63 = .ok (.iload_n 2, 1) := by decide +kernel
theorem dMod_setting_64 : decode uMod_setting.2.1 64 = .ok (.iastore, 1) := by decide +kernel
theorem dMod_setting_65 : decode uMod_setting.2.1 65 = .ok (.aload_n 0, 1) := by decide +kernel
theorem dMod_setting_66 : decode uMod_setting.2.1 66 = .ok (.getfield 138, 3) := by decide +kernel
theorem dMod_setting_69 : decode uMod_setting.2.1 69 = .ok (.bipush 8, 2) := by decide +kernel
theorem dMod_setting_71 : decode uMod_setting.2.1 71 = .ok (.iload_n 1, 1) := by decide +kernel
theorem dMod_setting_72 : decode uMod_setting.2.1 72 = .ok (.imul, 1) := by decide +kernel
theorem dMod_setting_73 : decode uMod_setting.2.1 73 = .ok (.aload_n 0, 1) := by decide +kernel
theorem dMod_setting_74 : decode uMod_setting.2.1 74 = .ok (.getfield 132, 3) := by decide +kernel
theorem dMod_setting_77 : decode uMod_setting.2.1 77 = .ok (.iload_n 1, 1) := by decide +kernel
theorem dMod_setting_78 : decode uMod_setting.2.1 78 = .ok (.iaload, 1) := by decide +kernel
theorem dMod_setting_79 : decode uMod_setting.2.1 79 = .ok (.iadd, 1) := by decide +kernel
theorem dMod_setting_80 : decode uMod_setting.2.1 80 = .ok (.iload_n 3, 1) := by decide +kernel
theorem dMod_setting_81 : decode uMod_setting.2.1 81 = .ok (.iastore, 1) := by decide +kernel
theorem dMod_setting_82 : decode uMod_setting.2.1 82 = .ok (.aload_n 0, 1) := by decide +kernel
theorem dMod_setting_83 : decode uMod_setting.2.1 83 = .ok (.getfield 132, 3) := by decide +kernel
theorem dMod_setting_86 : decode uMod_setting.2.1 86 = .ok (.iload_n 1, 1) := by decide +kernel
theorem dMod_setting_87 : decode uMod_setting.2.1 87 = .ok (.aload_n 0, 1) := by decide +kernel
theorem dMod_setting_88 : decode uMod_setting.2.1 88 = .ok (.getfield 132, 3) := by decide +kernel
theorem dMod_setting_91 : decode uMod_setting.2.1 91 = .ok (.iload_n 1, 1) := by decide +kernel
theorem dMod_setting_92 : decode uMod_setting.2.1 92 = .ok (.iaload, 1) := by decide +kernel
theorem dMod_setting_93 : decode uMod_setting.2.1 93 = .ok (.iconst 1, 1) := by decide +kernel
theorem dMod_setting_94 : decode uMod_setting.2.1 94 = .ok (.iadd, 1) := by decide +kernel
theorem dMod_setting_95 : decode uMod_setting.2.1 95 = .ok (.iastore, 1) := by decide +kernel
theorem dMod_setting_96 : decode uMod_setting.2.1 96 = .ok (.aload_n 0, 1) := by decide +kernel
theorem dMod_setting_97 : decode uMod_setting.2.1 97 = .ok (.iconst 1, 1) := by decide +kernel
theorem dMod_setting_98 : decode uMod_setting.2.1 98 = .ok (.iload_n 1, 1) := by decide +kernel
theorem dMod_setting_99 : decode uMod_setting.2.1 99 = .ok (.isub, 1) := by decide +kernel
theorem dMod_setting_100 : decode uMod_setting.2.1 100 = .ok (.iconst 4, 1) := by decide +kernel
theorem dMod_setting_101 : decode uMod_setting.2.1 101 = .ok (.iconst 0, 1) := by decide +kernel
theorem dMod_setting_102 : decode uMod_setting.2.1 102 = .ok (.iload_n 3, 1) := by decide +kernel
theorem dMod_setting_103 : decode uMod_setting.2.1 103 = .ok (.iconst 0, 1) := by decide +kernel
theorem dMod_setting_104 : decode uMod_setting.2.1 104 = .ok (.invokevirtual 182, 3) := by decide +kernel
theorem dMod_setting_107 : decode uMod_setting.2.1 107 = .ok (.istore 4, 2) := by decide +kernel
theorem dMod_setting_109 : decode uMod_setting.2.1 109 = .ok (.aload_n 0, 1) := by decide +kernel
theorem dMod_setting_110 : decode uMod_setting.2.1 110 = .ok (.getfield 32, 3) := by decide +kernel
theorem dMod_setting_113 : decode uMod_setting.2.1 113 = .ok (.iload 4, 2) := by decide +kernel
theorem dMod_setting_115 : decode uMod_setting.2.1 115 = .ok (.iload_n 2, 1) := by decide +kernel
theorem dMod_setting_116 : decode uMod_setting.2.1 116 = .ok (.iastore, 1) := by decide +kernel
theorem dMod_setting_117 : decode uMod_setting.2.1 117 = .ok (.iconst 1, 1) := by decide +kernel
theorem dMod_setting_118 : decode uMod_setting.2.1 118 = .ok (.ireturn, 1) := by decide +kernel
theorem dMod_deliver_0 : decode uMod_deliver.2.1 0 = .ok (.iload_n 1, 1) := by decide +kernel
theorem dMod_deliver_1 : decode uMod_deliver.2.1 1 = .ok (.invokestatic 171, 3) := by decide +kernel
theorem dMod_deliver_4 : decode uMod_deliver.2.1 4 = .ok (.ifCond .eq 12, 3) := by decide +kernel
theorem dMod_deliver_7 : decode uMod_deliver.2.1 7 = .ok (.aload_n 0, 1) := by decide +kernel
theorem dMod_deliver_8 : decode uMod_deliver.2.1 8 = .ok (.getfield 16, 3) := by decide +kernel
theorem dMod_deliver_11 : decode uMod_deliver.2.1 11 = .ok (.iload_n 1, 1) := by decide +kernel
theorem dMod_deliver_12 : decode uMod_deliver.2.1 12 = .ok (.iaload, 1) := by decide +kernel
theorem dMod_deliver_13 : decode uMod_deliver.2.1 13 = .ok (.ifCond .ne 5, 3) := by decide +kernel
theorem dMod_deliver_16 : decode uMod_deliver.2.1 16 = .ok (.iconst (-1), 1) := by decide +kernel
theorem dMod_deliver_17 : decode uMod_deliver.2.1 17 = .ok (.ireturn, 1) := by decide +kernel
theorem dMod_deliver_18 : decode uMod_deliver.2.1 18 = .ok (.aload_n 0, 1) := by decide +kernel
theorem dMod_deliver_19 : decode uMod_deliver.2.1 19 = .ok (.getfield 7, 3) := by decide +kernel
theorem dMod_deliver_22 : decode uMod_deliver.2.1 22 = .ok (.iload_n 1, 1) := by decide +kernel
theorem dMod_deliver_23 : decode uMod_deliver.2.1 23 = .ok (.iaload, 1) := by decide +kernel
theorem dMod_deliver_24 : decode uMod_deliver.2.1 24 = .ok (.ifCond .ne 19, 3) := by decide +kernel
theorem dMod_deliver_27 : decode uMod_deliver.2.1 27 = .ok (.aload_n 0, 1) := by decide +kernel
theorem dMod_deliver_28 : decode uMod_deliver.2.1 28 = .ok (.getfield 16, 3) := by decide +kernel
theorem dMod_deliver_31 : decode uMod_deliver.2.1 31 = .ok (.iconst 1, 1) := by decide +kernel
theorem dMod_deliver_32 : decode uMod_deliver.2.1 32 = .ok (.iload_n 1, 1) := by decide +kernel
theorem dMod_deliver_33 : decode uMod_deliver.2.1 33 = .ok (.isub, 1) := by decide +kernel
theorem dMod_deliver_34 : decode uMod_deliver.2.1 34 = .ok (.iaload, 1) := by decide +kernel
theorem dMod_deliver_35 : decode uMod_deliver.2.1 35 = .ok (.bipush 40, 2) := by decide +kernel
theorem dMod_deliver_37 : decode uMod_deliver.2.1 37 = .ok (.if_icmp .lt 6, 3) := by decide +kernel
theorem dMod_deliver_40 : decode uMod_deliver.2.1 40 = .ok (.bipush (-2), 2) := by decide +kernel
theorem dMod_deliver_42 : decode uMod_deliver.2.1 42 = .ok (.ireturn, 1) := by decide +kernel
theorem dMod_deliver_43 : decode uMod_deliver.2.1 43 = .ok (.bipush 48, 2) := by decide +kernel
theorem dMod_deliver_45 : decode uMod_deliver.2.1 45 = .ok (.iload_n 1, 1) := by decide +kernel
theorem dMod_deliver_46 : decode uMod_deliver.2.1 46 = .ok (.imul, 1) := by decide +kernel
theorem dMod_deliver_47 : decode uMod_deliver.2.1 47 = .ok (.aload_n 0, 1) := by decide +kernel
theorem dMod_deliver_48 : decode uMod_deliver.2.1 48 = .ok (.getfield 13, 3) := by decide +kernel
theorem dMod_deliver_51 : decode uMod_deliver.2.1 51 = .ok (.iload_n 1, 1) := by decide +kernel
theorem dMod_deliver_52 : decode uMod_deliver.2.1 52 = .ok (.iaload, 1) := by decide +kernel
theorem dMod_deliver_53 : decode uMod_deliver.2.1 53 = .ok (.iadd, 1) := by decide +kernel
theorem dMod_deliver_54 : decode uMod_deliver.2.1 54 = .ok (.istore_n 2, 1) := by decide +kernel
theorem dMod_deliver_55 : decode uMod_deliver.2.1 55 = .ok (.aload_n 0, 1) := by decide +kernel
theorem dMod_deliver_56 : decode uMod_deliver.2.1 56 = .ok (.getfield 13, 3) := by decide +kernel
theorem dMod_deliver_59 : decode uMod_deliver.2.1 59 = .ok (.iload_n 1, 1) := by decide +kernel
theorem dMod_deliver_60 : decode uMod_deliver.2.1 60 = .ok (.aload_n 0, 1) := by decide +kernel
theorem dMod_deliver_61 : decode uMod_deliver.2.1 61 = .ok (.getfield 13, 3) := by decide +kernel
theorem dMod_deliver_64 : decode uMod_deliver.2.1 64 = .ok (.iload_n 1, 1) := by decide +kernel
theorem dMod_deliver_65 : decode uMod_deliver.2.1 65 = .ok (.iaload, 1) := by decide +kernel
theorem dMod_deliver_66 : decode uMod_deliver.2.1 66 = .ok (.iconst 1, 1) := by decide +kernel
theorem dMod_deliver_67 : decode uMod_deliver.2.1 67 = .ok (.iadd, 1) := by decide +kernel
theorem dMod_deliver_68 : decode uMod_deliver.2.1 68 = .ok (.bipush 48, 2) := by decide +kernel
theorem dMod_deliver_70 : decode uMod_deliver.2.1 70 = .ok (.irem, 1) := by decide +kernel
theorem dMod_deliver_71 : decode uMod_deliver.2.1 71 = .ok (.iastore, 1) := by decide +kernel
theorem dMod_deliver_72 : decode uMod_deliver.2.1 72 = .ok (.aload_n 0, 1) := by decide +kernel
theorem dMod_deliver_73 : decode uMod_deliver.2.1 73 = .ok (.getfield 16, 3) := by decide +kernel
theorem dMod_deliver_76 : decode uMod_deliver.2.1 76 = .ok (.iload_n 1, 1) := by decide +kernel
theorem dMod_deliver_77 : decode uMod_deliver.2.1 77 = .ok (.aload_n 0, 1) := by decide +kernel
theorem dMod_deliver_78 : decode uMod_deliver.2.1 78 = .ok (.getfield 16, 3) := by decide +kernel
theorem dMod_deliver_81 : decode uMod_deliver.2.1 81 = .ok (.iload_n 1, 1) := by decide +kernel
theorem dMod_deliver_82 : decode uMod_deliver.2.1 82 = .ok (.iaload, 1) := by decide +kernel
theorem dMod_deliver_83 : decode uMod_deliver.2.1 83 = .ok (.iconst 1, 1) := by decide +kernel
theorem dMod_deliver_84 : decode uMod_deliver.2.1 84 = .ok (.isub, 1) := by decide +kernel
theorem dMod_deliver_85 : decode uMod_deliver.2.1 85 = .ok (.iastore, 1) := by decide +kernel
theorem dMod_deliver_86 : decode uMod_deliver.2.1 86 = .ok (.aload_n 0, 1) := by decide +kernel
theorem dMod_deliver_87 : decode uMod_deliver.2.1 87 = .ok (.getfield 7, 3) := by decide +kernel
theorem dMod_deliver_90 : decode uMod_deliver.2.1 90 = .ok (.iload_n 1, 1) := by decide +kernel
theorem dMod_deliver_91 : decode uMod_deliver.2.1 91 = .ok (.iaload, 1) := by decide +kernel
theorem dMod_deliver_92 : decode uMod_deliver.2.1 92 = .ok (.ifCond .eq 5, 3) := by decide +kernel
theorem dMod_deliver_95 : decode uMod_deliver.2.1 95 = .ok (.iconst 0, 1) := by decide +kernel
theorem dMod_deliver_96 : decode uMod_deliver.2.1 96 = .ok (.ireturn, 1) := by decide +kernel
theorem dMod_deliver_97 : decode uMod_deliver.2.1 97 = .ok (.aload_n 0, 1) := by decide +kernel
theorem dMod_deliver_98 : decode uMod_deliver.2.1 98 = .ok (.getfield 19, 3) := by decide +kernel
theorem dMod_deliver_101 : decode uMod_deliver.2.1 101 = .ok (.iload_n 2, 1) := by decide +kernel
theorem dMod_deliver_102 : decode uMod_deliver.2.1 102 = .ok (.iaload, 1) := by decide +kernel
theorem dMod_deliver_103 : decode uMod_deliver.2.1 103 = .ok (.istore_n 3, 1) := by decide +kernel
theorem dMod_deliver_104 : decode uMod_deliver.2.1 104 = .ok (.iload_n 3, 1) := by decide +kernel
theorem dMod_deliver_105 : decode uMod_deliver.2.1 105 = .ok (.iconst 2, 1) := by decide +kernel
theorem dMod_deliver_106 : decode uMod_deliver.2.1 106 = .ok (.if_icmp .ge 23, 3) := by decide +kernel
theorem dMod_deliver_109 : decode uMod_deliver.2.1 109 = .ok (.iload_n 3, 1) := by decide +kernel
theorem dMod_deliver_110 : decode uMod_deliver.2.1 110 = .ok (.ifCond .ne 12, 3) := by decide +kernel
theorem dMod_deliver_113 : decode uMod_deliver.2.1 113 = .ok (.aload_n 0, 1) := by decide +kernel
theorem dMod_deliver_114 : decode uMod_deliver.2.1 114 = .ok (.iload_n 1, 1) := by decide +kernel
theorem dMod_deliver_115 : decode uMod_deliver.2.1 115 = .ok (.iload_n 2, 1) := by decide +kernel
theorem dMod_deliver_116 : decode uMod_deliver.2.1 116 = .ok (.invokevirtual 291, 3) := by decide +kernel
theorem dMod_deliver_119 : decode uMod_deliver.2.1 119 = .ok (.goto 9, 3) := by decide +kernel
theorem dMod_deliver_122 : decode uMod_deliver.2.1 122 = .ok (.aload_n 0, 1) := by decide +kernel
theorem dMod_deliver_123 : decode uMod_deliver.2.1 123 = .ok (.iload_n 1, 1) := by decide +kernel
theorem dMod_deliver_124 : decode uMod_deliver.2.1 124 = .ok (.iload_n 2, 1) := by decide +kernel
theorem dMod_deliver_125 : decode uMod_deliver.2.1 125 = .ok (.invokevirtual 294, 3) := by decide +kernel
theorem dMod_deliver_128 : decode uMod_deliver.2.1 128 = .ok (.ireturn, 1) := by decide +kernel
theorem dMod_deliver_129 : decode uMod_deliver.2.1 129 = .ok (.iload_n 3, 1) := by decide +kernel
theorem dMod_deliver_130 : decode uMod_deliver.2.1 130 = .ok (.iconst 3, 1) := by decide +kernel
theorem dMod_deliver_131 : decode uMod_deliver.2.1 131 = .ok (.if_icmp .ne 15, 3) := by decide +kernel
theorem dMod_deliver_134 : decode uMod_deliver.2.1 134 = .ok (.aload_n 0, 1) := by decide +kernel
theorem dMod_deliver_135 : decode uMod_deliver.2.1 135 = .ok (.iload_n 1, 1) := by decide +kernel
theorem dMod_deliver_136 : decode uMod_deliver.2.1 136 = .ok (.aload_n 0, 1) := by decide +kernel
theorem dMod_deliver_137 : decode uMod_deliver.2.1 137 = .ok (.getfield 22, 3) := by decide +kernel
theorem dMod_deliver_140 : decode uMod_deliver.2.1 140 = .ok (.iload_n 2, 1) := by decide +kernel
theorem dMod_deliver_141 : decode uMod_deliver.2.1 141 = .ok (.iaload, 1) := by decide +kernel
theorem dMod_deliver_142 : decode uMod_deliver.2.1 142 = .ok (.invokevirtual 297, 3) := by decide +kernel
theorem dMod_deliver_145 : decode uMod_deliver.2.1 145 = .ok (.ireturn, 1) := by decide +kernel
theorem dMod_deliver_146 : decode uMod_deliver.2.1 146 = .ok (.iload_n 3, 1) := by decide +kernel
theorem dMod_deliver_147 : decode uMod_deliver.2.1 147 = .ok (.iconst 4, 1) := by decide +kernel
theorem dMod_deliver_148 : decode uMod_deliver.2.1 148 = .ok (.if_icmp .ne 38, 3) := by decide +kernel
theorem dMod_deliver_151 : decode uMod_deliver.2.1 151 = .ok (.aload_n 0, 1) := by decide +kernel
theorem dMod_deliver_152 : decode uMod_deliver.2.1 152 = .ok (.getfield 28, 3) := by decide +kernel
theorem dMod_deliver_155 : decode uMod_deliver.2.1 155 = .ok (.iload_n 2, 1) := by decide +kernel
theorem dMod_deliver_156 : decode uMod_deliver.2.1 156 = .ok (.baload, 1) := by decide +kernel
theorem dMod_deliver_157 : decode uMod_deliver.2.1 157 = .ok (.ifCond .eq 11, 3) := by decide +kernel
theorem dMod_deliver_160 : decode uMod_deliver.2.1 160 = .ok (.aload_n 0, 1) := by decide +kernel
theorem dMod_deliver_161 : decode uMod_deliver.2.1 161 = .ok (.iload_n 1, 1) := by decide +kernel
theorem dMod_deliver_162 : decode uMod_deliver.2.1 162 = .ok (.invokevirtual 300, 3) := by decide +kernel
theorem dMod_deliver_165 : decode uMod_deliver.2.1 165 = .ok (.goto 20, 3) := by decide +kernel
theorem dMod_deliver_168 : decode uMod_deliver.2.1 168 = .ok (.aload_n 0, 1) := by decide +kernel
theorem dMod_deliver_169 : decode uMod_deliver.2.1 169 = .ok (.iload_n 1, 1) := by decide +kernel
theorem dMod_deliver_170 : decode uMod_deliver.2.1 170 = .ok (.aload_n 0, 1) := by decide +kernel
theorem dMod_deliver_171 : decode uMod_deliver.2.1 171 = .ok (.getfield 32, 3) := by decide +kernel
theorem dMod_deliver_174 : decode uMod_deliver.2.1 174 = .ok (.iload_n 2, 1) := by decide +kernel
theorem dMod_deliver_175 : decode uMod_deliver.2.1 175 = .ok (.iaload, 1) := by decide +kernel
theorem dMod_deliver_176 : decode uMod_deliver.2.1 176 = .ok (.aload_n 0, 1) := by decide +kernel
theorem dMod_deliver_177 : decode uMod_deliver.2.1 177 = .ok (.getfield 25, 3) := by decide +kernel
theorem dMod_deliver_180 : decode uMod_deliver.2.1 180 = .ok (.iload_n 2, 1) := by decide +kernel
theorem dMod_deliver_181 : decode uMod_deliver.2.1 181 = .ok (.iaload, 1) := by decide +kernel
theorem dMod_deliver_182 : decode uMod_deliver.2.1 182 = .ok (.invokevirtual 303, 3) := by decide +kernel
theorem dMod_deliver_185 : decode uMod_deliver.2.1 185 = .ok (.ireturn, 1) := by decide +kernel
theorem dMod_deliver_186 : decode uMod_deliver.2.1 186 = .ok (.iload_n 3, 1) := by decide +kernel
theorem dMod_deliver_187 : decode uMod_deliver.2.1 187 = .ok (.bipush 8, 2) := by decide +kernel
theorem dMod_deliver_189 : decode uMod_deliver.2.1 189 = .ok (.if_icmp .ne 21, 3) := by decide +kernel
theorem dMod_deliver_192 : decode uMod_deliver.2.1 192 = .ok (.aload_n 0, 1) := by decide +kernel
theorem dMod_deliver_193 : decode uMod_deliver.2.1 193 = .ok (.iload_n 1, 1) := by decide +kernel
theorem dMod_deliver_194 : decode uMod_deliver.2.1 194 = .ok (.aload_n 0, 1) := by decide +kernel
theorem dMod_deliver_195 : decode uMod_deliver.2.1 195 = .ok (.getfield 22, 3) := by decide +kernel
theorem dMod_deliver_198 : decode uMod_deliver.2.1 198 = .ok (.iload_n 2, 1) := by decide +kernel
theorem dMod_deliver_199 : decode uMod_deliver.2.1 199 = .ok (.iaload, 1) := by decide +kernel
theorem dMod_deliver_200 : decode uMod_deliver.2.1 200 = .ok (.aload_n 0, 1) := by decide +kernel
theorem dMod_deliver_201 : decode uMod_deliver.2.1 201 = .ok (.getfield 25, 3) := by decide +kernel
theorem dMod_deliver_204 : decode uMod_deliver.2.1 204 = .ok (.iload_n 2, 1) := by decide +kernel
theorem dMod_deliver_205 : decode uMod_deliver.2.1 205 = .ok (.iaload, 1) := by decide +kernel
theorem dMod_deliver_206 : decode uMod_deliver.2.1 206 = .ok (.invokevirtual 306, 3) := by decide +kernel
theorem dMod_deliver_209 : decode uMod_deliver.2.1 209 = .ok (.ireturn, 1) := by decide +kernel
theorem dMod_deliver_210 : decode uMod_deliver.2.1 210 = .ok (.aload_n 0, 1) := by decide +kernel
theorem dMod_deliver_211 : decode uMod_deliver.2.1 211 = .ok (.getfield 7, 3) := by decide +kernel
theorem dMod_deliver_214 : decode uMod_deliver.2.1 214 = .ok (.iload_n 1, 1) := by decide +kernel
theorem dMod_deliver_215 : decode uMod_deliver.2.1 215 = .ok (.sipush 200, 3) := by decide +kernel
theorem dMod_deliver_218 : decode uMod_deliver.2.1 218 = .ok (.aload_n 0, 1) := by decide +kernel
theorem dMod_deliver_219 : decode uMod_deliver.2.1 219 = .ok (.getfield 25, 3) := by decide +kernel
theorem dMod_deliver_222 : decode uMod_deliver.2.1 222 = .ok (.iload_n 2, 1) := by decide +kernel
theorem dMod_deliver_223 : decode uMod_deliver.2.1 223 = .ok (.iaload, 1) := by decide +kernel
theorem dMod_deliver_224 : decode uMod_deliver.2.1 224 = .ok (.iadd, 1) := by decide +kernel
theorem dMod_deliver_225 : decode uMod_deliver.2.1 225 = .ok (.iastore, 1) := by decide +kernel
theorem dMod_deliver_226 : decode uMod_deliver.2.1 226 = .ok (.iconst 0, 1) := by decide +kernel
theorem dMod_deliver_227 : decode uMod_deliver.2.1 227 = .ok (.ireturn, 1) := by decide +kernel
theorem dMod_frame_0 : decode uMod_frame.2.1 0 = .ok (.iload_n 1, 1) := by decide +kernel
theorem dMod_frame_1 : decode uMod_frame.2.1 1 = .ok (.invokestatic 171, 3) := by decide +kernel
theorem dMod_frame_4 : decode uMod_frame.2.1 4 = .ok (.ifCond .eq 26, 3) := by decide +kernel
theorem dMod_frame_7 : decode uMod_frame.2.1 7 = .ok (.iload_n 2, 1) := by decide +kernel
theorem dMod_frame_8 : decode uMod_frame.2.1 8 = .ok (.ifCond .lt 22, 3) := by decide +kernel
theorem dMod_frame_11 : decode uMod_frame.2.1 11 = .ok (.iload_n 2, 1) := by decide +kernel
theorem dMod_frame_12 : decode uMod_frame.2.1 12 = .ok (.aload_n 0, 1) := by decide +kernel
theorem dMod_frame_13 : decode uMod_frame.2.1 13 = .ok (.getfield 16, 3) := by decide +kernel
theorem dMod_frame_16 : decode uMod_frame.2.1 16 = .ok (.iload_n 1, 1) := by decide +kernel
theorem dMod_frame_17 : decode uMod_frame.2.1 17 = .ok (.iaload, 1) := by decide +kernel
theorem dMod_frame_18 : decode uMod_frame.2.1 18 = .ok (.if_icmp .ge 12, 3) := by decide +kernel
theorem dMod_frame_21 : decode uMod_frame.2.1 21 = .ok (.iload_n 3, 1) := by decide +kernel
theorem dMod_frame_22 : decode uMod_frame.2.1 22 = .ok (.ifCond .lt 8, 3) := by decide +kernel
theorem dMod_frame_25 : decode uMod_frame.2.1 25 = .ok (.iload_n 3, 1) := by decide +kernel
theorem dMod_frame_26 : decode uMod_frame.2.1 26 = .ok (.iconst 4, 1) := by decide +kernel
theorem dMod_frame_27 : decode uMod_frame.2.1 27 = .ok (.if_icmp .le 5, 3) := by decide +kernel
theorem dMod_frame_30 : decode uMod_frame.2.1 30 = .ok (.iconst (-1), 1) := by decide +kernel
theorem dMod_frame_31 : decode uMod_frame.2.1 31 = .ok (.ireturn, 1) := by decide +kernel
theorem dMod_frame_32 : decode uMod_frame.2.1 32 = .ok (.bipush 48, 2) := by decide +kernel
theorem dMod_frame_34 : decode uMod_frame.2.1 34 = .ok (.iload_n 1, 1) := by decide +kernel
theorem dMod_frame_35 : decode uMod_frame.2.1 35 = .ok (.imul, 1) := by decide +kernel
theorem dMod_frame_36 : decode uMod_frame.2.1 36 = .ok (.aload_n 0, 1) := by decide +kernel
theorem dMod_frame_37 : decode uMod_frame.2.1 37 = .ok (.getfield 13, 3) := by decide +kernel
theorem dMod_frame_40 : decode uMod_frame.2.1 40 = .ok (.iload_n 1, 1) := by decide +kernel
theorem dMod_frame_41 : decode uMod_frame.2.1 41 = .ok (.iaload, 1) := by decide +kernel
theorem dMod_frame_42 : decode uMod_frame.2.1 42 = .ok (.iload_n 2, 1) := by decide +kernel
theorem dMod_frame_43 : decode uMod_frame.2.1 43 = .ok (.iadd, 1) := by decide +kernel
theorem dMod_frame_44 : decode uMod_frame.2.1 44 = .ok (.bipush 48, 2) := by decide +kernel
theorem dMod_frame_46 : decode uMod_frame.2.1 46 = .ok (.irem, 1) := by decide +kernel
theorem dMod_frame_47 : decode uMod_frame.2.1 47 = .ok (.iadd, 1) := by decide +kernel
theorem dMod_frame_48 : decode uMod_frame.2.1 48 = .ok (.istore 4, 2) := by decide +kernel
theorem dMod_frame_50 : decode uMod_frame.2.1 50 = .ok (.iload_n 3, 1) := by decide +kernel
theorem dMod_frame_51 : decode uMod_frame.2.1 51 = .ok (.iconst 3, 1) := by decide +kernel
theorem dMod_frame_52 : decode uMod_frame.2.1 52 = .ok (.if_icmp .ge 40, 3) := by decide +kernel
theorem dMod_frame_55 : decode uMod_frame.2.1 55 = .ok (.iload_n 3, 1) := by decide +kernel
theorem dMod_frame_56 : decode uMod_frame.2.1 56 = .ok (.ifCond .ne 13, 3) := by decide +kernel
theorem dMod_frame_59 : decode uMod_frame.2.1 59 = .ok (.aload_n 0, 1) := by decide +kernel
theorem dMod_frame_60 : decode uMod_frame.2.1 60 = .ok (.getfield 19, 3) := by decide +kernel
theorem dMod_frame_63 : decode uMod_frame.2.1 63 = .ok (.iload 4, 2) := by decide +kernel
theorem dMod_frame_65 : decode uMod_frame.2.1 65 = .ok (.iaload, 1) := by decide +kernel
theorem dMod_frame_66 : decode uMod_frame.2.1 66 = .ok (.goto 25, 3) := by decide +kernel
theorem dMod_frame_69 : decode uMod_frame.2.1 69 = .ok (.iload_n 3, 1) := by decide +kernel
theorem dMod_frame_70 : decode uMod_frame.2.1 70 = .ok (.iconst 1, 1) := by decide +kernel
theorem dMod_frame_71 : decode uMod_frame.2.1 71 = .ok (.if_icmp .ne 13, 3) := by decide +kernel
theorem dMod_frame_74 : decode uMod_frame.2.1 74 = .ok (.aload_n 0, 1) := by decide +kernel
theorem dMod_frame_75 : decode uMod_frame.2.1 75 = .ok (.getfield 22, 3) := by decide +kernel
theorem dMod_frame_78 : decode uMod_frame.2.1 78 = .ok (.iload 4, 2) := by decide +kernel
theorem dMod_frame_80 : decode uMod_frame.2.1 80 = .ok (.iaload, 1) := by decide +kernel
theorem dMod_frame_81 : decode uMod_frame.2.1 81 = .ok (.goto 10, 3) := by decide +kernel
theorem dMod_frame_84 : decode uMod_frame.2.1 84 = .ok (.aload_n 0, 1) := by decide +kernel
theorem dMod_frame_85 : decode uMod_frame.2.1 85 = .ok (.getfield 25, 3) := by decide +kernel
theorem dMod_frame_88 : decode uMod_frame.2.1 88 = .ok (.iload 4, 2) := by decide +kernel
theorem dMod_frame_90 : decode uMod_frame.2.1 90 = .ok (.iaload, 1) := by decide +kernel
theorem dMod_frame_91 : decode uMod_frame.2.1 91 = .ok (.ireturn, 1) := by decide +kernel
theorem dMod_frame_92 : decode uMod_frame.2.1 92 = .ok (.iload_n 3, 1) := by decide +kernel
theorem dMod_frame_93 : decode uMod_frame.2.1 93 = .ok (.iconst 3, 1) := by decide +kernel
theorem dMod_frame_94 : decode uMod_frame.2.1 94 = .ok (.if_icmp .ne 19, 3) := by decide +kernel
theorem dMod_frame_97 : decode uMod_frame.2.1 97 = .ok (.aload_n 0, 1) := by decide +kernel
theorem dMod_frame_98 : decode uMod_frame.2.1 98 = .ok (.getfield 28, 3) := by decide +kernel
theorem dMod_frame_101 : decode uMod_frame.2.1 101 = .ok (.iload 4, 2) := by decide +kernel
theorem dMod_frame_103 : decode uMod_frame.2.1 103 = .ok (.baload, 1) := by decide +kernel
theorem dMod_frame_104 : decode uMod_frame.2.1 104 = .ok (.ifCond .eq 7, 3) := by decide +kernel
theorem dMod_frame_107 : decode uMod_frame.2.1 107 = .ok (.iconst 1, 1) := by decide +kernel
theorem dMod_frame_108 : decode uMod_frame.2.1 108 = .ok (.goto 4, 3) := by decide +kernel
theorem dMod_frame_111 : decode uMod_frame.2.1 111 = .ok (.iconst 0, 1) := by decide +kernel
theorem dMod_frame_112 : decode uMod_frame.2.1 112 = .ok (.ireturn, 1) := by decide +kernel
theorem dMod_frame_113 : decode uMod_frame.2.1 113 = .ok (.aload_n 0, 1) := by decide +kernel
theorem dMod_frame_114 : decode uMod_frame.2.1 114 = .ok (.getfield 32, 3) := by decide +kernel
theorem dMod_frame_117 : decode uMod_frame.2.1 117 = .ok (.iload 4, 2) := by decide +kernel
theorem dMod_frame_119 : decode uMod_frame.2.1 119 = .ok (.iaload, 1) := by decide +kernel
theorem dMod_frame_120 : decode uMod_frame.2.1 120 = .ok (.istore 5, 2) := by decide +kernel
theorem dMod_frame_122 : decode uMod_frame.2.1 122 = .ok (.iconst 0, 1) := by decide +kernel
theorem dMod_frame_123 : decode uMod_frame.2.1 123 = .ok (.istore 6, 2) := by decide +kernel
theorem dMod_frame_125 : decode uMod_frame.2.1 125 = .ok (.iload 6, 2) := by decide +kernel
theorem dMod_frame_127 : decode uMod_frame.2.1 127 = .ok (.aload_n 0, 1) := by decide +kernel
theorem dMod_frame_128 : decode uMod_frame.2.1 128 = .ok (.getfield 25, 3) := by decide +kernel
theorem dMod_frame_131 : decode uMod_frame.2.1 131 = .ok (.iload 4, 2) := by decide +kernel
theorem dMod_frame_133 : decode uMod_frame.2.1 133 = .ok (.iaload, 1) := by decide +kernel
theorem dMod_frame_134 : decode uMod_frame.2.1 134 = .ok (.if_icmp .ge 38, 3) := by decide +kernel
theorem dMod_frame_137 : decode uMod_frame.2.1 137 = .ok (.aload_n 0, 1) := by decide +kernel
theorem dMod_frame_138 : decode uMod_frame.2.1 138 = .ok (.getfield 19, 3) := by decide +kernel
theorem dMod_frame_141 : decode uMod_frame.2.1 141 = .ok (.iload 4, 2) := by decide +kernel
theorem dMod_frame_143 : decode uMod_frame.2.1 143 = .ok (.iaload, 1) := by decide +kernel
theorem dMod_frame_144 : decode uMod_frame.2.1 144 = .ok (.iconst 1, 1) := by decide +kernel
theorem dMod_frame_145 : decode uMod_frame.2.1 145 = .ok (.if_icmp .ne 27, 3) := by decide +kernel
theorem dMod_frame_148 : decode uMod_frame.2.1 148 = .ok (.iload 5, 2) := by decide +kernel
theorem dMod_frame_150 : decode uMod_frame.2.1 150 = .ok (.aload_n 0, 1) := by decide +kernel
theorem dMod_frame_151 : decode uMod_frame.2.1 151 = .ok (.getfield 42, 3) := by decide +kernel
theorem dMod_frame_154 : decode uMod_frame.2.1 154 = .ok (.bipush 8, 2) := by decide +kernel
theorem dMod_frame_156 : decode uMod_frame.2.1 156 = .ok (.iload 4, 2) := by decide +kernel
theorem dMod_frame_158 : decode uMod_frame.2.1 158 = .ok (.imul, 1) := by decide +kernel
theorem dMod_frame_159 : decode uMod_frame.2.1 159 = .ok (.iload 6, 2) := by decide +kernel
theorem dMod_frame_161 : decode uMod_frame.2.1 161 = .ok (.iadd, 1) := by decide +kernel
theorem dMod_frame_162 : decode uMod_frame.2.1 162 = .ok (.iaload, 1) := by decide +kernel
theorem dMod_frame_163 : decode uMod_frame.2.1 163 = .ok (.iadd, 1) := by decide +kernel
theorem dMod_frame_164 : decode uMod_frame.2.1 164 = .ok (.istore 5, 2) := by decide +kernel
theorem dMod_frame_166 : decode uMod_frame.2.1 166 = .ok (.iinc 6 1, 3) := by decide +kernel
theorem dMod_frame_169 : decode uMod_frame.2.1 169 = .ok (.goto (-44), 3) := by decide +kernel
theorem dMod_frame_172 : decode uMod_frame.2.1 172 = .ok (.iload 5, 2) := by decide +kernel
theorem dMod_frame_174 : decode uMod_frame.2.1 174 = .ok (.ireturn, 1) := by decide +kernel
theorem dMod_request_0 : decode uMod_request.2.1 0 = .ok (.aload_n 0, 1) := by decide +kernel
theorem dMod_request_1 : decode uMod_request.2.1 1 = .ok (.iconst 0, 1) := by decide +kernel
theorem dMod_request_2 : decode uMod_request.2.1 2 = .ok (.invokevirtual 309, 3) := by decide +kernel
theorem dMod_request_5 : decode uMod_request.2.1 5 = .ok (.ifCond .eq 35, 3) := by decide +kernel
theorem dMod_request_8 : decode uMod_request.2.1 8 = .ok (.aload_n 0, 1) := by decide +kernel
theorem dMod_request_9 : decode uMod_request.2.1 9 = .ok (.getfield 312, 3) := by decide +kernel
theorem dMod_request_12 : decode uMod_request.2.1 12 = .ok (.bipush 12, 2) := by decide +kernel
theorem dMod_request_14 : decode uMod_request.2.1 14 = .ok (.if_icmp .ge 26, 3) := by decide +kernel
theorem dMod_request_17 : decode uMod_request.2.1 17 = .ok (.aload_n 0, 1) := by decide +kernel
theorem dMod_request_18 : decode uMod_request.2.1 18 = .ok (.getfield 153, 3) := by decide +kernel
theorem dMod_request_21 : decode uMod_request.2.1 21 = .ok (.iconst 0, 1) := by decide +kernel
theorem dMod_request_22 : decode uMod_request.2.1 22 = .ok (.iaload, 1) := by decide +kernel
theorem dMod_request_23 : decode uMod_request.2.1 23 = .ok (.ifCond .eq 17, 3) := by decide +kernel
theorem dMod_request_26 : decode uMod_request.2.1 26 = .ok (.aload_n 0, 1) := by decide +kernel
theorem dMod_request_27 : decode uMod_request.2.1 27 = .ok (.iconst 0, 1) := by decide +kernel
theorem dMod_request_28 : decode uMod_request.2.1 28 = .ok (.invokevirtual 273, 3) := by decide +kernel
theorem dMod_request_31 : decode uMod_request.2.1 31 = .ok (.aload_n 0, 1) := by decide +kernel
theorem dMod_request_32 : decode uMod_request.2.1 32 = .ok (.getfield 120, 3) := by decide +kernel
theorem dMod_request_35 : decode uMod_request.2.1 35 = .ok (.iconst 1, 1) := by decide +kernel
theorem dMod_request_36 : decode uMod_request.2.1 36 = .ok (.iaload, 1) := by decide +kernel
theorem dMod_request_37 : decode uMod_request.2.1 37 = .ok (.if_icmp .lt 5, 3) := by decide +kernel
theorem dMod_request_40 : decode uMod_request.2.1 40 = .ok (.iconst (-1), 1) := by decide +kernel
theorem dMod_request_41 : decode uMod_request.2.1 41 = .ok (.ireturn, 1) := by decide +kernel
theorem dMod_request_42 : decode uMod_request.2.1 42 = .ok (.aload_n 0, 1) := by decide +kernel
theorem dMod_request_43 : decode uMod_request.2.1 43 = .ok (.iconst 0, 1) := by decide +kernel
theorem dMod_request_44 : decode uMod_request.2.1 44 = .ok (.invokevirtual 315, 3) := by decide +kernel
theorem dMod_request_47 : decode uMod_request.2.1 47 = .ok (.ifCond .eq 6, 3) := by decide +kernel
theorem dMod_request_50 : decode uMod_request.2.1 50 = .ok (.bipush (-2), 2) := by decide +kernel
theorem dMod_request_52 : decode uMod_request.2.1 52 = .ok (.ireturn, 1) := by decide +kernel
theorem dMod_request_53 : decode uMod_request.2.1 53 = .ok (.iconst 2, 1) := by decide +kernel
theorem dMod_request_54 : decode uMod_request.2.1 54 = .ok (.aload_n 0, 1) := by decide +kernel
theorem dMod_request_55 : decode uMod_request.2.1 55 = .ok (.getfield 312, 3) := by decide +kernel
theorem dMod_request_58 : decode uMod_request.2.1 58 = .ok (.imul, 1) := by decide +kernel
theorem dMod_request_59 : decode uMod_request.2.1 59 = .ok (.iconst 1, 1) := by decide +kernel
theorem dMod_request_60 : decode uMod_request.2.1 60 = .ok (.iadd, 1) := by decide +kernel
theorem dMod_request_61 : decode uMod_request.2.1 61 = .ok (.istore_n 2, 1) := by decide +kernel
theorem dMod_request_62 : decode uMod_request.2.1 62 = .ok (.aload_n 0, 1) := by decide +kernel
theorem dMod_request_63 : decode uMod_request.2.1 63 = .ok (.aload_n 0, 1) := by decide +kernel
theorem dMod_request_64 : decode uMod_request.2.1 64 = .ok (.getfield 312, 3) := by decide +kernel
theorem dMod_request_67 : decode uMod_request.2.1 67 = .ok (.iconst 1, 1) := by decide +kernel
theorem dMod_request_68 : decode uMod_request.2.1 68 = .ok (.iadd, 1) := by decide +kernel
theorem dMod_request_69 : decode uMod_request.2.1 69 = .ok (.putfield 312, 3) := by decide +kernel
theorem dMod_request_72 : decode uMod_request.2.1 72 = .ok (.aload_n 0, 1) := by decide +kernel
theorem dMod_request_73 : decode uMod_request.2.1 73 = .ok (.getfield 51, 3) := by decide +kernel
theorem dMod_request_76 : decode uMod_request.2.1 76 = .ok (.iconst 0, 1) := by decide +kernel
theorem dMod_request_77 : decode uMod_request.2.1 77 = .ok (.iload_n 2, 1) := by decide +kernel
theorem dMod_request_78 : decode uMod_request.2.1 78 = .ok (.invokestatic 190, 3) := by decide +kernel
theorem dMod_request_81 : decode uMod_request.2.1 81 = .ok (.iconst 1, 1) := by decide +kernel
theorem dMod_request_82 : decode uMod_request.2.1 82 = .ok (.bastore, 1) := by decide +kernel
theorem dMod_request_83 : decode uMod_request.2.1 83 = .ok (.aload_n 0, 1) := by decide +kernel
theorem dMod_request_84 : decode uMod_request.2.1 84 = .ok (.getfield 69, 3) := by decide +kernel
theorem dMod_request_87 : decode uMod_request.2.1 87 = .ok (.iconst 0, 1) := by decide +kernel
theorem dMod_request_88 : decode uMod_request.2.1 88 = .ok (.iload_n 2, 1) := by decide +kernel
theorem dMod_request_89 : decode uMod_request.2.1 89 = .ok (.invokestatic 190, 3) := by decide +kernel
theorem dMod_request_92 : decode uMod_request.2.1 92 = .ok (.iload_n 1, 1) := by decide +kernel
theorem dMod_request_93 : decode uMod_request.2.1 93 = .ok (.bastore, 1) := by decide +kernel
theorem dMod_request_94 : decode uMod_request.2.1 94 = .ok (.aload_n 0, 1) := by decide +kernel
theorem dMod_request_95 : decode uMod_request.2.1 95 = .ok (.iconst 0, 1) := by decide +kernel
theorem dMod_request_96 : decode uMod_request.2.1 96 = .ok (.iload_n 2, 1) := by decide +kernel
theorem dMod_request_97 : decode uMod_request.2.1 97 = .ok (.iload_n 1, 1) := by decide +kernel
theorem dMod_request_98 : decode uMod_request.2.1 98 = .ok (.invokevirtual 318, 3) := by decide +kernel
theorem dMod_request_101 : decode uMod_request.2.1 101 = .ok (.iload_n 2, 1) := by decide +kernel
theorem dMod_request_102 : decode uMod_request.2.1 102 = .ok (.ireturn, 1) := by decide +kernel
theorem dMod_respond_0 : decode uMod_respond.2.1 0 = .ok (.aload_n 0, 1) := by decide +kernel
theorem dMod_respond_1 : decode uMod_respond.2.1 1 = .ok (.iconst 1, 1) := by decide +kernel
theorem dMod_respond_2 : decode uMod_respond.2.1 2 = .ok (.invokevirtual 309, 3) := by decide +kernel
theorem dMod_respond_5 : decode uMod_respond.2.1 5 = .ok (.ifCond .eq 19, 3) := by decide +kernel
theorem dMod_respond_8 : decode uMod_respond.2.1 8 = .ok (.iload_n 1, 1) := by decide +kernel
theorem dMod_respond_9 : decode uMod_respond.2.1 9 = .ok (.invokestatic 246, 3) := by decide +kernel
theorem dMod_respond_12 : decode uMod_respond.2.1 12 = .ok (.ifCond .eq 12, 3) := by decide +kernel
theorem dMod_respond_15 : decode uMod_respond.2.1 15 = .ok (.aload_n 0, 1) := by decide +kernel
theorem dMod_respond_16 : decode uMod_respond.2.1 16 = .ok (.getfield 153, 3) := by decide +kernel
theorem dMod_respond_19 : decode uMod_respond.2.1 19 = .ok (.iconst 1, 1) := by decide +kernel
theorem dMod_respond_20 : decode uMod_respond.2.1 20 = .ok (.iaload, 1) := by decide +kernel
theorem dMod_respond_21 : decode uMod_respond.2.1 21 = .ok (.ifCond .ne 5, 3) := by decide +kernel
theorem dMod_respond_24 : decode uMod_respond.2.1 24 = .ok (.iconst (-1), 1) := by decide +kernel
theorem dMod_respond_25 : decode uMod_respond.2.1 25 = .ok (.ireturn, 1) := by decide +kernel
theorem dMod_respond_26 : decode uMod_respond.2.1 26 = .ok (.iconst 1, 1) := by decide +kernel
theorem dMod_respond_27 : decode uMod_respond.2.1 27 = .ok (.iload_n 1, 1) := by decide +kernel
theorem dMod_respond_28 : decode uMod_respond.2.1 28 = .ok (.invokestatic 190, 3) := by decide +kernel
theorem dMod_respond_31 : decode uMod_respond.2.1 31 = .ok (.istore_n 3, 1) := by decide +kernel
theorem dMod_respond_32 : decode uMod_respond.2.1 32 = .ok (.aload_n 0, 1) := by decide +kernel
theorem dMod_respond_33 : decode uMod_respond.2.1 33 = .ok (.iload_n 3, 1) := by decide +kernel
theorem dMod_respond_34 : decode uMod_respond.2.1 34 = .ok (.invokevirtual 175, 3) := by decide +kernel
theorem dMod_respond_37 : decode uMod_respond.2.1 37 = .ok (.istore 4, 2) := by decide +kernel
theorem dMod_respond_39 : decode uMod_respond.2.1 39 = .ok (.iload 4, 2) := by decide +kernel
theorem dMod_respond_41 : decode uMod_respond.2.1 41 = .ok (.iconst 1, 1) := by decide +kernel
theorem dMod_respond_42 : decode uMod_respond.2.1 42 = .ok (.if_icmp .eq 9, 3) := by decide +kernel
theorem dMod_respond_45 : decode uMod_respond.2.1 45 = .ok (.iload 4, 2) := by decide +kernel
theorem dMod_respond_47 : decode uMod_respond.2.1 47 = .ok (.iconst 3, 1) := by decide +kernel
theorem dMod_respond_48 : decode uMod_respond.2.1 48 = .ok (.if_icmp .ne 12, 3) := by decide +kernel
theorem dMod_respond_51 : decode uMod_respond.2.1 51 = .ok (.aload_n 0, 1) := by decide +kernel
theorem dMod_respond_52 : decode uMod_respond.2.1 52 = .ok (.getfield 66, 3) := by decide +kernel
theorem dMod_respond_55 : decode uMod_respond.2.1 55 = .ok (.iload_n 3, 1) := by decide +kernel
theorem dMod_respond_56 : decode uMod_respond.2.1 56 = .ok (.baload, 1) := by decide +kernel
theorem dMod_respond_57 : decode uMod_respond.2.1 57 = .ok (.ifCond .eq 5, 3) := by decide +kernel
theorem dMod_respond_60 : decode uMod_respond.2.1 60 = .ok (.iconst (-1), 1) := by decide +kernel
theorem dMod_respond_61 : decode uMod_respond.2.1 61 = .ok (.ireturn, 1) := by decide +kernel
theorem dMod_respond_62 : decode uMod_respond.2.1 62 = .ok (.aload_n 0, 1) := by decide +kernel
theorem dMod_respond_63 : decode uMod_respond.2.1 63 = .ok (.iconst 1, 1) := by decide +kernel
theorem dMod_respond_64 : decode uMod_respond.2.1 64 = .ok (.invokevirtual 315, 3) := by decide +kernel
theorem dMod_respond_67 : decode uMod_respond.2.1 67 = .ok (.ifCond .eq 6, 3) := by decide +kernel
theorem dMod_respond_70 : decode uMod_respond.2.1 70 = .ok (.bipush (-2), 2) := by decide +kernel
theorem dMod_respond_72 : decode uMod_respond.2.1 72 = .ok (.ireturn, 1) := by decide +kernel
theorem dMod_respond_73 : decode uMod_respond.2.1 73 = .ok (.aload_n 0, 1) := by decide +kernel
theorem dMod_respond_74 : decode uMod_respond.2.1 74 = .ok (.getfield 153, 3) := by decide +kernel
theorem dMod_respond_77 : decode uMod_respond.2.1 77 = .ok (.iconst 1, 1) := by decide +kernel
theorem dMod_respond_78 : decode uMod_respond.2.1 78 = .ok (.iaload, 1) := by decide +kernel
theorem dMod_respond_79 : decode uMod_respond.2.1 79 = .ok (.istore 5, 2) := by decide +kernel
theorem dMod_respond_81 : decode uMod_respond.2.1 81 = .ok (.aload_n 0, 1) := by decide +kernel
theorem dMod_respond_82 : decode uMod_respond.2.1 82 = .ok (.getfield 66, 3) := by decide +kernel
theorem dMod_respond_85 : decode uMod_respond.2.1 85 = .ok (.iload_n 3, 1) := by decide +kernel
theorem dMod_respond_86 : decode uMod_respond.2.1 86 = .ok (.iconst 1, 1) := by decide +kernel
theorem dMod_respond_87 : decode uMod_respond.2.1 87 = .ok (.bastore, 1) := by decide +kernel
theorem dMod_respond_88 : decode uMod_respond.2.1 88 = .ok (.aload_n 0, 1) := by decide +kernel
theorem dMod_respond_89 : decode uMod_respond.2.1 89 = .ok (.getfield 69, 3) := by decide +kernel
theorem dMod_respond_92 : decode uMod_respond.2.1 92 = .ok (.iload_n 3, 1) := by decide +kernel
theorem dMod_respond_93 : decode uMod_respond.2.1 93 = .ok (.iload_n 2, 1) := by decide +kernel
theorem dMod_respond_94 : decode uMod_respond.2.1 94 = .ok (.bastore, 1) := by decide +kernel
theorem dMod_respond_95 : decode uMod_respond.2.1 95 = .ok (.aload_n 0, 1) := by decide +kernel
theorem dMod_respond_96 : decode uMod_respond.2.1 96 = .ok (.iconst 1, 1) := by decide +kernel
theorem dMod_respond_97 : decode uMod_respond.2.1 97 = .ok (.iload_n 1, 1) := by decide +kernel
theorem dMod_respond_98 : decode uMod_respond.2.1 98 = .ok (.iload_n 2, 1) := by decide +kernel
theorem dMod_respond_99 : decode uMod_respond.2.1 99 = .ok (.invokevirtual 318, 3) := by decide +kernel
theorem dMod_respond_102 : decode uMod_respond.2.1 102 = .ok (.iload 5, 2) := by decide +kernel
theorem dMod_respond_104 : decode uMod_respond.2.1 104 = .ok (.ireturn, 1) := by decide +kernel
theorem cs_Mod_246 : cSt "InterleavedLinkModel" 246 uMod_isStream 1 := ⟨⟨Or.inl (gW_in 1042 (by decide +kernel) rfl), (gW_in 74 (by decide +kernel) rfl), (gW_in 1044 (by decide +kernel) rfl), ⟨by decide, by decide⟩, by decide +kernel⟩, (gW_in 1043 (by decide +kernel) rfl)⟩
theorem cs_Mod_190 : cSt "InterleavedLinkModel" 190 uMod_at 2 := ⟨⟨Or.inl (gW_in 1045 (by decide +kernel) rfl), (gW_in 74 (by decide +kernel) rfl), (gW_in 1047 (by decide +kernel) rfl), ⟨by decide, by decide⟩, by decide +kernel⟩, (gW_in 1046 (by decide +kernel) rfl)⟩
theorem cs_Mod_285 : cV "InterleavedLinkModel" 285 uMod_linkSend 1 := ⟨⟨Or.inl (gW_in 1166 (by decide +kernel) rfl), (gW_in 74 (by decide +kernel) rfl), (gW_in 1169 (by decide +kernel) rfl), ⟨by decide, by decide⟩, by decide +kernel⟩, (gW_in 1168 (by decide +kernel) rfl), (gW_in 53 (by decide +kernel) rfl)⟩
theorem cs_Mod_252 : cV "InterleavedLinkModel" 252 uMod_linkReceive 1 := ⟨⟨Or.inl (gW_in 1056 (by decide +kernel) rfl), (gW_in 74 (by decide +kernel) rfl), (gW_in 1059 (by decide +kernel) rfl), ⟨by decide, by decide⟩, by decide +kernel⟩, (gW_in 1058 (by decide +kernel) rfl), (gW_in 29 (by decide +kernel) rfl)⟩
theorem cs_Mod_288 : cV "InterleavedLinkModel" 288 uMod_sendWindow 1 := ⟨⟨Or.inl (gW_in 1170 (by decide +kernel) rfl), (gW_in 74 (by decide +kernel) rfl), (gW_in 1173 (by decide +kernel) rfl), ⟨by decide, by decide⟩, by decide +kernel⟩, (gW_in 1172 (by decide +kernel) rfl), (gW_in 54 (by decide +kernel) rfl)⟩
theorem cs_Mod_259 : cV "InterleavedLinkModel" 259 uMod_receiveWindow 1 := ⟨⟨Or.inl (gW_in 1076 (by decide +kernel) rfl), (gW_in 74 (by decide +kernel) rfl), (gW_in 1079 (by decide +kernel) rfl), ⟨by decide, by decide⟩, by decide +kernel⟩, (gW_in 1078 (by decide +kernel) rfl), (gW_in 34 (by decide +kernel) rfl)⟩
theorem fs_Mod_102 : fS "InterleavedLinkModel" 102 10 30 := ⟨"InterleavedLinkModel", T_Mod, 56, cf_Mod, by decide, Or.inl (gW_in 891 (by decide +kernel) rfl)⟩
theorem fs_Mod_93 : fS "InterleavedLinkModel" 93 10 27 := ⟨"InterleavedLinkModel", T_Mod, 56, cf_Mod, by decide, Or.inl (gW_in 888 (by decide +kernel) rfl)⟩
theorem cs_Mod_332 : cV "InterleavedLinkModel" 332 uMod_unreadOf 2 := ⟨⟨Or.inl (gW_in 1256 (by decide +kernel) rfl), (gW_in 74 (by decide +kernel) rfl), (gW_in 1259 (by decide +kernel) rfl), ⟨by decide, by decide⟩, by decide +kernel⟩, (gW_in 1258 (by decide +kernel) rfl), (gW_in 62 (by decide +kernel) rfl)⟩
theorem fs_Mod_84 : fS "InterleavedLinkModel" 84 10 24 := ⟨"InterleavedLinkModel", T_Mod, 56, cf_Mod, by decide, Or.inl (gW_in 885 (by decide +kernel) rfl)⟩
theorem fs_Mod_87 : fS "InterleavedLinkModel" 87 10 25 := ⟨"InterleavedLinkModel", T_Mod, 56, cf_Mod, by decide, Or.inl (gW_in 886 (by decide +kernel) rfl)⟩
theorem fs_Mod_90 : fS "InterleavedLinkModel" 90 10 26 := ⟨"InterleavedLinkModel", T_Mod, 56, cf_Mod, by decide, Or.inl (gW_in 887 (by decide +kernel) rfl)⟩
theorem cs_Mod_309 : cV "InterleavedLinkModel" 309 uMod_up 1 := ⟨⟨Or.inl (gW_in 1178 (by decide +kernel) rfl), (gW_in 74 (by decide +kernel) rfl), (gW_in 1181 (by decide +kernel) rfl), ⟨by decide, by decide⟩, by decide +kernel⟩, (gW_in 1180 (by decide +kernel) rfl), (gW_in 55 (by decide +kernel) rfl)⟩
theorem fs_Mod_153 : fS "InterleavedLinkModel" 153 10 48 := ⟨"InterleavedLinkModel", T_Mod, 56, cf_Mod, by decide, Or.inl (gW_in 909 (by decide +kernel) rfl)⟩
theorem lc_Mod_328 : Cond.constantLong "InterleavedLinkModel" 328 (-1) ∈ gW := gW_in 1226 (by decide +kernel) rfl
/-! ===== the reference: its calls that change nothing ===== -/
theorem isEnd_y {e : Nat} (he : e < 2) : isEndZ (nI e) = 1 := by rcases (by omega : e = 0 ∨ e = 1) with rfl | rfl <;> decide
theorem isEnd_n {x : Int32} (h0 : ¬ x = 0) (h1 : ¬ x = 1) : isEndZ x = 0 := by simp [isEndZ, h0, h1]
theorem isStr_y : ∀ k, k < 12 → isStrZ (nI (2 * k + 1)) = 1 := by decide +kernel
theorem odd23 : ∀ j, j ≤ 23 → 1 ≤ j → (nI j &&& 1 = 1 → j % 2 = 1) := by decide +kernel
theorem isStr_n {x : Int32} (hx : ¬ isStr x) : isStrZ x = 0 := by
  unfold isStrZ
  split
  · rfl
  split
  · rfl
  split
  · rename_i a b c
    obtain ⟨j, h1, h2, rfl⟩ := odd_of a b
    have := odd23 j h2 h1 c
    exact absurd ⟨j / 2, by omega, by rw [show 2 * (j / 2) + 1 = j by omega]⟩ hx
  · rfl
theorem ct_isEnd_y {X : mX} {l : Launch} {M : mM} {e : Nat} (he : e < 2) : Ct X l uMod_isEnd (rk 0 0) [.int (nI e)] M (fun r M' => r = some (.int 1) ∧ M' = M) := ct_Mod_isEnd.post fun r M2 h => ⟨by rw [h.1, isEnd_y he], h.2⟩
theorem ct_isEnd_n {X : mX} {l : Launch} {M : mM} {x : Int32} (h0 : ¬ x = 0) (h1 : ¬ x = 1) : Ct X l uMod_isEnd (rk 0 0) [.int x] M (fun r M' => r = some (.int 0) ∧ M' = M) := ct_Mod_isEnd.post fun r M2 h => ⟨by rw [h.1, isEnd_n h0 h1], h.2⟩
theorem ct_isStr_y {X : mX} {l : Launch} {M : mM} {k : Nat} (hk : k < 12) : Ct X l uMod_isStream (rk 0 0) [.int (nI (2 * k + 1))] M (fun r M' => r = some (.int 1) ∧ M' = M) := ct_Mod_isStream.post fun r M2 h => ⟨by rw [h.1, isStr_y k hk], h.2⟩
theorem ct_isStr_n {X : mX} {l : Launch} {M : mM} {x : Int32} (hx : ¬ isStr x) : Ct X l uMod_isStream (rk 0 0) [.int x] M (fun r M' => r = some (.int 0) ∧ M' = M) := ct_Mod_isStream.post fun r M2 h => ⟨by rw [h.1, isStr_n hx], h.2⟩
theorem ct_up_y {X : mX} {l : Launch} {M : mM} {e : Nat} (hS : Shp M) (he : e < 2) (hu : Rdowns M e = 0) : Ct X l uMod_up (rk 1 20) [.ref 169, .int (nI e)] M (fun r M' => r = some (.int 1) ∧ M' = M) := (ct_Mod_up hS he).post fun r M2 h => ⟨by rw [h.1, if_pos hu], h.2⟩
theorem ct_up_d {X : mX} {l : Launch} {M : mM} {e : Nat} (hS : Shp M) (he : e < 2) (hu : ¬ Rdowns M e = 0) : Ct X l uMod_up (rk 1 20) [.ref 169, .int (nI e)] M (fun r M' => r = some (.int 0) ∧ M' = M) := (ct_Mod_up hS he).post fun r M2 h => ⟨by rw [h.1, if_neg hu], h.2⟩
set_option maxRecDepth 100000 in
set_option maxHeartbeats 4000000 in
theorem cm_down_no {X : mX} {l : Launch} {M : mM} {x : Int32} (hS : Shp M) (h0 : ¬ x = 0) (h1 : ¬ x = 1) : Ct X l uMod_down (rk 1 20) [.ref 169, .int x] M (fun r M' => r = some (.int (-1)) ∧ M' = M) := by
  refine Ct.of (by decide) (Nat.le_of_ble_eq_true rfl) ?_
  show G X l uMod_down (rk 1 20) 0 0 M 0 [some (.ref 169), some (.int x)] [] _
  refine g_iload_n 0 dMod_down_0 rfl ?_
  refine g_callS 1 [_] dMod_down_1 cs_Mod_171 rfl rfl ⟨(Nat.le_of_ble_eq_true rfl), (Nat.le_of_ble_eq_true rfl)⟩ (Nat.le_of_ble_eq_true rfl) (ct_isEnd_n h0 h1) (Nat.le_of_ble_eq_true rfl) (Nat.le_of_ble_eq_true rfl) ?_
  rintro _ M2 ⟨rfl, hM2⟩
  rw [hM2]
  clear hM2 M2
  refine g_if_eq 4 16 dMod_down_4 rfl (fun h4 => ?_) (fun h4 => ?_)
  · refine g_iconst 16 (-1) dMod_down_16 rfl ?_
    exact g_iret 17 dMod_down_17 rfl ⟨rfl, rfl⟩
  · exact absurd rfl h4

set_option maxRecDepth 100000 in
set_option maxHeartbeats 4000000 in
theorem cm_down {X : mX} {l : Launch} {M : mM} {e : Nat} (hS : Shp M) (he : e < 2) : Ct X l uMod_down (rk 1 20) [.ref 169, .int (nI e)] M (fun r M' => r = some (.int (Rdowns M e)) ∧ M' = M) := by
  refine Ct.of (by decide) (Nat.le_of_ble_eq_true rfl) ?_
  show G X l uMod_down (rk 1 20) 0 0 M 0 [some (.ref 169), some (.int (nI e))] [] _
  refine g_iload_n 0 dMod_down_0 rfl ?_
  refine g_callS 1 [_] dMod_down_1 cs_Mod_171 rfl rfl ⟨(Nat.le_of_ble_eq_true rfl), (Nat.le_of_ble_eq_true rfl)⟩ (Nat.le_of_ble_eq_true rfl) (ct_isEnd_y he) (Nat.le_of_ble_eq_true rfl) (Nat.le_of_ble_eq_true rfl) ?_
  rintro _ M2 ⟨rfl, hM2⟩
  rw [hM2]
  clear hM2 M2
  refine g_if_eq 4 16 dMod_down_4 rfl (fun h4 => ?_) (fun h4 => ?_)
  · exact absurd h4 (by decide)
  · refine g_aload_n 7 dMod_down_7 rfl ?_
    refine g_getr 8 10 0 dMod_down_8 fs_Mod_7 rfl hS.mod hS.R_downs ?_
    refine g_iload_n 11 dMod_down_11 rfl ?_
    refine g_ialdN 12 dMod_down_12 hS.T_downs (by omega) (by decide) ?_
    refine g_goto 13 17 dMod_down_13 rfl ?_
    exact g_iret 17 dMod_down_17 rfl ⟨rfl, rfl⟩

set_option maxRecDepth 100000 in
set_option maxHeartbeats 4000000 in
theorem cm_state_no {X : mX} {l : Launch} {M : mM} {x : Int32} (hS : Shp M) (h0 : ¬ x = 0) (h1 : ¬ x = 1) {y : Int32} : Ct X l uMod_state (rk 1 21) [.ref 169, .int x, .int y] M (fun r M' => r = some (.int (-1)) ∧ M' = M) := by
  refine Ct.of (by decide) (Nat.le_of_ble_eq_true rfl) ?_
  show G X l uMod_state (rk 1 21) 0 0 M 0 [some (.ref 169), some (.int x), some (.int y)] [] _
  refine g_iload_n 0 dMod_state_0 rfl ?_
  refine g_callS 1 [_] dMod_state_1 cs_Mod_171 rfl rfl ⟨(Nat.le_of_ble_eq_true rfl), (Nat.le_of_ble_eq_true rfl)⟩ (Nat.le_of_ble_eq_true rfl) (ct_isEnd_n h0 h1) (Nat.le_of_ble_eq_true rfl) (Nat.le_of_ble_eq_true rfl) ?_
  rintro _ M2 ⟨rfl, hM2⟩
  rw [hM2]
  clear hM2 M2
  refine g_if_eq 4 26 dMod_state_4 rfl (fun h4 => ?_) (fun h4 => ?_)
  · refine g_iconst 26 (-1) dMod_state_26 rfl ?_
    exact g_iret 27 dMod_state_27 rfl ⟨rfl, rfl⟩
  · exact absurd rfl h4

set_option maxRecDepth 100000 in
set_option maxHeartbeats 4000000 in
theorem cm_state_ns {X : mX} {l : Launch} {M : mM} {e : Nat} (hS : Shp M) (he : e < 2) {y : Int32} (hx : ¬ isStr y) : Ct X l uMod_state (rk 1 21) [.ref 169, .int (nI e), .int y] M (fun r M' => r = some (.int (-1)) ∧ M' = M) := by
  refine Ct.of (by decide) (Nat.le_of_ble_eq_true rfl) ?_
  show G X l uMod_state (rk 1 21) 0 0 M 0 [some (.ref 169), some (.int (nI e)), some (.int y)] [] _
  refine g_iload_n 0 dMod_state_0 rfl ?_
  refine g_callS 1 [_] dMod_state_1 cs_Mod_171 rfl rfl ⟨(Nat.le_of_ble_eq_true rfl), (Nat.le_of_ble_eq_true rfl)⟩ (Nat.le_of_ble_eq_true rfl) (ct_isEnd_y he) (Nat.le_of_ble_eq_true rfl) (Nat.le_of_ble_eq_true rfl) ?_
  rintro _ M2 ⟨rfl, hM2⟩
  rw [hM2]
  clear hM2 M2
  refine g_if_eq 4 26 dMod_state_4 rfl (fun h4 => ?_) (fun h4 => ?_)
  · exact absurd h4 (by decide)
  · refine g_iload_n 7 dMod_state_7 rfl ?_
    refine g_callS 8 [_] dMod_state_8 cs_Mod_246 rfl rfl ⟨(Nat.le_of_ble_eq_true rfl), (Nat.le_of_ble_eq_true rfl)⟩ (Nat.le_of_ble_eq_true rfl) (ct_isStr_n hx) (Nat.le_of_ble_eq_true rfl) (Nat.le_of_ble_eq_true rfl) ?_
    rintro _ M2 ⟨rfl, hM2⟩
    rw [hM2]
    clear hM2 M2
    refine g_if_eq 11 26 dMod_state_11 rfl (fun h11 => ?_) (fun h11 => ?_)
    · refine g_iconst 26 (-1) dMod_state_26 rfl ?_
      exact g_iret 27 dMod_state_27 rfl ⟨rfl, rfl⟩
    · exact absurd rfl h11

set_option maxRecDepth 100000 in
set_option maxHeartbeats 4000000 in
theorem cm_state {X : mX} {l : Launch} {M : mM} {e k : Nat} (hS : Shp M) (he : e < 2) (hk : k < 12) : Ct X l uMod_state (rk 1 21) [.ref 169, .int (nI e), .int (nI (2 * k + 1))] M (fun r M' => r = some (.int (stA M (12 * e + k))) ∧ M' = M) := by
  refine Ct.of (by decide) (Nat.le_of_ble_eq_true rfl) ?_
  show G X l uMod_state (rk 1 21) 0 0 M 0 [some (.ref 169), some (.int (nI e)), some (.int (nI (2 * k + 1)))] [] _
  refine g_iload_n 0 dMod_state_0 rfl ?_
  refine g_callS 1 [_] dMod_state_1 cs_Mod_171 rfl rfl ⟨(Nat.le_of_ble_eq_true rfl), (Nat.le_of_ble_eq_true rfl)⟩ (Nat.le_of_ble_eq_true rfl) (ct_isEnd_y he) (Nat.le_of_ble_eq_true rfl) (Nat.le_of_ble_eq_true rfl) ?_
  rintro _ M2 ⟨rfl, hM2⟩
  rw [hM2]
  clear hM2 M2
  refine g_if_eq 4 26 dMod_state_4 rfl (fun h4 => ?_) (fun h4 => ?_)
  · exact absurd h4 (by decide)
  · refine g_iload_n 7 dMod_state_7 rfl ?_
    refine g_callS 8 [_] dMod_state_8 cs_Mod_246 rfl rfl ⟨(Nat.le_of_ble_eq_true rfl), (Nat.le_of_ble_eq_true rfl)⟩ (Nat.le_of_ble_eq_true rfl) (ct_isStr_y hk) (Nat.le_of_ble_eq_true rfl) (Nat.le_of_ble_eq_true rfl) ?_
    rintro _ M2 ⟨rfl, hM2⟩
    rw [hM2]
    clear hM2 M2
    refine g_if_eq 11 26 dMod_state_11 rfl (fun h11 => ?_) (fun h11 => ?_)
    · exact absurd h11 (by decide)
    · refine g_aload_n 14 dMod_state_14 rfl ?_
      refine g_iload_n 15 dMod_state_15 rfl ?_
      refine g_iload_n 16 dMod_state_16 rfl ?_
      refine g_callS 17 [_, _] dMod_state_17 cs_Mod_190 rfl rfl ⟨(Nat.le_of_ble_eq_true rfl), (Nat.le_of_ble_eq_true rfl)⟩ (Nat.le_of_ble_eq_true rfl) (ct_Mod_at (by omega) (by omega)) (Nat.le_of_ble_eq_true rfl) (Nat.le_of_ble_eq_true rfl) ?_
      rintro _ M2 ⟨rfl, hM2⟩
      rw [hM2]
      clear hM2 M2
      refine g_top (nI (12 * e + k)) (by rw [show (2 * k + 1) / 2 = k by omega]) ?_
      refine g_callV 20 [_] dMod_state_20 cs_Mod_175 rfl (ci := 10) rfl (by decide) hS.mod rfl ⟨(Nat.le_of_ble_eq_true rfl), (Nat.le_of_ble_eq_true rfl)⟩ (Nat.le_of_ble_eq_true rfl) (ct_Mod_stateAt hS (by omega)) (Nat.le_of_ble_eq_true rfl) (Nat.le_of_ble_eq_true rfl) ?_
      rintro _ M2 ⟨rfl, hM2⟩
      rw [hM2]
      clear hM2 M2
      refine g_goto 23 27 dMod_state_23 rfl ?_
      exact g_iret 27 dMod_state_27 rfl ⟨rfl, rfl⟩

set_option maxRecDepth 100000 in
set_option maxHeartbeats 4000000 in
theorem cm_window_no {X : mX} {l : Launch} {M : mM} {x : Int32} (hS : Shp M) (h0 : ¬ x = 0) (h1 : ¬ x = 1) {y z : Int32} : Ct X l uMod_window (rk 2 43) [.ref 169, .int x, .int y, .int z] M (fun r M' => r = some (.int 0) ∧ M' = M) := by
  refine Ct.of (by decide) (Nat.le_of_ble_eq_true rfl) ?_
  show G X l uMod_window (rk 2 43) 0 0 M 0 [some (.ref 169), some (.int x), some (.int y), some (.int z)] [] _
  refine g_iload_n 0 dMod_window_0 rfl ?_
  refine g_callS 1 [_] dMod_window_1 cs_Mod_171 rfl rfl ⟨(Nat.le_of_ble_eq_true rfl), (Nat.le_of_ble_eq_true rfl)⟩ (Nat.le_of_ble_eq_true rfl) (ct_isEnd_n h0 h1) (Nat.le_of_ble_eq_true rfl) (Nat.le_of_ble_eq_true rfl) ?_
  rintro _ M2 ⟨rfl, hM2⟩
  rw [hM2]
  clear hM2 M2
  refine g_if_ne 4 9 dMod_window_4 rfl (fun h4 => ?_) (fun h4 => ?_)
  · exact absurd rfl h4
  · refine g_iconst 7 0 dMod_window_7 rfl ?_
    exact g_iret 8 dMod_window_8 rfl ⟨rfl, rfl⟩

set_option maxRecDepth 100000 in
set_option maxHeartbeats 4000000 in
theorem cm_window_0 {X : mX} {l : Launch} {M : mM} {e : Nat} (hS : Shp M) (he : e < 2) {z : Int32} : Ct X l uMod_window (rk 2 43) [.ref 169, .int (nI e), .int 0, .int z] M (fun r M' => r = some (.int (if z = 0 then 40 + RlinkCredit M e - RlinkSent M e else 40 - Runread M e)) ∧ M' = M) := by
  refine Ct.of (by decide) (Nat.le_of_ble_eq_true rfl) ?_
  show G X l uMod_window (rk 2 43) 0 0 M 0 [some (.ref 169), some (.int (nI e)), some (.int 0), some (.int z)] [] _
  refine g_iload_n 0 dMod_window_0 rfl ?_
  refine g_callS 1 [_] dMod_window_1 cs_Mod_171 rfl rfl ⟨(Nat.le_of_ble_eq_true rfl), (Nat.le_of_ble_eq_true rfl)⟩ (Nat.le_of_ble_eq_true rfl) (ct_isEnd_y he) (Nat.le_of_ble_eq_true rfl) (Nat.le_of_ble_eq_true rfl) ?_
  rintro _ M2 ⟨rfl, hM2⟩
  rw [hM2]
  clear hM2 M2
  refine g_if_ne 4 9 dMod_window_4 rfl (fun h4 => ?_) (fun h4 => ?_)
  · refine g_iload_n 9 dMod_window_9 rfl ?_
    refine g_if_ne 10 31 dMod_window_10 rfl (fun h10 => ?_) (fun h10 => ?_)
    · exact absurd rfl h10
    · refine g_iload_n 13 dMod_window_13 rfl ?_
      refine g_if_eq 14 25 dMod_window_14 rfl (fun h14 => ?_) (fun h14 => ?_)
      · refine g_aload_n 25 dMod_window_25 rfl ?_
        refine g_iload_n 26 dMod_window_26 rfl ?_
        refine g_callV 27 [_] dMod_window_27 cs_Mod_285 rfl (ci := 10) rfl (by decide) hS.mod rfl ⟨(Nat.le_of_ble_eq_true rfl), (Nat.le_of_ble_eq_true rfl)⟩ (Nat.le_of_ble_eq_true rfl) (ct_Mod_linkSend hS (by omega)) (Nat.le_of_ble_eq_true rfl) (Nat.le_of_ble_eq_true rfl) ?_
        rintro _ M2 ⟨rfl, hM2⟩
        rw [hM2]
        clear hM2 M2
        exact g_iret 30 dMod_window_30 rfl ⟨by first | (simp only [*, if_true, if_false, not_true_eq_false, not_false_eq_true, and_true, true_and, and_false, false_and, and_self, reduceIte]; done) | (simp_all []; done), rfl⟩
      · refine g_aload_n 17 dMod_window_17 rfl ?_
        refine g_iload_n 18 dMod_window_18 rfl ?_
        refine g_callV 19 [_] dMod_window_19 cs_Mod_252 rfl (ci := 10) rfl (by decide) hS.mod rfl ⟨(Nat.le_of_ble_eq_true rfl), (Nat.le_of_ble_eq_true rfl)⟩ (Nat.le_of_ble_eq_true rfl) (ct_Mod_linkReceive hS (by omega)) (Nat.le_of_ble_eq_true rfl) (Nat.le_of_ble_eq_true rfl) ?_
        rintro _ M2 ⟨rfl, hM2⟩
        rw [hM2]
        clear hM2 M2
        refine g_goto 22 30 dMod_window_22 rfl ?_
        exact g_iret 30 dMod_window_30 rfl ⟨by first | (simp only [*, if_true, if_false, not_true_eq_false, not_false_eq_true, and_true, true_and, and_false, false_and, and_self, reduceIte]; done) | (simp_all []; done), rfl⟩
  · exact absurd h4 (by decide)

set_option maxRecDepth 100000 in
set_option maxHeartbeats 4000000 in
theorem cm_window_ns {X : mX} {l : Launch} {M : mM} {e : Nat} (hS : Shp M) (he : e < 2) {y z : Int32} (hy : ¬ y = 0) (hx : ¬ isStr y) : Ct X l uMod_window (rk 2 43) [.ref 169, .int (nI e), .int y, .int z] M (fun r M' => r = some (.int 0) ∧ M' = M) := by
  refine Ct.of (by decide) (Nat.le_of_ble_eq_true rfl) ?_
  show G X l uMod_window (rk 2 43) 0 0 M 0 [some (.ref 169), some (.int (nI e)), some (.int y), some (.int z)] [] _
  refine g_iload_n 0 dMod_window_0 rfl ?_
  refine g_callS 1 [_] dMod_window_1 cs_Mod_171 rfl rfl ⟨(Nat.le_of_ble_eq_true rfl), (Nat.le_of_ble_eq_true rfl)⟩ (Nat.le_of_ble_eq_true rfl) (ct_isEnd_y he) (Nat.le_of_ble_eq_true rfl) (Nat.le_of_ble_eq_true rfl) ?_
  rintro _ M2 ⟨rfl, hM2⟩
  rw [hM2]
  clear hM2 M2
  refine g_if_ne 4 9 dMod_window_4 rfl (fun h4 => ?_) (fun h4 => ?_)
  · refine g_iload_n 9 dMod_window_9 rfl ?_
    refine g_if_ne 10 31 dMod_window_10 rfl (fun h10 => ?_) (fun h10 => ?_)
    · refine g_iload_n 31 dMod_window_31 rfl ?_
      refine g_callS 32 [_] dMod_window_32 cs_Mod_246 rfl rfl ⟨(Nat.le_of_ble_eq_true rfl), (Nat.le_of_ble_eq_true rfl)⟩ (Nat.le_of_ble_eq_true rfl) (ct_isStr_n hx) (Nat.le_of_ble_eq_true rfl) (Nat.le_of_ble_eq_true rfl) ?_
      rintro _ M2 ⟨rfl, hM2⟩
      rw [hM2]
      clear hM2 M2
      refine g_if_eq 35 50 dMod_window_35 rfl (fun h35 => ?_) (fun h35 => ?_)
      · refine g_iconst 50 0 dMod_window_50 rfl ?_
        exact g_iret 51 dMod_window_51 rfl ⟨rfl, rfl⟩
      · exact absurd rfl h35
    · exact absurd h10 hy
  · exact absurd h4 (by decide)

set_option maxRecDepth 100000 in
set_option maxHeartbeats 4000000 in
theorem cm_window {X : mX} {l : Launch} {M : mM} {e k : Nat} (hS : Shp M) (he : e < 2) (hk : k < 12) {z : Int32} : Ct X l uMod_window (rk 2 43) [.ref 169, .int (nI e), .int (nI (2 * k + 1)), .int z] M (fun r M' => r = some (.int (if acA M (12 * e + k) = 0 then 0 else if z = 0 then Rtold M (3 * e + 2) + Rcredit M (12 * e + k) - Rsent M (12 * e + k) else Rforce M (3 * e + 2) + Rback M (12 * e + k) - Rgot M (12 * e + k))) ∧ M' = M) := by
  refine Ct.of (by decide) (Nat.le_of_ble_eq_true rfl) ?_
  show G X l uMod_window (rk 2 43) 0 0 M 0 [some (.ref 169), some (.int (nI e)), some (.int (nI (2 * k + 1))), some (.int z)] [] _
  refine g_iload_n 0 dMod_window_0 rfl ?_
  refine g_callS 1 [_] dMod_window_1 cs_Mod_171 rfl rfl ⟨(Nat.le_of_ble_eq_true rfl), (Nat.le_of_ble_eq_true rfl)⟩ (Nat.le_of_ble_eq_true rfl) (ct_isEnd_y he) (Nat.le_of_ble_eq_true rfl) (Nat.le_of_ble_eq_true rfl) ?_
  rintro _ M2 ⟨rfl, hM2⟩
  rw [hM2]
  clear hM2 M2
  refine g_if_ne 4 9 dMod_window_4 rfl (fun h4 => ?_) (fun h4 => ?_)
  · refine g_iload_n 9 dMod_window_9 rfl ?_
    refine g_if_neN 10 31 dMod_window_10 rfl (by omega) (fun h10 => ?_) (fun h10 => ?_)
    · refine g_iload_n 31 dMod_window_31 rfl ?_
      refine g_callS 32 [_] dMod_window_32 cs_Mod_246 rfl rfl ⟨(Nat.le_of_ble_eq_true rfl), (Nat.le_of_ble_eq_true rfl)⟩ (Nat.le_of_ble_eq_true rfl) (ct_isStr_y hk) (Nat.le_of_ble_eq_true rfl) (Nat.le_of_ble_eq_true rfl) ?_
      rintro _ M2 ⟨rfl, hM2⟩
      rw [hM2]
      clear hM2 M2
      refine g_if_eq 35 50 dMod_window_35 rfl (fun h35 => ?_) (fun h35 => ?_)
      · exact absurd h35 (by decide)
      · refine g_aload_n 38 dMod_window_38 rfl ?_
        refine g_iload_n 39 dMod_window_39 rfl ?_
        refine g_iload_n 40 dMod_window_40 rfl ?_
        refine g_callS 41 [_, _] dMod_window_41 cs_Mod_190 rfl rfl ⟨(Nat.le_of_ble_eq_true rfl), (Nat.le_of_ble_eq_true rfl)⟩ (Nat.le_of_ble_eq_true rfl) (ct_Mod_at (by omega) (by omega)) (Nat.le_of_ble_eq_true rfl) (Nat.le_of_ble_eq_true rfl) ?_
        rintro _ M2 ⟨rfl, hM2⟩
        rw [hM2]
        clear hM2 M2
        refine g_top (nI (12 * e + k)) (by rw [show (2 * k + 1) / 2 = k by omega]) ?_
        refine g_callV 44 [_] dMod_window_44 cs_Mod_179 rfl (ci := 10) rfl (by decide) hS.mod rfl ⟨(Nat.le_of_ble_eq_true rfl), (Nat.le_of_ble_eq_true rfl)⟩ (Nat.le_of_ble_eq_true rfl) (ct_Mod_active hS (by omega)) (Nat.le_of_ble_eq_true rfl) (Nat.le_of_ble_eq_true rfl) ?_
        rintro _ M2 ⟨rfl, hM2⟩
        rw [hM2]
        clear hM2 M2
        refine g_if_ne 47 52 dMod_window_47 rfl (fun h47 => ?_) (fun h47 => ?_)
        · refine g_iload_n 52 dMod_window_52 rfl ?_
          refine g_if_eq 53 68 dMod_window_53 rfl (fun h53 => ?_) (fun h53 => ?_)
          · refine g_aload_n 68 dMod_window_68 rfl ?_
            refine g_iload_n 69 dMod_window_69 rfl ?_
            refine g_iload_n 70 dMod_window_70 rfl ?_
            refine g_callS 71 [_, _] dMod_window_71 cs_Mod_190 rfl rfl ⟨(Nat.le_of_ble_eq_true rfl), (Nat.le_of_ble_eq_true rfl)⟩ (Nat.le_of_ble_eq_true rfl) (ct_Mod_at (by omega) (by omega)) (Nat.le_of_ble_eq_true rfl) (Nat.le_of_ble_eq_true rfl) ?_
            rintro _ M2 ⟨rfl, hM2⟩
            rw [hM2]
            clear hM2 M2
            refine g_top (nI (12 * e + k)) (by rw [show (2 * k + 1) / 2 = k by omega]) ?_
            refine g_callV 74 [_] dMod_window_74 cs_Mod_288 rfl (ci := 10) rfl (by decide) hS.mod rfl ⟨(Nat.le_of_ble_eq_true rfl), (Nat.le_of_ble_eq_true rfl)⟩ (Nat.le_of_ble_eq_true rfl) (ct_Mod_sendWindow hS (by omega)) (Nat.le_of_ble_eq_true rfl) (Nat.le_of_ble_eq_true rfl) ?_
            rintro _ M2 ⟨rfl, hM2⟩
            rw [hM2, show (12 * e + k) / 12 = e by omega]
            clear hM2 M2
            exact g_iret 77 dMod_window_77 rfl ⟨by first | (simp only [*, if_true, if_false, not_true_eq_false, not_false_eq_true, and_true, true_and, and_false, false_and, and_self, reduceIte]; done) | (simp_all []; done), rfl⟩
          · refine g_aload_n 56 dMod_window_56 rfl ?_
            refine g_iload_n 57 dMod_window_57 rfl ?_
            refine g_iload_n 58 dMod_window_58 rfl ?_
            refine g_callS 59 [_, _] dMod_window_59 cs_Mod_190 rfl rfl ⟨(Nat.le_of_ble_eq_true rfl), (Nat.le_of_ble_eq_true rfl)⟩ (Nat.le_of_ble_eq_true rfl) (ct_Mod_at (by omega) (by omega)) (Nat.le_of_ble_eq_true rfl) (Nat.le_of_ble_eq_true rfl) ?_
            rintro _ M2 ⟨rfl, hM2⟩
            rw [hM2]
            clear hM2 M2
            refine g_top (nI (12 * e + k)) (by rw [show (2 * k + 1) / 2 = k by omega]) ?_
            refine g_callV 62 [_] dMod_window_62 cs_Mod_259 rfl (ci := 10) rfl (by decide) hS.mod rfl ⟨(Nat.le_of_ble_eq_true rfl), (Nat.le_of_ble_eq_true rfl)⟩ (Nat.le_of_ble_eq_true rfl) (ct_Mod_receiveWindow hS (by omega)) (Nat.le_of_ble_eq_true rfl) (Nat.le_of_ble_eq_true rfl) ?_
            rintro _ M2 ⟨rfl, hM2⟩
            rw [hM2, show (12 * e + k) / 12 = e by omega]
            clear hM2 M2
            refine g_goto 65 77 dMod_window_65 rfl ?_
            exact g_iret 77 dMod_window_77 rfl ⟨by first | (simp only [*, if_true, if_false, not_true_eq_false, not_false_eq_true, and_true, true_and, and_false, false_and, and_self, reduceIte]; done) | (simp_all []; done), rfl⟩
        · refine g_iconst 50 0 dMod_window_50 rfl ?_
          exact g_iret 51 dMod_window_51 rfl ⟨by first | (simp only [*, if_true, if_false, not_true_eq_false, not_false_eq_true, and_true, true_and, and_false, false_and, and_self, reduceIte]; done) | (simp_all []; done), rfl⟩
    · exact absurd h10 (by omega)
  · exact absurd h4 (by decide)

/-- how many of the first n unread bytes of end e are stream s's -/
def unA (M : mM) (e : Nat) (s : Int32) : Nat → Nat
  | 0 => 0
  | n + 1 => if RunreadStream M (40 * e + n) = s then unA M e s n + 1 else unA M e s n
theorem unA_le (M : mM) (e : Nat) (s : Int32) : ∀ n, unA M e s n ≤ n
  | 0 => Nat.le_refl _
  | n + 1 => by have := unA_le M e s n; unfold unA; split <;> omega
set_option maxRecDepth 100000 in
set_option maxHeartbeats 4000000 in
theorem g_unreadOf {X : mX} {l : Launch} {M : mM} {e N : Nat} {s : Int32} {Q : Option Value → mM → Prop} (hS : Shp M) (he : e < 2) (hN : Runread M e = nI N) (hN4 : N ≤ 40) (hq : Q (some (.int (nI (unA M e s N)))) M) : ∀ (j n : Nat), n + j = N → G X l uMod_unreadOf (rk 0 0) 0 0 M 5 [some (.ref 169), some (.int (nI e)), some (.int s), some (.int (nI (unA M e s n))), some (.int (nI n))] [] Q
  | 0, n, hn => by
    have hn : n = N := by omega
    subst hn
    refine g_iload 5 dMod_unreadOf_5 rfl ?_
    refine g_aload_n 7 dMod_unreadOf_7 rfl ?_
    refine g_getr 8 10 29 dMod_unreadOf_8 fs_Mod_99 rfl hS.mod hS.R_unread ?_
    refine g_iload_n 11 dMod_unreadOf_11 rfl ?_
    refine g_ialdN 12 dMod_unreadOf_12 hS.T_unread (by omega) (by decide) ?_
    refine g_top (nI (n)) (hN) ?_
    refine g_icmp_geN 13 46 dMod_unreadOf_13 rfl (by omega) (by omega) (fun h13 => ?_) (fun h13 => ?_)
    · refine g_iload_n 46 dMod_unreadOf_46 rfl ?_
      exact g_iret 47 dMod_unreadOf_47 rfl hq
    · exact absurd (Nat.le_refl n) h13
  | j + 1, n, hn => by
    have hc := unA_le M e s n
    have ih := g_unreadOf (X := X) (l := l) hS he hN hN4 hq j (n + 1) (by omega)
    refine g_iload 5 dMod_unreadOf_5 rfl ?_
    refine g_aload_n 7 dMod_unreadOf_7 rfl ?_
    refine g_getr 8 10 29 dMod_unreadOf_8 fs_Mod_99 rfl hS.mod hS.R_unread ?_
    refine g_iload_n 11 dMod_unreadOf_11 rfl ?_
    refine g_ialdN 12 dMod_unreadOf_12 hS.T_unread (by omega) (by decide) ?_
    refine g_top (nI (N)) (hN) ?_
    refine g_icmp_geN 13 46 dMod_unreadOf_13 rfl (by omega) (by omega) (fun h13 => ?_) (fun h13 => ?_)
    · exact absurd h13 (by omega)
    · refine g_aload_n 16 dMod_unreadOf_16 rfl ?_
      refine g_getr 17 10 30 dMod_unreadOf_17 fs_Mod_102 rfl hS.mod hS.R_unreadStream ?_
      refine g_bipush 20 (nI 40) dMod_unreadOf_20 rfl ?_
      refine g_iload_n 22 dMod_unreadOf_22 rfl ?_
      refine g_imulN 23 dMod_unreadOf_23 ?_
      refine g_iload 24 dMod_unreadOf_24 rfl ?_
      refine g_iaddN 26 dMod_unreadOf_26 ?_
      refine g_ialdN 27 dMod_unreadOf_27 hS.T_unreadStream (by omega) (by decide) ?_
      refine g_iload_n 28 dMod_unreadOf_28 rfl ?_
      refine g_icmp_ne 29 38 dMod_unreadOf_29 rfl (fun h29 => ?_) (fun h29 => ?_)
      · have hc2 : unA M e s (n + 1) = unA M e s n := by simp [unA, h29]
        refine g_iload_n 38 dMod_unreadOf_38 rfl ?_
        refine g_istore_n 39 dMod_unreadOf_39 (by decide) rfl ?_
        refine g_iincN 40 dMod_unreadOf_40 rfl (by decide) rfl ?_
        refine g_goto 43 5 dMod_unreadOf_43 rfl ?_
        rw [hc2] at ih
        exact ih
      · have hc2 : unA M e s (n + 1) = unA M e s n + 1 := by simp [unA, h29]
        refine g_iload_n 32 dMod_unreadOf_32 rfl ?_
        refine g_iconst 33 (nI 1) dMod_unreadOf_33 rfl ?_
        refine g_iaddN 34 dMod_unreadOf_34 ?_
        refine g_goto 35 39 dMod_unreadOf_35 rfl ?_
        refine g_istore_n 39 dMod_unreadOf_39 (by decide) rfl ?_
        refine g_iincN 40 dMod_unreadOf_40 rfl (by decide) rfl ?_
        refine g_goto 43 5 dMod_unreadOf_43 rfl ?_
        rw [hc2] at ih
        exact ih
set_option maxRecDepth 100000 in
set_option maxHeartbeats 4000000 in
theorem ct_Mod_unreadOf {X : mX} {l : Launch} {M : mM} {e N : Nat} {s : Int32} (hS : Shp M) (he : e < 2) (hN : Runread M e = nI N) (hN4 : N ≤ 40) : Ct X l uMod_unreadOf (rk 0 0) [.ref 169, .int (nI e), .int s] M (fun r M' => r = some (.int (nI (unA M e s N))) ∧ M' = M) := by
  refine Ct.of (by decide) (Nat.le_of_ble_eq_true rfl) ?_
  show G X l uMod_unreadOf (rk 0 0) 0 0 M 0 [some (.ref 169), some (.int (nI e)), some (.int s), none, none] [] _
  refine g_iconst 0 (nI 0) dMod_unreadOf_0 rfl ?_
  refine g_istore_n 1 dMod_unreadOf_1 (by decide) rfl ?_
  refine g_iconst 2 (nI 0) dMod_unreadOf_2 rfl ?_
  refine g_istore 3 dMod_unreadOf_3 (by decide) rfl ?_
  exact g_unreadOf hS he hN hN4 ⟨rfl, rfl⟩ N 0 (by omega)

set_option maxRecDepth 100000 in
set_option maxHeartbeats 4000000 in
theorem cm_bytes_no {X : mX} {l : Launch} {M : mM} {x : Int32} (hS : Shp M) (h0 : ¬ x = 0) (h1 : ¬ x = 1) {y z : Int32} : Ct X l uMod_bytes (rk 1 24) [.ref 169, .int x, .int y, .int z] M (fun r M' => r = some (.int (-1)) ∧ M' = M) := by
  refine Ct.of (by decide) (Nat.le_of_ble_eq_true rfl) ?_
  show G X l uMod_bytes (rk 1 24) 0 0 M 0 [some (.ref 169), some (.int x), some (.int y), some (.int z)] [] _
  refine g_iload_n 0 dMod_bytes_0 rfl ?_
  refine g_callS 1 [_] dMod_bytes_1 cs_Mod_171 rfl rfl ⟨(Nat.le_of_ble_eq_true rfl), (Nat.le_of_ble_eq_true rfl)⟩ (Nat.le_of_ble_eq_true rfl) (ct_isEnd_n h0 h1) (Nat.le_of_ble_eq_true rfl) (Nat.le_of_ble_eq_true rfl) ?_
  rintro _ M2 ⟨rfl, hM2⟩
  rw [hM2]
  clear hM2 M2
  refine g_if_eq 4 14 dMod_bytes_4 rfl (fun h4 => ?_) (fun h4 => ?_)
  · refine g_iconst 14 (-1) dMod_bytes_14 rfl ?_
    exact g_iret 15 dMod_bytes_15 rfl ⟨rfl, rfl⟩
  · exact absurd rfl h4

set_option maxRecDepth 100000 in
set_option maxHeartbeats 4000000 in
theorem cm_bytes_ns {X : mX} {l : Launch} {M : mM} {e : Nat} (hS : Shp M) (he : e < 2) {y z : Int32} (hx : ¬ isStr y) : Ct X l uMod_bytes (rk 1 24) [.ref 169, .int (nI e), .int y, .int z] M (fun r M' => r = some (.int (-1)) ∧ M' = M) := by
  refine Ct.of (by decide) (Nat.le_of_ble_eq_true rfl) ?_
  show G X l uMod_bytes (rk 1 24) 0 0 M 0 [some (.ref 169), some (.int (nI e)), some (.int y), some (.int z)] [] _
  refine g_iload_n 0 dMod_bytes_0 rfl ?_
  refine g_callS 1 [_] dMod_bytes_1 cs_Mod_171 rfl rfl ⟨(Nat.le_of_ble_eq_true rfl), (Nat.le_of_ble_eq_true rfl)⟩ (Nat.le_of_ble_eq_true rfl) (ct_isEnd_y he) (Nat.le_of_ble_eq_true rfl) (Nat.le_of_ble_eq_true rfl) ?_
  rintro _ M2 ⟨rfl, hM2⟩
  rw [hM2]
  clear hM2 M2
  refine g_if_eq 4 14 dMod_bytes_4 rfl (fun h4 => ?_) (fun h4 => ?_)
  · exact absurd h4 (by decide)
  · refine g_iload_n 7 dMod_bytes_7 rfl ?_
    refine g_callS 8 [_] dMod_bytes_8 cs_Mod_246 rfl rfl ⟨(Nat.le_of_ble_eq_true rfl), (Nat.le_of_ble_eq_true rfl)⟩ (Nat.le_of_ble_eq_true rfl) (ct_isStr_n hx) (Nat.le_of_ble_eq_true rfl) (Nat.le_of_ble_eq_true rfl) ?_
    rintro _ M2 ⟨rfl, hM2⟩
    rw [hM2]
    clear hM2 M2
    refine g_if_ne 11 16 dMod_bytes_11 rfl (fun h11 => ?_) (fun h11 => ?_)
    · exact absurd rfl h11
    · refine g_iconst 14 (-1) dMod_bytes_14 rfl ?_
      exact g_iret 15 dMod_bytes_15 rfl ⟨rfl, rfl⟩

set_option maxRecDepth 100000 in
set_option maxHeartbeats 4000000 in
theorem cm_bytes {X : mX} {l : Launch} {M : mM} {e k : Nat} (hS : Shp M) (he : e < 2) (hk : k < 12) {z : Int32} {N : Nat} (hN : Runread M e = nI N) (hN4 : N ≤ 40) : Ct X l uMod_bytes (rk 1 24) [.ref 169, .int (nI e), .int (nI (2 * k + 1)), .int z] M (fun r M' => r = some (.int (if z = 0 then Rwaits M (12 * e + k) else nI (unA M e (nI (2 * k + 1)) N))) ∧ M' = M) := by
  refine Ct.of (by decide) (Nat.le_of_ble_eq_true rfl) ?_
  show G X l uMod_bytes (rk 1 24) 0 0 M 0 [some (.ref 169), some (.int (nI e)), some (.int (nI (2 * k + 1))), some (.int z)] [] _
  refine g_iload_n 0 dMod_bytes_0 rfl ?_
  refine g_callS 1 [_] dMod_bytes_1 cs_Mod_171 rfl rfl ⟨(Nat.le_of_ble_eq_true rfl), (Nat.le_of_ble_eq_true rfl)⟩ (Nat.le_of_ble_eq_true rfl) (ct_isEnd_y he) (Nat.le_of_ble_eq_true rfl) (Nat.le_of_ble_eq_true rfl) ?_
  rintro _ M2 ⟨rfl, hM2⟩
  rw [hM2]
  clear hM2 M2
  refine g_if_eq 4 14 dMod_bytes_4 rfl (fun h4 => ?_) (fun h4 => ?_)
  · exact absurd h4 (by decide)
  · refine g_iload_n 7 dMod_bytes_7 rfl ?_
    refine g_callS 8 [_] dMod_bytes_8 cs_Mod_246 rfl rfl ⟨(Nat.le_of_ble_eq_true rfl), (Nat.le_of_ble_eq_true rfl)⟩ (Nat.le_of_ble_eq_true rfl) (ct_isStr_y hk) (Nat.le_of_ble_eq_true rfl) (Nat.le_of_ble_eq_true rfl) ?_
    rintro _ M2 ⟨rfl, hM2⟩
    rw [hM2]
    clear hM2 M2
    refine g_if_ne 11 16 dMod_bytes_11 rfl (fun h11 => ?_) (fun h11 => ?_)
    · refine g_iload_n 16 dMod_bytes_16 rfl ?_
      refine g_if_eq 17 29 dMod_bytes_17 rfl (fun h17 => ?_) (fun h17 => ?_)
      · refine g_aload_n 29 dMod_bytes_29 rfl ?_
        refine g_getr 30 10 27 dMod_bytes_30 fs_Mod_93 rfl hS.mod hS.R_waits ?_
        refine g_iload_n 33 dMod_bytes_33 rfl ?_
        refine g_iload_n 34 dMod_bytes_34 rfl ?_
        refine g_callS 35 [_, _] dMod_bytes_35 cs_Mod_190 rfl rfl ⟨(Nat.le_of_ble_eq_true rfl), (Nat.le_of_ble_eq_true rfl)⟩ (Nat.le_of_ble_eq_true rfl) (ct_Mod_at (by omega) (by omega)) (Nat.le_of_ble_eq_true rfl) (Nat.le_of_ble_eq_true rfl) ?_
        rintro _ M2 ⟨rfl, hM2⟩
        rw [hM2]
        clear hM2 M2
        refine g_top (nI (12 * e + k)) (by rw [show (2 * k + 1) / 2 = k by omega]) ?_
        refine g_ialdN 38 dMod_bytes_38 hS.T_waits (by omega) (by decide) ?_
        exact g_iret 39 dMod_bytes_39 rfl ⟨by first | (simp only [*, if_true, if_false, not_true_eq_false, not_false_eq_true, and_true, true_and, and_false, false_and, and_self, reduceIte]; done) | (simp_all []; done), rfl⟩
      · refine g_aload_n 20 dMod_bytes_20 rfl ?_
        refine g_iload_n 21 dMod_bytes_21 rfl ?_
        refine g_iload_n 22 dMod_bytes_22 rfl ?_
        refine g_callV 23 [_, _] dMod_bytes_23 cs_Mod_332 rfl (ci := 10) rfl (by decide) hS.mod rfl ⟨(Nat.le_of_ble_eq_true rfl), (Nat.le_of_ble_eq_true rfl)⟩ (Nat.le_of_ble_eq_true rfl) (ct_Mod_unreadOf hS he hN hN4) (Nat.le_of_ble_eq_true rfl) (Nat.le_of_ble_eq_true rfl) ?_
        rintro _ M2 ⟨rfl, hM2⟩
        rw [hM2]
        clear hM2 M2
        refine g_goto 26 39 dMod_bytes_26 rfl ?_
        exact g_iret 39 dMod_bytes_39 rfl ⟨by first | (simp only [*, if_true, if_false, not_true_eq_false, not_false_eq_true, and_true, true_and, and_false, false_and, and_self, reduceIte]; done) | (simp_all []; done), rfl⟩
    · exact absurd h11 (by decide)

set_option maxRecDepth 100000 in
set_option maxHeartbeats 4000000 in
theorem cm_field_no {X : mX} {l : Launch} {M : mM} {x : Int32} (hS : Shp M) (h0 : ¬ x = 0) (h1 : ¬ x = 1) {y j z : Int32} : Ct X l uMod_field (rk 1 21) [.ref 169, .int x, .int y, .int j, .int z] M (fun r M' => r = some (.int (-1)) ∧ M' = M) := by
  refine Ct.of (by decide) (Nat.le_of_ble_eq_true rfl) ?_
  show G X l uMod_field (rk 1 21) 0 0 M 0 [some (.ref 169), some (.int x), some (.int y), some (.int j), some (.int z), none] [] _
  refine g_iload_n 0 dMod_field_0 rfl ?_
  refine g_callS 1 [_] dMod_field_1 cs_Mod_171 rfl rfl ⟨(Nat.le_of_ble_eq_true rfl), (Nat.le_of_ble_eq_true rfl)⟩ (Nat.le_of_ble_eq_true rfl) (ct_isEnd_n h0 h1) (Nat.le_of_ble_eq_true rfl) (Nat.le_of_ble_eq_true rfl) ?_
  rintro _ M2 ⟨rfl, hM2⟩
  rw [hM2]
  clear hM2 M2
  refine g_if_eq 4 32 dMod_field_4 rfl (fun h4 => ?_) (fun h4 => ?_)
  · refine g_iconst 32 (-1) dMod_field_32 rfl ?_
    exact g_iret 33 dMod_field_33 rfl ⟨rfl, rfl⟩
  · exact absurd rfl h4

set_option maxRecDepth 100000 in
set_option maxHeartbeats 4000000 in
theorem cm_field_ns {X : mX} {l : Launch} {M : mM} {e : Nat} (hS : Shp M) (he : e < 2) {y j z : Int32} (hx : ¬ isStr y) : Ct X l uMod_field (rk 1 21) [.ref 169, .int (nI e), .int y, .int j, .int z] M (fun r M' => r = some (.int (-1)) ∧ M' = M) := by
  refine Ct.of (by decide) (Nat.le_of_ble_eq_true rfl) ?_
  show G X l uMod_field (rk 1 21) 0 0 M 0 [some (.ref 169), some (.int (nI e)), some (.int y), some (.int j), some (.int z), none] [] _
  refine g_iload_n 0 dMod_field_0 rfl ?_
  refine g_callS 1 [_] dMod_field_1 cs_Mod_171 rfl rfl ⟨(Nat.le_of_ble_eq_true rfl), (Nat.le_of_ble_eq_true rfl)⟩ (Nat.le_of_ble_eq_true rfl) (ct_isEnd_y he) (Nat.le_of_ble_eq_true rfl) (Nat.le_of_ble_eq_true rfl) ?_
  rintro _ M2 ⟨rfl, hM2⟩
  rw [hM2]
  clear hM2 M2
  refine g_if_eq 4 32 dMod_field_4 rfl (fun h4 => ?_) (fun h4 => ?_)
  · exact absurd h4 (by decide)
  · refine g_iload_n 7 dMod_field_7 rfl ?_
    refine g_callS 8 [_] dMod_field_8 cs_Mod_246 rfl rfl ⟨(Nat.le_of_ble_eq_true rfl), (Nat.le_of_ble_eq_true rfl)⟩ (Nat.le_of_ble_eq_true rfl) (ct_isStr_n hx) (Nat.le_of_ble_eq_true rfl) (Nat.le_of_ble_eq_true rfl) ?_
    rintro _ M2 ⟨rfl, hM2⟩
    rw [hM2]
    clear hM2 M2
    refine g_if_eq 11 32 dMod_field_11 rfl (fun h11 => ?_) (fun h11 => ?_)
    · refine g_iconst 32 (-1) dMod_field_32 rfl ?_
      exact g_iret 33 dMod_field_33 rfl ⟨rfl, rfl⟩
    · exact absurd rfl h11

set_option maxRecDepth 100000 in
set_option maxHeartbeats 4000000 in
theorem cm_field_lo {X : mX} {l : Launch} {M : mM} {e k : Nat} (hS : Shp M) (he : e < 2) (hk : k < 12) {j z : Int32} (hj : j < 0) : Ct X l uMod_field (rk 1 21) [.ref 169, .int (nI e), .int (nI (2 * k + 1)), .int j, .int z] M (fun r M' => r = some (.int (-1)) ∧ M' = M) := by
  refine Ct.of (by decide) (Nat.le_of_ble_eq_true rfl) ?_
  show G X l uMod_field (rk 1 21) 0 0 M 0 [some (.ref 169), some (.int (nI e)), some (.int (nI (2 * k + 1))), some (.int j), some (.int z), none] [] _
  refine g_iload_n 0 dMod_field_0 rfl ?_
  refine g_callS 1 [_] dMod_field_1 cs_Mod_171 rfl rfl ⟨(Nat.le_of_ble_eq_true rfl), (Nat.le_of_ble_eq_true rfl)⟩ (Nat.le_of_ble_eq_true rfl) (ct_isEnd_y he) (Nat.le_of_ble_eq_true rfl) (Nat.le_of_ble_eq_true rfl) ?_
  rintro _ M2 ⟨rfl, hM2⟩
  rw [hM2]
  clear hM2 M2
  refine g_if_eq 4 32 dMod_field_4 rfl (fun h4 => ?_) (fun h4 => ?_)
  · exact absurd h4 (by decide)
  · refine g_iload_n 7 dMod_field_7 rfl ?_
    refine g_callS 8 [_] dMod_field_8 cs_Mod_246 rfl rfl ⟨(Nat.le_of_ble_eq_true rfl), (Nat.le_of_ble_eq_true rfl)⟩ (Nat.le_of_ble_eq_true rfl) (ct_isStr_y hk) (Nat.le_of_ble_eq_true rfl) (Nat.le_of_ble_eq_true rfl) ?_
    rintro _ M2 ⟨rfl, hM2⟩
    rw [hM2]
    clear hM2 M2
    refine g_if_eq 11 32 dMod_field_11 rfl (fun h11 => ?_) (fun h11 => ?_)
    · exact absurd h11 (by decide)
    · refine g_iload_n 14 dMod_field_14 rfl ?_
      refine g_if_lt 15 32 dMod_field_15 rfl (fun h15 => ?_) (fun h15 => ?_)
      · refine g_iconst 32 (-1) dMod_field_32 rfl ?_
        exact g_iret 33 dMod_field_33 rfl ⟨rfl, rfl⟩
      · exact absurd hj h15

set_option maxRecDepth 100000 in
set_option maxHeartbeats 4000000 in
theorem cm_field_hi {X : mX} {l : Launch} {M : mM} {e k : Nat} (hS : Shp M) (he : e < 2) (hk : k < 12) {j z : Int32} (hj : ¬ j < Rfields M (12 * e + k)) : Ct X l uMod_field (rk 1 21) [.ref 169, .int (nI e), .int (nI (2 * k + 1)), .int j, .int z] M (fun r M' => r = some (.int (-1)) ∧ M' = M) := by
  refine Ct.of (by decide) (Nat.le_of_ble_eq_true rfl) ?_
  show G X l uMod_field (rk 1 21) 0 0 M 0 [some (.ref 169), some (.int (nI e)), some (.int (nI (2 * k + 1))), some (.int j), some (.int z), none] [] _
  refine g_iload_n 0 dMod_field_0 rfl ?_
  refine g_callS 1 [_] dMod_field_1 cs_Mod_171 rfl rfl ⟨(Nat.le_of_ble_eq_true rfl), (Nat.le_of_ble_eq_true rfl)⟩ (Nat.le_of_ble_eq_true rfl) (ct_isEnd_y he) (Nat.le_of_ble_eq_true rfl) (Nat.le_of_ble_eq_true rfl) ?_
  rintro _ M2 ⟨rfl, hM2⟩
  rw [hM2]
  clear hM2 M2
  refine g_if_eq 4 32 dMod_field_4 rfl (fun h4 => ?_) (fun h4 => ?_)
  · exact absurd h4 (by decide)
  · refine g_iload_n 7 dMod_field_7 rfl ?_
    refine g_callS 8 [_] dMod_field_8 cs_Mod_246 rfl rfl ⟨(Nat.le_of_ble_eq_true rfl), (Nat.le_of_ble_eq_true rfl)⟩ (Nat.le_of_ble_eq_true rfl) (ct_isStr_y hk) (Nat.le_of_ble_eq_true rfl) (Nat.le_of_ble_eq_true rfl) ?_
    rintro _ M2 ⟨rfl, hM2⟩
    rw [hM2]
    clear hM2 M2
    refine g_if_eq 11 32 dMod_field_11 rfl (fun h11 => ?_) (fun h11 => ?_)
    · exact absurd h11 (by decide)
    · refine g_iload_n 14 dMod_field_14 rfl ?_
      refine g_if_lt 15 32 dMod_field_15 rfl (fun h15 => ?_) (fun h15 => ?_)
      · refine g_iconst 32 (-1) dMod_field_32 rfl ?_
        exact g_iret 33 dMod_field_33 rfl ⟨rfl, rfl⟩
      · refine g_iload_n 18 dMod_field_18 rfl ?_
        refine g_aload_n 19 dMod_field_19 rfl ?_
        refine g_getr 20 10 24 dMod_field_20 fs_Mod_84 rfl hS.mod hS.R_fields ?_
        refine g_iload_n 23 dMod_field_23 rfl ?_
        refine g_iload_n 24 dMod_field_24 rfl ?_
        refine g_callS 25 [_, _] dMod_field_25 cs_Mod_190 rfl rfl ⟨(Nat.le_of_ble_eq_true rfl), (Nat.le_of_ble_eq_true rfl)⟩ (Nat.le_of_ble_eq_true rfl) (ct_Mod_at (by omega) (by omega)) (Nat.le_of_ble_eq_true rfl) (Nat.le_of_ble_eq_true rfl) ?_
        rintro _ M2 ⟨rfl, hM2⟩
        rw [hM2]
        clear hM2 M2
        refine g_top (nI (12 * e + k)) (by rw [show (2 * k + 1) / 2 = k by omega]) ?_
        refine g_ialdN 28 dMod_field_28 hS.T_fields (by omega) (by decide) ?_
        refine g_icmp_lt 29 34 dMod_field_29 rfl (fun h29 => ?_) (fun h29 => ?_)
        · exact absurd h29 hj
        · refine g_iconst 32 (-1) dMod_field_32 rfl ?_
          exact g_iret 33 dMod_field_33 rfl ⟨rfl, rfl⟩

set_option maxRecDepth 100000 in
set_option maxHeartbeats 4000000 in
theorem cm_field {X : mX} {l : Launch} {M : mM} {e k : Nat} (hS : Shp M) (he : e < 2) (hk : k < 12) {z : Int32} {n j : Nat} (hn : Rfields M (12 * e + k) = nI n) (hn6 : n ≤ 6) (hj : j < n) : Ct X l uMod_field (rk 1 21) [.ref 169, .int (nI e), .int (nI (2 * k + 1)), .int (nI j), .int z] M (fun r M' => r = some (.int (if z = 0 then RfieldName M (6 * (12 * e + k) + j) else RfieldValue M (6 * (12 * e + k) + j))) ∧ M' = M) := by
  refine Ct.of (by decide) (Nat.le_of_ble_eq_true rfl) ?_
  show G X l uMod_field (rk 1 21) 0 0 M 0 [some (.ref 169), some (.int (nI e)), some (.int (nI (2 * k + 1))), some (.int (nI j)), some (.int z), none] [] _
  refine g_iload_n 0 dMod_field_0 rfl ?_
  refine g_callS 1 [_] dMod_field_1 cs_Mod_171 rfl rfl ⟨(Nat.le_of_ble_eq_true rfl), (Nat.le_of_ble_eq_true rfl)⟩ (Nat.le_of_ble_eq_true rfl) (ct_isEnd_y he) (Nat.le_of_ble_eq_true rfl) (Nat.le_of_ble_eq_true rfl) ?_
  rintro _ M2 ⟨rfl, hM2⟩
  rw [hM2]
  clear hM2 M2
  refine g_if_eq 4 32 dMod_field_4 rfl (fun h4 => ?_) (fun h4 => ?_)
  · exact absurd h4 (by decide)
  · refine g_iload_n 7 dMod_field_7 rfl ?_
    refine g_callS 8 [_] dMod_field_8 cs_Mod_246 rfl rfl ⟨(Nat.le_of_ble_eq_true rfl), (Nat.le_of_ble_eq_true rfl)⟩ (Nat.le_of_ble_eq_true rfl) (ct_isStr_y hk) (Nat.le_of_ble_eq_true rfl) (Nat.le_of_ble_eq_true rfl) ?_
    rintro _ M2 ⟨rfl, hM2⟩
    rw [hM2]
    clear hM2 M2
    refine g_if_eq 11 32 dMod_field_11 rfl (fun h11 => ?_) (fun h11 => ?_)
    · exact absurd h11 (by decide)
    · refine g_iload_n 14 dMod_field_14 rfl ?_
      refine g_if_ltN 15 32 dMod_field_15 rfl (by omega) (fun h15 => ?_) (fun h15 => ?_)
      · exact absurd h15 (by omega)
      · refine g_iload_n 18 dMod_field_18 rfl ?_
        refine g_aload_n 19 dMod_field_19 rfl ?_
        refine g_getr 20 10 24 dMod_field_20 fs_Mod_84 rfl hS.mod hS.R_fields ?_
        refine g_iload_n 23 dMod_field_23 rfl ?_
        refine g_iload_n 24 dMod_field_24 rfl ?_
        refine g_callS 25 [_, _] dMod_field_25 cs_Mod_190 rfl rfl ⟨(Nat.le_of_ble_eq_true rfl), (Nat.le_of_ble_eq_true rfl)⟩ (Nat.le_of_ble_eq_true rfl) (ct_Mod_at (by omega) (by omega)) (Nat.le_of_ble_eq_true rfl) (Nat.le_of_ble_eq_true rfl) ?_
        rintro _ M2 ⟨rfl, hM2⟩
        rw [hM2]
        clear hM2 M2
        refine g_top (nI (12 * e + k)) (by rw [show (2 * k + 1) / 2 = k by omega]) ?_
        refine g_ialdN 28 dMod_field_28 hS.T_fields (by omega) (by decide) ?_
        refine g_top (nI (n)) (hn) ?_
        refine g_icmp_ltN 29 34 dMod_field_29 rfl (by omega) (by omega) (fun h29 => ?_) (fun h29 => ?_)
        · refine g_bipush 34 (nI 6) dMod_field_34 rfl ?_
          refine g_iload_n 36 dMod_field_36 rfl ?_
          refine g_iload_n 37 dMod_field_37 rfl ?_
          refine g_callS 38 [_, _] dMod_field_38 cs_Mod_190 rfl rfl ⟨(Nat.le_of_ble_eq_true rfl), (Nat.le_of_ble_eq_true rfl)⟩ (Nat.le_of_ble_eq_true rfl) (ct_Mod_at (by omega) (by omega)) (Nat.le_of_ble_eq_true rfl) (Nat.le_of_ble_eq_true rfl) ?_
          rintro _ M2 ⟨rfl, hM2⟩
          rw [hM2]
          clear hM2 M2
          refine g_top (nI (12 * e + k)) (by rw [show (2 * k + 1) / 2 = k by omega]) ?_
          refine g_imulN 41 dMod_field_41 ?_
          refine g_iload_n 42 dMod_field_42 rfl ?_
          refine g_iaddN 43 dMod_field_43 ?_
          refine g_istore 44 dMod_field_44 (by decide) rfl ?_
          refine g_iload 46 dMod_field_46 rfl ?_
          refine g_if_eq 48 61 dMod_field_48 rfl (fun h48 => ?_) (fun h48 => ?_)
          · refine g_aload_n 61 dMod_field_61 rfl ?_
            refine g_getr 62 10 25 dMod_field_62 fs_Mod_87 rfl hS.mod hS.R_fieldName ?_
            refine g_iload 65 dMod_field_65 rfl ?_
            refine g_ialdN 67 dMod_field_67 hS.T_fieldName (by omega) (by decide) ?_
            exact g_iret 68 dMod_field_68 rfl ⟨by first | (simp only [*, if_true, if_false, not_true_eq_false, not_false_eq_true, and_true, true_and, and_false, false_and, and_self, reduceIte]; done) | (simp_all []; done), rfl⟩
          · refine g_aload_n 51 dMod_field_51 rfl ?_
            refine g_getr 52 10 26 dMod_field_52 fs_Mod_90 rfl hS.mod hS.R_fieldValue ?_
            refine g_iload 55 dMod_field_55 rfl ?_
            refine g_ialdN 57 dMod_field_57 hS.T_fieldValue (by omega) (by decide) ?_
            refine g_goto 58 68 dMod_field_58 rfl ?_
            exact g_iret 68 dMod_field_68 rfl ⟨by first | (simp only [*, if_true, if_false, not_true_eq_false, not_false_eq_true, and_true, true_and, and_false, false_and, and_self, reduceIte]; done) | (simp_all []; done), rfl⟩
        · exact absurd hj h29

set_option maxRecDepth 100000 in
set_option maxHeartbeats 4000000 in
theorem cm_table_no {X : mX} {l : Launch} {M : mM} {x : Int32} (hS : Shp M) (h0 : ¬ x = 0) (h1 : ¬ x = 1) {z j : Int32} : Ct X l uMod_table (rk 2 43) [.ref 169, .int x, .int z, .int j] M (fun r M' => r = some (.int (-1)) ∧ M' = M) := by
  refine Ct.of (by decide) (Nat.le_of_ble_eq_true rfl) ?_
  show G X l uMod_table (rk 2 43) 0 0 M 0 [some (.ref 169), some (.int x), some (.int z), some (.int j), none] [] _
  refine g_iload_n 0 dMod_table_0 rfl ?_
  refine g_callS 1 [_] dMod_table_1 cs_Mod_171 rfl rfl ⟨(Nat.le_of_ble_eq_true rfl), (Nat.le_of_ble_eq_true rfl)⟩ (Nat.le_of_ble_eq_true rfl) (ct_isEnd_n h0 h1) (Nat.le_of_ble_eq_true rfl) (Nat.le_of_ble_eq_true rfl) ?_
  rintro _ M2 ⟨rfl, hM2⟩
  rw [hM2]
  clear hM2 M2
  refine g_if_eq 4 13 dMod_table_4 rfl (fun h4 => ?_) (fun h4 => ?_)
  · refine g_iconst 13 (-1) dMod_table_13 rfl ?_
    exact g_iret 14 dMod_table_14 rfl ⟨rfl, rfl⟩
  · exact absurd rfl h4

set_option maxRecDepth 100000 in
set_option maxHeartbeats 4000000 in
theorem cm_table_lo {X : mX} {l : Launch} {M : mM} {e : Nat} (hS : Shp M) (he : e < 2) {z j : Int32} (hj : ¬ -2 ≤ j) : Ct X l uMod_table (rk 2 43) [.ref 169, .int (nI e), .int z, .int j] M (fun r M' => r = some (.int (-1)) ∧ M' = M) := by
  refine Ct.of (by decide) (Nat.le_of_ble_eq_true rfl) ?_
  show G X l uMod_table (rk 2 43) 0 0 M 0 [some (.ref 169), some (.int (nI e)), some (.int z), some (.int j), none] [] _
  refine g_iload_n 0 dMod_table_0 rfl ?_
  refine g_callS 1 [_] dMod_table_1 cs_Mod_171 rfl rfl ⟨(Nat.le_of_ble_eq_true rfl), (Nat.le_of_ble_eq_true rfl)⟩ (Nat.le_of_ble_eq_true rfl) (ct_isEnd_y he) (Nat.le_of_ble_eq_true rfl) (Nat.le_of_ble_eq_true rfl) ?_
  rintro _ M2 ⟨rfl, hM2⟩
  rw [hM2]
  clear hM2 M2
  refine g_if_eq 4 13 dMod_table_4 rfl (fun h4 => ?_) (fun h4 => ?_)
  · exact absurd h4 (by decide)
  · refine g_iload_n 7 dMod_table_7 rfl ?_
    refine g_bipush 8 (-2) dMod_table_8 rfl ?_
    refine g_icmp_ge 10 15 dMod_table_10 rfl (fun h10 => ?_) (fun h10 => ?_)
    · exact absurd h10 hj
    · refine g_iconst 13 (-1) dMod_table_13 rfl ?_
      exact g_iret 14 dMod_table_14 rfl ⟨rfl, rfl⟩

set_option maxRecDepth 100000 in
set_option maxHeartbeats 4000000 in
theorem cm_header_no {X : mX} {l : Launch} {M : mM} {x : Int32} (hS : Shp M) (h0 : ¬ x = 0) (h1 : ¬ x = 1) {a b z : Int32} : Ct X l uMod_header (rk 2 41) [.ref 169, .int x, .int a, .int b, .int z] M (fun r M' => r = some (.int (-1)) ∧ M' = M) := by
  refine Ct.of (by decide) (Nat.le_of_ble_eq_true rfl) ?_
  show G X l uMod_header (rk 2 41) 0 0 M 0 [some (.ref 169), some (.int x), some (.int a), some (.int b), some (.int z), none] [] _
  refine g_aload_n 0 dMod_header_0 rfl ?_
  refine g_iload_n 1 dMod_header_1 rfl ?_
  refine g_callV 2 [_] dMod_header_2 cs_Mod_309 rfl (ci := 10) rfl (by decide) hS.mod rfl ⟨(Nat.le_of_ble_eq_true rfl), (Nat.le_of_ble_eq_true rfl)⟩ (Nat.le_of_ble_eq_true rfl) (ct_Mod_up_no h0 h1) (Nat.le_of_ble_eq_true rfl) (Nat.le_of_ble_eq_true rfl) ?_
  rintro _ M2 ⟨rfl, hM2⟩
  rw [hM2]
  clear hM2 M2
  refine g_if_eq 5 29 dMod_header_5 rfl (fun h5 => ?_) (fun h5 => ?_)
  · refine g_iconst 29 (-1) dMod_header_29 rfl ?_
    exact g_iret 30 dMod_header_30 rfl ⟨rfl, rfl⟩
  · exact absurd rfl h5

set_option maxRecDepth 100000 in
set_option maxHeartbeats 4000000 in
theorem cm_header_dn {X : mX} {l : Launch} {M : mM} {e : Nat} (hS : Shp M) (he : e < 2) (hu : ¬ Rdowns M e = 0) {a b z : Int32} : Ct X l uMod_header (rk 2 41) [.ref 169, .int (nI e), .int a, .int b, .int z] M (fun r M' => r = some (.int (-1)) ∧ M' = M) := by
  refine Ct.of (by decide) (Nat.le_of_ble_eq_true rfl) ?_
  show G X l uMod_header (rk 2 41) 0 0 M 0 [some (.ref 169), some (.int (nI e)), some (.int a), some (.int b), some (.int z), none] [] _
  refine g_aload_n 0 dMod_header_0 rfl ?_
  refine g_iload_n 1 dMod_header_1 rfl ?_
  refine g_callV 2 [_] dMod_header_2 cs_Mod_309 rfl (ci := 10) rfl (by decide) hS.mod rfl ⟨(Nat.le_of_ble_eq_true rfl), (Nat.le_of_ble_eq_true rfl)⟩ (Nat.le_of_ble_eq_true rfl) (ct_up_d hS he hu) (Nat.le_of_ble_eq_true rfl) (Nat.le_of_ble_eq_true rfl) ?_
  rintro _ M2 ⟨rfl, hM2⟩
  rw [hM2]
  clear hM2 M2
  refine g_if_eq 5 29 dMod_header_5 rfl (fun h5 => ?_) (fun h5 => ?_)
  · refine g_iconst 29 (-1) dMod_header_29 rfl ?_
    exact g_iret 30 dMod_header_30 rfl ⟨rfl, rfl⟩
  · exact absurd rfl h5

set_option maxRecDepth 100000 in
set_option maxHeartbeats 4000000 in
theorem cm_header_bad {X : mX} {l : Launch} {M : mM} {e : Nat} (hS : Shp M) (he : e < 2) (hu : Rdowns M e = 0) {a b z : Int32} (ha : wi a 0 15 = 0) : Ct X l uMod_header (rk 2 41) [.ref 169, .int (nI e), .int a, .int b, .int z] M (fun r M' => r = some (.int (-1)) ∧ M' = M) := by
  refine Ct.of (by decide) (Nat.le_of_ble_eq_true rfl) ?_
  show G X l uMod_header (rk 2 41) 0 0 M 0 [some (.ref 169), some (.int (nI e)), some (.int a), some (.int b), some (.int z), none] [] _
  refine g_aload_n 0 dMod_header_0 rfl ?_
  refine g_iload_n 1 dMod_header_1 rfl ?_
  refine g_callV 2 [_] dMod_header_2 cs_Mod_309 rfl (ci := 10) rfl (by decide) hS.mod rfl ⟨(Nat.le_of_ble_eq_true rfl), (Nat.le_of_ble_eq_true rfl)⟩ (Nat.le_of_ble_eq_true rfl) (ct_up_y hS he hu) (Nat.le_of_ble_eq_true rfl) (Nat.le_of_ble_eq_true rfl) ?_
  rintro _ M2 ⟨rfl, hM2⟩
  rw [hM2]
  clear hM2 M2
  refine g_if_eq 5 29 dMod_header_5 rfl (fun h5 => ?_) (fun h5 => ?_)
  · exact absurd h5 (by decide)
  · refine g_iload_n 8 dMod_header_8 rfl ?_
    refine g_if_lt 9 29 dMod_header_9 rfl (fun h9 => ?_) (fun h9 => ?_)
    · refine g_iconst 29 (-1) dMod_header_29 rfl ?_
      exact g_iret 30 dMod_header_30 rfl ⟨rfl, rfl⟩
    · refine g_iload_n 12 dMod_header_12 rfl ?_
      refine g_bipush 13 15 dMod_header_13 rfl ?_
      refine g_icmp_gt 15 29 dMod_header_15 rfl (fun h15 => ?_) (fun h15 => ?_)
      · refine g_iconst 29 (-1) dMod_header_29 rfl ?_
        exact g_iret 30 dMod_header_30 rfl ⟨rfl, rfl⟩
      · exact absurd ha (by simp only [wi, if_neg h9, if_neg h15]; decide)

set_option maxRecDepth 100000 in
set_option maxHeartbeats 4000000 in
theorem cm_header_full {X : mX} {l : Launch} {M : mM} {e : Nat} (hS : Shp M) (he : e < 2) (hu : Rdowns M e = 0) {a b z : Int32} (hc : ¬ Rmaking M e < 6) : Ct X l uMod_header (rk 2 41) [.ref 169, .int (nI e), .int a, .int b, .int z] M (fun r M' => r = some (.int (-1)) ∧ M' = M) := by
  refine Ct.of (by decide) (Nat.le_of_ble_eq_true rfl) ?_
  show G X l uMod_header (rk 2 41) 0 0 M 0 [some (.ref 169), some (.int (nI e)), some (.int a), some (.int b), some (.int z), none] [] _
  refine g_aload_n 0 dMod_header_0 rfl ?_
  refine g_iload_n 1 dMod_header_1 rfl ?_
  refine g_callV 2 [_] dMod_header_2 cs_Mod_309 rfl (ci := 10) rfl (by decide) hS.mod rfl ⟨(Nat.le_of_ble_eq_true rfl), (Nat.le_of_ble_eq_true rfl)⟩ (Nat.le_of_ble_eq_true rfl) (ct_up_y hS he hu) (Nat.le_of_ble_eq_true rfl) (Nat.le_of_ble_eq_true rfl) ?_
  rintro _ M2 ⟨rfl, hM2⟩
  rw [hM2]
  clear hM2 M2
  refine g_if_eq 5 29 dMod_header_5 rfl (fun h5 => ?_) (fun h5 => ?_)
  · exact absurd h5 (by decide)
  · refine g_iload_n 8 dMod_header_8 rfl ?_
    refine g_if_lt 9 29 dMod_header_9 rfl (fun h9 => ?_) (fun h9 => ?_)
    · refine g_iconst 29 (-1) dMod_header_29 rfl ?_
      exact g_iret 30 dMod_header_30 rfl ⟨rfl, rfl⟩
    · refine g_iload_n 12 dMod_header_12 rfl ?_
      refine g_bipush 13 15 dMod_header_13 rfl ?_
      refine g_icmp_gt 15 29 dMod_header_15 rfl (fun h15 => ?_) (fun h15 => ?_)
      · refine g_iconst 29 (-1) dMod_header_29 rfl ?_
        exact g_iret 30 dMod_header_30 rfl ⟨rfl, rfl⟩
      · refine g_aload_n 18 dMod_header_18 rfl ?_
        refine g_getr 19 10 48 dMod_header_19 fs_Mod_153 rfl hS.mod hS.R_making ?_
        refine g_iload_n 22 dMod_header_22 rfl ?_
        refine g_ialdN 23 dMod_header_23 hS.T_making (by omega) (by decide) ?_
        refine g_bipush 24 6 dMod_header_24 rfl ?_
        refine g_icmp_lt 26 31 dMod_header_26 rfl (fun h26 => ?_) (fun h26 => ?_)
        · exact absurd h26 hc
        · refine g_iconst 29 (-1) dMod_header_29 rfl ?_
          exact g_iret 30 dMod_header_30 rfl ⟨rfl, rfl⟩

set_option maxRecDepth 100000 in
set_option maxHeartbeats 4000000 in
theorem cm_pump_no {X : mX} {l : Launch} {M : mM} {x : Int32} (hS : Shp M) (h0 : ¬ x = 0) (h1 : ¬ x = 1) {n : Int32} : Ct X l uMod_pump (rk 2 53) [.ref 169, .int x, .int n] M (fun r M' => r = some (.int (-1)) ∧ M' = M) := by
  refine Ct.of (by decide) (Nat.le_of_ble_eq_true rfl) ?_
  show G X l uMod_pump (rk 2 53) 0 0 M 0 [some (.ref 169), some (.int x), some (.int n), none, none, none, none] [] _
  refine g_aload_n 0 dMod_pump_0 rfl ?_
  refine g_iload_n 1 dMod_pump_1 rfl ?_
  refine g_callV 2 [_] dMod_pump_2 cs_Mod_309 rfl (ci := 10) rfl (by decide) hS.mod rfl ⟨(Nat.le_of_ble_eq_true rfl), (Nat.le_of_ble_eq_true rfl)⟩ (Nat.le_of_ble_eq_true rfl) (ct_Mod_up_no h0 h1) (Nat.le_of_ble_eq_true rfl) (Nat.le_of_ble_eq_true rfl) ?_
  rintro _ M2 ⟨rfl, hM2⟩
  rw [hM2]
  clear hM2 M2
  refine g_if_eq 5 19 dMod_pump_5 rfl (fun h5 => ?_) (fun h5 => ?_)
  · refine g_iconst 19 (-1) dMod_pump_19 rfl ?_
    exact g_iret 20 dMod_pump_20 rfl ⟨rfl, rfl⟩
  · exact absurd rfl h5

set_option maxRecDepth 100000 in
set_option maxHeartbeats 4000000 in
theorem cm_pump_dn {X : mX} {l : Launch} {M : mM} {e : Nat} (hS : Shp M) (he : e < 2) (hu : ¬ Rdowns M e = 0) {n : Int32} : Ct X l uMod_pump (rk 2 53) [.ref 169, .int (nI e), .int n] M (fun r M' => r = some (.int (-1)) ∧ M' = M) := by
  refine Ct.of (by decide) (Nat.le_of_ble_eq_true rfl) ?_
  show G X l uMod_pump (rk 2 53) 0 0 M 0 [some (.ref 169), some (.int (nI e)), some (.int n), none, none, none, none] [] _
  refine g_aload_n 0 dMod_pump_0 rfl ?_
  refine g_iload_n 1 dMod_pump_1 rfl ?_
  refine g_callV 2 [_] dMod_pump_2 cs_Mod_309 rfl (ci := 10) rfl (by decide) hS.mod rfl ⟨(Nat.le_of_ble_eq_true rfl), (Nat.le_of_ble_eq_true rfl)⟩ (Nat.le_of_ble_eq_true rfl) (ct_up_d hS he hu) (Nat.le_of_ble_eq_true rfl) (Nat.le_of_ble_eq_true rfl) ?_
  rintro _ M2 ⟨rfl, hM2⟩
  rw [hM2]
  clear hM2 M2
  refine g_if_eq 5 19 dMod_pump_5 rfl (fun h5 => ?_) (fun h5 => ?_)
  · refine g_iconst 19 (-1) dMod_pump_19 rfl ?_
    exact g_iret 20 dMod_pump_20 rfl ⟨rfl, rfl⟩
  · exact absurd rfl h5

set_option maxRecDepth 100000 in
set_option maxHeartbeats 4000000 in
theorem cm_pump_bad {X : mX} {l : Launch} {M : mM} {e : Nat} (hS : Shp M) (he : e < 2) (hu : Rdowns M e = 0) {n : Int32} (hn : wi n 1 8 = 0) : Ct X l uMod_pump (rk 2 53) [.ref 169, .int (nI e), .int n] M (fun r M' => r = some (.int (-1)) ∧ M' = M) := by
  refine Ct.of (by decide) (Nat.le_of_ble_eq_true rfl) ?_
  show G X l uMod_pump (rk 2 53) 0 0 M 0 [some (.ref 169), some (.int (nI e)), some (.int n), none, none, none, none] [] _
  refine g_aload_n 0 dMod_pump_0 rfl ?_
  refine g_iload_n 1 dMod_pump_1 rfl ?_
  refine g_callV 2 [_] dMod_pump_2 cs_Mod_309 rfl (ci := 10) rfl (by decide) hS.mod rfl ⟨(Nat.le_of_ble_eq_true rfl), (Nat.le_of_ble_eq_true rfl)⟩ (Nat.le_of_ble_eq_true rfl) (ct_up_y hS he hu) (Nat.le_of_ble_eq_true rfl) (Nat.le_of_ble_eq_true rfl) ?_
  rintro _ M2 ⟨rfl, hM2⟩
  rw [hM2]
  clear hM2 M2
  refine g_if_eq 5 19 dMod_pump_5 rfl (fun h5 => ?_) (fun h5 => ?_)
  · exact absurd h5 (by decide)
  · refine g_iload_n 8 dMod_pump_8 rfl ?_
    refine g_iconst 9 1 dMod_pump_9 rfl ?_
    refine g_icmp_lt 10 19 dMod_pump_10 rfl (fun h10 => ?_) (fun h10 => ?_)
    · refine g_iconst 19 (-1) dMod_pump_19 rfl ?_
      exact g_iret 20 dMod_pump_20 rfl ⟨rfl, rfl⟩
    · refine g_iload_n 13 dMod_pump_13 rfl ?_
      refine g_bipush 14 8 dMod_pump_14 rfl ?_
      refine g_icmp_le 16 21 dMod_pump_16 rfl (fun h16 => ?_) (fun h16 => ?_)
      · exact absurd hn (by simp only [wi, if_neg h10, if_neg (Int32.not_lt.mpr h16)]; decide)
      · refine g_iconst 19 (-1) dMod_pump_19 rfl ?_
        exact g_iret 20 dMod_pump_20 rfl ⟨rfl, rfl⟩

set_option maxRecDepth 100000 in
set_option maxHeartbeats 4000000 in
theorem cm_write_no {X : mX} {l : Launch} {M : mM} {x : Int32} (hS : Shp M) (h0 : ¬ x = 0) (h1 : ¬ x = 1) {y n z : Int32} {b : Int64} : Ct X l uMod_write (rk 2 41) [.ref 169, .int x, .int y, .long b, .int n, .int z] M (fun r M' => r = some (.int (-1)) ∧ M' = M) := by
  refine Ct.of (by decide) (Nat.le_of_ble_eq_true rfl) ?_
  show G X l uMod_write (rk 2 41) 0 0 M 0 [some (.ref 169), some (.int x), some (.int y), some (.long b), none, some (.int n), some (.int z), none, none, none] [] _
  refine g_aload_n 0 dMod_write_0 rfl ?_
  refine g_iload_n 1 dMod_write_1 rfl ?_
  refine g_callV 2 [_] dMod_write_2 cs_Mod_309 rfl (ci := 10) rfl (by decide) hS.mod rfl ⟨(Nat.le_of_ble_eq_true rfl), (Nat.le_of_ble_eq_true rfl)⟩ (Nat.le_of_ble_eq_true rfl) (ct_Mod_up_no h0 h1) (Nat.le_of_ble_eq_true rfl) (Nat.le_of_ble_eq_true rfl) ?_
  rintro _ M2 ⟨rfl, hM2⟩
  rw [hM2]
  clear hM2 M2
  refine g_if_eq 5 27 dMod_write_5 rfl (fun h5 => ?_) (fun h5 => ?_)
  · refine g_iconst 27 (-1) dMod_write_27 rfl ?_
    exact g_iret 28 dMod_write_28 rfl ⟨rfl, rfl⟩
  · exact absurd rfl h5

set_option maxRecDepth 100000 in
set_option maxHeartbeats 4000000 in
theorem cm_write_dn {X : mX} {l : Launch} {M : mM} {e : Nat} (hS : Shp M) (he : e < 2) (hu : ¬ Rdowns M e = 0) {y n z : Int32} {b : Int64} : Ct X l uMod_write (rk 2 41) [.ref 169, .int (nI e), .int y, .long b, .int n, .int z] M (fun r M' => r = some (.int (-1)) ∧ M' = M) := by
  refine Ct.of (by decide) (Nat.le_of_ble_eq_true rfl) ?_
  show G X l uMod_write (rk 2 41) 0 0 M 0 [some (.ref 169), some (.int (nI e)), some (.int y), some (.long b), none, some (.int n), some (.int z), none, none, none] [] _
  refine g_aload_n 0 dMod_write_0 rfl ?_
  refine g_iload_n 1 dMod_write_1 rfl ?_
  refine g_callV 2 [_] dMod_write_2 cs_Mod_309 rfl (ci := 10) rfl (by decide) hS.mod rfl ⟨(Nat.le_of_ble_eq_true rfl), (Nat.le_of_ble_eq_true rfl)⟩ (Nat.le_of_ble_eq_true rfl) (ct_up_d hS he hu) (Nat.le_of_ble_eq_true rfl) (Nat.le_of_ble_eq_true rfl) ?_
  rintro _ M2 ⟨rfl, hM2⟩
  rw [hM2]
  clear hM2 M2
  refine g_if_eq 5 27 dMod_write_5 rfl (fun h5 => ?_) (fun h5 => ?_)
  · refine g_iconst 27 (-1) dMod_write_27 rfl ?_
    exact g_iret 28 dMod_write_28 rfl ⟨rfl, rfl⟩
  · exact absurd rfl h5

set_option maxRecDepth 100000 in
set_option maxHeartbeats 4000000 in
theorem cm_write_ns {X : mX} {l : Launch} {M : mM} {e : Nat} (hS : Shp M) (he : e < 2) (hu : Rdowns M e = 0) {y n z : Int32} {b : Int64} (hx : ¬ isStr y) : Ct X l uMod_write (rk 2 41) [.ref 169, .int (nI e), .int y, .long b, .int n, .int z] M (fun r M' => r = some (.int (-1)) ∧ M' = M) := by
  refine Ct.of (by decide) (Nat.le_of_ble_eq_true rfl) ?_
  show G X l uMod_write (rk 2 41) 0 0 M 0 [some (.ref 169), some (.int (nI e)), some (.int y), some (.long b), none, some (.int n), some (.int z), none, none, none] [] _
  refine g_aload_n 0 dMod_write_0 rfl ?_
  refine g_iload_n 1 dMod_write_1 rfl ?_
  refine g_callV 2 [_] dMod_write_2 cs_Mod_309 rfl (ci := 10) rfl (by decide) hS.mod rfl ⟨(Nat.le_of_ble_eq_true rfl), (Nat.le_of_ble_eq_true rfl)⟩ (Nat.le_of_ble_eq_true rfl) (ct_up_y hS he hu) (Nat.le_of_ble_eq_true rfl) (Nat.le_of_ble_eq_true rfl) ?_
  rintro _ M2 ⟨rfl, hM2⟩
  rw [hM2]
  clear hM2 M2
  refine g_if_eq 5 27 dMod_write_5 rfl (fun h5 => ?_) (fun h5 => ?_)
  · exact absurd h5 (by decide)
  · refine g_iload_n 8 dMod_write_8 rfl ?_
    refine g_callS 9 [_] dMod_write_9 cs_Mod_246 rfl rfl ⟨(Nat.le_of_ble_eq_true rfl), (Nat.le_of_ble_eq_true rfl)⟩ (Nat.le_of_ble_eq_true rfl) (ct_isStr_n hx) (Nat.le_of_ble_eq_true rfl) (Nat.le_of_ble_eq_true rfl) ?_
    rintro _ M2 ⟨rfl, hM2⟩
    rw [hM2]
    clear hM2 M2
    refine g_if_eq 12 27 dMod_write_12 rfl (fun h12 => ?_) (fun h12 => ?_)
    · refine g_iconst 27 (-1) dMod_write_27 rfl ?_
      exact g_iret 28 dMod_write_28 rfl ⟨rfl, rfl⟩
    · exact absurd rfl h12

set_option maxRecDepth 100000 in
set_option maxHeartbeats 4000000 in
theorem cm_read_no {X : mX} {l : Launch} {M : mM} {x : Int32} (hS : Shp M) (h0 : ¬ x = 0) (h1 : ¬ x = 1) {y n : Int32} : Ct X l uMod_read (rk 2 48) [.ref 169, .int x, .int y, .int n] M (fun r M' => r = some (.long (-1)) ∧ M' = M) := by
  refine Ct.of (by decide) (Nat.le_of_ble_eq_true rfl) ?_
  show G X l uMod_read (rk 2 48) 0 0 M 0 [some (.ref 169), some (.int x), some (.int y), some (.int n), none, none, none] [] _
  refine g_aload_n 0 dMod_read_0 rfl ?_
  refine g_iload_n 1 dMod_read_1 rfl ?_
  refine g_callV 2 [_] dMod_read_2 cs_Mod_309 rfl (ci := 10) rfl (by decide) hS.mod rfl ⟨(Nat.le_of_ble_eq_true rfl), (Nat.le_of_ble_eq_true rfl)⟩ (Nat.le_of_ble_eq_true rfl) (ct_Mod_up_no h0 h1) (Nat.le_of_ble_eq_true rfl) (Nat.le_of_ble_eq_true rfl) ?_
  rintro _ M2 ⟨rfl, hM2⟩
  rw [hM2]
  clear hM2 M2
  refine g_if_eq 5 39 dMod_read_5 rfl (fun h5 => ?_) (fun h5 => ?_)
  · refine g_ldc2 39 (-1) dMod_read_39 lc_Mod_328 ?_
    exact g_lret 42 dMod_read_42 rfl ⟨rfl, rfl⟩
  · exact absurd rfl h5

set_option maxRecDepth 100000 in
set_option maxHeartbeats 4000000 in
theorem cm_read_dn {X : mX} {l : Launch} {M : mM} {e : Nat} (hS : Shp M) (he : e < 2) (hu : ¬ Rdowns M e = 0) {y n : Int32} : Ct X l uMod_read (rk 2 48) [.ref 169, .int (nI e), .int y, .int n] M (fun r M' => r = some (.long (-1)) ∧ M' = M) := by
  refine Ct.of (by decide) (Nat.le_of_ble_eq_true rfl) ?_
  show G X l uMod_read (rk 2 48) 0 0 M 0 [some (.ref 169), some (.int (nI e)), some (.int y), some (.int n), none, none, none] [] _
  refine g_aload_n 0 dMod_read_0 rfl ?_
  refine g_iload_n 1 dMod_read_1 rfl ?_
  refine g_callV 2 [_] dMod_read_2 cs_Mod_309 rfl (ci := 10) rfl (by decide) hS.mod rfl ⟨(Nat.le_of_ble_eq_true rfl), (Nat.le_of_ble_eq_true rfl)⟩ (Nat.le_of_ble_eq_true rfl) (ct_up_d hS he hu) (Nat.le_of_ble_eq_true rfl) (Nat.le_of_ble_eq_true rfl) ?_
  rintro _ M2 ⟨rfl, hM2⟩
  rw [hM2]
  clear hM2 M2
  refine g_if_eq 5 39 dMod_read_5 rfl (fun h5 => ?_) (fun h5 => ?_)
  · refine g_ldc2 39 (-1) dMod_read_39 lc_Mod_328 ?_
    exact g_lret 42 dMod_read_42 rfl ⟨rfl, rfl⟩
  · exact absurd rfl h5

set_option maxRecDepth 100000 in
set_option maxHeartbeats 4000000 in
theorem cm_read_ns {X : mX} {l : Launch} {M : mM} {e : Nat} (hS : Shp M) (he : e < 2) (hu : Rdowns M e = 0) {y n : Int32} (hx : ¬ isStr y) : Ct X l uMod_read (rk 2 48) [.ref 169, .int (nI e), .int y, .int n] M (fun r M' => r = some (.long (-1)) ∧ M' = M) := by
  refine Ct.of (by decide) (Nat.le_of_ble_eq_true rfl) ?_
  show G X l uMod_read (rk 2 48) 0 0 M 0 [some (.ref 169), some (.int (nI e)), some (.int y), some (.int n), none, none, none] [] _
  refine g_aload_n 0 dMod_read_0 rfl ?_
  refine g_iload_n 1 dMod_read_1 rfl ?_
  refine g_callV 2 [_] dMod_read_2 cs_Mod_309 rfl (ci := 10) rfl (by decide) hS.mod rfl ⟨(Nat.le_of_ble_eq_true rfl), (Nat.le_of_ble_eq_true rfl)⟩ (Nat.le_of_ble_eq_true rfl) (ct_up_y hS he hu) (Nat.le_of_ble_eq_true rfl) (Nat.le_of_ble_eq_true rfl) ?_
  rintro _ M2 ⟨rfl, hM2⟩
  rw [hM2]
  clear hM2 M2
  refine g_if_eq 5 39 dMod_read_5 rfl (fun h5 => ?_) (fun h5 => ?_)
  · exact absurd h5 (by decide)
  · refine g_iload_n 8 dMod_read_8 rfl ?_
    refine g_callS 9 [_] dMod_read_9 cs_Mod_246 rfl rfl ⟨(Nat.le_of_ble_eq_true rfl), (Nat.le_of_ble_eq_true rfl)⟩ (Nat.le_of_ble_eq_true rfl) (ct_isStr_n hx) (Nat.le_of_ble_eq_true rfl) (Nat.le_of_ble_eq_true rfl) ?_
    rintro _ M2 ⟨rfl, hM2⟩
    rw [hM2]
    clear hM2 M2
    refine g_if_eq 12 39 dMod_read_12 rfl (fun h12 => ?_) (fun h12 => ?_)
    · refine g_ldc2 39 (-1) dMod_read_39 lc_Mod_328 ?_
      exact g_lret 42 dMod_read_42 rfl ⟨rfl, rfl⟩
    · exact absurd rfl h12

set_option maxRecDepth 100000 in
set_option maxHeartbeats 4000000 in
theorem cm_reset_no {X : mX} {l : Launch} {M : mM} {x : Int32} (hS : Shp M) (h0 : ¬ x = 0) (h1 : ¬ x = 1) {y n : Int32} : Ct X l uMod_reset (rk 3 74) [.ref 169, .int x, .int y, .int n] M (fun r M' => r = some (.int 0) ∧ M' = M) := by
  refine Ct.of (by decide) (Nat.le_of_ble_eq_true rfl) ?_
  show G X l uMod_reset (rk 3 74) 0 0 M 0 [some (.ref 169), some (.int x), some (.int y), some (.int n)] [] _
  refine g_aload_n 0 dMod_reset_0 rfl ?_
  refine g_iload_n 1 dMod_reset_1 rfl ?_
  refine g_callV 2 [_] dMod_reset_2 cs_Mod_309 rfl (ci := 10) rfl (by decide) hS.mod rfl ⟨(Nat.le_of_ble_eq_true rfl), (Nat.le_of_ble_eq_true rfl)⟩ (Nat.le_of_ble_eq_true rfl) (ct_Mod_up_no h0 h1) (Nat.le_of_ble_eq_true rfl) (Nat.le_of_ble_eq_true rfl) ?_
  rintro _ M2 ⟨rfl, hM2⟩
  rw [hM2]
  clear hM2 M2
  refine g_if_eq 5 33 dMod_reset_5 rfl (fun h5 => ?_) (fun h5 => ?_)
  · refine g_iconst 33 0 dMod_reset_33 rfl ?_
    exact g_zret 34 dMod_reset_34 rfl (by decide) ⟨rfl, rfl⟩
  · exact absurd rfl h5

set_option maxRecDepth 100000 in
set_option maxHeartbeats 4000000 in
theorem cm_reset_dn {X : mX} {l : Launch} {M : mM} {e : Nat} (hS : Shp M) (he : e < 2) (hu : ¬ Rdowns M e = 0) {y n : Int32} : Ct X l uMod_reset (rk 3 74) [.ref 169, .int (nI e), .int y, .int n] M (fun r M' => r = some (.int 0) ∧ M' = M) := by
  refine Ct.of (by decide) (Nat.le_of_ble_eq_true rfl) ?_
  show G X l uMod_reset (rk 3 74) 0 0 M 0 [some (.ref 169), some (.int (nI e)), some (.int y), some (.int n)] [] _
  refine g_aload_n 0 dMod_reset_0 rfl ?_
  refine g_iload_n 1 dMod_reset_1 rfl ?_
  refine g_callV 2 [_] dMod_reset_2 cs_Mod_309 rfl (ci := 10) rfl (by decide) hS.mod rfl ⟨(Nat.le_of_ble_eq_true rfl), (Nat.le_of_ble_eq_true rfl)⟩ (Nat.le_of_ble_eq_true rfl) (ct_up_d hS he hu) (Nat.le_of_ble_eq_true rfl) (Nat.le_of_ble_eq_true rfl) ?_
  rintro _ M2 ⟨rfl, hM2⟩
  rw [hM2]
  clear hM2 M2
  refine g_if_eq 5 33 dMod_reset_5 rfl (fun h5 => ?_) (fun h5 => ?_)
  · refine g_iconst 33 0 dMod_reset_33 rfl ?_
    exact g_zret 34 dMod_reset_34 rfl (by decide) ⟨rfl, rfl⟩
  · exact absurd rfl h5

set_option maxRecDepth 100000 in
set_option maxHeartbeats 4000000 in
theorem cm_reset_ns {X : mX} {l : Launch} {M : mM} {e : Nat} (hS : Shp M) (he : e < 2) (hu : Rdowns M e = 0) {y n : Int32} (hx : ¬ isStr y) : Ct X l uMod_reset (rk 3 74) [.ref 169, .int (nI e), .int y, .int n] M (fun r M' => r = some (.int 0) ∧ M' = M) := by
  refine Ct.of (by decide) (Nat.le_of_ble_eq_true rfl) ?_
  show G X l uMod_reset (rk 3 74) 0 0 M 0 [some (.ref 169), some (.int (nI e)), some (.int y), some (.int n)] [] _
  refine g_aload_n 0 dMod_reset_0 rfl ?_
  refine g_iload_n 1 dMod_reset_1 rfl ?_
  refine g_callV 2 [_] dMod_reset_2 cs_Mod_309 rfl (ci := 10) rfl (by decide) hS.mod rfl ⟨(Nat.le_of_ble_eq_true rfl), (Nat.le_of_ble_eq_true rfl)⟩ (Nat.le_of_ble_eq_true rfl) (ct_up_y hS he hu) (Nat.le_of_ble_eq_true rfl) (Nat.le_of_ble_eq_true rfl) ?_
  rintro _ M2 ⟨rfl, hM2⟩
  rw [hM2]
  clear hM2 M2
  refine g_if_eq 5 33 dMod_reset_5 rfl (fun h5 => ?_) (fun h5 => ?_)
  · exact absurd h5 (by decide)
  · refine g_iload_n 8 dMod_reset_8 rfl ?_
    refine g_callS 9 [_] dMod_reset_9 cs_Mod_246 rfl rfl ⟨(Nat.le_of_ble_eq_true rfl), (Nat.le_of_ble_eq_true rfl)⟩ (Nat.le_of_ble_eq_true rfl) (ct_isStr_n hx) (Nat.le_of_ble_eq_true rfl) (Nat.le_of_ble_eq_true rfl) ?_
    rintro _ M2 ⟨rfl, hM2⟩
    rw [hM2]
    clear hM2 M2
    refine g_if_eq 12 33 dMod_reset_12 rfl (fun h12 => ?_) (fun h12 => ?_)
    · refine g_iconst 33 0 dMod_reset_33 rfl ?_
      exact g_zret 34 dMod_reset_34 rfl (by decide) ⟨rfl, rfl⟩
    · exact absurd rfl h12

set_option maxRecDepth 100000 in
set_option maxHeartbeats 4000000 in
theorem cm_read_st {X : mX} {l : Launch} {M : mM} {e k : Nat} (hS : Shp M) (he : e < 2) (hk : k < 12) (hu : Rdowns M e = 0) {n : Int32} (ho : Ropened M (12 * e + k) = 0) : Ct X l uMod_read (rk 2 48) [.ref 169, .int (nI e), .int (nI (2 * k + 1)), .int n] M (fun r M' => r = some (.long (-1)) ∧ M' = M) := by
  refine Ct.of (by decide) (Nat.le_of_ble_eq_true rfl) ?_
  show G X l uMod_read (rk 2 48) 0 0 M 0 [some (.ref 169), some (.int (nI e)), some (.int (nI (2 * k + 1))), some (.int n), none, none, none] [] _
  refine g_aload_n 0 dMod_read_0 rfl ?_
  refine g_iload_n 1 dMod_read_1 rfl ?_
  refine g_callV 2 [_] dMod_read_2 cs_Mod_309 rfl (ci := 10) rfl (by decide) hS.mod rfl ⟨(Nat.le_of_ble_eq_true rfl), (Nat.le_of_ble_eq_true rfl)⟩ (Nat.le_of_ble_eq_true rfl) (ct_up_y hS he hu) (Nat.le_of_ble_eq_true rfl) (Nat.le_of_ble_eq_true rfl) ?_
  rintro _ M2 ⟨rfl, hM2⟩
  rw [hM2]
  clear hM2 M2
  refine g_if_eq 5 39 dMod_read_5 rfl (fun h5 => ?_) (fun h5 => ?_)
  · exact absurd h5 (by decide)
  · refine g_iload_n 8 dMod_read_8 rfl ?_
    refine g_callS 9 [_] dMod_read_9 cs_Mod_246 rfl rfl ⟨(Nat.le_of_ble_eq_true rfl), (Nat.le_of_ble_eq_true rfl)⟩ (Nat.le_of_ble_eq_true rfl) (ct_isStr_y hk) (Nat.le_of_ble_eq_true rfl) (Nat.le_of_ble_eq_true rfl) ?_
    rintro _ M2 ⟨rfl, hM2⟩
    rw [hM2]
    clear hM2 M2
    refine g_if_eq 12 39 dMod_read_12 rfl (fun h12 => ?_) (fun h12 => ?_)
    · exact absurd h12 (by decide)
    · refine g_iload_n 15 dMod_read_15 rfl ?_
      refine g_iconst 16 1 dMod_read_16 rfl ?_
      refine g_icmp_lt 17 39 dMod_read_17 rfl (fun h17 => ?_) (fun h17 => ?_)
      · refine g_ldc2 39 (-1) dMod_read_39 lc_Mod_328 ?_
        exact g_lret 42 dMod_read_42 rfl ⟨rfl, rfl⟩
      · refine g_iload_n 20 dMod_read_20 rfl ?_
        refine g_bipush 21 7 dMod_read_21 rfl ?_
        refine g_icmp_gt 23 39 dMod_read_23 rfl (fun h23 => ?_) (fun h23 => ?_)
        · refine g_ldc2 39 (-1) dMod_read_39 lc_Mod_328 ?_
          exact g_lret 42 dMod_read_42 rfl ⟨rfl, rfl⟩
        · refine g_aload_n 26 dMod_read_26 rfl ?_
          refine g_getr 27 10 13 dMod_read_27 fs_Mod_51 rfl hS.mod hS.R_opened ?_
          refine g_iload_n 30 dMod_read_30 rfl ?_
          refine g_iload_n 31 dMod_read_31 rfl ?_
          refine g_callS 32 [_, _] dMod_read_32 cs_Mod_190 rfl rfl ⟨(Nat.le_of_ble_eq_true rfl), (Nat.le_of_ble_eq_true rfl)⟩ (Nat.le_of_ble_eq_true rfl) (ct_Mod_at (by omega) (by omega)) (Nat.le_of_ble_eq_true rfl) (Nat.le_of_ble_eq_true rfl) ?_
          rintro _ M2 ⟨rfl, hM2⟩
          rw [hM2]
          clear hM2 M2
          refine g_top (nI (12 * e + k)) (by rw [show (2 * k + 1) / 2 = k by omega]) ?_
          refine g_zaldN 35 dMod_read_35 hS.T_opened (by omega) (by decide) ?_
          refine g_if_ne 36 43 dMod_read_36 rfl (fun h36 => ?_) (fun h36 => ?_)
          · exact absurd ho h36
          · refine g_ldc2 39 (-1) dMod_read_39 lc_Mod_328 ?_
            exact g_lret 42 dMod_read_42 rfl ⟨rfl, rfl⟩

set_option maxRecDepth 100000 in
set_option maxHeartbeats 4000000 in
theorem cm_setting_no {X : mX} {l : Launch} {M : mM} {x : Int32} (hS : Shp M) (h0 : ¬ x = 0) (h1 : ¬ x = 1) {s v : Int32} : Ct X l uMod_setting (rk 2 41) [.ref 169, .int x, .int s, .int v] M (fun r M' => r = some (.int 0) ∧ M' = M) := by
  refine Ct.of (by decide) (Nat.le_of_ble_eq_true rfl) ?_
  show G X l uMod_setting (rk 2 41) 0 0 M 0 [some (.ref 169), some (.int x), some (.int s), some (.int v), none] [] _
  refine g_aload_n 0 dMod_setting_0 rfl ?_
  refine g_iload_n 1 dMod_setting_1 rfl ?_
  refine g_callV 2 [_] dMod_setting_2 cs_Mod_309 rfl (ci := 10) rfl (by decide) hS.mod rfl ⟨(Nat.le_of_ble_eq_true rfl), (Nat.le_of_ble_eq_true rfl)⟩ (Nat.le_of_ble_eq_true rfl) (ct_Mod_up_no h0 h1) (Nat.le_of_ble_eq_true rfl) (Nat.le_of_ble_eq_true rfl) ?_
  rintro _ M2 ⟨rfl, hM2⟩
  rw [hM2]
  clear hM2 M2
  refine g_if_eq 5 46 dMod_setting_5 rfl (fun h5 => ?_) (fun h5 => ?_)
  · refine g_iconst 46 0 dMod_setting_46 rfl ?_
    exact g_zret 47 dMod_setting_47 rfl (by decide) ⟨rfl, rfl⟩
  · exact absurd rfl h5

set_option maxRecDepth 100000 in
set_option maxHeartbeats 4000000 in
theorem cm_setting_dn {X : mX} {l : Launch} {M : mM} {e : Nat} (hS : Shp M) (he : e < 2) (hu : ¬ Rdowns M e = 0) {s v : Int32} : Ct X l uMod_setting (rk 2 41) [.ref 169, .int (nI e), .int s, .int v] M (fun r M' => r = some (.int 0) ∧ M' = M) := by
  refine Ct.of (by decide) (Nat.le_of_ble_eq_true rfl) ?_
  show G X l uMod_setting (rk 2 41) 0 0 M 0 [some (.ref 169), some (.int (nI e)), some (.int s), some (.int v), none] [] _
  refine g_aload_n 0 dMod_setting_0 rfl ?_
  refine g_iload_n 1 dMod_setting_1 rfl ?_
  refine g_callV 2 [_] dMod_setting_2 cs_Mod_309 rfl (ci := 10) rfl (by decide) hS.mod rfl ⟨(Nat.le_of_ble_eq_true rfl), (Nat.le_of_ble_eq_true rfl)⟩ (Nat.le_of_ble_eq_true rfl) (ct_up_d hS he hu) (Nat.le_of_ble_eq_true rfl) (Nat.le_of_ble_eq_true rfl) ?_
  rintro _ M2 ⟨rfl, hM2⟩
  rw [hM2]
  clear hM2 M2
  refine g_if_eq 5 46 dMod_setting_5 rfl (fun h5 => ?_) (fun h5 => ?_)
  · refine g_iconst 46 0 dMod_setting_46 rfl ?_
    exact g_zret 47 dMod_setting_47 rfl (by decide) ⟨rfl, rfl⟩
  · exact absurd rfl h5

set_option maxRecDepth 100000 in
set_option maxHeartbeats 4000000 in
theorem cm_deliver_no {X : mX} {l : Launch} {M : mM} {x : Int32} (hS : Shp M) (h0 : ¬ x = 0) (h1 : ¬ x = 1) : Ct X l uMod_deliver (rk 6 146) [.ref 169, .int x] M (fun r M' => r = some (.int (-1)) ∧ M' = M) := by
  refine Ct.of (by decide) (Nat.le_of_ble_eq_true rfl) ?_
  show G X l uMod_deliver (rk 6 146) 0 0 M 0 [some (.ref 169), some (.int x), none, none] [] _
  refine g_iload_n 0 dMod_deliver_0 rfl ?_
  refine g_callS 1 [_] dMod_deliver_1 cs_Mod_171 rfl rfl ⟨(Nat.le_of_ble_eq_true rfl), (Nat.le_of_ble_eq_true rfl)⟩ (Nat.le_of_ble_eq_true rfl) (ct_isEnd_n h0 h1) (Nat.le_of_ble_eq_true rfl) (Nat.le_of_ble_eq_true rfl) ?_
  rintro _ M2 ⟨rfl, hM2⟩
  rw [hM2]
  clear hM2 M2
  refine g_if_eq 4 16 dMod_deliver_4 rfl (fun h4 => ?_) (fun h4 => ?_)
  · refine g_iconst 16 (-1) dMod_deliver_16 rfl ?_
    exact g_iret 17 dMod_deliver_17 rfl ⟨rfl, rfl⟩
  · exact absurd rfl h4

set_option maxRecDepth 100000 in
set_option maxHeartbeats 4000000 in
theorem cm_deliver_0 {X : mX} {l : Launch} {M : mM} {e : Nat} (hS : Shp M) (he : e < 2) (hc : Rcount M e = 0) : Ct X l uMod_deliver (rk 6 146) [.ref 169, .int (nI e)] M (fun r M' => r = some (.int (-1)) ∧ M' = M) := by
  refine Ct.of (by decide) (Nat.le_of_ble_eq_true rfl) ?_
  show G X l uMod_deliver (rk 6 146) 0 0 M 0 [some (.ref 169), some (.int (nI e)), none, none] [] _
  refine g_iload_n 0 dMod_deliver_0 rfl ?_
  refine g_callS 1 [_] dMod_deliver_1 cs_Mod_171 rfl rfl ⟨(Nat.le_of_ble_eq_true rfl), (Nat.le_of_ble_eq_true rfl)⟩ (Nat.le_of_ble_eq_true rfl) (ct_isEnd_y he) (Nat.le_of_ble_eq_true rfl) (Nat.le_of_ble_eq_true rfl) ?_
  rintro _ M2 ⟨rfl, hM2⟩
  rw [hM2]
  clear hM2 M2
  refine g_if_eq 4 16 dMod_deliver_4 rfl (fun h4 => ?_) (fun h4 => ?_)
  · exact absurd h4 (by decide)
  · refine g_aload_n 7 dMod_deliver_7 rfl ?_
    refine g_getr 8 10 2 dMod_deliver_8 fs_Mod_16 rfl hS.mod hS.R_count ?_
    refine g_iload_n 11 dMod_deliver_11 rfl ?_
    refine g_ialdN 12 dMod_deliver_12 hS.T_count (by omega) (by decide) ?_
    refine g_if_ne 13 18 dMod_deliver_13 rfl (fun h13 => ?_) (fun h13 => ?_)
    · exact absurd hc h13
    · refine g_iconst 16 (-1) dMod_deliver_16 rfl ?_
      exact g_iret 17 dMod_deliver_17 rfl ⟨rfl, rfl⟩

set_option maxRecDepth 100000 in
set_option maxHeartbeats 4000000 in
theorem cm_frame_no {X : mX} {l : Launch} {M : mM} {x : Int32} (hS : Shp M) (h0 : ¬ x = 0) (h1 : ¬ x = 1) {j w : Int32} : Ct X l uMod_frame (rk 1 20) [.ref 169, .int x, .int j, .int w] M (fun r M' => r = some (.int (-1)) ∧ M' = M) := by
  refine Ct.of (by decide) (Nat.le_of_ble_eq_true rfl) ?_
  show G X l uMod_frame (rk 1 20) 0 0 M 0 [some (.ref 169), some (.int x), some (.int j), some (.int w), none, none, none] [] _
  refine g_iload_n 0 dMod_frame_0 rfl ?_
  refine g_callS 1 [_] dMod_frame_1 cs_Mod_171 rfl rfl ⟨(Nat.le_of_ble_eq_true rfl), (Nat.le_of_ble_eq_true rfl)⟩ (Nat.le_of_ble_eq_true rfl) (ct_isEnd_n h0 h1) (Nat.le_of_ble_eq_true rfl) (Nat.le_of_ble_eq_true rfl) ?_
  rintro _ M2 ⟨rfl, hM2⟩
  rw [hM2]
  clear hM2 M2
  refine g_if_eq 4 30 dMod_frame_4 rfl (fun h4 => ?_) (fun h4 => ?_)
  · refine g_iconst 30 (-1) dMod_frame_30 rfl ?_
    exact g_iret 31 dMod_frame_31 rfl ⟨rfl, rfl⟩
  · exact absurd rfl h4

set_option maxRecDepth 100000 in
set_option maxHeartbeats 4000000 in
theorem cm_request_dn {X : mX} {l : Launch} {M : mM} (hS : Shp M) (hu : ¬ Rdowns M 0 = 0) {z : Int32} : Ct X l uMod_request (rk 4 98) [.ref 169, .int z] M (fun r M' => r = some (.int (-1)) ∧ M' = M) := by
  refine Ct.of (by decide) (Nat.le_of_ble_eq_true rfl) ?_
  show G X l uMod_request (rk 4 98) 0 0 M 0 [some (.ref 169), some (.int z), none] [] _
  refine g_aload_n 0 dMod_request_0 rfl ?_
  refine g_iconst 1 (nI 0) dMod_request_1 rfl ?_
  refine g_callV 2 [_] dMod_request_2 cs_Mod_309 rfl (ci := 10) rfl (by decide) hS.mod rfl ⟨(Nat.le_of_ble_eq_true rfl), (Nat.le_of_ble_eq_true rfl)⟩ (Nat.le_of_ble_eq_true rfl) (ct_up_d hS (e := 0) (by decide) hu) (Nat.le_of_ble_eq_true rfl) (Nat.le_of_ble_eq_true rfl) ?_
  rintro _ M2 ⟨rfl, hM2⟩
  rw [hM2]
  clear hM2 M2
  refine g_if_eq 5 40 dMod_request_5 rfl (fun h5 => ?_) (fun h5 => ?_)
  · refine g_iconst 40 (-1) dMod_request_40 rfl ?_
    exact g_iret 41 dMod_request_41 rfl ⟨rfl, rfl⟩
  · exact absurd rfl h5

set_option maxRecDepth 100000 in
set_option maxHeartbeats 4000000 in
theorem cm_respond_dn {X : mX} {l : Launch} {M : mM} (hS : Shp M) (hu : ¬ Rdowns M 1 = 0) {y z : Int32} : Ct X l uMod_respond (rk 4 98) [.ref 169, .int y, .int z] M (fun r M' => r = some (.int (-1)) ∧ M' = M) := by
  refine Ct.of (by decide) (Nat.le_of_ble_eq_true rfl) ?_
  show G X l uMod_respond (rk 4 98) 0 0 M 0 [some (.ref 169), some (.int y), some (.int z), none, none, none] [] _
  refine g_aload_n 0 dMod_respond_0 rfl ?_
  refine g_iconst 1 (nI 1) dMod_respond_1 rfl ?_
  refine g_callV 2 [_] dMod_respond_2 cs_Mod_309 rfl (ci := 10) rfl (by decide) hS.mod rfl ⟨(Nat.le_of_ble_eq_true rfl), (Nat.le_of_ble_eq_true rfl)⟩ (Nat.le_of_ble_eq_true rfl) (ct_up_d hS (e := 1) (by decide) hu) (Nat.le_of_ble_eq_true rfl) (Nat.le_of_ble_eq_true rfl) ?_
  rintro _ M2 ⟨rfl, hM2⟩
  rw [hM2]
  clear hM2 M2
  refine g_if_eq 5 24 dMod_respond_5 rfl (fun h5 => ?_) (fun h5 => ?_)
  · refine g_iconst 24 (-1) dMod_respond_24 rfl ?_
    exact g_iret 25 dMod_respond_25 rfl ⟨rfl, rfl⟩
  · exact absurd rfl h5

set_option maxRecDepth 100000 in
set_option maxHeartbeats 4000000 in
theorem cm_respond_ns {X : mX} {l : Launch} {M : mM} (hS : Shp M) (hu : Rdowns M 1 = 0) {y z : Int32} (hx : ¬ isStr y) : Ct X l uMod_respond (rk 4 98) [.ref 169, .int y, .int z] M (fun r M' => r = some (.int (-1)) ∧ M' = M) := by
  refine Ct.of (by decide) (Nat.le_of_ble_eq_true rfl) ?_
  show G X l uMod_respond (rk 4 98) 0 0 M 0 [some (.ref 169), some (.int y), some (.int z), none, none, none] [] _
  refine g_aload_n 0 dMod_respond_0 rfl ?_
  refine g_iconst 1 (nI 1) dMod_respond_1 rfl ?_
  refine g_callV 2 [_] dMod_respond_2 cs_Mod_309 rfl (ci := 10) rfl (by decide) hS.mod rfl ⟨(Nat.le_of_ble_eq_true rfl), (Nat.le_of_ble_eq_true rfl)⟩ (Nat.le_of_ble_eq_true rfl) (ct_up_y hS (e := 1) (by decide) hu) (Nat.le_of_ble_eq_true rfl) (Nat.le_of_ble_eq_true rfl) ?_
  rintro _ M2 ⟨rfl, hM2⟩
  rw [hM2]
  clear hM2 M2
  refine g_if_eq 5 24 dMod_respond_5 rfl (fun h5 => ?_) (fun h5 => ?_)
  · exact absurd h5 (by decide)
  · refine g_iload_n 8 dMod_respond_8 rfl ?_
    refine g_callS 9 [_] dMod_respond_9 cs_Mod_246 rfl rfl ⟨(Nat.le_of_ble_eq_true rfl), (Nat.le_of_ble_eq_true rfl)⟩ (Nat.le_of_ble_eq_true rfl) (ct_isStr_n hx) (Nat.le_of_ble_eq_true rfl) (Nat.le_of_ble_eq_true rfl) ?_
    rintro _ M2 ⟨rfl, hM2⟩
    rw [hM2]
    clear hM2 M2
    refine g_if_eq 12 24 dMod_respond_12 rfl (fun h12 => ?_) (fun h12 => ?_)
    · refine g_iconst 24 (-1) dMod_respond_24 rfl ?_
      exact g_iret 25 dMod_respond_25 rfl ⟨rfl, rfl⟩
    · exact absurd rfl h12
