theorem dLink_window_0 : decode uLink_window.2.1 0 = .ok (.aload_n 0, 1) := by decide +kernel
theorem dLink_window_1 : decode uLink_window.2.1 1 = .ok (.iload_n 1, 1) := by decide +kernel
theorem dLink_window_2 : decode uLink_window.2.1 2 = .ok (.invokevirtual 128, 3) := by decide +kernel
theorem dLink_window_5 : decode uLink_window.2.1 5 = .ok (.astore 4, 2) := by decide +kernel
theorem dLink_window_7 : decode uLink_window.2.1 7 = .ok (.aload 4, 2) := by decide +kernel
theorem dLink_window_9 : decode uLink_window.2.1 9 = .ok (.ifnull 25, 3) := by decide +kernel
theorem dLink_window_12 : decode uLink_window.2.1 12 = .ok (.iload_n 2, 1) := by decide +kernel
theorem dLink_window_13 : decode uLink_window.2.1 13 = .ok (.ifCond .ne 21, 3) := by decide +kernel
theorem dLink_window_16 : decode uLink_window.2.1 16 = .ok (.iload_n 3, 1) := by decide +kernel
theorem dLink_window_17 : decode uLink_window.2.1 17 = .ok (.ifCond .eq 11, 3) := by decide +kernel
theorem dLink_window_20 : decode uLink_window.2.1 20 = .ok (.aload 4, 2) := by decide +kernel
theorem dLink_window_22 : decode uLink_window.2.1 22 = .ok (.getfield 162, 3) := by decide +kernel
theorem dLink_window_25 : decode uLink_window.2.1 25 = .ok (.goto 8, 3) := by decide +kernel
theorem dLink_window_28 : decode uLink_window.2.1 28 = .ok (.aload 4, 2) := by decide +kernel
theorem dLink_window_30 : decode uLink_window.2.1 30 = .ok (.getfield 165, 3) := by decide +kernel
theorem dLink_window_33 : decode uLink_window.2.1 33 = .ok (.ireturn, 1) := by decide +kernel
theorem dLink_window_34 : decode uLink_window.2.1 34 = .ok (.aload 4, 2) := by decide +kernel
theorem dLink_window_36 : decode uLink_window.2.1 36 = .ok (.iload_n 2, 1) := by decide +kernel
theorem dLink_window_37 : decode uLink_window.2.1 37 = .ok (.invokestatic 58, 3) := by decide +kernel
theorem dLink_window_40 : decode uLink_window.2.1 40 = .ok (.astore 5, 2) := by decide +kernel
theorem dLink_window_42 : decode uLink_window.2.1 42 = .ok (.aload 5, 2) := by decide +kernel
theorem dLink_window_44 : decode uLink_window.2.1 44 = .ok (.ifnull 11, 3) := by decide +kernel
theorem dLink_window_47 : decode uLink_window.2.1 47 = .ok (.aload 5, 2) := by decide +kernel
theorem dLink_window_49 : decode uLink_window.2.1 49 = .ok (.invokevirtual 104, 3) := by decide +kernel
theorem dLink_window_52 : decode uLink_window.2.1 52 = .ok (.ifCond .ne 5, 3) := by decide +kernel
theorem dLink_window_55 : decode uLink_window.2.1 55 = .ok (.iconst 0, 1) := by decide +kernel
theorem dLink_window_56 : decode uLink_window.2.1 56 = .ok (.ireturn, 1) := by decide +kernel
theorem dLink_window_57 : decode uLink_window.2.1 57 = .ok (.iload_n 3, 1) := by decide +kernel
theorem dLink_window_58 : decode uLink_window.2.1 58 = .ok (.ifCond .eq 11, 3) := by decide +kernel
theorem dLink_window_61 : decode uLink_window.2.1 61 = .ok (.aload 5, 2) := by decide +kernel
theorem dLink_window_63 : decode uLink_window.2.1 63 = .ok (.getfield 168, 3) := by decide +kernel
theorem dLink_window_66 : decode uLink_window.2.1 66 = .ok (.goto 8, 3) := by decide +kernel
theorem dLink_window_69 : decode uLink_window.2.1 69 = .ok (.aload 5, 2) := by decide +kernel
theorem dLink_window_71 : decode uLink_window.2.1 71 = .ok (.getfield 169, 3) := by decide +kernel
theorem dLink_window_74 : decode uLink_window.2.1 74 = .ok (.ireturn, 1) := by decide +kernel
theorem dLink_bytes_0 : decode uLink_bytes.2.1 0 = .ok (.aload_n 0, 1) := by decide +kernel
theorem dLink_bytes_1 : decode uLink_bytes.2.1 1 = .ok (.iload_n 1, 1) := by decide +kernel
theorem dLink_bytes_2 : decode uLink_bytes.2.1 2 = .ok (.invokevirtual 128, 3) := by decide +kernel
theorem dLink_bytes_5 : decode uLink_bytes.2.1 5 = .ok (.iload_n 2, 1) := by decide +kernel
theorem dLink_bytes_6 : decode uLink_bytes.2.1 6 = .ok (.invokestatic 58, 3) := by decide +kernel
theorem dLink_bytes_9 : decode uLink_bytes.2.1 9 = .ok (.astore 4, 2) := by decide +kernel
theorem dLink_bytes_11 : decode uLink_bytes.2.1 11 = .ok (.aload 4, 2) := by decide +kernel
theorem dLink_bytes_13 : decode uLink_bytes.2.1 13 = .ok (.ifnonnull 5, 3) := by decide +kernel
theorem dLink_bytes_16 : decode uLink_bytes.2.1 16 = .ok (.iconst (-1), 1) := by decide +kernel
theorem dLink_bytes_17 : decode uLink_bytes.2.1 17 = .ok (.ireturn, 1) := by decide +kernel
theorem dLink_bytes_18 : decode uLink_bytes.2.1 18 = .ok (.iload_n 3, 1) := by decide +kernel
theorem dLink_bytes_19 : decode uLink_bytes.2.1 19 = .ok (.ifCond .eq 14, 3) := by decide +kernel
theorem dLink_bytes_22 : decode uLink_bytes.2.1 22 = .ok (.aload 4, 2) := by decide +kernel
theorem dLink_bytes_24 : decode uLink_bytes.2.1 24 = .ok (.getfield 170, 3) := by decide +kernel
theorem dLink_bytes_27 : decode uLink_bytes.2.1 27 = .ok (.getfield 82, 3) := by decide +kernel
theorem dLink_bytes_30 : decode uLink_bytes.2.1 30 = .ok (.goto 11, 3) := by decide +kernel
theorem dLink_bytes_33 : decode uLink_bytes.2.1 33 = .ok (.aload 4, 2) := by decide +kernel
theorem dLink_bytes_35 : decode uLink_bytes.2.1 35 = .ok (.getfield 78, 3) := by decide +kernel
theorem dLink_bytes_38 : decode uLink_bytes.2.1 38 = .ok (.getfield 82, 3) := by decide +kernel
theorem dLink_bytes_41 : decode uLink_bytes.2.1 41 = .ok (.ireturn, 1) := by decide +kernel
theorem dLink_field_0 : decode uLink_field.2.1 0 = .ok (.aload_n 0, 1) := by decide +kernel
theorem dLink_field_1 : decode uLink_field.2.1 1 = .ok (.iload_n 1, 1) := by decide +kernel
theorem dLink_field_2 : decode uLink_field.2.1 2 = .ok (.invokevirtual 128, 3) := by decide +kernel
theorem dLink_field_5 : decode uLink_field.2.1 5 = .ok (.iload_n 2, 1) := by decide +kernel
theorem dLink_field_6 : decode uLink_field.2.1 6 = .ok (.invokestatic 58, 3) := by decide +kernel
theorem dLink_field_9 : decode uLink_field.2.1 9 = .ok (.astore 5, 2) := by decide +kernel
theorem dLink_field_11 : decode uLink_field.2.1 11 = .ok (.aload 5, 2) := by decide +kernel
theorem dLink_field_13 : decode uLink_field.2.1 13 = .ok (.ifnull 29, 3) := by decide +kernel
theorem dLink_field_16 : decode uLink_field.2.1 16 = .ok (.aload 5, 2) := by decide +kernel
theorem dLink_field_18 : decode uLink_field.2.1 18 = .ok (.getfield 173, 3) := by decide +kernel
theorem dLink_field_21 : decode uLink_field.2.1 21 = .ok (.ifnull 21, 3) := by decide +kernel
theorem dLink_field_24 : decode uLink_field.2.1 24 = .ok (.iload_n 3, 1) := by decide +kernel
theorem dLink_field_25 : decode uLink_field.2.1 25 = .ok (.iconst 0, 1) := by decide +kernel
theorem dLink_field_26 : decode uLink_field.2.1 26 = .ok (.aload 5, 2) := by decide +kernel
theorem dLink_field_28 : decode uLink_field.2.1 28 = .ok (.getfield 173, 3) := by decide +kernel
theorem dLink_field_31 : decode uLink_field.2.1 31 = .ok (.getfield 33, 3) := by decide +kernel
theorem dLink_field_34 : decode uLink_field.2.1 34 = .ok (.iconst 1, 1) := by decide +kernel
theorem dLink_field_35 : decode uLink_field.2.1 35 = .ok (.isub, 1) := by decide +kernel
theorem dLink_field_36 : decode uLink_field.2.1 36 = .ok (.invokestatic 25, 3) := by decide +kernel
theorem dLink_field_39 : decode uLink_field.2.1 39 = .ok (.ifCond .ne 5, 3) := by decide +kernel
theorem dLink_field_42 : decode uLink_field.2.1 42 = .ok (.iconst (-1), 1) := by decide +kernel
theorem dLink_field_43 : decode uLink_field.2.1 43 = .ok (.ireturn, 1) := by decide +kernel
theorem dLink_field_44 : decode uLink_field.2.1 44 = .ok (.iload 4, 2) := by decide +kernel
theorem dLink_field_46 : decode uLink_field.2.1 46 = .ok (.ifCond .eq 16, 3) := by decide +kernel
theorem dLink_field_49 : decode uLink_field.2.1 49 = .ok (.aload 5, 2) := by decide +kernel
theorem dLink_field_51 : decode uLink_field.2.1 51 = .ok (.getfield 173, 3) := by decide +kernel
theorem dLink_field_54 : decode uLink_field.2.1 54 = .ok (.getfield 176, 3) := by decide +kernel
theorem dLink_field_57 : decode uLink_field.2.1 57 = .ok (.iload_n 3, 1) := by decide +kernel
theorem dLink_field_58 : decode uLink_field.2.1 58 = .ok (.iaload, 1) := by decide +kernel
theorem dLink_field_59 : decode uLink_field.2.1 59 = .ok (.goto 13, 3) := by decide +kernel
theorem dLink_field_62 : decode uLink_field.2.1 62 = .ok (.aload 5, 2) := by decide +kernel
theorem dLink_field_64 : decode uLink_field.2.1 64 = .ok (.getfield 173, 3) := by decide +kernel
theorem dLink_field_67 : decode uLink_field.2.1 67 = .ok (.getfield 180, 3) := by decide +kernel
theorem dLink_field_70 : decode uLink_field.2.1 70 = .ok (.iload_n 3, 1) := by decide +kernel
theorem dLink_field_71 : decode uLink_field.2.1 71 = .ok (.iaload, 1) := by decide +kernel
theorem dLink_field_72 : decode uLink_field.2.1 72 = .ok (.ireturn, 1) := by decide +kernel
theorem dLink_table_0 : decode uLink_table.2.1 0 = .ok (.aload_n 0, 1) := by decide +kernel
theorem dLink_table_1 : decode uLink_table.2.1 1 = .ok (.iload_n 1, 1) := by decide +kernel
theorem dLink_table_2 : decode uLink_table.2.1 2 = .ok (.invokevirtual 128, 3) := by decide +kernel
theorem dLink_table_5 : decode uLink_table.2.1 5 = .ok (.astore 4, 2) := by decide +kernel
theorem dLink_table_7 : decode uLink_table.2.1 7 = .ok (.aload 4, 2) := by decide +kernel
theorem dLink_table_9 : decode uLink_table.2.1 9 = .ok (.ifnull 9, 3) := by decide +kernel
theorem dLink_table_12 : decode uLink_table.2.1 12 = .ok (.iload_n 3, 1) := by decide +kernel
theorem dLink_table_13 : decode uLink_table.2.1 13 = .ok (.bipush (-2), 2) := by decide +kernel
theorem dLink_table_15 : decode uLink_table.2.1 15 = .ok (.if_icmp .ge 5, 3) := by decide +kernel
theorem dLink_table_18 : decode uLink_table.2.1 18 = .ok (.iconst (-1), 1) := by decide +kernel
theorem dLink_table_19 : decode uLink_table.2.1 19 = .ok (.ireturn, 1) := by decide +kernel
theorem dLink_table_20 : decode uLink_table.2.1 20 = .ok (.iload_n 2, 1) := by decide +kernel
theorem dLink_table_21 : decode uLink_table.2.1 21 = .ok (.ifCond .eq 14, 3) := by decide +kernel
theorem dLink_table_24 : decode uLink_table.2.1 24 = .ok (.aload 4, 2) := by decide +kernel
theorem dLink_table_26 : decode uLink_table.2.1 26 = .ok (.getfield 183, 3) := by decide +kernel
theorem dLink_table_29 : decode uLink_table.2.1 29 = .ok (.getfield 187, 3) := by decide +kernel
theorem dLink_table_32 : decode uLink_table.2.1 32 = .ok (.goto 11, 3) := by decide +kernel
theorem dLink_table_35 : decode uLink_table.2.1 35 = .ok (.aload 4, 2) := by decide +kernel
theorem dLink_table_37 : decode uLink_table.2.1 37 = .ok (.getfield 193, 3) := by decide +kernel
theorem dLink_table_40 : decode uLink_table.2.1 40 = .ok (.getfield 197, 3) := by decide +kernel
theorem dLink_table_43 : decode uLink_table.2.1 43 = .ok (.astore 5, 2) := by decide +kernel
theorem dLink_table_45 : decode uLink_table.2.1 45 = .ok (.iload_n 3, 1) := by decide +kernel
theorem dLink_table_46 : decode uLink_table.2.1 46 = .ok (.bipush (-2), 2) := by decide +kernel
theorem dLink_table_48 : decode uLink_table.2.1 48 = .ok (.if_icmp .ne 9, 3) := by decide +kernel
theorem dLink_table_51 : decode uLink_table.2.1 51 = .ok (.aload 5, 2) := by decide +kernel
theorem dLink_table_53 : decode uLink_table.2.1 53 = .ok (.getfield 200, 3) := by decide +kernel
theorem dLink_table_56 : decode uLink_table.2.1 56 = .ok (.ireturn, 1) := by decide +kernel
theorem dLink_table_57 : decode uLink_table.2.1 57 = .ok (.iload_n 3, 1) := by decide +kernel
theorem dLink_table_58 : decode uLink_table.2.1 58 = .ok (.iconst (-1), 1) := by decide +kernel
theorem dLink_table_59 : decode uLink_table.2.1 59 = .ok (.if_icmp .ne 9, 3) := by decide +kernel
theorem dLink_table_62 : decode uLink_table.2.1 62 = .ok (.aload 5, 2) := by decide +kernel
theorem dLink_table_64 : decode uLink_table.2.1 64 = .ok (.getfield 205, 3) := by decide +kernel
theorem dLink_table_67 : decode uLink_table.2.1 67 = .ok (.ireturn, 1) := by decide +kernel
theorem dLink_table_68 : decode uLink_table.2.1 68 = .ok (.iload_n 3, 1) := by decide +kernel
theorem dLink_table_69 : decode uLink_table.2.1 69 = .ok (.aload 5, 2) := by decide +kernel
theorem dLink_table_71 : decode uLink_table.2.1 71 = .ok (.getfield 208, 3) := by decide +kernel
theorem dLink_table_74 : decode uLink_table.2.1 74 = .ok (.if_icmp .ge 13, 3) := by decide +kernel
theorem dLink_table_77 : decode uLink_table.2.1 77 = .ok (.aload 5, 2) := by decide +kernel
theorem dLink_table_79 : decode uLink_table.2.1 79 = .ok (.getfield 209, 3) := by decide +kernel
theorem dLink_table_82 : decode uLink_table.2.1 82 = .ok (.iload_n 3, 1) := by decide +kernel
theorem dLink_table_83 : decode uLink_table.2.1 83 = .ok (.iaload, 1) := by decide +kernel
theorem dLink_table_84 : decode uLink_table.2.1 84 = .ok (.goto 4, 3) := by decide +kernel
theorem dLink_table_87 : decode uLink_table.2.1 87 = .ok (.iconst 0, 1) := by decide +kernel
theorem dLink_table_88 : decode uLink_table.2.1 88 = .ok (.ireturn, 1) := by decide +kernel
theorem dLink_header_0 : decode uLink_header.2.1 0 = .ok (.aload_n 0, 1) := by decide +kernel
theorem dLink_header_1 : decode uLink_header.2.1 1 = .ok (.iload_n 1, 1) := by decide +kernel
theorem dLink_header_2 : decode uLink_header.2.1 2 = .ok (.invokevirtual 21, 3) := by decide +kernel
theorem dLink_header_5 : decode uLink_header.2.1 5 = .ok (.astore 5, 2) := by decide +kernel
theorem dLink_header_7 : decode uLink_header.2.1 7 = .ok (.aload 5, 2) := by decide +kernel
theorem dLink_header_9 : decode uLink_header.2.1 9 = .ok (.ifnull 26, 3) := by decide +kernel
theorem dLink_header_12 : decode uLink_header.2.1 12 = .ok (.iload_n 2, 1) := by decide +kernel
theorem dLink_header_13 : decode uLink_header.2.1 13 = .ok (.iconst 0, 1) := by decide +kernel
theorem dLink_header_14 : decode uLink_header.2.1 14 = .ok (.bipush 15, 2) := by decide +kernel
theorem dLink_header_16 : decode uLink_header.2.1 16 = .ok (.invokestatic 25, 3) := by decide +kernel
theorem dLink_header_19 : decode uLink_header.2.1 19 = .ok (.ifCond .eq 16, 3) := by decide +kernel
theorem dLink_header_22 : decode uLink_header.2.1 22 = .ok (.aload 5, 2) := by decide +kernel
theorem dLink_header_24 : decode uLink_header.2.1 24 = .ok (.getfield 29, 3) := by decide +kernel
theorem dLink_header_27 : decode uLink_header.2.1 27 = .ok (.getfield 33, 3) := by decide +kernel
theorem dLink_header_30 : decode uLink_header.2.1 30 = .ok (.bipush 6, 2) := by decide +kernel
theorem dLink_header_32 : decode uLink_header.2.1 32 = .ok (.if_icmp .lt 5, 3) := by decide +kernel
theorem dLink_header_35 : decode uLink_header.2.1 35 = .ok (.iconst (-1), 1) := by decide +kernel
theorem dLink_header_36 : decode uLink_header.2.1 36 = .ok (.ireturn, 1) := by decide +kernel
theorem dLink_header_37 : decode uLink_header.2.1 37 = .ok (.aload 5, 2) := by decide +kernel
theorem dLink_header_39 : decode uLink_header.2.1 39 = .ok (.getfield 29, 3) := by decide +kernel
theorem dLink_header_42 : decode uLink_header.2.1 42 = .ok (.iload_n 2, 1) := by decide +kernel
theorem dLink_header_43 : decode uLink_header.2.1 43 = .ok (.iload_n 3, 1) := by decide +kernel
theorem dLink_header_44 : decode uLink_header.2.1 44 = .ok (.iload 4, 2) := by decide +kernel
theorem dLink_header_46 : decode uLink_header.2.1 46 = .ok (.invokevirtual 39, 3) := by decide +kernel
theorem dLink_header_49 : decode uLink_header.2.1 49 = .ok (.aload 5, 2) := by decide +kernel
theorem dLink_header_51 : decode uLink_header.2.1 51 = .ok (.getfield 29, 3) := by decide +kernel
theorem dLink_header_54 : decode uLink_header.2.1 54 = .ok (.getfield 33, 3) := by decide +kernel
theorem dLink_header_57 : decode uLink_header.2.1 57 = .ok (.ireturn, 1) := by decide +kernel
theorem dLink_pump_0 : decode uLink_pump.2.1 0 = .ok (.aload_n 0, 1) := by decide +kernel
theorem dLink_pump_1 : decode uLink_pump.2.1 1 = .ok (.iload_n 1, 1) := by decide +kernel
theorem dLink_pump_2 : decode uLink_pump.2.1 2 = .ok (.invokevirtual 21, 3) := by decide +kernel
theorem dLink_pump_5 : decode uLink_pump.2.1 5 = .ok (.astore_n 3, 1) := by decide +kernel
theorem dLink_pump_6 : decode uLink_pump.2.1 6 = .ok (.aload_n 3, 1) := by decide +kernel
theorem dLink_pump_7 : decode uLink_pump.2.1 7 = .ok (.ifnull 13, 3) := by decide +kernel
theorem dLink_pump_10 : decode uLink_pump.2.1 10 = .ok (.iload_n 2, 1) := by decide +kernel
theorem dLink_pump_11 : decode uLink_pump.2.1 11 = .ok (.iconst 1, 1) := by decide +kernel
theorem dLink_pump_12 : decode uLink_pump.2.1 12 = .ok (.bipush 8, 2) := by decide +kernel
theorem dLink_pump_14 : decode uLink_pump.2.1 14 = .ok (.invokestatic 25, 3) := by decide +kernel
theorem dLink_pump_17 : decode uLink_pump.2.1 17 = .ok (.ifCond .ne 5, 3) := by decide +kernel
theorem dLink_pump_20 : decode uLink_pump.2.1 20 = .ok (.iconst (-1), 1) := by decide +kernel
theorem dLink_pump_21 : decode uLink_pump.2.1 21 = .ok (.ireturn, 1) := by decide +kernel
theorem dLink_pump_22 : decode uLink_pump.2.1 22 = .ok (.aload_n 3, 1) := by decide +kernel
theorem dLink_pump_23 : decode uLink_pump.2.1 23 = .ok (.iload_n 2, 1) := by decide +kernel
theorem dLink_pump_24 : decode uLink_pump.2.1 24 = .ok (.invokevirtual 89, 3) := by decide +kernel
theorem dLink_pump_27 : decode uLink_pump.2.1 27 = .ok (.ireturn, 1) := by decide +kernel
theorem dLink_write_0 : decode uLink_write.2.1 0 = .ok (.aload_n 0, 1) := by decide +kernel
theorem dLink_write_1 : decode uLink_write.2.1 1 = .ok (.iload_n 1, 1) := by decide +kernel
theorem dLink_write_2 : decode uLink_write.2.1 2 = .ok (.invokevirtual 21, 3) := by decide +kernel
theorem dLink_write_5 : decode uLink_write.2.1 5 = .ok (.iload_n 2, 1) := by decide +kernel
theorem dLink_write_6 : decode uLink_write.2.1 6 = .ok (.invokestatic 58, 3) := by decide +kernel
theorem dLink_write_9 : decode uLink_write.2.1 9 = .ok (.astore 7, 2) := by decide +kernel
theorem dLink_write_11 : decode uLink_write.2.1 11 = .ok (.aload 7, 2) := by decide +kernel
theorem dLink_write_13 : decode uLink_write.2.1 13 = .ok (.ifnull 27, 3) := by decide +kernel
theorem dLink_write_16 : decode uLink_write.2.1 16 = .ok (.aload 7, 2) := by decide +kernel
theorem dLink_write_18 : decode uLink_write.2.1 18 = .ok (.invokevirtual 62, 3) := by decide +kernel
theorem dLink_write_21 : decode uLink_write.2.1 21 = .ok (.ifCond .eq 19, 3) := by decide +kernel
theorem dLink_write_24 : decode uLink_write.2.1 24 = .ok (.aload 7, 2) := by decide +kernel
theorem dLink_write_26 : decode uLink_write.2.1 26 = .ok (.getfield 67, 3) := by decide +kernel
theorem dLink_write_29 : decode uLink_write.2.1 29 = .ok (.ifCond .eq 11, 3) := by decide +kernel
theorem dLink_write_32 : decode uLink_write.2.1 32 = .ok (.aload 7, 2) := by decide +kernel
theorem dLink_write_34 : decode uLink_write.2.1 34 = .ok (.getfield 75, 3) := by decide +kernel
theorem dLink_write_37 : decode uLink_write.2.1 37 = .ok (.ifCond .eq 5, 3) := by decide +kernel
theorem dLink_write_40 : decode uLink_write.2.1 40 = .ok (.iconst (-1), 1) := by decide +kernel
theorem dLink_write_41 : decode uLink_write.2.1 41 = .ok (.ireturn, 1) := by decide +kernel
theorem dLink_write_42 : decode uLink_write.2.1 42 = .ok (.iload 5, 2) := by decide +kernel
theorem dLink_write_44 : decode uLink_write.2.1 44 = .ok (.iconst 0, 1) := by decide +kernel
theorem dLink_write_45 : decode uLink_write.2.1 45 = .ok (.bipush 8, 2) := by decide +kernel
theorem dLink_write_47 : decode uLink_write.2.1 47 = .ok (.invokestatic 25, 3) := by decide +kernel
theorem dLink_write_50 : decode uLink_write.2.1 50 = .ok (.ifCond .eq 19, 3) := by decide +kernel
theorem dLink_write_53 : decode uLink_write.2.1 53 = .ok (.aload 7, 2) := by decide +kernel
theorem dLink_write_55 : decode uLink_write.2.1 55 = .ok (.getfield 78, 3) := by decide +kernel
theorem dLink_write_58 : decode uLink_write.2.1 58 = .ok (.getfield 82, 3) := by decide +kernel
theorem dLink_write_61 : decode uLink_write.2.1 61 = .ok (.iload 5, 2) := by decide +kernel
theorem dLink_write_63 : decode uLink_write.2.1 63 = .ok (.iadd, 1) := by decide +kernel
theorem dLink_write_64 : decode uLink_write.2.1 64 = .ok (.bipush 32, 2) := by decide +kernel
theorem dLink_write_66 : decode uLink_write.2.1 66 = .ok (.if_icmp .le 5, 3) := by decide +kernel
theorem dLink_write_69 : decode uLink_write.2.1 69 = .ok (.iconst (-1), 1) := by decide +kernel
theorem dLink_write_70 : decode uLink_write.2.1 70 = .ok (.ireturn, 1) := by decide +kernel
theorem dLink_write_71 : decode uLink_write.2.1 71 = .ok (.aload 7, 2) := by decide +kernel
theorem dLink_write_73 : decode uLink_write.2.1 73 = .ok (.getfield 78, 3) := by decide +kernel
theorem dLink_write_76 : decode uLink_write.2.1 76 = .ok (.lload_n 3, 1) := by decide +kernel
theorem dLink_write_77 : decode uLink_write.2.1 77 = .ok (.iload 5, 2) := by decide +kernel
theorem dLink_write_79 : decode uLink_write.2.1 79 = .ok (.invokevirtual 85, 3) := by decide +kernel
theorem dLink_write_82 : decode uLink_write.2.1 82 = .ok (.aload 7, 2) := by decide +kernel
theorem dLink_write_84 : decode uLink_write.2.1 84 = .ok (.iload 6, 2) := by decide +kernel
theorem dLink_write_86 : decode uLink_write.2.1 86 = .ok (.putfield 75, 3) := by decide +kernel
theorem dLink_write_89 : decode uLink_write.2.1 89 = .ok (.aload 7, 2) := by decide +kernel
theorem dLink_write_91 : decode uLink_write.2.1 91 = .ok (.getfield 78, 3) := by decide +kernel
theorem dLink_write_94 : decode uLink_write.2.1 94 = .ok (.getfield 82, 3) := by decide +kernel
theorem dLink_write_97 : decode uLink_write.2.1 97 = .ok (.ireturn, 1) := by decide +kernel
theorem dLink_read_0 : decode uLink_read.2.1 0 = .ok (.aload_n 0, 1) := by decide +kernel
theorem dLink_read_1 : decode uLink_read.2.1 1 = .ok (.iload_n 1, 1) := by decide +kernel
theorem dLink_read_2 : decode uLink_read.2.1 2 = .ok (.invokevirtual 21, 3) := by decide +kernel
theorem dLink_read_5 : decode uLink_read.2.1 5 = .ok (.astore 4, 2) := by decide +kernel
theorem dLink_read_7 : decode uLink_read.2.1 7 = .ok (.aload 4, 2) := by decide +kernel
theorem dLink_read_9 : decode uLink_read.2.1 9 = .ok (.iload_n 2, 1) := by decide +kernel
theorem dLink_read_10 : decode uLink_read.2.1 10 = .ok (.invokestatic 58, 3) := by decide +kernel
theorem dLink_read_13 : decode uLink_read.2.1 13 = .ok (.astore 5, 2) := by decide +kernel
theorem dLink_read_15 : decode uLink_read.2.1 15 = .ok (.aload 4, 2) := by decide +kernel
theorem dLink_read_17 : decode uLink_read.2.1 17 = .ok (.ifnull 26, 3) := by decide +kernel
theorem dLink_read_20 : decode uLink_read.2.1 20 = .ok (.aload 5, 2) := by decide +kernel
theorem dLink_read_22 : decode uLink_read.2.1 22 = .ok (.ifnull 21, 3) := by decide +kernel
theorem dLink_read_25 : decode uLink_read.2.1 25 = .ok (.aload 5, 2) := by decide +kernel
theorem dLink_read_27 : decode uLink_read.2.1 27 = .ok (.getfield 93, 3) := by decide +kernel
theorem dLink_read_30 : decode uLink_read.2.1 30 = .ok (.ifCond .eq 13, 3) := by decide +kernel
theorem dLink_read_33 : decode uLink_read.2.1 33 = .ok (.iload_n 3, 1) := by decide +kernel
theorem dLink_read_34 : decode uLink_read.2.1 34 = .ok (.iconst 1, 1) := by decide +kernel
theorem dLink_read_35 : decode uLink_read.2.1 35 = .ok (.bipush 7, 2) := by decide +kernel
theorem dLink_read_37 : decode uLink_read.2.1 37 = .ok (.invokestatic 25, 3) := by decide +kernel
theorem dLink_read_40 : decode uLink_read.2.1 40 = .ok (.ifCond .ne 7, 3) := by decide +kernel
theorem dLink_read_43 : decode uLink_read.2.1 43 = .ok (.ldc2_w 96, 3) := by decide +kernel
theorem dLink_read_46 : decode uLink_read.2.1 46 = .ok (.lreturn, 1) := by decide +kernel
theorem dLink_read_47 : decode uLink_read.2.1 47 = .ok (.aload 4, 2) := by decide +kernel
theorem dLink_read_49 : decode uLink_read.2.1 49 = .ok (.getfield 47, 3) := by decide +kernel
theorem dLink_read_52 : decode uLink_read.2.1 52 = .ok (.invokevirtual 51, 3) := by decide +kernel
theorem dLink_read_55 : decode uLink_read.2.1 55 = .ok (.ifCond .eq 7, 3) := by decide +kernel
theorem dLink_read_58 : decode uLink_read.2.1 58 = .ok (.ldc2_w 98, 3) := by decide +kernel
theorem dLink_read_61 : decode uLink_read.2.1 61 = .ok (.lreturn, 1) := by decide +kernel
theorem dLink_read_62 : decode uLink_read.2.1 62 = .ok (.aload 4, 2) := by decide +kernel
theorem dLink_read_64 : decode uLink_read.2.1 64 = .ok (.aload 5, 2) := by decide +kernel
theorem dLink_read_66 : decode uLink_read.2.1 66 = .ok (.iload_n 3, 1) := by decide +kernel
theorem dLink_read_67 : decode uLink_read.2.1 67 = .ok (.invokevirtual 100, 3) := by decide +kernel
theorem dLink_read_70 : decode uLink_read.2.1 70 = .ok (.lreturn, 1) := by decide +kernel
theorem dLink_reset_0 : decode uLink_reset.2.1 0 = .ok (.aload_n 0, 1) := by decide +kernel
theorem dLink_reset_1 : decode uLink_reset.2.1 1 = .ok (.iload_n 1, 1) := by decide +kernel
theorem dLink_reset_2 : decode uLink_reset.2.1 2 = .ok (.invokevirtual 21, 3) := by decide +kernel
theorem dLink_reset_5 : decode uLink_reset.2.1 5 = .ok (.astore 4, 2) := by decide +kernel
theorem dLink_reset_7 : decode uLink_reset.2.1 7 = .ok (.aload 4, 2) := by decide +kernel
theorem dLink_reset_9 : decode uLink_reset.2.1 9 = .ok (.iload_n 2, 1) := by decide +kernel
theorem dLink_reset_10 : decode uLink_reset.2.1 10 = .ok (.invokestatic 58, 3) := by decide +kernel
theorem dLink_reset_13 : decode uLink_reset.2.1 13 = .ok (.astore 5, 2) := by decide +kernel
theorem dLink_reset_15 : decode uLink_reset.2.1 15 = .ok (.aload 4, 2) := by decide +kernel
theorem dLink_reset_17 : decode uLink_reset.2.1 17 = .ok (.ifnull 26, 3) := by decide +kernel
theorem dLink_reset_20 : decode uLink_reset.2.1 20 = .ok (.aload 5, 2) := by decide +kernel
theorem dLink_reset_22 : decode uLink_reset.2.1 22 = .ok (.ifnull 21, 3) := by decide +kernel
theorem dLink_reset_25 : decode uLink_reset.2.1 25 = .ok (.aload 5, 2) := by decide +kernel
theorem dLink_reset_27 : decode uLink_reset.2.1 27 = .ok (.invokevirtual 104, 3) := by decide +kernel
theorem dLink_reset_30 : decode uLink_reset.2.1 30 = .ok (.ifCond .eq 13, 3) := by decide +kernel
theorem dLink_reset_33 : decode uLink_reset.2.1 33 = .ok (.iload_n 3, 1) := by decide +kernel
theorem dLink_reset_34 : decode uLink_reset.2.1 34 = .ok (.iconst 0, 1) := by decide +kernel
theorem dLink_reset_35 : decode uLink_reset.2.1 35 = .ok (.bipush 15, 2) := by decide +kernel
theorem dLink_reset_37 : decode uLink_reset.2.1 37 = .ok (.invokestatic 25, 3) := by decide +kernel
theorem dLink_reset_40 : decode uLink_reset.2.1 40 = .ok (.ifCond .ne 5, 3) := by decide +kernel
theorem dLink_reset_43 : decode uLink_reset.2.1 43 = .ok (.iconst 0, 1) := by decide +kernel
theorem dLink_reset_44 : decode uLink_reset.2.1 44 = .ok (.ireturn, 1) := by decide +kernel
theorem dLink_reset_45 : decode uLink_reset.2.1 45 = .ok (.aload 4, 2) := by decide +kernel
theorem dLink_reset_47 : decode uLink_reset.2.1 47 = .ok (.getfield 47, 3) := by decide +kernel
theorem dLink_reset_50 : decode uLink_reset.2.1 50 = .ok (.invokevirtual 51, 3) := by decide +kernel
theorem dLink_reset_53 : decode uLink_reset.2.1 53 = .ok (.ifCond .eq 5, 3) := by decide +kernel
theorem dLink_reset_56 : decode uLink_reset.2.1 56 = .ok (.iconst 0, 1) := by decide +kernel
theorem dLink_reset_57 : decode uLink_reset.2.1 57 = .ok (.ireturn, 1) := by decide +kernel
theorem dLink_reset_58 : decode uLink_reset.2.1 58 = .ok (.aload 4, 2) := by decide +kernel
theorem dLink_reset_60 : decode uLink_reset.2.1 60 = .ok (.aload 5, 2) := by decide +kernel
theorem dLink_reset_62 : decode uLink_reset.2.1 62 = .ok (.iload_n 3, 1) := by decide +kernel
theorem dLink_reset_63 : decode uLink_reset.2.1 63 = .ok (.iconst 0, 1) := by decide +kernel
theorem dLink_reset_64 : decode uLink_reset.2.1 64 = .ok (.invokevirtual 107, 3) := by decide +kernel
theorem dLink_reset_67 : decode uLink_reset.2.1 67 = .ok (.pop, 1) := by decide +kernel
theorem dLink_reset_68 : decode uLink_reset.2.1 68 = .ok (.iconst 1, 1) := by decide +kernel
theorem dLink_reset_69 : decode uLink_reset.2.1 69 = .ok (.ireturn, 1) := by decide +kernel
theorem dLink_setting_0 : decode uLink_setting.2.1 0 = .ok (.aload_n 0, 1) := by decide +kernel
theorem dLink_setting_1 : decode uLink_setting.2.1 1 = .ok (.iload_n 1, 1) := by decide +kernel
theorem dLink_setting_2 : decode uLink_setting.2.1 2 = .ok (.invokevirtual 21, 3) := by decide +kernel
theorem dLink_setting_5 : decode uLink_setting.2.1 5 = .ok (.astore 4, 2) := by decide +kernel
theorem dLink_setting_7 : decode uLink_setting.2.1 7 = .ok (.aload 4, 2) := by decide +kernel
theorem dLink_setting_9 : decode uLink_setting.2.1 9 = .ok (.ifnull 18, 3) := by decide +kernel
theorem dLink_setting_12 : decode uLink_setting.2.1 12 = .ok (.iload_n 2, 1) := by decide +kernel
theorem dLink_setting_13 : decode uLink_setting.2.1 13 = .ok (.invokestatic 111, 3) := by decide +kernel
theorem dLink_setting_16 : decode uLink_setting.2.1 16 = .ok (.ifCond .eq 11, 3) := by decide +kernel
theorem dLink_setting_19 : decode uLink_setting.2.1 19 = .ok (.iload_n 2, 1) := by decide +kernel
theorem dLink_setting_20 : decode uLink_setting.2.1 20 = .ok (.iload_n 3, 1) := by decide +kernel
theorem dLink_setting_21 : decode uLink_setting.2.1 21 = .ok (.invokestatic 117, 3) := by decide +kernel
theorem dLink_setting_24 : decode uLink_setting.2.1 24 = .ok (.ifCond .ne 5, 3) := by decide +kernel
theorem dLink_setting_27 : decode uLink_setting.2.1 27 = .ok (.iconst 0, 1) := by decide +kernel
theorem dLink_setting_28 : decode uLink_setting.2.1 28 = .ok (.ireturn, 1) := by decide +kernel
theorem dLink_setting_29 : decode uLink_setting.2.1 29 = .ok (.aload 4, 2) := by decide +kernel
theorem dLink_setting_31 : decode uLink_setting.2.1 31 = .ok (.getfield 121, 3) := by decide +kernel
theorem dLink_setting_34 : decode uLink_setting.2.1 34 = .ok (.bipush 8, 2) := by decide +kernel
theorem dLink_setting_36 : decode uLink_setting.2.1 36 = .ok (.if_icmp .ge 14, 3) := by decide +kernel
theorem dLink_setting_39 : decode uLink_setting.2.1 39 = .ok (.aload 4, 2) := by decide +kernel
theorem dLink_setting_41 : decode uLink_setting.2.1 41 = .ok (.getfield 47, 3) := by decide +kernel
theorem dLink_setting_44 : decode uLink_setting.2.1 44 = .ok (.invokevirtual 51, 3) := by decide +kernel
theorem dLink_setting_47 : decode uLink_setting.2.1 47 = .ok (.ifCond .eq 5, 3) := by decide +kernel
theorem dLink_setting_50 : decode uLink_setting.2.1 50 = .ok (.iconst 0, 1) := by decide +kernel
theorem dLink_setting_51 : decode uLink_setting.2.1 51 = .ok (.ireturn, 1) := by decide +kernel
theorem dLink_setting_52 : decode uLink_setting.2.1 52 = .ok (.aload 4, 2) := by decide +kernel
theorem dLink_setting_54 : decode uLink_setting.2.1 54 = .ok (.iload_n 2, 1) := by decide +kernel
theorem dLink_setting_55 : decode uLink_setting.2.1 55 = .ok (.iload_n 3, 1) := by decide +kernel
theorem dLink_setting_56 : decode uLink_setting.2.1 56 = .ok (.invokevirtual 124, 3) := by decide +kernel
theorem dLink_setting_59 : decode uLink_setting.2.1 59 = .ok (.iconst 1, 1) := by decide +kernel
theorem dLink_setting_60 : decode uLink_setting.2.1 60 = .ok (.ireturn, 1) := by decide +kernel
theorem dLink_deliver_0 : decode uLink_deliver.2.1 0 = .ok (.aload_n 0, 1) := by decide +kernel
theorem dLink_deliver_1 : decode uLink_deliver.2.1 1 = .ok (.iload_n 1, 1) := by decide +kernel
theorem dLink_deliver_2 : decode uLink_deliver.2.1 2 = .ok (.invokevirtual 128, 3) := by decide +kernel
theorem dLink_deliver_5 : decode uLink_deliver.2.1 5 = .ok (.astore_n 2, 1) := by decide +kernel
theorem dLink_deliver_6 : decode uLink_deliver.2.1 6 = .ok (.aload_n 2, 1) := by decide +kernel
theorem dLink_deliver_7 : decode uLink_deliver.2.1 7 = .ok (.ifnull 13, 3) := by decide +kernel
theorem dLink_deliver_10 : decode uLink_deliver.2.1 10 = .ok (.aload_n 2, 1) := by decide +kernel
theorem dLink_deliver_11 : decode uLink_deliver.2.1 11 = .ok (.getfield 131, 3) := by decide +kernel
theorem dLink_deliver_14 : decode uLink_deliver.2.1 14 = .ok (.getfield 134, 3) := by decide +kernel
theorem dLink_deliver_17 : decode uLink_deliver.2.1 17 = .ok (.ifCond .ne 5, 3) := by decide +kernel
theorem dLink_deliver_20 : decode uLink_deliver.2.1 20 = .ok (.iconst (-1), 1) := by decide +kernel
theorem dLink_deliver_21 : decode uLink_deliver.2.1 21 = .ok (.ireturn, 1) := by decide +kernel
theorem dLink_deliver_22 : decode uLink_deliver.2.1 22 = .ok (.aload_n 2, 1) := by decide +kernel
theorem dLink_deliver_23 : decode uLink_deliver.2.1 23 = .ok (.getfield 135, 3) := by decide +kernel
theorem dLink_deliver_26 : decode uLink_deliver.2.1 26 = .ok (.ifCond .eq 7, 3) := by decide +kernel
theorem dLink_deliver_29 : decode uLink_deliver.2.1 29 = .ok (.iconst 1, 1) := by decide +kernel
theorem dLink_deliver_30 : decode uLink_deliver.2.1 30 = .ok (.goto 4, 3) := by decide +kernel
theorem dLink_deliver_33 : decode uLink_deliver.2.1 33 = .ok (.iconst 0, 1) := by decide +kernel
theorem dLink_deliver_34 : decode uLink_deliver.2.1 34 = .ok (.istore_n 3, 1) := by decide +kernel
theorem dLink_deliver_35 : decode uLink_deliver.2.1 35 = .ok (.iload_n 3, 1) := by decide +kernel
theorem dLink_deliver_36 : decode uLink_deliver.2.1 36 = .ok (.ifCond .ne 18, 3) := by decide +kernel
theorem dLink_deliver_39 : decode uLink_deliver.2.1 39 = .ok (.aload_n 2, 1) := by decide +kernel
theorem dLink_deliver_40 : decode uLink_deliver.2.1 40 = .ok (.getfield 47, 3) := by decide +kernel
theorem dLink_deliver_43 : decode uLink_deliver.2.1 43 = .ok (.getfield 134, 3) := by decide +kernel
theorem dLink_deliver_46 : decode uLink_deliver.2.1 46 = .ok (.bipush 40, 2) := by decide +kernel
theorem dLink_deliver_48 : decode uLink_deliver.2.1 48 = .ok (.if_icmp .lt 6, 3) := by decide +kernel
theorem dLink_deliver_51 : decode uLink_deliver.2.1 51 = .ok (.bipush (-2), 2) := by decide +kernel
theorem dLink_deliver_53 : decode uLink_deliver.2.1 53 = .ok (.ireturn, 1) := by decide +kernel
theorem dLink_deliver_54 : decode uLink_deliver.2.1 54 = .ok (.aload_n 2, 1) := by decide +kernel
theorem dLink_deliver_55 : decode uLink_deliver.2.1 55 = .ok (.getfield 131, 3) := by decide +kernel
theorem dLink_deliver_58 : decode uLink_deliver.2.1 58 = .ok (.invokevirtual 138, 3) := by decide +kernel
theorem dLink_deliver_61 : decode uLink_deliver.2.1 61 = .ok (.astore 4, 2) := by decide +kernel
theorem dLink_deliver_63 : decode uLink_deliver.2.1 63 = .ok (.iload_n 3, 1) := by decide +kernel
theorem dLink_deliver_64 : decode uLink_deliver.2.1 64 = .ok (.ifCond .ne 8, 3) := by decide +kernel
theorem dLink_deliver_67 : decode uLink_deliver.2.1 67 = .ok (.aload 4, 2) := by decide +kernel
theorem dLink_deliver_69 : decode uLink_deliver.2.1 69 = .ok (.ifnonnull 7, 3) := by decide +kernel
theorem dLink_deliver_72 : decode uLink_deliver.2.1 72 = .ok (.iconst 0, 1) := by decide +kernel
theorem dLink_deliver_73 : decode uLink_deliver.2.1 73 = .ok (.goto 9, 3) := by decide +kernel
theorem dLink_deliver_76 : decode uLink_deliver.2.1 76 = .ok (.aload_n 2, 1) := by decide +kernel
theorem dLink_deliver_77 : decode uLink_deliver.2.1 77 = .ok (.aload 4, 2) := by decide +kernel
theorem dLink_deliver_79 : decode uLink_deliver.2.1 79 = .ok (.invokevirtual 142, 3) := by decide +kernel
theorem dLink_deliver_82 : decode uLink_deliver.2.1 82 = .ok (.ireturn, 1) := by decide +kernel
theorem dLink_frame_0 : decode uLink_frame.2.1 0 = .ok (.aload_n 0, 1) := by decide +kernel
theorem dLink_frame_1 : decode uLink_frame.2.1 1 = .ok (.iload_n 1, 1) := by decide +kernel
theorem dLink_frame_2 : decode uLink_frame.2.1 2 = .ok (.invokevirtual 128, 3) := by decide +kernel
theorem dLink_frame_5 : decode uLink_frame.2.1 5 = .ok (.astore 4, 2) := by decide +kernel
theorem dLink_frame_7 : decode uLink_frame.2.1 7 = .ok (.aload 4, 2) := by decide +kernel
theorem dLink_frame_9 : decode uLink_frame.2.1 9 = .ok (.ifnonnull 7, 3) := by decide +kernel
theorem dLink_frame_12 : decode uLink_frame.2.1 12 = .ok (.aconst_null, 1) := by decide +kernel
theorem dLink_frame_13 : decode uLink_frame.2.1 13 = .ok (.goto 12, 3) := by decide +kernel
theorem dLink_frame_16 : decode uLink_frame.2.1 16 = .ok (.aload 4, 2) := by decide +kernel
theorem dLink_frame_18 : decode uLink_frame.2.1 18 = .ok (.getfield 131, 3) := by decide +kernel
theorem dLink_frame_21 : decode uLink_frame.2.1 21 = .ok (.iload_n 2, 1) := by decide +kernel
theorem dLink_frame_22 : decode uLink_frame.2.1 22 = .ok (.invokevirtual 153, 3) := by decide +kernel
theorem dLink_frame_25 : decode uLink_frame.2.1 25 = .ok (.astore 5, 2) := by decide +kernel
theorem dLink_frame_27 : decode uLink_frame.2.1 27 = .ok (.aload 5, 2) := by decide +kernel
theorem dLink_frame_29 : decode uLink_frame.2.1 29 = .ok (.ifnonnull 7, 3) := by decide +kernel
theorem dLink_frame_32 : decode uLink_frame.2.1 32 = .ok (.iconst (-1), 1) := by decide +kernel
theorem dLink_frame_33 : decode uLink_frame.2.1 33 = .ok (.goto 9, 3) := by decide +kernel
theorem dLink_frame_36 : decode uLink_frame.2.1 36 = .ok (.aload 5, 2) := by decide +kernel
theorem dLink_frame_38 : decode uLink_frame.2.1 38 = .ok (.iload_n 3, 1) := by decide +kernel
theorem dLink_frame_39 : decode uLink_frame.2.1 39 = .ok (.invokevirtual 157, 3) := by decide +kernel
theorem dLink_frame_42 : decode uLink_frame.2.1 42 = .ok (.ireturn, 1) := by decide +kernel
theorem dLink_request_0 : decode uLink_request.2.1 0 = .ok (.aload_n 0, 1) := by decide +kernel
theorem dLink_request_1 : decode uLink_request.2.1 1 = .ok (.iconst 0, 1) := by decide +kernel
theorem dLink_request_2 : decode uLink_request.2.1 2 = .ok (.invokevirtual 21, 3) := by decide +kernel
theorem dLink_request_5 : decode uLink_request.2.1 5 = .ok (.astore_n 2, 1) := by decide +kernel
theorem dLink_request_6 : decode uLink_request.2.1 6 = .ok (.aload_n 2, 1) := by decide +kernel
theorem dLink_request_7 : decode uLink_request.2.1 7 = .ok (.ifnull 10, 3) := by decide +kernel
theorem dLink_request_10 : decode uLink_request.2.1 10 = .ok (.aload_n 2, 1) := by decide +kernel
theorem dLink_request_11 : decode uLink_request.2.1 11 = .ok (.invokevirtual 43, 3) := by decide +kernel
theorem dLink_request_14 : decode uLink_request.2.1 14 = .ok (.ifCond .ne 5, 3) := by decide +kernel
theorem dLink_request_17 : decode uLink_request.2.1 17 = .ok (.iconst (-1), 1) := by decide +kernel
theorem dLink_request_18 : decode uLink_request.2.1 18 = .ok (.ireturn, 1) := by decide +kernel
theorem dLink_request_19 : decode uLink_request.2.1 19 = .ok (.aload_n 2, 1) := by decide +kernel
theorem dLink_request_20 : decode uLink_request.2.1 20 = .ok (.getfield 47, 3) := by decide +kernel
theorem dLink_request_23 : decode uLink_request.2.1 23 = .ok (.invokevirtual 51, 3) := by decide +kernel
theorem dLink_request_26 : decode uLink_request.2.1 26 = .ok (.ifCond .eq 6, 3) := by decide +kernel
theorem dLink_request_29 : decode uLink_request.2.1 29 = .ok (.bipush (-2), 2) := by decide +kernel
theorem dLink_request_31 : decode uLink_request.2.1 31 = .ok (.ireturn, 1) := by decide +kernel
theorem dLink_request_32 : decode uLink_request.2.1 32 = .ok (.aload_n 2, 1) := by decide +kernel
theorem dLink_request_33 : decode uLink_request.2.1 33 = .ok (.iload_n 1, 1) := by decide +kernel
theorem dLink_request_34 : decode uLink_request.2.1 34 = .ok (.invokevirtual 54, 3) := by decide +kernel
theorem dLink_request_37 : decode uLink_request.2.1 37 = .ok (.ireturn, 1) := by decide +kernel
theorem dLink_respond_0 : decode uLink_respond.2.1 0 = .ok (.aload_n 0, 1) := by decide +kernel
theorem dLink_respond_1 : decode uLink_respond.2.1 1 = .ok (.iconst 1, 1) := by decide +kernel
theorem dLink_respond_2 : decode uLink_respond.2.1 2 = .ok (.invokevirtual 21, 3) := by decide +kernel
theorem dLink_respond_5 : decode uLink_respond.2.1 5 = .ok (.astore_n 3, 1) := by decide +kernel
theorem dLink_respond_6 : decode uLink_respond.2.1 6 = .ok (.aload_n 3, 1) := by decide +kernel
theorem dLink_respond_7 : decode uLink_respond.2.1 7 = .ok (.iload_n 1, 1) := by decide +kernel
theorem dLink_respond_8 : decode uLink_respond.2.1 8 = .ok (.invokestatic 58, 3) := by decide +kernel
theorem dLink_respond_11 : decode uLink_respond.2.1 11 = .ok (.astore 4, 2) := by decide +kernel
theorem dLink_respond_13 : decode uLink_respond.2.1 13 = .ok (.aload_n 3, 1) := by decide +kernel
theorem dLink_respond_14 : decode uLink_respond.2.1 14 = .ok (.ifnull 34, 3) := by decide +kernel
theorem dLink_respond_17 : decode uLink_respond.2.1 17 = .ok (.aload 4, 2) := by decide +kernel
theorem dLink_respond_19 : decode uLink_respond.2.1 19 = .ok (.ifnull 29, 3) := by decide +kernel
theorem dLink_respond_22 : decode uLink_respond.2.1 22 = .ok (.aload 4, 2) := by decide +kernel
theorem dLink_respond_24 : decode uLink_respond.2.1 24 = .ok (.invokevirtual 62, 3) := by decide +kernel
theorem dLink_respond_27 : decode uLink_respond.2.1 27 = .ok (.ifCond .eq 21, 3) := by decide +kernel
theorem dLink_respond_30 : decode uLink_respond.2.1 30 = .ok (.aload 4, 2) := by decide +kernel
theorem dLink_respond_32 : decode uLink_respond.2.1 32 = .ok (.getfield 67, 3) := by decide +kernel
theorem dLink_respond_35 : decode uLink_respond.2.1 35 = .ok (.ifCond .ne 13, 3) := by decide +kernel
theorem dLink_respond_38 : decode uLink_respond.2.1 38 = .ok (.aload_n 3, 1) := by decide +kernel
theorem dLink_respond_39 : decode uLink_respond.2.1 39 = .ok (.getfield 29, 3) := by decide +kernel
theorem dLink_respond_42 : decode uLink_respond.2.1 42 = .ok (.getfield 33, 3) := by decide +kernel
theorem dLink_respond_45 : decode uLink_respond.2.1 45 = .ok (.ifCond .ne 5, 3) := by decide +kernel
theorem dLink_respond_48 : decode uLink_respond.2.1 48 = .ok (.iconst (-1), 1) := by decide +kernel
theorem dLink_respond_49 : decode uLink_respond.2.1 49 = .ok (.ireturn, 1) := by decide +kernel
theorem dLink_respond_50 : decode uLink_respond.2.1 50 = .ok (.aload_n 3, 1) := by decide +kernel
theorem dLink_respond_51 : decode uLink_respond.2.1 51 = .ok (.getfield 47, 3) := by decide +kernel
theorem dLink_respond_54 : decode uLink_respond.2.1 54 = .ok (.invokevirtual 51, 3) := by decide +kernel
theorem dLink_respond_57 : decode uLink_respond.2.1 57 = .ok (.ifCond .eq 6, 3) := by decide +kernel
theorem dLink_respond_60 : decode uLink_respond.2.1 60 = .ok (.bipush (-2), 2) := by decide +kernel
theorem dLink_respond_62 : decode uLink_respond.2.1 62 = .ok (.ireturn, 1) := by decide +kernel
theorem dLink_respond_63 : decode uLink_respond.2.1 63 = .ok (.aload_n 3, 1) := by decide +kernel
theorem dLink_respond_64 : decode uLink_respond.2.1 64 = .ok (.getfield 29, 3) := by decide +kernel
theorem dLink_respond_67 : decode uLink_respond.2.1 67 = .ok (.getfield 33, 3) := by decide +kernel
theorem dLink_respond_70 : decode uLink_respond.2.1 70 = .ok (.istore 5, 2) := by decide +kernel
theorem dLink_respond_72 : decode uLink_respond.2.1 72 = .ok (.aload_n 3, 1) := by decide +kernel
theorem dLink_respond_73 : decode uLink_respond.2.1 73 = .ok (.aload 4, 2) := by decide +kernel
theorem dLink_respond_75 : decode uLink_respond.2.1 75 = .ok (.iload_n 2, 1) := by decide +kernel
theorem dLink_respond_76 : decode uLink_respond.2.1 76 = .ok (.invokevirtual 71, 3) := by decide +kernel
theorem dLink_respond_79 : decode uLink_respond.2.1 79 = .ok (.iload 5, 2) := by decide +kernel
theorem dLink_respond_81 : decode uLink_respond.2.1 81 = .ok (.ireturn, 1) := by decide +kernel
theorem fs_Link_165 : fS "InterleavedLink" 165 2 4 := ⟨"InterleavedLink$End", T_End, 17, cf_End, by decide, Or.inl (gW_in 308 (by decide +kernel) rfl)⟩
theorem fs_Link_162 : fS "InterleavedLink" 162 2 5 := ⟨"InterleavedLink$End", T_End, 17, cf_End, by decide, Or.inl (gW_in 310 (by decide +kernel) rfl)⟩
theorem cs_Link_104 : cV "InterleavedLink" 104 uStream_isActive 0 := ⟨⟨Or.inl (gW_in 653 (by decide +kernel) rfl), (gW_in 72 (by decide +kernel) rfl), (gW_in 399 (by decide +kernel) rfl), ⟨by decide, by decide⟩, by decide +kernel⟩, (gW_in 397 (by decide +kernel) rfl), (gW_in 398 (by decide +kernel) rfl)⟩
theorem fs_Link_169 : fS "InterleavedLink" 169 8 3 := ⟨"InterleavedLink$Stream", T_Stream, 10, cf_Stream, by decide, Or.inl (gW_in 260 (by decide +kernel) rfl)⟩
theorem fs_Link_168 : fS "InterleavedLink" 168 8 4 := ⟨"InterleavedLink$Stream", T_Stream, 10, cf_Stream, by decide, Or.inl (gW_in 263 (by decide +kernel) rfl)⟩
theorem fs_Link_78 : fS "InterleavedLink" 78 8 8 := ⟨"InterleavedLink$Stream", T_Stream, 10, cf_Stream, by decide, Or.inl (gW_in 274 (by decide +kernel) rfl)⟩
theorem fs_Link_82 : fS "InterleavedLink" 82 9 1 := ⟨"InterleavedLink$ByteQueue", T_BQ, 2, cf_BQ, by decide, Or.inl (gW_in 243 (by decide +kernel) rfl)⟩
theorem fs_Link_170 : fS "InterleavedLink" 170 8 9 := ⟨"InterleavedLink$Stream", T_Stream, 10, cf_Stream, by decide, Or.inl (gW_in 278 (by decide +kernel) rfl)⟩
theorem fs_Link_173 : fS "InterleavedLink" 173 8 7 := ⟨"InterleavedLink$Stream", T_Stream, 10, cf_Stream, by decide, Or.inl (gW_in 271 (by decide +kernel) rfl)⟩
theorem cs_Link_21 : cV "InterleavedLink" 21 uLink_upEndOf 1 := ⟨⟨Or.inl (gW_in 369 (by decide +kernel) rfl), (gW_in 64 (by decide +kernel) rfl), (gW_in 372 (by decide +kernel) rfl), ⟨by decide, by decide⟩, by decide +kernel⟩, (gW_in 371 (by decide +kernel) rfl), (gW_in 0 (by decide +kernel) rfl)⟩
theorem cs_Link_25 : cSt "InterleavedLink" 25 uLink_isWithin 3 := ⟨⟨Or.inl (gW_in 377 (by decide +kernel) rfl), (gW_in 64 (by decide +kernel) rfl), (gW_in 379 (by decide +kernel) rfl), ⟨by decide, by decide⟩, by decide +kernel⟩, (gW_in 378 (by decide +kernel) rfl)⟩
theorem fs_Link_29 : fS "InterleavedLink" 29 2 6 := ⟨"InterleavedLink$End", T_End, 17, cf_End, by decide, Or.inl (gW_in 312 (by decide +kernel) rfl)⟩
theorem fs_Link_33 : fS "InterleavedLink" 33 3 3 := ⟨"InterleavedLink$FieldList", T_FList, 4, cf_FList, by decide, Or.inl (gW_in 129 (by decide +kernel) rfl)⟩
theorem cs_Link_62 : cV "InterleavedLink" 62 uStream_maySend 0 := ⟨⟨Or.inl (gW_in 564 (by decide +kernel) rfl), (gW_in 72 (by decide +kernel) rfl), (gW_in 567 (by decide +kernel) rfl), ⟨by decide, by decide⟩, by decide +kernel⟩, (gW_in 565 (by decide +kernel) rfl), (gW_in 566 (by decide +kernel) rfl)⟩
theorem lc_Link_96 : Cond.constantLong "InterleavedLink" 96 (-1) ∈ gW := gW_in 632 (by decide +kernel) rfl
theorem cs_Link_111 : cSt "InterleavedLink" 111 uSett_isKnown 1 := ⟨⟨Or.inl (gW_in 673 (by decide +kernel) rfl), (gW_in 71 (by decide +kernel) rfl), (gW_in 675 (by decide +kernel) rfl), ⟨by decide, by decide⟩, by decide +kernel⟩, (gW_in 674 (by decide +kernel) rfl)⟩
theorem cs_Link_117 : cSt "InterleavedLink" 117 uSett_isInRange 2 := ⟨⟨Or.inl (gW_in 676 (by decide +kernel) rfl), (gW_in 71 (by decide +kernel) rfl), (gW_in 678 (by decide +kernel) rfl), ⟨by decide, by decide⟩, by decide +kernel⟩, (gW_in 677 (by decide +kernel) rfl)⟩
theorem fs_Link_131 : fS "InterleavedLink" 131 2 1 := ⟨"InterleavedLink$End", T_End, 17, cf_End, by decide, Or.inl (gW_in 302 (by decide +kernel) rfl)⟩
theorem fs_Link_134 : fS "InterleavedLink" 134 1 2 := ⟨"InterleavedLink$Pipe", T_Pipe, 3, cf_Pipe, by decide, Or.inl (gW_in 99 (by decide +kernel) rfl)⟩
/-! ===== the class: calls that change nothing ===== -/
set_option maxRecDepth 100000 in
set_option maxHeartbeats 4000000 in
theorem ct_Link_window_no {X : mX} {l : Launch} {M : mM} {x : Int32} (hS : Shp M) (h0 : ¬ x = 0) (h1 : ¬ x = 1) {y z : Int32} : Ct X l uLink_window (rk 3 64) [.ref 3, .int x, .int y, .int z] M (fun r M' => r = some (.int 0) ∧ M' = M) := by
  refine Ct.of (by decide) (Nat.le_of_ble_eq_true rfl) ?_
  show G X l uLink_window (rk 3 64) 0 0 M 0 [some (.ref 3), some (.int x), some (.int y), some (.int z), none, none] [] _
  refine g_aload_n 0 dLink_window_0 rfl ?_
  refine g_iload_n 1 dLink_window_1 rfl ?_
  refine g_callV 2 [_] dLink_window_2 cs_Link_128 rfl (ci := 0) rfl (by decide) hS.link rfl ⟨(Nat.le_of_ble_eq_true rfl), (Nat.le_of_ble_eq_true rfl)⟩ (Nat.le_of_ble_eq_true rfl) (ct_endOf_no h0 h1) (Nat.le_of_ble_eq_true rfl) (Nat.le_of_ble_eq_true rfl) ?_
  rintro _ M2 ⟨rfl, hM2⟩
  rw [hM2]
  clear hM2 M2
  refine g_astoreN 5 dLink_window_5 (by decide) rfl ?_
  refine g_aloadN 7 dLink_window_7 rfl ?_
  refine g_ifnullN 9 34 dLink_window_9 rfl ?_
  refine g_aloadN 34 dLink_window_34 rfl ?_
  refine g_iload_n 36 dLink_window_36 rfl ?_
  refine g_callS 37 [_, _] dLink_window_37 cs_Link_58 rfl rfl ⟨(Nat.le_of_ble_eq_true rfl), (Nat.le_of_ble_eq_true rfl)⟩ (Nat.le_of_ble_eq_true rfl) (ct_streamOf_N) (Nat.le_of_ble_eq_true rfl) (Nat.le_of_ble_eq_true rfl) ?_
  rintro _ M2 ⟨rfl, hM2⟩
  rw [hM2]
  clear hM2 M2
  refine g_astoreN 40 dLink_window_40 (by decide) rfl ?_
  refine g_aloadN 42 dLink_window_42 rfl ?_
  refine g_ifnullN 44 55 dLink_window_44 rfl ?_
  refine g_iconst 55 0 dLink_window_55 rfl ?_
  exact g_iret 56 dLink_window_56 rfl ⟨rfl, rfl⟩

set_option maxRecDepth 100000 in
set_option maxHeartbeats 4000000 in
theorem ct_Link_window_0 {X : mX} {l : Launch} {M : mM} {e : Nat} (hS : Shp M) (he : e < 2) {z : Int32} : Ct X l uLink_window (rk 3 64) [.ref 3, .int (nI e), .int 0, .int z] M (fun r M' => r = some (.int (if z = 0 then mI M (9 + 80 * e) 4 else mI M (9 + 80 * e) 5)) ∧ M' = M) := by
  refine Ct.of (by decide) (Nat.le_of_ble_eq_true rfl) ?_
  show G X l uLink_window (rk 3 64) 0 0 M 0 [some (.ref 3), some (.int (nI e)), some (.int 0), some (.int z), none, none] [] _
  refine g_aload_n 0 dLink_window_0 rfl ?_
  refine g_iload_n 1 dLink_window_1 rfl ?_
  refine g_callV 2 [_] dLink_window_2 cs_Link_128 rfl (ci := 0) rfl (by decide) hS.link rfl ⟨(Nat.le_of_ble_eq_true rfl), (Nat.le_of_ble_eq_true rfl)⟩ (Nat.le_of_ble_eq_true rfl) (ct_endOf hS he) (Nat.le_of_ble_eq_true rfl) (Nat.le_of_ble_eq_true rfl) ?_
  rintro _ M2 ⟨rfl, hM2⟩
  rw [hM2]
  clear hM2 M2
  refine g_astore 5 dLink_window_5 (by decide) rfl ?_
  refine g_aload 7 dLink_window_7 rfl ?_
  refine g_ifnull 9 dLink_window_9 ?_
  refine g_iload_n 12 dLink_window_12 rfl ?_
  refine g_if_ne 13 34 dLink_window_13 rfl (fun h13 => ?_) (fun h13 => ?_)
  · exact absurd rfl h13
  · refine g_iload_n 16 dLink_window_16 rfl ?_
    refine g_if_eq 17 28 dLink_window_17 rfl (fun h17 => ?_) (fun h17 => ?_)
    · refine g_aload 28 dLink_window_28 rfl ?_
      refine g_geti 30 2 4 dLink_window_30 fs_Link_165 rfl (hS.tEnd he) ?_
      exact g_iret 33 dLink_window_33 rfl ⟨by first | (simp only [*, if_true, if_false, not_true_eq_false, not_false_eq_true, and_true, true_and, and_false, false_and, and_self, reduceIte]; done) | (simp_all []; done), rfl⟩
    · refine g_aload 20 dLink_window_20 rfl ?_
      refine g_geti 22 2 5 dLink_window_22 fs_Link_162 rfl (hS.tEnd he) ?_
      refine g_goto 25 33 dLink_window_25 rfl ?_
      exact g_iret 33 dLink_window_33 rfl ⟨by first | (simp only [*, if_true, if_false, not_true_eq_false, not_false_eq_true, and_true, true_and, and_false, false_and, and_self, reduceIte]; done) | (simp_all []; done), rfl⟩

set_option maxRecDepth 100000 in
set_option maxHeartbeats 4000000 in
theorem ct_Link_window_ns {X : mX} {l : Launch} {M : mM} {e : Nat} (hS : Shp M) (he : e < 2) {y z : Int32} (hy : ¬ y = 0) (hx : ¬ isStr y) : Ct X l uLink_window (rk 3 64) [.ref 3, .int (nI e), .int y, .int z] M (fun r M' => r = some (.int 0) ∧ M' = M) := by
  refine Ct.of (by decide) (Nat.le_of_ble_eq_true rfl) ?_
  show G X l uLink_window (rk 3 64) 0 0 M 0 [some (.ref 3), some (.int (nI e)), some (.int y), some (.int z), none, none] [] _
  refine g_aload_n 0 dLink_window_0 rfl ?_
  refine g_iload_n 1 dLink_window_1 rfl ?_
  refine g_callV 2 [_] dLink_window_2 cs_Link_128 rfl (ci := 0) rfl (by decide) hS.link rfl ⟨(Nat.le_of_ble_eq_true rfl), (Nat.le_of_ble_eq_true rfl)⟩ (Nat.le_of_ble_eq_true rfl) (ct_endOf hS he) (Nat.le_of_ble_eq_true rfl) (Nat.le_of_ble_eq_true rfl) ?_
  rintro _ M2 ⟨rfl, hM2⟩
  rw [hM2]
  clear hM2 M2
  refine g_astore 5 dLink_window_5 (by decide) rfl ?_
  refine g_aload 7 dLink_window_7 rfl ?_
  refine g_ifnull 9 dLink_window_9 ?_
  refine g_iload_n 12 dLink_window_12 rfl ?_
  refine g_if_ne 13 34 dLink_window_13 rfl (fun h13 => ?_) (fun h13 => ?_)
  · refine g_aload 34 dLink_window_34 rfl ?_
    refine g_iload_n 36 dLink_window_36 rfl ?_
    refine g_callS 37 [_, _] dLink_window_37 cs_Link_58 rfl rfl ⟨(Nat.le_of_ble_eq_true rfl), (Nat.le_of_ble_eq_true rfl)⟩ (Nat.le_of_ble_eq_true rfl) (ct_streamOf_no hS he hx) (Nat.le_of_ble_eq_true rfl) (Nat.le_of_ble_eq_true rfl) ?_
    rintro _ M2 ⟨rfl, hM2⟩
    rw [hM2]
    clear hM2 M2
    refine g_astoreN 40 dLink_window_40 (by decide) rfl ?_
    refine g_aloadN 42 dLink_window_42 rfl ?_
    refine g_ifnullN 44 55 dLink_window_44 rfl ?_
    refine g_iconst 55 0 dLink_window_55 rfl ?_
    exact g_iret 56 dLink_window_56 rfl ⟨rfl, rfl⟩
  · exact absurd h13 hy

set_option maxRecDepth 100000 in
set_option maxHeartbeats 4000000 in
theorem ct_Link_window {X : mX} {l : Launch} {M : mM} {e k : Nat} (hS : Shp M) (he : e < 2) (hk : k < 12) {z : Int32} : Ct X l uLink_window (rk 3 64) [.ref 3, .int (nI e), .int (nI (2 * k + 1)), .int z] M (fun r M' => r = some (.int (if acC M e k = 0 then 0 else if z = 0 then mI M (29 + 80 * e + 5 * k) 3 else mI M (29 + 80 * e + 5 * k) 4)) ∧ M' = M) := by
  refine Ct.of (by decide) (Nat.le_of_ble_eq_true rfl) ?_
  show G X l uLink_window (rk 3 64) 0 0 M 0 [some (.ref 3), some (.int (nI e)), some (.int (nI (2 * k + 1))), some (.int z), none, none] [] _
  refine g_aload_n 0 dLink_window_0 rfl ?_
  refine g_iload_n 1 dLink_window_1 rfl ?_
  refine g_callV 2 [_] dLink_window_2 cs_Link_128 rfl (ci := 0) rfl (by decide) hS.link rfl ⟨(Nat.le_of_ble_eq_true rfl), (Nat.le_of_ble_eq_true rfl)⟩ (Nat.le_of_ble_eq_true rfl) (ct_endOf hS he) (Nat.le_of_ble_eq_true rfl) (Nat.le_of_ble_eq_true rfl) ?_
  rintro _ M2 ⟨rfl, hM2⟩
  rw [hM2]
  clear hM2 M2
  refine g_astore 5 dLink_window_5 (by decide) rfl ?_
  refine g_aload 7 dLink_window_7 rfl ?_
  refine g_ifnull 9 dLink_window_9 ?_
  refine g_iload_n 12 dLink_window_12 rfl ?_
  refine g_if_neN 13 34 dLink_window_13 rfl (by omega) (fun h13 => ?_) (fun h13 => ?_)
  · refine g_aload 34 dLink_window_34 rfl ?_
    refine g_iload_n 36 dLink_window_36 rfl ?_
    refine g_callS 37 [_, _] dLink_window_37 cs_Link_58 rfl rfl ⟨(Nat.le_of_ble_eq_true rfl), (Nat.le_of_ble_eq_true rfl)⟩ (Nat.le_of_ble_eq_true rfl) (ct_streamOf hS he hk) (Nat.le_of_ble_eq_true rfl) (Nat.le_of_ble_eq_true rfl) ?_
    rintro _ M2 ⟨rfl, hM2⟩
    rw [hM2]
    clear hM2 M2
    refine g_astore 40 dLink_window_40 (by decide) rfl ?_
    refine g_aload 42 dLink_window_42 rfl ?_
    refine g_ifnull 44 dLink_window_44 ?_
    refine g_aload 47 dLink_window_47 rfl ?_
    refine g_callV 49 [] dLink_window_49 cs_Link_104 rfl (ci := 8) rfl (by decide) (hS.tStr he hk) rfl ⟨(Nat.le_of_ble_eq_true rfl), (Nat.le_of_ble_eq_true rfl)⟩ (Nat.le_of_ble_eq_true rfl) (ct_Str_isActive hS he hk) (Nat.le_of_ble_eq_true rfl) (Nat.le_of_ble_eq_true rfl) ?_
    rintro _ M2 ⟨rfl, hM2⟩
    rw [hM2]
    clear hM2 M2
    refine g_if_ne 52 57 dLink_window_52 rfl (fun h52 => ?_) (fun h52 => ?_)
    · refine g_iload_n 57 dLink_window_57 rfl ?_
      refine g_if_eq 58 69 dLink_window_58 rfl (fun h58 => ?_) (fun h58 => ?_)
      · refine g_aload 69 dLink_window_69 rfl ?_
        refine g_geti 71 8 3 dLink_window_71 fs_Link_169 rfl (hS.tStr he hk) ?_
        exact g_iret 74 dLink_window_74 rfl ⟨by first | (simp only [*, if_true, if_false, not_true_eq_false, not_false_eq_true, and_true, true_and, and_false, false_and, and_self, reduceIte]; done) | (simp_all []; done), rfl⟩
      · refine g_aload 61 dLink_window_61 rfl ?_
        refine g_geti 63 8 4 dLink_window_63 fs_Link_168 rfl (hS.tStr he hk) ?_
        refine g_goto 66 74 dLink_window_66 rfl ?_
        exact g_iret 74 dLink_window_74 rfl ⟨by first | (simp only [*, if_true, if_false, not_true_eq_false, not_false_eq_true, and_true, true_and, and_false, false_and, and_self, reduceIte]; done) | (simp_all []; done), rfl⟩
    · refine g_iconst 55 0 dLink_window_55 rfl ?_
      exact g_iret 56 dLink_window_56 rfl ⟨by first | (simp only [*, if_true, if_false, not_true_eq_false, not_false_eq_true, and_true, true_and, and_false, false_and, and_self, reduceIte]; done) | (simp_all []; done), rfl⟩
  · exact absurd h13 (by omega)

set_option maxRecDepth 100000 in
set_option maxHeartbeats 4000000 in
theorem ct_Link_bytes_no {X : mX} {l : Launch} {M : mM} {x : Int32} (hS : Shp M) (h0 : ¬ x = 0) (h1 : ¬ x = 1) {y z : Int32} : Ct X l uLink_bytes (rk 3 64) [.ref 3, .int x, .int y, .int z] M (fun r M' => r = some (.int (-1)) ∧ M' = M) := by
  refine Ct.of (by decide) (Nat.le_of_ble_eq_true rfl) ?_
  show G X l uLink_bytes (rk 3 64) 0 0 M 0 [some (.ref 3), some (.int x), some (.int y), some (.int z), none] [] _
  refine g_aload_n 0 dLink_bytes_0 rfl ?_
  refine g_iload_n 1 dLink_bytes_1 rfl ?_
  refine g_callV 2 [_] dLink_bytes_2 cs_Link_128 rfl (ci := 0) rfl (by decide) hS.link rfl ⟨(Nat.le_of_ble_eq_true rfl), (Nat.le_of_ble_eq_true rfl)⟩ (Nat.le_of_ble_eq_true rfl) (ct_endOf_no h0 h1) (Nat.le_of_ble_eq_true rfl) (Nat.le_of_ble_eq_true rfl) ?_
  rintro _ M2 ⟨rfl, hM2⟩
  rw [hM2]
  clear hM2 M2
  refine g_iload_n 5 dLink_bytes_5 rfl ?_
  refine g_callS 6 [_, _] dLink_bytes_6 cs_Link_58 rfl rfl ⟨(Nat.le_of_ble_eq_true rfl), (Nat.le_of_ble_eq_true rfl)⟩ (Nat.le_of_ble_eq_true rfl) (ct_streamOf_N) (Nat.le_of_ble_eq_true rfl) (Nat.le_of_ble_eq_true rfl) ?_
  rintro _ M2 ⟨rfl, hM2⟩
  rw [hM2]
  clear hM2 M2
  refine g_astoreN 9 dLink_bytes_9 (by decide) rfl ?_
  refine g_aloadN 11 dLink_bytes_11 rfl ?_
  refine g_ifnonnullN 13 dLink_bytes_13 ?_
  refine g_iconst 16 (-1) dLink_bytes_16 rfl ?_
  exact g_iret 17 dLink_bytes_17 rfl ⟨rfl, rfl⟩

set_option maxRecDepth 100000 in
set_option maxHeartbeats 4000000 in
theorem ct_Link_bytes_ns {X : mX} {l : Launch} {M : mM} {e : Nat} (hS : Shp M) (he : e < 2) {y z : Int32} (hx : ¬ isStr y) : Ct X l uLink_bytes (rk 3 64) [.ref 3, .int (nI e), .int y, .int z] M (fun r M' => r = some (.int (-1)) ∧ M' = M) := by
  refine Ct.of (by decide) (Nat.le_of_ble_eq_true rfl) ?_
  show G X l uLink_bytes (rk 3 64) 0 0 M 0 [some (.ref 3), some (.int (nI e)), some (.int y), some (.int z), none] [] _
  refine g_aload_n 0 dLink_bytes_0 rfl ?_
  refine g_iload_n 1 dLink_bytes_1 rfl ?_
  refine g_callV 2 [_] dLink_bytes_2 cs_Link_128 rfl (ci := 0) rfl (by decide) hS.link rfl ⟨(Nat.le_of_ble_eq_true rfl), (Nat.le_of_ble_eq_true rfl)⟩ (Nat.le_of_ble_eq_true rfl) (ct_endOf hS he) (Nat.le_of_ble_eq_true rfl) (Nat.le_of_ble_eq_true rfl) ?_
  rintro _ M2 ⟨rfl, hM2⟩
  rw [hM2]
  clear hM2 M2
  refine g_iload_n 5 dLink_bytes_5 rfl ?_
  refine g_callS 6 [_, _] dLink_bytes_6 cs_Link_58 rfl rfl ⟨(Nat.le_of_ble_eq_true rfl), (Nat.le_of_ble_eq_true rfl)⟩ (Nat.le_of_ble_eq_true rfl) (ct_streamOf_no hS he hx) (Nat.le_of_ble_eq_true rfl) (Nat.le_of_ble_eq_true rfl) ?_
  rintro _ M2 ⟨rfl, hM2⟩
  rw [hM2]
  clear hM2 M2
  refine g_astoreN 9 dLink_bytes_9 (by decide) rfl ?_
  refine g_aloadN 11 dLink_bytes_11 rfl ?_
  refine g_ifnonnullN 13 dLink_bytes_13 ?_
  refine g_iconst 16 (-1) dLink_bytes_16 rfl ?_
  exact g_iret 17 dLink_bytes_17 rfl ⟨rfl, rfl⟩

set_option maxRecDepth 100000 in
set_option maxHeartbeats 4000000 in
theorem ct_Link_bytes {X : mX} {l : Launch} {M : mM} {e k : Nat} (hS : Shp M) (he : e < 2) (hk : k < 12) {z : Int32} : Ct X l uLink_bytes (rk 3 64) [.ref 3, .int (nI e), .int (nI (2 * k + 1)), .int z] M (fun r M' => r = some (.int (if z = 0 then mI M (30 + 80 * e + 5 * k) 1 else mI M (32 + 80 * e + 5 * k) 1)) ∧ M' = M) := by
  refine Ct.of (by decide) (Nat.le_of_ble_eq_true rfl) ?_
  show G X l uLink_bytes (rk 3 64) 0 0 M 0 [some (.ref 3), some (.int (nI e)), some (.int (nI (2 * k + 1))), some (.int z), none] [] _
  refine g_aload_n 0 dLink_bytes_0 rfl ?_
  refine g_iload_n 1 dLink_bytes_1 rfl ?_
  refine g_callV 2 [_] dLink_bytes_2 cs_Link_128 rfl (ci := 0) rfl (by decide) hS.link rfl ⟨(Nat.le_of_ble_eq_true rfl), (Nat.le_of_ble_eq_true rfl)⟩ (Nat.le_of_ble_eq_true rfl) (ct_endOf hS he) (Nat.le_of_ble_eq_true rfl) (Nat.le_of_ble_eq_true rfl) ?_
  rintro _ M2 ⟨rfl, hM2⟩
  rw [hM2]
  clear hM2 M2
  refine g_iload_n 5 dLink_bytes_5 rfl ?_
  refine g_callS 6 [_, _] dLink_bytes_6 cs_Link_58 rfl rfl ⟨(Nat.le_of_ble_eq_true rfl), (Nat.le_of_ble_eq_true rfl)⟩ (Nat.le_of_ble_eq_true rfl) (ct_streamOf hS he hk) (Nat.le_of_ble_eq_true rfl) (Nat.le_of_ble_eq_true rfl) ?_
  rintro _ M2 ⟨rfl, hM2⟩
  rw [hM2]
  clear hM2 M2
  refine g_astore 9 dLink_bytes_9 (by decide) rfl ?_
  refine g_aload 11 dLink_bytes_11 rfl ?_
  refine g_ifnonnull 13 18 dLink_bytes_13 rfl ?_
  refine g_iload_n 18 dLink_bytes_18 rfl ?_
  refine g_if_eq 19 33 dLink_bytes_19 rfl (fun h19 => ?_) (fun h19 => ?_)
  · refine g_aload 33 dLink_bytes_33 rfl ?_
    refine g_getr 35 8 8 dLink_bytes_35 fs_Link_78 rfl (hS.tStr he hk) (hS.rStr8 he hk) ?_
    refine g_geti 38 9 1 dLink_bytes_38 fs_Link_82 rfl (hS.tWt he hk) ?_
    exact g_iret 41 dLink_bytes_41 rfl ⟨by first | (simp only [*, if_true, if_false, not_true_eq_false, not_false_eq_true, and_true, true_and, and_false, false_and, and_self, reduceIte]; done) | (simp_all []; done), rfl⟩
  · refine g_aload 22 dLink_bytes_22 rfl ?_
    refine g_getr 24 8 9 dLink_bytes_24 fs_Link_170 rfl (hS.tStr he hk) (hS.rStr9 he hk) ?_
    refine g_geti 27 9 1 dLink_bytes_27 fs_Link_82 rfl (hS.tUr he hk) ?_
    refine g_goto 30 41 dLink_bytes_30 rfl ?_
    exact g_iret 41 dLink_bytes_41 rfl ⟨by first | (simp only [*, if_true, if_false, not_true_eq_false, not_false_eq_true, and_true, true_and, and_false, false_and, and_self, reduceIte]; done) | (simp_all []; done), rfl⟩

set_option maxRecDepth 100000 in
set_option maxHeartbeats 4000000 in
theorem ct_Link_field_no {X : mX} {l : Launch} {M : mM} {x : Int32} (hS : Shp M) (h0 : ¬ x = 0) (h1 : ¬ x = 1) {y j z : Int32} : Ct X l uLink_field (rk 3 64) [.ref 3, .int x, .int y, .int j, .int z] M (fun r M' => r = some (.int (-1)) ∧ M' = M) := by
  refine Ct.of (by decide) (Nat.le_of_ble_eq_true rfl) ?_
  show G X l uLink_field (rk 3 64) 0 0 M 0 [some (.ref 3), some (.int x), some (.int y), some (.int j), some (.int z), none] [] _
  refine g_aload_n 0 dLink_field_0 rfl ?_
  refine g_iload_n 1 dLink_field_1 rfl ?_
  refine g_callV 2 [_] dLink_field_2 cs_Link_128 rfl (ci := 0) rfl (by decide) hS.link rfl ⟨(Nat.le_of_ble_eq_true rfl), (Nat.le_of_ble_eq_true rfl)⟩ (Nat.le_of_ble_eq_true rfl) (ct_endOf_no h0 h1) (Nat.le_of_ble_eq_true rfl) (Nat.le_of_ble_eq_true rfl) ?_
  rintro _ M2 ⟨rfl, hM2⟩
  rw [hM2]
  clear hM2 M2
  refine g_iload_n 5 dLink_field_5 rfl ?_
  refine g_callS 6 [_, _] dLink_field_6 cs_Link_58 rfl rfl ⟨(Nat.le_of_ble_eq_true rfl), (Nat.le_of_ble_eq_true rfl)⟩ (Nat.le_of_ble_eq_true rfl) (ct_streamOf_N) (Nat.le_of_ble_eq_true rfl) (Nat.le_of_ble_eq_true rfl) ?_
  rintro _ M2 ⟨rfl, hM2⟩
  rw [hM2]
  clear hM2 M2
  refine g_astoreN 9 dLink_field_9 (by decide) rfl ?_
  refine g_aloadN 11 dLink_field_11 rfl ?_
  refine g_ifnullN 13 42 dLink_field_13 rfl ?_
  refine g_iconst 42 (-1) dLink_field_42 rfl ?_
  exact g_iret 43 dLink_field_43 rfl ⟨rfl, rfl⟩

set_option maxRecDepth 100000 in
set_option maxHeartbeats 4000000 in
theorem ct_Link_field_ns {X : mX} {l : Launch} {M : mM} {e : Nat} (hS : Shp M) (he : e < 2) {y j z : Int32} (hx : ¬ isStr y) : Ct X l uLink_field (rk 3 64) [.ref 3, .int (nI e), .int y, .int j, .int z] M (fun r M' => r = some (.int (-1)) ∧ M' = M) := by
  refine Ct.of (by decide) (Nat.le_of_ble_eq_true rfl) ?_
  show G X l uLink_field (rk 3 64) 0 0 M 0 [some (.ref 3), some (.int (nI e)), some (.int y), some (.int j), some (.int z), none] [] _
  refine g_aload_n 0 dLink_field_0 rfl ?_
  refine g_iload_n 1 dLink_field_1 rfl ?_
  refine g_callV 2 [_] dLink_field_2 cs_Link_128 rfl (ci := 0) rfl (by decide) hS.link rfl ⟨(Nat.le_of_ble_eq_true rfl), (Nat.le_of_ble_eq_true rfl)⟩ (Nat.le_of_ble_eq_true rfl) (ct_endOf hS he) (Nat.le_of_ble_eq_true rfl) (Nat.le_of_ble_eq_true rfl) ?_
  rintro _ M2 ⟨rfl, hM2⟩
  rw [hM2]
  clear hM2 M2
  refine g_iload_n 5 dLink_field_5 rfl ?_
  refine g_callS 6 [_, _] dLink_field_6 cs_Link_58 rfl rfl ⟨(Nat.le_of_ble_eq_true rfl), (Nat.le_of_ble_eq_true rfl)⟩ (Nat.le_of_ble_eq_true rfl) (ct_streamOf_no hS he hx) (Nat.le_of_ble_eq_true rfl) (Nat.le_of_ble_eq_true rfl) ?_
  rintro _ M2 ⟨rfl, hM2⟩
  rw [hM2]
  clear hM2 M2
  refine g_astoreN 9 dLink_field_9 (by decide) rfl ?_
  refine g_aloadN 11 dLink_field_11 rfl ?_
  refine g_ifnullN 13 42 dLink_field_13 rfl ?_
  refine g_iconst 42 (-1) dLink_field_42 rfl ?_
  exact g_iret 43 dLink_field_43 rfl ⟨rfl, rfl⟩

set_option maxRecDepth 100000 in
set_option maxHeartbeats 4000000 in
theorem ct_Link_field_nl {X : mX} {l : Launch} {M : mM} {e k : Nat} (hS : Shp M) (he : e < 2) (hk : k < 12) {j z : Int32} (hl : mR M (29 + 80 * e + 5 * k) 7 = none) : Ct X l uLink_field (rk 3 64) [.ref 3, .int (nI e), .int (nI (2 * k + 1)), .int j, .int z] M (fun r M' => r = some (.int (-1)) ∧ M' = M) := by
  refine Ct.of (by decide) (Nat.le_of_ble_eq_true rfl) ?_
  show G X l uLink_field (rk 3 64) 0 0 M 0 [some (.ref 3), some (.int (nI e)), some (.int (nI (2 * k + 1))), some (.int j), some (.int z), none] [] _
  refine g_aload_n 0 dLink_field_0 rfl ?_
  refine g_iload_n 1 dLink_field_1 rfl ?_
  refine g_callV 2 [_] dLink_field_2 cs_Link_128 rfl (ci := 0) rfl (by decide) hS.link rfl ⟨(Nat.le_of_ble_eq_true rfl), (Nat.le_of_ble_eq_true rfl)⟩ (Nat.le_of_ble_eq_true rfl) (ct_endOf hS he) (Nat.le_of_ble_eq_true rfl) (Nat.le_of_ble_eq_true rfl) ?_
  rintro _ M2 ⟨rfl, hM2⟩
  rw [hM2]
  clear hM2 M2
  refine g_iload_n 5 dLink_field_5 rfl ?_
  refine g_callS 6 [_, _] dLink_field_6 cs_Link_58 rfl rfl ⟨(Nat.le_of_ble_eq_true rfl), (Nat.le_of_ble_eq_true rfl)⟩ (Nat.le_of_ble_eq_true rfl) (ct_streamOf hS he hk) (Nat.le_of_ble_eq_true rfl) (Nat.le_of_ble_eq_true rfl) ?_
  rintro _ M2 ⟨rfl, hM2⟩
  rw [hM2]
  clear hM2 M2
  refine g_astore 9 dLink_field_9 (by decide) rfl ?_
  refine g_aload 11 dLink_field_11 rfl ?_
  refine g_ifnull 13 dLink_field_13 ?_
  refine g_aload 16 dLink_field_16 rfl ?_
  refine g_getN 18 8 7 dLink_field_18 fs_Link_173 rfl (hS.tStr he hk) hl ?_
  refine g_ifnullN 21 42 dLink_field_21 rfl ?_
  refine g_iconst 42 (-1) dLink_field_42 rfl ?_
  exact g_iret 43 dLink_field_43 rfl ⟨rfl, rfl⟩

set_option maxRecDepth 100000 in
set_option maxHeartbeats 4000000 in
theorem ct_Link_table_no {X : mX} {l : Launch} {M : mM} {x : Int32} (hS : Shp M) (h0 : ¬ x = 0) (h1 : ¬ x = 1) {z j : Int32} : Ct X l uLink_table (rk 1 21) [.ref 3, .int x, .int z, .int j] M (fun r M' => r = some (.int (-1)) ∧ M' = M) := by
  refine Ct.of (by decide) (Nat.le_of_ble_eq_true rfl) ?_
  show G X l uLink_table (rk 1 21) 0 0 M 0 [some (.ref 3), some (.int x), some (.int z), some (.int j), none, none] [] _
  refine g_aload_n 0 dLink_table_0 rfl ?_
  refine g_iload_n 1 dLink_table_1 rfl ?_
  refine g_callV 2 [_] dLink_table_2 cs_Link_128 rfl (ci := 0) rfl (by decide) hS.link rfl ⟨(Nat.le_of_ble_eq_true rfl), (Nat.le_of_ble_eq_true rfl)⟩ (Nat.le_of_ble_eq_true rfl) (ct_endOf_no h0 h1) (Nat.le_of_ble_eq_true rfl) (Nat.le_of_ble_eq_true rfl) ?_
  rintro _ M2 ⟨rfl, hM2⟩
  rw [hM2]
  clear hM2 M2
  refine g_astoreN 5 dLink_table_5 (by decide) rfl ?_
  refine g_aloadN 7 dLink_table_7 rfl ?_
  refine g_ifnullN 9 18 dLink_table_9 rfl ?_
  refine g_iconst 18 (-1) dLink_table_18 rfl ?_
  exact g_iret 19 dLink_table_19 rfl ⟨rfl, rfl⟩

set_option maxRecDepth 100000 in
set_option maxHeartbeats 4000000 in
theorem ct_Link_table_lo {X : mX} {l : Launch} {M : mM} {e : Nat} (hS : Shp M) (he : e < 2) {z j : Int32} (hj : ¬ -2 ≤ j) : Ct X l uLink_table (rk 1 21) [.ref 3, .int (nI e), .int z, .int j] M (fun r M' => r = some (.int (-1)) ∧ M' = M) := by
  refine Ct.of (by decide) (Nat.le_of_ble_eq_true rfl) ?_
  show G X l uLink_table (rk 1 21) 0 0 M 0 [some (.ref 3), some (.int (nI e)), some (.int z), some (.int j), none, none] [] _
  refine g_aload_n 0 dLink_table_0 rfl ?_
  refine g_iload_n 1 dLink_table_1 rfl ?_
  refine g_callV 2 [_] dLink_table_2 cs_Link_128 rfl (ci := 0) rfl (by decide) hS.link rfl ⟨(Nat.le_of_ble_eq_true rfl), (Nat.le_of_ble_eq_true rfl)⟩ (Nat.le_of_ble_eq_true rfl) (ct_endOf hS he) (Nat.le_of_ble_eq_true rfl) (Nat.le_of_ble_eq_true rfl) ?_
  rintro _ M2 ⟨rfl, hM2⟩
  rw [hM2]
  clear hM2 M2
  refine g_astore 5 dLink_table_5 (by decide) rfl ?_
  refine g_aload 7 dLink_table_7 rfl ?_
  refine g_ifnull 9 dLink_table_9 ?_
  refine g_iload_n 12 dLink_table_12 rfl ?_
  refine g_bipush 13 (-2) dLink_table_13 rfl ?_
  refine g_icmp_ge 15 20 dLink_table_15 rfl (fun h15 => ?_) (fun h15 => ?_)
  · exact absurd h15 hj
  · refine g_iconst 18 (-1) dLink_table_18 rfl ?_
    exact g_iret 19 dLink_table_19 rfl ⟨rfl, rfl⟩

set_option maxRecDepth 100000 in
set_option maxHeartbeats 4000000 in
theorem ct_Link_header_no {X : mX} {l : Launch} {M : mM} {x : Int32} (hS : Shp M) (h0 : ¬ x = 0) (h1 : ¬ x = 1) {a b z : Int32} : Ct X l uLink_header (rk 2 43) [.ref 3, .int x, .int a, .int b, .int z] M (fun r M' => r = some (.int (-1)) ∧ M' = M) := by
  refine Ct.of (by decide) (Nat.le_of_ble_eq_true rfl) ?_
  show G X l uLink_header (rk 2 43) 0 0 M 0 [some (.ref 3), some (.int x), some (.int a), some (.int b), some (.int z), none] [] _
  refine g_aload_n 0 dLink_header_0 rfl ?_
  refine g_iload_n 1 dLink_header_1 rfl ?_
  refine g_callV 2 [_] dLink_header_2 cs_Link_21 rfl (ci := 0) rfl (by decide) hS.link rfl ⟨(Nat.le_of_ble_eq_true rfl), (Nat.le_of_ble_eq_true rfl)⟩ (Nat.le_of_ble_eq_true rfl) (ct_upEndOf_no hS h0 h1) (Nat.le_of_ble_eq_true rfl) (Nat.le_of_ble_eq_true rfl) ?_
  rintro _ M2 ⟨rfl, hM2⟩
  rw [hM2]
  clear hM2 M2
  refine g_astoreN 5 dLink_header_5 (by decide) rfl ?_
  refine g_aloadN 7 dLink_header_7 rfl ?_
  refine g_ifnullN 9 35 dLink_header_9 rfl ?_
  refine g_iconst 35 (-1) dLink_header_35 rfl ?_
  exact g_iret 36 dLink_header_36 rfl ⟨rfl, rfl⟩

set_option maxRecDepth 100000 in
set_option maxHeartbeats 4000000 in
theorem ct_Link_header_dn {X : mX} {l : Launch} {M : mM} {e : Nat} (hS : Shp M) (he : e < 2) (hu : ¬ Kdown M e = 0) {a b z : Int32} : Ct X l uLink_header (rk 2 43) [.ref 3, .int (nI e), .int a, .int b, .int z] M (fun r M' => r = some (.int (-1)) ∧ M' = M) := by
  refine Ct.of (by decide) (Nat.le_of_ble_eq_true rfl) ?_
  show G X l uLink_header (rk 2 43) 0 0 M 0 [some (.ref 3), some (.int (nI e)), some (.int a), some (.int b), some (.int z), none] [] _
  refine g_aload_n 0 dLink_header_0 rfl ?_
  refine g_iload_n 1 dLink_header_1 rfl ?_
  refine g_callV 2 [_] dLink_header_2 cs_Link_21 rfl (ci := 0) rfl (by decide) hS.link rfl ⟨(Nat.le_of_ble_eq_true rfl), (Nat.le_of_ble_eq_true rfl)⟩ (Nat.le_of_ble_eq_true rfl) (ct_upEndOf_dn hS he hu) (Nat.le_of_ble_eq_true rfl) (Nat.le_of_ble_eq_true rfl) ?_
  rintro _ M2 ⟨rfl, hM2⟩
  rw [hM2]
  clear hM2 M2
  refine g_astoreN 5 dLink_header_5 (by decide) rfl ?_
  refine g_aloadN 7 dLink_header_7 rfl ?_
  refine g_ifnullN 9 35 dLink_header_9 rfl ?_
  refine g_iconst 35 (-1) dLink_header_35 rfl ?_
  exact g_iret 36 dLink_header_36 rfl ⟨rfl, rfl⟩

set_option maxRecDepth 100000 in
set_option maxHeartbeats 4000000 in
theorem ct_Link_header_bad {X : mX} {l : Launch} {M : mM} {e : Nat} (hS : Shp M) (he : e < 2) (hu : Kdown M e = 0) {a b z : Int32} (ha : wi a 0 15 = 0) : Ct X l uLink_header (rk 2 43) [.ref 3, .int (nI e), .int a, .int b, .int z] M (fun r M' => r = some (.int (-1)) ∧ M' = M) := by
  refine Ct.of (by decide) (Nat.le_of_ble_eq_true rfl) ?_
  show G X l uLink_header (rk 2 43) 0 0 M 0 [some (.ref 3), some (.int (nI e)), some (.int a), some (.int b), some (.int z), none] [] _
  refine g_aload_n 0 dLink_header_0 rfl ?_
  refine g_iload_n 1 dLink_header_1 rfl ?_
  refine g_callV 2 [_] dLink_header_2 cs_Link_21 rfl (ci := 0) rfl (by decide) hS.link rfl ⟨(Nat.le_of_ble_eq_true rfl), (Nat.le_of_ble_eq_true rfl)⟩ (Nat.le_of_ble_eq_true rfl) (ct_upEndOf hS he hu) (Nat.le_of_ble_eq_true rfl) (Nat.le_of_ble_eq_true rfl) ?_
  rintro _ M2 ⟨rfl, hM2⟩
  rw [hM2]
  clear hM2 M2
  refine g_astore 5 dLink_header_5 (by decide) rfl ?_
  refine g_aload 7 dLink_header_7 rfl ?_
  refine g_ifnull 9 dLink_header_9 ?_
  refine g_iload_n 12 dLink_header_12 rfl ?_
  refine g_iconst 13 0 dLink_header_13 rfl ?_
  refine g_bipush 14 15 dLink_header_14 rfl ?_
  refine g_callS 16 [_, _, _] dLink_header_16 cs_Link_25 rfl rfl ⟨(Nat.le_of_ble_eq_true rfl), (Nat.le_of_ble_eq_true rfl)⟩ (Nat.le_of_ble_eq_true rfl) (ct_isWithin) (Nat.le_of_ble_eq_true rfl) (Nat.le_of_ble_eq_true rfl) ?_
  rintro _ M2 ⟨rfl, hM2⟩
  rw [hM2]
  clear hM2 M2
  refine g_if_eq 19 35 dLink_header_19 rfl (fun h19 => ?_) (fun h19 => ?_)
  · refine g_iconst 35 (-1) dLink_header_35 rfl ?_
    exact g_iret 36 dLink_header_36 rfl ⟨rfl, rfl⟩
  · exact absurd ha h19

set_option maxRecDepth 100000 in
set_option maxHeartbeats 4000000 in
theorem ct_Link_header_full {X : mX} {l : Launch} {M : mM} {e : Nat} (hS : Shp M) (he : e < 2) (hu : Kdown M e = 0) {a b z : Int32} (hc : ¬ mI M (10 + 80 * e) 3 < 6) : Ct X l uLink_header (rk 2 43) [.ref 3, .int (nI e), .int a, .int b, .int z] M (fun r M' => r = some (.int (-1)) ∧ M' = M) := by
  refine Ct.of (by decide) (Nat.le_of_ble_eq_true rfl) ?_
  show G X l uLink_header (rk 2 43) 0 0 M 0 [some (.ref 3), some (.int (nI e)), some (.int a), some (.int b), some (.int z), none] [] _
  refine g_aload_n 0 dLink_header_0 rfl ?_
  refine g_iload_n 1 dLink_header_1 rfl ?_
  refine g_callV 2 [_] dLink_header_2 cs_Link_21 rfl (ci := 0) rfl (by decide) hS.link rfl ⟨(Nat.le_of_ble_eq_true rfl), (Nat.le_of_ble_eq_true rfl)⟩ (Nat.le_of_ble_eq_true rfl) (ct_upEndOf hS he hu) (Nat.le_of_ble_eq_true rfl) (Nat.le_of_ble_eq_true rfl) ?_
  rintro _ M2 ⟨rfl, hM2⟩
  rw [hM2]
  clear hM2 M2
  refine g_astore 5 dLink_header_5 (by decide) rfl ?_
  refine g_aload 7 dLink_header_7 rfl ?_
  refine g_ifnull 9 dLink_header_9 ?_
  refine g_iload_n 12 dLink_header_12 rfl ?_
  refine g_iconst 13 0 dLink_header_13 rfl ?_
  refine g_bipush 14 15 dLink_header_14 rfl ?_
  refine g_callS 16 [_, _, _] dLink_header_16 cs_Link_25 rfl rfl ⟨(Nat.le_of_ble_eq_true rfl), (Nat.le_of_ble_eq_true rfl)⟩ (Nat.le_of_ble_eq_true rfl) (ct_isWithin) (Nat.le_of_ble_eq_true rfl) (Nat.le_of_ble_eq_true rfl) ?_
  rintro _ M2 ⟨rfl, hM2⟩
  rw [hM2]
  clear hM2 M2
  refine g_if_eq 19 35 dLink_header_19 rfl (fun h19 => ?_) (fun h19 => ?_)
  · refine g_iconst 35 (-1) dLink_header_35 rfl ?_
    exact g_iret 36 dLink_header_36 rfl ⟨rfl, rfl⟩
  · refine g_aload 22 dLink_header_22 rfl ?_
    refine g_getr 24 2 6 dLink_header_24 fs_Link_29 rfl (hS.tEnd he) (hS.rEnd6 he) ?_
    refine g_geti 27 3 3 dLink_header_27 fs_Link_33 rfl (hS.tFL he) ?_
    refine g_bipush 30 6 dLink_header_30 rfl ?_
    refine g_icmp_lt 32 37 dLink_header_32 rfl (fun h32 => ?_) (fun h32 => ?_)
    · exact absurd h32 hc
    · refine g_iconst 35 (-1) dLink_header_35 rfl ?_
      exact g_iret 36 dLink_header_36 rfl ⟨rfl, rfl⟩

set_option maxRecDepth 100000 in
set_option maxHeartbeats 4000000 in
theorem ct_Link_pump_no {X : mX} {l : Launch} {M : mM} {x : Int32} (hS : Shp M) (h0 : ¬ x = 0) (h1 : ¬ x = 1) {n : Int32} : Ct X l uLink_pump (rk 5 132) [.ref 3, .int x, .int n] M (fun r M' => r = some (.int (-1)) ∧ M' = M) := by
  refine Ct.of (by decide) (Nat.le_of_ble_eq_true rfl) ?_
  show G X l uLink_pump (rk 5 132) 0 0 M 0 [some (.ref 3), some (.int x), some (.int n), none] [] _
  refine g_aload_n 0 dLink_pump_0 rfl ?_
  refine g_iload_n 1 dLink_pump_1 rfl ?_
  refine g_callV 2 [_] dLink_pump_2 cs_Link_21 rfl (ci := 0) rfl (by decide) hS.link rfl ⟨(Nat.le_of_ble_eq_true rfl), (Nat.le_of_ble_eq_true rfl)⟩ (Nat.le_of_ble_eq_true rfl) (ct_upEndOf_no hS h0 h1) (Nat.le_of_ble_eq_true rfl) (Nat.le_of_ble_eq_true rfl) ?_
  rintro _ M2 ⟨rfl, hM2⟩
  rw [hM2]
  clear hM2 M2
  refine g_astore_nN 5 dLink_pump_5 (by decide) rfl ?_
  refine g_aload_nN 6 dLink_pump_6 rfl ?_
  refine g_ifnullN 7 20 dLink_pump_7 rfl ?_
  refine g_iconst 20 (-1) dLink_pump_20 rfl ?_
  exact g_iret 21 dLink_pump_21 rfl ⟨rfl, rfl⟩

set_option maxRecDepth 100000 in
set_option maxHeartbeats 4000000 in
theorem ct_Link_pump_dn {X : mX} {l : Launch} {M : mM} {e : Nat} (hS : Shp M) (he : e < 2) (hu : ¬ Kdown M e = 0) {n : Int32} : Ct X l uLink_pump (rk 5 132) [.ref 3, .int (nI e), .int n] M (fun r M' => r = some (.int (-1)) ∧ M' = M) := by
  refine Ct.of (by decide) (Nat.le_of_ble_eq_true rfl) ?_
  show G X l uLink_pump (rk 5 132) 0 0 M 0 [some (.ref 3), some (.int (nI e)), some (.int n), none] [] _
  refine g_aload_n 0 dLink_pump_0 rfl ?_
  refine g_iload_n 1 dLink_pump_1 rfl ?_
  refine g_callV 2 [_] dLink_pump_2 cs_Link_21 rfl (ci := 0) rfl (by decide) hS.link rfl ⟨(Nat.le_of_ble_eq_true rfl), (Nat.le_of_ble_eq_true rfl)⟩ (Nat.le_of_ble_eq_true rfl) (ct_upEndOf_dn hS he hu) (Nat.le_of_ble_eq_true rfl) (Nat.le_of_ble_eq_true rfl) ?_
  rintro _ M2 ⟨rfl, hM2⟩
  rw [hM2]
  clear hM2 M2
  refine g_astore_nN 5 dLink_pump_5 (by decide) rfl ?_
  refine g_aload_nN 6 dLink_pump_6 rfl ?_
  refine g_ifnullN 7 20 dLink_pump_7 rfl ?_
  refine g_iconst 20 (-1) dLink_pump_20 rfl ?_
  exact g_iret 21 dLink_pump_21 rfl ⟨rfl, rfl⟩

set_option maxRecDepth 100000 in
set_option maxHeartbeats 4000000 in
theorem ct_Link_pump_bad {X : mX} {l : Launch} {M : mM} {e : Nat} (hS : Shp M) (he : e < 2) (hu : Kdown M e = 0) {n : Int32} (hn : wi n 1 8 = 0) : Ct X l uLink_pump (rk 5 132) [.ref 3, .int (nI e), .int n] M (fun r M' => r = some (.int (-1)) ∧ M' = M) := by
  refine Ct.of (by decide) (Nat.le_of_ble_eq_true rfl) ?_
  show G X l uLink_pump (rk 5 132) 0 0 M 0 [some (.ref 3), some (.int (nI e)), some (.int n), none] [] _
  refine g_aload_n 0 dLink_pump_0 rfl ?_
  refine g_iload_n 1 dLink_pump_1 rfl ?_
  refine g_callV 2 [_] dLink_pump_2 cs_Link_21 rfl (ci := 0) rfl (by decide) hS.link rfl ⟨(Nat.le_of_ble_eq_true rfl), (Nat.le_of_ble_eq_true rfl)⟩ (Nat.le_of_ble_eq_true rfl) (ct_upEndOf hS he hu) (Nat.le_of_ble_eq_true rfl) (Nat.le_of_ble_eq_true rfl) ?_
  rintro _ M2 ⟨rfl, hM2⟩
  rw [hM2]
  clear hM2 M2
  refine g_astore_n 5 dLink_pump_5 (by decide) rfl ?_
  refine g_aload_n 6 dLink_pump_6 rfl ?_
  refine g_ifnull 7 dLink_pump_7 ?_
  refine g_iload_n 10 dLink_pump_10 rfl ?_
  refine g_iconst 11 1 dLink_pump_11 rfl ?_
  refine g_bipush 12 8 dLink_pump_12 rfl ?_
  refine g_callS 14 [_, _, _] dLink_pump_14 cs_Link_25 rfl rfl ⟨(Nat.le_of_ble_eq_true rfl), (Nat.le_of_ble_eq_true rfl)⟩ (Nat.le_of_ble_eq_true rfl) (ct_isWithin) (Nat.le_of_ble_eq_true rfl) (Nat.le_of_ble_eq_true rfl) ?_
  rintro _ M2 ⟨rfl, hM2⟩
  rw [hM2]
  clear hM2 M2
  refine g_if_ne 17 22 dLink_pump_17 rfl (fun h17 => ?_) (fun h17 => ?_)
  · exact absurd hn h17
  · refine g_iconst 20 (-1) dLink_pump_20 rfl ?_
    exact g_iret 21 dLink_pump_21 rfl ⟨rfl, rfl⟩

set_option maxRecDepth 100000 in
set_option maxHeartbeats 4000000 in
theorem ct_Link_write_no {X : mX} {l : Launch} {M : mM} {x : Int32} (hS : Shp M) (h0 : ¬ x = 0) (h1 : ¬ x = 1) {y n z : Int32} {b : Int64} : Ct X l uLink_write (rk 3 64) [.ref 3, .int x, .int y, .long b, .int n, .int z] M (fun r M' => r = some (.int (-1)) ∧ M' = M) := by
  refine Ct.of (by decide) (Nat.le_of_ble_eq_true rfl) ?_
  show G X l uLink_write (rk 3 64) 0 0 M 0 [some (.ref 3), some (.int x), some (.int y), some (.long b), none, some (.int n), some (.int z), none] [] _
  refine g_aload_n 0 dLink_write_0 rfl ?_
  refine g_iload_n 1 dLink_write_1 rfl ?_
  refine g_callV 2 [_] dLink_write_2 cs_Link_21 rfl (ci := 0) rfl (by decide) hS.link rfl ⟨(Nat.le_of_ble_eq_true rfl), (Nat.le_of_ble_eq_true rfl)⟩ (Nat.le_of_ble_eq_true rfl) (ct_upEndOf_no hS h0 h1) (Nat.le_of_ble_eq_true rfl) (Nat.le_of_ble_eq_true rfl) ?_
  rintro _ M2 ⟨rfl, hM2⟩
  rw [hM2]
  clear hM2 M2
  refine g_iload_n 5 dLink_write_5 rfl ?_
  refine g_callS 6 [_, _] dLink_write_6 cs_Link_58 rfl rfl ⟨(Nat.le_of_ble_eq_true rfl), (Nat.le_of_ble_eq_true rfl)⟩ (Nat.le_of_ble_eq_true rfl) (ct_streamOf_N) (Nat.le_of_ble_eq_true rfl) (Nat.le_of_ble_eq_true rfl) ?_
  rintro _ M2 ⟨rfl, hM2⟩
  rw [hM2]
  clear hM2 M2
  refine g_astoreN 9 dLink_write_9 (by decide) rfl ?_
  refine g_aloadN 11 dLink_write_11 rfl ?_
  refine g_ifnullN 13 40 dLink_write_13 rfl ?_
  refine g_iconst 40 (-1) dLink_write_40 rfl ?_
  exact g_iret 41 dLink_write_41 rfl ⟨rfl, rfl⟩

set_option maxRecDepth 100000 in
set_option maxHeartbeats 4000000 in
theorem ct_Link_write_dn {X : mX} {l : Launch} {M : mM} {e : Nat} (hS : Shp M) (he : e < 2) (hu : ¬ Kdown M e = 0) {y n z : Int32} {b : Int64} : Ct X l uLink_write (rk 3 64) [.ref 3, .int (nI e), .int y, .long b, .int n, .int z] M (fun r M' => r = some (.int (-1)) ∧ M' = M) := by
  refine Ct.of (by decide) (Nat.le_of_ble_eq_true rfl) ?_
  show G X l uLink_write (rk 3 64) 0 0 M 0 [some (.ref 3), some (.int (nI e)), some (.int y), some (.long b), none, some (.int n), some (.int z), none] [] _
  refine g_aload_n 0 dLink_write_0 rfl ?_
  refine g_iload_n 1 dLink_write_1 rfl ?_
  refine g_callV 2 [_] dLink_write_2 cs_Link_21 rfl (ci := 0) rfl (by decide) hS.link rfl ⟨(Nat.le_of_ble_eq_true rfl), (Nat.le_of_ble_eq_true rfl)⟩ (Nat.le_of_ble_eq_true rfl) (ct_upEndOf_dn hS he hu) (Nat.le_of_ble_eq_true rfl) (Nat.le_of_ble_eq_true rfl) ?_
  rintro _ M2 ⟨rfl, hM2⟩
  rw [hM2]
  clear hM2 M2
  refine g_iload_n 5 dLink_write_5 rfl ?_
  refine g_callS 6 [_, _] dLink_write_6 cs_Link_58 rfl rfl ⟨(Nat.le_of_ble_eq_true rfl), (Nat.le_of_ble_eq_true rfl)⟩ (Nat.le_of_ble_eq_true rfl) (ct_streamOf_N) (Nat.le_of_ble_eq_true rfl) (Nat.le_of_ble_eq_true rfl) ?_
  rintro _ M2 ⟨rfl, hM2⟩
  rw [hM2]
  clear hM2 M2
  refine g_astoreN 9 dLink_write_9 (by decide) rfl ?_
  refine g_aloadN 11 dLink_write_11 rfl ?_
  refine g_ifnullN 13 40 dLink_write_13 rfl ?_
  refine g_iconst 40 (-1) dLink_write_40 rfl ?_
  exact g_iret 41 dLink_write_41 rfl ⟨rfl, rfl⟩

set_option maxRecDepth 100000 in
set_option maxHeartbeats 4000000 in
theorem ct_Link_write_ns {X : mX} {l : Launch} {M : mM} {e : Nat} (hS : Shp M) (he : e < 2) (hu : Kdown M e = 0) {y n z : Int32} {b : Int64} (hx : ¬ isStr y) : Ct X l uLink_write (rk 3 64) [.ref 3, .int (nI e), .int y, .long b, .int n, .int z] M (fun r M' => r = some (.int (-1)) ∧ M' = M) := by
  refine Ct.of (by decide) (Nat.le_of_ble_eq_true rfl) ?_
  show G X l uLink_write (rk 3 64) 0 0 M 0 [some (.ref 3), some (.int (nI e)), some (.int y), some (.long b), none, some (.int n), some (.int z), none] [] _
  refine g_aload_n 0 dLink_write_0 rfl ?_
  refine g_iload_n 1 dLink_write_1 rfl ?_
  refine g_callV 2 [_] dLink_write_2 cs_Link_21 rfl (ci := 0) rfl (by decide) hS.link rfl ⟨(Nat.le_of_ble_eq_true rfl), (Nat.le_of_ble_eq_true rfl)⟩ (Nat.le_of_ble_eq_true rfl) (ct_upEndOf hS he hu) (Nat.le_of_ble_eq_true rfl) (Nat.le_of_ble_eq_true rfl) ?_
  rintro _ M2 ⟨rfl, hM2⟩
  rw [hM2]
  clear hM2 M2
  refine g_iload_n 5 dLink_write_5 rfl ?_
  refine g_callS 6 [_, _] dLink_write_6 cs_Link_58 rfl rfl ⟨(Nat.le_of_ble_eq_true rfl), (Nat.le_of_ble_eq_true rfl)⟩ (Nat.le_of_ble_eq_true rfl) (ct_streamOf_no hS he hx) (Nat.le_of_ble_eq_true rfl) (Nat.le_of_ble_eq_true rfl) ?_
  rintro _ M2 ⟨rfl, hM2⟩
  rw [hM2]
  clear hM2 M2
  refine g_astoreN 9 dLink_write_9 (by decide) rfl ?_
  refine g_aloadN 11 dLink_write_11 rfl ?_
  refine g_ifnullN 13 40 dLink_write_13 rfl ?_
  refine g_iconst 40 (-1) dLink_write_40 rfl ?_
  exact g_iret 41 dLink_write_41 rfl ⟨rfl, rfl⟩

set_option maxRecDepth 100000 in
set_option maxHeartbeats 4000000 in
theorem ct_Link_write_st {X : mX} {l : Launch} {M : mM} {e k : Nat} (hS : Shp M) (he : e < 2) (hk : k < 12) (hu : Kdown M e = 0) {n z : Int32} {b : Int64} (hm : msC M e k = 0) : Ct X l uLink_write (rk 3 64) [.ref 3, .int (nI e), .int (nI (2 * k + 1)), .long b, .int n, .int z] M (fun r M' => r = some (.int (-1)) ∧ M' = M) := by
  refine Ct.of (by decide) (Nat.le_of_ble_eq_true rfl) ?_
  show G X l uLink_write (rk 3 64) 0 0 M 0 [some (.ref 3), some (.int (nI e)), some (.int (nI (2 * k + 1))), some (.long b), none, some (.int n), some (.int z), none] [] _
  refine g_aload_n 0 dLink_write_0 rfl ?_
  refine g_iload_n 1 dLink_write_1 rfl ?_
  refine g_callV 2 [_] dLink_write_2 cs_Link_21 rfl (ci := 0) rfl (by decide) hS.link rfl ⟨(Nat.le_of_ble_eq_true rfl), (Nat.le_of_ble_eq_true rfl)⟩ (Nat.le_of_ble_eq_true rfl) (ct_upEndOf hS he hu) (Nat.le_of_ble_eq_true rfl) (Nat.le_of_ble_eq_true rfl) ?_
  rintro _ M2 ⟨rfl, hM2⟩
  rw [hM2]
  clear hM2 M2
  refine g_iload_n 5 dLink_write_5 rfl ?_
  refine g_callS 6 [_, _] dLink_write_6 cs_Link_58 rfl rfl ⟨(Nat.le_of_ble_eq_true rfl), (Nat.le_of_ble_eq_true rfl)⟩ (Nat.le_of_ble_eq_true rfl) (ct_streamOf hS he hk) (Nat.le_of_ble_eq_true rfl) (Nat.le_of_ble_eq_true rfl) ?_
  rintro _ M2 ⟨rfl, hM2⟩
  rw [hM2]
  clear hM2 M2
  refine g_astore 9 dLink_write_9 (by decide) rfl ?_
  refine g_aload 11 dLink_write_11 rfl ?_
  refine g_ifnull 13 dLink_write_13 ?_
  refine g_aload 16 dLink_write_16 rfl ?_
  refine g_callV 18 [] dLink_write_18 cs_Link_62 rfl (ci := 8) rfl (by decide) (hS.tStr he hk) rfl ⟨(Nat.le_of_ble_eq_true rfl), (Nat.le_of_ble_eq_true rfl)⟩ (Nat.le_of_ble_eq_true rfl) (ct_Str_maySend hS he hk) (Nat.le_of_ble_eq_true rfl) (Nat.le_of_ble_eq_true rfl) ?_
  rintro _ M2 ⟨rfl, hM2⟩
  rw [hM2]
  clear hM2 M2
  refine g_if_eq 21 40 dLink_write_21 rfl (fun h21 => ?_) (fun h21 => ?_)
  · refine g_iconst 40 (-1) dLink_write_40 rfl ?_
    exact g_iret 41 dLink_write_41 rfl ⟨rfl, rfl⟩
  · exact absurd hm h21

set_option maxRecDepth 100000 in
set_option maxHeartbeats 4000000 in
theorem ct_Link_read_no {X : mX} {l : Launch} {M : mM} {x : Int32} (hS : Shp M) (h0 : ¬ x = 0) (h1 : ¬ x = 1) {y n : Int32} : Ct X l uLink_read (rk 5 111) [.ref 3, .int x, .int y, .int n] M (fun r M' => r = some (.long (-1)) ∧ M' = M) := by
  refine Ct.of (by decide) (Nat.le_of_ble_eq_true rfl) ?_
  show G X l uLink_read (rk 5 111) 0 0 M 0 [some (.ref 3), some (.int x), some (.int y), some (.int n), none, none] [] _
  refine g_aload_n 0 dLink_read_0 rfl ?_
  refine g_iload_n 1 dLink_read_1 rfl ?_
  refine g_callV 2 [_] dLink_read_2 cs_Link_21 rfl (ci := 0) rfl (by decide) hS.link rfl ⟨(Nat.le_of_ble_eq_true rfl), (Nat.le_of_ble_eq_true rfl)⟩ (Nat.le_of_ble_eq_true rfl) (ct_upEndOf_no hS h0 h1) (Nat.le_of_ble_eq_true rfl) (Nat.le_of_ble_eq_true rfl) ?_
  rintro _ M2 ⟨rfl, hM2⟩
  rw [hM2]
  clear hM2 M2
  refine g_astoreN 5 dLink_read_5 (by decide) rfl ?_
  refine g_aloadN 7 dLink_read_7 rfl ?_
  refine g_iload_n 9 dLink_read_9 rfl ?_
  refine g_callS 10 [_, _] dLink_read_10 cs_Link_58 rfl rfl ⟨(Nat.le_of_ble_eq_true rfl), (Nat.le_of_ble_eq_true rfl)⟩ (Nat.le_of_ble_eq_true rfl) (ct_streamOf_N) (Nat.le_of_ble_eq_true rfl) (Nat.le_of_ble_eq_true rfl) ?_
  rintro _ M2 ⟨rfl, hM2⟩
  rw [hM2]
  clear hM2 M2
  refine g_astoreN 13 dLink_read_13 (by decide) rfl ?_
  refine g_aloadN 15 dLink_read_15 rfl ?_
  refine g_ifnullN 17 43 dLink_read_17 rfl ?_
  refine g_ldc2 43 (-1) dLink_read_43 lc_Link_96 ?_
  exact g_lret 46 dLink_read_46 rfl ⟨rfl, rfl⟩

set_option maxRecDepth 100000 in
set_option maxHeartbeats 4000000 in
theorem ct_Link_read_dn {X : mX} {l : Launch} {M : mM} {e : Nat} (hS : Shp M) (he : e < 2) (hu : ¬ Kdown M e = 0) {y n : Int32} : Ct X l uLink_read (rk 5 111) [.ref 3, .int (nI e), .int y, .int n] M (fun r M' => r = some (.long (-1)) ∧ M' = M) := by
  refine Ct.of (by decide) (Nat.le_of_ble_eq_true rfl) ?_
  show G X l uLink_read (rk 5 111) 0 0 M 0 [some (.ref 3), some (.int (nI e)), some (.int y), some (.int n), none, none] [] _
  refine g_aload_n 0 dLink_read_0 rfl ?_
  refine g_iload_n 1 dLink_read_1 rfl ?_
  refine g_callV 2 [_] dLink_read_2 cs_Link_21 rfl (ci := 0) rfl (by decide) hS.link rfl ⟨(Nat.le_of_ble_eq_true rfl), (Nat.le_of_ble_eq_true rfl)⟩ (Nat.le_of_ble_eq_true rfl) (ct_upEndOf_dn hS he hu) (Nat.le_of_ble_eq_true rfl) (Nat.le_of_ble_eq_true rfl) ?_
  rintro _ M2 ⟨rfl, hM2⟩
  rw [hM2]
  clear hM2 M2
  refine g_astoreN 5 dLink_read_5 (by decide) rfl ?_
  refine g_aloadN 7 dLink_read_7 rfl ?_
  refine g_iload_n 9 dLink_read_9 rfl ?_
  refine g_callS 10 [_, _] dLink_read_10 cs_Link_58 rfl rfl ⟨(Nat.le_of_ble_eq_true rfl), (Nat.le_of_ble_eq_true rfl)⟩ (Nat.le_of_ble_eq_true rfl) (ct_streamOf_N) (Nat.le_of_ble_eq_true rfl) (Nat.le_of_ble_eq_true rfl) ?_
  rintro _ M2 ⟨rfl, hM2⟩
  rw [hM2]
  clear hM2 M2
  refine g_astoreN 13 dLink_read_13 (by decide) rfl ?_
  refine g_aloadN 15 dLink_read_15 rfl ?_
  refine g_ifnullN 17 43 dLink_read_17 rfl ?_
  refine g_ldc2 43 (-1) dLink_read_43 lc_Link_96 ?_
  exact g_lret 46 dLink_read_46 rfl ⟨rfl, rfl⟩

set_option maxRecDepth 100000 in
set_option maxHeartbeats 4000000 in
theorem ct_Link_read_ns {X : mX} {l : Launch} {M : mM} {e : Nat} (hS : Shp M) (he : e < 2) (hu : Kdown M e = 0) {y n : Int32} (hx : ¬ isStr y) : Ct X l uLink_read (rk 5 111) [.ref 3, .int (nI e), .int y, .int n] M (fun r M' => r = some (.long (-1)) ∧ M' = M) := by
  refine Ct.of (by decide) (Nat.le_of_ble_eq_true rfl) ?_
  show G X l uLink_read (rk 5 111) 0 0 M 0 [some (.ref 3), some (.int (nI e)), some (.int y), some (.int n), none, none] [] _
  refine g_aload_n 0 dLink_read_0 rfl ?_
  refine g_iload_n 1 dLink_read_1 rfl ?_
  refine g_callV 2 [_] dLink_read_2 cs_Link_21 rfl (ci := 0) rfl (by decide) hS.link rfl ⟨(Nat.le_of_ble_eq_true rfl), (Nat.le_of_ble_eq_true rfl)⟩ (Nat.le_of_ble_eq_true rfl) (ct_upEndOf hS he hu) (Nat.le_of_ble_eq_true rfl) (Nat.le_of_ble_eq_true rfl) ?_
  rintro _ M2 ⟨rfl, hM2⟩
  rw [hM2]
  clear hM2 M2
  refine g_astore 5 dLink_read_5 (by decide) rfl ?_
  refine g_aload 7 dLink_read_7 rfl ?_
  refine g_iload_n 9 dLink_read_9 rfl ?_
  refine g_callS 10 [_, _] dLink_read_10 cs_Link_58 rfl rfl ⟨(Nat.le_of_ble_eq_true rfl), (Nat.le_of_ble_eq_true rfl)⟩ (Nat.le_of_ble_eq_true rfl) (ct_streamOf_no hS he hx) (Nat.le_of_ble_eq_true rfl) (Nat.le_of_ble_eq_true rfl) ?_
  rintro _ M2 ⟨rfl, hM2⟩
  rw [hM2]
  clear hM2 M2
  refine g_astoreN 13 dLink_read_13 (by decide) rfl ?_
  refine g_aload 15 dLink_read_15 rfl ?_
  refine g_ifnull 17 dLink_read_17 ?_
  refine g_aloadN 20 dLink_read_20 rfl ?_
  refine g_ifnullN 22 43 dLink_read_22 rfl ?_
  refine g_ldc2 43 (-1) dLink_read_43 lc_Link_96 ?_
  exact g_lret 46 dLink_read_46 rfl ⟨rfl, rfl⟩

set_option maxRecDepth 100000 in
set_option maxHeartbeats 4000000 in
theorem ct_Link_reset_no {X : mX} {l : Launch} {M : mM} {x : Int32} (hS : Shp M) (h0 : ¬ x = 0) (h1 : ¬ x = 1) {y n : Int32} : Ct X l uLink_reset (rk 5 104) [.ref 3, .int x, .int y, .int n] M (fun r M' => r = some (.int 0) ∧ M' = M) := by
  refine Ct.of (by decide) (Nat.le_of_ble_eq_true rfl) ?_
  show G X l uLink_reset (rk 5 104) 0 0 M 0 [some (.ref 3), some (.int x), some (.int y), some (.int n), none, none] [] _
  refine g_aload_n 0 dLink_reset_0 rfl ?_
  refine g_iload_n 1 dLink_reset_1 rfl ?_
  refine g_callV 2 [_] dLink_reset_2 cs_Link_21 rfl (ci := 0) rfl (by decide) hS.link rfl ⟨(Nat.le_of_ble_eq_true rfl), (Nat.le_of_ble_eq_true rfl)⟩ (Nat.le_of_ble_eq_true rfl) (ct_upEndOf_no hS h0 h1) (Nat.le_of_ble_eq_true rfl) (Nat.le_of_ble_eq_true rfl) ?_
  rintro _ M2 ⟨rfl, hM2⟩
  rw [hM2]
  clear hM2 M2
  refine g_astoreN 5 dLink_reset_5 (by decide) rfl ?_
  refine g_aloadN 7 dLink_reset_7 rfl ?_
  refine g_iload_n 9 dLink_reset_9 rfl ?_
  refine g_callS 10 [_, _] dLink_reset_10 cs_Link_58 rfl rfl ⟨(Nat.le_of_ble_eq_true rfl), (Nat.le_of_ble_eq_true rfl)⟩ (Nat.le_of_ble_eq_true rfl) (ct_streamOf_N) (Nat.le_of_ble_eq_true rfl) (Nat.le_of_ble_eq_true rfl) ?_
  rintro _ M2 ⟨rfl, hM2⟩
  rw [hM2]
  clear hM2 M2
  refine g_astoreN 13 dLink_reset_13 (by decide) rfl ?_
  refine g_aloadN 15 dLink_reset_15 rfl ?_
  refine g_ifnullN 17 43 dLink_reset_17 rfl ?_
  refine g_iconst 43 0 dLink_reset_43 rfl ?_
  exact g_zret 44 dLink_reset_44 rfl (by decide) ⟨rfl, rfl⟩

set_option maxRecDepth 100000 in
set_option maxHeartbeats 4000000 in
theorem ct_Link_reset_dn {X : mX} {l : Launch} {M : mM} {e : Nat} (hS : Shp M) (he : e < 2) (hu : ¬ Kdown M e = 0) {y n : Int32} : Ct X l uLink_reset (rk 5 104) [.ref 3, .int (nI e), .int y, .int n] M (fun r M' => r = some (.int 0) ∧ M' = M) := by
  refine Ct.of (by decide) (Nat.le_of_ble_eq_true rfl) ?_
  show G X l uLink_reset (rk 5 104) 0 0 M 0 [some (.ref 3), some (.int (nI e)), some (.int y), some (.int n), none, none] [] _
  refine g_aload_n 0 dLink_reset_0 rfl ?_
  refine g_iload_n 1 dLink_reset_1 rfl ?_
  refine g_callV 2 [_] dLink_reset_2 cs_Link_21 rfl (ci := 0) rfl (by decide) hS.link rfl ⟨(Nat.le_of_ble_eq_true rfl), (Nat.le_of_ble_eq_true rfl)⟩ (Nat.le_of_ble_eq_true rfl) (ct_upEndOf_dn hS he hu) (Nat.le_of_ble_eq_true rfl) (Nat.le_of_ble_eq_true rfl) ?_
  rintro _ M2 ⟨rfl, hM2⟩
  rw [hM2]
  clear hM2 M2
  refine g_astoreN 5 dLink_reset_5 (by decide) rfl ?_
  refine g_aloadN 7 dLink_reset_7 rfl ?_
  refine g_iload_n 9 dLink_reset_9 rfl ?_
  refine g_callS 10 [_, _] dLink_reset_10 cs_Link_58 rfl rfl ⟨(Nat.le_of_ble_eq_true rfl), (Nat.le_of_ble_eq_true rfl)⟩ (Nat.le_of_ble_eq_true rfl) (ct_streamOf_N) (Nat.le_of_ble_eq_true rfl) (Nat.le_of_ble_eq_true rfl) ?_
  rintro _ M2 ⟨rfl, hM2⟩
  rw [hM2]
  clear hM2 M2
  refine g_astoreN 13 dLink_reset_13 (by decide) rfl ?_
  refine g_aloadN 15 dLink_reset_15 rfl ?_
  refine g_ifnullN 17 43 dLink_reset_17 rfl ?_
  refine g_iconst 43 0 dLink_reset_43 rfl ?_
  exact g_zret 44 dLink_reset_44 rfl (by decide) ⟨rfl, rfl⟩

set_option maxRecDepth 100000 in
set_option maxHeartbeats 4000000 in
theorem ct_Link_reset_ns {X : mX} {l : Launch} {M : mM} {e : Nat} (hS : Shp M) (he : e < 2) (hu : Kdown M e = 0) {y n : Int32} (hx : ¬ isStr y) : Ct X l uLink_reset (rk 5 104) [.ref 3, .int (nI e), .int y, .int n] M (fun r M' => r = some (.int 0) ∧ M' = M) := by
  refine Ct.of (by decide) (Nat.le_of_ble_eq_true rfl) ?_
  show G X l uLink_reset (rk 5 104) 0 0 M 0 [some (.ref 3), some (.int (nI e)), some (.int y), some (.int n), none, none] [] _
  refine g_aload_n 0 dLink_reset_0 rfl ?_
  refine g_iload_n 1 dLink_reset_1 rfl ?_
  refine g_callV 2 [_] dLink_reset_2 cs_Link_21 rfl (ci := 0) rfl (by decide) hS.link rfl ⟨(Nat.le_of_ble_eq_true rfl), (Nat.le_of_ble_eq_true rfl)⟩ (Nat.le_of_ble_eq_true rfl) (ct_upEndOf hS he hu) (Nat.le_of_ble_eq_true rfl) (Nat.le_of_ble_eq_true rfl) ?_
  rintro _ M2 ⟨rfl, hM2⟩
  rw [hM2]
  clear hM2 M2
  refine g_astore 5 dLink_reset_5 (by decide) rfl ?_
  refine g_aload 7 dLink_reset_7 rfl ?_
  refine g_iload_n 9 dLink_reset_9 rfl ?_
  refine g_callS 10 [_, _] dLink_reset_10 cs_Link_58 rfl rfl ⟨(Nat.le_of_ble_eq_true rfl), (Nat.le_of_ble_eq_true rfl)⟩ (Nat.le_of_ble_eq_true rfl) (ct_streamOf_no hS he hx) (Nat.le_of_ble_eq_true rfl) (Nat.le_of_ble_eq_true rfl) ?_
  rintro _ M2 ⟨rfl, hM2⟩
  rw [hM2]
  clear hM2 M2
  refine g_astoreN 13 dLink_reset_13 (by decide) rfl ?_
  refine g_aload 15 dLink_reset_15 rfl ?_
  refine g_ifnull 17 dLink_reset_17 ?_
  refine g_aloadN 20 dLink_reset_20 rfl ?_
  refine g_ifnullN 22 43 dLink_reset_22 rfl ?_
  refine g_iconst 43 0 dLink_reset_43 rfl ?_
  exact g_zret 44 dLink_reset_44 rfl (by decide) ⟨rfl, rfl⟩

set_option maxRecDepth 100000 in
set_option maxHeartbeats 4000000 in
theorem ct_Link_read_st {X : mX} {l : Launch} {M : mM} {e k : Nat} (hS : Shp M) (he : e < 2) (hk : k < 12) (hu : Kdown M e = 0) {n : Int32} (hm : Kstate M e k = 0) : Ct X l uLink_read (rk 5 111) [.ref 3, .int (nI e), .int (nI (2 * k + 1)), .int n] M (fun r M' => r = some (.long (-1)) ∧ M' = M) := by
  refine Ct.of (by decide) (Nat.le_of_ble_eq_true rfl) ?_
  show G X l uLink_read (rk 5 111) 0 0 M 0 [some (.ref 3), some (.int (nI e)), some (.int (nI (2 * k + 1))), some (.int n), none, none] [] _
  refine g_aload_n 0 dLink_read_0 rfl ?_
  refine g_iload_n 1 dLink_read_1 rfl ?_
  refine g_callV 2 [_] dLink_read_2 cs_Link_21 rfl (ci := 0) rfl (by decide) hS.link rfl ⟨(Nat.le_of_ble_eq_true rfl), (Nat.le_of_ble_eq_true rfl)⟩ (Nat.le_of_ble_eq_true rfl) (ct_upEndOf hS he hu) (Nat.le_of_ble_eq_true rfl) (Nat.le_of_ble_eq_true rfl) ?_
  rintro _ M2 ⟨rfl, hM2⟩
  rw [hM2]
  clear hM2 M2
  refine g_astore 5 dLink_read_5 (by decide) rfl ?_
  refine g_aload 7 dLink_read_7 rfl ?_
  refine g_iload_n 9 dLink_read_9 rfl ?_
  refine g_callS 10 [_, _] dLink_read_10 cs_Link_58 rfl rfl ⟨(Nat.le_of_ble_eq_true rfl), (Nat.le_of_ble_eq_true rfl)⟩ (Nat.le_of_ble_eq_true rfl) (ct_streamOf hS he hk) (Nat.le_of_ble_eq_true rfl) (Nat.le_of_ble_eq_true rfl) ?_
  rintro _ M2 ⟨rfl, hM2⟩
  rw [hM2]
  clear hM2 M2
  refine g_astore 13 dLink_read_13 (by decide) rfl ?_
  refine g_aload 15 dLink_read_15 rfl ?_
  refine g_ifnull 17 dLink_read_17 ?_
  refine g_aload 20 dLink_read_20 rfl ?_
  refine g_ifnull 22 dLink_read_22 ?_
  refine g_aload 25 dLink_read_25 rfl ?_
  refine g_geti 27 8 1 dLink_read_27 fs_Link_93 rfl (hS.tStr he hk) ?_
  refine g_if_eq 30 43 dLink_read_30 rfl (fun h30 => ?_) (fun h30 => ?_)
  · refine g_ldc2 43 (-1) dLink_read_43 lc_Link_96 ?_
    exact g_lret 46 dLink_read_46 rfl ⟨rfl, rfl⟩
  · exact absurd hm h30

set_option maxRecDepth 100000 in
set_option maxHeartbeats 4000000 in
theorem ct_Link_reset_st {X : mX} {l : Launch} {M : mM} {e k : Nat} (hS : Shp M) (he : e < 2) (hk : k < 12) (hu : Kdown M e = 0) {n : Int32} (hm : acC M e k = 0) : Ct X l uLink_reset (rk 5 104) [.ref 3, .int (nI e), .int (nI (2 * k + 1)), .int n] M (fun r M' => r = some (.int 0) ∧ M' = M) := by
  refine Ct.of (by decide) (Nat.le_of_ble_eq_true rfl) ?_
  show G X l uLink_reset (rk 5 104) 0 0 M 0 [some (.ref 3), some (.int (nI e)), some (.int (nI (2 * k + 1))), some (.int n), none, none] [] _
  refine g_aload_n 0 dLink_reset_0 rfl ?_
  refine g_iload_n 1 dLink_reset_1 rfl ?_
  refine g_callV 2 [_] dLink_reset_2 cs_Link_21 rfl (ci := 0) rfl (by decide) hS.link rfl ⟨(Nat.le_of_ble_eq_true rfl), (Nat.le_of_ble_eq_true rfl)⟩ (Nat.le_of_ble_eq_true rfl) (ct_upEndOf hS he hu) (Nat.le_of_ble_eq_true rfl) (Nat.le_of_ble_eq_true rfl) ?_
  rintro _ M2 ⟨rfl, hM2⟩
  rw [hM2]
  clear hM2 M2
  refine g_astore 5 dLink_reset_5 (by decide) rfl ?_
  refine g_aload 7 dLink_reset_7 rfl ?_
  refine g_iload_n 9 dLink_reset_9 rfl ?_
  refine g_callS 10 [_, _] dLink_reset_10 cs_Link_58 rfl rfl ⟨(Nat.le_of_ble_eq_true rfl), (Nat.le_of_ble_eq_true rfl)⟩ (Nat.le_of_ble_eq_true rfl) (ct_streamOf hS he hk) (Nat.le_of_ble_eq_true rfl) (Nat.le_of_ble_eq_true rfl) ?_
  rintro _ M2 ⟨rfl, hM2⟩
  rw [hM2]
  clear hM2 M2
  refine g_astore 13 dLink_reset_13 (by decide) rfl ?_
  refine g_aload 15 dLink_reset_15 rfl ?_
  refine g_ifnull 17 dLink_reset_17 ?_
  refine g_aload 20 dLink_reset_20 rfl ?_
  refine g_ifnull 22 dLink_reset_22 ?_
  refine g_aload 25 dLink_reset_25 rfl ?_
  refine g_callV 27 [] dLink_reset_27 cs_Link_104 rfl (ci := 8) rfl (by decide) (hS.tStr he hk) rfl ⟨(Nat.le_of_ble_eq_true rfl), (Nat.le_of_ble_eq_true rfl)⟩ (Nat.le_of_ble_eq_true rfl) (ct_Str_isActive hS he hk) (Nat.le_of_ble_eq_true rfl) (Nat.le_of_ble_eq_true rfl) ?_
  rintro _ M2 ⟨rfl, hM2⟩
  rw [hM2]
  clear hM2 M2
  refine g_if_eq 30 43 dLink_reset_30 rfl (fun h30 => ?_) (fun h30 => ?_)
  · refine g_iconst 43 0 dLink_reset_43 rfl ?_
    exact g_zret 44 dLink_reset_44 rfl (by decide) ⟨rfl, rfl⟩
  · exact absurd hm h30

set_option maxRecDepth 100000 in
set_option maxHeartbeats 4000000 in
theorem ct_Link_setting_no {X : mX} {l : Launch} {M : mM} {x : Int32} (hS : Shp M) (h0 : ¬ x = 0) (h1 : ¬ x = 1) {s v : Int32} : Ct X l uLink_setting (rk 4 82) [.ref 3, .int x, .int s, .int v] M (fun r M' => r = some (.int 0) ∧ M' = M) := by
  refine Ct.of (by decide) (Nat.le_of_ble_eq_true rfl) ?_
  show G X l uLink_setting (rk 4 82) 0 0 M 0 [some (.ref 3), some (.int x), some (.int s), some (.int v), none] [] _
  refine g_aload_n 0 dLink_setting_0 rfl ?_
  refine g_iload_n 1 dLink_setting_1 rfl ?_
  refine g_callV 2 [_] dLink_setting_2 cs_Link_21 rfl (ci := 0) rfl (by decide) hS.link rfl ⟨(Nat.le_of_ble_eq_true rfl), (Nat.le_of_ble_eq_true rfl)⟩ (Nat.le_of_ble_eq_true rfl) (ct_upEndOf_no hS h0 h1) (Nat.le_of_ble_eq_true rfl) (Nat.le_of_ble_eq_true rfl) ?_
  rintro _ M2 ⟨rfl, hM2⟩
  rw [hM2]
  clear hM2 M2
  refine g_astoreN 5 dLink_setting_5 (by decide) rfl ?_
  refine g_aloadN 7 dLink_setting_7 rfl ?_
  refine g_ifnullN 9 27 dLink_setting_9 rfl ?_
  refine g_iconst 27 0 dLink_setting_27 rfl ?_
  exact g_zret 28 dLink_setting_28 rfl (by decide) ⟨rfl, rfl⟩

set_option maxRecDepth 100000 in
set_option maxHeartbeats 4000000 in
theorem ct_Link_setting_dn {X : mX} {l : Launch} {M : mM} {e : Nat} (hS : Shp M) (he : e < 2) (hu : ¬ Kdown M e = 0) {s v : Int32} : Ct X l uLink_setting (rk 4 82) [.ref 3, .int (nI e), .int s, .int v] M (fun r M' => r = some (.int 0) ∧ M' = M) := by
  refine Ct.of (by decide) (Nat.le_of_ble_eq_true rfl) ?_
  show G X l uLink_setting (rk 4 82) 0 0 M 0 [some (.ref 3), some (.int (nI e)), some (.int s), some (.int v), none] [] _
  refine g_aload_n 0 dLink_setting_0 rfl ?_
  refine g_iload_n 1 dLink_setting_1 rfl ?_
  refine g_callV 2 [_] dLink_setting_2 cs_Link_21 rfl (ci := 0) rfl (by decide) hS.link rfl ⟨(Nat.le_of_ble_eq_true rfl), (Nat.le_of_ble_eq_true rfl)⟩ (Nat.le_of_ble_eq_true rfl) (ct_upEndOf_dn hS he hu) (Nat.le_of_ble_eq_true rfl) (Nat.le_of_ble_eq_true rfl) ?_
  rintro _ M2 ⟨rfl, hM2⟩
  rw [hM2]
  clear hM2 M2
  refine g_astoreN 5 dLink_setting_5 (by decide) rfl ?_
  refine g_aloadN 7 dLink_setting_7 rfl ?_
  refine g_ifnullN 9 27 dLink_setting_9 rfl ?_
  refine g_iconst 27 0 dLink_setting_27 rfl ?_
  exact g_zret 28 dLink_setting_28 rfl (by decide) ⟨rfl, rfl⟩

set_option maxRecDepth 100000 in
set_option maxHeartbeats 4000000 in
theorem ct_Link_setting_bad {X : mX} {l : Launch} {M : mM} {e : Nat} (hS : Shp M) (he : e < 2) (hu : Kdown M e = 0) {s v : Int32} (hb : knC s = 0 ∨ rgC s v = 0) : Ct X l uLink_setting (rk 4 82) [.ref 3, .int (nI e), .int s, .int v] M (fun r M' => r = some (.int 0) ∧ M' = M) := by
  refine Ct.of (by decide) (Nat.le_of_ble_eq_true rfl) ?_
  show G X l uLink_setting (rk 4 82) 0 0 M 0 [some (.ref 3), some (.int (nI e)), some (.int s), some (.int v), none] [] _
  refine g_aload_n 0 dLink_setting_0 rfl ?_
  refine g_iload_n 1 dLink_setting_1 rfl ?_
  refine g_callV 2 [_] dLink_setting_2 cs_Link_21 rfl (ci := 0) rfl (by decide) hS.link rfl ⟨(Nat.le_of_ble_eq_true rfl), (Nat.le_of_ble_eq_true rfl)⟩ (Nat.le_of_ble_eq_true rfl) (ct_upEndOf hS he hu) (Nat.le_of_ble_eq_true rfl) (Nat.le_of_ble_eq_true rfl) ?_
  rintro _ M2 ⟨rfl, hM2⟩
  rw [hM2]
  clear hM2 M2
  refine g_astore 5 dLink_setting_5 (by decide) rfl ?_
  refine g_aload 7 dLink_setting_7 rfl ?_
  refine g_ifnull 9 dLink_setting_9 ?_
  refine g_iload_n 12 dLink_setting_12 rfl ?_
  refine g_callS 13 [_] dLink_setting_13 cs_Link_111 rfl rfl ⟨(Nat.le_of_ble_eq_true rfl), (Nat.le_of_ble_eq_true rfl)⟩ (Nat.le_of_ble_eq_true rfl) (ct_Sett_isKnown) (Nat.le_of_ble_eq_true rfl) (Nat.le_of_ble_eq_true rfl) ?_
  rintro _ M2 ⟨rfl, hM2⟩
  rw [hM2]
  clear hM2 M2
  refine g_if_eq 16 27 dLink_setting_16 rfl (fun h16 => ?_) (fun h16 => ?_)
  · refine g_iconst 27 0 dLink_setting_27 rfl ?_
    exact g_zret 28 dLink_setting_28 rfl (by decide) ⟨rfl, rfl⟩
  · refine g_iload_n 19 dLink_setting_19 rfl ?_
    refine g_iload_n 20 dLink_setting_20 rfl ?_
    refine g_callS 21 [_, _] dLink_setting_21 cs_Link_117 rfl rfl ⟨(Nat.le_of_ble_eq_true rfl), (Nat.le_of_ble_eq_true rfl)⟩ (Nat.le_of_ble_eq_true rfl) (ct_Sett_isInRange) (Nat.le_of_ble_eq_true rfl) (Nat.le_of_ble_eq_true rfl) ?_
    rintro _ M2 ⟨rfl, hM2⟩
    rw [hM2]
    clear hM2 M2
    refine g_if_ne 24 29 dLink_setting_24 rfl (fun h24 => ?_) (fun h24 => ?_)
    · exact absurd (hb.resolve_left h16) h24
    · refine g_iconst 27 0 dLink_setting_27 rfl ?_
      exact g_zret 28 dLink_setting_28 rfl (by decide) ⟨rfl, rfl⟩

set_option maxRecDepth 100000 in
set_option maxHeartbeats 4000000 in
theorem ct_Link_deliver_no {X : mX} {l : Launch} {M : mM} {x : Int32} (hS : Shp M) (h0 : ¬ x = 0) (h1 : ¬ x = 1) : Ct X l uLink_deliver (rk 7 148) [.ref 3, .int x] M (fun r M' => r = some (.int (-1)) ∧ M' = M) := by
  refine Ct.of (by decide) (Nat.le_of_ble_eq_true rfl) ?_
  show G X l uLink_deliver (rk 7 148) 0 0 M 0 [some (.ref 3), some (.int x), none, none, none] [] _
  refine g_aload_n 0 dLink_deliver_0 rfl ?_
  refine g_iload_n 1 dLink_deliver_1 rfl ?_
  refine g_callV 2 [_] dLink_deliver_2 cs_Link_128 rfl (ci := 0) rfl (by decide) hS.link rfl ⟨(Nat.le_of_ble_eq_true rfl), (Nat.le_of_ble_eq_true rfl)⟩ (Nat.le_of_ble_eq_true rfl) (ct_endOf_no h0 h1) (Nat.le_of_ble_eq_true rfl) (Nat.le_of_ble_eq_true rfl) ?_
  rintro _ M2 ⟨rfl, hM2⟩
  rw [hM2]
  clear hM2 M2
  refine g_astore_nN 5 dLink_deliver_5 (by decide) rfl ?_
  refine g_aload_nN 6 dLink_deliver_6 rfl ?_
  refine g_ifnullN 7 20 dLink_deliver_7 rfl ?_
  refine g_iconst 20 (-1) dLink_deliver_20 rfl ?_
  exact g_iret 21 dLink_deliver_21 rfl ⟨rfl, rfl⟩

set_option maxRecDepth 100000 in
set_option maxHeartbeats 4000000 in
theorem ct_Link_deliver_0 {X : mX} {l : Launch} {M : mM} {e : Nat} (hS : Shp M) (he : e < 2) (hc : mI M (4 + 2 * e) 2 = 0) : Ct X l uLink_deliver (rk 7 148) [.ref 3, .int (nI e)] M (fun r M' => r = some (.int (-1)) ∧ M' = M) := by
  refine Ct.of (by decide) (Nat.le_of_ble_eq_true rfl) ?_
  show G X l uLink_deliver (rk 7 148) 0 0 M 0 [some (.ref 3), some (.int (nI e)), none, none, none] [] _
  refine g_aload_n 0 dLink_deliver_0 rfl ?_
  refine g_iload_n 1 dLink_deliver_1 rfl ?_
  refine g_callV 2 [_] dLink_deliver_2 cs_Link_128 rfl (ci := 0) rfl (by decide) hS.link rfl ⟨(Nat.le_of_ble_eq_true rfl), (Nat.le_of_ble_eq_true rfl)⟩ (Nat.le_of_ble_eq_true rfl) (ct_endOf hS he) (Nat.le_of_ble_eq_true rfl) (Nat.le_of_ble_eq_true rfl) ?_
  rintro _ M2 ⟨rfl, hM2⟩
  rw [hM2]
  clear hM2 M2
  refine g_astore_n 5 dLink_deliver_5 (by decide) rfl ?_
  refine g_aload_n 6 dLink_deliver_6 rfl ?_
  refine g_ifnull 7 dLink_deliver_7 ?_
  refine g_aload_n 10 dLink_deliver_10 rfl ?_
  refine g_getr 11 2 1 dLink_deliver_11 fs_Link_131 rfl (hS.tEnd he) (hS.rEnd1 he) ?_
  refine g_geti 14 1 2 dLink_deliver_14 fs_Link_134 rfl (hS.tPipe he) ?_
  refine g_if_ne 17 22 dLink_deliver_17 rfl (fun h17 => ?_) (fun h17 => ?_)
  · exact absurd hc h17
  · refine g_iconst 20 (-1) dLink_deliver_20 rfl ?_
    exact g_iret 21 dLink_deliver_21 rfl ⟨rfl, rfl⟩

set_option maxRecDepth 100000 in
set_option maxHeartbeats 4000000 in
theorem ct_Link_frame_no {X : mX} {l : Launch} {M : mM} {x : Int32} (hS : Shp M) (h0 : ¬ x = 0) (h1 : ¬ x = 1) {j w : Int32} : Ct X l uLink_frame (rk 1 21) [.ref 3, .int x, .int j, .int w] M (fun r M' => r = some (.int (-1)) ∧ M' = M) := by
  refine Ct.of (by decide) (Nat.le_of_ble_eq_true rfl) ?_
  show G X l uLink_frame (rk 1 21) 0 0 M 0 [some (.ref 3), some (.int x), some (.int j), some (.int w), none, none] [] _
  refine g_aload_n 0 dLink_frame_0 rfl ?_
  refine g_iload_n 1 dLink_frame_1 rfl ?_
  refine g_callV 2 [_] dLink_frame_2 cs_Link_128 rfl (ci := 0) rfl (by decide) hS.link rfl ⟨(Nat.le_of_ble_eq_true rfl), (Nat.le_of_ble_eq_true rfl)⟩ (Nat.le_of_ble_eq_true rfl) (ct_endOf_no h0 h1) (Nat.le_of_ble_eq_true rfl) (Nat.le_of_ble_eq_true rfl) ?_
  rintro _ M2 ⟨rfl, hM2⟩
  rw [hM2]
  clear hM2 M2
  refine g_astoreN 5 dLink_frame_5 (by decide) rfl ?_
  refine g_aloadN 7 dLink_frame_7 rfl ?_
  refine g_ifnonnullN 9 dLink_frame_9 ?_
  refine g_null 12 dLink_frame_12 ?_
  refine g_goto 13 25 dLink_frame_13 rfl ?_
  refine g_astoreN 25 dLink_frame_25 (by decide) rfl ?_
  refine g_aloadN 27 dLink_frame_27 rfl ?_
  refine g_ifnonnullN 29 dLink_frame_29 ?_
  refine g_iconst 32 (-1) dLink_frame_32 rfl ?_
  refine g_goto 33 42 dLink_frame_33 rfl ?_
  exact g_iret 42 dLink_frame_42 rfl ⟨rfl, rfl⟩

set_option maxRecDepth 100000 in
set_option maxHeartbeats 4000000 in
theorem ct_Link_request_dn {X : mX} {l : Launch} {M : mM} (hS : Shp M) (hu : ¬ Kdown M 0 = 0) {z : Int32} : Ct X l uLink_request (rk 7 157) [.ref 3, .int z] M (fun r M' => r = some (.int (-1)) ∧ M' = M) := by
  refine Ct.of (by decide) (Nat.le_of_ble_eq_true rfl) ?_
  show G X l uLink_request (rk 7 157) 0 0 M 0 [some (.ref 3), some (.int z), none] [] _
  refine g_aload_n 0 dLink_request_0 rfl ?_
  refine g_iconst 1 (nI 0) dLink_request_1 rfl ?_
  refine g_callV 2 [_] dLink_request_2 cs_Link_21 rfl (ci := 0) rfl (by decide) hS.link rfl ⟨(Nat.le_of_ble_eq_true rfl), (Nat.le_of_ble_eq_true rfl)⟩ (Nat.le_of_ble_eq_true rfl) (ct_upEndOf_dn hS (e := 0) (by decide) hu) (Nat.le_of_ble_eq_true rfl) (Nat.le_of_ble_eq_true rfl) ?_
  rintro _ M2 ⟨rfl, hM2⟩
  rw [hM2]
  clear hM2 M2
  refine g_astore_nN 5 dLink_request_5 (by decide) rfl ?_
  refine g_aload_nN 6 dLink_request_6 rfl ?_
  refine g_ifnullN 7 17 dLink_request_7 rfl ?_
  refine g_iconst 17 (-1) dLink_request_17 rfl ?_
  exact g_iret 18 dLink_request_18 rfl ⟨rfl, rfl⟩

set_option maxRecDepth 100000 in
set_option maxHeartbeats 4000000 in
theorem ct_Link_respond_dn {X : mX} {l : Launch} {M : mM} (hS : Shp M) (hu : ¬ Kdown M 1 = 0) {y z : Int32} : Ct X l uLink_respond (rk 6 135) [.ref 3, .int y, .int z] M (fun r M' => r = some (.int (-1)) ∧ M' = M) := by
  refine Ct.of (by decide) (Nat.le_of_ble_eq_true rfl) ?_
  show G X l uLink_respond (rk 6 135) 0 0 M 0 [some (.ref 3), some (.int y), some (.int z), none, none, none] [] _
  refine g_aload_n 0 dLink_respond_0 rfl ?_
  refine g_iconst 1 (nI 1) dLink_respond_1 rfl ?_
  refine g_callV 2 [_] dLink_respond_2 cs_Link_21 rfl (ci := 0) rfl (by decide) hS.link rfl ⟨(Nat.le_of_ble_eq_true rfl), (Nat.le_of_ble_eq_true rfl)⟩ (Nat.le_of_ble_eq_true rfl) (ct_upEndOf_dn hS (e := 1) (by decide) hu) (Nat.le_of_ble_eq_true rfl) (Nat.le_of_ble_eq_true rfl) ?_
  rintro _ M2 ⟨rfl, hM2⟩
  rw [hM2]
  clear hM2 M2
  refine g_astore_nN 5 dLink_respond_5 (by decide) rfl ?_
  refine g_aload_nN 6 dLink_respond_6 rfl ?_
  refine g_iload_n 7 dLink_respond_7 rfl ?_
  refine g_callS 8 [_, _] dLink_respond_8 cs_Link_58 rfl rfl ⟨(Nat.le_of_ble_eq_true rfl), (Nat.le_of_ble_eq_true rfl)⟩ (Nat.le_of_ble_eq_true rfl) (ct_streamOf_N) (Nat.le_of_ble_eq_true rfl) (Nat.le_of_ble_eq_true rfl) ?_
  rintro _ M2 ⟨rfl, hM2⟩
  rw [hM2]
  clear hM2 M2
  refine g_astoreN 11 dLink_respond_11 (by decide) rfl ?_
  refine g_aload_nN 13 dLink_respond_13 rfl ?_
  refine g_ifnullN 14 48 dLink_respond_14 rfl ?_
  refine g_iconst 48 (-1) dLink_respond_48 rfl ?_
  exact g_iret 49 dLink_respond_49 rfl ⟨rfl, rfl⟩

set_option maxRecDepth 100000 in
set_option maxHeartbeats 4000000 in
theorem ct_Link_respond_ns {X : mX} {l : Launch} {M : mM} (hS : Shp M) (hu : Kdown M 1 = 0) {y z : Int32} (hx : ¬ isStr y) : Ct X l uLink_respond (rk 6 135) [.ref 3, .int y, .int z] M (fun r M' => r = some (.int (-1)) ∧ M' = M) := by
  refine Ct.of (by decide) (Nat.le_of_ble_eq_true rfl) ?_
  show G X l uLink_respond (rk 6 135) 0 0 M 0 [some (.ref 3), some (.int y), some (.int z), none, none, none] [] _
  refine g_aload_n 0 dLink_respond_0 rfl ?_
  refine g_iconst 1 (nI 1) dLink_respond_1 rfl ?_
  refine g_callV 2 [_] dLink_respond_2 cs_Link_21 rfl (ci := 0) rfl (by decide) hS.link rfl ⟨(Nat.le_of_ble_eq_true rfl), (Nat.le_of_ble_eq_true rfl)⟩ (Nat.le_of_ble_eq_true rfl) (ct_upEndOf hS (e := 1) (by decide) hu) (Nat.le_of_ble_eq_true rfl) (Nat.le_of_ble_eq_true rfl) ?_
  rintro _ M2 ⟨rfl, hM2⟩
  rw [hM2]
  clear hM2 M2
  refine g_astore_n 5 dLink_respond_5 (by decide) rfl ?_
  refine g_aload_n 6 dLink_respond_6 rfl ?_
  refine g_iload_n 7 dLink_respond_7 rfl ?_
  refine g_callS 8 [_, _] dLink_respond_8 cs_Link_58 rfl rfl ⟨(Nat.le_of_ble_eq_true rfl), (Nat.le_of_ble_eq_true rfl)⟩ (Nat.le_of_ble_eq_true rfl) (ct_streamOf_no hS (e := 1) (by decide) hx) (Nat.le_of_ble_eq_true rfl) (Nat.le_of_ble_eq_true rfl) ?_
  rintro _ M2 ⟨rfl, hM2⟩
  rw [hM2]
  clear hM2 M2
  refine g_astoreN 11 dLink_respond_11 (by decide) rfl ?_
  refine g_aload_n 13 dLink_respond_13 rfl ?_
  refine g_ifnull 14 dLink_respond_14 ?_
  refine g_aloadN 17 dLink_respond_17 rfl ?_
  refine g_ifnullN 19 48 dLink_respond_19 rfl ?_
  refine g_iconst 48 (-1) dLink_respond_48 rfl ?_
  exact g_iret 49 dLink_respond_49 rfl ⟨rfl, rfl⟩
