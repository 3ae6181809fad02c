theorem dFrame_init_0 : decode uFrame_init.2.1 0 = .ok (.aload_n 0, 1) := by decide +kernel
theorem dFrame_init_1 : decode uFrame_init.2.1 1 = .ok (.invokespecial 3, 3) := by decide +kernel
theorem dFrame_init_4 : decode uFrame_init.2.1 4 = .ok (.aload_n 0, 1) := by decide +kernel
theorem dFrame_init_5 : decode uFrame_init.2.1 5 = .ok (.iload_n 1, 1) := by decide +kernel
theorem dFrame_init_6 : decode uFrame_init.2.1 6 = .ok (.putfield 9, 3) := by decide +kernel
theorem dFrame_init_9 : decode uFrame_init.2.1 9 = .ok (.aload_n 0, 1) := by decide +kernel
theorem dFrame_init_10 : decode uFrame_init.2.1 10 = .ok (.iload_n 2, 1) := by decide +kernel
theorem dFrame_init_11 : decode uFrame_init.2.1 11 = .ok (.putfield 15, 3) := by decide +kernel
theorem dFrame_init_14 : decode uFrame_init.2.1 14 = .ok (.aload_n 0, 1) := by decide +kernel
theorem dFrame_init_15 : decode uFrame_init.2.1 15 = .ok (.iload_n 3, 1) := by decide +kernel
theorem dFrame_init_16 : decode uFrame_init.2.1 16 = .ok (.putfield 18, 3) := by decide +kernel
theorem dFrame_init_19 : decode uFrame_init.2.1 19 = .ok (.aload_n 0, 1) := by decide +kernel
theorem dFrame_init_20 : decode uFrame_init.2.1 20 = .ok (.iload 4, 2) := by decide +kernel
theorem dFrame_init_22 : decode uFrame_init.2.1 22 = .ok (.putfield 21, 3) := by decide +kernel
theorem dFrame_init_25 : decode uFrame_init.2.1 25 = .ok (.aload_n 0, 1) := by decide +kernel
theorem dFrame_init_26 : decode uFrame_init.2.1 26 = .ok (.iload 5, 2) := by decide +kernel
theorem dFrame_init_28 : decode uFrame_init.2.1 28 = .ok (.putfield 25, 3) := by decide +kernel
theorem dFrame_init_31 : decode uFrame_init.2.1 31 = .ok (.aload_n 0, 1) := by decide +kernel
theorem dFrame_init_32 : decode uFrame_init.2.1 32 = .ok (.aload 6, 2) := by decide +kernel
theorem dFrame_init_34 : decode uFrame_init.2.1 34 = .ok (.putfield 28, 3) := by decide +kernel
theorem dFrame_init_37 : decode uFrame_init.2.1 37 = .ok (.aload_n 0, 1) := by decide +kernel
theorem dFrame_init_38 : decode uFrame_init.2.1 38 = .ok (.aload 7, 2) := by decide +kernel
theorem dFrame_init_40 : decode uFrame_init.2.1 40 = .ok (.putfield 32, 3) := by decide +kernel
theorem dFrame_init_43 : decode uFrame_init.2.1 43 = .ok (.return_, 1) := by decide +kernel
theorem dFrame_ofReset_0 : decode uFrame_ofReset.2.1 0 = .ok (.new 10, 3) := by decide +kernel
theorem dFrame_ofReset_3 : decode uFrame_ofReset.2.1 3 = .ok (.dup, 1) := by decide +kernel
theorem dFrame_ofReset_4 : decode uFrame_ofReset.2.1 4 = .ok (.iconst 3, 1) := by decide +kernel
theorem dFrame_ofReset_5 : decode uFrame_ofReset.2.1 5 = .ok (.iload_n 0, 1) := by decide +kernel
theorem dFrame_ofReset_6 : decode uFrame_ofReset.2.1 6 = .ok (.iload_n 1, 1) := by decide +kernel
theorem dFrame_ofReset_7 : decode uFrame_ofReset.2.1 7 = .ok (.iconst 0, 1) := by decide +kernel
theorem dFrame_ofReset_8 : decode uFrame_ofReset.2.1 8 = .ok (.iconst 0, 1) := by decide +kernel
theorem dFrame_ofReset_9 : decode uFrame_ofReset.2.1 9 = .ok (.aconst_null, 1) := by decide +kernel
theorem dFrame_ofReset_10 : decode uFrame_ofReset.2.1 10 = .ok (.aconst_null, 1) := by decide +kernel
theorem dFrame_ofReset_11 : decode uFrame_ofReset.2.1 11 = .ok (.invokespecial 36, 3) := by decide +kernel
theorem dFrame_ofReset_14 : decode uFrame_ofReset.2.1 14 = .ok (.areturn, 1) := by decide +kernel
theorem dFrame_ofSetting_0 : decode uFrame_ofSetting.2.1 0 = .ok (.new 10, 3) := by decide +kernel
theorem dFrame_ofSetting_3 : decode uFrame_ofSetting.2.1 3 = .ok (.dup, 1) := by decide +kernel
theorem dFrame_ofSetting_4 : decode uFrame_ofSetting.2.1 4 = .ok (.iconst 4, 1) := by decide +kernel
theorem dFrame_ofSetting_5 : decode uFrame_ofSetting.2.1 5 = .ok (.iconst 0, 1) := by decide +kernel
theorem dFrame_ofSetting_6 : decode uFrame_ofSetting.2.1 6 = .ok (.iload_n 1, 1) := by decide +kernel
theorem dFrame_ofSetting_7 : decode uFrame_ofSetting.2.1 7 = .ok (.iconst 0, 1) := by decide +kernel
theorem dFrame_ofSetting_8 : decode uFrame_ofSetting.2.1 8 = .ok (.iload_n 0, 1) := by decide +kernel
theorem dFrame_ofSetting_9 : decode uFrame_ofSetting.2.1 9 = .ok (.aconst_null, 1) := by decide +kernel
theorem dFrame_ofSetting_10 : decode uFrame_ofSetting.2.1 10 = .ok (.aconst_null, 1) := by decide +kernel
theorem dFrame_ofSetting_11 : decode uFrame_ofSetting.2.1 11 = .ok (.invokespecial 36, 3) := by decide +kernel
theorem dFrame_ofSetting_14 : decode uFrame_ofSetting.2.1 14 = .ok (.areturn, 1) := by decide +kernel
theorem dFrame_ofAck_0 : decode uFrame_ofAck.2.1 0 = .ok (.new 10, 3) := by decide +kernel
theorem dFrame_ofAck_3 : decode uFrame_ofAck.2.1 3 = .ok (.dup, 1) := by decide +kernel
theorem dFrame_ofAck_4 : decode uFrame_ofAck.2.1 4 = .ok (.iconst 4, 1) := by decide +kernel
theorem dFrame_ofAck_5 : decode uFrame_ofAck.2.1 5 = .ok (.iconst 0, 1) := by decide +kernel
theorem dFrame_ofAck_6 : decode uFrame_ofAck.2.1 6 = .ok (.iconst 0, 1) := by decide +kernel
theorem dFrame_ofAck_7 : decode uFrame_ofAck.2.1 7 = .ok (.iconst 1, 1) := by decide +kernel
theorem dFrame_ofAck_8 : decode uFrame_ofAck.2.1 8 = .ok (.iconst 0, 1) := by decide +kernel
theorem dFrame_ofAck_9 : decode uFrame_ofAck.2.1 9 = .ok (.aconst_null, 1) := by decide +kernel
theorem dFrame_ofAck_10 : decode uFrame_ofAck.2.1 10 = .ok (.aconst_null, 1) := by decide +kernel
theorem dFrame_ofAck_11 : decode uFrame_ofAck.2.1 11 = .ok (.invokespecial 36, 3) := by decide +kernel
theorem dFrame_ofAck_14 : decode uFrame_ofAck.2.1 14 = .ok (.areturn, 1) := by decide +kernel
theorem dFrame_ofFarewell_0 : decode uFrame_ofFarewell.2.1 0 = .ok (.new 10, 3) := by decide +kernel
theorem dFrame_ofFarewell_3 : decode uFrame_ofFarewell.2.1 3 = .ok (.dup, 1) := by decide +kernel
theorem dFrame_ofFarewell_4 : decode uFrame_ofFarewell.2.1 4 = .ok (.bipush 7, 2) := by decide +kernel
theorem dFrame_ofFarewell_6 : decode uFrame_ofFarewell.2.1 6 = .ok (.iconst 0, 1) := by decide +kernel
theorem dFrame_ofFarewell_7 : decode uFrame_ofFarewell.2.1 7 = .ok (.iload_n 0, 1) := by decide +kernel
theorem dFrame_ofFarewell_8 : decode uFrame_ofFarewell.2.1 8 = .ok (.iconst 0, 1) := by decide +kernel
theorem dFrame_ofFarewell_9 : decode uFrame_ofFarewell.2.1 9 = .ok (.iconst 0, 1) := by decide +kernel
theorem dFrame_ofFarewell_10 : decode uFrame_ofFarewell.2.1 10 = .ok (.aconst_null, 1) := by decide +kernel
theorem dFrame_ofFarewell_11 : decode uFrame_ofFarewell.2.1 11 = .ok (.aconst_null, 1) := by decide +kernel
theorem dFrame_ofFarewell_12 : decode uFrame_ofFarewell.2.1 12 = .ok (.invokespecial 36, 3) := by decide +kernel
theorem dFrame_ofFarewell_15 : decode uFrame_ofFarewell.2.1 15 = .ok (.areturn, 1) := by decide +kernel
theorem dFrame_ofWindow_0 : decode uFrame_ofWindow.2.1 0 = .ok (.new 10, 3) := by decide +kernel
theorem dFrame_ofWindow_3 : decode uFrame_ofWindow.2.1 3 = .ok (.dup, 1) := by decide +kernel
theorem dFrame_ofWindow_4 : decode uFrame_ofWindow.2.1 4 = .ok (.bipush 8, 2) := by decide +kernel
theorem dFrame_ofWindow_6 : decode uFrame_ofWindow.2.1 6 = .ok (.iload_n 0, 1) := by decide +kernel
theorem dFrame_ofWindow_7 : decode uFrame_ofWindow.2.1 7 = .ok (.iload_n 1, 1) := by decide +kernel
theorem dFrame_ofWindow_8 : decode uFrame_ofWindow.2.1 8 = .ok (.iconst 0, 1) := by decide +kernel
theorem dFrame_ofWindow_9 : decode uFrame_ofWindow.2.1 9 = .ok (.iconst 0, 1) := by decide +kernel
theorem dFrame_ofWindow_10 : decode uFrame_ofWindow.2.1 10 = .ok (.aconst_null, 1) := by decide +kernel
theorem dFrame_ofWindow_11 : decode uFrame_ofWindow.2.1 11 = .ok (.aconst_null, 1) := by decide +kernel
theorem dFrame_ofWindow_12 : decode uFrame_ofWindow.2.1 12 = .ok (.invokespecial 36, 3) := by decide +kernel
theorem dFrame_ofWindow_15 : decode uFrame_ofWindow.2.1 15 = .ok (.areturn, 1) := by decide +kernel
theorem dFrame_ofData_0 : decode uFrame_ofData.2.1 0 = .ok (.new 10, 3) := by decide +kernel
theorem dFrame_ofData_3 : decode uFrame_ofData.2.1 3 = .ok (.dup, 1) := by decide +kernel
theorem dFrame_ofData_4 : decode uFrame_ofData.2.1 4 = .ok (.iconst 0, 1) := by decide +kernel
theorem dFrame_ofData_5 : decode uFrame_ofData.2.1 5 = .ok (.iload_n 0, 1) := by decide +kernel
theorem dFrame_ofData_6 : decode uFrame_ofData.2.1 6 = .ok (.aload_n 1, 1) := by decide +kernel
theorem dFrame_ofData_7 : decode uFrame_ofData.2.1 7 = .ok (.arraylength, 1) := by decide +kernel
theorem dFrame_ofData_8 : decode uFrame_ofData.2.1 8 = .ok (.iload_n 2, 1) := by decide +kernel
theorem dFrame_ofData_9 : decode uFrame_ofData.2.1 9 = .ok (.iconst 0, 1) := by decide +kernel
theorem dFrame_ofData_10 : decode uFrame_ofData.2.1 10 = .ok (.aload_n 1, 1) := by decide +kernel
theorem dFrame_ofData_11 : decode uFrame_ofData.2.1 11 = .ok (.aconst_null, 1) := by decide +kernel
theorem dFrame_ofData_12 : decode uFrame_ofData.2.1 12 = .ok (.invokespecial 36, 3) := by decide +kernel
theorem dFrame_ofData_15 : decode uFrame_ofData.2.1 15 = .ok (.areturn, 1) := by decide +kernel
theorem dFrame_ofHeaders_0 : decode uFrame_ofHeaders.2.1 0 = .ok (.new 10, 3) := by decide +kernel
theorem dFrame_ofHeaders_3 : decode uFrame_ofHeaders.2.1 3 = .ok (.dup, 1) := by decide +kernel
theorem dFrame_ofHeaders_4 : decode uFrame_ofHeaders.2.1 4 = .ok (.iconst 1, 1) := by decide +kernel
theorem dFrame_ofHeaders_5 : decode uFrame_ofHeaders.2.1 5 = .ok (.iload_n 0, 1) := by decide +kernel
theorem dFrame_ofHeaders_6 : decode uFrame_ofHeaders.2.1 6 = .ok (.aload_n 1, 1) := by decide +kernel
theorem dFrame_ofHeaders_7 : decode uFrame_ofHeaders.2.1 7 = .ok (.getfield 39, 3) := by decide +kernel
theorem dFrame_ofHeaders_10 : decode uFrame_ofHeaders.2.1 10 = .ok (.iload_n 2, 1) := by decide +kernel
theorem dFrame_ofHeaders_11 : decode uFrame_ofHeaders.2.1 11 = .ok (.aload_n 1, 1) := by decide +kernel
theorem dFrame_ofHeaders_12 : decode uFrame_ofHeaders.2.1 12 = .ok (.getfield 44, 3) := by decide +kernel
theorem dFrame_ofHeaders_15 : decode uFrame_ofHeaders.2.1 15 = .ok (.aconst_null, 1) := by decide +kernel
theorem dFrame_ofHeaders_16 : decode uFrame_ofHeaders.2.1 16 = .ok (.aload_n 1, 1) := by decide +kernel
theorem dFrame_ofHeaders_17 : decode uFrame_ofHeaders.2.1 17 = .ok (.invokespecial 36, 3) := by decide +kernel
theorem dFrame_ofHeaders_20 : decode uFrame_ofHeaders.2.1 20 = .ok (.areturn, 1) := by decide +kernel
theorem dFrame_part_0 : decode uFrame_part.2.1 0 = .ok (.iload_n 1, 1) := by decide +kernel
theorem dFrame_part_1 : decode uFrame_part.2.1 1 = .ok (.tableswitch 68 0 4 #[35, 40, 45, 50, 63], 35) := by decide +kernel
theorem dFrame_part_36 : decode uFrame_part.2.1 36 = .ok (.aload_n 0, 1) := by decide +kernel
theorem dFrame_part_37 : decode uFrame_part.2.1 37 = .ok (.getfield 9, 3) := by decide +kernel
theorem dFrame_part_40 : decode uFrame_part.2.1 40 = .ok (.ireturn, 1) := by decide +kernel
theorem dFrame_part_41 : decode uFrame_part.2.1 41 = .ok (.aload_n 0, 1) := by decide +kernel
theorem dFrame_part_42 : decode uFrame_part.2.1 42 = .ok (.getfield 15, 3) := by decide +kernel
theorem dFrame_part_45 : decode uFrame_part.2.1 45 = .ok (.ireturn, 1) := by decide +kernel
theorem dFrame_part_46 : decode uFrame_part.2.1 46 = .ok (.aload_n 0, 1) := by decide +kernel
theorem dFrame_part_47 : decode uFrame_part.2.1 47 = .ok (.getfield 18, 3) := by decide +kernel
theorem dFrame_part_50 : decode uFrame_part.2.1 50 = .ok (.ireturn, 1) := by decide +kernel
theorem dFrame_part_51 : decode uFrame_part.2.1 51 = .ok (.aload_n 0, 1) := by decide +kernel
theorem dFrame_part_52 : decode uFrame_part.2.1 52 = .ok (.getfield 21, 3) := by decide +kernel
theorem dFrame_part_55 : decode uFrame_part.2.1 55 = .ok (.ifCond .eq 7, 3) := by decide +kernel
theorem dFrame_part_58 : decode uFrame_part.2.1 58 = .ok (.iconst 1, 1) := by decide +kernel
theorem dFrame_part_59 : decode uFrame_part.2.1 59 = .ok (.goto 4, 3) := by decide +kernel
theorem dFrame_part_62 : decode uFrame_part.2.1 62 = .ok (.iconst 0, 1) := by decide +kernel
theorem dFrame_part_63 : decode uFrame_part.2.1 63 = .ok (.ireturn, 1) := by decide +kernel
theorem dFrame_part_64 : decode uFrame_part.2.1 64 = .ok (.aload_n 0, 1) := by decide +kernel
theorem dFrame_part_65 : decode uFrame_part.2.1 65 = .ok (.getfield 25, 3) := by decide +kernel
theorem dFrame_part_68 : decode uFrame_part.2.1 68 = .ok (.ireturn, 1) := by decide +kernel
theorem dFrame_part_69 : decode uFrame_part.2.1 69 = .ok (.iconst (-1), 1) := by decide +kernel
theorem dFrame_part_70 : decode uFrame_part.2.1 70 = .ok (.ireturn, 1) := by decide +kernel
theorem dBlock_init_0 : decode uBlock_init.2.1 0 = .ok (.aload_n 0, 1) := by decide +kernel
theorem dBlock_init_1 : decode uBlock_init.2.1 1 = .ok (.invokespecial 1, 3) := by decide +kernel
theorem dBlock_init_4 : decode uBlock_init.2.1 4 = .ok (.aload_n 0, 1) := by decide +kernel
theorem dBlock_init_5 : decode uBlock_init.2.1 5 = .ok (.iconst 0, 1) := by decide +kernel
theorem dBlock_init_6 : decode uBlock_init.2.1 6 = .ok (.putfield 7, 3) := by decide +kernel
theorem dBlock_init_9 : decode uBlock_init.2.1 9 = .ok (.aload_n 0, 1) := by decide +kernel
theorem dBlock_init_10 : decode uBlock_init.2.1 10 = .ok (.iconst 0, 1) := by decide +kernel
theorem dBlock_init_11 : decode uBlock_init.2.1 11 = .ok (.putfield 13, 3) := by decide +kernel
theorem dBlock_init_14 : decode uBlock_init.2.1 14 = .ok (.aload_n 0, 1) := by decide +kernel
theorem dBlock_init_15 : decode uBlock_init.2.1 15 = .ok (.iload_n 1, 1) := by decide +kernel
theorem dBlock_init_16 : decode uBlock_init.2.1 16 = .ok (.newarray .int, 2) := by decide +kernel
theorem dBlock_init_18 : decode uBlock_init.2.1 18 = .ok (.putfield 16, 3) := by decide +kernel
theorem dBlock_init_21 : decode uBlock_init.2.1 21 = .ok (.aload_n 0, 1) := by decide +kernel
theorem dBlock_init_22 : decode uBlock_init.2.1 22 = .ok (.iload_n 1, 1) := by decide +kernel
theorem dBlock_init_23 : decode uBlock_init.2.1 23 = .ok (.newarray .int, 2) := by decide +kernel
theorem dBlock_init_25 : decode uBlock_init.2.1 25 = .ok (.putfield 20, 3) := by decide +kernel
theorem dBlock_init_28 : decode uBlock_init.2.1 28 = .ok (.aload_n 0, 1) := by decide +kernel
theorem dBlock_init_29 : decode uBlock_init.2.1 29 = .ok (.iload_n 1, 1) := by decide +kernel
theorem dBlock_init_30 : decode uBlock_init.2.1 30 = .ok (.newarray .int, 2) := by decide +kernel
theorem dBlock_init_32 : decode uBlock_init.2.1 32 = .ok (.putfield 23, 3) := by decide +kernel
theorem dBlock_init_35 : decode uBlock_init.2.1 35 = .ok (.aload_n 0, 1) := by decide +kernel
theorem dBlock_init_36 : decode uBlock_init.2.1 36 = .ok (.iload_n 1, 1) := by decide +kernel
theorem dBlock_init_37 : decode uBlock_init.2.1 37 = .ok (.newarray .int, 2) := by decide +kernel
theorem dBlock_init_39 : decode uBlock_init.2.1 39 = .ok (.putfield 26, 3) := by decide +kernel
theorem dBlock_init_42 : decode uBlock_init.2.1 42 = .ok (.return_, 1) := by decide +kernel
theorem dBlock_add_0 : decode uBlock_add.2.1 0 = .ok (.aload_n 0, 1) := by decide +kernel
theorem dBlock_add_1 : decode uBlock_add.2.1 1 = .ok (.getfield 7, 3) := by decide +kernel
theorem dBlock_add_4 : decode uBlock_add.2.1 4 = .ok (.aload_n 0, 1) := by decide +kernel
theorem dBlock_add_5 : decode uBlock_add.2.1 5 = .ok (.getfield 16, 3) := by decide +kernel
theorem dBlock_add_8 : decode uBlock_add.2.1 8 = .ok (.arraylength, 1) := by decide +kernel
theorem dBlock_add_9 : decode uBlock_add.2.1 9 = .ok (.if_icmp .ge 64, 3) := by decide +kernel
theorem dBlock_add_12 : decode uBlock_add.2.1 12 = .ok (.aload_n 0, 1) := by decide +kernel
theorem dBlock_add_13 : decode uBlock_add.2.1 13 = .ok (.getfield 16, 3) := by decide +kernel
theorem dBlock_add_16 : decode uBlock_add.2.1 16 = .ok (.aload_n 0, 1) := by decide +kernel
theorem dBlock_add_17 : decode uBlock_add.2.1 17 = .ok (.getfield 7, 3) := by decide +kernel
theorem dBlock_add_20 : decode uBlock_add.2.1 20 = .ok (.iload_n 1, 1) := by decide +kernel
theorem dBlock_add_21 : decode uBlock_add.2.1 21 = .ok (.iastore, 1) := by decide +kernel
theorem dBlock_add_22 : decode uBlock_add.2.1 22 = .ok (.aload_n 0, 1) := by decide +kernel
theorem dBlock_add_23 : decode uBlock_add.2.1 23 = .ok (.getfield 20, 3) := by decide +kernel
theorem dBlock_add_26 : decode uBlock_add.2.1 26 = .ok (.aload_n 0, 1) := by decide +kernel
theorem dBlock_add_27 : decode uBlock_add.2.1 27 = .ok (.getfield 7, 3) := by decide +kernel
theorem dBlock_add_30 : decode uBlock_add.2.1 30 = .ok (.iload_n 2, 1) := by decide +kernel
theorem dBlock_add_31 : decode uBlock_add.2.1 31 = .ok (.iastore, 1) := by decide +kernel
theorem dBlock_add_32 : decode uBlock_add.2.1 32 = .ok (.aload_n 0, 1) := by decide +kernel
theorem dBlock_add_33 : decode uBlock_add.2.1 33 = .ok (.getfield 23, 3) := by decide +kernel
theorem dBlock_add_36 : decode uBlock_add.2.1 36 = .ok (.aload_n 0, 1) := by decide +kernel
theorem dBlock_add_37 : decode uBlock_add.2.1 37 = .ok (.getfield 7, 3) := by decide +kernel
theorem dBlock_add_40 : decode uBlock_add.2.1 40 = .ok (.iload_n 3, 1) := by decide +kernel
theorem dBlock_add_41 : decode uBlock_add.2.1 41 = .ok (.iastore, 1) := by decide +kernel
theorem dBlock_add_42 : decode uBlock_add.2.1 42 = .ok (.aload_n 0, 1) := by decide +kernel
theorem dBlock_add_43 : decode uBlock_add.2.1 43 = .ok (.getfield 26, 3) := by decide +kernel
theorem dBlock_add_46 : decode uBlock_add.2.1 46 = .ok (.aload_n 0, 1) := by decide +kernel
theorem dBlock_add_47 : decode uBlock_add.2.1 47 = .ok (.getfield 7, 3) := by decide +kernel
theorem dBlock_add_50 : decode uBlock_add.2.1 50 = .ok (.iload 4, 2) := by decide +kernel
theorem dBlock_add_52 : decode uBlock_add.2.1 52 = .ok (.iastore, 1) := by decide +kernel
theorem dBlock_add_53 : decode uBlock_add.2.1 53 = .ok (.aload_n 0, 1) := by decide +kernel
theorem dBlock_add_54 : decode uBlock_add.2.1 54 = .ok (.dup, 1) := by decide +kernel
theorem dBlock_add_55 : decode uBlock_add.2.1 55 = .ok (.getfield 7, 3) := by decide +kernel
theorem dBlock_add_58 : decode uBlock_add.2.1 58 = .ok (.iconst 1, 1) := by decide +kernel
theorem dBlock_add_59 : decode uBlock_add.2.1 59 = .ok (.iadd, 1) := by decide +kernel
theorem dBlock_add_60 : decode uBlock_add.2.1 60 = .ok (.putfield 7, 3) := by decide +kernel
theorem dBlock_add_63 : decode uBlock_add.2.1 63 = .ok (.aload_n 0, 1) := by decide +kernel
theorem dBlock_add_64 : decode uBlock_add.2.1 64 = .ok (.dup, 1) := by decide +kernel
theorem dBlock_add_65 : decode uBlock_add.2.1 65 = .ok (.getfield 13, 3) := by decide +kernel
theorem dBlock_add_68 : decode uBlock_add.2.1 68 = .ok (.iload_n 2, 1) := by decide +kernel
theorem dBlock_add_69 : decode uBlock_add.2.1 69 = .ok (.iadd, 1) := by decide +kernel
theorem dBlock_add_70 : decode uBlock_add.2.1 70 = .ok (.putfield 13, 3) := by decide +kernel
theorem dBlock_add_73 : decode uBlock_add.2.1 73 = .ok (.return_, 1) := by decide +kernel
theorem dFList_add_0 : decode uFList_add.2.1 0 = .ok (.aload_n 0, 1) := by decide +kernel
theorem dFList_add_1 : decode uFList_add.2.1 1 = .ok (.getfield 22, 3) := by decide +kernel
theorem dFList_add_4 : decode uFList_add.2.1 4 = .ok (.bipush 6, 2) := by decide +kernel
theorem dFList_add_6 : decode uFList_add.2.1 6 = .ok (.if_icmp .ge 43, 3) := by decide +kernel
theorem dFList_add_9 : decode uFList_add.2.1 9 = .ok (.aload_n 0, 1) := by decide +kernel
theorem dFList_add_10 : decode uFList_add.2.1 10 = .ok (.getfield 9, 3) := by decide +kernel
theorem dFList_add_13 : decode uFList_add.2.1 13 = .ok (.aload_n 0, 1) := by decide +kernel
theorem dFList_add_14 : decode uFList_add.2.1 14 = .ok (.getfield 22, 3) := by decide +kernel
theorem dFList_add_17 : decode uFList_add.2.1 17 = .ok (.iload_n 1, 1) := by decide +kernel
theorem dFList_add_18 : decode uFList_add.2.1 18 = .ok (.iastore, 1) := by decide +kernel
theorem dFList_add_19 : decode uFList_add.2.1 19 = .ok (.aload_n 0, 1) := by decide +kernel
theorem dFList_add_20 : decode uFList_add.2.1 20 = .ok (.getfield 15, 3) := by decide +kernel
theorem dFList_add_23 : decode uFList_add.2.1 23 = .ok (.aload_n 0, 1) := by decide +kernel
theorem dFList_add_24 : decode uFList_add.2.1 24 = .ok (.getfield 22, 3) := by decide +kernel
theorem dFList_add_27 : decode uFList_add.2.1 27 = .ok (.iload_n 2, 1) := by decide +kernel
theorem dFList_add_28 : decode uFList_add.2.1 28 = .ok (.iastore, 1) := by decide +kernel
theorem dFList_add_29 : decode uFList_add.2.1 29 = .ok (.aload_n 0, 1) := by decide +kernel
theorem dFList_add_30 : decode uFList_add.2.1 30 = .ok (.getfield 18, 3) := by decide +kernel
theorem dFList_add_33 : decode uFList_add.2.1 33 = .ok (.aload_n 0, 1) := by decide +kernel
theorem dFList_add_34 : decode uFList_add.2.1 34 = .ok (.getfield 22, 3) := by decide +kernel
theorem dFList_add_37 : decode uFList_add.2.1 37 = .ok (.iload_n 3, 1) := by decide +kernel
theorem dFList_add_38 : decode uFList_add.2.1 38 = .ok (.bastore, 1) := by decide +kernel
theorem dFList_add_39 : decode uFList_add.2.1 39 = .ok (.aload_n 0, 1) := by decide +kernel
theorem dFList_add_40 : decode uFList_add.2.1 40 = .ok (.dup, 1) := by decide +kernel
theorem dFList_add_41 : decode uFList_add.2.1 41 = .ok (.getfield 22, 3) := by decide +kernel
theorem dFList_add_44 : decode uFList_add.2.1 44 = .ok (.iconst 1, 1) := by decide +kernel
theorem dFList_add_45 : decode uFList_add.2.1 45 = .ok (.iadd, 1) := by decide +kernel
theorem dFList_add_46 : decode uFList_add.2.1 46 = .ok (.putfield 22, 3) := by decide +kernel
theorem dFList_add_49 : decode uFList_add.2.1 49 = .ok (.return_, 1) := by decide +kernel
theorem oi_Frame_3 : Cond.methodLink "InterleavedLink$Frame" 3 Lib.objectInit ∈ gW := gW_in 518 (by decide +kernel) rfl
theorem ps_Frame_9 : pS "InterleavedLink$Frame" "<init>" 9 12 0 .int := ⟨"InterleavedLink$Frame", T_Frame, 7, cf_Frame, by decide, by decide +kernel, Or.inr ⟨rfl, rfl, rfl, (gW_in 519 (by decide +kernel) rfl)⟩⟩
theorem ps_Frame_15 : pS "InterleavedLink$Frame" "<init>" 15 12 1 .int := ⟨"InterleavedLink$Frame", T_Frame, 7, cf_Frame, by decide, by decide +kernel, Or.inr ⟨rfl, rfl, rfl, (gW_in 521 (by decide +kernel) rfl)⟩⟩
theorem ps_Frame_18 : pS "InterleavedLink$Frame" "<init>" 18 12 2 .int := ⟨"InterleavedLink$Frame", T_Frame, 7, cf_Frame, by decide, by decide +kernel, Or.inr ⟨rfl, rfl, rfl, (gW_in 523 (by decide +kernel) rfl)⟩⟩
theorem ps_Frame_21 : pS "InterleavedLink$Frame" "<init>" 21 12 3 .boolean := ⟨"InterleavedLink$Frame", T_Frame, 7, cf_Frame, by decide, by decide +kernel, Or.inr ⟨rfl, rfl, rfl, (gW_in 525 (by decide +kernel) rfl)⟩⟩
theorem ps_Frame_25 : pS "InterleavedLink$Frame" "<init>" 25 12 4 .int := ⟨"InterleavedLink$Frame", T_Frame, 7, cf_Frame, by decide, by decide +kernel, Or.inr ⟨rfl, rfl, rfl, (gW_in 527 (by decide +kernel) rfl)⟩⟩
theorem ps_Frame_28 : pS "InterleavedLink$Frame" "<init>" 28 12 5 (.array .byte) := ⟨"InterleavedLink$Frame", T_Frame, 7, cf_Frame, by decide, by decide +kernel, Or.inr ⟨rfl, rfl, rfl, (gW_in 529 (by decide +kernel) rfl)⟩⟩
theorem ps_Frame_32 : pS "InterleavedLink$Frame" "<init>" 32 12 6 (.object "InterleavedLink$Block") := ⟨"InterleavedLink$Frame", T_Frame, 7, cf_Frame, by decide, by decide +kernel, Or.inr ⟨rfl, rfl, rfl, (gW_in 531 (by decide +kernel) rfl)⟩⟩
theorem ns_Frame_10 : nS "InterleavedLink$Frame" 10 12 7 := ⟨"InterleavedLink$Frame", T_Frame, cf_Frame, (gW_in 513 (by decide +kernel) rfl), (gW_in 514 (by decide +kernel) rfl), (gW_in 76 (by decide +kernel) rfl)⟩
theorem cs_Frame_36 : cI "InterleavedLink$Frame" 36 uFrame_init 7 := ⟨⟨Or.inl (gW_in 515 (by decide +kernel) rfl), (gW_in 76 (by decide +kernel) rfl), (gW_in 517 (by decide +kernel) rfl), ⟨by decide, by decide⟩, by decide +kernel⟩, (gW_in 516 (by decide +kernel) rfl), rfl, rfl⟩
theorem fs_Frame_39 : fS "InterleavedLink$Frame" 39 11 4 := ⟨"InterleavedLink$Block", T_Block, 6, cf_Block, by decide, Or.inl (gW_in 440 (by decide +kernel) rfl)⟩
theorem fs_Frame_44 : fS "InterleavedLink$Frame" 44 11 5 := ⟨"InterleavedLink$Block", T_Block, 6, cf_Block, by decide, Or.inl (gW_in 443 (by decide +kernel) rfl)⟩
theorem fs_Frame_9 : fS "InterleavedLink$Frame" 9 12 0 := ⟨"InterleavedLink$Frame", T_Frame, 7, cf_Frame, by decide, Or.inl (gW_in 519 (by decide +kernel) rfl)⟩
theorem fs_Frame_15 : fS "InterleavedLink$Frame" 15 12 1 := ⟨"InterleavedLink$Frame", T_Frame, 7, cf_Frame, by decide, Or.inl (gW_in 521 (by decide +kernel) rfl)⟩
theorem fs_Frame_18 : fS "InterleavedLink$Frame" 18 12 2 := ⟨"InterleavedLink$Frame", T_Frame, 7, cf_Frame, by decide, Or.inl (gW_in 523 (by decide +kernel) rfl)⟩
theorem fs_Frame_21 : fS "InterleavedLink$Frame" 21 12 3 := ⟨"InterleavedLink$Frame", T_Frame, 7, cf_Frame, by decide, Or.inl (gW_in 525 (by decide +kernel) rfl)⟩
theorem fs_Frame_25 : fS "InterleavedLink$Frame" 25 12 4 := ⟨"InterleavedLink$Frame", T_Frame, 7, cf_Frame, by decide, Or.inl (gW_in 527 (by decide +kernel) rfl)⟩
theorem oi_Block_1 : Cond.methodLink "InterleavedLink$Block" 1 Lib.objectInit ∈ gW := gW_in 430 (by decide +kernel) rfl
theorem ps_Block_7 {nm : String} : pS "InterleavedLink$Block" nm 7 11 4 .int := ⟨"InterleavedLink$Block", T_Block, 6, cf_Block, by decide, by decide +kernel, Or.inl ⟨rfl, Or.inl (gW_in 439 (by decide +kernel) rfl)⟩⟩
theorem ps_Block_13 {nm : String} : pS "InterleavedLink$Block" nm 13 11 5 .int := ⟨"InterleavedLink$Block", T_Block, 6, cf_Block, by decide, by decide +kernel, Or.inl ⟨rfl, Or.inl (gW_in 442 (by decide +kernel) rfl)⟩⟩
theorem ps_Block_16 : pS "InterleavedLink$Block" "<init>" 16 11 0 (.array .int) := ⟨"InterleavedLink$Block", T_Block, 6, cf_Block, by decide, by decide +kernel, Or.inr ⟨rfl, rfl, rfl, (gW_in 431 (by decide +kernel) rfl)⟩⟩
theorem ps_Block_20 : pS "InterleavedLink$Block" "<init>" 20 11 1 (.array .int) := ⟨"InterleavedLink$Block", T_Block, 6, cf_Block, by decide, by decide +kernel, Or.inr ⟨rfl, rfl, rfl, (gW_in 433 (by decide +kernel) rfl)⟩⟩
theorem ps_Block_23 : pS "InterleavedLink$Block" "<init>" 23 11 2 (.array .int) := ⟨"InterleavedLink$Block", T_Block, 6, cf_Block, by decide, by decide +kernel, Or.inr ⟨rfl, rfl, rfl, (gW_in 435 (by decide +kernel) rfl)⟩⟩
theorem ps_Block_26 : pS "InterleavedLink$Block" "<init>" 26 11 3 (.array .int) := ⟨"InterleavedLink$Block", T_Block, 6, cf_Block, by decide, by decide +kernel, Or.inr ⟨rfl, rfl, rfl, (gW_in 437 (by decide +kernel) rfl)⟩⟩
theorem fs_Block_7 : fS "InterleavedLink$Block" 7 11 4 := ⟨"InterleavedLink$Block", T_Block, 6, cf_Block, by decide, Or.inl (gW_in 439 (by decide +kernel) rfl)⟩
theorem fs_Block_16 : fS "InterleavedLink$Block" 16 11 0 := ⟨"InterleavedLink$Block", T_Block, 6, cf_Block, by decide, Or.inl (gW_in 431 (by decide +kernel) rfl)⟩
theorem fs_Block_20 : fS "InterleavedLink$Block" 20 11 1 := ⟨"InterleavedLink$Block", T_Block, 6, cf_Block, by decide, Or.inl (gW_in 433 (by decide +kernel) rfl)⟩
theorem fs_Block_23 : fS "InterleavedLink$Block" 23 11 2 := ⟨"InterleavedLink$Block", T_Block, 6, cf_Block, by decide, Or.inl (gW_in 435 (by decide +kernel) rfl)⟩
theorem fs_Block_26 : fS "InterleavedLink$Block" 26 11 3 := ⟨"InterleavedLink$Block", T_Block, 6, cf_Block, by decide, Or.inl (gW_in 437 (by decide +kernel) rfl)⟩
theorem fs_Block_13 : fS "InterleavedLink$Block" 13 11 5 := ⟨"InterleavedLink$Block", T_Block, 6, cf_Block, by decide, Or.inl (gW_in 442 (by decide +kernel) rfl)⟩
theorem fs_FList_22 : fS "InterleavedLink$FieldList" 22 3 3 := ⟨"InterleavedLink$FieldList", T_FList, 4, cf_FList, by decide, Or.inl (gW_in 128 (by decide +kernel) rfl)⟩
theorem fs_FList_9 : fS "InterleavedLink$FieldList" 9 3 0 := ⟨"InterleavedLink$FieldList", T_FList, 4, cf_FList, by decide, Or.inl (gW_in 120 (by decide +kernel) rfl)⟩
theorem fs_FList_15 : fS "InterleavedLink$FieldList" 15 3 1 := ⟨"InterleavedLink$FieldList", T_FList, 4, cf_FList, by decide, Or.inl (gW_in 123 (by decide +kernel) rfl)⟩
theorem fs_FList_18 : fS "InterleavedLink$FieldList" 18 3 2 := ⟨"InterleavedLink$FieldList", T_FList, 4, cf_FList, by decide, Or.inl (gW_in 126 (by decide +kernel) rfl)⟩
/-! ===== frames, blocks, lists ===== -/
def frM (M : mM) (f : Nat) (kd s a fl d : Int32) (pl bl : Option Nat) : mM := setR (setR (setI (setI (setI (setI (setI M f 0 kd) f 1 s) f 2 a) f 3 fl) f 4 d) f 5 pl) f 6 bl
set_option maxRecDepth 100000 in
set_option maxHeartbeats 4000000 in
theorem ct_Fr_initNN {X : mX} {l : Launch} {M : mM} {t : Nat} {kd s a fl d : Int32} (hp : (mT M t).1 = 12) (hz : fl = 0 ∨ fl = 1) : Ct X l uFrame_init (rk 1 12) [.ref t, .int kd, .int s, .int a, .int fl, .int d, .null, .null] M (fun r M' => r = none ∧ M' = frM M t kd s a fl d none none) := by
  refine Ct.of (by decide) (Nat.le_of_ble_eq_true rfl) ?_
  show G X l uFrame_init (rk 1 12) 0 0 M 0 [some (.ref t), some (.int kd), some (.int s), some (.int a), some (.int fl), some (.int d), some (.null), some (.null)] [] _
  refine g_aload_n 0 dFrame_init_0 rfl ?_
  refine g_objInit 1 dFrame_init_1 oi_Frame_3 oi_m oi_c ⟨(Nat.le_of_ble_eq_true rfl), (Nat.le_of_ble_eq_true rfl)⟩ ?_
  refine g_aload_n 4 dFrame_init_4 rfl ?_
  refine g_iload_n 5 dFrame_init_5 rfl ?_
  refine g_puti 6 12 0 dFrame_init_6 ps_Frame_9 rfl hp ?_
  refine g_aload_n 9 dFrame_init_9 rfl ?_
  refine g_iload_n 10 dFrame_init_10 rfl ?_
  refine g_puti 11 12 1 dFrame_init_11 ps_Frame_15 rfl hp ?_
  refine g_aload_n 14 dFrame_init_14 rfl ?_
  refine g_iload_n 15 dFrame_init_15 rfl ?_
  refine g_puti 16 12 2 dFrame_init_16 ps_Frame_18 rfl hp ?_
  refine g_aload_n 19 dFrame_init_19 rfl ?_
  refine g_iload 20 dFrame_init_20 rfl ?_
  refine g_putz 22 12 3 dFrame_init_22 ps_Frame_21 rfl hz hp ?_
  refine g_aload_n 25 dFrame_init_25 rfl ?_
  refine g_iload 26 dFrame_init_26 rfl ?_
  refine g_puti 28 12 4 dFrame_init_28 ps_Frame_25 rfl hp ?_
  refine g_aload_n 31 dFrame_init_31 rfl ?_
  refine g_aloadN 32 dFrame_init_32 rfl ?_
  refine g_putN 34 12 5 dFrame_init_34 ps_Frame_28 rfl rfl hp ?_
  refine g_aload_n 37 dFrame_init_37 rfl ?_
  refine g_aloadN 38 dFrame_init_38 rfl ?_
  refine g_putN 40 12 6 dFrame_init_40 ps_Frame_32 rfl rfl hp ?_
  exact g_vret 43 dFrame_init_43 rfl ⟨rfl, rfl⟩

set_option maxRecDepth 100000 in
set_option maxHeartbeats 4000000 in
theorem ct_Fr_initPN {X : mX} {l : Launch} {M : mM} {t p : Nat} {kd s a fl d : Int32} (hp : (mT M t).1 = 12) (hz : fl = 0 ∨ fl = 1) : Ct X l uFrame_init (rk 1 12) [.ref t, .int kd, .int s, .int a, .int fl, .int d, .ref p, .null] M (fun r M' => r = none ∧ M' = frM M t kd s a fl d (some p) none) := by
  refine Ct.of (by decide) (Nat.le_of_ble_eq_true rfl) ?_
  show G X l uFrame_init (rk 1 12) 0 0 M 0 [some (.ref t), some (.int kd), some (.int s), some (.int a), some (.int fl), some (.int d), some (.ref p), some (.null)] [] _
  refine g_aload_n 0 dFrame_init_0 rfl ?_
  refine g_objInit 1 dFrame_init_1 oi_Frame_3 oi_m oi_c ⟨(Nat.le_of_ble_eq_true rfl), (Nat.le_of_ble_eq_true rfl)⟩ ?_
  refine g_aload_n 4 dFrame_init_4 rfl ?_
  refine g_iload_n 5 dFrame_init_5 rfl ?_
  refine g_puti 6 12 0 dFrame_init_6 ps_Frame_9 rfl hp ?_
  refine g_aload_n 9 dFrame_init_9 rfl ?_
  refine g_iload_n 10 dFrame_init_10 rfl ?_
  refine g_puti 11 12 1 dFrame_init_11 ps_Frame_15 rfl hp ?_
  refine g_aload_n 14 dFrame_init_14 rfl ?_
  refine g_iload_n 15 dFrame_init_15 rfl ?_
  refine g_puti 16 12 2 dFrame_init_16 ps_Frame_18 rfl hp ?_
  refine g_aload_n 19 dFrame_init_19 rfl ?_
  refine g_iload 20 dFrame_init_20 rfl ?_
  refine g_putz 22 12 3 dFrame_init_22 ps_Frame_21 rfl hz hp ?_
  refine g_aload_n 25 dFrame_init_25 rfl ?_
  refine g_iload 26 dFrame_init_26 rfl ?_
  refine g_puti 28 12 4 dFrame_init_28 ps_Frame_25 rfl hp ?_
  refine g_aload_n 31 dFrame_init_31 rfl ?_
  refine g_aload 32 dFrame_init_32 rfl ?_
  refine g_putr 34 12 5 dFrame_init_34 ps_Frame_28 rfl rfl hp ?_
  refine g_aload_n 37 dFrame_init_37 rfl ?_
  refine g_aloadN 38 dFrame_init_38 rfl ?_
  refine g_putN 40 12 6 dFrame_init_40 ps_Frame_32 rfl rfl hp ?_
  exact g_vret 43 dFrame_init_43 rfl ⟨rfl, rfl⟩

set_option maxRecDepth 100000 in
set_option maxHeartbeats 4000000 in
theorem ct_Fr_initNB {X : mX} {l : Launch} {M : mM} {t b : Nat} {kd s a fl d : Int32} (hp : (mT M t).1 = 12) (hz : fl = 0 ∨ fl = 1) : Ct X l uFrame_init (rk 1 12) [.ref t, .int kd, .int s, .int a, .int fl, .int d, .null, .ref b] M (fun r M' => r = none ∧ M' = frM M t kd s a fl d none (some b)) := by
  refine Ct.of (by decide) (Nat.le_of_ble_eq_true rfl) ?_
  show G X l uFrame_init (rk 1 12) 0 0 M 0 [some (.ref t), some (.int kd), some (.int s), some (.int a), some (.int fl), some (.int d), some (.null), some (.ref b)] [] _
  refine g_aload_n 0 dFrame_init_0 rfl ?_
  refine g_objInit 1 dFrame_init_1 oi_Frame_3 oi_m oi_c ⟨(Nat.le_of_ble_eq_true rfl), (Nat.le_of_ble_eq_true rfl)⟩ ?_
  refine g_aload_n 4 dFrame_init_4 rfl ?_
  refine g_iload_n 5 dFrame_init_5 rfl ?_
  refine g_puti 6 12 0 dFrame_init_6 ps_Frame_9 rfl hp ?_
  refine g_aload_n 9 dFrame_init_9 rfl ?_
  refine g_iload_n 10 dFrame_init_10 rfl ?_
  refine g_puti 11 12 1 dFrame_init_11 ps_Frame_15 rfl hp ?_
  refine g_aload_n 14 dFrame_init_14 rfl ?_
  refine g_iload_n 15 dFrame_init_15 rfl ?_
  refine g_puti 16 12 2 dFrame_init_16 ps_Frame_18 rfl hp ?_
  refine g_aload_n 19 dFrame_init_19 rfl ?_
  refine g_iload 20 dFrame_init_20 rfl ?_
  refine g_putz 22 12 3 dFrame_init_22 ps_Frame_21 rfl hz hp ?_
  refine g_aload_n 25 dFrame_init_25 rfl ?_
  refine g_iload 26 dFrame_init_26 rfl ?_
  refine g_puti 28 12 4 dFrame_init_28 ps_Frame_25 rfl hp ?_
  refine g_aload_n 31 dFrame_init_31 rfl ?_
  refine g_aloadN 32 dFrame_init_32 rfl ?_
  refine g_putN 34 12 5 dFrame_init_34 ps_Frame_28 rfl rfl hp ?_
  refine g_aload_n 37 dFrame_init_37 rfl ?_
  refine g_aload 38 dFrame_init_38 rfl ?_
  refine g_putr 40 12 6 dFrame_init_40 ps_Frame_32 rfl rfl hp ?_
  exact g_vret 43 dFrame_init_43 rfl ⟨rfl, rfl⟩

set_option maxRecDepth 100000 in
set_option maxHeartbeats 4000000 in
theorem ct_ofReset {X : mX} {l : Launch} {M : mM} {s c : Int32} : Ct X l uFrame_ofReset (rn 2 39 1 7) [.int s, .int c] M (fun r M' => r = some (.ref (mN M)) ∧ M' = frM (newM M 12 7) (mN M) 3 s c 0 0 none none) := by
  refine Ct.of (by decide) (Nat.le_of_ble_eq_true rfl) ?_
  show G X l uFrame_ofReset (rn 2 39 1 7) 1 7 M 0 [some (.int s), some (.int c)] [] _
  refine g_new 0 12 7 dFrame_ofReset_0 ns_Frame_10 (Nat.le_of_ble_eq_true rfl) (Nat.le_of_ble_eq_true rfl) ?_
  refine g_dup 3 dFrame_ofReset_3 rfl ?_
  refine g_iconst 4 3 dFrame_ofReset_4 rfl ?_
  refine g_iload_n 5 dFrame_ofReset_5 rfl ?_
  refine g_iload_n 6 dFrame_ofReset_6 rfl ?_
  refine g_iconst 7 0 dFrame_ofReset_7 rfl ?_
  refine g_iconst 8 0 dFrame_ofReset_8 rfl ?_
  refine g_null 9 dFrame_ofReset_9 ?_
  refine g_null 10 dFrame_ofReset_10 ?_
  refine g_callI 11 [_, _, _, _, _, _, _] dFrame_ofReset_11 cs_Frame_36 rfl rfl ⟨(Nat.le_of_ble_eq_true rfl), (Nat.le_of_ble_eq_true rfl)⟩ (Nat.le_of_ble_eq_true rfl) (ct_Fr_initNN nT (Or.inl rfl)) (Nat.le_of_ble_eq_true rfl) (Nat.le_of_ble_eq_true rfl) ?_
  rintro _ _ ⟨rfl, rfl⟩
  exact g_aret 14 dFrame_ofReset_14 rfl (Or.inl ⟨_, rfl⟩) ⟨rfl, rfl⟩

set_option maxRecDepth 100000 in
set_option maxHeartbeats 4000000 in
theorem ct_ofSetting {X : mX} {l : Launch} {M : mM} {s v : Int32} : Ct X l uFrame_ofSetting (rn 2 39 1 7) [.int s, .int v] M (fun r M' => r = some (.ref (mN M)) ∧ M' = frM (newM M 12 7) (mN M) 4 0 v 0 s none none) := by
  refine Ct.of (by decide) (Nat.le_of_ble_eq_true rfl) ?_
  show G X l uFrame_ofSetting (rn 2 39 1 7) 1 7 M 0 [some (.int s), some (.int v)] [] _
  refine g_new 0 12 7 dFrame_ofSetting_0 ns_Frame_10 (Nat.le_of_ble_eq_true rfl) (Nat.le_of_ble_eq_true rfl) ?_
  refine g_dup 3 dFrame_ofSetting_3 rfl ?_
  refine g_iconst 4 4 dFrame_ofSetting_4 rfl ?_
  refine g_iconst 5 0 dFrame_ofSetting_5 rfl ?_
  refine g_iload_n 6 dFrame_ofSetting_6 rfl ?_
  refine g_iconst 7 0 dFrame_ofSetting_7 rfl ?_
  refine g_iload_n 8 dFrame_ofSetting_8 rfl ?_
  refine g_null 9 dFrame_ofSetting_9 ?_
  refine g_null 10 dFrame_ofSetting_10 ?_
  refine g_callI 11 [_, _, _, _, _, _, _] dFrame_ofSetting_11 cs_Frame_36 rfl rfl ⟨(Nat.le_of_ble_eq_true rfl), (Nat.le_of_ble_eq_true rfl)⟩ (Nat.le_of_ble_eq_true rfl) (ct_Fr_initNN nT (Or.inl rfl)) (Nat.le_of_ble_eq_true rfl) (Nat.le_of_ble_eq_true rfl) ?_
  rintro _ _ ⟨rfl, rfl⟩
  exact g_aret 14 dFrame_ofSetting_14 rfl (Or.inl ⟨_, rfl⟩) ⟨rfl, rfl⟩

set_option maxRecDepth 100000 in
set_option maxHeartbeats 4000000 in
theorem ct_ofAck {X : mX} {l : Launch} {M : mM}  : Ct X l uFrame_ofAck (rn 2 39 1 7) [] M (fun r M' => r = some (.ref (mN M)) ∧ M' = frM (newM M 12 7) (mN M) 4 0 0 1 0 none none) := by
  refine Ct.of (by decide) (Nat.le_of_ble_eq_true rfl) ?_
  show G X l uFrame_ofAck (rn 2 39 1 7) 1 7 M 0 [] [] _
  refine g_new 0 12 7 dFrame_ofAck_0 ns_Frame_10 (Nat.le_of_ble_eq_true rfl) (Nat.le_of_ble_eq_true rfl) ?_
  refine g_dup 3 dFrame_ofAck_3 rfl ?_
  refine g_iconst 4 4 dFrame_ofAck_4 rfl ?_
  refine g_iconst 5 0 dFrame_ofAck_5 rfl ?_
  refine g_iconst 6 0 dFrame_ofAck_6 rfl ?_
  refine g_iconst 7 1 dFrame_ofAck_7 rfl ?_
  refine g_iconst 8 0 dFrame_ofAck_8 rfl ?_
  refine g_null 9 dFrame_ofAck_9 ?_
  refine g_null 10 dFrame_ofAck_10 ?_
  refine g_callI 11 [_, _, _, _, _, _, _] dFrame_ofAck_11 cs_Frame_36 rfl rfl ⟨(Nat.le_of_ble_eq_true rfl), (Nat.le_of_ble_eq_true rfl)⟩ (Nat.le_of_ble_eq_true rfl) (ct_Fr_initNN nT (Or.inr rfl)) (Nat.le_of_ble_eq_true rfl) (Nat.le_of_ble_eq_true rfl) ?_
  rintro _ _ ⟨rfl, rfl⟩
  exact g_aret 14 dFrame_ofAck_14 rfl (Or.inl ⟨_, rfl⟩) ⟨rfl, rfl⟩

set_option maxRecDepth 100000 in
set_option maxHeartbeats 4000000 in
theorem ct_ofFarewell {X : mX} {l : Launch} {M : mM} {c : Int32} : Ct X l uFrame_ofFarewell (rn 2 39 1 7) [.int c] M (fun r M' => r = some (.ref (mN M)) ∧ M' = frM (newM M 12 7) (mN M) 7 0 c 0 0 none none) := by
  refine Ct.of (by decide) (Nat.le_of_ble_eq_true rfl) ?_
  show G X l uFrame_ofFarewell (rn 2 39 1 7) 1 7 M 0 [some (.int c)] [] _
  refine g_new 0 12 7 dFrame_ofFarewell_0 ns_Frame_10 (Nat.le_of_ble_eq_true rfl) (Nat.le_of_ble_eq_true rfl) ?_
  refine g_dup 3 dFrame_ofFarewell_3 rfl ?_
  refine g_bipush 4 7 dFrame_ofFarewell_4 rfl ?_
  refine g_iconst 6 0 dFrame_ofFarewell_6 rfl ?_
  refine g_iload_n 7 dFrame_ofFarewell_7 rfl ?_
  refine g_iconst 8 0 dFrame_ofFarewell_8 rfl ?_
  refine g_iconst 9 0 dFrame_ofFarewell_9 rfl ?_
  refine g_null 10 dFrame_ofFarewell_10 ?_
  refine g_null 11 dFrame_ofFarewell_11 ?_
  refine g_callI 12 [_, _, _, _, _, _, _] dFrame_ofFarewell_12 cs_Frame_36 rfl rfl ⟨(Nat.le_of_ble_eq_true rfl), (Nat.le_of_ble_eq_true rfl)⟩ (Nat.le_of_ble_eq_true rfl) (ct_Fr_initNN nT (Or.inl rfl)) (Nat.le_of_ble_eq_true rfl) (Nat.le_of_ble_eq_true rfl) ?_
  rintro _ _ ⟨rfl, rfl⟩
  exact g_aret 15 dFrame_ofFarewell_15 rfl (Or.inl ⟨_, rfl⟩) ⟨rfl, rfl⟩

set_option maxRecDepth 100000 in
set_option maxHeartbeats 4000000 in
theorem ct_ofWindow {X : mX} {l : Launch} {M : mM} {s n : Int32} : Ct X l uFrame_ofWindow (rn 2 39 1 7) [.int s, .int n] M (fun r M' => r = some (.ref (mN M)) ∧ M' = frM (newM M 12 7) (mN M) 8 s n 0 0 none none) := by
  refine Ct.of (by decide) (Nat.le_of_ble_eq_true rfl) ?_
  show G X l uFrame_ofWindow (rn 2 39 1 7) 1 7 M 0 [some (.int s), some (.int n)] [] _
  refine g_new 0 12 7 dFrame_ofWindow_0 ns_Frame_10 (Nat.le_of_ble_eq_true rfl) (Nat.le_of_ble_eq_true rfl) ?_
  refine g_dup 3 dFrame_ofWindow_3 rfl ?_
  refine g_bipush 4 8 dFrame_ofWindow_4 rfl ?_
  refine g_iload_n 6 dFrame_ofWindow_6 rfl ?_
  refine g_iload_n 7 dFrame_ofWindow_7 rfl ?_
  refine g_iconst 8 0 dFrame_ofWindow_8 rfl ?_
  refine g_iconst 9 0 dFrame_ofWindow_9 rfl ?_
  refine g_null 10 dFrame_ofWindow_10 ?_
  refine g_null 11 dFrame_ofWindow_11 ?_
  refine g_callI 12 [_, _, _, _, _, _, _] dFrame_ofWindow_12 cs_Frame_36 rfl rfl ⟨(Nat.le_of_ble_eq_true rfl), (Nat.le_of_ble_eq_true rfl)⟩ (Nat.le_of_ble_eq_true rfl) (ct_Fr_initNN nT (Or.inl rfl)) (Nat.le_of_ble_eq_true rfl) (Nat.le_of_ble_eq_true rfl) ?_
  rintro _ _ ⟨rfl, rfl⟩
  exact g_aret 15 dFrame_ofWindow_15 rfl (Or.inl ⟨_, rfl⟩) ⟨rfl, rfl⟩

set_option maxRecDepth 100000 in
set_option maxHeartbeats 4000000 in
theorem ct_ofData {X : mX} {l : Launch} {M : mM} {s z : Int32} {p n : Nat} (hp : mT M p = (101, n)) (hz : z = 0 ∨ z = 1) : Ct X l uFrame_ofData (rn 2 39 1 7) [.int s, .ref p, .int z] M (fun r M' => r = some (.ref (mN M)) ∧ M' = frM (newM M 12 7) (mN M) 0 s (nI n) z 0 (some p) none) := by
  refine Ct.of (by decide) (Nat.le_of_ble_eq_true rfl) ?_
  show G X l uFrame_ofData (rn 2 39 1 7) 1 7 M 0 [some (.int s), some (.ref p), some (.int z)] [] _
  refine G.wf fun hw => ?_
  have hlt := (hw.lt (a := p) (by rw [hp]; show 101 ≠ 999; decide)).2
  refine g_new 0 12 7 dFrame_ofData_0 ns_Frame_10 (Nat.le_of_ble_eq_true rfl) (Nat.le_of_ble_eq_true rfl) ?_
  refine g_dup 3 dFrame_ofData_3 rfl ?_
  refine g_iconst 4 0 dFrame_ofData_4 rfl ?_
  refine g_iload_n 5 dFrame_ofData_5 rfl ?_
  refine g_aload_n 6 dFrame_ofData_6 rfl ?_
  refine g_alen 7 1 dFrame_ofData_7 rfl (oTT hlt hp) ?_
  refine g_iload_n 8 dFrame_ofData_8 rfl ?_
  refine g_iconst 9 0 dFrame_ofData_9 rfl ?_
  refine g_aload_n 10 dFrame_ofData_10 rfl ?_
  refine g_null 11 dFrame_ofData_11 ?_
  refine g_callI 12 [_, _, _, _, _, _, _] dFrame_ofData_12 cs_Frame_36 rfl rfl ⟨(Nat.le_of_ble_eq_true rfl), (Nat.le_of_ble_eq_true rfl)⟩ (Nat.le_of_ble_eq_true rfl) (ct_Fr_initPN nT hz) (Nat.le_of_ble_eq_true rfl) (Nat.le_of_ble_eq_true rfl) ?_
  rintro _ _ ⟨rfl, rfl⟩
  exact g_aret 15 dFrame_ofData_15 rfl (Or.inl ⟨_, rfl⟩) ⟨rfl, rfl⟩

set_option maxRecDepth 100000 in
set_option maxHeartbeats 4000000 in
theorem ct_ofHeaders {X : mX} {l : Launch} {M : mM} {s z : Int32} {b : Nat} (hp : (mT M b).1 = 11) (hz : z = 0 ∨ z = 1) : Ct X l uFrame_ofHeaders (rn 2 39 1 7) [.int s, .ref b, .int z] M (fun r M' => r = some (.ref (mN M)) ∧ M' = frM (newM M 12 7) (mN M) 1 s (mI M b 4) z (mI M b 5) none (some b)) := by
  refine Ct.of (by decide) (Nat.le_of_ble_eq_true rfl) ?_
  show G X l uFrame_ofHeaders (rn 2 39 1 7) 1 7 M 0 [some (.int s), some (.ref b), some (.int z)] [] _
  refine G.wf fun hw => ?_
  have hlt := (hw.lt (a := b) (by rw [hp]; decide)).2
  refine g_new 0 12 7 dFrame_ofHeaders_0 ns_Frame_10 (Nat.le_of_ble_eq_true rfl) (Nat.le_of_ble_eq_true rfl) ?_
  refine g_dup 3 dFrame_ofHeaders_3 rfl ?_
  refine g_iconst 4 1 dFrame_ofHeaders_4 rfl ?_
  refine g_iload_n 5 dFrame_ofHeaders_5 rfl ?_
  refine g_aload_n 6 dFrame_ofHeaders_6 rfl ?_
  refine g_geti 7 11 4 dFrame_ofHeaders_7 fs_Frame_39 rfl (oT hlt hp) ?_
  refine g_top (mI M b 4) (mI_new_ne (Nat.ne_of_lt hlt)) ?_
  refine g_iload_n 10 dFrame_ofHeaders_10 rfl ?_
  refine g_aload_n 11 dFrame_ofHeaders_11 rfl ?_
  refine g_geti 12 11 5 dFrame_ofHeaders_12 fs_Frame_44 rfl (oT hlt hp) ?_
  refine g_top (mI M b 5) (mI_new_ne (Nat.ne_of_lt hlt)) ?_
  refine g_null 15 dFrame_ofHeaders_15 ?_
  refine g_aload_n 16 dFrame_ofHeaders_16 rfl ?_
  refine g_callI 17 [_, _, _, _, _, _, _] dFrame_ofHeaders_17 cs_Frame_36 rfl rfl ⟨(Nat.le_of_ble_eq_true rfl), (Nat.le_of_ble_eq_true rfl)⟩ (Nat.le_of_ble_eq_true rfl) (ct_Fr_initNB nT hz) (Nat.le_of_ble_eq_true rfl) (Nat.le_of_ble_eq_true rfl) ?_
  rintro _ _ ⟨rfl, rfl⟩
  exact g_aret 20 dFrame_ofHeaders_20 rfl (Or.inl ⟨_, rfl⟩) ⟨rfl, rfl⟩

def ptC (M : mM) (f : Nat) (w : Int32) : Int32 := if w = 0 then mI M f 0 else if w = 1 then mI M f 1 else if w = 2 then mI M f 2 else if w = 3 then (if mI M f 3 = 0 then 0 else 1) else if w = 4 then mI M f 4 else -1
set_option maxRecDepth 100000 in
set_option maxHeartbeats 4000000 in
theorem ct_Fr_part {X : mX} {l : Launch} {M : mM} {t : Nat} {w : Int32} (hp : (mT M t).1 = 12) : Ct X l uFrame_part (rk 0 0) [.ref t, .int w] M (fun r M' => r = some (.int (ptC M t w)) ∧ M' = M) := by
  refine Ct.of (by decide) (Nat.le_of_ble_eq_true rfl) ?_
  show G X l uFrame_part (rk 0 0) 0 0 M 0 [some (.ref t), some (.int w)] [] _
  refine g_iload_n 0 dFrame_part_0 rfl ?_
  by_cases s1_0 : w = 0
  · refine g_top 0 s1_0 ?_
    refine g_tableIn 1 36 dFrame_part_1 (by decide) (by decide) rfl rfl ?_
    refine g_aload_n 36 dFrame_part_36 rfl ?_
    refine g_geti 37 12 0 dFrame_part_37 fs_Frame_9 rfl hp ?_
    exact g_iret 40 dFrame_part_40 rfl ⟨by simp_all [ptC], rfl⟩
  by_cases s1_1 : w = 1
  · refine g_top 1 s1_1 ?_
    refine g_tableIn 1 41 dFrame_part_1 (by decide) (by decide) rfl rfl ?_
    refine g_aload_n 41 dFrame_part_41 rfl ?_
    refine g_geti 42 12 1 dFrame_part_42 fs_Frame_15 rfl hp ?_
    exact g_iret 45 dFrame_part_45 rfl ⟨by simp_all [ptC], rfl⟩
  by_cases s1_2 : w = 2
  · refine g_top 2 s1_2 ?_
    refine g_tableIn 1 46 dFrame_part_1 (by decide) (by decide) rfl rfl ?_
    refine g_aload_n 46 dFrame_part_46 rfl ?_
    refine g_geti 47 12 2 dFrame_part_47 fs_Frame_18 rfl hp ?_
    exact g_iret 50 dFrame_part_50 rfl ⟨by simp_all [ptC], rfl⟩
  by_cases s1_3 : w = 3
  · refine g_top 3 s1_3 ?_
    refine g_tableIn 1 51 dFrame_part_1 (by decide) (by decide) rfl rfl ?_
    refine g_aload_n 51 dFrame_part_51 rfl ?_
    refine g_geti 52 12 3 dFrame_part_52 fs_Frame_21 rfl hp ?_
    refine g_if_eq 55 62 dFrame_part_55 rfl (fun h55 => ?_) (fun h55 => ?_)
    · refine g_iconst 62 0 dFrame_part_62 rfl ?_
      exact g_iret 63 dFrame_part_63 rfl ⟨by simp_all [ptC], rfl⟩
    · refine g_iconst 58 1 dFrame_part_58 rfl ?_
      refine g_goto 59 63 dFrame_part_59 rfl ?_
      exact g_iret 63 dFrame_part_63 rfl ⟨by simp_all [ptC], rfl⟩
  by_cases s1_4 : w = 4
  · refine g_top 4 s1_4 ?_
    refine g_tableIn 1 64 dFrame_part_1 (by decide) (by decide) rfl rfl ?_
    refine g_aload_n 64 dFrame_part_64 rfl ?_
    refine g_geti 65 12 4 dFrame_part_65 fs_Frame_25 rfl hp ?_
    exact g_iret 68 dFrame_part_68 rfl ⟨by simp_all [ptC], rfl⟩
  refine g_tableOut 1 69 dFrame_part_1 (by have q0 := lv_neT s1_0 (a := 0) rfl; have q1 := lv_neT s1_1 (a := 1) rfl; have q2 := lv_neT s1_2 (a := 2) rfl; have q3 := lv_neT s1_3 (a := 3) rfl; have q4 := lv_neT s1_4 (a := 4) rfl; omega) rfl ?_
  refine g_iconst 69 (-1) dFrame_part_69 rfl ?_
  exact g_iret 70 dFrame_part_70 rfl ⟨by simp_all [ptC], rfl⟩

def mkBlk (M : mM) (t n : Nat) : mM := setR (newM (setR (newM (setR (newM (setR (newM (setI (setI M t 4 0) t 5 0) 100 n) t 0 (some (mN M))) 100 n) t 1 (some (mN M + 1))) 100 n) t 2 (some (mN M + 2))) 100 n) t 3 (some (mN M + 3))
set_option maxRecDepth 100000 in
set_option maxHeartbeats 4000000 in
theorem ct_Blk_init {X : mX} {l : Launch} {M : mM} {t n : Nat} (hp : (mT M t).1 = 11) (hn : n ≤ 8) : Ct X l uBlock_init (rn 1 12 4 32) [.ref t, .int (nI n)] M (fun r M' => r = none ∧ M' = mkBlk M t n) := by
  refine Ct.of (by decide) (Nat.le_of_ble_eq_true rfl) ?_
  show G X l uBlock_init (rn 1 12 4 32) 4 32 M 0 [some (.ref t), some (.int (nI n))] [] _
  refine G.wf fun hw => ?_
  have hlt := (hw.lt (a := t) (by rw [hp]; decide)).2
  refine g_aload_n 0 dBlock_init_0 rfl ?_
  refine g_objInit 1 dBlock_init_1 oi_Block_1 oi_m oi_c ⟨(Nat.le_of_ble_eq_true rfl), (Nat.le_of_ble_eq_true rfl)⟩ ?_
  refine g_aload_n 4 dBlock_init_4 rfl ?_
  refine g_iconst 5 0 dBlock_init_5 rfl ?_
  refine g_puti 6 11 4 dBlock_init_6 ps_Block_7 rfl hp ?_
  refine g_aload_n 9 dBlock_init_9 rfl ?_
  refine g_iconst 10 0 dBlock_init_10 rfl ?_
  refine g_puti 11 11 5 dBlock_init_11 ps_Block_13 rfl hp ?_
  refine g_aload_n 14 dBlock_init_14 rfl ?_
  refine g_iload_n 15 dBlock_init_15 rfl ?_
  refine g_newa 16 0 8 dBlock_init_16 aw_int rfl rfl (fun _ => rfl) (fun _ _ h => h) (by decide) (nI_pos (by omega)) (by rw [nI_clamp (by omega)]; exact hn) (by decide) (Nat.le_of_ble_eq_true rfl) (Nat.le_of_ble_eq_true rfl) ?_
  refine g_putr 18 11 0 dBlock_init_18 ps_Block_16 rfl rfl (oT (Nat.lt_add_right 0 hlt) hp) ?_
  refine g_aload_n 21 dBlock_init_21 rfl ?_
  refine g_iload_n 22 dBlock_init_22 rfl ?_
  refine g_newa 23 0 8 dBlock_init_23 aw_int rfl rfl (fun _ => rfl) (fun _ _ h => h) (by decide) (nI_pos (by omega)) (by rw [nI_clamp (by omega)]; exact hn) (by decide) (Nat.le_of_ble_eq_true rfl) (Nat.le_of_ble_eq_true rfl) ?_
  refine g_putr 25 11 1 dBlock_init_25 ps_Block_20 rfl rfl (oT (Nat.lt_add_right 1 hlt) (oT (Nat.lt_add_right 0 hlt) hp)) ?_
  refine g_aload_n 28 dBlock_init_28 rfl ?_
  refine g_iload_n 29 dBlock_init_29 rfl ?_
  refine g_newa 30 0 8 dBlock_init_30 aw_int rfl rfl (fun _ => rfl) (fun _ _ h => h) (by decide) (nI_pos (by omega)) (by rw [nI_clamp (by omega)]; exact hn) (by decide) (Nat.le_of_ble_eq_true rfl) (Nat.le_of_ble_eq_true rfl) ?_
  refine g_putr 32 11 2 dBlock_init_32 ps_Block_23 rfl rfl (oT (Nat.lt_add_right 2 hlt) (oT (Nat.lt_add_right 1 hlt) (oT (Nat.lt_add_right 0 hlt) hp))) ?_
  refine g_aload_n 35 dBlock_init_35 rfl ?_
  refine g_iload_n 36 dBlock_init_36 rfl ?_
  refine g_newa 37 0 8 dBlock_init_37 aw_int rfl rfl (fun _ => rfl) (fun _ _ h => h) (by decide) (nI_pos (by omega)) (by rw [nI_clamp (by omega)]; exact hn) (by decide) (Nat.le_of_ble_eq_true rfl) (Nat.le_of_ble_eq_true rfl) ?_
  refine g_putr 39 11 3 dBlock_init_39 ps_Block_26 rfl rfl (oT (Nat.lt_add_right 3 hlt) (oT (Nat.lt_add_right 2 hlt) (oT (Nat.lt_add_right 1 hlt) (oT (Nat.lt_add_right 0 hlt) hp)))) ?_
  exact g_vret 42 dBlock_init_42 rfl ⟨rfl, by rw [nI_clamp (by omega)]; rfl⟩

set_option maxRecDepth 100000 in
set_option maxHeartbeats 4000000 in
theorem ct_Blk_add {X : mX} {l : Launch} {M : mM} {t n c a0 a1 a2 a3 : Nat} {kd nu na va : Int32} (hp : (mT M t).1 = 11) (r0 : mR M t 0 = some a0) (r1 : mR M t 1 = some a1) (r2 : mR M t 2 = some a2) (r3 : mR M t 3 = some a3) (t0 : mT M a0 = (100, n)) (t1 : mT M a1 = (100, n)) (t2 : mT M a2 = (100, n)) (t3 : mT M a3 = (100, n)) (hc : mI M t 4 = nI c) (hcn : c < n) (hn : n ≤ 8) : Ct X l uBlock_add (rk 0 0) [.ref t, .int kd, .int nu, .int na, .int va] M (fun r M' => r = none ∧ M' = setI (setI (setI (setI (setI (setI M a0 c kd) a1 c nu) a2 c na) a3 c va) t 4 (nI (c + 1))) t 5 (mI M t 5 + nu)) := by
  refine Ct.of (by decide) (Nat.le_of_ble_eq_true rfl) ?_
  show G X l uBlock_add (rk 0 0) 0 0 M 0 [some (.ref t), some (.int kd), some (.int nu), some (.int na), some (.int va)] [] _
  have n0 : ¬ t = a0 := fun q => by rw [q, t0] at hp; cases hp
  have n1 : ¬ t = a1 := fun q => by rw [q, t1] at hp; cases hp
  have n2 : ¬ t = a2 := fun q => by rw [q, t2] at hp; cases hp
  have n3 : ¬ t = a3 := fun q => by rw [q, t3] at hp; cases hp
  refine g_aload_n 0 dBlock_add_0 rfl ?_
  refine g_geti 1 11 4 dBlock_add_1 fs_Block_7 rfl hp ?_
  refine g_top (nI (c)) (by simp [mI_setI, up2, n0, n1, n2, n3, hc]) ?_
  refine g_aload_n 4 dBlock_add_4 rfl ?_
  refine g_getr 5 11 0 dBlock_add_5 fs_Block_16 rfl hp r0 ?_
  refine g_alen 8 0 dBlock_add_8 rfl t0 ?_
  refine g_icmp_geN 9 73 dBlock_add_9 rfl (by omega) (by omega) (fun h9 => ?_) (fun h9 => ?_)
  · exact absurd h9 (by omega)
  · refine g_aload_n 12 dBlock_add_12 rfl ?_
    refine g_getr 13 11 0 dBlock_add_13 fs_Block_16 rfl hp r0 ?_
    refine g_aload_n 16 dBlock_add_16 rfl ?_
    refine g_geti 17 11 4 dBlock_add_17 fs_Block_7 rfl hp ?_
    refine g_top (nI (c)) (by simp [mI_setI, up2, n0, n1, n2, n3, hc]) ?_
    refine g_iload_n 20 dBlock_add_20 rfl ?_
    refine g_iastN 21 dBlock_add_21 t0 (by omega) (by omega) ?_
    refine g_aload_n 22 dBlock_add_22 rfl ?_
    refine g_getr 23 11 1 dBlock_add_23 fs_Block_20 rfl hp r1 ?_
    refine g_aload_n 26 dBlock_add_26 rfl ?_
    refine g_geti 27 11 4 dBlock_add_27 fs_Block_7 rfl hp ?_
    refine g_top (nI (c)) (by simp [mI_setI, up2, n0, n1, n2, n3, hc]) ?_
    refine g_iload_n 30 dBlock_add_30 rfl ?_
    refine g_iastN 31 dBlock_add_31 t1 (by omega) (by omega) ?_
    refine g_aload_n 32 dBlock_add_32 rfl ?_
    refine g_getr 33 11 2 dBlock_add_33 fs_Block_23 rfl hp r2 ?_
    refine g_aload_n 36 dBlock_add_36 rfl ?_
    refine g_geti 37 11 4 dBlock_add_37 fs_Block_7 rfl hp ?_
    refine g_top (nI (c)) (by simp [mI_setI, up2, n0, n1, n2, n3, hc]) ?_
    refine g_iload_n 40 dBlock_add_40 rfl ?_
    refine g_iastN 41 dBlock_add_41 t2 (by omega) (by omega) ?_
    refine g_aload_n 42 dBlock_add_42 rfl ?_
    refine g_getr 43 11 3 dBlock_add_43 fs_Block_26 rfl hp r3 ?_
    refine g_aload_n 46 dBlock_add_46 rfl ?_
    refine g_geti 47 11 4 dBlock_add_47 fs_Block_7 rfl hp ?_
    refine g_top (nI (c)) (by simp [mI_setI, up2, n0, n1, n2, n3, hc]) ?_
    refine g_iload 50 dBlock_add_50 rfl ?_
    refine g_iastN 52 dBlock_add_52 t3 (by omega) (by omega) ?_
    refine g_aload_n 53 dBlock_add_53 rfl ?_
    refine g_dup 54 dBlock_add_54 rfl ?_
    refine g_geti 55 11 4 dBlock_add_55 fs_Block_7 rfl hp ?_
    refine g_top (nI (c)) (by simp [mI_setI, up2, n0, n1, n2, n3, hc]) ?_
    refine g_iconst 58 (nI 1) dBlock_add_58 rfl ?_
    refine g_iaddN 59 dBlock_add_59 ?_
    refine g_puti 60 11 4 dBlock_add_60 ps_Block_7 rfl hp ?_
    refine g_aload_n 63 dBlock_add_63 rfl ?_
    refine g_dup 64 dBlock_add_64 rfl ?_
    refine g_geti 65 11 5 dBlock_add_65 fs_Block_13 rfl hp ?_
    refine g_top (mI M t 5) (by simp [mI_setI, up2, n0, n1, n2, n3]) ?_
    refine g_iload_n 68 dBlock_add_68 rfl ?_
    refine g_iadd 69 dBlock_add_69 ?_
    refine g_puti 70 11 5 dBlock_add_70 ps_Block_13 rfl hp ?_
    exact g_vret 73 dBlock_add_73 rfl ⟨rfl, rfl⟩

set_option maxRecDepth 100000 in
set_option maxHeartbeats 4000000 in
theorem ct_FL_add {X : mX} {l : Launch} {M : mM} {t c a0 a1 a2 : Nat} {na va z : Int32} (hp : (mT M t).1 = 3) (r0 : mR M t 0 = some a0) (r1 : mR M t 1 = some a1) (r2 : mR M t 2 = some a2) (t0 : mT M a0 = (100, 6)) (t1 : mT M a1 = (100, 6)) (t2 : mT M a2 = (102, 6)) (hc : mI M t 3 = nI c) (hcn : c < 6) (hz : z = 0 ∨ z = 1) : Ct X l uFList_add (rk 0 0) [.ref t, .int na, .int va, .int z] M (fun r M' => r = none ∧ M' = setI (setI (setI (setI M a0 c na) a1 c va) a2 c z) t 3 (nI (c + 1))) := by
  refine Ct.of (by decide) (Nat.le_of_ble_eq_true rfl) ?_
  show G X l uFList_add (rk 0 0) 0 0 M 0 [some (.ref t), some (.int na), some (.int va), some (.int z)] [] _
  have n0 : ¬ t = a0 := fun q => by rw [q, t0] at hp; cases hp
  have n1 : ¬ t = a1 := fun q => by rw [q, t1] at hp; cases hp
  have n2 : ¬ t = a2 := fun q => by rw [q, t2] at hp; cases hp
  refine g_aload_n 0 dFList_add_0 rfl ?_
  refine g_geti 1 3 3 dFList_add_1 fs_FList_22 rfl hp ?_
  refine g_top (nI (c)) (by simp [mI_setI, up2, n0, n1, n2, hc]) ?_
  refine g_bipush 4 (nI 6) dFList_add_4 rfl ?_
  refine g_icmp_geN 6 49 dFList_add_6 rfl (by omega) (by omega) (fun h6 => ?_) (fun h6 => ?_)
  · exact absurd h6 (by omega)
  · refine g_aload_n 9 dFList_add_9 rfl ?_
    refine g_getr 10 3 0 dFList_add_10 fs_FList_9 rfl hp r0 ?_
    refine g_aload_n 13 dFList_add_13 rfl ?_
    refine g_geti 14 3 3 dFList_add_14 fs_FList_22 rfl hp ?_
    refine g_top (nI (c)) (by simp [mI_setI, up2, n0, n1, n2, hc]) ?_
    refine g_iload_n 17 dFList_add_17 rfl ?_
    refine g_iastN 18 dFList_add_18 t0 (by omega) (by decide) ?_
    refine g_aload_n 19 dFList_add_19 rfl ?_
    refine g_getr 20 3 1 dFList_add_20 fs_FList_15 rfl hp r1 ?_
    refine g_aload_n 23 dFList_add_23 rfl ?_
    refine g_geti 24 3 3 dFList_add_24 fs_FList_22 rfl hp ?_
    refine g_top (nI (c)) (by simp [mI_setI, up2, n0, n1, n2, hc]) ?_
    refine g_iload_n 27 dFList_add_27 rfl ?_
    refine g_iastN 28 dFList_add_28 t1 (by omega) (by decide) ?_
    refine g_aload_n 29 dFList_add_29 rfl ?_
    refine g_getr 30 3 2 dFList_add_30 fs_FList_18 rfl hp r2 ?_
    refine g_aload_n 33 dFList_add_33 rfl ?_
    refine g_geti 34 3 3 dFList_add_34 fs_FList_22 rfl hp ?_
    refine g_top (nI (c)) (by simp [mI_setI, up2, n0, n1, n2, hc]) ?_
    refine g_iload_n 37 dFList_add_37 rfl ?_
    refine g_zastN 38 dFList_add_38 t2 (by omega) (by decide) hz ?_
    refine g_aload_n 39 dFList_add_39 rfl ?_
    refine g_dup 40 dFList_add_40 rfl ?_
    refine g_geti 41 3 3 dFList_add_41 fs_FList_22 rfl hp ?_
    refine g_top (nI (c)) (by simp [mI_setI, up2, n0, n1, n2, hc]) ?_
    refine g_iconst 44 (nI 1) dFList_add_44 rfl ?_
    refine g_iaddN 45 dFList_add_45 ?_
    refine g_puti 46 3 3 dFList_add_46 ps_FList_22 rfl hp ?_
    exact g_vret 49 dFList_add_49 rfl ⟨rfl, rfl⟩
