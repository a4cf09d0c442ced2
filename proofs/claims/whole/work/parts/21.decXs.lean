theorem dX0_init_0 : decode cX0_init 0 = .ok (.aload_n 0, 1) := by decide +kernel
theorem dX0_init_1 : decode cX0_init 1 = .ok (.invokespecial 3, 3) := by decide +kernel
theorem dX0_init_4 : decode cX0_init 4 = .ok (.aload_n 0, 1) := by decide +kernel
theorem dX0_init_5 : decode cX0_init 5 = .ok (.iload_n 1, 1) := by decide +kernel
theorem dX0_init_6 : decode cX0_init 6 = .ok (.putfield 9, 3) := by decide +kernel
theorem dX0_init_9 : decode cX0_init 9 = .ok (.aload_n 0, 1) := by decide +kernel
theorem dX0_init_10 : decode cX0_init 10 = .ok (.iload_n 2, 1) := by decide +kernel
theorem dX0_init_11 : decode cX0_init 11 = .ok (.putfield 15, 3) := by decide +kernel
theorem dX0_init_14 : decode cX0_init 14 = .ok (.aload_n 0, 1) := by decide +kernel
theorem dX0_init_15 : decode cX0_init 15 = .ok (.iload_n 3, 1) := by decide +kernel
theorem dX0_init_16 : decode cX0_init 16 = .ok (.putfield 18, 3) := by decide +kernel
theorem dX0_init_19 : decode cX0_init 19 = .ok (.aload_n 0, 1) := by decide +kernel
theorem dX0_init_20 : decode cX0_init 20 = .ok (.iload_n 1, 1) := by decide +kernel
theorem dX0_init_21 : decode cX0_init 21 = .ok (.iload_n 2, 1) := by decide +kernel
theorem dX0_init_22 : decode cX0_init 22 = .ok (.iload_n 3, 1) := by decide +kernel
theorem dX0_init_23 : decode cX0_init 23 = .ok (.invokestatic 21, 3) := by decide +kernel
theorem dX0_init_26 : decode cX0_init 26 = .ok (.putfield 25, 3) := by decide +kernel
theorem dX0_init_29 : decode cX0_init 29 = .ok (.aload_n 0, 1) := by decide +kernel
theorem dX0_init_30 : decode cX0_init 30 = .ok (.iload 4, 2) := by decide +kernel
theorem dX0_init_32 : decode cX0_init 32 = .ok (.putfield 29, 3) := by decide +kernel
theorem dX0_init_35 : decode cX0_init 35 = .ok (.aload_n 0, 1) := by decide +kernel
theorem dX0_init_36 : decode cX0_init 36 = .ok (.aload 5, 2) := by decide +kernel
theorem dX0_init_38 : decode cX0_init 38 = .ok (.putfield 32, 3) := by decide +kernel
theorem dX0_init_41 : decode cX0_init 41 = .ok (.return_, 1) := by decide +kernel
theorem dX0_placeOf_0 : decode cX0_placeOf 0 = .ok (.iload_n 0, 1) := by decide +kernel
theorem dX0_placeOf_1 : decode cX0_placeOf 1 = .ok (.i2l, 1) := by decide +kernel
theorem dX0_placeOf_2 : decode cX0_placeOf 2 = .ok (.bipush 37, 2) := by decide +kernel
theorem dX0_placeOf_4 : decode cX0_placeOf 4 = .ok (.lshl, 1) := by decide +kernel
theorem dX0_placeOf_5 : decode cX0_placeOf 5 = .ok (.iload_n 1, 1) := by decide +kernel
theorem dX0_placeOf_6 : decode cX0_placeOf 6 = .ok (.i2l, 1) := by decide +kernel
theorem dX0_placeOf_7 : decode cX0_placeOf 7 = .ok (.ldc2_w 36, 3) := by decide +kernel
theorem dX0_placeOf_10 : decode cX0_placeOf 10 = .ok (.lsub, 1) := by decide +kernel
theorem dX0_placeOf_11 : decode cX0_placeOf 11 = .ok (.iconst 5, 1) := by decide +kernel
theorem dX0_placeOf_12 : decode cX0_placeOf 12 = .ok (.lshl, 1) := by decide +kernel
theorem dX0_placeOf_13 : decode cX0_placeOf 13 = .ok (.ladd, 1) := by decide +kernel
theorem dX0_placeOf_14 : decode cX0_placeOf 14 = .ok (.iload_n 2, 1) := by decide +kernel
theorem dX0_placeOf_15 : decode cX0_placeOf 15 = .ok (.i2l, 1) := by decide +kernel
theorem dX0_placeOf_16 : decode cX0_placeOf 16 = .ok (.ladd, 1) := by decide +kernel
theorem dX0_placeOf_17 : decode cX0_placeOf 17 = .ok (.lreturn, 1) := by decide +kernel
theorem dX0_isBefore_0 : decode cX0_isBefore 0 = .ok (.aload_n 0, 1) := by decide +kernel
theorem dX0_isBefore_1 : decode cX0_isBefore 1 = .ok (.getfield 25, 3) := by decide +kernel
theorem dX0_isBefore_4 : decode cX0_isBefore 4 = .ok (.lload_n 1, 1) := by decide +kernel
theorem dX0_isBefore_5 : decode cX0_isBefore 5 = .ok (.lcmp, 1) := by decide +kernel
theorem dX0_isBefore_6 : decode cX0_isBefore 6 = .ok (.ifCond .lt 20, 3) := by decide +kernel
theorem dX0_isBefore_9 : decode cX0_isBefore 9 = .ok (.aload_n 0, 1) := by decide +kernel
theorem dX0_isBefore_10 : decode cX0_isBefore 10 = .ok (.getfield 25, 3) := by decide +kernel
theorem dX0_isBefore_13 : decode cX0_isBefore 13 = .ok (.lload_n 1, 1) := by decide +kernel
theorem dX0_isBefore_14 : decode cX0_isBefore 14 = .ok (.lcmp, 1) := by decide +kernel
theorem dX0_isBefore_15 : decode cX0_isBefore 15 = .ok (.ifCond .ne 15, 3) := by decide +kernel
theorem dX0_isBefore_18 : decode cX0_isBefore 18 = .ok (.aload_n 0, 1) := by decide +kernel
theorem dX0_isBefore_19 : decode cX0_isBefore 19 = .ok (.getfield 29, 3) := by decide +kernel
theorem dX0_isBefore_22 : decode cX0_isBefore 22 = .ok (.iload_n 3, 1) := by decide +kernel
theorem dX0_isBefore_23 : decode cX0_isBefore 23 = .ok (.if_icmp .le 7, 3) := by decide +kernel
theorem dX0_isBefore_26 : decode cX0_isBefore 26 = .ok (.iconst 1, 1) := by decide +kernel
theorem dX0_isBefore_27 : decode cX0_isBefore 27 = .ok (.goto 4, 3) := by decide +kernel
theorem dX0_isBefore_30 : decode cX0_isBefore 30 = .ok (.iconst 0, 1) := by decide +kernel
theorem dX0_isBefore_31 : decode cX0_isBefore 31 = .ok (.ireturn, 1) := by decide +kernel
theorem dX0_isWithin_0 : decode cX0_isWithin 0 = .ok (.aload_n 0, 1) := by decide +kernel
theorem dX0_isWithin_1 : decode cX0_isWithin 1 = .ok (.getfield 9, 3) := by decide +kernel
theorem dX0_isWithin_4 : decode cX0_isWithin 4 = .ok (.iload_n 1, 1) := by decide +kernel
theorem dX0_isWithin_5 : decode cX0_isWithin 5 = .ok (.if_icmp .ne 28, 3) := by decide +kernel
theorem dX0_isWithin_8 : decode cX0_isWithin 8 = .ok (.aload_n 0, 1) := by decide +kernel
theorem dX0_isWithin_9 : decode cX0_isWithin 9 = .ok (.getfield 15, 3) := by decide +kernel
theorem dX0_isWithin_12 : decode cX0_isWithin 12 = .ok (.i2l, 1) := by decide +kernel
theorem dX0_isWithin_13 : decode cX0_isWithin 13 = .ok (.lload_n 2, 1) := by decide +kernel
theorem dX0_isWithin_14 : decode cX0_isWithin 14 = .ok (.lcmp, 1) := by decide +kernel
theorem dX0_isWithin_15 : decode cX0_isWithin 15 = .ok (.ifCond .lt 18, 3) := by decide +kernel
theorem dX0_isWithin_18 : decode cX0_isWithin 18 = .ok (.aload_n 0, 1) := by decide +kernel
theorem dX0_isWithin_19 : decode cX0_isWithin 19 = .ok (.getfield 15, 3) := by decide +kernel
theorem dX0_isWithin_22 : decode cX0_isWithin 22 = .ok (.i2l, 1) := by decide +kernel
theorem dX0_isWithin_23 : decode cX0_isWithin 23 = .ok (.lload 4, 2) := by decide +kernel
theorem dX0_isWithin_25 : decode cX0_isWithin 25 = .ok (.lcmp, 1) := by decide +kernel
theorem dX0_isWithin_26 : decode cX0_isWithin 26 = .ok (.ifCond .gt 7, 3) := by decide +kernel
theorem dX0_isWithin_29 : decode cX0_isWithin 29 = .ok (.iconst 1, 1) := by decide +kernel
theorem dX0_isWithin_30 : decode cX0_isWithin 30 = .ok (.goto 4, 3) := by decide +kernel
theorem dX0_isWithin_33 : decode cX0_isWithin 33 = .ok (.iconst 0, 1) := by decide +kernel
theorem dX0_isWithin_34 : decode cX0_isWithin 34 = .ok (.ireturn, 1) := by decide +kernel
theorem dX0_isInRetiredFile_0 : decode cX0_isInRetiredFile 0 = .ok (.aload_n 0, 1) := by decide +kernel
theorem dX0_isInRetiredFile_1 : decode cX0_isInRetiredFile 1 = .ok (.getfield 38, 3) := by decide +kernel
theorem dX0_isInRetiredFile_4 : decode cX0_isInRetiredFile 4 = .ok (.ifnull 17, 3) := by decide +kernel
theorem dX0_isInRetiredFile_7 : decode cX0_isInRetiredFile 7 = .ok (.aload_n 0, 1) := by decide +kernel
theorem dX0_isInRetiredFile_8 : decode cX0_isInRetiredFile 8 = .ok (.getfield 38, 3) := by decide +kernel
theorem dX0_isInRetiredFile_11 : decode cX0_isInRetiredFile 11 = .ok (.getfield 42, 3) := by decide +kernel
theorem dX0_isInRetiredFile_14 : decode cX0_isInRetiredFile 14 = .ok (.ifCond .eq 7, 3) := by decide +kernel
theorem dX0_isInRetiredFile_17 : decode cX0_isInRetiredFile 17 = .ok (.iconst 1, 1) := by decide +kernel
theorem dX0_isInRetiredFile_18 : decode cX0_isInRetiredFile 18 = .ok (.goto 4, 3) := by decide +kernel
theorem dX0_isInRetiredFile_21 : decode cX0_isInRetiredFile 21 = .ok (.iconst 0, 1) := by decide +kernel
theorem dX0_isInRetiredFile_22 : decode cX0_isInRetiredFile 22 = .ok (.ireturn, 1) := by decide +kernel
theorem dX1_init_0 : decode cX1_init 0 = .ok (.aload_n 0, 1) := by decide +kernel
theorem dX1_init_1 : decode cX1_init 1 = .ok (.invokespecial 3, 3) := by decide +kernel
theorem dX1_init_4 : decode cX1_init 4 = .ok (.aload_n 0, 1) := by decide +kernel
theorem dX1_init_5 : decode cX1_init 5 = .ok (.iload_n 1, 1) := by decide +kernel
theorem dX1_init_6 : decode cX1_init 6 = .ok (.putfield 9, 3) := by decide +kernel
theorem dX1_init_9 : decode cX1_init 9 = .ok (.aload_n 0, 1) := by decide +kernel
theorem dX1_init_10 : decode cX1_init 10 = .ok (.iload_n 2, 1) := by decide +kernel
theorem dX1_init_11 : decode cX1_init 11 = .ok (.putfield 15, 3) := by decide +kernel
theorem dX1_init_14 : decode cX1_init 14 = .ok (.aload_n 0, 1) := by decide +kernel
theorem dX1_init_15 : decode cX1_init 15 = .ok (.aload_n 3, 1) := by decide +kernel
theorem dX1_init_16 : decode cX1_init 16 = .ok (.putfield 18, 3) := by decide +kernel
theorem dX1_init_19 : decode cX1_init 19 = .ok (.aload_n 0, 1) := by decide +kernel
theorem dX1_init_20 : decode cX1_init 20 = .ok (.aload 4, 2) := by decide +kernel
theorem dX1_init_22 : decode cX1_init 22 = .ok (.putfield 22, 3) := by decide +kernel
theorem dX1_init_25 : decode cX1_init 25 = .ok (.aload_n 0, 1) := by decide +kernel
theorem dX1_init_26 : decode cX1_init 26 = .ok (.iconst 1, 1) := by decide +kernel
theorem dX1_init_27 : decode cX1_init 27 = .ok (.aload_n 3, 1) := by decide +kernel
theorem dX1_init_28 : decode cX1_init 28 = .ok (.invokestatic 25, 3) := by decide +kernel
theorem dX1_init_31 : decode cX1_init 31 = .ok (.iadd, 1) := by decide +kernel
theorem dX1_init_32 : decode cX1_init 32 = .ok (.aload 4, 2) := by decide +kernel
theorem dX1_init_34 : decode cX1_init 34 = .ok (.invokestatic 25, 3) := by decide +kernel
theorem dX1_init_37 : decode cX1_init 37 = .ok (.iadd, 1) := by decide +kernel
theorem dX1_init_38 : decode cX1_init 38 = .ok (.putfield 29, 3) := by decide +kernel
theorem dX1_init_41 : decode cX1_init 41 = .ok (.return_, 1) := by decide +kernel
theorem dX1_nodesOf_0 : decode cX1_nodesOf 0 = .ok (.aload_n 0, 1) := by decide +kernel
theorem dX1_nodesOf_1 : decode cX1_nodesOf 1 = .ok (.ifnonnull 7, 3) := by decide +kernel
theorem dX1_nodesOf_4 : decode cX1_nodesOf 4 = .ok (.iconst 0, 1) := by decide +kernel
theorem dX1_nodesOf_5 : decode cX1_nodesOf 5 = .ok (.goto 7, 3) := by decide +kernel
theorem dX1_nodesOf_8 : decode cX1_nodesOf 8 = .ok (.aload_n 0, 1) := by decide +kernel
theorem dX1_nodesOf_9 : decode cX1_nodesOf 9 = .ok (.getfield 29, 3) := by decide +kernel
theorem dX1_nodesOf_12 : decode cX1_nodesOf 12 = .ok (.ireturn, 1) := by decide +kernel
theorem dX1_isBool_0 : decode cX1_isBool 0 = .ok (.aload_n 0, 1) := by decide +kernel
theorem dX1_isBool_1 : decode cX1_isBool 1 = .ok (.getfield 9, 3) := by decide +kernel
theorem dX1_isBool_4 : decode cX1_isBool 4 = .ok (.bipush 7, 2) := by decide +kernel
theorem dX1_isBool_6 : decode cX1_isBool 6 = .ok (.if_icmp .lt 7, 3) := by decide +kernel
theorem dX1_isBool_9 : decode cX1_isBool 9 = .ok (.iconst 1, 1) := by decide +kernel
theorem dX1_isBool_10 : decode cX1_isBool 10 = .ok (.goto 4, 3) := by decide +kernel
theorem dX1_isBool_13 : decode cX1_isBool 13 = .ok (.iconst 0, 1) := by decide +kernel
theorem dX1_isBool_14 : decode cX1_isBool 14 = .ok (.ireturn, 1) := by decide +kernel
theorem dX1_isConst_0 : decode cX1_isConst 0 = .ok (.aload_n 0, 1) := by decide +kernel
theorem dX1_isConst_1 : decode cX1_isConst 1 = .ok (.getfield 9, 3) := by decide +kernel
theorem dX1_isConst_4 : decode cX1_isConst 4 = .ok (.iconst 3, 1) := by decide +kernel
theorem dX1_isConst_5 : decode cX1_isConst 5 = .ok (.if_icmp .ne 7, 3) := by decide +kernel
theorem dX1_isConst_8 : decode cX1_isConst 8 = .ok (.iconst 1, 1) := by decide +kernel
theorem dX1_isConst_9 : decode cX1_isConst 9 = .ok (.goto 4, 3) := by decide +kernel
theorem dX1_isConst_12 : decode cX1_isConst 12 = .ok (.iconst 0, 1) := by decide +kernel
theorem dX1_isConst_13 : decode cX1_isConst 13 = .ok (.ireturn, 1) := by decide +kernel
theorem dX1_areSame_0 : decode cX1_areSame 0 = .ok (.aload_n 0, 1) := by decide +kernel
theorem dX1_areSame_1 : decode cX1_areSame 1 = .ok (.ifnull 7, 3) := by decide +kernel
theorem dX1_areSame_4 : decode cX1_areSame 4 = .ok (.aload_n 1, 1) := by decide +kernel
theorem dX1_areSame_5 : decode cX1_areSame 5 = .ok (.ifnonnull 14, 3) := by decide +kernel
theorem dX1_areSame_8 : decode cX1_areSame 8 = .ok (.aload_n 0, 1) := by decide +kernel
theorem dX1_areSame_9 : decode cX1_areSame 9 = .ok (.aload_n 1, 1) := by decide +kernel
theorem dX1_areSame_10 : decode cX1_areSame 10 = .ok (.if_acmp .ne 7, 3) := by decide +kernel
theorem dX1_areSame_13 : decode cX1_areSame 13 = .ok (.iconst 1, 1) := by decide +kernel
theorem dX1_areSame_14 : decode cX1_areSame 14 = .ok (.goto 4, 3) := by decide +kernel
theorem dX1_areSame_17 : decode cX1_areSame 17 = .ok (.iconst 0, 1) := by decide +kernel
theorem dX1_areSame_18 : decode cX1_areSame 18 = .ok (.ireturn, 1) := by decide +kernel
theorem dX1_areSame_19 : decode cX1_areSame 19 = .ok (.aload_n 0, 1) := by decide +kernel
theorem dX1_areSame_20 : decode cX1_areSame 20 = .ok (.getfield 9, 3) := by decide +kernel
theorem dX1_areSame_23 : decode cX1_areSame 23 = .ok (.aload_n 1, 1) := by decide +kernel
theorem dX1_areSame_24 : decode cX1_areSame 24 = .ok (.getfield 9, 3) := by decide +kernel
theorem dX1_areSame_27 : decode cX1_areSame 27 = .ok (.if_icmp .ne 46, 3) := by decide +kernel
theorem dX1_areSame_30 : decode cX1_areSame 30 = .ok (.aload_n 0, 1) := by decide +kernel
theorem dX1_areSame_31 : decode cX1_areSame 31 = .ok (.getfield 15, 3) := by decide +kernel
theorem dX1_areSame_34 : decode cX1_areSame 34 = .ok (.aload_n 1, 1) := by decide +kernel
theorem dX1_areSame_35 : decode cX1_areSame 35 = .ok (.getfield 15, 3) := by decide +kernel
theorem dX1_areSame_38 : decode cX1_areSame 38 = .ok (.if_icmp .ne 35, 3) := by decide +kernel
theorem dX1_areSame_41 : decode cX1_areSame 41 = .ok (.aload_n 0, 1) := by decide +kernel
theorem dX1_areSame_42 : decode cX1_areSame 42 = .ok (.getfield 18, 3) := by decide +kernel
theorem dX1_areSame_45 : decode cX1_areSame 45 = .ok (.aload_n 1, 1) := by decide +kernel
theorem dX1_areSame_46 : decode cX1_areSame 46 = .ok (.getfield 18, 3) := by decide +kernel
theorem dX1_areSame_49 : decode cX1_areSame 49 = .ok (.invokestatic 32, 3) := by decide +kernel
theorem dX1_areSame_52 : decode cX1_areSame 52 = .ok (.ifCond .eq 21, 3) := by decide +kernel
theorem dX1_areSame_55 : decode cX1_areSame 55 = .ok (.aload_n 0, 1) := by decide +kernel
theorem dX1_areSame_56 : decode cX1_areSame 56 = .ok (.getfield 22, 3) := by decide +kernel
theorem dX1_areSame_59 : decode cX1_areSame 59 = .ok (.aload_n 1, 1) := by decide +kernel
theorem dX1_areSame_60 : decode cX1_areSame 60 = .ok (.getfield 22, 3) := by decide +kernel
theorem dX1_areSame_63 : decode cX1_areSame 63 = .ok (.invokestatic 32, 3) := by decide +kernel
theorem dX1_areSame_66 : decode cX1_areSame 66 = .ok (.ifCond .eq 7, 3) := by decide +kernel
theorem dX1_areSame_69 : decode cX1_areSame 69 = .ok (.iconst 1, 1) := by decide +kernel
theorem dX1_areSame_70 : decode cX1_areSame 70 = .ok (.goto 4, 3) := by decide +kernel
theorem dX1_areSame_73 : decode cX1_areSame 73 = .ok (.iconst 0, 1) := by decide +kernel
theorem dX1_areSame_74 : decode cX1_areSame 74 = .ok (.ireturn, 1) := by decide +kernel
theorem dX1_numberOf_0 : decode cX1_numberOf 0 = .ok (.aload_n 0, 1) := by decide +kernel
theorem dX1_numberOf_1 : decode cX1_numberOf 1 = .ok (.ifnonnull 5, 3) := by decide +kernel
theorem dX1_numberOf_4 : decode cX1_numberOf 4 = .ok (.iconst 0, 1) := by decide +kernel
theorem dX1_numberOf_5 : decode cX1_numberOf 5 = .ok (.ireturn, 1) := by decide +kernel
theorem dX1_numberOf_6 : decode cX1_numberOf 6 = .ok (.aload_n 0, 1) := by decide +kernel
theorem dX1_numberOf_7 : decode cX1_numberOf 7 = .ok (.getfield 9, 3) := by decide +kernel
theorem dX1_numberOf_10 : decode cX1_numberOf 10 = .ok (.tableswitch 111 0 6 #[42, 47, 52, 111, 57, 75, 93], 42) := by decide +kernel
theorem dX1_numberOf_52 : decode cX1_numberOf 52 = .ok (.aload_n 1, 1) := by decide +kernel
theorem dX1_numberOf_53 : decode cX1_numberOf 53 = .ok (.getfield 36, 3) := by decide +kernel
theorem dX1_numberOf_56 : decode cX1_numberOf 56 = .ok (.ireturn, 1) := by decide +kernel
theorem dX1_numberOf_57 : decode cX1_numberOf 57 = .ok (.aload_n 1, 1) := by decide +kernel
theorem dX1_numberOf_58 : decode cX1_numberOf 58 = .ok (.getfield 41, 3) := by decide +kernel
theorem dX1_numberOf_61 : decode cX1_numberOf 61 = .ok (.ireturn, 1) := by decide +kernel
theorem dX1_numberOf_62 : decode cX1_numberOf 62 = .ok (.aload_n 1, 1) := by decide +kernel
theorem dX1_numberOf_63 : decode cX1_numberOf 63 = .ok (.getfield 44, 3) := by decide +kernel
theorem dX1_numberOf_66 : decode cX1_numberOf 66 = .ok (.ireturn, 1) := by decide +kernel
theorem dX1_numberOf_67 : decode cX1_numberOf 67 = .ok (.aload_n 0, 1) := by decide +kernel
theorem dX1_numberOf_68 : decode cX1_numberOf 68 = .ok (.getfield 18, 3) := by decide +kernel
theorem dX1_numberOf_71 : decode cX1_numberOf 71 = .ok (.aload_n 1, 1) := by decide +kernel
theorem dX1_numberOf_72 : decode cX1_numberOf 72 = .ok (.invokestatic 47, 3) := by decide +kernel
theorem dX1_numberOf_75 : decode cX1_numberOf 75 = .ok (.aload_n 0, 1) := by decide +kernel
theorem dX1_numberOf_76 : decode cX1_numberOf 76 = .ok (.getfield 22, 3) := by decide +kernel
theorem dX1_numberOf_79 : decode cX1_numberOf 79 = .ok (.aload_n 1, 1) := by decide +kernel
theorem dX1_numberOf_80 : decode cX1_numberOf 80 = .ok (.invokestatic 47, 3) := by decide +kernel
theorem dX1_numberOf_83 : decode cX1_numberOf 83 = .ok (.iadd, 1) := by decide +kernel
theorem dX1_numberOf_84 : decode cX1_numberOf 84 = .ok (.ireturn, 1) := by decide +kernel
theorem dX1_numberOf_85 : decode cX1_numberOf 85 = .ok (.aload_n 0, 1) := by decide +kernel
theorem dX1_numberOf_86 : decode cX1_numberOf 86 = .ok (.getfield 18, 3) := by decide +kernel
theorem dX1_numberOf_89 : decode cX1_numberOf 89 = .ok (.aload_n 1, 1) := by decide +kernel
theorem dX1_numberOf_90 : decode cX1_numberOf 90 = .ok (.invokestatic 47, 3) := by decide +kernel
theorem dX1_numberOf_93 : decode cX1_numberOf 93 = .ok (.aload_n 0, 1) := by decide +kernel
theorem dX1_numberOf_94 : decode cX1_numberOf 94 = .ok (.getfield 22, 3) := by decide +kernel
theorem dX1_numberOf_97 : decode cX1_numberOf 97 = .ok (.aload_n 1, 1) := by decide +kernel
theorem dX1_numberOf_98 : decode cX1_numberOf 98 = .ok (.invokestatic 47, 3) := by decide +kernel
theorem dX1_numberOf_101 : decode cX1_numberOf 101 = .ok (.isub, 1) := by decide +kernel
theorem dX1_numberOf_102 : decode cX1_numberOf 102 = .ok (.ireturn, 1) := by decide +kernel
theorem dX1_numberOf_103 : decode cX1_numberOf 103 = .ok (.aload_n 0, 1) := by decide +kernel
theorem dX1_numberOf_104 : decode cX1_numberOf 104 = .ok (.getfield 18, 3) := by decide +kernel
theorem dX1_numberOf_107 : decode cX1_numberOf 107 = .ok (.aload_n 1, 1) := by decide +kernel
theorem dX1_numberOf_108 : decode cX1_numberOf 108 = .ok (.invokestatic 47, 3) := by decide +kernel
theorem dX1_numberOf_111 : decode cX1_numberOf 111 = .ok (.aload_n 0, 1) := by decide +kernel
theorem dX1_numberOf_112 : decode cX1_numberOf 112 = .ok (.getfield 22, 3) := by decide +kernel
theorem dX1_numberOf_115 : decode cX1_numberOf 115 = .ok (.aload_n 1, 1) := by decide +kernel
theorem dX1_numberOf_116 : decode cX1_numberOf 116 = .ok (.invokestatic 47, 3) := by decide +kernel
theorem dX1_numberOf_119 : decode cX1_numberOf 119 = .ok (.imul, 1) := by decide +kernel
theorem dX1_numberOf_120 : decode cX1_numberOf 120 = .ok (.ireturn, 1) := by decide +kernel
theorem dX1_numberOf_121 : decode cX1_numberOf 121 = .ok (.aload_n 0, 1) := by decide +kernel
theorem dX1_numberOf_122 : decode cX1_numberOf 122 = .ok (.getfield 15, 3) := by decide +kernel
theorem dX1_numberOf_125 : decode cX1_numberOf 125 = .ok (.ireturn, 1) := by decide +kernel
theorem dX1_isTrueOf_0 : decode cX1_isTrueOf 0 = .ok (.aload_n 0, 1) := by decide +kernel
theorem dX1_isTrueOf_1 : decode cX1_isTrueOf 1 = .ok (.ifnonnull 5, 3) := by decide +kernel
theorem dX1_isTrueOf_4 : decode cX1_isTrueOf 4 = .ok (.iconst 0, 1) := by decide +kernel
theorem dX1_isTrueOf_5 : decode cX1_isTrueOf 5 = .ok (.ireturn, 1) := by decide +kernel
theorem dX1_isTrueOf_6 : decode cX1_isTrueOf 6 = .ok (.aload_n 0, 1) := by decide +kernel
theorem dX1_isTrueOf_7 : decode cX1_isTrueOf 7 = .ok (.getfield 9, 3) := by decide +kernel
theorem dX1_isTrueOf_10 : decode cX1_isTrueOf 10 = .ok (.tableswitch 157 7 11 #[34, 59, 84, 112, 140], 34) := by decide +kernel
theorem dX1_isTrueOf_44 : decode cX1_isTrueOf 44 = .ok (.aload_n 0, 1) := by decide +kernel
theorem dX1_isTrueOf_45 : decode cX1_isTrueOf 45 = .ok (.getfield 18, 3) := by decide +kernel
theorem dX1_isTrueOf_48 : decode cX1_isTrueOf 48 = .ok (.aload_n 1, 1) := by decide +kernel
theorem dX1_isTrueOf_49 : decode cX1_isTrueOf 49 = .ok (.invokestatic 47, 3) := by decide +kernel
theorem dX1_isTrueOf_52 : decode cX1_isTrueOf 52 = .ok (.aload_n 0, 1) := by decide +kernel
theorem dX1_isTrueOf_53 : decode cX1_isTrueOf 53 = .ok (.getfield 22, 3) := by decide +kernel
theorem dX1_isTrueOf_56 : decode cX1_isTrueOf 56 = .ok (.aload_n 1, 1) := by decide +kernel
theorem dX1_isTrueOf_57 : decode cX1_isTrueOf 57 = .ok (.invokestatic 47, 3) := by decide +kernel
theorem dX1_isTrueOf_60 : decode cX1_isTrueOf 60 = .ok (.if_icmp .ge 7, 3) := by decide +kernel
theorem dX1_isTrueOf_63 : decode cX1_isTrueOf 63 = .ok (.iconst 1, 1) := by decide +kernel
theorem dX1_isTrueOf_64 : decode cX1_isTrueOf 64 = .ok (.goto 4, 3) := by decide +kernel
theorem dX1_isTrueOf_67 : decode cX1_isTrueOf 67 = .ok (.iconst 0, 1) := by decide +kernel
theorem dX1_isTrueOf_68 : decode cX1_isTrueOf 68 = .ok (.ireturn, 1) := by decide +kernel
theorem dX1_isTrueOf_69 : decode cX1_isTrueOf 69 = .ok (.aload_n 0, 1) := by decide +kernel
theorem dX1_isTrueOf_70 : decode cX1_isTrueOf 70 = .ok (.getfield 18, 3) := by decide +kernel
theorem dX1_isTrueOf_73 : decode cX1_isTrueOf 73 = .ok (.aload_n 1, 1) := by decide +kernel
theorem dX1_isTrueOf_74 : decode cX1_isTrueOf 74 = .ok (.invokestatic 47, 3) := by decide +kernel
theorem dX1_isTrueOf_77 : decode cX1_isTrueOf 77 = .ok (.aload_n 0, 1) := by decide +kernel
theorem dX1_isTrueOf_78 : decode cX1_isTrueOf 78 = .ok (.getfield 22, 3) := by decide +kernel
theorem dX1_isTrueOf_81 : decode cX1_isTrueOf 81 = .ok (.aload_n 1, 1) := by decide +kernel
theorem dX1_isTrueOf_82 : decode cX1_isTrueOf 82 = .ok (.invokestatic 47, 3) := by decide +kernel
theorem dX1_isTrueOf_85 : decode cX1_isTrueOf 85 = .ok (.if_icmp .ne 7, 3) := by decide +kernel
theorem dX1_isTrueOf_88 : decode cX1_isTrueOf 88 = .ok (.iconst 1, 1) := by decide +kernel
theorem dX1_isTrueOf_89 : decode cX1_isTrueOf 89 = .ok (.goto 4, 3) := by decide +kernel
theorem dX1_isTrueOf_92 : decode cX1_isTrueOf 92 = .ok (.iconst 0, 1) := by decide +kernel
theorem dX1_isTrueOf_93 : decode cX1_isTrueOf 93 = .ok (.ireturn, 1) := by decide +kernel
theorem dX1_isTrueOf_94 : decode cX1_isTrueOf 94 = .ok (.aload_n 0, 1) := by decide +kernel
theorem dX1_isTrueOf_95 : decode cX1_isTrueOf 95 = .ok (.getfield 18, 3) := by decide +kernel
theorem dX1_isTrueOf_98 : decode cX1_isTrueOf 98 = .ok (.aload_n 1, 1) := by decide +kernel
theorem dX1_isTrueOf_99 : decode cX1_isTrueOf 99 = .ok (.invokestatic 51, 3) := by decide +kernel
theorem dX1_isTrueOf_102 : decode cX1_isTrueOf 102 = .ok (.ifCond .eq 18, 3) := by decide +kernel
theorem dX1_isTrueOf_105 : decode cX1_isTrueOf 105 = .ok (.aload_n 0, 1) := by decide +kernel
theorem dX1_isTrueOf_106 : decode cX1_isTrueOf 106 = .ok (.getfield 22, 3) := by decide +kernel
theorem dX1_isTrueOf_109 : decode cX1_isTrueOf 109 = .ok (.aload_n 1, 1) := by decide +kernel
theorem dX1_isTrueOf_110 : decode cX1_isTrueOf 110 = .ok (.invokestatic 51, 3) := by decide +kernel
theorem dX1_isTrueOf_113 : decode cX1_isTrueOf 113 = .ok (.ifCond .eq 7, 3) := by decide +kernel
theorem dX1_isTrueOf_116 : decode cX1_isTrueOf 116 = .ok (.iconst 1, 1) := by decide +kernel
theorem dX1_isTrueOf_117 : decode cX1_isTrueOf 117 = .ok (.goto 4, 3) := by decide +kernel
theorem dX1_isTrueOf_120 : decode cX1_isTrueOf 120 = .ok (.iconst 0, 1) := by decide +kernel
theorem dX1_isTrueOf_121 : decode cX1_isTrueOf 121 = .ok (.ireturn, 1) := by decide +kernel
theorem dX1_isTrueOf_122 : decode cX1_isTrueOf 122 = .ok (.aload_n 0, 1) := by decide +kernel
theorem dX1_isTrueOf_123 : decode cX1_isTrueOf 123 = .ok (.getfield 18, 3) := by decide +kernel
theorem dX1_isTrueOf_126 : decode cX1_isTrueOf 126 = .ok (.aload_n 1, 1) := by decide +kernel
theorem dX1_isTrueOf_127 : decode cX1_isTrueOf 127 = .ok (.invokestatic 51, 3) := by decide +kernel
theorem dX1_isTrueOf_130 : decode cX1_isTrueOf 130 = .ok (.ifCond .ne 14, 3) := by decide +kernel
theorem dX1_isTrueOf_133 : decode cX1_isTrueOf 133 = .ok (.aload_n 0, 1) := by decide +kernel
theorem dX1_isTrueOf_134 : decode cX1_isTrueOf 134 = .ok (.getfield 22, 3) := by decide +kernel
theorem dX1_isTrueOf_137 : decode cX1_isTrueOf 137 = .ok (.aload_n 1, 1) := by decide +kernel
theorem dX1_isTrueOf_138 : decode cX1_isTrueOf 138 = .ok (.invokestatic 51, 3) := by decide +kernel
theorem dX1_isTrueOf_141 : decode cX1_isTrueOf 141 = .ok (.ifCond .eq 7, 3) := by decide +kernel
theorem dX1_isTrueOf_144 : decode cX1_isTrueOf 144 = .ok (.iconst 1, 1) := by decide +kernel
theorem dX1_isTrueOf_145 : decode cX1_isTrueOf 145 = .ok (.goto 4, 3) := by decide +kernel
theorem dX1_isTrueOf_148 : decode cX1_isTrueOf 148 = .ok (.iconst 0, 1) := by decide +kernel
theorem dX1_isTrueOf_149 : decode cX1_isTrueOf 149 = .ok (.ireturn, 1) := by decide +kernel
theorem dX1_isTrueOf_150 : decode cX1_isTrueOf 150 = .ok (.aload_n 0, 1) := by decide +kernel
theorem dX1_isTrueOf_151 : decode cX1_isTrueOf 151 = .ok (.getfield 18, 3) := by decide +kernel
theorem dX1_isTrueOf_154 : decode cX1_isTrueOf 154 = .ok (.aload_n 1, 1) := by decide +kernel
theorem dX1_isTrueOf_155 : decode cX1_isTrueOf 155 = .ok (.invokestatic 51, 3) := by decide +kernel
theorem dX1_isTrueOf_158 : decode cX1_isTrueOf 158 = .ok (.ifCond .ne 7, 3) := by decide +kernel
theorem dX1_isTrueOf_161 : decode cX1_isTrueOf 161 = .ok (.iconst 1, 1) := by decide +kernel
theorem dX1_isTrueOf_162 : decode cX1_isTrueOf 162 = .ok (.goto 4, 3) := by decide +kernel
theorem dX1_isTrueOf_165 : decode cX1_isTrueOf 165 = .ok (.iconst 0, 1) := by decide +kernel
theorem dX1_isTrueOf_166 : decode cX1_isTrueOf 166 = .ok (.ireturn, 1) := by decide +kernel
theorem dX1_isTrueOf_167 : decode cX1_isTrueOf 167 = .ok (.aload_n 1, 1) := by decide +kernel
theorem dX1_isTrueOf_168 : decode cX1_isTrueOf 168 = .ok (.aload_n 0, 1) := by decide +kernel
theorem dX1_isTrueOf_169 : decode cX1_isTrueOf 169 = .ok (.getfield 15, 3) := by decide +kernel
theorem dX1_isTrueOf_172 : decode cX1_isTrueOf 172 = .ok (.invokevirtual 55, 3) := by decide +kernel
theorem dX1_isTrueOf_175 : decode cX1_isTrueOf 175 = .ok (.ireturn, 1) := by decide +kernel
theorem dX2_init_0 : decode cX2_init 0 = .ok (.aload_n 0, 1) := by decide +kernel
theorem dX2_init_1 : decode cX2_init 1 = .ok (.invokespecial 3, 3) := by decide +kernel
theorem dX2_init_4 : decode cX2_init 4 = .ok (.aload_n 0, 1) := by decide +kernel
theorem dX2_init_5 : decode cX2_init 5 = .ok (.ldc2_w 9, 3) := by decide +kernel
theorem dX2_init_8 : decode cX2_init 8 = .ok (.putfield 11, 3) := by decide +kernel
theorem dX2_init_11 : decode cX2_init 11 = .ok (.aload_n 0, 1) := by decide +kernel
theorem dX2_init_12 : decode cX2_init 12 = .ok (.ldc2_w 17, 3) := by decide +kernel
theorem dX2_init_15 : decode cX2_init 15 = .ok (.putfield 19, 3) := by decide +kernel
theorem dX2_init_18 : decode cX2_init 18 = .ok (.aload_n 0, 1) := by decide +kernel
theorem dX2_init_19 : decode cX2_init 19 = .ok (.aload_n 1, 1) := by decide +kernel
theorem dX2_init_20 : decode cX2_init 20 = .ok (.putfield 22, 3) := by decide +kernel
theorem dX2_init_23 : decode cX2_init 23 = .ok (.return_, 1) := by decide +kernel
theorem dX2_width_0 : decode cX2_width 0 = .ok (.aload_n 0, 1) := by decide +kernel
theorem dX2_width_1 : decode cX2_width 1 = .ok (.getfield 19, 3) := by decide +kernel
theorem dX2_width_4 : decode cX2_width 4 = .ok (.aload_n 0, 1) := by decide +kernel
theorem dX2_width_5 : decode cX2_width 5 = .ok (.getfield 11, 3) := by decide +kernel
theorem dX2_width_8 : decode cX2_width 8 = .ok (.lsub, 1) := by decide +kernel
theorem dX2_width_9 : decode cX2_width 9 = .ok (.lreturn, 1) := by decide +kernel
theorem dX2_tellConjuncts_0 : decode cX2_tellConjuncts 0 = .ok (.aload_n 0, 1) := by decide +kernel
theorem dX2_tellConjuncts_1 : decode cX2_tellConjuncts 1 = .ok (.ifnonnull 4, 3) := by decide +kernel
theorem dX2_tellConjuncts_4 : decode cX2_tellConjuncts 4 = .ok (.return_, 1) := by decide +kernel
theorem dX2_tellConjuncts_5 : decode cX2_tellConjuncts 5 = .ok (.aload_n 0, 1) := by decide +kernel
theorem dX2_tellConjuncts_6 : decode cX2_tellConjuncts 6 = .ok (.getfield 26, 3) := by decide +kernel
theorem dX2_tellConjuncts_9 : decode cX2_tellConjuncts 9 = .ok (.bipush 9, 2) := by decide +kernel
theorem dX2_tellConjuncts_11 : decode cX2_tellConjuncts 11 = .ok (.if_icmp .ne 22, 3) := by decide +kernel
theorem dX2_tellConjuncts_14 : decode cX2_tellConjuncts 14 = .ok (.aload_n 0, 1) := by decide +kernel
theorem dX2_tellConjuncts_15 : decode cX2_tellConjuncts 15 = .ok (.getfield 32, 3) := by decide +kernel
theorem dX2_tellConjuncts_18 : decode cX2_tellConjuncts 18 = .ok (.aload_n 1, 1) := by decide +kernel
theorem dX2_tellConjuncts_19 : decode cX2_tellConjuncts 19 = .ok (.invokestatic 35, 3) := by decide +kernel
theorem dX2_tellConjuncts_22 : decode cX2_tellConjuncts 22 = .ok (.aload_n 0, 1) := by decide +kernel
theorem dX2_tellConjuncts_23 : decode cX2_tellConjuncts 23 = .ok (.getfield 39, 3) := by decide +kernel
theorem dX2_tellConjuncts_26 : decode cX2_tellConjuncts 26 = .ok (.aload_n 1, 1) := by decide +kernel
theorem dX2_tellConjuncts_27 : decode cX2_tellConjuncts 27 = .ok (.invokestatic 35, 3) := by decide +kernel
theorem dX2_tellConjuncts_30 : decode cX2_tellConjuncts 30 = .ok (.goto 47, 3) := by decide +kernel
theorem dX2_tellConjuncts_33 : decode cX2_tellConjuncts 33 = .ok (.aload_n 0, 1) := by decide +kernel
theorem dX2_tellConjuncts_34 : decode cX2_tellConjuncts 34 = .ok (.getfield 26, 3) := by decide +kernel
theorem dX2_tellConjuncts_37 : decode cX2_tellConjuncts 37 = .ok (.bipush 7, 2) := by decide +kernel
theorem dX2_tellConjuncts_39 : decode cX2_tellConjuncts 39 = .ok (.if_icmp .eq 12, 3) := by decide +kernel
theorem dX2_tellConjuncts_42 : decode cX2_tellConjuncts 42 = .ok (.aload_n 0, 1) := by decide +kernel
theorem dX2_tellConjuncts_43 : decode cX2_tellConjuncts 43 = .ok (.getfield 26, 3) := by decide +kernel
theorem dX2_tellConjuncts_46 : decode cX2_tellConjuncts 46 = .ok (.bipush 8, 2) := by decide +kernel
theorem dX2_tellConjuncts_48 : decode cX2_tellConjuncts 48 = .ok (.if_icmp .ne 29, 3) := by decide +kernel
theorem dX2_tellConjuncts_51 : decode cX2_tellConjuncts 51 = .ok (.aload_n 1, 1) := by decide +kernel
theorem dX2_tellConjuncts_52 : decode cX2_tellConjuncts 52 = .ok (.aload_n 0, 1) := by decide +kernel
theorem dX2_tellConjuncts_53 : decode cX2_tellConjuncts 53 = .ok (.getfield 26, 3) := by decide +kernel
theorem dX2_tellConjuncts_56 : decode cX2_tellConjuncts 56 = .ok (.bipush 8, 2) := by decide +kernel
theorem dX2_tellConjuncts_58 : decode cX2_tellConjuncts 58 = .ok (.if_icmp .ne 7, 3) := by decide +kernel
theorem dX2_tellConjuncts_61 : decode cX2_tellConjuncts 61 = .ok (.iconst 1, 1) := by decide +kernel
theorem dX2_tellConjuncts_62 : decode cX2_tellConjuncts 62 = .ok (.goto 4, 3) := by decide +kernel
theorem dX2_tellConjuncts_65 : decode cX2_tellConjuncts 65 = .ok (.iconst 0, 1) := by decide +kernel
theorem dX2_tellConjuncts_66 : decode cX2_tellConjuncts 66 = .ok (.aload_n 0, 1) := by decide +kernel
theorem dX2_tellConjuncts_67 : decode cX2_tellConjuncts 67 = .ok (.getfield 32, 3) := by decide +kernel
theorem dX2_tellConjuncts_70 : decode cX2_tellConjuncts 70 = .ok (.aload_n 0, 1) := by decide +kernel
theorem dX2_tellConjuncts_71 : decode cX2_tellConjuncts 71 = .ok (.getfield 39, 3) := by decide +kernel
theorem dX2_tellConjuncts_74 : decode cX2_tellConjuncts 74 = .ok (.invokevirtual 42, 3) := by decide +kernel
theorem dX2_tellConjuncts_77 : decode cX2_tellConjuncts 77 = .ok (.return_, 1) := by decide +kernel
theorem dX2_hear_0 : decode cX2_hear 0 = .ok (.aload_n 2, 1) := by decide +kernel
theorem dX2_hear_1 : decode cX2_hear 1 = .ok (.ifnull 7, 3) := by decide +kernel
theorem dX2_hear_4 : decode cX2_hear 4 = .ok (.aload_n 3, 1) := by decide +kernel
theorem dX2_hear_5 : decode cX2_hear 5 = .ok (.ifnonnull 4, 3) := by decide +kernel
theorem dX2_hear_8 : decode cX2_hear 8 = .ok (.return_, 1) := by decide +kernel
theorem dX2_hear_9 : decode cX2_hear 9 = .ok (.aload_n 3, 1) := by decide +kernel
theorem dX2_hear_10 : decode cX2_hear 10 = .ok (.invokevirtual 46, 3) := by decide +kernel
theorem dX2_hear_13 : decode cX2_hear 13 = .ok (.ifCond .eq 51, 3) := by decide +kernel
theorem dX2_hear_16 : decode cX2_hear 16 = .ok (.aload_n 2, 1) := by decide +kernel
theorem dX2_hear_17 : decode cX2_hear 17 = .ok (.aload_n 0, 1) := by decide +kernel
theorem dX2_hear_18 : decode cX2_hear 18 = .ok (.getfield 22, 3) := by decide +kernel
theorem dX2_hear_21 : decode cX2_hear 21 = .ok (.invokestatic 50, 3) := by decide +kernel
theorem dX2_hear_24 : decode cX2_hear 24 = .ok (.ifCond .eq 40, 3) := by decide +kernel
theorem dX2_hear_27 : decode cX2_hear 27 = .ok (.aload_n 3, 1) := by decide +kernel
theorem dX2_hear_28 : decode cX2_hear 28 = .ok (.getfield 54, 3) := by decide +kernel
theorem dX2_hear_31 : decode cX2_hear 31 = .ok (.i2l, 1) := by decide +kernel
theorem dX2_hear_32 : decode cX2_hear 32 = .ok (.lstore 4, 2) := by decide +kernel
theorem dX2_hear_34 : decode cX2_hear 34 = .ok (.aload_n 0, 1) := by decide +kernel
theorem dX2_hear_35 : decode cX2_hear 35 = .ok (.iload_n 1, 1) := by decide +kernel
theorem dX2_hear_36 : decode cX2_hear 36 = .ok (.ifCond .eq 8, 3) := by decide +kernel
theorem dX2_hear_39 : decode cX2_hear 39 = .ok (.lload 4, 2) := by decide +kernel
theorem dX2_hear_41 : decode cX2_hear 41 = .ok (.goto 7, 3) := by decide +kernel
theorem dX2_hear_44 : decode cX2_hear 44 = .ok (.aload_n 0, 1) := by decide +kernel
theorem dX2_hear_45 : decode cX2_hear 45 = .ok (.getfield 11, 3) := by decide +kernel
theorem dX2_hear_48 : decode cX2_hear 48 = .ok (.iload_n 1, 1) := by decide +kernel
theorem dX2_hear_49 : decode cX2_hear 49 = .ok (.ifCond .eq 8, 3) := by decide +kernel
theorem dX2_hear_52 : decode cX2_hear 52 = .ok (.lload 4, 2) := by decide +kernel
theorem dX2_hear_54 : decode cX2_hear 54 = .ok (.goto 7, 3) := by decide +kernel
theorem dX2_hear_57 : decode cX2_hear 57 = .ok (.lload 4, 2) := by decide +kernel
theorem dX2_hear_59 : decode cX2_hear 59 = .ok (.lconst 1, 1) := by decide +kernel
theorem dX2_hear_60 : decode cX2_hear 60 = .ok (.lsub, 1) := by decide +kernel
theorem dX2_hear_61 : decode cX2_hear 61 = .ok (.invokevirtual 57, 3) := by decide +kernel
theorem dX2_hear_64 : decode cX2_hear 64 = .ok (.aload_n 2, 1) := by decide +kernel
theorem dX2_hear_65 : decode cX2_hear 65 = .ok (.invokevirtual 46, 3) := by decide +kernel
theorem dX2_hear_68 : decode cX2_hear 68 = .ok (.ifCond .eq 51, 3) := by decide +kernel
theorem dX2_hear_71 : decode cX2_hear 71 = .ok (.aload_n 3, 1) := by decide +kernel
theorem dX2_hear_72 : decode cX2_hear 72 = .ok (.aload_n 0, 1) := by decide +kernel
theorem dX2_hear_73 : decode cX2_hear 73 = .ok (.getfield 22, 3) := by decide +kernel
theorem dX2_hear_76 : decode cX2_hear 76 = .ok (.invokestatic 50, 3) := by decide +kernel
theorem dX2_hear_79 : decode cX2_hear 79 = .ok (.ifCond .eq 40, 3) := by decide +kernel
theorem dX2_hear_82 : decode cX2_hear 82 = .ok (.aload_n 2, 1) := by decide +kernel
theorem dX2_hear_83 : decode cX2_hear 83 = .ok (.getfield 54, 3) := by decide +kernel
theorem dX2_hear_86 : decode cX2_hear 86 = .ok (.i2l, 1) := by decide +kernel
theorem dX2_hear_87 : decode cX2_hear 87 = .ok (.lstore 4, 2) := by decide +kernel
theorem dX2_hear_89 : decode cX2_hear 89 = .ok (.aload_n 0, 1) := by decide +kernel
theorem dX2_hear_90 : decode cX2_hear 90 = .ok (.iload_n 1, 1) := by decide +kernel
theorem dX2_hear_91 : decode cX2_hear 91 = .ok (.ifCond .eq 8, 3) := by decide +kernel
theorem dX2_hear_94 : decode cX2_hear 94 = .ok (.lload 4, 2) := by decide +kernel
theorem dX2_hear_96 : decode cX2_hear 96 = .ok (.goto 7, 3) := by decide +kernel
theorem dX2_hear_99 : decode cX2_hear 99 = .ok (.lload 4, 2) := by decide +kernel
theorem dX2_hear_101 : decode cX2_hear 101 = .ok (.lconst 1, 1) := by decide +kernel
theorem dX2_hear_102 : decode cX2_hear 102 = .ok (.ladd, 1) := by decide +kernel
theorem dX2_hear_103 : decode cX2_hear 103 = .ok (.iload_n 1, 1) := by decide +kernel
theorem dX2_hear_104 : decode cX2_hear 104 = .ok (.ifCond .eq 8, 3) := by decide +kernel
theorem dX2_hear_107 : decode cX2_hear 107 = .ok (.lload 4, 2) := by decide +kernel
theorem dX2_hear_109 : decode cX2_hear 109 = .ok (.goto 7, 3) := by decide +kernel
theorem dX2_hear_112 : decode cX2_hear 112 = .ok (.aload_n 0, 1) := by decide +kernel
theorem dX2_hear_113 : decode cX2_hear 113 = .ok (.getfield 19, 3) := by decide +kernel
theorem dX2_hear_116 : decode cX2_hear 116 = .ok (.invokevirtual 57, 3) := by decide +kernel
theorem dX2_hear_119 : decode cX2_hear 119 = .ok (.return_, 1) := by decide +kernel
theorem dX2_narrow_0 : decode cX2_narrow 0 = .ok (.aload_n 0, 1) := by decide +kernel
theorem dX2_narrow_1 : decode cX2_narrow 1 = .ok (.aload_n 0, 1) := by decide +kernel
theorem dX2_narrow_2 : decode cX2_narrow 2 = .ok (.getfield 11, 3) := by decide +kernel
theorem dX2_narrow_5 : decode cX2_narrow 5 = .ok (.lload_n 1, 1) := by decide +kernel
theorem dX2_narrow_6 : decode cX2_narrow 6 = .ok (.invokestatic 61, 3) := by decide +kernel
theorem dX2_narrow_9 : decode cX2_narrow 9 = .ok (.putfield 11, 3) := by decide +kernel
theorem dX2_narrow_12 : decode cX2_narrow 12 = .ok (.aload_n 0, 1) := by decide +kernel
theorem dX2_narrow_13 : decode cX2_narrow 13 = .ok (.aload_n 0, 1) := by decide +kernel
theorem dX2_narrow_14 : decode cX2_narrow 14 = .ok (.getfield 19, 3) := by decide +kernel
theorem dX2_narrow_17 : decode cX2_narrow 17 = .ok (.lload_n 3, 1) := by decide +kernel
theorem dX2_narrow_18 : decode cX2_narrow 18 = .ok (.invokestatic 67, 3) := by decide +kernel
theorem dX2_narrow_21 : decode cX2_narrow 21 = .ok (.putfield 19, 3) := by decide +kernel
theorem dX2_narrow_24 : decode cX2_narrow 24 = .ok (.aload_n 0, 1) := by decide +kernel
theorem dX2_narrow_25 : decode cX2_narrow 25 = .ok (.iconst 1, 1) := by decide +kernel
theorem dX2_narrow_26 : decode cX2_narrow 26 = .ok (.putfield 70, 3) := by decide +kernel
theorem dX2_narrow_29 : decode cX2_narrow 29 = .ok (.return_, 1) := by decide +kernel
theorem dX3_init_0 : decode cX3_init 0 = .ok (.aload_n 0, 1) := by decide +kernel
theorem dX3_init_1 : decode cX3_init 1 = .ok (.invokespecial 3, 3) := by decide +kernel
theorem dX3_init_4 : decode cX3_init 4 = .ok (.aload_n 0, 1) := by decide +kernel
theorem dX3_init_5 : decode cX3_init 5 = .ok (.iload_n 1, 1) := by decide +kernel
theorem dX3_init_6 : decode cX3_init 6 = .ok (.putfield 9, 3) := by decide +kernel
theorem dX3_init_9 : decode cX3_init 9 = .ok (.aload_n 0, 1) := by decide +kernel
theorem dX3_init_10 : decode cX3_init 10 = .ok (.iload_n 2, 1) := by decide +kernel
theorem dX3_init_11 : decode cX3_init 11 = .ok (.putfield 15, 3) := by decide +kernel
theorem dX3_init_14 : decode cX3_init 14 = .ok (.aload_n 0, 1) := by decide +kernel
theorem dX3_init_15 : decode cX3_init 15 = .ok (.iload_n 3, 1) := by decide +kernel
theorem dX3_init_16 : decode cX3_init 16 = .ok (.putfield 18, 3) := by decide +kernel
theorem dX3_init_19 : decode cX3_init 19 = .ok (.return_, 1) := by decide +kernel
theorem dX3_startsWith_0 : decode cX3_startsWith 0 = .ok (.iload_n 1, 1) := by decide +kernel
theorem dX3_startsWith_1 : decode cX3_startsWith 1 = .ok (.ifCond .ne 5, 3) := by decide +kernel
theorem dX3_startsWith_4 : decode cX3_startsWith 4 = .ok (.iconst 1, 1) := by decide +kernel
theorem dX3_startsWith_5 : decode cX3_startsWith 5 = .ok (.ireturn, 1) := by decide +kernel
theorem dX3_startsWith_6 : decode cX3_startsWith 6 = .ok (.iload_n 1, 1) := by decide +kernel
theorem dX3_startsWith_7 : decode cX3_startsWith 7 = .ok (.sipush 729, 3) := by decide +kernel
theorem dX3_startsWith_10 : decode cX3_startsWith 10 = .ok (.irem, 1) := by decide +kernel
theorem dX3_startsWith_11 : decode cX3_startsWith 11 = .ok (.ifCond .ne 25, 3) := by decide +kernel
theorem dX3_startsWith_14 : decode cX3_startsWith 14 = .ok (.aload_n 0, 1) := by decide +kernel
theorem dX3_startsWith_15 : decode cX3_startsWith 15 = .ok (.getfield 18, 3) := by decide +kernel
theorem dX3_startsWith_18 : decode cX3_startsWith 18 = .ok (.sipush 729, 3) := by decide +kernel
theorem dX3_startsWith_21 : decode cX3_startsWith 21 = .ok (.idiv, 1) := by decide +kernel
theorem dX3_startsWith_22 : decode cX3_startsWith 22 = .ok (.iload_n 1, 1) := by decide +kernel
theorem dX3_startsWith_23 : decode cX3_startsWith 23 = .ok (.sipush 729, 3) := by decide +kernel
theorem dX3_startsWith_26 : decode cX3_startsWith 26 = .ok (.idiv, 1) := by decide +kernel
theorem dX3_startsWith_27 : decode cX3_startsWith 27 = .ok (.if_icmp .ne 7, 3) := by decide +kernel
theorem dX3_startsWith_30 : decode cX3_startsWith 30 = .ok (.iconst 1, 1) := by decide +kernel
theorem dX3_startsWith_31 : decode cX3_startsWith 31 = .ok (.goto 4, 3) := by decide +kernel
theorem dX3_startsWith_34 : decode cX3_startsWith 34 = .ok (.iconst 0, 1) := by decide +kernel
theorem dX3_startsWith_35 : decode cX3_startsWith 35 = .ok (.ireturn, 1) := by decide +kernel
theorem dX3_startsWith_36 : decode cX3_startsWith 36 = .ok (.iload_n 1, 1) := by decide +kernel
theorem dX3_startsWith_37 : decode cX3_startsWith 37 = .ok (.bipush 27, 2) := by decide +kernel
theorem dX3_startsWith_39 : decode cX3_startsWith 39 = .ok (.irem, 1) := by decide +kernel
theorem dX3_startsWith_40 : decode cX3_startsWith 40 = .ok (.ifCond .ne 23, 3) := by decide +kernel
theorem dX3_startsWith_43 : decode cX3_startsWith 43 = .ok (.aload_n 0, 1) := by decide +kernel
theorem dX3_startsWith_44 : decode cX3_startsWith 44 = .ok (.getfield 18, 3) := by decide +kernel
theorem dX3_startsWith_47 : decode cX3_startsWith 47 = .ok (.bipush 27, 2) := by decide +kernel
theorem dX3_startsWith_49 : decode cX3_startsWith 49 = .ok (.idiv, 1) := by decide +kernel
theorem dX3_startsWith_50 : decode cX3_startsWith 50 = .ok (.iload_n 1, 1) := by decide +kernel
theorem dX3_startsWith_51 : decode cX3_startsWith 51 = .ok (.bipush 27, 2) := by decide +kernel
theorem dX3_startsWith_53 : decode cX3_startsWith 53 = .ok (.idiv, 1) := by decide +kernel
theorem dX3_startsWith_54 : decode cX3_startsWith 54 = .ok (.if_icmp .ne 7, 3) := by decide +kernel
theorem dX3_startsWith_57 : decode cX3_startsWith 57 = .ok (.iconst 1, 1) := by decide +kernel
theorem dX3_startsWith_58 : decode cX3_startsWith 58 = .ok (.goto 4, 3) := by decide +kernel
theorem dX3_startsWith_61 : decode cX3_startsWith 61 = .ok (.iconst 0, 1) := by decide +kernel
theorem dX3_startsWith_62 : decode cX3_startsWith 62 = .ok (.ireturn, 1) := by decide +kernel
theorem dX3_startsWith_63 : decode cX3_startsWith 63 = .ok (.aload_n 0, 1) := by decide +kernel
theorem dX3_startsWith_64 : decode cX3_startsWith 64 = .ok (.getfield 18, 3) := by decide +kernel
theorem dX3_startsWith_67 : decode cX3_startsWith 67 = .ok (.iload_n 1, 1) := by decide +kernel
theorem dX3_startsWith_68 : decode cX3_startsWith 68 = .ok (.if_icmp .ne 7, 3) := by decide +kernel
theorem dX3_startsWith_71 : decode cX3_startsWith 71 = .ok (.iconst 1, 1) := by decide +kernel
theorem dX3_startsWith_72 : decode cX3_startsWith 72 = .ok (.goto 4, 3) := by decide +kernel
theorem dX3_startsWith_75 : decode cX3_startsWith 75 = .ok (.iconst 0, 1) := by decide +kernel
theorem dX3_startsWith_76 : decode cX3_startsWith 76 = .ok (.ireturn, 1) := by decide +kernel
theorem dX4_init_0 : decode cX4_init 0 = .ok (.aload_n 0, 1) := by decide +kernel
theorem dX4_init_1 : decode cX4_init 1 = .ok (.invokespecial 1, 3) := by decide +kernel
theorem dX4_init_4 : decode cX4_init 4 = .ok (.aload_n 0, 1) := by decide +kernel
theorem dX4_init_5 : decode cX4_init 5 = .ok (.iload_n 1, 1) := by decide +kernel
theorem dX4_init_6 : decode cX4_init 6 = .ok (.putfield 7, 3) := by decide +kernel
theorem dX4_init_9 : decode cX4_init 9 = .ok (.aload_n 0, 1) := by decide +kernel
theorem dX4_init_10 : decode cX4_init 10 = .ok (.iload_n 2, 1) := by decide +kernel
theorem dX4_init_11 : decode cX4_init 11 = .ok (.putfield 13, 3) := by decide +kernel
theorem dX4_init_14 : decode cX4_init 14 = .ok (.return_, 1) := by decide +kernel
theorem dX4_keeps_0 : decode cX4_keeps 0 = .ok (.aload_n 0, 1) := by decide +kernel
theorem dX4_keeps_1 : decode cX4_keeps 1 = .ok (.getfield 17, 3) := by decide +kernel
theorem dX4_keeps_4 : decode cX4_keeps 4 = .ok (.ifnull 18, 3) := by decide +kernel
theorem dX4_keeps_7 : decode cX4_keeps 7 = .ok (.aload_n 0, 1) := by decide +kernel
theorem dX4_keeps_8 : decode cX4_keeps 8 = .ok (.getfield 17, 3) := by decide +kernel
theorem dX4_keeps_11 : decode cX4_keeps 11 = .ok (.getfield 21, 3) := by decide +kernel
theorem dX4_keeps_14 : decode cX4_keeps 14 = .ok (.aload_n 1, 1) := by decide +kernel
theorem dX4_keeps_15 : decode cX4_keeps 15 = .ok (.getfield 21, 3) := by decide +kernel
theorem dX4_keeps_18 : decode cX4_keeps 18 = .ok (.lcmp, 1) := by decide +kernel
theorem dX4_keeps_19 : decode cX4_keeps 19 = .ok (.ifCond .eq 8, 3) := by decide +kernel
theorem dX4_keeps_22 : decode cX4_keeps 22 = .ok (.aload_n 0, 1) := by decide +kernel
theorem dX4_keeps_23 : decode cX4_keeps 23 = .ok (.iconst 0, 1) := by decide +kernel
theorem dX4_keeps_24 : decode cX4_keeps 24 = .ok (.putfield 27, 3) := by decide +kernel
theorem dX4_keeps_27 : decode cX4_keeps 27 = .ok (.aload_n 0, 1) := by decide +kernel
theorem dX4_keeps_28 : decode cX4_keeps 28 = .ok (.aload_n 1, 1) := by decide +kernel
theorem dX4_keeps_29 : decode cX4_keeps 29 = .ok (.putfield 17, 3) := by decide +kernel
theorem dX4_keeps_32 : decode cX4_keeps 32 = .ok (.aload_n 0, 1) := by decide +kernel
theorem dX4_keeps_33 : decode cX4_keeps 33 = .ok (.getfield 27, 3) := by decide +kernel
theorem dX4_keeps_36 : decode cX4_keeps 36 = .ok (.ifCond .eq 5, 3) := by decide +kernel
theorem dX4_keeps_39 : decode cX4_keeps 39 = .ok (.iconst 0, 1) := by decide +kernel
theorem dX4_keeps_40 : decode cX4_keeps 40 = .ok (.ireturn, 1) := by decide +kernel
theorem dX4_keeps_41 : decode cX4_keeps 41 = .ok (.aload_n 0, 1) := by decide +kernel
theorem dX4_keeps_42 : decode cX4_keeps 42 = .ok (.aload_n 1, 1) := by decide +kernel
theorem dX4_keeps_43 : decode cX4_keeps 43 = .ok (.getfield 30, 3) := by decide +kernel
theorem dX4_keeps_46 : decode cX4_keeps 46 = .ok (.aload_n 0, 1) := by decide +kernel
theorem dX4_keeps_47 : decode cX4_keeps 47 = .ok (.getfield 7, 3) := by decide +kernel
theorem dX4_keeps_50 : decode cX4_keeps 50 = .ok (.if_icmp .gt 7, 3) := by decide +kernel
theorem dX4_keeps_53 : decode cX4_keeps 53 = .ok (.iconst 1, 1) := by decide +kernel
theorem dX4_keeps_54 : decode cX4_keeps 54 = .ok (.goto 4, 3) := by decide +kernel
theorem dX4_keeps_57 : decode cX4_keeps 57 = .ok (.iconst 0, 1) := by decide +kernel
theorem dX4_keeps_58 : decode cX4_keeps 58 = .ok (.putfield 27, 3) := by decide +kernel
theorem dX4_keeps_61 : decode cX4_keeps 61 = .ok (.aload_n 0, 1) := by decide +kernel
theorem dX4_keeps_62 : decode cX4_keeps 62 = .ok (.getfield 27, 3) := by decide +kernel
theorem dX4_keeps_65 : decode cX4_keeps 65 = .ok (.ifCond .eq 17, 3) := by decide +kernel
theorem dX4_keeps_68 : decode cX4_keeps 68 = .ok (.aload_n 0, 1) := by decide +kernel
theorem dX4_keeps_69 : decode cX4_keeps 69 = .ok (.getfield 13, 3) := by decide +kernel
theorem dX4_keeps_72 : decode cX4_keeps 72 = .ok (.ifCond .eq 10, 3) := by decide +kernel
theorem dX4_keeps_75 : decode cX4_keeps 75 = .ok (.aload_n 1, 1) := by decide +kernel
theorem dX4_keeps_76 : decode cX4_keeps 76 = .ok (.getfield 33, 3) := by decide +kernel
theorem dX4_keeps_79 : decode cX4_keeps 79 = .ok (.ifnull 7, 3) := by decide +kernel
theorem dX4_keeps_82 : decode cX4_keeps 82 = .ok (.iconst 1, 1) := by decide +kernel
theorem dX4_keeps_83 : decode cX4_keeps 83 = .ok (.goto 4, 3) := by decide +kernel
theorem dX4_keeps_86 : decode cX4_keeps 86 = .ok (.iconst 0, 1) := by decide +kernel
theorem dX4_keeps_87 : decode cX4_keeps 87 = .ok (.ireturn, 1) := by decide +kernel
theorem dX5_init_0 : decode cX5_init 0 = .ok (.aload_n 0, 1) := by decide +kernel
theorem dX5_init_1 : decode cX5_init 1 = .ok (.invokespecial 3, 3) := by decide +kernel
theorem dX5_init_4 : decode cX5_init 4 = .ok (.aload_n 0, 1) := by decide +kernel
theorem dX5_init_5 : decode cX5_init 5 = .ok (.iload_n 1, 1) := by decide +kernel
theorem dX5_init_6 : decode cX5_init 6 = .ok (.putfield 9, 3) := by decide +kernel
theorem dX5_init_9 : decode cX5_init 9 = .ok (.aload_n 0, 1) := by decide +kernel
theorem dX5_init_10 : decode cX5_init 10 = .ok (.iload_n 2, 1) := by decide +kernel
theorem dX5_init_11 : decode cX5_init 11 = .ok (.putfield 15, 3) := by decide +kernel
theorem dX5_init_14 : decode cX5_init 14 = .ok (.aload_n 0, 1) := by decide +kernel
theorem dX5_init_15 : decode cX5_init 15 = .ok (.aload_n 3, 1) := by decide +kernel
theorem dX5_init_16 : decode cX5_init 16 = .ok (.putfield 18, 3) := by decide +kernel
theorem dX5_init_19 : decode cX5_init 19 = .ok (.aload_n 0, 1) := by decide +kernel
theorem dX5_init_20 : decode cX5_init 20 = .ok (.aload_n 3, 1) := by decide +kernel
theorem dX5_init_21 : decode cX5_init 21 = .ok (.putfield 22, 3) := by decide +kernel
theorem dX5_init_24 : decode cX5_init 24 = .ok (.return_, 1) := by decide +kernel
theorem dX5_append_0 : decode cX5_append 0 = .ok (.aload_n 1, 1) := by decide +kernel
theorem dX5_append_1 : decode cX5_append 1 = .ok (.aload_n 0, 1) := by decide +kernel
theorem dX5_append_2 : decode cX5_append 2 = .ok (.putfield 25, 3) := by decide +kernel
theorem dX5_append_5 : decode cX5_append 5 = .ok (.aload_n 0, 1) := by decide +kernel
theorem dX5_append_6 : decode cX5_append 6 = .ok (.aload_n 1, 1) := by decide +kernel
theorem dX5_append_7 : decode cX5_append 7 = .ok (.putfield 22, 3) := by decide +kernel
theorem dX5_append_10 : decode cX5_append 10 = .ok (.aload_n 0, 1) := by decide +kernel
theorem dX5_append_11 : decode cX5_append 11 = .ok (.dup, 1) := by decide +kernel
theorem dX5_append_12 : decode cX5_append 12 = .ok (.getfield 31, 3) := by decide +kernel
theorem dX5_append_15 : decode cX5_append 15 = .ok (.iconst 1, 1) := by decide +kernel
theorem dX5_append_16 : decode cX5_append 16 = .ok (.iadd, 1) := by decide +kernel
theorem dX5_append_17 : decode cX5_append 17 = .ok (.putfield 31, 3) := by decide +kernel
theorem dX5_append_20 : decode cX5_append 20 = .ok (.return_, 1) := by decide +kernel
theorem dX5_isFullBefore_0 : decode cX5_isFullBefore 0 = .ok (.aload_n 0, 1) := by decide +kernel
theorem dX5_isFullBefore_1 : decode cX5_isFullBefore 1 = .ok (.getfield 31, 3) := by decide +kernel
theorem dX5_isFullBefore_4 : decode cX5_isFullBefore 4 = .ok (.bipush 12, 2) := by decide +kernel
theorem dX5_isFullBefore_6 : decode cX5_isFullBefore 6 = .ok (.if_icmp .lt 22, 3) := by decide +kernel
theorem dX5_isFullBefore_9 : decode cX5_isFullBefore 9 = .ok (.aload_n 0, 1) := by decide +kernel
theorem dX5_isFullBefore_10 : decode cX5_isFullBefore 10 = .ok (.getfield 22, 3) := by decide +kernel
theorem dX5_isFullBefore_13 : decode cX5_isFullBefore 13 = .ok (.getfield 34, 3) := by decide +kernel
theorem dX5_isFullBefore_16 : decode cX5_isFullBefore 16 = .ok (.aload_n 1, 1) := by decide +kernel
theorem dX5_isFullBefore_17 : decode cX5_isFullBefore 17 = .ok (.getfield 34, 3) := by decide +kernel
theorem dX5_isFullBefore_20 : decode cX5_isFullBefore 20 = .ok (.lcmp, 1) := by decide +kernel
theorem dX5_isFullBefore_21 : decode cX5_isFullBefore 21 = .ok (.ifCond .eq 7, 3) := by decide +kernel
theorem dX5_isFullBefore_24 : decode cX5_isFullBefore 24 = .ok (.iconst 1, 1) := by decide +kernel
theorem dX5_isFullBefore_25 : decode cX5_isFullBefore 25 = .ok (.goto 4, 3) := by decide +kernel
theorem dX5_isFullBefore_28 : decode cX5_isFullBefore 28 = .ok (.iconst 0, 1) := by decide +kernel
theorem dX5_isFullBefore_29 : decode cX5_isFullBefore 29 = .ok (.ireturn, 1) := by decide +kernel
theorem dX5_meets_0 : decode cX5_meets 0 = .ok (.aload_n 0, 1) := by decide +kernel
theorem dX5_meets_1 : decode cX5_meets 1 = .ok (.getfield 22, 3) := by decide +kernel
theorem dX5_meets_4 : decode cX5_meets 4 = .ok (.getfield 34, 3) := by decide +kernel
theorem dX5_meets_7 : decode cX5_meets 7 = .ok (.aload_n 1, 1) := by decide +kernel
theorem dX5_meets_8 : decode cX5_meets 8 = .ok (.getfield 18, 3) := by decide +kernel
theorem dX5_meets_11 : decode cX5_meets 11 = .ok (.getfield 34, 3) := by decide +kernel
theorem dX5_meets_14 : decode cX5_meets 14 = .ok (.lcmp, 1) := by decide +kernel
theorem dX5_meets_15 : decode cX5_meets 15 = .ok (.ifCond .lt 25, 3) := by decide +kernel
theorem dX5_meets_18 : decode cX5_meets 18 = .ok (.aload_n 1, 1) := by decide +kernel
theorem dX5_meets_19 : decode cX5_meets 19 = .ok (.getfield 22, 3) := by decide +kernel
theorem dX5_meets_22 : decode cX5_meets 22 = .ok (.getfield 34, 3) := by decide +kernel
theorem dX5_meets_25 : decode cX5_meets 25 = .ok (.aload_n 0, 1) := by decide +kernel
theorem dX5_meets_26 : decode cX5_meets 26 = .ok (.getfield 18, 3) := by decide +kernel
theorem dX5_meets_29 : decode cX5_meets 29 = .ok (.getfield 34, 3) := by decide +kernel
theorem dX5_meets_32 : decode cX5_meets 32 = .ok (.lcmp, 1) := by decide +kernel
theorem dX5_meets_33 : decode cX5_meets 33 = .ok (.ifCond .lt 7, 3) := by decide +kernel
theorem dX5_meets_36 : decode cX5_meets 36 = .ok (.iconst 1, 1) := by decide +kernel
theorem dX5_meets_37 : decode cX5_meets 37 = .ok (.goto 4, 3) := by decide +kernel
theorem dX5_meets_40 : decode cX5_meets 40 = .ok (.iconst 0, 1) := by decide +kernel
theorem dX5_meets_41 : decode cX5_meets 41 = .ok (.ireturn, 1) := by decide +kernel
theorem dX5_tell_0 : decode cX5_tell 0 = .ok (.iload_n 1, 1) := by decide +kernel
theorem dX5_tell_1 : decode cX5_tell 1 = .ok (.tableswitch 105 0 7 #[47, 52, 57, 65, 73, 81, 89, 97], 47) := by decide +kernel
theorem dX5_tell_48 : decode cX5_tell 48 = .ok (.aload_n 0, 1) := by decide +kernel
theorem dX5_tell_49 : decode cX5_tell 49 = .ok (.getfield 9, 3) := by decide +kernel
theorem dX5_tell_52 : decode cX5_tell 52 = .ok (.ireturn, 1) := by decide +kernel
theorem dX5_tell_53 : decode cX5_tell 53 = .ok (.aload_n 0, 1) := by decide +kernel
theorem dX5_tell_54 : decode cX5_tell 54 = .ok (.getfield 31, 3) := by decide +kernel
theorem dX5_tell_57 : decode cX5_tell 57 = .ok (.ireturn, 1) := by decide +kernel
theorem dX5_tell_58 : decode cX5_tell 58 = .ok (.aload_n 0, 1) := by decide +kernel
theorem dX5_tell_59 : decode cX5_tell 59 = .ok (.getfield 18, 3) := by decide +kernel
theorem dX5_tell_62 : decode cX5_tell 62 = .ok (.getfield 38, 3) := by decide +kernel
theorem dX5_tell_65 : decode cX5_tell 65 = .ok (.ireturn, 1) := by decide +kernel
theorem dX5_tell_66 : decode cX5_tell 66 = .ok (.aload_n 0, 1) := by decide +kernel
theorem dX5_tell_67 : decode cX5_tell 67 = .ok (.getfield 18, 3) := by decide +kernel
theorem dX5_tell_70 : decode cX5_tell 70 = .ok (.getfield 41, 3) := by decide +kernel
theorem dX5_tell_73 : decode cX5_tell 73 = .ok (.ireturn, 1) := by decide +kernel
theorem dX5_tell_74 : decode cX5_tell 74 = .ok (.aload_n 0, 1) := by decide +kernel
theorem dX5_tell_75 : decode cX5_tell 75 = .ok (.getfield 18, 3) := by decide +kernel
theorem dX5_tell_78 : decode cX5_tell 78 = .ok (.getfield 44, 3) := by decide +kernel
theorem dX5_tell_81 : decode cX5_tell 81 = .ok (.ireturn, 1) := by decide +kernel
theorem dX5_tell_82 : decode cX5_tell 82 = .ok (.aload_n 0, 1) := by decide +kernel
theorem dX5_tell_83 : decode cX5_tell 83 = .ok (.getfield 22, 3) := by decide +kernel
theorem dX5_tell_86 : decode cX5_tell 86 = .ok (.getfield 38, 3) := by decide +kernel
theorem dX5_tell_89 : decode cX5_tell 89 = .ok (.ireturn, 1) := by decide +kernel
theorem dX5_tell_90 : decode cX5_tell 90 = .ok (.aload_n 0, 1) := by decide +kernel
theorem dX5_tell_91 : decode cX5_tell 91 = .ok (.getfield 22, 3) := by decide +kernel
theorem dX5_tell_94 : decode cX5_tell 94 = .ok (.getfield 41, 3) := by decide +kernel
theorem dX5_tell_97 : decode cX5_tell 97 = .ok (.ireturn, 1) := by decide +kernel
theorem dX5_tell_98 : decode cX5_tell 98 = .ok (.aload_n 0, 1) := by decide +kernel
theorem dX5_tell_99 : decode cX5_tell 99 = .ok (.getfield 22, 3) := by decide +kernel
theorem dX5_tell_102 : decode cX5_tell 102 = .ok (.getfield 44, 3) := by decide +kernel
theorem dX5_tell_105 : decode cX5_tell 105 = .ok (.ireturn, 1) := by decide +kernel
theorem dX5_tell_106 : decode cX5_tell 106 = .ok (.iconst (-1), 1) := by decide +kernel
theorem dX5_tell_107 : decode cX5_tell 107 = .ok (.ireturn, 1) := by decide +kernel
theorem dX6_init_0 : decode cX6_init 0 = .ok (.aload_n 0, 1) := by decide +kernel
theorem dX6_init_1 : decode cX6_init 1 = .ok (.invokespecial 3, 3) := by decide +kernel
theorem dX6_init_4 : decode cX6_init 4 = .ok (.aload_n 0, 1) := by decide +kernel
theorem dX6_init_5 : decode cX6_init 5 = .ok (.sipush 500, 3) := by decide +kernel
theorem dX6_init_8 : decode cX6_init 8 = .ok (.anewarray 9, 3) := by decide +kernel
theorem dX6_init_11 : decode cX6_init 11 = .ok (.putfield 11, 3) := by decide +kernel
theorem dX6_init_14 : decode cX6_init 14 = .ok (.aload_n 0, 1) := by decide +kernel
theorem dX6_init_15 : decode cX6_init 15 = .ok (.new 17, 3) := by decide +kernel
theorem dX6_init_18 : decode cX6_init 18 = .ok (.dup, 1) := by decide +kernel
theorem dX6_init_19 : decode cX6_init 19 = .ok (.invokespecial 19, 3) := by decide +kernel
theorem dX6_init_22 : decode cX6_init 22 = .ok (.putfield 20, 3) := by decide +kernel
theorem dX6_init_25 : decode cX6_init 25 = .ok (.return_, 1) := by decide +kernel
theorem dX6_hasRoomFor_0 : decode cX6_hasRoomFor 0 = .ok (.aload_n 0, 1) := by decide +kernel
theorem dX6_hasRoomFor_1 : decode cX6_hasRoomFor 1 = .ok (.getfield 24, 3) := by decide +kernel
theorem dX6_hasRoomFor_4 : decode cX6_hasRoomFor 4 = .ok (.iload_n 1, 1) := by decide +kernel
theorem dX6_hasRoomFor_5 : decode cX6_hasRoomFor 5 = .ok (.iadd, 1) := by decide +kernel
theorem dX6_hasRoomFor_6 : decode cX6_hasRoomFor 6 = .ok (.sipush 500, 3) := by decide +kernel
theorem dX6_hasRoomFor_9 : decode cX6_hasRoomFor 9 = .ok (.if_icmp .gt 7, 3) := by decide +kernel
theorem dX6_hasRoomFor_12 : decode cX6_hasRoomFor 12 = .ok (.iconst 1, 1) := by decide +kernel
theorem dX6_hasRoomFor_13 : decode cX6_hasRoomFor 13 = .ok (.goto 4, 3) := by decide +kernel
theorem dX6_hasRoomFor_16 : decode cX6_hasRoomFor 16 = .ok (.iconst 0, 1) := by decide +kernel
theorem dX6_hasRoomFor_17 : decode cX6_hasRoomFor 17 = .ok (.ireturn, 1) := by decide +kernel
theorem dX6_add_0 : decode cX6_add 0 = .ok (.aload_n 0, 1) := by decide +kernel
theorem dX6_add_1 : decode cX6_add 1 = .ok (.iconst 1, 1) := by decide +kernel
theorem dX6_add_2 : decode cX6_add 2 = .ok (.invokevirtual 28, 3) := by decide +kernel
theorem dX6_add_5 : decode cX6_add 5 = .ok (.ifCond .ne 4, 3) := by decide +kernel
theorem dX6_add_8 : decode cX6_add 8 = .ok (.return_, 1) := by decide +kernel
theorem dX6_add_9 : decode cX6_add 9 = .ok (.aload_n 0, 1) := by decide +kernel
theorem dX6_add_10 : decode cX6_add 10 = .ok (.aload_n 1, 1) := by decide +kernel
theorem dX6_add_11 : decode cX6_add 11 = .ok (.getfield 32, 3) := by decide +kernel
theorem dX6_add_14 : decode cX6_add 14 = .ok (.aload_n 1, 1) := by decide +kernel
theorem dX6_add_15 : decode cX6_add 15 = .ok (.getfield 36, 3) := by decide +kernel
theorem dX6_add_18 : decode cX6_add 18 = .ok (.invokevirtual 39, 3) := by decide +kernel
theorem dX6_add_21 : decode cX6_add 21 = .ok (.istore_n 2, 1) := by decide +kernel
theorem dX6_add_22 : decode cX6_add 22 = .ok (.aload_n 0, 1) := by decide +kernel
theorem dX6_add_23 : decode cX6_add 23 = .ok (.getfield 24, 3) := by decide +kernel
theorem dX6_add_26 : decode cX6_add 26 = .ok (.istore_n 3, 1) := by decide +kernel
theorem dX6_add_27 : decode cX6_add 27 = .ok (.iload_n 3, 1) := by decide +kernel
theorem dX6_add_28 : decode cX6_add 28 = .ok (.iload_n 2, 1) := by decide +kernel
theorem dX6_add_29 : decode cX6_add 29 = .ok (.if_icmp .le 23, 3) := by decide +kernel
theorem dX6_add_32 : decode cX6_add 32 = .ok (.aload_n 0, 1) := by decide +kernel
theorem dX6_add_33 : decode cX6_add 33 = .ok (.getfield 11, 3) := by decide +kernel
theorem dX6_add_36 : decode cX6_add 36 = .ok (.iload_n 3, 1) := by decide +kernel
theorem dX6_add_37 : decode cX6_add 37 = .ok (.aload_n 0, 1) := by decide +kernel
theorem dX6_add_38 : decode cX6_add 38 = .ok (.getfield 11, 3) := by decide +kernel
theorem dX6_add_41 : decode cX6_add 41 = .ok (.iload_n 3, 1) := by decide +kernel
theorem dX6_add_42 : decode cX6_add 42 = .ok (.iconst 1, 1) := by decide +kernel
theorem dX6_add_43 : decode cX6_add 43 = .ok (.isub, 1) := by decide +kernel
theorem dX6_add_44 : decode cX6_add 44 = .ok (.aaload, 1) := by decide +kernel
theorem dX6_add_45 : decode cX6_add 45 = .ok (.aastore, 1) := by decide +kernel
theorem dX6_add_46 : decode cX6_add 46 = .ok (.iinc 3 (-1), 3) := by decide +kernel
theorem dX6_add_49 : decode cX6_add 49 = .ok (.goto (-22), 3) := by decide +kernel
theorem dX6_add_52 : decode cX6_add 52 = .ok (.aload_n 0, 1) := by decide +kernel
theorem dX6_add_53 : decode cX6_add 53 = .ok (.getfield 11, 3) := by decide +kernel
theorem dX6_add_56 : decode cX6_add 56 = .ok (.iload_n 2, 1) := by decide +kernel
theorem dX6_add_57 : decode cX6_add 57 = .ok (.aload_n 1, 1) := by decide +kernel
theorem dX6_add_58 : decode cX6_add 58 = .ok (.aastore, 1) := by decide +kernel
theorem dX6_add_59 : decode cX6_add 59 = .ok (.aload_n 0, 1) := by decide +kernel
theorem dX6_add_60 : decode cX6_add 60 = .ok (.dup, 1) := by decide +kernel
theorem dX6_add_61 : decode cX6_add 61 = .ok (.getfield 24, 3) := by decide +kernel
theorem dX6_add_64 : decode cX6_add 64 = .ok (.iconst 1, 1) := by decide +kernel
theorem dX6_add_65 : decode cX6_add 65 = .ok (.iadd, 1) := by decide +kernel
theorem dX6_add_66 : decode cX6_add 66 = .ok (.putfield 24, 3) := by decide +kernel
theorem dX6_add_69 : decode cX6_add 69 = .ok (.aload_n 0, 1) := by decide +kernel
theorem dX6_add_70 : decode cX6_add 70 = .ok (.dup, 1) := by decide +kernel
theorem dX6_add_71 : decode cX6_add 71 = .ok (.getfield 43, 3) := by decide +kernel
theorem dX6_add_74 : decode cX6_add 74 = .ok (.iconst 1, 1) := by decide +kernel
theorem dX6_add_75 : decode cX6_add 75 = .ok (.iadd, 1) := by decide +kernel
theorem dX6_add_76 : decode cX6_add 76 = .ok (.putfield 43, 3) := by decide +kernel
theorem dX6_add_79 : decode cX6_add 79 = .ok (.return_, 1) := by decide +kernel
theorem dX6_countBefore_0 : decode cX6_countBefore 0 = .ok (.iconst 0, 1) := by decide +kernel
theorem dX6_countBefore_1 : decode cX6_countBefore 1 = .ok (.istore 4, 2) := by decide +kernel
theorem dX6_countBefore_3 : decode cX6_countBefore 3 = .ok (.sipush 256, 3) := by decide +kernel
theorem dX6_countBefore_6 : decode cX6_countBefore 6 = .ok (.istore 5, 2) := by decide +kernel
theorem dX6_countBefore_8 : decode cX6_countBefore 8 = .ok (.iload 5, 2) := by decide +kernel
theorem dX6_countBefore_10 : decode cX6_countBefore 10 = .ok (.ifCond .le 49, 3) := by decide +kernel
theorem dX6_countBefore_13 : decode cX6_countBefore 13 = .ok (.iload 4, 2) := by decide +kernel
theorem dX6_countBefore_15 : decode cX6_countBefore 15 = .ok (.iload 5, 2) := by decide +kernel
theorem dX6_countBefore_17 : decode cX6_countBefore 17 = .ok (.iadd, 1) := by decide +kernel
theorem dX6_countBefore_18 : decode cX6_countBefore 18 = .ok (.istore 6, 2) := by decide +kernel
theorem dX6_countBefore_20 : decode cX6_countBefore 20 = .ok (.iload 6, 2) := by decide +kernel
theorem dX6_countBefore_22 : decode cX6_countBefore 22 = .ok (.aload_n 0, 1) := by decide +kernel
theorem dX6_countBefore_23 : decode cX6_countBefore 23 = .ok (.getfield 24, 3) := by decide +kernel
theorem dX6_countBefore_26 : decode cX6_countBefore 26 = .ok (.if_icmp .gt 24, 3) := by decide +kernel
theorem dX6_countBefore_29 : decode cX6_countBefore 29 = .ok (.aload_n 0, 1) := by decide +kernel
theorem dX6_countBefore_30 : decode cX6_countBefore 30 = .ok (.getfield 11, 3) := by decide +kernel
theorem dX6_countBefore_33 : decode cX6_countBefore 33 = .ok (.iload 6, 2) := by decide +kernel
theorem dX6_countBefore_35 : decode cX6_countBefore 35 = .ok (.iconst 1, 1) := by decide +kernel
theorem dX6_countBefore_36 : decode cX6_countBefore 36 = .ok (.isub, 1) := by decide +kernel
theorem dX6_countBefore_37 : decode cX6_countBefore 37 = .ok (.aaload, 1) := by decide +kernel
theorem dX6_countBefore_38 : decode cX6_countBefore 38 = .ok (.lload_n 1, 1) := by decide +kernel
theorem dX6_countBefore_39 : decode cX6_countBefore 39 = .ok (.iload_n 3, 1) := by decide +kernel
theorem dX6_countBefore_40 : decode cX6_countBefore 40 = .ok (.invokevirtual 46, 3) := by decide +kernel
theorem dX6_countBefore_43 : decode cX6_countBefore 43 = .ok (.ifCond .eq 7, 3) := by decide +kernel
theorem dX6_countBefore_46 : decode cX6_countBefore 46 = .ok (.iload 6, 2) := by decide +kernel
theorem dX6_countBefore_48 : decode cX6_countBefore 48 = .ok (.istore 4, 2) := by decide +kernel
theorem dX6_countBefore_50 : decode cX6_countBefore 50 = .ok (.iload 5, 2) := by decide +kernel
theorem dX6_countBefore_52 : decode cX6_countBefore 52 = .ok (.iconst 2, 1) := by decide +kernel
theorem dX6_countBefore_53 : decode cX6_countBefore 53 = .ok (.idiv, 1) := by decide +kernel
theorem dX6_countBefore_54 : decode cX6_countBefore 54 = .ok (.istore 5, 2) := by decide +kernel
theorem dX6_countBefore_56 : decode cX6_countBefore 56 = .ok (.goto (-48), 3) := by decide +kernel
theorem dX6_countBefore_59 : decode cX6_countBefore 59 = .ok (.iload 4, 2) := by decide +kernel
theorem dX6_countBefore_61 : decode cX6_countBefore 61 = .ok (.ireturn, 1) := by decide +kernel
theorem dX6_seenRow_0 : decode cX6_seenRow 0 = .ok (.iconst 0, 1) := by decide +kernel
theorem dX6_seenRow_1 : decode cX6_seenRow 1 = .ok (.iconst 0, 1) := by decide +kernel
theorem dX6_seenRow_2 : decode cX6_seenRow 2 = .ok (.iload_n 1, 1) := by decide +kernel
theorem dX6_seenRow_3 : decode cX6_seenRow 3 = .ok (.invokestatic 50, 3) := by decide +kernel
theorem dX6_seenRow_6 : decode cX6_seenRow 6 = .ok (.lstore_n 3, 1) := by decide +kernel
theorem dX6_seenRow_7 : decode cX6_seenRow 7 = .ok (.aload_n 0, 1) := by decide +kernel
theorem dX6_seenRow_8 : decode cX6_seenRow 8 = .ok (.lload_n 3, 1) := by decide +kernel
theorem dX6_seenRow_9 : decode cX6_seenRow 9 = .ok (.iload_n 2, 1) := by decide +kernel
theorem dX6_seenRow_10 : decode cX6_seenRow 10 = .ok (.invokevirtual 39, 3) := by decide +kernel
theorem dX6_seenRow_13 : decode cX6_seenRow 13 = .ok (.istore 5, 2) := by decide +kernel
theorem dX6_seenRow_15 : decode cX6_seenRow 15 = .ok (.iload 5, 2) := by decide +kernel
theorem dX6_seenRow_17 : decode cX6_seenRow 17 = .ok (.aload_n 0, 1) := by decide +kernel
theorem dX6_seenRow_18 : decode cX6_seenRow 18 = .ok (.getfield 24, 3) := by decide +kernel
theorem dX6_seenRow_21 : decode cX6_seenRow 21 = .ok (.if_icmp .ge 28, 3) := by decide +kernel
theorem dX6_seenRow_24 : decode cX6_seenRow 24 = .ok (.aload_n 0, 1) := by decide +kernel
theorem dX6_seenRow_25 : decode cX6_seenRow 25 = .ok (.getfield 11, 3) := by decide +kernel
theorem dX6_seenRow_28 : decode cX6_seenRow 28 = .ok (.iload 5, 2) := by decide +kernel
theorem dX6_seenRow_30 : decode cX6_seenRow 30 = .ok (.aaload, 1) := by decide +kernel
theorem dX6_seenRow_31 : decode cX6_seenRow 31 = .ok (.getfield 32, 3) := by decide +kernel
theorem dX6_seenRow_34 : decode cX6_seenRow 34 = .ok (.lload_n 3, 1) := by decide +kernel
theorem dX6_seenRow_35 : decode cX6_seenRow 35 = .ok (.lcmp, 1) := by decide +kernel
theorem dX6_seenRow_36 : decode cX6_seenRow 36 = .ok (.ifCond .ne 13, 3) := by decide +kernel
theorem dX6_seenRow_39 : decode cX6_seenRow 39 = .ok (.aload_n 0, 1) := by decide +kernel
theorem dX6_seenRow_40 : decode cX6_seenRow 40 = .ok (.getfield 11, 3) := by decide +kernel
theorem dX6_seenRow_43 : decode cX6_seenRow 43 = .ok (.iload 5, 2) := by decide +kernel
theorem dX6_seenRow_45 : decode cX6_seenRow 45 = .ok (.aaload, 1) := by decide +kernel
theorem dX6_seenRow_46 : decode cX6_seenRow 46 = .ok (.goto 4, 3) := by decide +kernel
theorem dX6_seenRow_49 : decode cX6_seenRow 49 = .ok (.aconst_null, 1) := by decide +kernel
theorem dX6_seenRow_50 : decode cX6_seenRow 50 = .ok (.areturn, 1) := by decide +kernel
theorem dX6_rowAt_0 : decode cX6_rowAt 0 = .ok (.aload_n 0, 1) := by decide +kernel
theorem dX6_rowAt_1 : decode cX6_rowAt 1 = .ok (.iload_n 1, 1) := by decide +kernel
theorem dX6_rowAt_2 : decode cX6_rowAt 2 = .ok (.iload_n 2, 1) := by decide +kernel
theorem dX6_rowAt_3 : decode cX6_rowAt 3 = .ok (.invokevirtual 54, 3) := by decide +kernel
theorem dX6_rowAt_6 : decode cX6_rowAt 6 = .ok (.astore_n 3, 1) := by decide +kernel
theorem dX6_rowAt_7 : decode cX6_rowAt 7 = .ok (.aload_n 3, 1) := by decide +kernel
theorem dX6_rowAt_8 : decode cX6_rowAt 8 = .ok (.ifnonnull 7, 3) := by decide +kernel
theorem dX6_rowAt_11 : decode cX6_rowAt 11 = .ok (.aconst_null, 1) := by decide +kernel
theorem dX6_rowAt_12 : decode cX6_rowAt 12 = .ok (.goto 7, 3) := by decide +kernel
theorem dX6_rowAt_15 : decode cX6_rowAt 15 = .ok (.aload_n 3, 1) := by decide +kernel
theorem dX6_rowAt_16 : decode cX6_rowAt 16 = .ok (.getfield 58, 3) := by decide +kernel
theorem dX6_rowAt_19 : decode cX6_rowAt 19 = .ok (.areturn, 1) := by decide +kernel
theorem dX6_lastStampOf_0 : decode cX6_lastStampOf 0 = .ok (.aload_n 0, 1) := by decide +kernel
theorem dX6_lastStampOf_1 : decode cX6_lastStampOf 1 = .ok (.iload_n 1, 1) := by decide +kernel
theorem dX6_lastStampOf_2 : decode cX6_lastStampOf 2 = .ok (.ldc 62, 2) := by decide +kernel
theorem dX6_lastStampOf_4 : decode cX6_lastStampOf 4 = .ok (.invokevirtual 54, 3) := by decide +kernel
theorem dX6_lastStampOf_7 : decode cX6_lastStampOf 7 = .ok (.astore_n 2, 1) := by decide +kernel
theorem dX6_lastStampOf_8 : decode cX6_lastStampOf 8 = .ok (.aload_n 2, 1) := by decide +kernel
theorem dX6_lastStampOf_9 : decode cX6_lastStampOf 9 = .ok (.ifnonnull 7, 3) := by decide +kernel
theorem dX6_lastStampOf_12 : decode cX6_lastStampOf 12 = .ok (.iconst 0, 1) := by decide +kernel
theorem dX6_lastStampOf_13 : decode cX6_lastStampOf 13 = .ok (.goto 7, 3) := by decide +kernel
theorem dX6_lastStampOf_16 : decode cX6_lastStampOf 16 = .ok (.aload_n 2, 1) := by decide +kernel
theorem dX6_lastStampOf_17 : decode cX6_lastStampOf 17 = .ok (.getfield 36, 3) := by decide +kernel
theorem dX6_lastStampOf_20 : decode cX6_lastStampOf 20 = .ok (.ireturn, 1) := by decide +kernel
theorem dX6_countThere_0 : decode cX6_countThere 0 = .ok (.iconst 0, 1) := by decide +kernel
theorem dX6_countThere_1 : decode cX6_countThere 1 = .ok (.istore 7, 2) := by decide +kernel
theorem dX6_countThere_3 : decode cX6_countThere 3 = .ok (.aconst_null, 1) := by decide +kernel
theorem dX6_countThere_4 : decode cX6_countThere 4 = .ok (.astore 8, 2) := by decide +kernel
theorem dX6_countThere_6 : decode cX6_countThere 6 = .ok (.iconst 0, 1) := by decide +kernel
theorem dX6_countThere_7 : decode cX6_countThere 7 = .ok (.istore 9, 2) := by decide +kernel
theorem dX6_countThere_9 : decode cX6_countThere 9 = .ok (.iload 9, 2) := by decide +kernel
theorem dX6_countThere_11 : decode cX6_countThere 11 = .ok (.aload_n 0, 1) := by decide +kernel
theorem dX6_countThere_12 : decode cX6_countThere 12 = .ok (.getfield 24, 3) := by decide +kernel
theorem dX6_countThere_15 : decode cX6_countThere 15 = .ok (.if_icmp .ge 81, 3) := by decide +kernel
theorem dX6_countThere_18 : decode cX6_countThere 18 = .ok (.aload_n 0, 1) := by decide +kernel
theorem dX6_countThere_19 : decode cX6_countThere 19 = .ok (.getfield 11, 3) := by decide +kernel
theorem dX6_countThere_22 : decode cX6_countThere 22 = .ok (.iload 9, 2) := by decide +kernel
theorem dX6_countThere_24 : decode cX6_countThere 24 = .ok (.aaload, 1) := by decide +kernel
theorem dX6_countThere_25 : decode cX6_countThere 25 = .ok (.astore 10, 2) := by decide +kernel
theorem dX6_countThere_27 : decode cX6_countThere 27 = .ok (.aload 10, 2) := by decide +kernel
theorem dX6_countThere_29 : decode cX6_countThere 29 = .ok (.getfield 36, 3) := by decide +kernel
theorem dX6_countThere_32 : decode cX6_countThere 32 = .ok (.iload 6, 2) := by decide +kernel
theorem dX6_countThere_34 : decode cX6_countThere 34 = .ok (.if_icmp .gt 56, 3) := by decide +kernel
theorem dX6_countThere_37 : decode cX6_countThere 37 = .ok (.aload 8, 2) := by decide +kernel
theorem dX6_countThere_39 : decode cX6_countThere 39 = .ok (.ifnull 17, 3) := by decide +kernel
theorem dX6_countThere_42 : decode cX6_countThere 42 = .ok (.aload 8, 2) := by decide +kernel
theorem dX6_countThere_44 : decode cX6_countThere 44 = .ok (.getfield 32, 3) := by decide +kernel
theorem dX6_countThere_47 : decode cX6_countThere 47 = .ok (.aload 10, 2) := by decide +kernel
theorem dX6_countThere_49 : decode cX6_countThere 49 = .ok (.getfield 32, 3) := by decide +kernel
theorem dX6_countThere_52 : decode cX6_countThere 52 = .ok (.lcmp, 1) := by decide +kernel
theorem dX6_countThere_53 : decode cX6_countThere 53 = .ok (.ifCond .eq 37, 3) := by decide +kernel
theorem dX6_countThere_56 : decode cX6_countThere 56 = .ok (.aload 10, 2) := by decide +kernel
theorem dX6_countThere_58 : decode cX6_countThere 58 = .ok (.astore 8, 2) := by decide +kernel
theorem dX6_countThere_60 : decode cX6_countThere 60 = .ok (.iload 7, 2) := by decide +kernel
theorem dX6_countThere_62 : decode cX6_countThere 62 = .ok (.aload 10, 2) := by decide +kernel
theorem dX6_countThere_64 : decode cX6_countThere 64 = .ok (.getfield 58, 3) := by decide +kernel
theorem dX6_countThere_67 : decode cX6_countThere 67 = .ok (.ifnull 19, 3) := by decide +kernel
theorem dX6_countThere_70 : decode cX6_countThere 70 = .ok (.aload 10, 2) := by decide +kernel
theorem dX6_countThere_72 : decode cX6_countThere 72 = .ok (.iload_n 1, 1) := by decide +kernel
theorem dX6_countThere_73 : decode cX6_countThere 73 = .ok (.lload_n 2, 1) := by decide +kernel
theorem dX6_countThere_74 : decode cX6_countThere 74 = .ok (.lload 4, 2) := by decide +kernel
theorem dX6_countThere_76 : decode cX6_countThere 76 = .ok (.invokevirtual 63, 3) := by decide +kernel
theorem dX6_countThere_79 : decode cX6_countThere 79 = .ok (.ifCond .eq 7, 3) := by decide +kernel
theorem dX6_countThere_82 : decode cX6_countThere 82 = .ok (.iconst 1, 1) := by decide +kernel
theorem dX6_countThere_83 : decode cX6_countThere 83 = .ok (.goto 4, 3) := by decide +kernel
theorem dX6_countThere_86 : decode cX6_countThere 86 = .ok (.iconst 0, 1) := by decide +kernel
theorem dX6_countThere_87 : decode cX6_countThere 87 = .ok (.iadd, 1) := by decide +kernel
theorem dX6_countThere_88 : decode cX6_countThere 88 = .ok (.istore 7, 2) := by decide +kernel
theorem dX6_countThere_90 : decode cX6_countThere 90 = .ok (.iinc 9 1, 3) := by decide +kernel
theorem dX6_countThere_93 : decode cX6_countThere 93 = .ok (.goto (-84), 3) := by decide +kernel
theorem dX6_countThere_96 : decode cX6_countThere 96 = .ok (.iload 7, 2) := by decide +kernel
theorem dX6_countThere_98 : decode cX6_countThere 98 = .ok (.ireturn, 1) := by decide +kernel
theorem dX6_writeMemoryOut_0 : decode cX6_writeMemoryOut 0 = .ok (.aload_n 0, 1) := by decide +kernel
theorem dX6_writeMemoryOut_1 : decode cX6_writeMemoryOut 1 = .ok (.getfield 43, 3) := by decide +kernel
theorem dX6_writeMemoryOut_4 : decode cX6_writeMemoryOut 4 = .ok (.istore_n 1, 1) := by decide +kernel
theorem dX6_writeMemoryOut_5 : decode cX6_writeMemoryOut 5 = .ok (.aconst_null, 1) := by decide +kernel
theorem dX6_writeMemoryOut_6 : decode cX6_writeMemoryOut 6 = .ok (.astore_n 2, 1) := by decide +kernel
theorem dX6_writeMemoryOut_7 : decode cX6_writeMemoryOut 7 = .ok (.iconst 0, 1) := by decide +kernel
theorem dX6_writeMemoryOut_8 : decode cX6_writeMemoryOut 8 = .ok (.istore_n 3, 1) := by decide +kernel
theorem dX6_writeMemoryOut_9 : decode cX6_writeMemoryOut 9 = .ok (.iload_n 3, 1) := by decide +kernel
theorem dX6_writeMemoryOut_10 : decode cX6_writeMemoryOut 10 = .ok (.aload_n 0, 1) := by decide +kernel
theorem dX6_writeMemoryOut_11 : decode cX6_writeMemoryOut 11 = .ok (.getfield 24, 3) := by decide +kernel
theorem dX6_writeMemoryOut_14 : decode cX6_writeMemoryOut 14 = .ok (.if_icmp .ge 47, 3) := by decide +kernel
theorem dX6_writeMemoryOut_17 : decode cX6_writeMemoryOut 17 = .ok (.aload_n 0, 1) := by decide +kernel
theorem dX6_writeMemoryOut_18 : decode cX6_writeMemoryOut 18 = .ok (.getfield 11, 3) := by decide +kernel
theorem dX6_writeMemoryOut_21 : decode cX6_writeMemoryOut 21 = .ok (.iload_n 3, 1) := by decide +kernel
theorem dX6_writeMemoryOut_22 : decode cX6_writeMemoryOut 22 = .ok (.aaload, 1) := by decide +kernel
theorem dX6_writeMemoryOut_23 : decode cX6_writeMemoryOut 23 = .ok (.astore 4, 2) := by decide +kernel
theorem dX6_writeMemoryOut_25 : decode cX6_writeMemoryOut 25 = .ok (.aload 4, 2) := by decide +kernel
theorem dX6_writeMemoryOut_27 : decode cX6_writeMemoryOut 27 = .ok (.getfield 67, 3) := by decide +kernel
theorem dX6_writeMemoryOut_30 : decode cX6_writeMemoryOut 30 = .ok (.ifnonnull 25, 3) := by decide +kernel
theorem dX6_writeMemoryOut_33 : decode cX6_writeMemoryOut 33 = .ok (.aload_n 2, 1) := by decide +kernel
theorem dX6_writeMemoryOut_34 : decode cX6_writeMemoryOut 34 = .ok (.ifnonnull 13, 3) := by decide +kernel
theorem dX6_writeMemoryOut_37 : decode cX6_writeMemoryOut 37 = .ok (.aload_n 0, 1) := by decide +kernel
theorem dX6_writeMemoryOut_38 : decode cX6_writeMemoryOut 38 = .ok (.iconst 0, 1) := by decide +kernel
theorem dX6_writeMemoryOut_39 : decode cX6_writeMemoryOut 39 = .ok (.aload 4, 2) := by decide +kernel
theorem dX6_writeMemoryOut_41 : decode cX6_writeMemoryOut 41 = .ok (.invokevirtual 71, 3) := by decide +kernel
theorem dX6_writeMemoryOut_44 : decode cX6_writeMemoryOut 44 = .ok (.goto 4, 3) := by decide +kernel
theorem dX6_writeMemoryOut_47 : decode cX6_writeMemoryOut 47 = .ok (.aload_n 2, 1) := by decide +kernel
theorem dX6_writeMemoryOut_48 : decode cX6_writeMemoryOut 48 = .ok (.astore_n 2, 1) := by decide +kernel
theorem dX6_writeMemoryOut_49 : decode cX6_writeMemoryOut 49 = .ok (.aload_n 2, 1) := by decide +kernel
theorem dX6_writeMemoryOut_50 : decode cX6_writeMemoryOut 50 = .ok (.aload 4, 2) := by decide +kernel
theorem dX6_writeMemoryOut_52 : decode cX6_writeMemoryOut 52 = .ok (.invokevirtual 75, 3) := by decide +kernel
theorem dX6_writeMemoryOut_55 : decode cX6_writeMemoryOut 55 = .ok (.iinc 3 1, 3) := by decide +kernel
theorem dX6_writeMemoryOut_58 : decode cX6_writeMemoryOut 58 = .ok (.goto (-49), 3) := by decide +kernel
theorem dX6_writeMemoryOut_61 : decode cX6_writeMemoryOut 61 = .ok (.aload_n 0, 1) := by decide +kernel
theorem dX6_writeMemoryOut_62 : decode cX6_writeMemoryOut 62 = .ok (.iconst 0, 1) := by decide +kernel
theorem dX6_writeMemoryOut_63 : decode cX6_writeMemoryOut 63 = .ok (.putfield 43, 3) := by decide +kernel
theorem dX6_writeMemoryOut_66 : decode cX6_writeMemoryOut 66 = .ok (.iload_n 1, 1) := by decide +kernel
theorem dX6_writeMemoryOut_67 : decode cX6_writeMemoryOut 67 = .ok (.ireturn, 1) := by decide +kernel
theorem dX6_newFile_0 : decode cX6_newFile 0 = .ok (.aload_n 0, 1) := by decide +kernel
theorem dX6_newFile_1 : decode cX6_newFile 1 = .ok (.dup, 1) := by decide +kernel
theorem dX6_newFile_2 : decode cX6_newFile 2 = .ok (.getfield 81, 3) := by decide +kernel
theorem dX6_newFile_5 : decode cX6_newFile 5 = .ok (.iconst 1, 1) := by decide +kernel
theorem dX6_newFile_6 : decode cX6_newFile 6 = .ok (.iadd, 1) := by decide +kernel
theorem dX6_newFile_7 : decode cX6_newFile 7 = .ok (.putfield 81, 3) := by decide +kernel
theorem dX6_newFile_10 : decode cX6_newFile 10 = .ok (.new 76, 3) := by decide +kernel
theorem dX6_newFile_13 : decode cX6_newFile 13 = .ok (.dup, 1) := by decide +kernel
theorem dX6_newFile_14 : decode cX6_newFile 14 = .ok (.aload_n 0, 1) := by decide +kernel
theorem dX6_newFile_15 : decode cX6_newFile 15 = .ok (.getfield 81, 3) := by decide +kernel
theorem dX6_newFile_18 : decode cX6_newFile 18 = .ok (.iload_n 1, 1) := by decide +kernel
theorem dX6_newFile_19 : decode cX6_newFile 19 = .ok (.aload_n 2, 1) := by decide +kernel
theorem dX6_newFile_20 : decode cX6_newFile 20 = .ok (.invokespecial 84, 3) := by decide +kernel
theorem dX6_newFile_23 : decode cX6_newFile 23 = .ok (.astore_n 3, 1) := by decide +kernel
theorem dX6_newFile_24 : decode cX6_newFile 24 = .ok (.aload_n 0, 1) := by decide +kernel
theorem dX6_newFile_25 : decode cX6_newFile 25 = .ok (.getfield 20, 3) := by decide +kernel
theorem dX6_newFile_28 : decode cX6_newFile 28 = .ok (.aload_n 3, 1) := by decide +kernel
theorem dX6_newFile_29 : decode cX6_newFile 29 = .ok (.invokevirtual 87, 3) := by decide +kernel
theorem dX6_newFile_32 : decode cX6_newFile 32 = .ok (.pop, 1) := by decide +kernel
theorem dX6_newFile_33 : decode cX6_newFile 33 = .ok (.aload_n 3, 1) := by decide +kernel
theorem dX6_newFile_34 : decode cX6_newFile 34 = .ok (.areturn, 1) := by decide +kernel
theorem dX6_countFiles_0 : decode cX6_countFiles 0 = .ok (.iconst 0, 1) := by decide +kernel
theorem dX6_countFiles_1 : decode cX6_countFiles 1 = .ok (.istore_n 2, 1) := by decide +kernel
theorem dX6_countFiles_2 : decode cX6_countFiles 2 = .ok (.iconst 0, 1) := by decide +kernel
theorem dX6_countFiles_3 : decode cX6_countFiles 3 = .ok (.istore_n 3, 1) := by decide +kernel
theorem dX6_countFiles_4 : decode cX6_countFiles 4 = .ok (.iload_n 3, 1) := by decide +kernel
theorem dX6_countFiles_5 : decode cX6_countFiles 5 = .ok (.aload_n 0, 1) := by decide +kernel
theorem dX6_countFiles_6 : decode cX6_countFiles 6 = .ok (.getfield 20, 3) := by decide +kernel
theorem dX6_countFiles_9 : decode cX6_countFiles 9 = .ok (.invokevirtual 91, 3) := by decide +kernel
theorem dX6_countFiles_12 : decode cX6_countFiles 12 = .ok (.if_icmp .ge 35, 3) := by decide +kernel
theorem dX6_countFiles_15 : decode cX6_countFiles 15 = .ok (.iload_n 2, 1) := by decide +kernel
theorem dX6_countFiles_16 : decode cX6_countFiles 16 = .ok (.aload_n 0, 1) := by decide +kernel
theorem dX6_countFiles_17 : decode cX6_countFiles 17 = .ok (.getfield 20, 3) := by decide +kernel
theorem dX6_countFiles_20 : decode cX6_countFiles 20 = .ok (.iload_n 3, 1) := by decide +kernel
theorem dX6_countFiles_21 : decode cX6_countFiles 21 = .ok (.invokevirtual 95, 3) := by decide +kernel
theorem dX6_countFiles_24 : decode cX6_countFiles 24 = .ok (.checkcast 76, 3) := by decide +kernel
theorem dX6_countFiles_27 : decode cX6_countFiles 27 = .ok (.getfield 99, 3) := by decide +kernel
theorem dX6_countFiles_30 : decode cX6_countFiles 30 = .ok (.iload_n 1, 1) := by decide +kernel
theorem dX6_countFiles_31 : decode cX6_countFiles 31 = .ok (.if_icmp .ne 7, 3) := by decide +kernel
theorem dX6_countFiles_34 : decode cX6_countFiles 34 = .ok (.iconst 1, 1) := by decide +kernel
theorem dX6_countFiles_35 : decode cX6_countFiles 35 = .ok (.goto 4, 3) := by decide +kernel
theorem dX6_countFiles_38 : decode cX6_countFiles 38 = .ok (.iconst 0, 1) := by decide +kernel
theorem dX6_countFiles_39 : decode cX6_countFiles 39 = .ok (.iadd, 1) := by decide +kernel
theorem dX6_countFiles_40 : decode cX6_countFiles 40 = .ok (.istore_n 2, 1) := by decide +kernel
theorem dX6_countFiles_41 : decode cX6_countFiles 41 = .ok (.iinc 3 1, 3) := by decide +kernel
theorem dX6_countFiles_44 : decode cX6_countFiles 44 = .ok (.goto (-40), 3) := by decide +kernel
theorem dX6_countFiles_47 : decode cX6_countFiles 47 = .ok (.iload_n 2, 1) := by decide +kernel
theorem dX6_countFiles_48 : decode cX6_countFiles 48 = .ok (.ireturn, 1) := by decide +kernel
theorem dX6_fileOn_0 : decode cX6_fileOn 0 = .ok (.iconst 0, 1) := by decide +kernel
theorem dX6_fileOn_1 : decode cX6_fileOn 1 = .ok (.istore_n 3, 1) := by decide +kernel
theorem dX6_fileOn_2 : decode cX6_fileOn 2 = .ok (.iconst 0, 1) := by decide +kernel
theorem dX6_fileOn_3 : decode cX6_fileOn 3 = .ok (.istore 4, 2) := by decide +kernel
theorem dX6_fileOn_5 : decode cX6_fileOn 5 = .ok (.iload 4, 2) := by decide +kernel
theorem dX6_fileOn_7 : decode cX6_fileOn 7 = .ok (.aload_n 0, 1) := by decide +kernel
theorem dX6_fileOn_8 : decode cX6_fileOn 8 = .ok (.getfield 20, 3) := by decide +kernel
theorem dX6_fileOn_11 : decode cX6_fileOn 11 = .ok (.invokevirtual 91, 3) := by decide +kernel
theorem dX6_fileOn_14 : decode cX6_fileOn 14 = .ok (.if_icmp .ge 43, 3) := by decide +kernel
theorem dX6_fileOn_17 : decode cX6_fileOn 17 = .ok (.aload_n 0, 1) := by decide +kernel
theorem dX6_fileOn_18 : decode cX6_fileOn 18 = .ok (.getfield 20, 3) := by decide +kernel
theorem dX6_fileOn_21 : decode cX6_fileOn 21 = .ok (.iload 4, 2) := by decide +kernel
theorem dX6_fileOn_23 : decode cX6_fileOn 23 = .ok (.invokevirtual 95, 3) := by decide +kernel
theorem dX6_fileOn_26 : decode cX6_fileOn 26 = .ok (.checkcast 76, 3) := by decide +kernel
theorem dX6_fileOn_29 : decode cX6_fileOn 29 = .ok (.astore 5, 2) := by decide +kernel
theorem dX6_fileOn_31 : decode cX6_fileOn 31 = .ok (.aload 5, 2) := by decide +kernel
theorem dX6_fileOn_33 : decode cX6_fileOn 33 = .ok (.getfield 99, 3) := by decide +kernel
theorem dX6_fileOn_36 : decode cX6_fileOn 36 = .ok (.iload_n 1, 1) := by decide +kernel
theorem dX6_fileOn_37 : decode cX6_fileOn 37 = .ok (.if_icmp .ne 14, 3) := by decide +kernel
theorem dX6_fileOn_40 : decode cX6_fileOn 40 = .ok (.iload_n 3, 1) := by decide +kernel
theorem dX6_fileOn_41 : decode cX6_fileOn 41 = .ok (.iload_n 2, 1) := by decide +kernel
theorem dX6_fileOn_42 : decode cX6_fileOn 42 = .ok (.if_icmp .ne 6, 3) := by decide +kernel
theorem dX6_fileOn_45 : decode cX6_fileOn 45 = .ok (.aload 5, 2) := by decide +kernel
theorem dX6_fileOn_47 : decode cX6_fileOn 47 = .ok (.areturn, 1) := by decide +kernel
theorem dX6_fileOn_48 : decode cX6_fileOn 48 = .ok (.iinc 3 1, 3) := by decide +kernel
theorem dX6_fileOn_51 : decode cX6_fileOn 51 = .ok (.iinc 4 1, 3) := by decide +kernel
theorem dX6_fileOn_54 : decode cX6_fileOn 54 = .ok (.goto (-49), 3) := by decide +kernel
theorem dX6_fileOn_57 : decode cX6_fileOn 57 = .ok (.aconst_null, 1) := by decide +kernel
theorem dX6_fileOn_58 : decode cX6_fileOn 58 = .ok (.areturn, 1) := by decide +kernel
theorem dX6_overfullLevel_0 : decode cX6_overfullLevel 0 = .ok (.aload_n 0, 1) := by decide +kernel
theorem dX6_overfullLevel_1 : decode cX6_overfullLevel 1 = .ok (.iconst 0, 1) := by decide +kernel
theorem dX6_overfullLevel_2 : decode cX6_overfullLevel 2 = .ok (.invokevirtual 102, 3) := by decide +kernel
theorem dX6_overfullLevel_5 : decode cX6_overfullLevel 5 = .ok (.iconst 2, 1) := by decide +kernel
theorem dX6_overfullLevel_6 : decode cX6_overfullLevel 6 = .ok (.if_icmp .le 5, 3) := by decide +kernel
theorem dX6_overfullLevel_9 : decode cX6_overfullLevel 9 = .ok (.iconst 0, 1) := by decide +kernel
theorem dX6_overfullLevel_10 : decode cX6_overfullLevel 10 = .ok (.ireturn, 1) := by decide +kernel
theorem dX6_overfullLevel_11 : decode cX6_overfullLevel 11 = .ok (.aload_n 0, 1) := by decide +kernel
theorem dX6_overfullLevel_12 : decode cX6_overfullLevel 12 = .ok (.iconst 1, 1) := by decide +kernel
theorem dX6_overfullLevel_13 : decode cX6_overfullLevel 13 = .ok (.invokevirtual 102, 3) := by decide +kernel
theorem dX6_overfullLevel_16 : decode cX6_overfullLevel 16 = .ok (.iconst 3, 1) := by decide +kernel
theorem dX6_overfullLevel_17 : decode cX6_overfullLevel 17 = .ok (.if_icmp .le 7, 3) := by decide +kernel
theorem dX6_overfullLevel_20 : decode cX6_overfullLevel 20 = .ok (.iconst 1, 1) := by decide +kernel
theorem dX6_overfullLevel_21 : decode cX6_overfullLevel 21 = .ok (.goto 4, 3) := by decide +kernel
theorem dX6_overfullLevel_24 : decode cX6_overfullLevel 24 = .ok (.iconst (-1), 1) := by decide +kernel
theorem dX6_overfullLevel_25 : decode cX6_overfullLevel 25 = .ok (.ireturn, 1) := by decide +kernel
theorem dX6_mergeDown_0 : decode cX6_mergeDown 0 = .ok (.aload_n 0, 1) := by decide +kernel
theorem dX6_mergeDown_1 : decode cX6_mergeDown 1 = .ok (.iload_n 1, 1) := by decide +kernel
theorem dX6_mergeDown_2 : decode cX6_mergeDown 2 = .ok (.iconst 0, 1) := by decide +kernel
theorem dX6_mergeDown_3 : decode cX6_mergeDown 3 = .ok (.invokevirtual 106, 3) := by decide +kernel
theorem dX6_mergeDown_6 : decode cX6_mergeDown 6 = .ok (.astore_n 3, 1) := by decide +kernel
theorem dX6_mergeDown_7 : decode cX6_mergeDown 7 = .ok (.aload_n 3, 1) := by decide +kernel
theorem dX6_mergeDown_8 : decode cX6_mergeDown 8 = .ok (.ifnonnull 5, 3) := by decide +kernel
theorem dX6_mergeDown_11 : decode cX6_mergeDown 11 = .ok (.iconst (-1), 1) := by decide +kernel
theorem dX6_mergeDown_12 : decode cX6_mergeDown 12 = .ok (.ireturn, 1) := by decide +kernel
theorem dX6_mergeDown_13 : decode cX6_mergeDown 13 = .ok (.aload_n 0, 1) := by decide +kernel
theorem dX6_mergeDown_14 : decode cX6_mergeDown 14 = .ok (.aload_n 3, 1) := by decide +kernel
theorem dX6_mergeDown_15 : decode cX6_mergeDown 15 = .ok (.invokevirtual 110, 3) := by decide +kernel
theorem dX6_mergeDown_18 : decode cX6_mergeDown 18 = .ok (.aload_n 0, 1) := by decide +kernel
theorem dX6_mergeDown_19 : decode cX6_mergeDown 19 = .ok (.iload_n 1, 1) := by decide +kernel
theorem dX6_mergeDown_20 : decode cX6_mergeDown 20 = .ok (.iconst 1, 1) := by decide +kernel
theorem dX6_mergeDown_21 : decode cX6_mergeDown 21 = .ok (.iadd, 1) := by decide +kernel
theorem dX6_mergeDown_22 : decode cX6_mergeDown 22 = .ok (.iload_n 2, 1) := by decide +kernel
theorem dX6_mergeDown_23 : decode cX6_mergeDown 23 = .ok (.invokevirtual 114, 3) := by decide +kernel
theorem dX6_mergeDown_26 : decode cX6_mergeDown 26 = .ok (.ireturn, 1) := by decide +kernel
theorem dX6_retire_0 : decode cX6_retire 0 = .ok (.aload_n 0, 1) := by decide +kernel
theorem dX6_retire_1 : decode cX6_retire 1 = .ok (.getfield 20, 3) := by decide +kernel
theorem dX6_retire_4 : decode cX6_retire 4 = .ok (.invokevirtual 91, 3) := by decide +kernel
theorem dX6_retire_7 : decode cX6_retire 7 = .ok (.iconst 1, 1) := by decide +kernel
theorem dX6_retire_8 : decode cX6_retire 8 = .ok (.isub, 1) := by decide +kernel
theorem dX6_retire_9 : decode cX6_retire 9 = .ok (.istore_n 2, 1) := by decide +kernel
theorem dX6_retire_10 : decode cX6_retire 10 = .ok (.iload_n 2, 1) := by decide +kernel
theorem dX6_retire_11 : decode cX6_retire 11 = .ok (.ifCond .lt 61, 3) := by decide +kernel
theorem dX6_retire_14 : decode cX6_retire 14 = .ok (.aload_n 0, 1) := by decide +kernel
theorem dX6_retire_15 : decode cX6_retire 15 = .ok (.getfield 20, 3) := by decide +kernel
theorem dX6_retire_18 : decode cX6_retire 18 = .ok (.iload_n 2, 1) := by decide +kernel
theorem dX6_retire_19 : decode cX6_retire 19 = .ok (.invokevirtual 95, 3) := by decide +kernel
theorem dX6_retire_22 : decode cX6_retire 22 = .ok (.checkcast 76, 3) := by decide +kernel
theorem dX6_retire_25 : decode cX6_retire 25 = .ok (.astore_n 3, 1) := by decide +kernel
theorem dX6_retire_26 : decode cX6_retire 26 = .ok (.aload_n 3, 1) := by decide +kernel
theorem dX6_retire_27 : decode cX6_retire 27 = .ok (.aload_n 1, 1) := by decide +kernel
theorem dX6_retire_28 : decode cX6_retire 28 = .ok (.if_acmp .eq 24, 3) := by decide +kernel
theorem dX6_retire_31 : decode cX6_retire 31 = .ok (.aload_n 3, 1) := by decide +kernel
theorem dX6_retire_32 : decode cX6_retire 32 = .ok (.getfield 99, 3) := by decide +kernel
theorem dX6_retire_35 : decode cX6_retire 35 = .ok (.aload_n 1, 1) := by decide +kernel
theorem dX6_retire_36 : decode cX6_retire 36 = .ok (.getfield 99, 3) := by decide +kernel
theorem dX6_retire_39 : decode cX6_retire 39 = .ok (.iconst 1, 1) := by decide +kernel
theorem dX6_retire_40 : decode cX6_retire 40 = .ok (.iadd, 1) := by decide +kernel
theorem dX6_retire_41 : decode cX6_retire 41 = .ok (.if_icmp .ne 25, 3) := by decide +kernel
theorem dX6_retire_44 : decode cX6_retire 44 = .ok (.aload_n 3, 1) := by decide +kernel
theorem dX6_retire_45 : decode cX6_retire 45 = .ok (.aload_n 1, 1) := by decide +kernel
theorem dX6_retire_46 : decode cX6_retire 46 = .ok (.invokevirtual 118, 3) := by decide +kernel
theorem dX6_retire_49 : decode cX6_retire 49 = .ok (.ifCond .eq 17, 3) := by decide +kernel
theorem dX6_retire_52 : decode cX6_retire 52 = .ok (.aload_n 3, 1) := by decide +kernel
theorem dX6_retire_53 : decode cX6_retire 53 = .ok (.iconst 1, 1) := by decide +kernel
theorem dX6_retire_54 : decode cX6_retire 54 = .ok (.putfield 122, 3) := by decide +kernel
theorem dX6_retire_57 : decode cX6_retire 57 = .ok (.aload_n 0, 1) := by decide +kernel
theorem dX6_retire_58 : decode cX6_retire 58 = .ok (.getfield 20, 3) := by decide +kernel
theorem dX6_retire_61 : decode cX6_retire 61 = .ok (.iload_n 2, 1) := by decide +kernel
theorem dX6_retire_62 : decode cX6_retire 62 = .ok (.invokevirtual 126, 3) := by decide +kernel
theorem dX6_retire_65 : decode cX6_retire 65 = .ok (.pop, 1) := by decide +kernel
theorem dX6_retire_66 : decode cX6_retire 66 = .ok (.iinc 2 (-1), 3) := by decide +kernel
theorem dX6_retire_69 : decode cX6_retire 69 = .ok (.goto (-59), 3) := by decide +kernel
theorem dX6_retire_72 : decode cX6_retire 72 = .ok (.return_, 1) := by decide +kernel
theorem dX6_moveRetired_0 : decode cX6_moveRetired 0 = .ok (.new 129, 3) := by decide +kernel
theorem dX6_moveRetired_3 : decode cX6_moveRetired 3 = .ok (.dup, 1) := by decide +kernel
theorem dX6_moveRetired_4 : decode cX6_moveRetired 4 = .ok (.iload_n 2, 1) := by decide +kernel
theorem dX6_moveRetired_5 : decode cX6_moveRetired 5 = .ok (.iload_n 1, 1) := by decide +kernel
theorem dX6_moveRetired_6 : decode cX6_moveRetired 6 = .ok (.iconst 2, 1) := by decide +kernel
theorem dX6_moveRetired_7 : decode cX6_moveRetired 7 = .ok (.if_icmp .ne 7, 3) := by decide +kernel
theorem dX6_moveRetired_10 : decode cX6_moveRetired 10 = .ok (.iconst 1, 1) := by decide +kernel
theorem dX6_moveRetired_11 : decode cX6_moveRetired 11 = .ok (.goto 4, 3) := by decide +kernel
theorem dX6_moveRetired_14 : decode cX6_moveRetired 14 = .ok (.iconst 0, 1) := by decide +kernel
theorem dX6_moveRetired_15 : decode cX6_moveRetired 15 = .ok (.invokespecial 131, 3) := by decide +kernel
theorem dX6_moveRetired_18 : decode cX6_moveRetired 18 = .ok (.astore_n 3, 1) := by decide +kernel
theorem dX6_moveRetired_19 : decode cX6_moveRetired 19 = .ok (.aconst_null, 1) := by decide +kernel
theorem dX6_moveRetired_20 : decode cX6_moveRetired 20 = .ok (.astore 4, 2) := by decide +kernel
theorem dX6_moveRetired_22 : decode cX6_moveRetired 22 = .ok (.iconst 0, 1) := by decide +kernel
theorem dX6_moveRetired_23 : decode cX6_moveRetired 23 = .ok (.istore 5, 2) := by decide +kernel
theorem dX6_moveRetired_25 : decode cX6_moveRetired 25 = .ok (.iconst 0, 1) := by decide +kernel
theorem dX6_moveRetired_26 : decode cX6_moveRetired 26 = .ok (.istore 6, 2) := by decide +kernel
theorem dX6_moveRetired_28 : decode cX6_moveRetired 28 = .ok (.iload 6, 2) := by decide +kernel
theorem dX6_moveRetired_30 : decode cX6_moveRetired 30 = .ok (.aload_n 0, 1) := by decide +kernel
theorem dX6_moveRetired_31 : decode cX6_moveRetired 31 = .ok (.getfield 24, 3) := by decide +kernel
theorem dX6_moveRetired_34 : decode cX6_moveRetired 34 = .ok (.if_icmp .ge 86, 3) := by decide +kernel
theorem dX6_moveRetired_37 : decode cX6_moveRetired 37 = .ok (.aload_n 0, 1) := by decide +kernel
theorem dX6_moveRetired_38 : decode cX6_moveRetired 38 = .ok (.getfield 11, 3) := by decide +kernel
theorem dX6_moveRetired_41 : decode cX6_moveRetired 41 = .ok (.iload 6, 2) := by decide +kernel
theorem dX6_moveRetired_43 : decode cX6_moveRetired 43 = .ok (.aaload, 1) := by decide +kernel
theorem dX6_moveRetired_44 : decode cX6_moveRetired 44 = .ok (.astore 7, 2) := by decide +kernel
theorem dX6_moveRetired_46 : decode cX6_moveRetired 46 = .ok (.aload 7, 2) := by decide +kernel
theorem dX6_moveRetired_48 : decode cX6_moveRetired 48 = .ok (.invokevirtual 134, 3) := by decide +kernel
theorem dX6_moveRetired_51 : decode cX6_moveRetired 51 = .ok (.ifCond .eq 51, 3) := by decide +kernel
theorem dX6_moveRetired_54 : decode cX6_moveRetired 54 = .ok (.aload_n 3, 1) := by decide +kernel
theorem dX6_moveRetired_55 : decode cX6_moveRetired 55 = .ok (.aload 7, 2) := by decide +kernel
theorem dX6_moveRetired_57 : decode cX6_moveRetired 57 = .ok (.invokevirtual 138, 3) := by decide +kernel
theorem dX6_moveRetired_60 : decode cX6_moveRetired 60 = .ok (.ifCond .ne 6, 3) := by decide +kernel
theorem dX6_moveRetired_63 : decode cX6_moveRetired 63 = .ok (.goto 51, 3) := by decide +kernel
theorem dX6_moveRetired_66 : decode cX6_moveRetired 66 = .ok (.aload 4, 2) := by decide +kernel
theorem dX6_moveRetired_68 : decode cX6_moveRetired 68 = .ok (.ifnull 13, 3) := by decide +kernel
theorem dX6_moveRetired_71 : decode cX6_moveRetired 71 = .ok (.aload 4, 2) := by decide +kernel
theorem dX6_moveRetired_73 : decode cX6_moveRetired 73 = .ok (.aload 7, 2) := by decide +kernel
theorem dX6_moveRetired_75 : decode cX6_moveRetired 75 = .ok (.invokevirtual 142, 3) := by decide +kernel
theorem dX6_moveRetired_78 : decode cX6_moveRetired 78 = .ok (.ifCond .eq 13, 3) := by decide +kernel
theorem dX6_moveRetired_81 : decode cX6_moveRetired 81 = .ok (.aload_n 0, 1) := by decide +kernel
theorem dX6_moveRetired_82 : decode cX6_moveRetired 82 = .ok (.iload_n 1, 1) := by decide +kernel
theorem dX6_moveRetired_83 : decode cX6_moveRetired 83 = .ok (.aload 7, 2) := by decide +kernel
theorem dX6_moveRetired_85 : decode cX6_moveRetired 85 = .ok (.invokevirtual 71, 3) := by decide +kernel
theorem dX6_moveRetired_88 : decode cX6_moveRetired 88 = .ok (.goto 5, 3) := by decide +kernel
theorem dX6_moveRetired_91 : decode cX6_moveRetired 91 = .ok (.aload 4, 2) := by decide +kernel
theorem dX6_moveRetired_93 : decode cX6_moveRetired 93 = .ok (.astore 4, 2) := by decide +kernel
theorem dX6_moveRetired_95 : decode cX6_moveRetired 95 = .ok (.aload 4, 2) := by decide +kernel
theorem dX6_moveRetired_97 : decode cX6_moveRetired 97 = .ok (.aload 7, 2) := by decide +kernel
theorem dX6_moveRetired_99 : decode cX6_moveRetired 99 = .ok (.invokevirtual 75, 3) := by decide +kernel
theorem dX6_moveRetired_102 : decode cX6_moveRetired 102 = .ok (.aload_n 0, 1) := by decide +kernel
theorem dX6_moveRetired_103 : decode cX6_moveRetired 103 = .ok (.getfield 11, 3) := by decide +kernel
theorem dX6_moveRetired_106 : decode cX6_moveRetired 106 = .ok (.iload 5, 2) := by decide +kernel
theorem dX6_moveRetired_108 : decode cX6_moveRetired 108 = .ok (.aload 7, 2) := by decide +kernel
theorem dX6_moveRetired_110 : decode cX6_moveRetired 110 = .ok (.aastore, 1) := by decide +kernel
theorem dX6_moveRetired_111 : decode cX6_moveRetired 111 = .ok (.iinc 5 1, 3) := by decide +kernel
theorem dX6_moveRetired_114 : decode cX6_moveRetired 114 = .ok (.iinc 6 1, 3) := by decide +kernel
theorem dX6_moveRetired_117 : decode cX6_moveRetired 117 = .ok (.goto (-89), 3) := by decide +kernel
theorem dX6_moveRetired_120 : decode cX6_moveRetired 120 = .ok (.aload_n 0, 1) := by decide +kernel
theorem dX6_moveRetired_121 : decode cX6_moveRetired 121 = .ok (.getfield 24, 3) := by decide +kernel
theorem dX6_moveRetired_124 : decode cX6_moveRetired 124 = .ok (.iload 5, 2) := by decide +kernel
theorem dX6_moveRetired_126 : decode cX6_moveRetired 126 = .ok (.isub, 1) := by decide +kernel
theorem dX6_moveRetired_127 : decode cX6_moveRetired 127 = .ok (.istore 6, 2) := by decide +kernel
theorem dX6_moveRetired_129 : decode cX6_moveRetired 129 = .ok (.aload_n 0, 1) := by decide +kernel
theorem dX6_moveRetired_130 : decode cX6_moveRetired 130 = .ok (.iload 5, 2) := by decide +kernel
theorem dX6_moveRetired_132 : decode cX6_moveRetired 132 = .ok (.putfield 24, 3) := by decide +kernel
theorem dX6_moveRetired_135 : decode cX6_moveRetired 135 = .ok (.iload 6, 2) := by decide +kernel
theorem dX6_moveRetired_137 : decode cX6_moveRetired 137 = .ok (.ireturn, 1) := by decide +kernel
theorem dX7_init_0 : decode cX7_init 0 = .ok (.aload_n 0, 1) := by decide +kernel
theorem dX7_init_1 : decode cX7_init 1 = .ok (.invokespecial 3, 3) := by decide +kernel
theorem dX7_init_4 : decode cX7_init 4 = .ok (.aload_n 0, 1) := by decide +kernel
theorem dX7_init_5 : decode cX7_init 5 = .ok (.iconst 1, 1) := by decide +kernel
theorem dX7_init_6 : decode cX7_init 6 = .ok (.putfield 9, 3) := by decide +kernel
theorem dX7_init_9 : decode cX7_init 9 = .ok (.aload_n 0, 1) := by decide +kernel
theorem dX7_init_10 : decode cX7_init 10 = .ok (.bipush 32, 2) := by decide +kernel
theorem dX7_init_12 : decode cX7_init 12 = .ok (.newarray .boolean, 2) := by decide +kernel
theorem dX7_init_14 : decode cX7_init 14 = .ok (.putfield 15, 3) := by decide +kernel
theorem dX7_init_17 : decode cX7_init 17 = .ok (.aload_n 0, 1) := by decide +kernel
theorem dX7_init_18 : decode cX7_init 18 = .ok (.bipush 32, 2) := by decide +kernel
theorem dX7_init_20 : decode cX7_init 20 = .ok (.anewarray 19, 3) := by decide +kernel
theorem dX7_init_23 : decode cX7_init 23 = .ok (.putfield 21, 3) := by decide +kernel
theorem dX7_init_26 : decode cX7_init 26 = .ok (.aload_n 0, 1) := by decide +kernel
theorem dX7_init_27 : decode cX7_init 27 = .ok (.iload_n 1, 1) := by decide +kernel
theorem dX7_init_28 : decode cX7_init 28 = .ok (.putfield 25, 3) := by decide +kernel
theorem dX7_init_31 : decode cX7_init 31 = .ok (.return_, 1) := by decide +kernel
theorem dX7_isOpen_0 : decode cX7_isOpen 0 = .ok (.aload_n 0, 1) := by decide +kernel
theorem dX7_isOpen_1 : decode cX7_isOpen 1 = .ok (.getfield 9, 3) := by decide +kernel
theorem dX7_isOpen_4 : decode cX7_isOpen 4 = .ok (.iconst 1, 1) := by decide +kernel
theorem dX7_isOpen_5 : decode cX7_isOpen 5 = .ok (.if_icmp .ne 7, 3) := by decide +kernel
theorem dX7_isOpen_8 : decode cX7_isOpen 8 = .ok (.iconst 1, 1) := by decide +kernel
theorem dX7_isOpen_9 : decode cX7_isOpen 9 = .ok (.goto 4, 3) := by decide +kernel
theorem dX7_isOpen_12 : decode cX7_isOpen 12 = .ok (.iconst 0, 1) := by decide +kernel
theorem dX7_isOpen_13 : decode cX7_isOpen 13 = .ok (.ireturn, 1) := by decide +kernel
theorem dX7_put_0 : decode cX7_put 0 = .ok (.aload_n 0, 1) := by decide +kernel
theorem dX7_put_1 : decode cX7_put 1 = .ok (.iconst 1, 1) := by decide +kernel
theorem dX7_put_2 : decode cX7_put 2 = .ok (.putfield 28, 3) := by decide +kernel
theorem dX7_put_5 : decode cX7_put 5 = .ok (.aload_n 0, 1) := by decide +kernel
theorem dX7_put_6 : decode cX7_put 6 = .ok (.getfield 15, 3) := by decide +kernel
theorem dX7_put_9 : decode cX7_put 9 = .ok (.iload_n 1, 1) := by decide +kernel
theorem dX7_put_10 : decode cX7_put 10 = .ok (.iconst 1, 1) := by decide +kernel
theorem dX7_put_11 : decode cX7_put 11 = .ok (.bastore, 1) := by decide +kernel
theorem dX7_put_12 : decode cX7_put 12 = .ok (.aload_n 0, 1) := by decide +kernel
theorem dX7_put_13 : decode cX7_put 13 = .ok (.getfield 21, 3) := by decide +kernel
theorem dX7_put_16 : decode cX7_put 16 = .ok (.iload_n 1, 1) := by decide +kernel
theorem dX7_put_17 : decode cX7_put 17 = .ok (.aload_n 2, 1) := by decide +kernel
theorem dX7_put_18 : decode cX7_put 18 = .ok (.aastore, 1) := by decide +kernel
theorem dX7_put_19 : decode cX7_put 19 = .ok (.return_, 1) := by decide +kernel
theorem dX8_init_0 : decode cX8_init 0 = .ok (.aload_n 0, 1) := by decide +kernel
theorem dX8_init_1 : decode cX8_init 1 = .ok (.invokespecial 1, 3) := by decide +kernel
theorem dX8_init_4 : decode cX8_init 4 = .ok (.aload_n 0, 1) := by decide +kernel
theorem dX8_init_5 : decode cX8_init 5 = .ok (.bipush 8, 2) := by decide +kernel
theorem dX8_init_7 : decode cX8_init 7 = .ok (.anewarray 9, 3) := by decide +kernel
theorem dX8_init_10 : decode cX8_init 10 = .ok (.putfield 11, 3) := by decide +kernel
theorem dX8_init_13 : decode cX8_init 13 = .ok (.aload_n 0, 1) := by decide +kernel
theorem dX8_init_14 : decode cX8_init 14 = .ok (.iconst 3, 1) := by decide +kernel
theorem dX8_init_15 : decode cX8_init 15 = .ok (.anewarray 9, 3) := by decide +kernel
theorem dX8_init_18 : decode cX8_init 18 = .ok (.putfield 15, 3) := by decide +kernel
theorem dX8_init_21 : decode cX8_init 21 = .ok (.aload_n 0, 1) := by decide +kernel
theorem dX8_init_22 : decode cX8_init 22 = .ok (.bipush 60, 2) := by decide +kernel
theorem dX8_init_24 : decode cX8_init 24 = .ok (.anewarray 18, 3) := by decide +kernel
theorem dX8_init_27 : decode cX8_init 27 = .ok (.putfield 20, 3) := by decide +kernel
theorem dX8_init_30 : decode cX8_init 30 = .ok (.aload_n 0, 1) := by decide +kernel
theorem dX8_init_31 : decode cX8_init 31 = .ok (.new 24, 3) := by decide +kernel
theorem dX8_init_34 : decode cX8_init 34 = .ok (.dup, 1) := by decide +kernel
theorem dX8_init_35 : decode cX8_init 35 = .ok (.invokespecial 26, 3) := by decide +kernel
theorem dX8_init_38 : decode cX8_init 38 = .ok (.putfield 27, 3) := by decide +kernel
theorem dX8_init_41 : decode cX8_init 41 = .ok (.aload_n 0, 1) := by decide +kernel
theorem dX8_init_42 : decode cX8_init 42 = .ok (.bipush 32, 2) := by decide +kernel
theorem dX8_init_44 : decode cX8_init 44 = .ok (.newarray .int, 2) := by decide +kernel
theorem dX8_init_46 : decode cX8_init 46 = .ok (.putfield 31, 3) := by decide +kernel
theorem dX8_init_49 : decode cX8_init 49 = .ok (.aload_n 0, 1) := by decide +kernel
theorem dX8_init_50 : decode cX8_init 50 = .ok (.iconst (-1), 1) := by decide +kernel
theorem dX8_init_51 : decode cX8_init 51 = .ok (.putfield 35, 3) := by decide +kernel
theorem dX8_init_54 : decode cX8_init 54 = .ok (.return_, 1) := by decide +kernel
theorem dX8_say_0 : decode cX8_say 0 = .ok (.iload_n 1, 1) := by decide +kernel
theorem dX8_say_1 : decode cX8_say 1 = .ok (.ifCond .lt 22, 3) := by decide +kernel
theorem dX8_say_4 : decode cX8_say 4 = .ok (.iload_n 1, 1) := by decide +kernel
theorem dX8_say_5 : decode cX8_say 5 = .ok (.bipush 12, 2) := by decide +kernel
theorem dX8_say_7 : decode cX8_say 7 = .ok (.if_icmp .gt 16, 3) := by decide +kernel
theorem dX8_say_10 : decode cX8_say 10 = .ok (.iload_n 1, 1) := by decide +kernel
theorem dX8_say_11 : decode cX8_say 11 = .ok (.bipush 12, 2) := by decide +kernel
theorem dX8_say_13 : decode cX8_say 13 = .ok (.if_icmp .ne 12, 3) := by decide +kernel
theorem dX8_say_16 : decode cX8_say 16 = .ok (.iload_n 2, 1) := by decide +kernel
theorem dX8_say_17 : decode cX8_say 17 = .ok (.invokestatic 39, 3) := by decide +kernel
theorem dX8_say_20 : decode cX8_say 20 = .ok (.ifCond .ne 5, 3) := by decide +kernel
theorem dX8_say_23 : decode cX8_say 23 = .ok (.iconst 0, 1) := by decide +kernel
theorem dX8_say_24 : decode cX8_say 24 = .ok (.ireturn, 1) := by decide +kernel
theorem dX8_say_25 : decode cX8_say 25 = .ok (.iload_n 1, 1) := by decide +kernel
theorem dX8_say_26 : decode cX8_say 26 = .ok (.invokestatic 43, 3) := by decide +kernel
theorem dX8_say_29 : decode cX8_say 29 = .ok (.istore_n 3, 1) := by decide +kernel
theorem dX8_say_30 : decode cX8_say 30 = .ok (.aload_n 0, 1) := by decide +kernel
theorem dX8_say_31 : decode cX8_say 31 = .ok (.getfield 47, 3) := by decide +kernel
theorem dX8_say_34 : decode cX8_say 34 = .ok (.iload_n 3, 1) := by decide +kernel
theorem dX8_say_35 : decode cX8_say 35 = .ok (.isub, 1) := by decide +kernel
theorem dX8_say_36 : decode cX8_say 36 = .ok (.istore 4, 2) := by decide +kernel
theorem dX8_say_38 : decode cX8_say 38 = .ok (.iload 4, 2) := by decide +kernel
theorem dX8_say_40 : decode cX8_say 40 = .ok (.ifCond .lt 10, 3) := by decide +kernel
theorem dX8_say_43 : decode cX8_say 43 = .ok (.iload 4, 2) := by decide +kernel
theorem dX8_say_45 : decode cX8_say 45 = .ok (.bipush 8, 2) := by decide +kernel
theorem dX8_say_47 : decode cX8_say 47 = .ok (.if_icmp .lt 5, 3) := by decide +kernel
theorem dX8_say_50 : decode cX8_say 50 = .ok (.iconst 0, 1) := by decide +kernel
theorem dX8_say_51 : decode cX8_say 51 = .ok (.ireturn, 1) := by decide +kernel
theorem dX8_say_52 : decode cX8_say 52 = .ok (.iload_n 3, 1) := by decide +kernel
theorem dX8_say_53 : decode cX8_say 53 = .ok (.ifCond .ne 7, 3) := by decide +kernel
theorem dX8_say_56 : decode cX8_say 56 = .ok (.aconst_null, 1) := by decide +kernel
theorem dX8_say_57 : decode cX8_say 57 = .ok (.goto 10, 3) := by decide +kernel
theorem dX8_say_60 : decode cX8_say 60 = .ok (.aload_n 0, 1) := by decide +kernel
theorem dX8_say_61 : decode cX8_say 61 = .ok (.getfield 11, 3) := by decide +kernel
theorem dX8_say_64 : decode cX8_say 64 = .ok (.iload 4, 2) := by decide +kernel
theorem dX8_say_66 : decode cX8_say 66 = .ok (.aaload, 1) := by decide +kernel
theorem dX8_say_67 : decode cX8_say 67 = .ok (.astore 5, 2) := by decide +kernel
theorem dX8_say_69 : decode cX8_say 69 = .ok (.iload_n 3, 1) := by decide +kernel
theorem dX8_say_70 : decode cX8_say 70 = .ok (.iconst 2, 1) := by decide +kernel
theorem dX8_say_71 : decode cX8_say 71 = .ok (.if_icmp .ne 15, 3) := by decide +kernel
theorem dX8_say_74 : decode cX8_say 74 = .ok (.aload_n 0, 1) := by decide +kernel
theorem dX8_say_75 : decode cX8_say 75 = .ok (.getfield 11, 3) := by decide +kernel
theorem dX8_say_78 : decode cX8_say 78 = .ok (.iload 4, 2) := by decide +kernel
theorem dX8_say_80 : decode cX8_say 80 = .ok (.iconst 1, 1) := by decide +kernel
theorem dX8_say_81 : decode cX8_say 81 = .ok (.iadd, 1) := by decide +kernel
theorem dX8_say_82 : decode cX8_say 82 = .ok (.aaload, 1) := by decide +kernel
theorem dX8_say_83 : decode cX8_say 83 = .ok (.goto 4, 3) := by decide +kernel
theorem dX8_say_86 : decode cX8_say 86 = .ok (.aconst_null, 1) := by decide +kernel
theorem dX8_say_87 : decode cX8_say 87 = .ok (.astore 6, 2) := by decide +kernel
theorem dX8_say_89 : decode cX8_say 89 = .ok (.iload_n 1, 1) := by decide +kernel
theorem dX8_say_90 : decode cX8_say 90 = .ok (.aload 5, 2) := by decide +kernel
theorem dX8_say_92 : decode cX8_say 92 = .ok (.invokestatic 50, 3) := by decide +kernel
theorem dX8_say_95 : decode cX8_say 95 = .ok (.ifCond .eq 30, 3) := by decide +kernel
theorem dX8_say_98 : decode cX8_say 98 = .ok (.iload_n 1, 1) := by decide +kernel
theorem dX8_say_99 : decode cX8_say 99 = .ok (.aload 6, 2) := by decide +kernel
theorem dX8_say_101 : decode cX8_say 101 = .ok (.invokestatic 50, 3) := by decide +kernel
theorem dX8_say_104 : decode cX8_say 104 = .ok (.ifCond .eq 21, 3) := by decide +kernel
theorem dX8_say_107 : decode cX8_say 107 = .ok (.iconst 1, 1) := by decide +kernel
theorem dX8_say_108 : decode cX8_say 108 = .ok (.aload 5, 2) := by decide +kernel
theorem dX8_say_110 : decode cX8_say 110 = .ok (.invokestatic 54, 3) := by decide +kernel
theorem dX8_say_113 : decode cX8_say 113 = .ok (.iadd, 1) := by decide +kernel
theorem dX8_say_114 : decode cX8_say 114 = .ok (.aload 6, 2) := by decide +kernel
theorem dX8_say_116 : decode cX8_say 116 = .ok (.invokestatic 54, 3) := by decide +kernel
theorem dX8_say_119 : decode cX8_say 119 = .ok (.iadd, 1) := by decide +kernel
theorem dX8_say_120 : decode cX8_say 120 = .ok (.bipush 15, 2) := by decide +kernel
theorem dX8_say_122 : decode cX8_say 122 = .ok (.if_icmp .le 5, 3) := by decide +kernel
theorem dX8_say_125 : decode cX8_say 125 = .ok (.iconst 0, 1) := by decide +kernel
theorem dX8_say_126 : decode cX8_say 126 = .ok (.ireturn, 1) := by decide +kernel
theorem dX8_say_127 : decode cX8_say 127 = .ok (.aload_n 0, 1) := by decide +kernel
theorem dX8_say_128 : decode cX8_say 128 = .ok (.getfield 11, 3) := by decide +kernel
theorem dX8_say_131 : decode cX8_say 131 = .ok (.iload 4, 2) := by decide +kernel
theorem dX8_say_133 : decode cX8_say 133 = .ok (.new 9, 3) := by decide +kernel
theorem dX8_say_136 : decode cX8_say 136 = .ok (.dup, 1) := by decide +kernel
theorem dX8_say_137 : decode cX8_say 137 = .ok (.iload_n 1, 1) := by decide +kernel
theorem dX8_say_138 : decode cX8_say 138 = .ok (.iload_n 1, 1) := by decide +kernel
theorem dX8_say_139 : decode cX8_say 139 = .ok (.invokestatic 58, 3) := by decide +kernel
theorem dX8_say_142 : decode cX8_say 142 = .ok (.ifCond .eq 7, 3) := by decide +kernel
theorem dX8_say_145 : decode cX8_say 145 = .ok (.iload_n 2, 1) := by decide +kernel
theorem dX8_say_146 : decode cX8_say 146 = .ok (.goto 4, 3) := by decide +kernel
theorem dX8_say_149 : decode cX8_say 149 = .ok (.iconst 0, 1) := by decide +kernel
theorem dX8_say_150 : decode cX8_say 150 = .ok (.aload 5, 2) := by decide +kernel
theorem dX8_say_152 : decode cX8_say 152 = .ok (.aload 6, 2) := by decide +kernel
theorem dX8_say_154 : decode cX8_say 154 = .ok (.invokespecial 61, 3) := by decide +kernel
theorem dX8_say_157 : decode cX8_say 157 = .ok (.aastore, 1) := by decide +kernel
theorem dX8_say_158 : decode cX8_say 158 = .ok (.aload_n 0, 1) := by decide +kernel
theorem dX8_say_159 : decode cX8_say 159 = .ok (.iload 4, 2) := by decide +kernel
theorem dX8_say_161 : decode cX8_say 161 = .ok (.iconst 1, 1) := by decide +kernel
theorem dX8_say_162 : decode cX8_say 162 = .ok (.iadd, 1) := by decide +kernel
theorem dX8_say_163 : decode cX8_say 163 = .ok (.putfield 47, 3) := by decide +kernel
theorem dX8_say_166 : decode cX8_say 166 = .ok (.iconst 1, 1) := by decide +kernel
theorem dX8_say_167 : decode cX8_say 167 = .ok (.ireturn, 1) := by decide +kernel
theorem dX8_index_0 : decode cX8_index 0 = .ok (.aload_n 0, 1) := by decide +kernel
theorem dX8_index_1 : decode cX8_index 1 = .ok (.invokevirtual 64, 3) := by decide +kernel
theorem dX8_index_4 : decode cX8_index 4 = .ok (.astore_n 1, 1) := by decide +kernel
theorem dX8_index_5 : decode cX8_index 5 = .ok (.aload_n 1, 1) := by decide +kernel
theorem dX8_index_6 : decode cX8_index 6 = .ok (.ifnull 25, 3) := by decide +kernel
theorem dX8_index_9 : decode cX8_index 9 = .ok (.aload_n 1, 1) := by decide +kernel
theorem dX8_index_10 : decode cX8_index 10 = .ok (.invokevirtual 68, 3) := by decide +kernel
theorem dX8_index_13 : decode cX8_index 13 = .ok (.ifCond .ne 18, 3) := by decide +kernel
theorem dX8_index_16 : decode cX8_index 16 = .ok (.aload_n 0, 1) := by decide +kernel
theorem dX8_index_17 : decode cX8_index 17 = .ok (.getfield 72, 3) := by decide +kernel
theorem dX8_index_20 : decode cX8_index 20 = .ok (.iconst 3, 1) := by decide +kernel
theorem dX8_index_21 : decode cX8_index 21 = .ok (.if_icmp .ge 10, 3) := by decide +kernel
theorem dX8_index_24 : decode cX8_index 24 = .ok (.aload_n 0, 1) := by decide +kernel
theorem dX8_index_25 : decode cX8_index 25 = .ok (.getfield 75, 3) := by decide +kernel
theorem dX8_index_28 : decode cX8_index 28 = .ok (.ifCond .le 5, 3) := by decide +kernel
theorem dX8_index_31 : decode cX8_index 31 = .ok (.iconst (-1), 1) := by decide +kernel
theorem dX8_index_32 : decode cX8_index 32 = .ok (.ireturn, 1) := by decide +kernel
theorem dX8_index_33 : decode cX8_index 33 = .ok (.aload_n 0, 1) := by decide +kernel
theorem dX8_index_34 : decode cX8_index 34 = .ok (.dup, 1) := by decide +kernel
theorem dX8_index_35 : decode cX8_index 35 = .ok (.getfield 47, 3) := by decide +kernel
theorem dX8_index_38 : decode cX8_index 38 = .ok (.iconst 1, 1) := by decide +kernel
theorem dX8_index_39 : decode cX8_index 39 = .ok (.isub, 1) := by decide +kernel
theorem dX8_index_40 : decode cX8_index 40 = .ok (.putfield 47, 3) := by decide +kernel
theorem dX8_index_43 : decode cX8_index 43 = .ok (.aload_n 0, 1) := by decide +kernel
theorem dX8_index_44 : decode cX8_index 44 = .ok (.getfield 15, 3) := by decide +kernel
theorem dX8_index_47 : decode cX8_index 47 = .ok (.aload_n 0, 1) := by decide +kernel
theorem dX8_index_48 : decode cX8_index 48 = .ok (.getfield 72, 3) := by decide +kernel
theorem dX8_index_51 : decode cX8_index 51 = .ok (.aload_n 1, 1) := by decide +kernel
theorem dX8_index_52 : decode cX8_index 52 = .ok (.aastore, 1) := by decide +kernel
theorem dX8_index_53 : decode cX8_index 53 = .ok (.aload_n 0, 1) := by decide +kernel
theorem dX8_index_54 : decode cX8_index 54 = .ok (.dup, 1) := by decide +kernel
theorem dX8_index_55 : decode cX8_index 55 = .ok (.getfield 72, 3) := by decide +kernel
theorem dX8_index_58 : decode cX8_index 58 = .ok (.iconst 1, 1) := by decide +kernel
theorem dX8_index_59 : decode cX8_index 59 = .ok (.iadd, 1) := by decide +kernel
theorem dX8_index_60 : decode cX8_index 60 = .ok (.putfield 72, 3) := by decide +kernel
theorem dX8_index_63 : decode cX8_index 63 = .ok (.aload_n 0, 1) := by decide +kernel
theorem dX8_index_64 : decode cX8_index 64 = .ok (.getfield 72, 3) := by decide +kernel
theorem dX8_index_67 : decode cX8_index 67 = .ok (.iconst 1, 1) := by decide +kernel
theorem dX8_index_68 : decode cX8_index 68 = .ok (.isub, 1) := by decide +kernel
theorem dX8_index_69 : decode cX8_index 69 = .ok (.ireturn, 1) := by decide +kernel
theorem dX8_begin_0 : decode cX8_begin 0 = .ok (.aload_n 0, 1) := by decide +kernel
theorem dX8_begin_1 : decode cX8_begin 1 = .ok (.getfield 78, 3) := by decide +kernel
theorem dX8_begin_4 : decode cX8_begin 4 = .ok (.bipush 60, 2) := by decide +kernel
theorem dX8_begin_6 : decode cX8_begin 6 = .ok (.if_icmp .ge 11, 3) := by decide +kernel
theorem dX8_begin_9 : decode cX8_begin 9 = .ok (.aload_n 0, 1) := by decide +kernel
theorem dX8_begin_10 : decode cX8_begin 10 = .ok (.invokevirtual 81, 3) := by decide +kernel
theorem dX8_begin_13 : decode cX8_begin 13 = .ok (.iconst 5, 1) := by decide +kernel
theorem dX8_begin_14 : decode cX8_begin 14 = .ok (.if_icmp .lt 5, 3) := by decide +kernel
theorem dX8_begin_17 : decode cX8_begin 17 = .ok (.iconst (-1), 1) := by decide +kernel
theorem dX8_begin_18 : decode cX8_begin 18 = .ok (.ireturn, 1) := by decide +kernel
theorem dX8_begin_19 : decode cX8_begin 19 = .ok (.aload_n 0, 1) := by decide +kernel
theorem dX8_begin_20 : decode cX8_begin 20 = .ok (.getfield 20, 3) := by decide +kernel
theorem dX8_begin_23 : decode cX8_begin 23 = .ok (.aload_n 0, 1) := by decide +kernel
theorem dX8_begin_24 : decode cX8_begin 24 = .ok (.getfield 78, 3) := by decide +kernel
theorem dX8_begin_27 : decode cX8_begin 27 = .ok (.new 18, 3) := by decide +kernel
theorem dX8_begin_30 : decode cX8_begin 30 = .ok (.dup, 1) := by decide +kernel
theorem dX8_begin_31 : decode cX8_begin 31 = .ok (.aload_n 0, 1) := by decide +kernel
theorem dX8_begin_32 : decode cX8_begin 32 = .ok (.getfield 75, 3) := by decide +kernel
theorem dX8_begin_35 : decode cX8_begin 35 = .ok (.invokespecial 85, 3) := by decide +kernel
theorem dX8_begin_38 : decode cX8_begin 38 = .ok (.aastore, 1) := by decide +kernel
theorem dX8_begin_39 : decode cX8_begin 39 = .ok (.aload_n 0, 1) := by decide +kernel
theorem dX8_begin_40 : decode cX8_begin 40 = .ok (.dup, 1) := by decide +kernel
theorem dX8_begin_41 : decode cX8_begin 41 = .ok (.getfield 78, 3) := by decide +kernel
theorem dX8_begin_44 : decode cX8_begin 44 = .ok (.iconst 1, 1) := by decide +kernel
theorem dX8_begin_45 : decode cX8_begin 45 = .ok (.iadd, 1) := by decide +kernel
theorem dX8_begin_46 : decode cX8_begin 46 = .ok (.putfield 78, 3) := by decide +kernel
theorem dX8_begin_49 : decode cX8_begin 49 = .ok (.aload_n 0, 1) := by decide +kernel
theorem dX8_begin_50 : decode cX8_begin 50 = .ok (.getfield 78, 3) := by decide +kernel
theorem dX8_begin_53 : decode cX8_begin 53 = .ok (.iconst 1, 1) := by decide +kernel
theorem dX8_begin_54 : decode cX8_begin 54 = .ok (.isub, 1) := by decide +kernel
theorem dX8_begin_55 : decode cX8_begin 55 = .ok (.ireturn, 1) := by decide +kernel
theorem dX8_read_0 : decode cX8_read 0 = .ok (.aload_n 0, 1) := by decide +kernel
theorem dX8_read_1 : decode cX8_read 1 = .ok (.iload_n 1, 1) := by decide +kernel
theorem dX8_read_2 : decode cX8_read 2 = .ok (.invokevirtual 88, 3) := by decide +kernel
theorem dX8_read_5 : decode cX8_read 5 = .ok (.astore 4, 2) := by decide +kernel
theorem dX8_read_7 : decode cX8_read 7 = .ok (.aload 4, 2) := by decide +kernel
theorem dX8_read_9 : decode cX8_read 9 = .ok (.ifnull 19, 3) := by decide +kernel
theorem dX8_read_12 : decode cX8_read 12 = .ok (.iload_n 2, 1) := by decide +kernel
theorem dX8_read_13 : decode cX8_read 13 = .ok (.invokestatic 92, 3) := by decide +kernel
theorem dX8_read_16 : decode cX8_read 16 = .ok (.ifCond .eq 12, 3) := by decide +kernel
theorem dX8_read_19 : decode cX8_read 19 = .ok (.iload_n 3, 1) := by decide +kernel
theorem dX8_read_20 : decode cX8_read 20 = .ok (.ifCond .lt 8, 3) := by decide +kernel
theorem dX8_read_23 : decode cX8_read 23 = .ok (.iload_n 3, 1) := by decide +kernel
theorem dX8_read_24 : decode cX8_read 24 = .ok (.iconst 3, 1) := by decide +kernel
theorem dX8_read_25 : decode cX8_read 25 = .ok (.if_icmp .le 5, 3) := by decide +kernel
theorem dX8_read_28 : decode cX8_read 28 = .ok (.iconst (-1), 1) := by decide +kernel
theorem dX8_read_29 : decode cX8_read 29 = .ok (.ireturn, 1) := by decide +kernel
theorem dX8_read_30 : decode cX8_read 30 = .ok (.aload_n 0, 1) := by decide +kernel
theorem dX8_read_31 : decode cX8_read 31 = .ok (.aload 4, 2) := by decide +kernel
theorem dX8_read_33 : decode cX8_read 33 = .ok (.iload_n 2, 1) := by decide +kernel
theorem dX8_read_34 : decode cX8_read 34 = .ok (.invokevirtual 95, 3) := by decide +kernel
theorem dX8_read_37 : decode cX8_read 37 = .ok (.astore 5, 2) := by decide +kernel
theorem dX8_read_39 : decode cX8_read 39 = .ok (.aload 5, 2) := by decide +kernel
theorem dX8_read_41 : decode cX8_read 41 = .ok (.ifnonnull 5, 3) := by decide +kernel
theorem dX8_read_44 : decode cX8_read 44 = .ok (.iconst 0, 1) := by decide +kernel
theorem dX8_read_45 : decode cX8_read 45 = .ok (.ireturn, 1) := by decide +kernel
theorem dX8_read_46 : decode cX8_read 46 = .ok (.iload_n 3, 1) := by decide +kernel
theorem dX8_read_47 : decode cX8_read 47 = .ok (.tableswitch 43 0 2 #[25, 31, 37], 25) := by decide +kernel
theorem dX8_read_72 : decode cX8_read 72 = .ok (.aload 5, 2) := by decide +kernel
theorem dX8_read_74 : decode cX8_read 74 = .ok (.getfield 99, 3) := by decide +kernel
theorem dX8_read_77 : decode cX8_read 77 = .ok (.ireturn, 1) := by decide +kernel
theorem dX8_read_78 : decode cX8_read 78 = .ok (.aload 5, 2) := by decide +kernel
theorem dX8_read_80 : decode cX8_read 80 = .ok (.getfield 104, 3) := by decide +kernel
theorem dX8_read_83 : decode cX8_read 83 = .ok (.ireturn, 1) := by decide +kernel
theorem dX8_read_84 : decode cX8_read 84 = .ok (.aload 5, 2) := by decide +kernel
theorem dX8_read_86 : decode cX8_read 86 = .ok (.getfield 107, 3) := by decide +kernel
theorem dX8_read_89 : decode cX8_read 89 = .ok (.ireturn, 1) := by decide +kernel
theorem dX8_read_90 : decode cX8_read 90 = .ok (.iconst 1, 1) := by decide +kernel
theorem dX8_read_91 : decode cX8_read 91 = .ok (.ireturn, 1) := by decide +kernel
theorem dX8_write_0 : decode cX8_write 0 = .ok (.aload_n 0, 1) := by decide +kernel
theorem dX8_write_1 : decode cX8_write 1 = .ok (.iload_n 1, 1) := by decide +kernel
theorem dX8_write_2 : decode cX8_write 2 = .ok (.invokevirtual 88, 3) := by decide +kernel
theorem dX8_write_5 : decode cX8_write 5 = .ok (.astore 6, 2) := by decide +kernel
theorem dX8_write_7 : decode cX8_write 7 = .ok (.aload 6, 2) := by decide +kernel
theorem dX8_write_9 : decode cX8_write 9 = .ok (.ifnull 29, 3) := by decide +kernel
theorem dX8_write_12 : decode cX8_write 12 = .ok (.iload_n 2, 1) := by decide +kernel
theorem dX8_write_13 : decode cX8_write 13 = .ok (.invokestatic 92, 3) := by decide +kernel
theorem dX8_write_16 : decode cX8_write 16 = .ok (.ifCond .eq 22, 3) := by decide +kernel
theorem dX8_write_19 : decode cX8_write 19 = .ok (.iload 4, 2) := by decide +kernel
theorem dX8_write_21 : decode cX8_write 21 = .ok (.ifCond .lt 17, 3) := by decide +kernel
theorem dX8_write_24 : decode cX8_write 24 = .ok (.iload 4, 2) := by decide +kernel
theorem dX8_write_26 : decode cX8_write 26 = .ok (.iconst 1, 1) := by decide +kernel
theorem dX8_write_27 : decode cX8_write 27 = .ok (.if_icmp .gt 11, 3) := by decide +kernel
theorem dX8_write_30 : decode cX8_write 30 = .ok (.iload 5, 2) := by decide +kernel
theorem dX8_write_32 : decode cX8_write 32 = .ok (.invokestatic 39, 3) := by decide +kernel
theorem dX8_write_35 : decode cX8_write 35 = .ok (.ifCond .ne 5, 3) := by decide +kernel
theorem dX8_write_38 : decode cX8_write 38 = .ok (.iconst 0, 1) := by decide +kernel
theorem dX8_write_39 : decode cX8_write 39 = .ok (.ireturn, 1) := by decide +kernel
theorem dX8_write_40 : decode cX8_write 40 = .ok (.aload 6, 2) := by decide +kernel
theorem dX8_write_42 : decode cX8_write 42 = .ok (.iload_n 2, 1) := by decide +kernel
theorem dX8_write_43 : decode cX8_write 43 = .ok (.new 100, 3) := by decide +kernel
theorem dX8_write_46 : decode cX8_write 46 = .ok (.dup, 1) := by decide +kernel
theorem dX8_write_47 : decode cX8_write 47 = .ok (.iload_n 3, 1) := by decide +kernel
theorem dX8_write_48 : decode cX8_write 48 = .ok (.iload 4, 2) := by decide +kernel
theorem dX8_write_50 : decode cX8_write 50 = .ok (.iload 5, 2) := by decide +kernel
theorem dX8_write_52 : decode cX8_write 52 = .ok (.invokespecial 110, 3) := by decide +kernel
theorem dX8_write_55 : decode cX8_write 55 = .ok (.invokevirtual 113, 3) := by decide +kernel
theorem dX8_write_58 : decode cX8_write 58 = .ok (.iconst 1, 1) := by decide +kernel
theorem dX8_write_59 : decode cX8_write 59 = .ok (.ireturn, 1) := by decide +kernel
theorem dX8_remove_0 : decode cX8_remove 0 = .ok (.aload_n 0, 1) := by decide +kernel
theorem dX8_remove_1 : decode cX8_remove 1 = .ok (.iload_n 1, 1) := by decide +kernel
theorem dX8_remove_2 : decode cX8_remove 2 = .ok (.invokevirtual 88, 3) := by decide +kernel
theorem dX8_remove_5 : decode cX8_remove 5 = .ok (.astore_n 3, 1) := by decide +kernel
theorem dX8_remove_6 : decode cX8_remove 6 = .ok (.aload_n 3, 1) := by decide +kernel
theorem dX8_remove_7 : decode cX8_remove 7 = .ok (.ifnull 10, 3) := by decide +kernel
theorem dX8_remove_10 : decode cX8_remove 10 = .ok (.iload_n 2, 1) := by decide +kernel
theorem dX8_remove_11 : decode cX8_remove 11 = .ok (.invokestatic 92, 3) := by decide +kernel
theorem dX8_remove_14 : decode cX8_remove 14 = .ok (.ifCond .ne 5, 3) := by decide +kernel
theorem dX8_remove_17 : decode cX8_remove 17 = .ok (.iconst 0, 1) := by decide +kernel
theorem dX8_remove_18 : decode cX8_remove 18 = .ok (.ireturn, 1) := by decide +kernel
theorem dX8_remove_19 : decode cX8_remove 19 = .ok (.aload_n 3, 1) := by decide +kernel
theorem dX8_remove_20 : decode cX8_remove 20 = .ok (.iload_n 2, 1) := by decide +kernel
theorem dX8_remove_21 : decode cX8_remove 21 = .ok (.aconst_null, 1) := by decide +kernel
theorem dX8_remove_22 : decode cX8_remove 22 = .ok (.invokevirtual 113, 3) := by decide +kernel
theorem dX8_remove_25 : decode cX8_remove 25 = .ok (.iconst 1, 1) := by decide +kernel
theorem dX8_remove_26 : decode cX8_remove 26 = .ok (.ireturn, 1) := by decide +kernel
theorem dX8_query_0 : decode cX8_query 0 = .ok (.aload_n 0, 1) := by decide +kernel
theorem dX8_query_1 : decode cX8_query 1 = .ok (.iload_n 1, 1) := by decide +kernel
theorem dX8_query_2 : decode cX8_query 2 = .ok (.invokevirtual 88, 3) := by decide +kernel
theorem dX8_query_5 : decode cX8_query 5 = .ok (.astore_n 2, 1) := by decide +kernel
theorem dX8_query_6 : decode cX8_query 6 = .ok (.aload_n 0, 1) := by decide +kernel
theorem dX8_query_7 : decode cX8_query 7 = .ok (.invokevirtual 64, 3) := by decide +kernel
theorem dX8_query_10 : decode cX8_query 10 = .ok (.astore_n 3, 1) := by decide +kernel
theorem dX8_query_11 : decode cX8_query 11 = .ok (.aload_n 2, 1) := by decide +kernel
theorem dX8_query_12 : decode cX8_query 12 = .ok (.ifnull 14, 3) := by decide +kernel
theorem dX8_query_15 : decode cX8_query 15 = .ok (.aload_n 3, 1) := by decide +kernel
theorem dX8_query_16 : decode cX8_query 16 = .ok (.ifnull 10, 3) := by decide +kernel
theorem dX8_query_19 : decode cX8_query 19 = .ok (.aload_n 3, 1) := by decide +kernel
theorem dX8_query_20 : decode cX8_query 20 = .ok (.invokevirtual 68, 3) := by decide +kernel
theorem dX8_query_23 : decode cX8_query 23 = .ok (.ifCond .ne 5, 3) := by decide +kernel
theorem dX8_query_26 : decode cX8_query 26 = .ok (.iconst (-1), 1) := by decide +kernel
theorem dX8_query_27 : decode cX8_query 27 = .ok (.ireturn, 1) := by decide +kernel
theorem dX8_query_28 : decode cX8_query 28 = .ok (.aload_n 0, 1) := by decide +kernel
theorem dX8_query_29 : decode cX8_query 29 = .ok (.dup, 1) := by decide +kernel
theorem dX8_query_30 : decode cX8_query 30 = .ok (.getfield 47, 3) := by decide +kernel
theorem dX8_query_33 : decode cX8_query 33 = .ok (.iconst 1, 1) := by decide +kernel
theorem dX8_query_34 : decode cX8_query 34 = .ok (.isub, 1) := by decide +kernel
theorem dX8_query_35 : decode cX8_query 35 = .ok (.putfield 47, 3) := by decide +kernel
theorem dX8_query_38 : decode cX8_query 38 = .ok (.aload_n 0, 1) := by decide +kernel
theorem dX8_query_39 : decode cX8_query 39 = .ok (.aload_n 3, 1) := by decide +kernel
theorem dX8_query_40 : decode cX8_query 40 = .ok (.invokevirtual 117, 3) := by decide +kernel
theorem dX8_query_43 : decode cX8_query 43 = .ok (.aload_n 0, 1) := by decide +kernel
theorem dX8_query_44 : decode cX8_query 44 = .ok (.aload_n 2, 1) := by decide +kernel
theorem dX8_query_45 : decode cX8_query 45 = .ok (.getfield 121, 3) := by decide +kernel
theorem dX8_query_48 : decode cX8_query 48 = .ok (.invokevirtual 124, 3) := by decide +kernel
theorem dX8_query_51 : decode cX8_query 51 = .ok (.aload_n 0, 1) := by decide +kernel
theorem dX8_query_52 : decode cX8_query 52 = .ok (.aload_n 3, 1) := by decide +kernel
theorem dX8_query_53 : decode cX8_query 53 = .ok (.aload_n 2, 1) := by decide +kernel
theorem dX8_query_54 : decode cX8_query 54 = .ok (.invokevirtual 127, 3) := by decide +kernel
theorem dX8_query_57 : decode cX8_query 57 = .ok (.aload_n 0, 1) := by decide +kernel
theorem dX8_query_58 : decode cX8_query 58 = .ok (.getfield 131, 3) := by decide +kernel
theorem dX8_query_61 : decode cX8_query 61 = .ok (.ireturn, 1) := by decide +kernel
theorem dX8_commit_0 : decode cX8_commit 0 = .ok (.aload_n 0, 1) := by decide +kernel
theorem dX8_commit_1 : decode cX8_commit 1 = .ok (.iload_n 1, 1) := by decide +kernel
theorem dX8_commit_2 : decode cX8_commit 2 = .ok (.invokevirtual 88, 3) := by decide +kernel
theorem dX8_commit_5 : decode cX8_commit 5 = .ok (.astore_n 2, 1) := by decide +kernel
theorem dX8_commit_6 : decode cX8_commit 6 = .ok (.aload_n 2, 1) := by decide +kernel
theorem dX8_commit_7 : decode cX8_commit 7 = .ok (.ifnonnull 5, 3) := by decide +kernel
theorem dX8_commit_10 : decode cX8_commit 10 = .ok (.iconst (-1), 1) := by decide +kernel
theorem dX8_commit_11 : decode cX8_commit 11 = .ok (.ireturn, 1) := by decide +kernel
theorem dX8_commit_12 : decode cX8_commit 12 = .ok (.aload_n 0, 1) := by decide +kernel
theorem dX8_commit_13 : decode cX8_commit 13 = .ok (.aload_n 2, 1) := by decide +kernel
theorem dX8_commit_14 : decode cX8_commit 14 = .ok (.invokevirtual 134, 3) := by decide +kernel
theorem dX8_commit_17 : decode cX8_commit 17 = .ok (.ifCond .eq 11, 3) := by decide +kernel
theorem dX8_commit_20 : decode cX8_commit 20 = .ok (.aload_n 2, 1) := by decide +kernel
theorem dX8_commit_21 : decode cX8_commit 21 = .ok (.iconst 3, 1) := by decide +kernel
theorem dX8_commit_22 : decode cX8_commit 22 = .ok (.putfield 138, 3) := by decide +kernel
theorem dX8_commit_25 : decode cX8_commit 25 = .ok (.bipush (-2), 2) := by decide +kernel
theorem dX8_commit_27 : decode cX8_commit 27 = .ok (.ireturn, 1) := by decide +kernel
theorem dX8_commit_28 : decode cX8_commit 28 = .ok (.aload_n 2, 1) := by decide +kernel
theorem dX8_commit_29 : decode cX8_commit 29 = .ok (.getfield 141, 3) := by decide +kernel
theorem dX8_commit_32 : decode cX8_commit 32 = .ok (.ifCond .ne 13, 3) := by decide +kernel
theorem dX8_commit_35 : decode cX8_commit 35 = .ok (.aload_n 2, 1) := by decide +kernel
theorem dX8_commit_36 : decode cX8_commit 36 = .ok (.iconst 2, 1) := by decide +kernel
theorem dX8_commit_37 : decode cX8_commit 37 = .ok (.putfield 138, 3) := by decide +kernel
theorem dX8_commit_40 : decode cX8_commit 40 = .ok (.aload_n 2, 1) := by decide +kernel
theorem dX8_commit_41 : decode cX8_commit 41 = .ok (.getfield 121, 3) := by decide +kernel
theorem dX8_commit_44 : decode cX8_commit 44 = .ok (.ireturn, 1) := by decide +kernel
theorem dX8_commit_45 : decode cX8_commit 45 = .ok (.aload_n 0, 1) := by decide +kernel
theorem dX8_commit_46 : decode cX8_commit 46 = .ok (.getfield 27, 3) := by decide +kernel
theorem dX8_commit_49 : decode cX8_commit 49 = .ok (.aload_n 0, 1) := by decide +kernel
theorem dX8_commit_50 : decode cX8_commit 50 = .ok (.aload_n 2, 1) := by decide +kernel
theorem dX8_commit_51 : decode cX8_commit 51 = .ok (.invokevirtual 145, 3) := by decide +kernel
theorem dX8_commit_54 : decode cX8_commit 54 = .ok (.invokevirtual 149, 3) := by decide +kernel
theorem dX8_commit_57 : decode cX8_commit 57 = .ok (.ifCond .ne 6, 3) := by decide +kernel
theorem dX8_commit_60 : decode cX8_commit 60 = .ok (.bipush (-3), 2) := by decide +kernel
theorem dX8_commit_62 : decode cX8_commit 62 = .ok (.ireturn, 1) := by decide +kernel
theorem dX8_commit_63 : decode cX8_commit 63 = .ok (.aload_n 0, 1) := by decide +kernel
theorem dX8_commit_64 : decode cX8_commit 64 = .ok (.aload_n 2, 1) := by decide +kernel
theorem dX8_commit_65 : decode cX8_commit 65 = .ok (.invokevirtual 152, 3) := by decide +kernel
theorem dX8_commit_68 : decode cX8_commit 68 = .ok (.aload_n 0, 1) := by decide +kernel
theorem dX8_commit_69 : decode cX8_commit 69 = .ok (.getfield 27, 3) := by decide +kernel
theorem dX8_commit_72 : decode cX8_commit 72 = .ok (.getfield 156, 3) := by decide +kernel
theorem dX8_commit_75 : decode cX8_commit 75 = .ok (.bipush 20, 2) := by decide +kernel
theorem dX8_commit_77 : decode cX8_commit 77 = .ok (.if_icmp .lt 7, 3) := by decide +kernel
theorem dX8_commit_80 : decode cX8_commit 80 = .ok (.aload_n 0, 1) := by decide +kernel
theorem dX8_commit_81 : decode cX8_commit 81 = .ok (.invokevirtual 159, 3) := by decide +kernel
theorem dX8_commit_84 : decode cX8_commit 84 = .ok (.aload_n 0, 1) := by decide +kernel
theorem dX8_commit_85 : decode cX8_commit 85 = .ok (.getfield 75, 3) := by decide +kernel
theorem dX8_commit_88 : decode cX8_commit 88 = .ok (.ireturn, 1) := by decide +kernel
theorem dX8_tear_0 : decode cX8_tear 0 = .ok (.aload_n 0, 1) := by decide +kernel
theorem dX8_tear_1 : decode cX8_tear 1 = .ok (.iload_n 1, 1) := by decide +kernel
theorem dX8_tear_2 : decode cX8_tear 2 = .ok (.invokevirtual 88, 3) := by decide +kernel
theorem dX8_tear_5 : decode cX8_tear 5 = .ok (.astore_n 3, 1) := by decide +kernel
theorem dX8_tear_6 : decode cX8_tear 6 = .ok (.aload_n 3, 1) := by decide +kernel
theorem dX8_tear_7 : decode cX8_tear 7 = .ok (.ifnull 22, 3) := by decide +kernel
theorem dX8_tear_10 : decode cX8_tear 10 = .ok (.iload_n 2, 1) := by decide +kernel
theorem dX8_tear_11 : decode cX8_tear 11 = .ok (.ifCond .lt 18, 3) := by decide +kernel
theorem dX8_tear_14 : decode cX8_tear 14 = .ok (.aload_n 3, 1) := by decide +kernel
theorem dX8_tear_15 : decode cX8_tear 15 = .ok (.getfield 141, 3) := by decide +kernel
theorem dX8_tear_18 : decode cX8_tear 18 = .ok (.ifCond .eq 11, 3) := by decide +kernel
theorem dX8_tear_21 : decode cX8_tear 21 = .ok (.aload_n 0, 1) := by decide +kernel
theorem dX8_tear_22 : decode cX8_tear 22 = .ok (.aload_n 3, 1) := by decide +kernel
theorem dX8_tear_23 : decode cX8_tear 23 = .ok (.invokevirtual 134, 3) := by decide +kernel
theorem dX8_tear_26 : decode cX8_tear 26 = .ok (.ifCond .eq 5, 3) := by decide +kernel
theorem dX8_tear_29 : decode cX8_tear 29 = .ok (.iconst (-1), 1) := by decide +kernel
theorem dX8_tear_30 : decode cX8_tear 30 = .ok (.ireturn, 1) := by decide +kernel
theorem dX8_tear_31 : decode cX8_tear 31 = .ok (.aload_n 0, 1) := by decide +kernel
theorem dX8_tear_32 : decode cX8_tear 32 = .ok (.aload_n 3, 1) := by decide +kernel
theorem dX8_tear_33 : decode cX8_tear 33 = .ok (.invokevirtual 145, 3) := by decide +kernel
theorem dX8_tear_36 : decode cX8_tear 36 = .ok (.istore 4, 2) := by decide +kernel
theorem dX8_tear_38 : decode cX8_tear 38 = .ok (.aload_n 0, 1) := by decide +kernel
theorem dX8_tear_39 : decode cX8_tear 39 = .ok (.getfield 27, 3) := by decide +kernel
theorem dX8_tear_42 : decode cX8_tear 42 = .ok (.iload 4, 2) := by decide +kernel
theorem dX8_tear_44 : decode cX8_tear 44 = .ok (.invokevirtual 149, 3) := by decide +kernel
theorem dX8_tear_47 : decode cX8_tear 47 = .ok (.ifCond .ne 5, 3) := by decide +kernel
theorem dX8_tear_50 : decode cX8_tear 50 = .ok (.iconst (-1), 1) := by decide +kernel
theorem dX8_tear_51 : decode cX8_tear 51 = .ok (.ireturn, 1) := by decide +kernel
theorem dX8_tear_52 : decode cX8_tear 52 = .ok (.iload_n 2, 1) := by decide +kernel
theorem dX8_tear_53 : decode cX8_tear 53 = .ok (.iload 4, 2) := by decide +kernel
theorem dX8_tear_55 : decode cX8_tear 55 = .ok (.if_icmp .le 7, 3) := by decide +kernel
theorem dX8_tear_58 : decode cX8_tear 58 = .ok (.iconst 1, 1) := by decide +kernel
theorem dX8_tear_59 : decode cX8_tear 59 = .ok (.goto 4, 3) := by decide +kernel
theorem dX8_tear_62 : decode cX8_tear 62 = .ok (.iconst 0, 1) := by decide +kernel
theorem dX8_tear_63 : decode cX8_tear 63 = .ok (.istore 5, 2) := by decide +kernel
theorem dX8_tear_65 : decode cX8_tear 65 = .ok (.iload 5, 2) := by decide +kernel
theorem dX8_tear_67 : decode cX8_tear 67 = .ok (.ifCond .eq 8, 3) := by decide +kernel
theorem dX8_tear_70 : decode cX8_tear 70 = .ok (.aload_n 0, 1) := by decide +kernel
theorem dX8_tear_71 : decode cX8_tear 71 = .ok (.aload_n 3, 1) := by decide +kernel
theorem dX8_tear_72 : decode cX8_tear 72 = .ok (.invokevirtual 152, 3) := by decide +kernel
theorem dX8_tear_75 : decode cX8_tear 75 = .ok (.aload_n 0, 1) := by decide +kernel
theorem dX8_tear_76 : decode cX8_tear 76 = .ok (.invokevirtual 162, 3) := by decide +kernel
theorem dX8_tear_79 : decode cX8_tear 79 = .ok (.pop, 1) := by decide +kernel
theorem dX8_tear_80 : decode cX8_tear 80 = .ok (.iload 5, 2) := by decide +kernel
theorem dX8_tear_82 : decode cX8_tear 82 = .ok (.ifCond .eq 7, 3) := by decide +kernel
theorem dX8_tear_85 : decode cX8_tear 85 = .ok (.iconst 1, 1) := by decide +kernel
theorem dX8_tear_86 : decode cX8_tear 86 = .ok (.goto 4, 3) := by decide +kernel
theorem dX8_tear_89 : decode cX8_tear 89 = .ok (.iconst 0, 1) := by decide +kernel
theorem dX8_tear_90 : decode cX8_tear 90 = .ok (.ireturn, 1) := by decide +kernel
theorem dX8_abort_0 : decode cX8_abort 0 = .ok (.aload_n 0, 1) := by decide +kernel
theorem dX8_abort_1 : decode cX8_abort 1 = .ok (.iload_n 1, 1) := by decide +kernel
theorem dX8_abort_2 : decode cX8_abort 2 = .ok (.invokevirtual 88, 3) := by decide +kernel
theorem dX8_abort_5 : decode cX8_abort 5 = .ok (.astore_n 2, 1) := by decide +kernel
theorem dX8_abort_6 : decode cX8_abort 6 = .ok (.aload_n 2, 1) := by decide +kernel
theorem dX8_abort_7 : decode cX8_abort 7 = .ok (.ifnonnull 5, 3) := by decide +kernel
theorem dX8_abort_10 : decode cX8_abort 10 = .ok (.iconst 0, 1) := by decide +kernel
theorem dX8_abort_11 : decode cX8_abort 11 = .ok (.ireturn, 1) := by decide +kernel
theorem dX8_abort_12 : decode cX8_abort 12 = .ok (.aload_n 2, 1) := by decide +kernel
theorem dX8_abort_13 : decode cX8_abort 13 = .ok (.iconst 4, 1) := by decide +kernel
theorem dX8_abort_14 : decode cX8_abort 14 = .ok (.putfield 138, 3) := by decide +kernel
theorem dX8_abort_17 : decode cX8_abort 17 = .ok (.iconst 1, 1) := by decide +kernel
theorem dX8_abort_18 : decode cX8_abort 18 = .ok (.ireturn, 1) := by decide +kernel
theorem dX8_flush_0 : decode cX8_flush 0 = .ok (.aload_n 0, 1) := by decide +kernel
theorem dX8_flush_1 : decode cX8_flush 1 = .ok (.getfield 27, 3) := by decide +kernel
theorem dX8_flush_4 : decode cX8_flush 4 = .ok (.invokevirtual 165, 3) := by decide +kernel
theorem dX8_flush_7 : decode cX8_flush 7 = .ok (.ireturn, 1) := by decide +kernel
theorem dX8_compact_0 : decode cX8_compact 0 = .ok (.aload_n 0, 1) := by decide +kernel
theorem dX8_compact_1 : decode cX8_compact 1 = .ok (.getfield 27, 3) := by decide +kernel
theorem dX8_compact_4 : decode cX8_compact 4 = .ok (.iconst 0, 1) := by decide +kernel
theorem dX8_compact_5 : decode cX8_compact 5 = .ok (.invokevirtual 168, 3) := by decide +kernel
theorem dX8_compact_8 : decode cX8_compact 8 = .ok (.ifCond .le 7, 3) := by decide +kernel
theorem dX8_compact_11 : decode cX8_compact 11 = .ok (.iconst 0, 1) := by decide +kernel
theorem dX8_compact_12 : decode cX8_compact 12 = .ok (.goto 4, 3) := by decide +kernel
theorem dX8_compact_15 : decode cX8_compact 15 = .ok (.iconst 1, 1) := by decide +kernel
theorem dX8_compact_16 : decode cX8_compact 16 = .ok (.istore_n 1, 1) := by decide +kernel
theorem dX8_compact_17 : decode cX8_compact 17 = .ok (.aload_n 0, 1) := by decide +kernel
theorem dX8_compact_18 : decode cX8_compact 18 = .ok (.getfield 27, 3) := by decide +kernel
theorem dX8_compact_21 : decode cX8_compact 21 = .ok (.iload_n 1, 1) := by decide +kernel
theorem dX8_compact_22 : decode cX8_compact 22 = .ok (.aload_n 0, 1) := by decide +kernel
theorem dX8_compact_23 : decode cX8_compact 23 = .ok (.invokevirtual 171, 3) := by decide +kernel
theorem dX8_compact_26 : decode cX8_compact 26 = .ok (.invokevirtual 174, 3) := by decide +kernel
theorem dX8_compact_29 : decode cX8_compact 29 = .ok (.ireturn, 1) := by decide +kernel
theorem dX8_crash_0 : decode cX8_crash 0 = .ok (.aload_n 0, 1) := by decide +kernel
theorem dX8_crash_1 : decode cX8_crash 1 = .ok (.invokevirtual 162, 3) := by decide +kernel
theorem dX8_crash_4 : decode cX8_crash 4 = .ok (.ireturn, 1) := by decide +kernel
theorem dX8_result_0 : decode cX8_result 0 = .ok (.iload_n 1, 1) := by decide +kernel
theorem dX8_result_1 : decode cX8_result 1 = .ok (.ifCond .lt 20, 3) := by decide +kernel
theorem dX8_result_4 : decode cX8_result 4 = .ok (.iload_n 1, 1) := by decide +kernel
theorem dX8_result_5 : decode cX8_result 5 = .ok (.aload_n 0, 1) := by decide +kernel
theorem dX8_result_6 : decode cX8_result 6 = .ok (.getfield 131, 3) := by decide +kernel
theorem dX8_result_9 : decode cX8_result 9 = .ok (.if_icmp .ge 12, 3) := by decide +kernel
theorem dX8_result_12 : decode cX8_result 12 = .ok (.aload_n 0, 1) := by decide +kernel
theorem dX8_result_13 : decode cX8_result 13 = .ok (.getfield 31, 3) := by decide +kernel
theorem dX8_result_16 : decode cX8_result 16 = .ok (.iload_n 1, 1) := by decide +kernel
theorem dX8_result_17 : decode cX8_result 17 = .ok (.iaload, 1) := by decide +kernel
theorem dX8_result_18 : decode cX8_result 18 = .ok (.goto 4, 3) := by decide +kernel
theorem dX8_result_21 : decode cX8_result 21 = .ok (.iconst (-1), 1) := by decide +kernel
theorem dX8_result_22 : decode cX8_result 22 = .ok (.ireturn, 1) := by decide +kernel
theorem dX8_plan_0 : decode cX8_plan 0 = .ok (.iload_n 1, 1) := by decide +kernel
theorem dX8_plan_1 : decode cX8_plan 1 = .ok (.tableswitch 81 0 3 #[31, 37, 43, 62], 31) := by decide +kernel
theorem dX8_plan_32 : decode cX8_plan 32 = .ok (.aload_n 0, 1) := by decide +kernel
theorem dX8_plan_33 : decode cX8_plan 33 = .ok (.getfield 35, 3) := by decide +kernel
theorem dX8_plan_36 : decode cX8_plan 36 = .ok (.i2l, 1) := by decide +kernel
theorem dX8_plan_37 : decode cX8_plan 37 = .ok (.lreturn, 1) := by decide +kernel
theorem dX8_plan_38 : decode cX8_plan 38 = .ok (.aload_n 0, 1) := by decide +kernel
theorem dX8_plan_39 : decode cX8_plan 39 = .ok (.getfield 178, 3) := by decide +kernel
theorem dX8_plan_42 : decode cX8_plan 42 = .ok (.i2l, 1) := by decide +kernel
theorem dX8_plan_43 : decode cX8_plan 43 = .ok (.lreturn, 1) := by decide +kernel
theorem dX8_plan_44 : decode cX8_plan 44 = .ok (.aload_n 0, 1) := by decide +kernel
theorem dX8_plan_45 : decode cX8_plan 45 = .ok (.getfield 181, 3) := by decide +kernel
theorem dX8_plan_48 : decode cX8_plan 48 = .ok (.ifnonnull 7, 3) := by decide +kernel
theorem dX8_plan_51 : decode cX8_plan 51 = .ok (.lconst 0, 1) := by decide +kernel
theorem dX8_plan_52 : decode cX8_plan 52 = .ok (.goto 10, 3) := by decide +kernel
theorem dX8_plan_55 : decode cX8_plan 55 = .ok (.aload_n 0, 1) := by decide +kernel
theorem dX8_plan_56 : decode cX8_plan 56 = .ok (.getfield 181, 3) := by decide +kernel
theorem dX8_plan_59 : decode cX8_plan 59 = .ok (.getfield 185, 3) := by decide +kernel
theorem dX8_plan_62 : decode cX8_plan 62 = .ok (.lreturn, 1) := by decide +kernel
theorem dX8_plan_63 : decode cX8_plan 63 = .ok (.aload_n 0, 1) := by decide +kernel
theorem dX8_plan_64 : decode cX8_plan 64 = .ok (.getfield 181, 3) := by decide +kernel
theorem dX8_plan_67 : decode cX8_plan 67 = .ok (.ifnonnull 7, 3) := by decide +kernel
theorem dX8_plan_70 : decode cX8_plan 70 = .ok (.lconst 0, 1) := by decide +kernel
theorem dX8_plan_71 : decode cX8_plan 71 = .ok (.goto 10, 3) := by decide +kernel
theorem dX8_plan_74 : decode cX8_plan 74 = .ok (.aload_n 0, 1) := by decide +kernel
theorem dX8_plan_75 : decode cX8_plan 75 = .ok (.getfield 181, 3) := by decide +kernel
theorem dX8_plan_78 : decode cX8_plan 78 = .ok (.getfield 191, 3) := by decide +kernel
theorem dX8_plan_81 : decode cX8_plan 81 = .ok (.lreturn, 1) := by decide +kernel
theorem dX8_plan_82 : decode cX8_plan 82 = .ok (.ldc2_w 194, 3) := by decide +kernel
theorem dX8_plan_85 : decode cX8_plan 85 = .ok (.lreturn, 1) := by decide +kernel
theorem dX8_state_0 : decode cX8_state 0 = .ok (.aload_n 0, 1) := by decide +kernel
theorem dX8_state_1 : decode cX8_state 1 = .ok (.iload_n 1, 1) := by decide +kernel
theorem dX8_state_2 : decode cX8_state 2 = .ok (.invokevirtual 196, 3) := by decide +kernel
theorem dX8_state_5 : decode cX8_state 5 = .ok (.astore_n 2, 1) := by decide +kernel
theorem dX8_state_6 : decode cX8_state 6 = .ok (.aload_n 2, 1) := by decide +kernel
theorem dX8_state_7 : decode cX8_state 7 = .ok (.ifnonnull 7, 3) := by decide +kernel
theorem dX8_state_10 : decode cX8_state 10 = .ok (.iconst (-1), 1) := by decide +kernel
theorem dX8_state_11 : decode cX8_state 11 = .ok (.goto 7, 3) := by decide +kernel
theorem dX8_state_14 : decode cX8_state 14 = .ok (.aload_n 2, 1) := by decide +kernel
theorem dX8_state_15 : decode cX8_state 15 = .ok (.getfield 138, 3) := by decide +kernel
theorem dX8_state_18 : decode cX8_state 18 = .ok (.ireturn, 1) := by decide +kernel
theorem dX8_about_0 : decode cX8_about 0 = .ok (.iload_n 1, 1) := by decide +kernel
theorem dX8_about_1 : decode cX8_about 1 = .ok (.tableswitch 92 0 6 #[43, 48, 53, 61, 77, 82, 87], 43) := by decide +kernel
theorem dX8_about_44 : decode cX8_about 44 = .ok (.aload_n 0, 1) := by decide +kernel
theorem dX8_about_45 : decode cX8_about 45 = .ok (.getfield 75, 3) := by decide +kernel
theorem dX8_about_48 : decode cX8_about 48 = .ok (.ireturn, 1) := by decide +kernel
theorem dX8_about_49 : decode cX8_about 49 = .ok (.aload_n 0, 1) := by decide +kernel
theorem dX8_about_50 : decode cX8_about 50 = .ok (.invokevirtual 171, 3) := by decide +kernel
theorem dX8_about_53 : decode cX8_about 53 = .ok (.ireturn, 1) := by decide +kernel
theorem dX8_about_54 : decode cX8_about 54 = .ok (.aload_n 0, 1) := by decide +kernel
theorem dX8_about_55 : decode cX8_about 55 = .ok (.getfield 27, 3) := by decide +kernel
theorem dX8_about_58 : decode cX8_about 58 = .ok (.getfield 156, 3) := by decide +kernel
theorem dX8_about_61 : decode cX8_about 61 = .ok (.ireturn, 1) := by decide +kernel
theorem dX8_about_62 : decode cX8_about 62 = .ok (.aload_n 0, 1) := by decide +kernel
theorem dX8_about_63 : decode cX8_about 63 = .ok (.getfield 27, 3) := by decide +kernel
theorem dX8_about_66 : decode cX8_about 66 = .ok (.getfield 199, 3) := by decide +kernel
theorem dX8_about_69 : decode cX8_about 69 = .ok (.aload_n 0, 1) := by decide +kernel
theorem dX8_about_70 : decode cX8_about 70 = .ok (.getfield 27, 3) := by decide +kernel
theorem dX8_about_73 : decode cX8_about 73 = .ok (.getfield 156, 3) := by decide +kernel
theorem dX8_about_76 : decode cX8_about 76 = .ok (.isub, 1) := by decide +kernel
theorem dX8_about_77 : decode cX8_about 77 = .ok (.ireturn, 1) := by decide +kernel
theorem dX8_about_78 : decode cX8_about 78 = .ok (.aload_n 0, 1) := by decide +kernel
theorem dX8_about_79 : decode cX8_about 79 = .ok (.getfield 47, 3) := by decide +kernel
theorem dX8_about_82 : decode cX8_about 82 = .ok (.ireturn, 1) := by decide +kernel
theorem dX8_about_83 : decode cX8_about 83 = .ok (.aload_n 0, 1) := by decide +kernel
theorem dX8_about_84 : decode cX8_about 84 = .ok (.invokevirtual 202, 3) := by decide +kernel
theorem dX8_about_87 : decode cX8_about 87 = .ok (.ireturn, 1) := by decide +kernel
theorem dX8_about_88 : decode cX8_about 88 = .ok (.aload_n 0, 1) := by decide +kernel
theorem dX8_about_89 : decode cX8_about 89 = .ok (.getfield 72, 3) := by decide +kernel
theorem dX8_about_92 : decode cX8_about 92 = .ok (.ireturn, 1) := by decide +kernel
theorem dX8_about_93 : decode cX8_about 93 = .ok (.iconst (-1), 1) := by decide +kernel
theorem dX8_about_94 : decode cX8_about 94 = .ok (.ireturn, 1) := by decide +kernel
theorem dX8_files_0 : decode cX8_files 0 = .ok (.iload_n 1, 1) := by decide +kernel
theorem dX8_files_1 : decode cX8_files 1 = .ok (.ifCond .lt 8, 3) := by decide +kernel
theorem dX8_files_4 : decode cX8_files 4 = .ok (.iload_n 1, 1) := by decide +kernel
theorem dX8_files_5 : decode cX8_files 5 = .ok (.iconst 2, 1) := by decide +kernel
theorem dX8_files_6 : decode cX8_files 6 = .ok (.if_icmp .le 7, 3) := by decide +kernel
theorem dX8_files_9 : decode cX8_files 9 = .ok (.iconst (-1), 1) := by decide +kernel
theorem dX8_files_10 : decode cX8_files 10 = .ok (.goto 11, 3) := by decide +kernel
theorem dX8_files_13 : decode cX8_files 13 = .ok (.aload_n 0, 1) := by decide +kernel
theorem dX8_files_14 : decode cX8_files 14 = .ok (.getfield 27, 3) := by decide +kernel
theorem dX8_files_17 : decode cX8_files 17 = .ok (.iload_n 1, 1) := by decide +kernel
theorem dX8_files_18 : decode cX8_files 18 = .ok (.invokevirtual 168, 3) := by decide +kernel
theorem dX8_files_21 : decode cX8_files 21 = .ok (.ireturn, 1) := by decide +kernel
theorem dX8_file_0 : decode cX8_file 0 = .ok (.aload_n 0, 1) := by decide +kernel
theorem dX8_file_1 : decode cX8_file 1 = .ok (.getfield 27, 3) := by decide +kernel
theorem dX8_file_4 : decode cX8_file 4 = .ok (.iload_n 1, 1) := by decide +kernel
theorem dX8_file_5 : decode cX8_file 5 = .ok (.iload_n 2, 1) := by decide +kernel
theorem dX8_file_6 : decode cX8_file 6 = .ok (.invokevirtual 205, 3) := by decide +kernel
theorem dX8_file_9 : decode cX8_file 9 = .ok (.astore 4, 2) := by decide +kernel
theorem dX8_file_11 : decode cX8_file 11 = .ok (.aload 4, 2) := by decide +kernel
theorem dX8_file_13 : decode cX8_file 13 = .ok (.ifnonnull 7, 3) := by decide +kernel
theorem dX8_file_16 : decode cX8_file 16 = .ok (.iconst (-1), 1) := by decide +kernel
theorem dX8_file_17 : decode cX8_file 17 = .ok (.goto 9, 3) := by decide +kernel
theorem dX8_file_20 : decode cX8_file 20 = .ok (.aload 4, 2) := by decide +kernel
theorem dX8_file_22 : decode cX8_file 22 = .ok (.iload_n 3, 1) := by decide +kernel
theorem dX8_file_23 : decode cX8_file 23 = .ok (.invokevirtual 209, 3) := by decide +kernel
theorem dX8_file_26 : decode cX8_file 26 = .ok (.ireturn, 1) := by decide +kernel
theorem dX8_isKey_0 : decode cX8_isKey 0 = .ok (.iload_n 0, 1) := by decide +kernel
theorem dX8_isKey_1 : decode cX8_isKey 1 = .ok (.ifCond .lt 13, 3) := by decide +kernel
theorem dX8_isKey_4 : decode cX8_isKey 4 = .ok (.iload_n 0, 1) := by decide +kernel
theorem dX8_isKey_5 : decode cX8_isKey 5 = .ok (.bipush 32, 2) := by decide +kernel
theorem dX8_isKey_7 : decode cX8_isKey 7 = .ok (.if_icmp .ge 7, 3) := by decide +kernel
theorem dX8_isKey_10 : decode cX8_isKey 10 = .ok (.iconst 1, 1) := by decide +kernel
theorem dX8_isKey_11 : decode cX8_isKey 11 = .ok (.goto 4, 3) := by decide +kernel
theorem dX8_isKey_14 : decode cX8_isKey 14 = .ok (.iconst 0, 1) := by decide +kernel
theorem dX8_isKey_15 : decode cX8_isKey 15 = .ok (.ireturn, 1) := by decide +kernel
theorem dX8_isName_0 : decode cX8_isName 0 = .ok (.iload_n 0, 1) := by decide +kernel
theorem dX8_isName_1 : decode cX8_isName 1 = .ok (.ifCond .lt 10, 3) := by decide +kernel
theorem dX8_isName_4 : decode cX8_isName 4 = .ok (.iload_n 0, 1) := by decide +kernel
theorem dX8_isName_5 : decode cX8_isName 5 = .ok (.sipush 19682, 3) := by decide +kernel
theorem dX8_isName_8 : decode cX8_isName 8 = .ok (.if_icmp .le 5, 3) := by decide +kernel
theorem dX8_isName_11 : decode cX8_isName 11 = .ok (.iconst 0, 1) := by decide +kernel
theorem dX8_isName_12 : decode cX8_isName 12 = .ok (.ireturn, 1) := by decide +kernel
theorem dX8_isName_13 : decode cX8_isName 13 = .ok (.iload_n 0, 1) := by decide +kernel
theorem dX8_isName_14 : decode cX8_isName 14 = .ok (.sipush 729, 3) := by decide +kernel
theorem dX8_isName_17 : decode cX8_isName 17 = .ok (.idiv, 1) := by decide +kernel
theorem dX8_isName_18 : decode cX8_isName 18 = .ok (.istore_n 1, 1) := by decide +kernel
theorem dX8_isName_19 : decode cX8_isName 19 = .ok (.iload_n 0, 1) := by decide +kernel
theorem dX8_isName_20 : decode cX8_isName 20 = .ok (.bipush 27, 2) := by decide +kernel
theorem dX8_isName_22 : decode cX8_isName 22 = .ok (.idiv, 1) := by decide +kernel
theorem dX8_isName_23 : decode cX8_isName 23 = .ok (.bipush 27, 2) := by decide +kernel
theorem dX8_isName_25 : decode cX8_isName 25 = .ok (.irem, 1) := by decide +kernel
theorem dX8_isName_26 : decode cX8_isName 26 = .ok (.istore_n 2, 1) := by decide +kernel
theorem dX8_isName_27 : decode cX8_isName 27 = .ok (.iload_n 0, 1) := by decide +kernel
theorem dX8_isName_28 : decode cX8_isName 28 = .ok (.bipush 27, 2) := by decide +kernel
theorem dX8_isName_30 : decode cX8_isName 30 = .ok (.irem, 1) := by decide +kernel
theorem dX8_isName_31 : decode cX8_isName 31 = .ok (.istore_n 3, 1) := by decide +kernel
theorem dX8_isName_32 : decode cX8_isName 32 = .ok (.iload_n 1, 1) := by decide +kernel
theorem dX8_isName_33 : decode cX8_isName 33 = .ok (.ifCond .ne 7, 3) := by decide +kernel
theorem dX8_isName_36 : decode cX8_isName 36 = .ok (.iload_n 2, 1) := by decide +kernel
theorem dX8_isName_37 : decode cX8_isName 37 = .ok (.ifCond .ne 15, 3) := by decide +kernel
theorem dX8_isName_40 : decode cX8_isName 40 = .ok (.iload_n 2, 1) := by decide +kernel
theorem dX8_isName_41 : decode cX8_isName 41 = .ok (.ifCond .ne 7, 3) := by decide +kernel
theorem dX8_isName_44 : decode cX8_isName 44 = .ok (.iload_n 3, 1) := by decide +kernel
theorem dX8_isName_45 : decode cX8_isName 45 = .ok (.ifCond .ne 7, 3) := by decide +kernel
theorem dX8_isName_48 : decode cX8_isName 48 = .ok (.iconst 1, 1) := by decide +kernel
theorem dX8_isName_49 : decode cX8_isName 49 = .ok (.goto 4, 3) := by decide +kernel
theorem dX8_isName_52 : decode cX8_isName 52 = .ok (.iconst 0, 1) := by decide +kernel
theorem dX8_isName_53 : decode cX8_isName 53 = .ok (.ireturn, 1) := by decide +kernel
theorem dX8_partsOf_0 : decode cX8_partsOf 0 = .ok (.iload_n 0, 1) := by decide +kernel
theorem dX8_partsOf_1 : decode cX8_partsOf 1 = .ok (.bipush 11, 2) := by decide +kernel
theorem dX8_partsOf_3 : decode cX8_partsOf 3 = .ok (.if_icmp .ne 5, 3) := by decide +kernel
theorem dX8_partsOf_6 : decode cX8_partsOf 6 = .ok (.iconst 1, 1) := by decide +kernel
theorem dX8_partsOf_7 : decode cX8_partsOf 7 = .ok (.ireturn, 1) := by decide +kernel
theorem dX8_partsOf_8 : decode cX8_partsOf 8 = .ok (.iload_n 0, 1) := by decide +kernel
theorem dX8_partsOf_9 : decode cX8_partsOf 9 = .ok (.iconst 4, 1) := by decide +kernel
theorem dX8_partsOf_10 : decode cX8_partsOf 10 = .ok (.if_icmp .lt 13, 3) := by decide +kernel
theorem dX8_partsOf_13 : decode cX8_partsOf 13 = .ok (.iload_n 0, 1) := by decide +kernel
theorem dX8_partsOf_14 : decode cX8_partsOf 14 = .ok (.bipush 10, 2) := by decide +kernel
theorem dX8_partsOf_16 : decode cX8_partsOf 16 = .ok (.if_icmp .gt 7, 3) := by decide +kernel
theorem dX8_partsOf_19 : decode cX8_partsOf 19 = .ok (.iconst 2, 1) := by decide +kernel
theorem dX8_partsOf_20 : decode cX8_partsOf 20 = .ok (.goto 4, 3) := by decide +kernel
theorem dX8_partsOf_23 : decode cX8_partsOf 23 = .ok (.iconst 0, 1) := by decide +kernel
theorem dX8_partsOf_24 : decode cX8_partsOf 24 = .ok (.ireturn, 1) := by decide +kernel
theorem dX8_countsN_0 : decode cX8_countsN 0 = .ok (.iload_n 0, 1) := by decide +kernel
theorem dX8_countsN_1 : decode cX8_countsN 1 = .ok (.iconst 3, 1) := by decide +kernel
theorem dX8_countsN_2 : decode cX8_countsN 2 = .ok (.if_icmp .eq 9, 3) := by decide +kernel
theorem dX8_countsN_5 : decode cX8_countsN 5 = .ok (.iload_n 0, 1) := by decide +kernel
theorem dX8_countsN_6 : decode cX8_countsN 6 = .ok (.bipush 12, 2) := by decide +kernel
theorem dX8_countsN_8 : decode cX8_countsN 8 = .ok (.if_icmp .ne 7, 3) := by decide +kernel
theorem dX8_countsN_11 : decode cX8_countsN 11 = .ok (.iconst 1, 1) := by decide +kernel
theorem dX8_countsN_12 : decode cX8_countsN 12 = .ok (.goto 4, 3) := by decide +kernel
theorem dX8_countsN_15 : decode cX8_countsN 15 = .ok (.iconst 0, 1) := by decide +kernel
theorem dX8_countsN_16 : decode cX8_countsN 16 = .ok (.ireturn, 1) := by decide +kernel
theorem dX8_takesBools_0 : decode cX8_takesBools 0 = .ok (.iload_n 0, 1) := by decide +kernel
theorem dX8_takesBools_1 : decode cX8_takesBools 1 = .ok (.bipush 9, 2) := by decide +kernel
theorem dX8_takesBools_3 : decode cX8_takesBools 3 = .ok (.if_icmp .eq 15, 3) := by decide +kernel
theorem dX8_takesBools_6 : decode cX8_takesBools 6 = .ok (.iload_n 0, 1) := by decide +kernel
theorem dX8_takesBools_7 : decode cX8_takesBools 7 = .ok (.bipush 10, 2) := by decide +kernel
theorem dX8_takesBools_9 : decode cX8_takesBools 9 = .ok (.if_icmp .eq 9, 3) := by decide +kernel
theorem dX8_takesBools_12 : decode cX8_takesBools 12 = .ok (.iload_n 0, 1) := by decide +kernel
theorem dX8_takesBools_13 : decode cX8_takesBools 13 = .ok (.bipush 11, 2) := by decide +kernel
theorem dX8_takesBools_15 : decode cX8_takesBools 15 = .ok (.if_icmp .ne 7, 3) := by decide +kernel
theorem dX8_takesBools_18 : decode cX8_takesBools 18 = .ok (.iconst 1, 1) := by decide +kernel
theorem dX8_takesBools_19 : decode cX8_takesBools 19 = .ok (.goto 4, 3) := by decide +kernel
theorem dX8_takesBools_22 : decode cX8_takesBools 22 = .ok (.iconst 0, 1) := by decide +kernel
theorem dX8_takesBools_23 : decode cX8_takesBools 23 = .ok (.ireturn, 1) := by decide +kernel
theorem dX8_fits_0 : decode cX8_fits 0 = .ok (.aload_n 1, 1) := by decide +kernel
theorem dX8_fits_1 : decode cX8_fits 1 = .ok (.ifnull 14, 3) := by decide +kernel
theorem dX8_fits_4 : decode cX8_fits 4 = .ok (.aload_n 1, 1) := by decide +kernel
theorem dX8_fits_5 : decode cX8_fits 5 = .ok (.invokevirtual 68, 3) := by decide +kernel
theorem dX8_fits_8 : decode cX8_fits 8 = .ok (.iload_n 0, 1) := by decide +kernel
theorem dX8_fits_9 : decode cX8_fits 9 = .ok (.invokestatic 214, 3) := by decide +kernel
theorem dX8_fits_12 : decode cX8_fits 12 = .ok (.if_icmp .ne 7, 3) := by decide +kernel
theorem dX8_fits_15 : decode cX8_fits 15 = .ok (.iconst 1, 1) := by decide +kernel
theorem dX8_fits_16 : decode cX8_fits 16 = .ok (.goto 4, 3) := by decide +kernel
theorem dX8_fits_19 : decode cX8_fits 19 = .ok (.iconst 0, 1) := by decide +kernel
theorem dX8_fits_20 : decode cX8_fits 20 = .ok (.ireturn, 1) := by decide +kernel
theorem dX8_topOfPile_0 : decode cX8_topOfPile 0 = .ok (.aload_n 0, 1) := by decide +kernel
theorem dX8_topOfPile_1 : decode cX8_topOfPile 1 = .ok (.getfield 47, 3) := by decide +kernel
theorem dX8_topOfPile_4 : decode cX8_topOfPile 4 = .ok (.ifCond .le 17, 3) := by decide +kernel
theorem dX8_topOfPile_7 : decode cX8_topOfPile 7 = .ok (.aload_n 0, 1) := by decide +kernel
theorem dX8_topOfPile_8 : decode cX8_topOfPile 8 = .ok (.getfield 11, 3) := by decide +kernel
theorem dX8_topOfPile_11 : decode cX8_topOfPile 11 = .ok (.aload_n 0, 1) := by decide +kernel
theorem dX8_topOfPile_12 : decode cX8_topOfPile 12 = .ok (.getfield 47, 3) := by decide +kernel
theorem dX8_topOfPile_15 : decode cX8_topOfPile 15 = .ok (.iconst 1, 1) := by decide +kernel
theorem dX8_topOfPile_16 : decode cX8_topOfPile 16 = .ok (.isub, 1) := by decide +kernel
theorem dX8_topOfPile_17 : decode cX8_topOfPile 17 = .ok (.aaload, 1) := by decide +kernel
theorem dX8_topOfPile_18 : decode cX8_topOfPile 18 = .ok (.goto 4, 3) := by decide +kernel
theorem dX8_topOfPile_21 : decode cX8_topOfPile 21 = .ok (.aconst_null, 1) := by decide +kernel
theorem dX8_topOfPile_22 : decode cX8_topOfPile 22 = .ok (.areturn, 1) := by decide +kernel
theorem dX8_typeOfTop_0 : decode cX8_typeOfTop 0 = .ok (.aload_n 0, 1) := by decide +kernel
theorem dX8_typeOfTop_1 : decode cX8_typeOfTop 1 = .ok (.invokevirtual 64, 3) := by decide +kernel
theorem dX8_typeOfTop_4 : decode cX8_typeOfTop 4 = .ok (.astore_n 1, 1) := by decide +kernel
theorem dX8_typeOfTop_5 : decode cX8_typeOfTop 5 = .ok (.aload_n 1, 1) := by decide +kernel
theorem dX8_typeOfTop_6 : decode cX8_typeOfTop 6 = .ok (.ifnonnull 5, 3) := by decide +kernel
theorem dX8_typeOfTop_9 : decode cX8_typeOfTop 9 = .ok (.iconst (-1), 1) := by decide +kernel
theorem dX8_typeOfTop_10 : decode cX8_typeOfTop 10 = .ok (.ireturn, 1) := by decide +kernel
theorem dX8_typeOfTop_11 : decode cX8_typeOfTop 11 = .ok (.aload_n 1, 1) := by decide +kernel
theorem dX8_typeOfTop_12 : decode cX8_typeOfTop 12 = .ok (.invokevirtual 68, 3) := by decide +kernel
theorem dX8_typeOfTop_15 : decode cX8_typeOfTop 15 = .ok (.ifCond .eq 7, 3) := by decide +kernel
theorem dX8_typeOfTop_18 : decode cX8_typeOfTop 18 = .ok (.iconst 1, 1) := by decide +kernel
theorem dX8_typeOfTop_19 : decode cX8_typeOfTop 19 = .ok (.goto 4, 3) := by decide +kernel
theorem dX8_typeOfTop_22 : decode cX8_typeOfTop 22 = .ok (.iconst 0, 1) := by decide +kernel
theorem dX8_typeOfTop_23 : decode cX8_typeOfTop 23 = .ok (.ireturn, 1) := by decide +kernel
theorem dX8_transactionOf_0 : decode cX8_transactionOf 0 = .ok (.iload_n 1, 1) := by decide +kernel
theorem dX8_transactionOf_1 : decode cX8_transactionOf 1 = .ok (.ifCond .lt 20, 3) := by decide +kernel
theorem dX8_transactionOf_4 : decode cX8_transactionOf 4 = .ok (.iload_n 1, 1) := by decide +kernel
theorem dX8_transactionOf_5 : decode cX8_transactionOf 5 = .ok (.aload_n 0, 1) := by decide +kernel
theorem dX8_transactionOf_6 : decode cX8_transactionOf 6 = .ok (.getfield 78, 3) := by decide +kernel
theorem dX8_transactionOf_9 : decode cX8_transactionOf 9 = .ok (.if_icmp .ge 12, 3) := by decide +kernel
theorem dX8_transactionOf_12 : decode cX8_transactionOf 12 = .ok (.aload_n 0, 1) := by decide +kernel
theorem dX8_transactionOf_13 : decode cX8_transactionOf 13 = .ok (.getfield 20, 3) := by decide +kernel
theorem dX8_transactionOf_16 : decode cX8_transactionOf 16 = .ok (.iload_n 1, 1) := by decide +kernel
theorem dX8_transactionOf_17 : decode cX8_transactionOf 17 = .ok (.aaload, 1) := by decide +kernel
theorem dX8_transactionOf_18 : decode cX8_transactionOf 18 = .ok (.goto 4, 3) := by decide +kernel
theorem dX8_transactionOf_21 : decode cX8_transactionOf 21 = .ok (.aconst_null, 1) := by decide +kernel
theorem dX8_transactionOf_22 : decode cX8_transactionOf 22 = .ok (.areturn, 1) := by decide +kernel
theorem dX8_openOne_0 : decode cX8_openOne 0 = .ok (.aload_n 0, 1) := by decide +kernel
theorem dX8_openOne_1 : decode cX8_openOne 1 = .ok (.iload_n 1, 1) := by decide +kernel
theorem dX8_openOne_2 : decode cX8_openOne 2 = .ok (.invokevirtual 196, 3) := by decide +kernel
theorem dX8_openOne_5 : decode cX8_openOne 5 = .ok (.astore_n 2, 1) := by decide +kernel
theorem dX8_openOne_6 : decode cX8_openOne 6 = .ok (.aload_n 2, 1) := by decide +kernel
theorem dX8_openOne_7 : decode cX8_openOne 7 = .ok (.ifnull 14, 3) := by decide +kernel
theorem dX8_openOne_10 : decode cX8_openOne 10 = .ok (.aload_n 2, 1) := by decide +kernel
theorem dX8_openOne_11 : decode cX8_openOne 11 = .ok (.invokevirtual 217, 3) := by decide +kernel
theorem dX8_openOne_14 : decode cX8_openOne 14 = .ok (.ifCond .eq 7, 3) := by decide +kernel
theorem dX8_openOne_17 : decode cX8_openOne 17 = .ok (.aload_n 2, 1) := by decide +kernel
theorem dX8_openOne_18 : decode cX8_openOne 18 = .ok (.goto 4, 3) := by decide +kernel
theorem dX8_openOne_21 : decode cX8_openOne 21 = .ok (.aconst_null, 1) := by decide +kernel
theorem dX8_openOne_22 : decode cX8_openOne 22 = .ok (.areturn, 1) := by decide +kernel
theorem dX8_countOpen_0 : decode cX8_countOpen 0 = .ok (.iconst 0, 1) := by decide +kernel
theorem dX8_countOpen_1 : decode cX8_countOpen 1 = .ok (.istore_n 1, 1) := by decide +kernel
theorem dX8_countOpen_2 : decode cX8_countOpen 2 = .ok (.iconst 0, 1) := by decide +kernel
theorem dX8_countOpen_3 : decode cX8_countOpen 3 = .ok (.istore_n 2, 1) := by decide +kernel
theorem dX8_countOpen_4 : decode cX8_countOpen 4 = .ok (.iload_n 2, 1) := by decide +kernel
theorem dX8_countOpen_5 : decode cX8_countOpen 5 = .ok (.aload_n 0, 1) := by decide +kernel
theorem dX8_countOpen_6 : decode cX8_countOpen 6 = .ok (.getfield 78, 3) := by decide +kernel
theorem dX8_countOpen_9 : decode cX8_countOpen 9 = .ok (.if_icmp .ge 24, 3) := by decide +kernel
theorem dX8_countOpen_12 : decode cX8_countOpen 12 = .ok (.aload_n 0, 1) := by decide +kernel
theorem dX8_countOpen_13 : decode cX8_countOpen 13 = .ok (.getfield 20, 3) := by decide +kernel
theorem dX8_countOpen_16 : decode cX8_countOpen 16 = .ok (.iload_n 2, 1) := by decide +kernel
theorem dX8_countOpen_17 : decode cX8_countOpen 17 = .ok (.aaload, 1) := by decide +kernel
theorem dX8_countOpen_18 : decode cX8_countOpen 18 = .ok (.invokevirtual 217, 3) := by decide +kernel
theorem dX8_countOpen_21 : decode cX8_countOpen 21 = .ok (.ifCond .eq 6, 3) := by decide +kernel
theorem dX8_countOpen_24 : decode cX8_countOpen 24 = .ok (.iinc 1 1, 3) := by decide +kernel
theorem dX8_countOpen_27 : decode cX8_countOpen 27 = .ok (.iinc 2 1, 3) := by decide +kernel
theorem dX8_countOpen_30 : decode cX8_countOpen 30 = .ok (.goto (-26), 3) := by decide +kernel
theorem dX8_countOpen_33 : decode cX8_countOpen 33 = .ok (.iload_n 1, 1) := by decide +kernel
theorem dX8_countOpen_34 : decode cX8_countOpen 34 = .ok (.ireturn, 1) := by decide +kernel
theorem dX8_loseOpenOnes_0 : decode cX8_loseOpenOnes 0 = .ok (.iconst 0, 1) := by decide +kernel
theorem dX8_loseOpenOnes_1 : decode cX8_loseOpenOnes 1 = .ok (.istore_n 1, 1) := by decide +kernel
theorem dX8_loseOpenOnes_2 : decode cX8_loseOpenOnes 2 = .ok (.iconst 0, 1) := by decide +kernel
theorem dX8_loseOpenOnes_3 : decode cX8_loseOpenOnes 3 = .ok (.istore_n 2, 1) := by decide +kernel
theorem dX8_loseOpenOnes_4 : decode cX8_loseOpenOnes 4 = .ok (.iload_n 2, 1) := by decide +kernel
theorem dX8_loseOpenOnes_5 : decode cX8_loseOpenOnes 5 = .ok (.aload_n 0, 1) := by decide +kernel
theorem dX8_loseOpenOnes_6 : decode cX8_loseOpenOnes 6 = .ok (.getfield 78, 3) := by decide +kernel
theorem dX8_loseOpenOnes_9 : decode cX8_loseOpenOnes 9 = .ok (.if_icmp .ge 34, 3) := by decide +kernel
theorem dX8_loseOpenOnes_12 : decode cX8_loseOpenOnes 12 = .ok (.aload_n 0, 1) := by decide +kernel
theorem dX8_loseOpenOnes_13 : decode cX8_loseOpenOnes 13 = .ok (.getfield 20, 3) := by decide +kernel
theorem dX8_loseOpenOnes_16 : decode cX8_loseOpenOnes 16 = .ok (.iload_n 2, 1) := by decide +kernel
theorem dX8_loseOpenOnes_17 : decode cX8_loseOpenOnes 17 = .ok (.aaload, 1) := by decide +kernel
theorem dX8_loseOpenOnes_18 : decode cX8_loseOpenOnes 18 = .ok (.invokevirtual 217, 3) := by decide +kernel
theorem dX8_loseOpenOnes_21 : decode cX8_loseOpenOnes 21 = .ok (.ifCond .eq 16, 3) := by decide +kernel
theorem dX8_loseOpenOnes_24 : decode cX8_loseOpenOnes 24 = .ok (.aload_n 0, 1) := by decide +kernel
theorem dX8_loseOpenOnes_25 : decode cX8_loseOpenOnes 25 = .ok (.getfield 20, 3) := by decide +kernel
theorem dX8_loseOpenOnes_28 : decode cX8_loseOpenOnes 28 = .ok (.iload_n 2, 1) := by decide +kernel
theorem dX8_loseOpenOnes_29 : decode cX8_loseOpenOnes 29 = .ok (.aaload, 1) := by decide +kernel
theorem dX8_loseOpenOnes_30 : decode cX8_loseOpenOnes 30 = .ok (.iconst 5, 1) := by decide +kernel
theorem dX8_loseOpenOnes_31 : decode cX8_loseOpenOnes 31 = .ok (.putfield 138, 3) := by decide +kernel
theorem dX8_loseOpenOnes_34 : decode cX8_loseOpenOnes 34 = .ok (.iinc 1 1, 3) := by decide +kernel
theorem dX8_loseOpenOnes_37 : decode cX8_loseOpenOnes 37 = .ok (.iinc 2 1, 3) := by decide +kernel
theorem dX8_loseOpenOnes_40 : decode cX8_loseOpenOnes 40 = .ok (.goto (-36), 3) := by decide +kernel
theorem dX8_loseOpenOnes_43 : decode cX8_loseOpenOnes 43 = .ok (.iload_n 1, 1) := by decide +kernel
theorem dX8_loseOpenOnes_44 : decode cX8_loseOpenOnes 44 = .ok (.ireturn, 1) := by decide +kernel
theorem dX8_horizon_0 : decode cX8_horizon 0 = .ok (.aload_n 0, 1) := by decide +kernel
theorem dX8_horizon_1 : decode cX8_horizon 1 = .ok (.getfield 75, 3) := by decide +kernel
theorem dX8_horizon_4 : decode cX8_horizon 4 = .ok (.istore_n 1, 1) := by decide +kernel
theorem dX8_horizon_5 : decode cX8_horizon 5 = .ok (.iconst 0, 1) := by decide +kernel
theorem dX8_horizon_6 : decode cX8_horizon 6 = .ok (.istore_n 2, 1) := by decide +kernel
theorem dX8_horizon_7 : decode cX8_horizon 7 = .ok (.iload_n 2, 1) := by decide +kernel
theorem dX8_horizon_8 : decode cX8_horizon 8 = .ok (.aload_n 0, 1) := by decide +kernel
theorem dX8_horizon_9 : decode cX8_horizon 9 = .ok (.getfield 78, 3) := by decide +kernel
theorem dX8_horizon_12 : decode cX8_horizon 12 = .ok (.if_icmp .ge 35, 3) := by decide +kernel
theorem dX8_horizon_15 : decode cX8_horizon 15 = .ok (.aload_n 0, 1) := by decide +kernel
theorem dX8_horizon_16 : decode cX8_horizon 16 = .ok (.getfield 20, 3) := by decide +kernel
theorem dX8_horizon_19 : decode cX8_horizon 19 = .ok (.iload_n 2, 1) := by decide +kernel
theorem dX8_horizon_20 : decode cX8_horizon 20 = .ok (.aaload, 1) := by decide +kernel
theorem dX8_horizon_21 : decode cX8_horizon 21 = .ok (.invokevirtual 217, 3) := by decide +kernel
theorem dX8_horizon_24 : decode cX8_horizon 24 = .ok (.ifCond .eq 17, 3) := by decide +kernel
theorem dX8_horizon_27 : decode cX8_horizon 27 = .ok (.iload_n 1, 1) := by decide +kernel
theorem dX8_horizon_28 : decode cX8_horizon 28 = .ok (.aload_n 0, 1) := by decide +kernel
theorem dX8_horizon_29 : decode cX8_horizon 29 = .ok (.getfield 20, 3) := by decide +kernel
theorem dX8_horizon_32 : decode cX8_horizon 32 = .ok (.iload_n 2, 1) := by decide +kernel
theorem dX8_horizon_33 : decode cX8_horizon 33 = .ok (.aaload, 1) := by decide +kernel
theorem dX8_horizon_34 : decode cX8_horizon 34 = .ok (.getfield 121, 3) := by decide +kernel
theorem dX8_horizon_37 : decode cX8_horizon 37 = .ok (.invokestatic 220, 3) := by decide +kernel
theorem dX8_horizon_40 : decode cX8_horizon 40 = .ok (.istore_n 1, 1) := by decide +kernel
theorem dX8_horizon_41 : decode cX8_horizon 41 = .ok (.iinc 2 1, 3) := by decide +kernel
theorem dX8_horizon_44 : decode cX8_horizon 44 = .ok (.goto (-37), 3) := by decide +kernel
theorem dX8_horizon_47 : decode cX8_horizon 47 = .ok (.iload_n 1, 1) := by decide +kernel
theorem dX8_horizon_48 : decode cX8_horizon 48 = .ok (.ireturn, 1) := by decide +kernel
theorem dX8_rowFor_0 : decode cX8_rowFor 0 = .ok (.aload_n 1, 1) := by decide +kernel
theorem dX8_rowFor_1 : decode cX8_rowFor 1 = .ok (.getfield 225, 3) := by decide +kernel
theorem dX8_rowFor_4 : decode cX8_rowFor 4 = .ok (.iload_n 2, 1) := by decide +kernel
theorem dX8_rowFor_5 : decode cX8_rowFor 5 = .ok (.baload, 1) := by decide +kernel
theorem dX8_rowFor_6 : decode cX8_rowFor 6 = .ok (.ifCond .eq 12, 3) := by decide +kernel
theorem dX8_rowFor_9 : decode cX8_rowFor 9 = .ok (.aload_n 1, 1) := by decide +kernel
theorem dX8_rowFor_10 : decode cX8_rowFor 10 = .ok (.getfield 229, 3) := by decide +kernel
theorem dX8_rowFor_13 : decode cX8_rowFor 13 = .ok (.iload_n 2, 1) := by decide +kernel
theorem dX8_rowFor_14 : decode cX8_rowFor 14 = .ok (.aaload, 1) := by decide +kernel
theorem dX8_rowFor_15 : decode cX8_rowFor 15 = .ok (.goto 15, 3) := by decide +kernel
theorem dX8_rowFor_18 : decode cX8_rowFor 18 = .ok (.aload_n 0, 1) := by decide +kernel
theorem dX8_rowFor_19 : decode cX8_rowFor 19 = .ok (.getfield 27, 3) := by decide +kernel
theorem dX8_rowFor_22 : decode cX8_rowFor 22 = .ok (.iload_n 2, 1) := by decide +kernel
theorem dX8_rowFor_23 : decode cX8_rowFor 23 = .ok (.aload_n 1, 1) := by decide +kernel
theorem dX8_rowFor_24 : decode cX8_rowFor 24 = .ok (.getfield 121, 3) := by decide +kernel
theorem dX8_rowFor_27 : decode cX8_rowFor 27 = .ok (.invokevirtual 233, 3) := by decide +kernel
theorem dX8_rowFor_30 : decode cX8_rowFor 30 = .ok (.areturn, 1) := by decide +kernel
theorem dX8_isTooLate_0 : decode cX8_isTooLate 0 = .ok (.iconst 0, 1) := by decide +kernel
theorem dX8_isTooLate_1 : decode cX8_isTooLate 1 = .ok (.istore_n 2, 1) := by decide +kernel
theorem dX8_isTooLate_2 : decode cX8_isTooLate 2 = .ok (.iload_n 2, 1) := by decide +kernel
theorem dX8_isTooLate_3 : decode cX8_isTooLate 3 = .ok (.bipush 32, 2) := by decide +kernel
theorem dX8_isTooLate_5 : decode cX8_isTooLate 5 = .ok (.if_icmp .ge 35, 3) := by decide +kernel
theorem dX8_isTooLate_8 : decode cX8_isTooLate 8 = .ok (.aload_n 1, 1) := by decide +kernel
theorem dX8_isTooLate_9 : decode cX8_isTooLate 9 = .ok (.getfield 225, 3) := by decide +kernel
theorem dX8_isTooLate_12 : decode cX8_isTooLate 12 = .ok (.iload_n 2, 1) := by decide +kernel
theorem dX8_isTooLate_13 : decode cX8_isTooLate 13 = .ok (.baload, 1) := by decide +kernel
theorem dX8_isTooLate_14 : decode cX8_isTooLate 14 = .ok (.ifCond .eq 20, 3) := by decide +kernel
theorem dX8_isTooLate_17 : decode cX8_isTooLate 17 = .ok (.aload_n 0, 1) := by decide +kernel
theorem dX8_isTooLate_18 : decode cX8_isTooLate 18 = .ok (.getfield 27, 3) := by decide +kernel
theorem dX8_isTooLate_21 : decode cX8_isTooLate 21 = .ok (.iload_n 2, 1) := by decide +kernel
theorem dX8_isTooLate_22 : decode cX8_isTooLate 22 = .ok (.invokevirtual 237, 3) := by decide +kernel
theorem dX8_isTooLate_25 : decode cX8_isTooLate 25 = .ok (.aload_n 1, 1) := by decide +kernel
theorem dX8_isTooLate_26 : decode cX8_isTooLate 26 = .ok (.getfield 121, 3) := by decide +kernel
theorem dX8_isTooLate_29 : decode cX8_isTooLate 29 = .ok (.if_icmp .le 5, 3) := by decide +kernel
theorem dX8_isTooLate_32 : decode cX8_isTooLate 32 = .ok (.iconst 1, 1) := by decide +kernel
theorem dX8_isTooLate_33 : decode cX8_isTooLate 33 = .ok (.ireturn, 1) := by decide +kernel
theorem dX8_isTooLate_34 : decode cX8_isTooLate 34 = .ok (.iinc 2 1, 3) := by decide +kernel
theorem dX8_isTooLate_37 : decode cX8_isTooLate 37 = .ok (.goto (-35), 3) := by decide +kernel
theorem dX8_isTooLate_40 : decode cX8_isTooLate 40 = .ok (.iconst 0, 1) := by decide +kernel
theorem dX8_isTooLate_41 : decode cX8_isTooLate 41 = .ok (.ireturn, 1) := by decide +kernel
theorem dX8_batchSize_0 : decode cX8_batchSize 0 = .ok (.iconst 0, 1) := by decide +kernel
theorem dX8_batchSize_1 : decode cX8_batchSize 1 = .ok (.istore_n 2, 1) := by decide +kernel
theorem dX8_batchSize_2 : decode cX8_batchSize 2 = .ok (.iconst 0, 1) := by decide +kernel
theorem dX8_batchSize_3 : decode cX8_batchSize 3 = .ok (.istore_n 3, 1) := by decide +kernel
theorem dX8_batchSize_4 : decode cX8_batchSize 4 = .ok (.iload_n 3, 1) := by decide +kernel
theorem dX8_batchSize_5 : decode cX8_batchSize 5 = .ok (.bipush 32, 2) := by decide +kernel
theorem dX8_batchSize_7 : decode cX8_batchSize 7 = .ok (.if_icmp .ge 45, 3) := by decide +kernel
theorem dX8_batchSize_10 : decode cX8_batchSize 10 = .ok (.aload_n 1, 1) := by decide +kernel
theorem dX8_batchSize_11 : decode cX8_batchSize 11 = .ok (.getfield 225, 3) := by decide +kernel
theorem dX8_batchSize_14 : decode cX8_batchSize 14 = .ok (.iload_n 3, 1) := by decide +kernel
theorem dX8_batchSize_15 : decode cX8_batchSize 15 = .ok (.baload, 1) := by decide +kernel
theorem dX8_batchSize_16 : decode cX8_batchSize 16 = .ok (.ifCond .eq 30, 3) := by decide +kernel
theorem dX8_batchSize_19 : decode cX8_batchSize 19 = .ok (.iload_n 2, 1) := by decide +kernel
theorem dX8_batchSize_20 : decode cX8_batchSize 20 = .ok (.iconst 1, 1) := by decide +kernel
theorem dX8_batchSize_21 : decode cX8_batchSize 21 = .ok (.aload_n 0, 1) := by decide +kernel
theorem dX8_batchSize_22 : decode cX8_batchSize 22 = .ok (.aload_n 0, 1) := by decide +kernel
theorem dX8_batchSize_23 : decode cX8_batchSize 23 = .ok (.getfield 27, 3) := by decide +kernel
theorem dX8_batchSize_26 : decode cX8_batchSize 26 = .ok (.iload_n 3, 1) := by decide +kernel
theorem dX8_batchSize_27 : decode cX8_batchSize 27 = .ok (.aload_n 0, 1) := by decide +kernel
theorem dX8_batchSize_28 : decode cX8_batchSize 28 = .ok (.getfield 75, 3) := by decide +kernel
theorem dX8_batchSize_31 : decode cX8_batchSize 31 = .ok (.invokevirtual 233, 3) := by decide +kernel
theorem dX8_batchSize_34 : decode cX8_batchSize 34 = .ok (.aload_n 1, 1) := by decide +kernel
theorem dX8_batchSize_35 : decode cX8_batchSize 35 = .ok (.getfield 229, 3) := by decide +kernel
theorem dX8_batchSize_38 : decode cX8_batchSize 38 = .ok (.iload_n 3, 1) := by decide +kernel
theorem dX8_batchSize_39 : decode cX8_batchSize 39 = .ok (.aaload, 1) := by decide +kernel
theorem dX8_batchSize_40 : decode cX8_batchSize 40 = .ok (.invokevirtual 240, 3) := by decide +kernel
theorem dX8_batchSize_43 : decode cX8_batchSize 43 = .ok (.iadd, 1) := by decide +kernel
theorem dX8_batchSize_44 : decode cX8_batchSize 44 = .ok (.iadd, 1) := by decide +kernel
theorem dX8_batchSize_45 : decode cX8_batchSize 45 = .ok (.istore_n 2, 1) := by decide +kernel
theorem dX8_batchSize_46 : decode cX8_batchSize 46 = .ok (.iinc 3 1, 3) := by decide +kernel
theorem dX8_batchSize_49 : decode cX8_batchSize 49 = .ok (.goto (-45), 3) := by decide +kernel
theorem dX8_batchSize_52 : decode cX8_batchSize 52 = .ok (.iload_n 2, 1) := by decide +kernel
theorem dX8_batchSize_53 : decode cX8_batchSize 53 = .ok (.ireturn, 1) := by decide +kernel
theorem dX8_countIndexEntries_0 : decode cX8_countIndexEntries 0 = .ok (.iconst 0, 1) := by decide +kernel
theorem dX8_countIndexEntries_1 : decode cX8_countIndexEntries 1 = .ok (.istore_n 3, 1) := by decide +kernel
theorem dX8_countIndexEntries_2 : decode cX8_countIndexEntries 2 = .ok (.iconst 0, 1) := by decide +kernel
theorem dX8_countIndexEntries_3 : decode cX8_countIndexEntries 3 = .ok (.istore 4, 2) := by decide +kernel
theorem dX8_countIndexEntries_5 : decode cX8_countIndexEntries 5 = .ok (.iload 4, 2) := by decide +kernel
theorem dX8_countIndexEntries_7 : decode cX8_countIndexEntries 7 = .ok (.aload_n 0, 1) := by decide +kernel
theorem dX8_countIndexEntries_8 : decode cX8_countIndexEntries 8 = .ok (.getfield 72, 3) := by decide +kernel
theorem dX8_countIndexEntries_11 : decode cX8_countIndexEntries 11 = .ok (.if_icmp .ge 47, 3) := by decide +kernel
theorem dX8_countIndexEntries_14 : decode cX8_countIndexEntries 14 = .ok (.iload_n 3, 1) := by decide +kernel
theorem dX8_countIndexEntries_15 : decode cX8_countIndexEntries 15 = .ok (.aload_n 0, 1) := by decide +kernel
theorem dX8_countIndexEntries_16 : decode cX8_countIndexEntries 16 = .ok (.iload 4, 2) := by decide +kernel
theorem dX8_countIndexEntries_18 : decode cX8_countIndexEntries 18 = .ok (.aload_n 1, 1) := by decide +kernel
theorem dX8_countIndexEntries_19 : decode cX8_countIndexEntries 19 = .ok (.aload_n 2, 1) := by decide +kernel
theorem dX8_countIndexEntries_20 : decode cX8_countIndexEntries 20 = .ok (.invokevirtual 244, 3) := by decide +kernel
theorem dX8_countIndexEntries_23 : decode cX8_countIndexEntries 23 = .ok (.ifCond .eq 7, 3) := by decide +kernel
theorem dX8_countIndexEntries_26 : decode cX8_countIndexEntries 26 = .ok (.iconst 1, 1) := by decide +kernel
theorem dX8_countIndexEntries_27 : decode cX8_countIndexEntries 27 = .ok (.goto 4, 3) := by decide +kernel
theorem dX8_countIndexEntries_30 : decode cX8_countIndexEntries 30 = .ok (.iconst 0, 1) := by decide +kernel
theorem dX8_countIndexEntries_31 : decode cX8_countIndexEntries 31 = .ok (.iadd, 1) := by decide +kernel
theorem dX8_countIndexEntries_32 : decode cX8_countIndexEntries 32 = .ok (.istore_n 3, 1) := by decide +kernel
theorem dX8_countIndexEntries_33 : decode cX8_countIndexEntries 33 = .ok (.iload_n 3, 1) := by decide +kernel
theorem dX8_countIndexEntries_34 : decode cX8_countIndexEntries 34 = .ok (.aload_n 0, 1) := by decide +kernel
theorem dX8_countIndexEntries_35 : decode cX8_countIndexEntries 35 = .ok (.iload 4, 2) := by decide +kernel
theorem dX8_countIndexEntries_37 : decode cX8_countIndexEntries 37 = .ok (.aload_n 2, 1) := by decide +kernel
theorem dX8_countIndexEntries_38 : decode cX8_countIndexEntries 38 = .ok (.aload_n 1, 1) := by decide +kernel
theorem dX8_countIndexEntries_39 : decode cX8_countIndexEntries 39 = .ok (.invokevirtual 244, 3) := by decide +kernel
theorem dX8_countIndexEntries_42 : decode cX8_countIndexEntries 42 = .ok (.ifCond .eq 7, 3) := by decide +kernel
theorem dX8_countIndexEntries_45 : decode cX8_countIndexEntries 45 = .ok (.iconst 1, 1) := by decide +kernel
theorem dX8_countIndexEntries_46 : decode cX8_countIndexEntries 46 = .ok (.goto 4, 3) := by decide +kernel
theorem dX8_countIndexEntries_49 : decode cX8_countIndexEntries 49 = .ok (.iconst 0, 1) := by decide +kernel
theorem dX8_countIndexEntries_50 : decode cX8_countIndexEntries 50 = .ok (.iadd, 1) := by decide +kernel
theorem dX8_countIndexEntries_51 : decode cX8_countIndexEntries 51 = .ok (.istore_n 3, 1) := by decide +kernel
theorem dX8_countIndexEntries_52 : decode cX8_countIndexEntries 52 = .ok (.iinc 4 1, 3) := by decide +kernel
theorem dX8_countIndexEntries_55 : decode cX8_countIndexEntries 55 = .ok (.goto (-50), 3) := by decide +kernel
theorem dX8_countIndexEntries_58 : decode cX8_countIndexEntries 58 = .ok (.iload_n 3, 1) := by decide +kernel
theorem dX8_countIndexEntries_59 : decode cX8_countIndexEntries 59 = .ok (.ireturn, 1) := by decide +kernel
theorem dX8_hasOwnValue_0 : decode cX8_hasOwnValue 0 = .ok (.aload_n 2, 1) := by decide +kernel
theorem dX8_hasOwnValue_1 : decode cX8_hasOwnValue 1 = .ok (.ifnull 26, 3) := by decide +kernel
theorem dX8_hasOwnValue_4 : decode cX8_hasOwnValue 4 = .ok (.aload_n 3, 1) := by decide +kernel
theorem dX8_hasOwnValue_5 : decode cX8_hasOwnValue 5 = .ok (.ifnull 18, 3) := by decide +kernel
theorem dX8_hasOwnValue_8 : decode cX8_hasOwnValue 8 = .ok (.aload_n 0, 1) := by decide +kernel
theorem dX8_hasOwnValue_9 : decode cX8_hasOwnValue 9 = .ok (.iload_n 1, 1) := by decide +kernel
theorem dX8_hasOwnValue_10 : decode cX8_hasOwnValue 10 = .ok (.aload_n 2, 1) := by decide +kernel
theorem dX8_hasOwnValue_11 : decode cX8_hasOwnValue 11 = .ok (.invokevirtual 248, 3) := by decide +kernel
theorem dX8_hasOwnValue_14 : decode cX8_hasOwnValue 14 = .ok (.aload_n 0, 1) := by decide +kernel
theorem dX8_hasOwnValue_15 : decode cX8_hasOwnValue 15 = .ok (.iload_n 1, 1) := by decide +kernel
theorem dX8_hasOwnValue_16 : decode cX8_hasOwnValue 16 = .ok (.aload_n 3, 1) := by decide +kernel
theorem dX8_hasOwnValue_17 : decode cX8_hasOwnValue 17 = .ok (.invokevirtual 248, 3) := by decide +kernel
theorem dX8_hasOwnValue_20 : decode cX8_hasOwnValue 20 = .ok (.if_icmp .eq 7, 3) := by decide +kernel
theorem dX8_hasOwnValue_23 : decode cX8_hasOwnValue 23 = .ok (.iconst 1, 1) := by decide +kernel
theorem dX8_hasOwnValue_24 : decode cX8_hasOwnValue 24 = .ok (.goto 4, 3) := by decide +kernel
theorem dX8_hasOwnValue_27 : decode cX8_hasOwnValue 27 = .ok (.iconst 0, 1) := by decide +kernel
theorem dX8_hasOwnValue_28 : decode cX8_hasOwnValue 28 = .ok (.ireturn, 1) := by decide +kernel
theorem dX8_valueIn_0 : decode cX8_valueIn 0 = .ok (.aload_n 0, 1) := by decide +kernel
theorem dX8_valueIn_1 : decode cX8_valueIn 1 = .ok (.getfield 15, 3) := by decide +kernel
theorem dX8_valueIn_4 : decode cX8_valueIn 4 = .ok (.iload_n 1, 1) := by decide +kernel
theorem dX8_valueIn_5 : decode cX8_valueIn 5 = .ok (.aaload, 1) := by decide +kernel
theorem dX8_valueIn_6 : decode cX8_valueIn 6 = .ok (.aload_n 2, 1) := by decide +kernel
theorem dX8_valueIn_7 : decode cX8_valueIn 7 = .ok (.invokestatic 252, 3) := by decide +kernel
theorem dX8_valueIn_10 : decode cX8_valueIn 10 = .ok (.ireturn, 1) := by decide +kernel
theorem dX8_takeBatch_0 : decode cX8_takeBatch 0 = .ok (.aload_n 0, 1) := by decide +kernel
theorem dX8_takeBatch_1 : decode cX8_takeBatch 1 = .ok (.getfield 75, 3) := by decide +kernel
theorem dX8_takeBatch_4 : decode cX8_takeBatch 4 = .ok (.iconst 1, 1) := by decide +kernel
theorem dX8_takeBatch_5 : decode cX8_takeBatch 5 = .ok (.iadd, 1) := by decide +kernel
theorem dX8_takeBatch_6 : decode cX8_takeBatch 6 = .ok (.istore_n 2, 1) := by decide +kernel
theorem dX8_takeBatch_7 : decode cX8_takeBatch 7 = .ok (.iconst 0, 1) := by decide +kernel
theorem dX8_takeBatch_8 : decode cX8_takeBatch 8 = .ok (.istore_n 3, 1) := by decide +kernel
theorem dX8_takeBatch_9 : decode cX8_takeBatch 9 = .ok (.iload_n 3, 1) := by decide +kernel
theorem dX8_takeBatch_10 : decode cX8_takeBatch 10 = .ok (.bipush 32, 2) := by decide +kernel
theorem dX8_takeBatch_12 : decode cX8_takeBatch 12 = .ok (.if_icmp .ge 70, 3) := by decide +kernel
theorem dX8_takeBatch_15 : decode cX8_takeBatch 15 = .ok (.aload_n 1, 1) := by decide +kernel
theorem dX8_takeBatch_16 : decode cX8_takeBatch 16 = .ok (.getfield 225, 3) := by decide +kernel
theorem dX8_takeBatch_19 : decode cX8_takeBatch 19 = .ok (.iload_n 3, 1) := by decide +kernel
theorem dX8_takeBatch_20 : decode cX8_takeBatch 20 = .ok (.baload, 1) := by decide +kernel
theorem dX8_takeBatch_21 : decode cX8_takeBatch 21 = .ok (.ifCond .eq 55, 3) := by decide +kernel
theorem dX8_takeBatch_24 : decode cX8_takeBatch 24 = .ok (.aload_n 0, 1) := by decide +kernel
theorem dX8_takeBatch_25 : decode cX8_takeBatch 25 = .ok (.getfield 27, 3) := by decide +kernel
theorem dX8_takeBatch_28 : decode cX8_takeBatch 28 = .ok (.iload_n 3, 1) := by decide +kernel
theorem dX8_takeBatch_29 : decode cX8_takeBatch 29 = .ok (.aload_n 0, 1) := by decide +kernel
theorem dX8_takeBatch_30 : decode cX8_takeBatch 30 = .ok (.getfield 75, 3) := by decide +kernel
theorem dX8_takeBatch_33 : decode cX8_takeBatch 33 = .ok (.invokevirtual 233, 3) := by decide +kernel
theorem dX8_takeBatch_36 : decode cX8_takeBatch 36 = .ok (.astore 4, 2) := by decide +kernel
theorem dX8_takeBatch_38 : decode cX8_takeBatch 38 = .ok (.aload_n 1, 1) := by decide +kernel
theorem dX8_takeBatch_39 : decode cX8_takeBatch 39 = .ok (.getfield 229, 3) := by decide +kernel
theorem dX8_takeBatch_42 : decode cX8_takeBatch 42 = .ok (.iload_n 3, 1) := by decide +kernel
theorem dX8_takeBatch_43 : decode cX8_takeBatch 43 = .ok (.aaload, 1) := by decide +kernel
theorem dX8_takeBatch_44 : decode cX8_takeBatch 44 = .ok (.astore 5, 2) := by decide +kernel
theorem dX8_takeBatch_46 : decode cX8_takeBatch 46 = .ok (.aload_n 0, 1) := by decide +kernel
theorem dX8_takeBatch_47 : decode cX8_takeBatch 47 = .ok (.getfield 27, 3) := by decide +kernel
theorem dX8_takeBatch_50 : decode cX8_takeBatch 50 = .ok (.new 256, 3) := by decide +kernel
theorem dX8_takeBatch_53 : decode cX8_takeBatch 53 = .ok (.dup, 1) := by decide +kernel
theorem dX8_takeBatch_54 : decode cX8_takeBatch 54 = .ok (.iconst 0, 1) := by decide +kernel
theorem dX8_takeBatch_55 : decode cX8_takeBatch 55 = .ok (.iconst 0, 1) := by decide +kernel
theorem dX8_takeBatch_56 : decode cX8_takeBatch 56 = .ok (.iload_n 3, 1) := by decide +kernel
theorem dX8_takeBatch_57 : decode cX8_takeBatch 57 = .ok (.iload_n 2, 1) := by decide +kernel
theorem dX8_takeBatch_58 : decode cX8_takeBatch 58 = .ok (.aload 5, 2) := by decide +kernel
theorem dX8_takeBatch_60 : decode cX8_takeBatch 60 = .ok (.invokespecial 258, 3) := by decide +kernel
theorem dX8_takeBatch_63 : decode cX8_takeBatch 63 = .ok (.invokevirtual 261, 3) := by decide +kernel
theorem dX8_takeBatch_66 : decode cX8_takeBatch 66 = .ok (.aload_n 0, 1) := by decide +kernel
theorem dX8_takeBatch_67 : decode cX8_takeBatch 67 = .ok (.iload_n 3, 1) := by decide +kernel
theorem dX8_takeBatch_68 : decode cX8_takeBatch 68 = .ok (.iload_n 2, 1) := by decide +kernel
theorem dX8_takeBatch_69 : decode cX8_takeBatch 69 = .ok (.aload 4, 2) := by decide +kernel
theorem dX8_takeBatch_71 : decode cX8_takeBatch 71 = .ok (.aload 5, 2) := by decide +kernel
theorem dX8_takeBatch_73 : decode cX8_takeBatch 73 = .ok (.invokevirtual 265, 3) := by decide +kernel
theorem dX8_takeBatch_76 : decode cX8_takeBatch 76 = .ok (.iinc 3 1, 3) := by decide +kernel
theorem dX8_takeBatch_79 : decode cX8_takeBatch 79 = .ok (.goto (-70), 3) := by decide +kernel
theorem dX8_takeBatch_82 : decode cX8_takeBatch 82 = .ok (.aload_n 0, 1) := by decide +kernel
theorem dX8_takeBatch_83 : decode cX8_takeBatch 83 = .ok (.iload_n 2, 1) := by decide +kernel
theorem dX8_takeBatch_84 : decode cX8_takeBatch 84 = .ok (.putfield 75, 3) := by decide +kernel
theorem dX8_takeBatch_87 : decode cX8_takeBatch 87 = .ok (.aload_n 1, 1) := by decide +kernel
theorem dX8_takeBatch_88 : decode cX8_takeBatch 88 = .ok (.iconst 2, 1) := by decide +kernel
theorem dX8_takeBatch_89 : decode cX8_takeBatch 89 = .ok (.putfield 138, 3) := by decide +kernel
theorem dX8_takeBatch_92 : decode cX8_takeBatch 92 = .ok (.return_, 1) := by decide +kernel
theorem dX8_addIndexEntries_0 : decode cX8_addIndexEntries 0 = .ok (.iconst 0, 1) := by decide +kernel
theorem dX8_addIndexEntries_1 : decode cX8_addIndexEntries 1 = .ok (.istore 5, 2) := by decide +kernel
theorem dX8_addIndexEntries_3 : decode cX8_addIndexEntries 3 = .ok (.iload 5, 2) := by decide +kernel
theorem dX8_addIndexEntries_5 : decode cX8_addIndexEntries 5 = .ok (.aload_n 0, 1) := by decide +kernel
theorem dX8_addIndexEntries_6 : decode cX8_addIndexEntries 6 = .ok (.getfield 72, 3) := by decide +kernel
theorem dX8_addIndexEntries_9 : decode cX8_addIndexEntries 9 = .ok (.if_icmp .ge 91, 3) := by decide +kernel
theorem dX8_addIndexEntries_12 : decode cX8_addIndexEntries 12 = .ok (.aload_n 0, 1) := by decide +kernel
theorem dX8_addIndexEntries_13 : decode cX8_addIndexEntries 13 = .ok (.iload 5, 2) := by decide +kernel
theorem dX8_addIndexEntries_15 : decode cX8_addIndexEntries 15 = .ok (.aload_n 3, 1) := by decide +kernel
theorem dX8_addIndexEntries_16 : decode cX8_addIndexEntries 16 = .ok (.aload 4, 2) := by decide +kernel
theorem dX8_addIndexEntries_18 : decode cX8_addIndexEntries 18 = .ok (.invokevirtual 244, 3) := by decide +kernel
theorem dX8_addIndexEntries_21 : decode cX8_addIndexEntries 21 = .ok (.ifCond .eq 31, 3) := by decide +kernel
theorem dX8_addIndexEntries_24 : decode cX8_addIndexEntries 24 = .ok (.aload_n 0, 1) := by decide +kernel
theorem dX8_addIndexEntries_25 : decode cX8_addIndexEntries 25 = .ok (.getfield 27, 3) := by decide +kernel
theorem dX8_addIndexEntries_28 : decode cX8_addIndexEntries 28 = .ok (.new 256, 3) := by decide +kernel
theorem dX8_addIndexEntries_31 : decode cX8_addIndexEntries 31 = .ok (.dup, 1) := by decide +kernel
theorem dX8_addIndexEntries_32 : decode cX8_addIndexEntries 32 = .ok (.iload 5, 2) := by decide +kernel
theorem dX8_addIndexEntries_34 : decode cX8_addIndexEntries 34 = .ok (.iconst 1, 1) := by decide +kernel
theorem dX8_addIndexEntries_35 : decode cX8_addIndexEntries 35 = .ok (.iadd, 1) := by decide +kernel
theorem dX8_addIndexEntries_36 : decode cX8_addIndexEntries 36 = .ok (.aload_n 0, 1) := by decide +kernel
theorem dX8_addIndexEntries_37 : decode cX8_addIndexEntries 37 = .ok (.iload 5, 2) := by decide +kernel
theorem dX8_addIndexEntries_39 : decode cX8_addIndexEntries 39 = .ok (.aload_n 3, 1) := by decide +kernel
theorem dX8_addIndexEntries_40 : decode cX8_addIndexEntries 40 = .ok (.invokevirtual 248, 3) := by decide +kernel
theorem dX8_addIndexEntries_43 : decode cX8_addIndexEntries 43 = .ok (.iload_n 1, 1) := by decide +kernel
theorem dX8_addIndexEntries_44 : decode cX8_addIndexEntries 44 = .ok (.iload_n 2, 1) := by decide +kernel
theorem dX8_addIndexEntries_45 : decode cX8_addIndexEntries 45 = .ok (.aconst_null, 1) := by decide +kernel
theorem dX8_addIndexEntries_46 : decode cX8_addIndexEntries 46 = .ok (.invokespecial 258, 3) := by decide +kernel
theorem dX8_addIndexEntries_49 : decode cX8_addIndexEntries 49 = .ok (.invokevirtual 261, 3) := by decide +kernel
theorem dX8_addIndexEntries_52 : decode cX8_addIndexEntries 52 = .ok (.aload_n 0, 1) := by decide +kernel
theorem dX8_addIndexEntries_53 : decode cX8_addIndexEntries 53 = .ok (.iload 5, 2) := by decide +kernel
theorem dX8_addIndexEntries_55 : decode cX8_addIndexEntries 55 = .ok (.aload 4, 2) := by decide +kernel
theorem dX8_addIndexEntries_57 : decode cX8_addIndexEntries 57 = .ok (.aload_n 3, 1) := by decide +kernel
theorem dX8_addIndexEntries_58 : decode cX8_addIndexEntries 58 = .ok (.invokevirtual 244, 3) := by decide +kernel
theorem dX8_addIndexEntries_61 : decode cX8_addIndexEntries 61 = .ok (.ifCond .eq 33, 3) := by decide +kernel
theorem dX8_addIndexEntries_64 : decode cX8_addIndexEntries 64 = .ok (.aload_n 0, 1) := by decide +kernel
theorem dX8_addIndexEntries_65 : decode cX8_addIndexEntries 65 = .ok (.getfield 27, 3) := by decide +kernel
theorem dX8_addIndexEntries_68 : decode cX8_addIndexEntries 68 = .ok (.new 256, 3) := by decide +kernel
theorem dX8_addIndexEntries_71 : decode cX8_addIndexEntries 71 = .ok (.dup, 1) := by decide +kernel
theorem dX8_addIndexEntries_72 : decode cX8_addIndexEntries 72 = .ok (.iload 5, 2) := by decide +kernel
theorem dX8_addIndexEntries_74 : decode cX8_addIndexEntries 74 = .ok (.iconst 1, 1) := by decide +kernel
theorem dX8_addIndexEntries_75 : decode cX8_addIndexEntries 75 = .ok (.iadd, 1) := by decide +kernel
theorem dX8_addIndexEntries_76 : decode cX8_addIndexEntries 76 = .ok (.aload_n 0, 1) := by decide +kernel
theorem dX8_addIndexEntries_77 : decode cX8_addIndexEntries 77 = .ok (.iload 5, 2) := by decide +kernel
theorem dX8_addIndexEntries_79 : decode cX8_addIndexEntries 79 = .ok (.aload 4, 2) := by decide +kernel
theorem dX8_addIndexEntries_81 : decode cX8_addIndexEntries 81 = .ok (.invokevirtual 248, 3) := by decide +kernel
theorem dX8_addIndexEntries_84 : decode cX8_addIndexEntries 84 = .ok (.iload_n 1, 1) := by decide +kernel
theorem dX8_addIndexEntries_85 : decode cX8_addIndexEntries 85 = .ok (.iload_n 2, 1) := by decide +kernel
theorem dX8_addIndexEntries_86 : decode cX8_addIndexEntries 86 = .ok (.aload 4, 2) := by decide +kernel
theorem dX8_addIndexEntries_88 : decode cX8_addIndexEntries 88 = .ok (.invokespecial 258, 3) := by decide +kernel
theorem dX8_addIndexEntries_91 : decode cX8_addIndexEntries 91 = .ok (.invokevirtual 261, 3) := by decide +kernel
theorem dX8_addIndexEntries_94 : decode cX8_addIndexEntries 94 = .ok (.iinc 5 1, 3) := by decide +kernel
theorem dX8_addIndexEntries_97 : decode cX8_addIndexEntries 97 = .ok (.goto (-94), 3) := by decide +kernel
theorem dX8_addIndexEntries_100 : decode cX8_addIndexEntries 100 = .ok (.return_, 1) := by decide +kernel
theorem dX8_flushAndMerge_0 : decode cX8_flushAndMerge 0 = .ok (.aload_n 0, 1) := by decide +kernel
theorem dX8_flushAndMerge_1 : decode cX8_flushAndMerge 1 = .ok (.getfield 27, 3) := by decide +kernel
theorem dX8_flushAndMerge_4 : decode cX8_flushAndMerge 4 = .ok (.invokevirtual 165, 3) := by decide +kernel
theorem dX8_flushAndMerge_7 : decode cX8_flushAndMerge 7 = .ok (.pop, 1) := by decide +kernel
theorem dX8_flushAndMerge_8 : decode cX8_flushAndMerge 8 = .ok (.aload_n 0, 1) := by decide +kernel
theorem dX8_flushAndMerge_9 : decode cX8_flushAndMerge 9 = .ok (.invokevirtual 171, 3) := by decide +kernel
theorem dX8_flushAndMerge_12 : decode cX8_flushAndMerge 12 = .ok (.istore_n 1, 1) := by decide +kernel
theorem dX8_flushAndMerge_13 : decode cX8_flushAndMerge 13 = .ok (.iconst 0, 1) := by decide +kernel
theorem dX8_flushAndMerge_14 : decode cX8_flushAndMerge 14 = .ok (.istore_n 2, 1) := by decide +kernel
theorem dX8_flushAndMerge_15 : decode cX8_flushAndMerge 15 = .ok (.iload_n 2, 1) := by decide +kernel
theorem dX8_flushAndMerge_16 : decode cX8_flushAndMerge 16 = .ok (.ldc_w 269, 3) := by decide +kernel
theorem dX8_flushAndMerge_19 : decode cX8_flushAndMerge 19 = .ok (.if_icmp .ge 33, 3) := by decide +kernel
theorem dX8_flushAndMerge_22 : decode cX8_flushAndMerge 22 = .ok (.aload_n 0, 1) := by decide +kernel
theorem dX8_flushAndMerge_23 : decode cX8_flushAndMerge 23 = .ok (.getfield 27, 3) := by decide +kernel
theorem dX8_flushAndMerge_26 : decode cX8_flushAndMerge 26 = .ok (.invokevirtual 270, 3) := by decide +kernel
theorem dX8_flushAndMerge_29 : decode cX8_flushAndMerge 29 = .ok (.istore_n 3, 1) := by decide +kernel
theorem dX8_flushAndMerge_30 : decode cX8_flushAndMerge 30 = .ok (.iload_n 3, 1) := by decide +kernel
theorem dX8_flushAndMerge_31 : decode cX8_flushAndMerge 31 = .ok (.iconst (-1), 1) := by decide +kernel
theorem dX8_flushAndMerge_32 : decode cX8_flushAndMerge 32 = .ok (.if_icmp .ne 4, 3) := by decide +kernel
theorem dX8_flushAndMerge_35 : decode cX8_flushAndMerge 35 = .ok (.return_, 1) := by decide +kernel
theorem dX8_flushAndMerge_36 : decode cX8_flushAndMerge 36 = .ok (.aload_n 0, 1) := by decide +kernel
theorem dX8_flushAndMerge_37 : decode cX8_flushAndMerge 37 = .ok (.getfield 27, 3) := by decide +kernel
theorem dX8_flushAndMerge_40 : decode cX8_flushAndMerge 40 = .ok (.iload_n 3, 1) := by decide +kernel
theorem dX8_flushAndMerge_41 : decode cX8_flushAndMerge 41 = .ok (.iload_n 1, 1) := by decide +kernel
theorem dX8_flushAndMerge_42 : decode cX8_flushAndMerge 42 = .ok (.invokevirtual 174, 3) := by decide +kernel
theorem dX8_flushAndMerge_45 : decode cX8_flushAndMerge 45 = .ok (.pop, 1) := by decide +kernel
theorem dX8_flushAndMerge_46 : decode cX8_flushAndMerge 46 = .ok (.iinc 2 1, 3) := by decide +kernel
theorem dX8_flushAndMerge_49 : decode cX8_flushAndMerge 49 = .ok (.goto (-34), 3) := by decide +kernel
theorem dX8_flushAndMerge_52 : decode cX8_flushAndMerge 52 = .ok (.return_, 1) := by decide +kernel
theorem dX8_choosePlan_0 : decode cX8_choosePlan 0 = .ok (.aload_n 0, 1) := by decide +kernel
theorem dX8_choosePlan_1 : decode cX8_choosePlan 1 = .ok (.iconst (-1), 1) := by decide +kernel
theorem dX8_choosePlan_2 : decode cX8_choosePlan 2 = .ok (.putfield 35, 3) := by decide +kernel
theorem dX8_choosePlan_5 : decode cX8_choosePlan 5 = .ok (.aload_n 0, 1) := by decide +kernel
theorem dX8_choosePlan_6 : decode cX8_choosePlan 6 = .ok (.aconst_null, 1) := by decide +kernel
theorem dX8_choosePlan_7 : decode cX8_choosePlan 7 = .ok (.putfield 181, 3) := by decide +kernel
theorem dX8_choosePlan_10 : decode cX8_choosePlan 10 = .ok (.iconst 0, 1) := by decide +kernel
theorem dX8_choosePlan_11 : decode cX8_choosePlan 11 = .ok (.istore_n 2, 1) := by decide +kernel
theorem dX8_choosePlan_12 : decode cX8_choosePlan 12 = .ok (.iload_n 2, 1) := by decide +kernel
theorem dX8_choosePlan_13 : decode cX8_choosePlan 13 = .ok (.aload_n 0, 1) := by decide +kernel
theorem dX8_choosePlan_14 : decode cX8_choosePlan 14 = .ok (.getfield 72, 3) := by decide +kernel
theorem dX8_choosePlan_17 : decode cX8_choosePlan 17 = .ok (.if_icmp .ge 67, 3) := by decide +kernel
theorem dX8_choosePlan_20 : decode cX8_choosePlan 20 = .ok (.new 186, 3) := by decide +kernel
theorem dX8_choosePlan_23 : decode cX8_choosePlan 23 = .ok (.dup, 1) := by decide +kernel
theorem dX8_choosePlan_24 : decode cX8_choosePlan 24 = .ok (.aload_n 0, 1) := by decide +kernel
theorem dX8_choosePlan_25 : decode cX8_choosePlan 25 = .ok (.getfield 15, 3) := by decide +kernel
theorem dX8_choosePlan_28 : decode cX8_choosePlan 28 = .ok (.iload_n 2, 1) := by decide +kernel
theorem dX8_choosePlan_29 : decode cX8_choosePlan 29 = .ok (.aaload, 1) := by decide +kernel
theorem dX8_choosePlan_30 : decode cX8_choosePlan 30 = .ok (.invokespecial 273, 3) := by decide +kernel
theorem dX8_choosePlan_33 : decode cX8_choosePlan 33 = .ok (.astore_n 3, 1) := by decide +kernel
theorem dX8_choosePlan_34 : decode cX8_choosePlan 34 = .ok (.aload_n 1, 1) := by decide +kernel
theorem dX8_choosePlan_35 : decode cX8_choosePlan 35 = .ok (.aload_n 3, 1) := by decide +kernel
theorem dX8_choosePlan_36 : decode cX8_choosePlan 36 = .ok (.invokestatic 275, 3) := by decide +kernel
theorem dX8_choosePlan_39 : decode cX8_choosePlan 39 = .ok (.aload_n 3, 1) := by decide +kernel
theorem dX8_choosePlan_40 : decode cX8_choosePlan 40 = .ok (.getfield 279, 3) := by decide +kernel
theorem dX8_choosePlan_43 : decode cX8_choosePlan 43 = .ok (.ifCond .eq 35, 3) := by decide +kernel
theorem dX8_choosePlan_46 : decode cX8_choosePlan 46 = .ok (.aload_n 0, 1) := by decide +kernel
theorem dX8_choosePlan_47 : decode cX8_choosePlan 47 = .ok (.getfield 181, 3) := by decide +kernel
theorem dX8_choosePlan_50 : decode cX8_choosePlan 50 = .ok (.ifnull 18, 3) := by decide +kernel
theorem dX8_choosePlan_53 : decode cX8_choosePlan 53 = .ok (.aload_n 3, 1) := by decide +kernel
theorem dX8_choosePlan_54 : decode cX8_choosePlan 54 = .ok (.invokevirtual 282, 3) := by decide +kernel
theorem dX8_choosePlan_57 : decode cX8_choosePlan 57 = .ok (.aload_n 0, 1) := by decide +kernel
theorem dX8_choosePlan_58 : decode cX8_choosePlan 58 = .ok (.getfield 181, 3) := by decide +kernel
theorem dX8_choosePlan_61 : decode cX8_choosePlan 61 = .ok (.invokevirtual 282, 3) := by decide +kernel
theorem dX8_choosePlan_64 : decode cX8_choosePlan 64 = .ok (.lcmp, 1) := by decide +kernel
theorem dX8_choosePlan_65 : decode cX8_choosePlan 65 = .ok (.ifCond .ge 13, 3) := by decide +kernel
theorem dX8_choosePlan_68 : decode cX8_choosePlan 68 = .ok (.aload_n 0, 1) := by decide +kernel
theorem dX8_choosePlan_69 : decode cX8_choosePlan 69 = .ok (.iload_n 2, 1) := by decide +kernel
theorem dX8_choosePlan_70 : decode cX8_choosePlan 70 = .ok (.putfield 35, 3) := by decide +kernel
theorem dX8_choosePlan_73 : decode cX8_choosePlan 73 = .ok (.aload_n 0, 1) := by decide +kernel
theorem dX8_choosePlan_74 : decode cX8_choosePlan 74 = .ok (.aload_n 3, 1) := by decide +kernel
theorem dX8_choosePlan_75 : decode cX8_choosePlan 75 = .ok (.putfield 181, 3) := by decide +kernel
theorem dX8_choosePlan_78 : decode cX8_choosePlan 78 = .ok (.iinc 2 1, 3) := by decide +kernel
theorem dX8_choosePlan_81 : decode cX8_choosePlan 81 = .ok (.goto (-69), 3) := by decide +kernel
theorem dX8_choosePlan_84 : decode cX8_choosePlan 84 = .ok (.return_, 1) := by decide +kernel
theorem dX8_countCandidates_0 : decode cX8_countCandidates 0 = .ok (.aload_n 0, 1) := by decide +kernel
theorem dX8_countCandidates_1 : decode cX8_countCandidates 1 = .ok (.aload_n 0, 1) := by decide +kernel
theorem dX8_countCandidates_2 : decode cX8_countCandidates 2 = .ok (.getfield 181, 3) := by decide +kernel
theorem dX8_countCandidates_5 : decode cX8_countCandidates 5 = .ok (.ifnonnull 17, 3) := by decide +kernel
theorem dX8_countCandidates_8 : decode cX8_countCandidates 8 = .ok (.aload_n 0, 1) := by decide +kernel
theorem dX8_countCandidates_9 : decode cX8_countCandidates 9 = .ok (.getfield 27, 3) := by decide +kernel
theorem dX8_countCandidates_12 : decode cX8_countCandidates 12 = .ok (.iconst 0, 1) := by decide +kernel
theorem dX8_countCandidates_13 : decode cX8_countCandidates 13 = .ok (.lconst 0, 1) := by decide +kernel
theorem dX8_countCandidates_14 : decode cX8_countCandidates 14 = .ok (.lconst 0, 1) := by decide +kernel
theorem dX8_countCandidates_15 : decode cX8_countCandidates 15 = .ok (.iload_n 1, 1) := by decide +kernel
theorem dX8_countCandidates_16 : decode cX8_countCandidates 16 = .ok (.invokevirtual 286, 3) := by decide +kernel
theorem dX8_countCandidates_19 : decode cX8_countCandidates 19 = .ok (.goto 31, 3) := by decide +kernel
theorem dX8_countCandidates_22 : decode cX8_countCandidates 22 = .ok (.aload_n 0, 1) := by decide +kernel
theorem dX8_countCandidates_23 : decode cX8_countCandidates 23 = .ok (.getfield 27, 3) := by decide +kernel
theorem dX8_countCandidates_26 : decode cX8_countCandidates 26 = .ok (.aload_n 0, 1) := by decide +kernel
theorem dX8_countCandidates_27 : decode cX8_countCandidates 27 = .ok (.getfield 35, 3) := by decide +kernel
theorem dX8_countCandidates_30 : decode cX8_countCandidates 30 = .ok (.iconst 1, 1) := by decide +kernel
theorem dX8_countCandidates_31 : decode cX8_countCandidates 31 = .ok (.iadd, 1) := by decide +kernel
theorem dX8_countCandidates_32 : decode cX8_countCandidates 32 = .ok (.aload_n 0, 1) := by decide +kernel
theorem dX8_countCandidates_33 : decode cX8_countCandidates 33 = .ok (.getfield 181, 3) := by decide +kernel
theorem dX8_countCandidates_36 : decode cX8_countCandidates 36 = .ok (.getfield 185, 3) := by decide +kernel
theorem dX8_countCandidates_39 : decode cX8_countCandidates 39 = .ok (.aload_n 0, 1) := by decide +kernel
theorem dX8_countCandidates_40 : decode cX8_countCandidates 40 = .ok (.getfield 181, 3) := by decide +kernel
theorem dX8_countCandidates_43 : decode cX8_countCandidates 43 = .ok (.getfield 191, 3) := by decide +kernel
theorem dX8_countCandidates_46 : decode cX8_countCandidates 46 = .ok (.iload_n 1, 1) := by decide +kernel
theorem dX8_countCandidates_47 : decode cX8_countCandidates 47 = .ok (.invokevirtual 286, 3) := by decide +kernel
theorem dX8_countCandidates_50 : decode cX8_countCandidates 50 = .ok (.putfield 178, 3) := by decide +kernel
theorem dX8_countCandidates_53 : decode cX8_countCandidates 53 = .ok (.return_, 1) := by decide +kernel
theorem dX8_fillResult_0 : decode cX8_fillResult 0 = .ok (.aload_n 0, 1) := by decide +kernel
theorem dX8_fillResult_1 : decode cX8_fillResult 1 = .ok (.iconst 0, 1) := by decide +kernel
theorem dX8_fillResult_2 : decode cX8_fillResult 2 = .ok (.putfield 131, 3) := by decide +kernel
theorem dX8_fillResult_5 : decode cX8_fillResult 5 = .ok (.iconst 0, 1) := by decide +kernel
theorem dX8_fillResult_6 : decode cX8_fillResult 6 = .ok (.istore_n 3, 1) := by decide +kernel
theorem dX8_fillResult_7 : decode cX8_fillResult 7 = .ok (.iload_n 3, 1) := by decide +kernel
theorem dX8_fillResult_8 : decode cX8_fillResult 8 = .ok (.bipush 32, 2) := by decide +kernel
theorem dX8_fillResult_10 : decode cX8_fillResult 10 = .ok (.if_icmp .ge 51, 3) := by decide +kernel
theorem dX8_fillResult_13 : decode cX8_fillResult 13 = .ok (.aload_n 0, 1) := by decide +kernel
theorem dX8_fillResult_14 : decode cX8_fillResult 14 = .ok (.aload_n 2, 1) := by decide +kernel
theorem dX8_fillResult_15 : decode cX8_fillResult 15 = .ok (.iload_n 3, 1) := by decide +kernel
theorem dX8_fillResult_16 : decode cX8_fillResult 16 = .ok (.invokevirtual 95, 3) := by decide +kernel
theorem dX8_fillResult_19 : decode cX8_fillResult 19 = .ok (.astore 4, 2) := by decide +kernel
theorem dX8_fillResult_21 : decode cX8_fillResult 21 = .ok (.aload 4, 2) := by decide +kernel
theorem dX8_fillResult_23 : decode cX8_fillResult 23 = .ok (.ifnull 32, 3) := by decide +kernel
theorem dX8_fillResult_26 : decode cX8_fillResult 26 = .ok (.aload_n 1, 1) := by decide +kernel
theorem dX8_fillResult_27 : decode cX8_fillResult 27 = .ok (.aload 4, 2) := by decide +kernel
theorem dX8_fillResult_29 : decode cX8_fillResult 29 = .ok (.invokestatic 290, 3) := by decide +kernel
theorem dX8_fillResult_32 : decode cX8_fillResult 32 = .ok (.ifCond .eq 23, 3) := by decide +kernel
theorem dX8_fillResult_35 : decode cX8_fillResult 35 = .ok (.aload_n 0, 1) := by decide +kernel
theorem dX8_fillResult_36 : decode cX8_fillResult 36 = .ok (.getfield 31, 3) := by decide +kernel
theorem dX8_fillResult_39 : decode cX8_fillResult 39 = .ok (.aload_n 0, 1) := by decide +kernel
theorem dX8_fillResult_40 : decode cX8_fillResult 40 = .ok (.getfield 131, 3) := by decide +kernel
theorem dX8_fillResult_43 : decode cX8_fillResult 43 = .ok (.iload_n 3, 1) := by decide +kernel
theorem dX8_fillResult_44 : decode cX8_fillResult 44 = .ok (.iastore, 1) := by decide +kernel
theorem dX8_fillResult_45 : decode cX8_fillResult 45 = .ok (.aload_n 0, 1) := by decide +kernel
theorem dX8_fillResult_46 : decode cX8_fillResult 46 = .ok (.dup, 1) := by decide +kernel
theorem dX8_fillResult_47 : decode cX8_fillResult 47 = .ok (.getfield 131, 3) := by decide +kernel
theorem dX8_fillResult_50 : decode cX8_fillResult 50 = .ok (.iconst 1, 1) := by decide +kernel
theorem dX8_fillResult_51 : decode cX8_fillResult 51 = .ok (.iadd, 1) := by decide +kernel
theorem dX8_fillResult_52 : decode cX8_fillResult 52 = .ok (.putfield 131, 3) := by decide +kernel
theorem dX8_fillResult_55 : decode cX8_fillResult 55 = .ok (.iinc 3 1, 3) := by decide +kernel
theorem dX8_fillResult_58 : decode cX8_fillResult 58 = .ok (.goto (-51), 3) := by decide +kernel
theorem dX8_fillResult_61 : decode cX8_fillResult 61 = .ok (.return_, 1) := by decide +kernel
theorem dL_law_0 : decode cL_law 0 = .ok (.new 7, 3) := by decide +kernel
theorem dL_law_3 : decode cL_law 3 = .ok (.dup, 1) := by decide +kernel
theorem dL_law_4 : decode cL_law 4 = .ok (.invokespecial 9, 3) := by decide +kernel
theorem dL_law_7 : decode cL_law 7 = .ok (.astore_n 1, 1) := by decide +kernel
theorem dL_law_8 : decode cL_law 8 = .ok (.new 10, 3) := by decide +kernel
theorem dL_law_11 : decode cL_law 11 = .ok (.dup, 1) := by decide +kernel
theorem dL_law_12 : decode cL_law 12 = .ok (.invokespecial 12, 3) := by decide +kernel
theorem dL_law_15 : decode cL_law 15 = .ok (.astore_n 2, 1) := by decide +kernel
theorem dL_law_16 : decode cL_law 16 = .ok (.iconst 0, 1) := by decide +kernel
theorem dL_law_17 : decode cL_law 17 = .ok (.istore_n 3, 1) := by decide +kernel
theorem dL_law_18 : decode cL_law 18 = .ok (.iload_n 3, 1) := by decide +kernel
theorem dL_law_19 : decode cL_law 19 = .ok (.aload_n 0, 1) := by decide +kernel
theorem dL_law_20 : decode cL_law 20 = .ok (.arraylength, 1) := by decide +kernel
theorem dL_law_21 : decode cL_law 21 = .ok (.bipush 6, 2) := by decide +kernel
theorem dL_law_23 : decode cL_law 23 = .ok (.isub, 1) := by decide +kernel
theorem dL_law_24 : decode cL_law 24 = .ok (.if_icmp .gt 604, 3) := by decide +kernel
theorem dL_law_27 : decode cL_law 27 = .ok (.aload_n 0, 1) := by decide +kernel
theorem dL_law_28 : decode cL_law 28 = .ok (.iload_n 3, 1) := by decide +kernel
theorem dL_law_29 : decode cL_law 29 = .ok (.iaload, 1) := by decide +kernel
theorem dL_law_30 : decode cL_law 30 = .ok (.bipush 31, 2) := by decide +kernel
theorem dL_law_32 : decode cL_law 32 = .ok (.iand, 1) := by decide +kernel
theorem dL_law_33 : decode cL_law 33 = .ok (.tableswitch 589 0 18 #[91, 124, 137, 150, 193, 256, 289, 312, 335, 368, 391, 404, 417, 430, 453, 477, 500, 523, 546], 91) := by decide +kernel
theorem dL_law_124 : decode cL_law 124 = .ok (.aload_n 1, 1) := by decide +kernel
theorem dL_law_125 : decode cL_law 125 = .ok (.aload_n 0, 1) := by decide +kernel
theorem dL_law_126 : decode cL_law 126 = .ok (.iload_n 3, 1) := by decide +kernel
theorem dL_law_127 : decode cL_law 127 = .ok (.iconst 1, 1) := by decide +kernel
theorem dL_law_128 : decode cL_law 128 = .ok (.iadd, 1) := by decide +kernel
theorem dL_law_129 : decode cL_law 129 = .ok (.iaload, 1) := by decide +kernel
theorem dL_law_130 : decode cL_law 130 = .ok (.aload_n 0, 1) := by decide +kernel
theorem dL_law_131 : decode cL_law 131 = .ok (.iload_n 3, 1) := by decide +kernel
theorem dL_law_132 : decode cL_law 132 = .ok (.iconst 2, 1) := by decide +kernel
theorem dL_law_133 : decode cL_law 133 = .ok (.iadd, 1) := by decide +kernel
theorem dL_law_134 : decode cL_law 134 = .ok (.iaload, 1) := by decide +kernel
theorem dL_law_135 : decode cL_law 135 = .ok (.invokevirtual 13, 3) := by decide +kernel
theorem dL_law_138 : decode cL_law 138 = .ok (.aload_n 2, 1) := by decide +kernel
theorem dL_law_139 : decode cL_law 139 = .ok (.aload_n 0, 1) := by decide +kernel
theorem dL_law_140 : decode cL_law 140 = .ok (.iload_n 3, 1) := by decide +kernel
theorem dL_law_141 : decode cL_law 141 = .ok (.iconst 1, 1) := by decide +kernel
theorem dL_law_142 : decode cL_law 142 = .ok (.iadd, 1) := by decide +kernel
theorem dL_law_143 : decode cL_law 143 = .ok (.iaload, 1) := by decide +kernel
theorem dL_law_144 : decode cL_law 144 = .ok (.aload_n 0, 1) := by decide +kernel
theorem dL_law_145 : decode cL_law 145 = .ok (.iload_n 3, 1) := by decide +kernel
theorem dL_law_146 : decode cL_law 146 = .ok (.iconst 2, 1) := by decide +kernel
theorem dL_law_147 : decode cL_law 147 = .ok (.iadd, 1) := by decide +kernel
theorem dL_law_148 : decode cL_law 148 = .ok (.iaload, 1) := by decide +kernel
theorem dL_law_149 : decode cL_law 149 = .ok (.invokevirtual 17, 3) := by decide +kernel
theorem dL_law_152 : decode cL_law 152 = .ok (.if_icmp .eq 470, 3) := by decide +kernel
theorem dL_law_155 : decode cL_law 155 = .ok (.iconst 0, 1) := by decide +kernel
theorem dL_law_156 : decode cL_law 156 = .ok (.ireturn, 1) := by decide +kernel
theorem dL_law_157 : decode cL_law 157 = .ok (.aload_n 1, 1) := by decide +kernel
theorem dL_law_158 : decode cL_law 158 = .ok (.invokevirtual 18, 3) := by decide +kernel
theorem dL_law_161 : decode cL_law 161 = .ok (.aload_n 2, 1) := by decide +kernel
theorem dL_law_162 : decode cL_law 162 = .ok (.invokevirtual 22, 3) := by decide +kernel
theorem dL_law_165 : decode cL_law 165 = .ok (.if_icmp .eq 457, 3) := by decide +kernel
theorem dL_law_168 : decode cL_law 168 = .ok (.iconst 0, 1) := by decide +kernel
theorem dL_law_169 : decode cL_law 169 = .ok (.ireturn, 1) := by decide +kernel
theorem dL_law_170 : decode cL_law 170 = .ok (.aload_n 1, 1) := by decide +kernel
theorem dL_law_171 : decode cL_law 171 = .ok (.invokevirtual 23, 3) := by decide +kernel
theorem dL_law_174 : decode cL_law 174 = .ok (.aload_n 2, 1) := by decide +kernel
theorem dL_law_175 : decode cL_law 175 = .ok (.invokevirtual 26, 3) := by decide +kernel
theorem dL_law_178 : decode cL_law 178 = .ok (.if_icmp .eq 444, 3) := by decide +kernel
theorem dL_law_181 : decode cL_law 181 = .ok (.iconst 0, 1) := by decide +kernel
theorem dL_law_182 : decode cL_law 182 = .ok (.ireturn, 1) := by decide +kernel
theorem dL_law_183 : decode cL_law 183 = .ok (.aload_n 1, 1) := by decide +kernel
theorem dL_law_184 : decode cL_law 184 = .ok (.aload_n 0, 1) := by decide +kernel
theorem dL_law_185 : decode cL_law 185 = .ok (.iload_n 3, 1) := by decide +kernel
theorem dL_law_186 : decode cL_law 186 = .ok (.iconst 1, 1) := by decide +kernel
theorem dL_law_187 : decode cL_law 187 = .ok (.iadd, 1) := by decide +kernel
theorem dL_law_188 : decode cL_law 188 = .ok (.iaload, 1) := by decide +kernel
theorem dL_law_189 : decode cL_law 189 = .ok (.aload_n 0, 1) := by decide +kernel
theorem dL_law_190 : decode cL_law 190 = .ok (.iload_n 3, 1) := by decide +kernel
theorem dL_law_191 : decode cL_law 191 = .ok (.iconst 2, 1) := by decide +kernel
theorem dL_law_192 : decode cL_law 192 = .ok (.iadd, 1) := by decide +kernel
theorem dL_law_193 : decode cL_law 193 = .ok (.iaload, 1) := by decide +kernel
theorem dL_law_194 : decode cL_law 194 = .ok (.aload_n 0, 1) := by decide +kernel
theorem dL_law_195 : decode cL_law 195 = .ok (.iload_n 3, 1) := by decide +kernel
theorem dL_law_196 : decode cL_law 196 = .ok (.iconst 3, 1) := by decide +kernel
theorem dL_law_197 : decode cL_law 197 = .ok (.iadd, 1) := by decide +kernel
theorem dL_law_198 : decode cL_law 198 = .ok (.iaload, 1) := by decide +kernel
theorem dL_law_199 : decode cL_law 199 = .ok (.invokevirtual 27, 3) := by decide +kernel
theorem dL_law_202 : decode cL_law 202 = .ok (.aload_n 2, 1) := by decide +kernel
theorem dL_law_203 : decode cL_law 203 = .ok (.aload_n 0, 1) := by decide +kernel
theorem dL_law_204 : decode cL_law 204 = .ok (.iload_n 3, 1) := by decide +kernel
theorem dL_law_205 : decode cL_law 205 = .ok (.iconst 1, 1) := by decide +kernel
theorem dL_law_206 : decode cL_law 206 = .ok (.iadd, 1) := by decide +kernel
theorem dL_law_207 : decode cL_law 207 = .ok (.iaload, 1) := by decide +kernel
theorem dL_law_208 : decode cL_law 208 = .ok (.aload_n 0, 1) := by decide +kernel
theorem dL_law_209 : decode cL_law 209 = .ok (.iload_n 3, 1) := by decide +kernel
theorem dL_law_210 : decode cL_law 210 = .ok (.iconst 2, 1) := by decide +kernel
theorem dL_law_211 : decode cL_law 211 = .ok (.iadd, 1) := by decide +kernel
theorem dL_law_212 : decode cL_law 212 = .ok (.iaload, 1) := by decide +kernel
theorem dL_law_213 : decode cL_law 213 = .ok (.aload_n 0, 1) := by decide +kernel
theorem dL_law_214 : decode cL_law 214 = .ok (.iload_n 3, 1) := by decide +kernel
theorem dL_law_215 : decode cL_law 215 = .ok (.iconst 3, 1) := by decide +kernel
theorem dL_law_216 : decode cL_law 216 = .ok (.iadd, 1) := by decide +kernel
theorem dL_law_217 : decode cL_law 217 = .ok (.iaload, 1) := by decide +kernel
theorem dL_law_218 : decode cL_law 218 = .ok (.invokevirtual 31, 3) := by decide +kernel
theorem dL_law_221 : decode cL_law 221 = .ok (.if_icmp .eq 401, 3) := by decide +kernel
theorem dL_law_224 : decode cL_law 224 = .ok (.iconst 0, 1) := by decide +kernel
theorem dL_law_225 : decode cL_law 225 = .ok (.ireturn, 1) := by decide +kernel
theorem dL_law_226 : decode cL_law 226 = .ok (.aload_n 1, 1) := by decide +kernel
theorem dL_law_227 : decode cL_law 227 = .ok (.aload_n 0, 1) := by decide +kernel
theorem dL_law_228 : decode cL_law 228 = .ok (.iload_n 3, 1) := by decide +kernel
theorem dL_law_229 : decode cL_law 229 = .ok (.iconst 1, 1) := by decide +kernel
theorem dL_law_230 : decode cL_law 230 = .ok (.iadd, 1) := by decide +kernel
theorem dL_law_231 : decode cL_law 231 = .ok (.iaload, 1) := by decide +kernel
theorem dL_law_232 : decode cL_law 232 = .ok (.aload_n 0, 1) := by decide +kernel
theorem dL_law_233 : decode cL_law 233 = .ok (.iload_n 3, 1) := by decide +kernel
theorem dL_law_234 : decode cL_law 234 = .ok (.iconst 2, 1) := by decide +kernel
theorem dL_law_235 : decode cL_law 235 = .ok (.iadd, 1) := by decide +kernel
theorem dL_law_236 : decode cL_law 236 = .ok (.iaload, 1) := by decide +kernel
theorem dL_law_237 : decode cL_law 237 = .ok (.aload_n 0, 1) := by decide +kernel
theorem dL_law_238 : decode cL_law 238 = .ok (.iload_n 3, 1) := by decide +kernel
theorem dL_law_239 : decode cL_law 239 = .ok (.iconst 3, 1) := by decide +kernel
theorem dL_law_240 : decode cL_law 240 = .ok (.iadd, 1) := by decide +kernel
theorem dL_law_241 : decode cL_law 241 = .ok (.iaload, 1) := by decide +kernel
theorem dL_law_242 : decode cL_law 242 = .ok (.aload_n 0, 1) := by decide +kernel
theorem dL_law_243 : decode cL_law 243 = .ok (.iload_n 3, 1) := by decide +kernel
theorem dL_law_244 : decode cL_law 244 = .ok (.iconst 4, 1) := by decide +kernel
theorem dL_law_245 : decode cL_law 245 = .ok (.iadd, 1) := by decide +kernel
theorem dL_law_246 : decode cL_law 246 = .ok (.iaload, 1) := by decide +kernel
theorem dL_law_247 : decode cL_law 247 = .ok (.aload_n 0, 1) := by decide +kernel
theorem dL_law_248 : decode cL_law 248 = .ok (.iload_n 3, 1) := by decide +kernel
theorem dL_law_249 : decode cL_law 249 = .ok (.iconst 5, 1) := by decide +kernel
theorem dL_law_250 : decode cL_law 250 = .ok (.iadd, 1) := by decide +kernel
theorem dL_law_251 : decode cL_law 251 = .ok (.iaload, 1) := by decide +kernel
theorem dL_law_252 : decode cL_law 252 = .ok (.invokevirtual 32, 3) := by decide +kernel
theorem dL_law_255 : decode cL_law 255 = .ok (.aload_n 2, 1) := by decide +kernel
theorem dL_law_256 : decode cL_law 256 = .ok (.aload_n 0, 1) := by decide +kernel
theorem dL_law_257 : decode cL_law 257 = .ok (.iload_n 3, 1) := by decide +kernel
theorem dL_law_258 : decode cL_law 258 = .ok (.iconst 1, 1) := by decide +kernel
theorem dL_law_259 : decode cL_law 259 = .ok (.iadd, 1) := by decide +kernel
theorem dL_law_260 : decode cL_law 260 = .ok (.iaload, 1) := by decide +kernel
theorem dL_law_261 : decode cL_law 261 = .ok (.aload_n 0, 1) := by decide +kernel
theorem dL_law_262 : decode cL_law 262 = .ok (.iload_n 3, 1) := by decide +kernel
theorem dL_law_263 : decode cL_law 263 = .ok (.iconst 2, 1) := by decide +kernel
theorem dL_law_264 : decode cL_law 264 = .ok (.iadd, 1) := by decide +kernel
theorem dL_law_265 : decode cL_law 265 = .ok (.iaload, 1) := by decide +kernel
theorem dL_law_266 : decode cL_law 266 = .ok (.aload_n 0, 1) := by decide +kernel
theorem dL_law_267 : decode cL_law 267 = .ok (.iload_n 3, 1) := by decide +kernel
theorem dL_law_268 : decode cL_law 268 = .ok (.iconst 3, 1) := by decide +kernel
theorem dL_law_269 : decode cL_law 269 = .ok (.iadd, 1) := by decide +kernel
theorem dL_law_270 : decode cL_law 270 = .ok (.iaload, 1) := by decide +kernel
theorem dL_law_271 : decode cL_law 271 = .ok (.aload_n 0, 1) := by decide +kernel
theorem dL_law_272 : decode cL_law 272 = .ok (.iload_n 3, 1) := by decide +kernel
theorem dL_law_273 : decode cL_law 273 = .ok (.iconst 4, 1) := by decide +kernel
theorem dL_law_274 : decode cL_law 274 = .ok (.iadd, 1) := by decide +kernel
theorem dL_law_275 : decode cL_law 275 = .ok (.iaload, 1) := by decide +kernel
theorem dL_law_276 : decode cL_law 276 = .ok (.aload_n 0, 1) := by decide +kernel
theorem dL_law_277 : decode cL_law 277 = .ok (.iload_n 3, 1) := by decide +kernel
theorem dL_law_278 : decode cL_law 278 = .ok (.iconst 5, 1) := by decide +kernel
theorem dL_law_279 : decode cL_law 279 = .ok (.iadd, 1) := by decide +kernel
theorem dL_law_280 : decode cL_law 280 = .ok (.iaload, 1) := by decide +kernel
theorem dL_law_281 : decode cL_law 281 = .ok (.invokevirtual 36, 3) := by decide +kernel
theorem dL_law_284 : decode cL_law 284 = .ok (.if_icmp .eq 338, 3) := by decide +kernel
theorem dL_law_287 : decode cL_law 287 = .ok (.iconst 0, 1) := by decide +kernel
theorem dL_law_288 : decode cL_law 288 = .ok (.ireturn, 1) := by decide +kernel
theorem dL_law_289 : decode cL_law 289 = .ok (.aload_n 1, 1) := by decide +kernel
theorem dL_law_290 : decode cL_law 290 = .ok (.aload_n 0, 1) := by decide +kernel
theorem dL_law_291 : decode cL_law 291 = .ok (.iload_n 3, 1) := by decide +kernel
theorem dL_law_292 : decode cL_law 292 = .ok (.iconst 1, 1) := by decide +kernel
theorem dL_law_293 : decode cL_law 293 = .ok (.iadd, 1) := by decide +kernel
theorem dL_law_294 : decode cL_law 294 = .ok (.iaload, 1) := by decide +kernel
theorem dL_law_295 : decode cL_law 295 = .ok (.aload_n 0, 1) := by decide +kernel
theorem dL_law_296 : decode cL_law 296 = .ok (.iload_n 3, 1) := by decide +kernel
theorem dL_law_297 : decode cL_law 297 = .ok (.iconst 2, 1) := by decide +kernel
theorem dL_law_298 : decode cL_law 298 = .ok (.iadd, 1) := by decide +kernel
theorem dL_law_299 : decode cL_law 299 = .ok (.iaload, 1) := by decide +kernel
theorem dL_law_300 : decode cL_law 300 = .ok (.invokevirtual 37, 3) := by decide +kernel
theorem dL_law_303 : decode cL_law 303 = .ok (.aload_n 2, 1) := by decide +kernel
theorem dL_law_304 : decode cL_law 304 = .ok (.aload_n 0, 1) := by decide +kernel
theorem dL_law_305 : decode cL_law 305 = .ok (.iload_n 3, 1) := by decide +kernel
theorem dL_law_306 : decode cL_law 306 = .ok (.iconst 1, 1) := by decide +kernel
theorem dL_law_307 : decode cL_law 307 = .ok (.iadd, 1) := by decide +kernel
theorem dL_law_308 : decode cL_law 308 = .ok (.iaload, 1) := by decide +kernel
theorem dL_law_309 : decode cL_law 309 = .ok (.aload_n 0, 1) := by decide +kernel
theorem dL_law_310 : decode cL_law 310 = .ok (.iload_n 3, 1) := by decide +kernel
theorem dL_law_311 : decode cL_law 311 = .ok (.iconst 2, 1) := by decide +kernel
theorem dL_law_312 : decode cL_law 312 = .ok (.iadd, 1) := by decide +kernel
theorem dL_law_313 : decode cL_law 313 = .ok (.iaload, 1) := by decide +kernel
theorem dL_law_314 : decode cL_law 314 = .ok (.invokevirtual 40, 3) := by decide +kernel
theorem dL_law_317 : decode cL_law 317 = .ok (.if_icmp .eq 305, 3) := by decide +kernel
theorem dL_law_320 : decode cL_law 320 = .ok (.iconst 0, 1) := by decide +kernel
theorem dL_law_321 : decode cL_law 321 = .ok (.ireturn, 1) := by decide +kernel
theorem dL_law_322 : decode cL_law 322 = .ok (.aload_n 1, 1) := by decide +kernel
theorem dL_law_323 : decode cL_law 323 = .ok (.aload_n 0, 1) := by decide +kernel
theorem dL_law_324 : decode cL_law 324 = .ok (.iload_n 3, 1) := by decide +kernel
theorem dL_law_325 : decode cL_law 325 = .ok (.iconst 1, 1) := by decide +kernel
theorem dL_law_326 : decode cL_law 326 = .ok (.iadd, 1) := by decide +kernel
theorem dL_law_327 : decode cL_law 327 = .ok (.iaload, 1) := by decide +kernel
theorem dL_law_328 : decode cL_law 328 = .ok (.invokevirtual 41, 3) := by decide +kernel
theorem dL_law_331 : decode cL_law 331 = .ok (.aload_n 2, 1) := by decide +kernel
theorem dL_law_332 : decode cL_law 332 = .ok (.aload_n 0, 1) := by decide +kernel
theorem dL_law_333 : decode cL_law 333 = .ok (.iload_n 3, 1) := by decide +kernel
theorem dL_law_334 : decode cL_law 334 = .ok (.iconst 1, 1) := by decide +kernel
theorem dL_law_335 : decode cL_law 335 = .ok (.iadd, 1) := by decide +kernel
theorem dL_law_336 : decode cL_law 336 = .ok (.iaload, 1) := by decide +kernel
theorem dL_law_337 : decode cL_law 337 = .ok (.invokevirtual 45, 3) := by decide +kernel
theorem dL_law_340 : decode cL_law 340 = .ok (.if_icmp .eq 282, 3) := by decide +kernel
theorem dL_law_343 : decode cL_law 343 = .ok (.iconst 0, 1) := by decide +kernel
theorem dL_law_344 : decode cL_law 344 = .ok (.ireturn, 1) := by decide +kernel
theorem dL_law_345 : decode cL_law 345 = .ok (.aload_n 1, 1) := by decide +kernel
theorem dL_law_346 : decode cL_law 346 = .ok (.aload_n 0, 1) := by decide +kernel
theorem dL_law_347 : decode cL_law 347 = .ok (.iload_n 3, 1) := by decide +kernel
theorem dL_law_348 : decode cL_law 348 = .ok (.iconst 1, 1) := by decide +kernel
theorem dL_law_349 : decode cL_law 349 = .ok (.iadd, 1) := by decide +kernel
theorem dL_law_350 : decode cL_law 350 = .ok (.iaload, 1) := by decide +kernel
theorem dL_law_351 : decode cL_law 351 = .ok (.invokevirtual 46, 3) := by decide +kernel
theorem dL_law_354 : decode cL_law 354 = .ok (.aload_n 2, 1) := by decide +kernel
theorem dL_law_355 : decode cL_law 355 = .ok (.aload_n 0, 1) := by decide +kernel
theorem dL_law_356 : decode cL_law 356 = .ok (.iload_n 3, 1) := by decide +kernel
theorem dL_law_357 : decode cL_law 357 = .ok (.iconst 1, 1) := by decide +kernel
theorem dL_law_358 : decode cL_law 358 = .ok (.iadd, 1) := by decide +kernel
theorem dL_law_359 : decode cL_law 359 = .ok (.iaload, 1) := by decide +kernel
theorem dL_law_360 : decode cL_law 360 = .ok (.invokevirtual 49, 3) := by decide +kernel
theorem dL_law_363 : decode cL_law 363 = .ok (.if_icmp .eq 259, 3) := by decide +kernel
theorem dL_law_366 : decode cL_law 366 = .ok (.iconst 0, 1) := by decide +kernel
theorem dL_law_367 : decode cL_law 367 = .ok (.ireturn, 1) := by decide +kernel
theorem dL_law_368 : decode cL_law 368 = .ok (.aload_n 1, 1) := by decide +kernel
theorem dL_law_369 : decode cL_law 369 = .ok (.aload_n 0, 1) := by decide +kernel
theorem dL_law_370 : decode cL_law 370 = .ok (.iload_n 3, 1) := by decide +kernel
theorem dL_law_371 : decode cL_law 371 = .ok (.iconst 1, 1) := by decide +kernel
theorem dL_law_372 : decode cL_law 372 = .ok (.iadd, 1) := by decide +kernel
theorem dL_law_373 : decode cL_law 373 = .ok (.iaload, 1) := by decide +kernel
theorem dL_law_374 : decode cL_law 374 = .ok (.aload_n 0, 1) := by decide +kernel
theorem dL_law_375 : decode cL_law 375 = .ok (.iload_n 3, 1) := by decide +kernel
theorem dL_law_376 : decode cL_law 376 = .ok (.iconst 2, 1) := by decide +kernel
theorem dL_law_377 : decode cL_law 377 = .ok (.iadd, 1) := by decide +kernel
theorem dL_law_378 : decode cL_law 378 = .ok (.iaload, 1) := by decide +kernel
theorem dL_law_379 : decode cL_law 379 = .ok (.invokevirtual 50, 3) := by decide +kernel
theorem dL_law_382 : decode cL_law 382 = .ok (.aload_n 2, 1) := by decide +kernel
theorem dL_law_383 : decode cL_law 383 = .ok (.aload_n 0, 1) := by decide +kernel
theorem dL_law_384 : decode cL_law 384 = .ok (.iload_n 3, 1) := by decide +kernel
theorem dL_law_385 : decode cL_law 385 = .ok (.iconst 1, 1) := by decide +kernel
theorem dL_law_386 : decode cL_law 386 = .ok (.iadd, 1) := by decide +kernel
theorem dL_law_387 : decode cL_law 387 = .ok (.iaload, 1) := by decide +kernel
theorem dL_law_388 : decode cL_law 388 = .ok (.aload_n 0, 1) := by decide +kernel
theorem dL_law_389 : decode cL_law 389 = .ok (.iload_n 3, 1) := by decide +kernel
theorem dL_law_390 : decode cL_law 390 = .ok (.iconst 2, 1) := by decide +kernel
theorem dL_law_391 : decode cL_law 391 = .ok (.iadd, 1) := by decide +kernel
theorem dL_law_392 : decode cL_law 392 = .ok (.iaload, 1) := by decide +kernel
theorem dL_law_393 : decode cL_law 393 = .ok (.invokevirtual 54, 3) := by decide +kernel
theorem dL_law_396 : decode cL_law 396 = .ok (.if_icmp .eq 226, 3) := by decide +kernel
theorem dL_law_399 : decode cL_law 399 = .ok (.iconst 0, 1) := by decide +kernel
theorem dL_law_400 : decode cL_law 400 = .ok (.ireturn, 1) := by decide +kernel
theorem dL_law_401 : decode cL_law 401 = .ok (.aload_n 1, 1) := by decide +kernel
theorem dL_law_402 : decode cL_law 402 = .ok (.aload_n 0, 1) := by decide +kernel
theorem dL_law_403 : decode cL_law 403 = .ok (.iload_n 3, 1) := by decide +kernel
theorem dL_law_404 : decode cL_law 404 = .ok (.iconst 1, 1) := by decide +kernel
theorem dL_law_405 : decode cL_law 405 = .ok (.iadd, 1) := by decide +kernel
theorem dL_law_406 : decode cL_law 406 = .ok (.iaload, 1) := by decide +kernel
theorem dL_law_407 : decode cL_law 407 = .ok (.invokevirtual 55, 3) := by decide +kernel
theorem dL_law_410 : decode cL_law 410 = .ok (.aload_n 2, 1) := by decide +kernel
theorem dL_law_411 : decode cL_law 411 = .ok (.aload_n 0, 1) := by decide +kernel
theorem dL_law_412 : decode cL_law 412 = .ok (.iload_n 3, 1) := by decide +kernel
theorem dL_law_413 : decode cL_law 413 = .ok (.iconst 1, 1) := by decide +kernel
theorem dL_law_414 : decode cL_law 414 = .ok (.iadd, 1) := by decide +kernel
theorem dL_law_415 : decode cL_law 415 = .ok (.iaload, 1) := by decide +kernel
theorem dL_law_416 : decode cL_law 416 = .ok (.invokevirtual 59, 3) := by decide +kernel
theorem dL_law_419 : decode cL_law 419 = .ok (.if_icmp .eq 203, 3) := by decide +kernel
theorem dL_law_422 : decode cL_law 422 = .ok (.iconst 0, 1) := by decide +kernel
theorem dL_law_423 : decode cL_law 423 = .ok (.ireturn, 1) := by decide +kernel
theorem dL_law_424 : decode cL_law 424 = .ok (.aload_n 1, 1) := by decide +kernel
theorem dL_law_425 : decode cL_law 425 = .ok (.invokevirtual 60, 3) := by decide +kernel
theorem dL_law_428 : decode cL_law 428 = .ok (.aload_n 2, 1) := by decide +kernel
theorem dL_law_429 : decode cL_law 429 = .ok (.invokevirtual 63, 3) := by decide +kernel
theorem dL_law_432 : decode cL_law 432 = .ok (.if_icmp .eq 190, 3) := by decide +kernel
theorem dL_law_435 : decode cL_law 435 = .ok (.iconst 0, 1) := by decide +kernel
theorem dL_law_436 : decode cL_law 436 = .ok (.ireturn, 1) := by decide +kernel
theorem dL_law_437 : decode cL_law 437 = .ok (.aload_n 1, 1) := by decide +kernel
theorem dL_law_438 : decode cL_law 438 = .ok (.invokevirtual 64, 3) := by decide +kernel
theorem dL_law_441 : decode cL_law 441 = .ok (.aload_n 2, 1) := by decide +kernel
theorem dL_law_442 : decode cL_law 442 = .ok (.invokevirtual 67, 3) := by decide +kernel
theorem dL_law_445 : decode cL_law 445 = .ok (.if_icmp .eq 177, 3) := by decide +kernel
theorem dL_law_448 : decode cL_law 448 = .ok (.iconst 0, 1) := by decide +kernel
theorem dL_law_449 : decode cL_law 449 = .ok (.ireturn, 1) := by decide +kernel
theorem dL_law_450 : decode cL_law 450 = .ok (.aload_n 1, 1) := by decide +kernel
theorem dL_law_451 : decode cL_law 451 = .ok (.invokevirtual 68, 3) := by decide +kernel
theorem dL_law_454 : decode cL_law 454 = .ok (.aload_n 2, 1) := by decide +kernel
theorem dL_law_455 : decode cL_law 455 = .ok (.invokevirtual 71, 3) := by decide +kernel
theorem dL_law_458 : decode cL_law 458 = .ok (.if_icmp .eq 164, 3) := by decide +kernel
theorem dL_law_461 : decode cL_law 461 = .ok (.iconst 0, 1) := by decide +kernel
theorem dL_law_462 : decode cL_law 462 = .ok (.ireturn, 1) := by decide +kernel
theorem dL_law_463 : decode cL_law 463 = .ok (.aload_n 1, 1) := by decide +kernel
theorem dL_law_464 : decode cL_law 464 = .ok (.aload_n 0, 1) := by decide +kernel
theorem dL_law_465 : decode cL_law 465 = .ok (.iload_n 3, 1) := by decide +kernel
theorem dL_law_466 : decode cL_law 466 = .ok (.iconst 1, 1) := by decide +kernel
theorem dL_law_467 : decode cL_law 467 = .ok (.iadd, 1) := by decide +kernel
theorem dL_law_468 : decode cL_law 468 = .ok (.iaload, 1) := by decide +kernel
theorem dL_law_469 : decode cL_law 469 = .ok (.invokevirtual 72, 3) := by decide +kernel
theorem dL_law_472 : decode cL_law 472 = .ok (.aload_n 2, 1) := by decide +kernel
theorem dL_law_473 : decode cL_law 473 = .ok (.aload_n 0, 1) := by decide +kernel
theorem dL_law_474 : decode cL_law 474 = .ok (.iload_n 3, 1) := by decide +kernel
theorem dL_law_475 : decode cL_law 475 = .ok (.iconst 1, 1) := by decide +kernel
theorem dL_law_476 : decode cL_law 476 = .ok (.iadd, 1) := by decide +kernel
theorem dL_law_477 : decode cL_law 477 = .ok (.iaload, 1) := by decide +kernel
theorem dL_law_478 : decode cL_law 478 = .ok (.invokevirtual 75, 3) := by decide +kernel
theorem dL_law_481 : decode cL_law 481 = .ok (.if_icmp .eq 141, 3) := by decide +kernel
theorem dL_law_484 : decode cL_law 484 = .ok (.iconst 0, 1) := by decide +kernel
theorem dL_law_485 : decode cL_law 485 = .ok (.ireturn, 1) := by decide +kernel
theorem dL_law_486 : decode cL_law 486 = .ok (.aload_n 1, 1) := by decide +kernel
theorem dL_law_487 : decode cL_law 487 = .ok (.aload_n 0, 1) := by decide +kernel
theorem dL_law_488 : decode cL_law 488 = .ok (.iload_n 3, 1) := by decide +kernel
theorem dL_law_489 : decode cL_law 489 = .ok (.iconst 1, 1) := by decide +kernel
theorem dL_law_490 : decode cL_law 490 = .ok (.iadd, 1) := by decide +kernel
theorem dL_law_491 : decode cL_law 491 = .ok (.iaload, 1) := by decide +kernel
theorem dL_law_492 : decode cL_law 492 = .ok (.invokevirtual 76, 3) := by decide +kernel
theorem dL_law_495 : decode cL_law 495 = .ok (.aload_n 2, 1) := by decide +kernel
theorem dL_law_496 : decode cL_law 496 = .ok (.aload_n 0, 1) := by decide +kernel
theorem dL_law_497 : decode cL_law 497 = .ok (.iload_n 3, 1) := by decide +kernel
theorem dL_law_498 : decode cL_law 498 = .ok (.iconst 1, 1) := by decide +kernel
theorem dL_law_499 : decode cL_law 499 = .ok (.iadd, 1) := by decide +kernel
theorem dL_law_500 : decode cL_law 500 = .ok (.iaload, 1) := by decide +kernel
theorem dL_law_501 : decode cL_law 501 = .ok (.invokevirtual 80, 3) := by decide +kernel
theorem dL_law_504 : decode cL_law 504 = .ok (.lcmp, 1) := by decide +kernel
theorem dL_law_505 : decode cL_law 505 = .ok (.ifCond .eq 117, 3) := by decide +kernel
theorem dL_law_508 : decode cL_law 508 = .ok (.iconst 0, 1) := by decide +kernel
theorem dL_law_509 : decode cL_law 509 = .ok (.ireturn, 1) := by decide +kernel
theorem dL_law_510 : decode cL_law 510 = .ok (.aload_n 1, 1) := by decide +kernel
theorem dL_law_511 : decode cL_law 511 = .ok (.aload_n 0, 1) := by decide +kernel
theorem dL_law_512 : decode cL_law 512 = .ok (.iload_n 3, 1) := by decide +kernel
theorem dL_law_513 : decode cL_law 513 = .ok (.iconst 1, 1) := by decide +kernel
theorem dL_law_514 : decode cL_law 514 = .ok (.iadd, 1) := by decide +kernel
theorem dL_law_515 : decode cL_law 515 = .ok (.iaload, 1) := by decide +kernel
theorem dL_law_516 : decode cL_law 516 = .ok (.invokevirtual 81, 3) := by decide +kernel
theorem dL_law_519 : decode cL_law 519 = .ok (.aload_n 2, 1) := by decide +kernel
theorem dL_law_520 : decode cL_law 520 = .ok (.aload_n 0, 1) := by decide +kernel
theorem dL_law_521 : decode cL_law 521 = .ok (.iload_n 3, 1) := by decide +kernel
theorem dL_law_522 : decode cL_law 522 = .ok (.iconst 1, 1) := by decide +kernel
theorem dL_law_523 : decode cL_law 523 = .ok (.iadd, 1) := by decide +kernel
theorem dL_law_524 : decode cL_law 524 = .ok (.iaload, 1) := by decide +kernel
theorem dL_law_525 : decode cL_law 525 = .ok (.invokevirtual 84, 3) := by decide +kernel
theorem dL_law_528 : decode cL_law 528 = .ok (.if_icmp .eq 94, 3) := by decide +kernel
theorem dL_law_531 : decode cL_law 531 = .ok (.iconst 0, 1) := by decide +kernel
theorem dL_law_532 : decode cL_law 532 = .ok (.ireturn, 1) := by decide +kernel
theorem dL_law_533 : decode cL_law 533 = .ok (.aload_n 1, 1) := by decide +kernel
theorem dL_law_534 : decode cL_law 534 = .ok (.aload_n 0, 1) := by decide +kernel
theorem dL_law_535 : decode cL_law 535 = .ok (.iload_n 3, 1) := by decide +kernel
theorem dL_law_536 : decode cL_law 536 = .ok (.iconst 1, 1) := by decide +kernel
theorem dL_law_537 : decode cL_law 537 = .ok (.iadd, 1) := by decide +kernel
theorem dL_law_538 : decode cL_law 538 = .ok (.iaload, 1) := by decide +kernel
theorem dL_law_539 : decode cL_law 539 = .ok (.invokevirtual 85, 3) := by decide +kernel
theorem dL_law_542 : decode cL_law 542 = .ok (.aload_n 2, 1) := by decide +kernel
theorem dL_law_543 : decode cL_law 543 = .ok (.aload_n 0, 1) := by decide +kernel
theorem dL_law_544 : decode cL_law 544 = .ok (.iload_n 3, 1) := by decide +kernel
theorem dL_law_545 : decode cL_law 545 = .ok (.iconst 1, 1) := by decide +kernel
theorem dL_law_546 : decode cL_law 546 = .ok (.iadd, 1) := by decide +kernel
theorem dL_law_547 : decode cL_law 547 = .ok (.iaload, 1) := by decide +kernel
theorem dL_law_548 : decode cL_law 548 = .ok (.invokevirtual 88, 3) := by decide +kernel
theorem dL_law_551 : decode cL_law 551 = .ok (.if_icmp .eq 71, 3) := by decide +kernel
theorem dL_law_554 : decode cL_law 554 = .ok (.iconst 0, 1) := by decide +kernel
theorem dL_law_555 : decode cL_law 555 = .ok (.ireturn, 1) := by decide +kernel
theorem dL_law_556 : decode cL_law 556 = .ok (.aload_n 1, 1) := by decide +kernel
theorem dL_law_557 : decode cL_law 557 = .ok (.aload_n 0, 1) := by decide +kernel
theorem dL_law_558 : decode cL_law 558 = .ok (.iload_n 3, 1) := by decide +kernel
theorem dL_law_559 : decode cL_law 559 = .ok (.iconst 1, 1) := by decide +kernel
theorem dL_law_560 : decode cL_law 560 = .ok (.iadd, 1) := by decide +kernel
theorem dL_law_561 : decode cL_law 561 = .ok (.iaload, 1) := by decide +kernel
theorem dL_law_562 : decode cL_law 562 = .ok (.invokevirtual 89, 3) := by decide +kernel
theorem dL_law_565 : decode cL_law 565 = .ok (.aload_n 2, 1) := by decide +kernel
theorem dL_law_566 : decode cL_law 566 = .ok (.aload_n 0, 1) := by decide +kernel
theorem dL_law_567 : decode cL_law 567 = .ok (.iload_n 3, 1) := by decide +kernel
theorem dL_law_568 : decode cL_law 568 = .ok (.iconst 1, 1) := by decide +kernel
theorem dL_law_569 : decode cL_law 569 = .ok (.iadd, 1) := by decide +kernel
theorem dL_law_570 : decode cL_law 570 = .ok (.iaload, 1) := by decide +kernel
theorem dL_law_571 : decode cL_law 571 = .ok (.invokevirtual 92, 3) := by decide +kernel
theorem dL_law_574 : decode cL_law 574 = .ok (.if_icmp .eq 48, 3) := by decide +kernel
theorem dL_law_577 : decode cL_law 577 = .ok (.iconst 0, 1) := by decide +kernel
theorem dL_law_578 : decode cL_law 578 = .ok (.ireturn, 1) := by decide +kernel
theorem dL_law_579 : decode cL_law 579 = .ok (.aload_n 1, 1) := by decide +kernel
theorem dL_law_580 : decode cL_law 580 = .ok (.aload_n 0, 1) := by decide +kernel
theorem dL_law_581 : decode cL_law 581 = .ok (.iload_n 3, 1) := by decide +kernel
theorem dL_law_582 : decode cL_law 582 = .ok (.iconst 1, 1) := by decide +kernel
theorem dL_law_583 : decode cL_law 583 = .ok (.iadd, 1) := by decide +kernel
theorem dL_law_584 : decode cL_law 584 = .ok (.iaload, 1) := by decide +kernel
theorem dL_law_585 : decode cL_law 585 = .ok (.aload_n 0, 1) := by decide +kernel
theorem dL_law_586 : decode cL_law 586 = .ok (.iload_n 3, 1) := by decide +kernel
theorem dL_law_587 : decode cL_law 587 = .ok (.iconst 2, 1) := by decide +kernel
theorem dL_law_588 : decode cL_law 588 = .ok (.iadd, 1) := by decide +kernel
theorem dL_law_589 : decode cL_law 589 = .ok (.iaload, 1) := by decide +kernel
theorem dL_law_590 : decode cL_law 590 = .ok (.aload_n 0, 1) := by decide +kernel
theorem dL_law_591 : decode cL_law 591 = .ok (.iload_n 3, 1) := by decide +kernel
theorem dL_law_592 : decode cL_law 592 = .ok (.iconst 3, 1) := by decide +kernel
theorem dL_law_593 : decode cL_law 593 = .ok (.iadd, 1) := by decide +kernel
theorem dL_law_594 : decode cL_law 594 = .ok (.iaload, 1) := by decide +kernel
theorem dL_law_595 : decode cL_law 595 = .ok (.invokevirtual 93, 3) := by decide +kernel
theorem dL_law_598 : decode cL_law 598 = .ok (.aload_n 2, 1) := by decide +kernel
theorem dL_law_599 : decode cL_law 599 = .ok (.aload_n 0, 1) := by decide +kernel
theorem dL_law_600 : decode cL_law 600 = .ok (.iload_n 3, 1) := by decide +kernel
theorem dL_law_601 : decode cL_law 601 = .ok (.iconst 1, 1) := by decide +kernel
theorem dL_law_602 : decode cL_law 602 = .ok (.iadd, 1) := by decide +kernel
theorem dL_law_603 : decode cL_law 603 = .ok (.iaload, 1) := by decide +kernel
theorem dL_law_604 : decode cL_law 604 = .ok (.aload_n 0, 1) := by decide +kernel
theorem dL_law_605 : decode cL_law 605 = .ok (.iload_n 3, 1) := by decide +kernel
theorem dL_law_606 : decode cL_law 606 = .ok (.iconst 2, 1) := by decide +kernel
theorem dL_law_607 : decode cL_law 607 = .ok (.iadd, 1) := by decide +kernel
theorem dL_law_608 : decode cL_law 608 = .ok (.iaload, 1) := by decide +kernel
theorem dL_law_609 : decode cL_law 609 = .ok (.aload_n 0, 1) := by decide +kernel
theorem dL_law_610 : decode cL_law 610 = .ok (.iload_n 3, 1) := by decide +kernel
theorem dL_law_611 : decode cL_law 611 = .ok (.iconst 3, 1) := by decide +kernel
theorem dL_law_612 : decode cL_law 612 = .ok (.iadd, 1) := by decide +kernel
theorem dL_law_613 : decode cL_law 613 = .ok (.iaload, 1) := by decide +kernel
theorem dL_law_614 : decode cL_law 614 = .ok (.invokevirtual 96, 3) := by decide +kernel
theorem dL_law_617 : decode cL_law 617 = .ok (.if_icmp .eq 5, 3) := by decide +kernel
theorem dL_law_620 : decode cL_law 620 = .ok (.iconst 0, 1) := by decide +kernel
theorem dL_law_621 : decode cL_law 621 = .ok (.ireturn, 1) := by decide +kernel
theorem dL_law_622 : decode cL_law 622 = .ok (.iinc 3 6, 3) := by decide +kernel
theorem dL_law_625 : decode cL_law 625 = .ok (.goto (-607), 3) := by decide +kernel
theorem dL_law_628 : decode cL_law 628 = .ok (.iconst 1, 1) := by decide +kernel
theorem dL_law_629 : decode cL_law 629 = .ok (.ireturn, 1) := by decide +kernel
theorem dJ15_checkIndex_7cf53_0 : decode cJ15_checkIndex_7cf53 0 = .ok (.iload_n 0, 1) := by decide +kernel
theorem dJ15_checkIndex_7cf53_1 : decode cJ15_checkIndex_7cf53 1 = .ok (.iload_n 1, 1) := by decide +kernel
theorem dJ15_checkIndex_7cf53_2 : decode cJ15_checkIndex_7cf53 2 = .ok (.aconst_null, 1) := by decide +kernel
theorem dJ15_checkIndex_7cf53_3 : decode cJ15_checkIndex_7cf53 3 = .ok (.invokestatic 105, 3) := by decide +kernel
theorem dJ15_checkIndex_7cf53_6 : decode cJ15_checkIndex_7cf53 6 = .ok (.ireturn, 1) := by decide +kernel
theorem dJ3_checkIndex_8e157_0 : decode cJ3_checkIndex_8e157 0 = .ok (.iload_n 0, 1) := by decide +kernel
theorem dJ3_checkIndex_8e157_1 : decode cJ3_checkIndex_8e157 1 = .ok (.ifCond .lt 8, 3) := by decide +kernel
theorem dJ3_checkIndex_8e157_4 : decode cJ3_checkIndex_8e157 4 = .ok (.iload_n 0, 1) := by decide +kernel
theorem dJ3_checkIndex_8e157_5 : decode cJ3_checkIndex_8e157 5 = .ok (.iload_n 1, 1) := by decide +kernel
theorem dJ3_checkIndex_8e157_6 : decode cJ3_checkIndex_8e157 6 = .ok (.if_icmp .lt 10, 3) := by decide +kernel
theorem dJ3_checkIndex_8e157_9 : decode cJ3_checkIndex_8e157 9 = .ok (.aload_n 2, 1) := by decide +kernel
theorem dJ3_checkIndex_8e157_10 : decode cJ3_checkIndex_8e157 10 = .ok (.iload_n 0, 1) := by decide +kernel
theorem dJ3_checkIndex_8e157_11 : decode cJ3_checkIndex_8e157 11 = .ok (.iload_n 1, 1) := by decide +kernel
theorem dJ3_checkIndex_8e157_12 : decode cJ3_checkIndex_8e157 12 = .ok (.invokestatic 95, 3) := by decide +kernel
theorem dJ3_checkIndex_8e157_15 : decode cJ3_checkIndex_8e157 15 = .ok (.athrow, 1) := by decide +kernel
theorem dJ3_checkIndex_8e157_16 : decode cJ3_checkIndex_8e157 16 = .ok (.iload_n 0, 1) := by decide +kernel
theorem dJ3_checkIndex_8e157_17 : decode cJ3_checkIndex_8e157 17 = .ok (.ireturn, 1) := by decide +kernel
theorem dJ7_copyOf_1904c_0 : decode cJ7_copyOf_1904c 0 = .ok (.aload_n 0, 1) := by decide +kernel
theorem dJ7_copyOf_1904c_1 : decode cJ7_copyOf_1904c 1 = .ok (.iload_n 1, 1) := by decide +kernel
theorem dJ7_copyOf_1904c_2 : decode cJ7_copyOf_1904c 2 = .ok (.aload_n 0, 1) := by decide +kernel
theorem dJ7_copyOf_1904c_3 : decode cJ7_copyOf_1904c 3 = .ok (.invokevirtual 86, 3) := by decide +kernel
theorem dJ7_copyOf_1904c_6 : decode cJ7_copyOf_1904c 6 = .ok (.invokestatic 300, 3) := by decide +kernel
theorem dJ7_copyOf_1904c_9 : decode cJ7_copyOf_1904c 9 = .ok (.areturn, 1) := by decide +kernel
theorem dJ7_copyOf_6403c_0 : decode cJ7_copyOf_6403c 0 = .ok (.aload_n 2, 1) := by decide +kernel
theorem dJ7_copyOf_6403c_1 : decode cJ7_copyOf_6403c 1 = .ok (.ldc 110, 2) := by decide +kernel
theorem dJ7_copyOf_6403c_3 : decode cJ7_copyOf_6403c 3 = .ok (.if_acmp .ne 10, 3) := by decide +kernel
theorem dJ7_copyOf_6403c_6 : decode cJ7_copyOf_6403c 6 = .ok (.iload_n 1, 1) := by decide +kernel
theorem dJ7_copyOf_6403c_7 : decode cJ7_copyOf_6403c 7 = .ok (.anewarray 2, 3) := by decide +kernel
theorem dJ7_copyOf_6403c_10 : decode cJ7_copyOf_6403c 10 = .ok (.goto 14, 3) := by decide +kernel
theorem dJ7_copyOf_6403c_13 : decode cJ7_copyOf_6403c 13 = .ok (.aload_n 2, 1) := by decide +kernel
theorem dJ7_copyOf_6403c_14 : decode cJ7_copyOf_6403c 14 = .ok (.invokevirtual 90, 3) := by decide +kernel
theorem dJ7_copyOf_6403c_17 : decode cJ7_copyOf_6403c 17 = .ok (.iload_n 1, 1) := by decide +kernel
theorem dJ7_copyOf_6403c_18 : decode cJ7_copyOf_6403c 18 = .ok (.invokestatic 95, 3) := by decide +kernel
theorem dJ7_copyOf_6403c_21 : decode cJ7_copyOf_6403c 21 = .ok (.checkcast 110, 3) := by decide +kernel
theorem dJ7_copyOf_6403c_24 : decode cJ7_copyOf_6403c 24 = .ok (.astore_n 3, 1) := by decide +kernel
theorem dJ7_copyOf_6403c_25 : decode cJ7_copyOf_6403c 25 = .ok (.aload_n 0, 1) := by decide +kernel
theorem dJ7_copyOf_6403c_26 : decode cJ7_copyOf_6403c 26 = .ok (.iconst 0, 1) := by decide +kernel
theorem dJ7_copyOf_6403c_27 : decode cJ7_copyOf_6403c 27 = .ok (.aload_n 3, 1) := by decide +kernel
theorem dJ7_copyOf_6403c_28 : decode cJ7_copyOf_6403c 28 = .ok (.iconst 0, 1) := by decide +kernel
theorem dJ7_copyOf_6403c_29 : decode cJ7_copyOf_6403c 29 = .ok (.aload_n 0, 1) := by decide +kernel
theorem dJ7_copyOf_6403c_30 : decode cJ7_copyOf_6403c 30 = .ok (.arraylength, 1) := by decide +kernel
theorem dJ7_copyOf_6403c_31 : decode cJ7_copyOf_6403c 31 = .ok (.iload_n 1, 1) := by decide +kernel
theorem dJ7_copyOf_6403c_32 : decode cJ7_copyOf_6403c 32 = .ok (.invokestatic 304, 3) := by decide +kernel
theorem dJ7_copyOf_6403c_35 : decode cJ7_copyOf_6403c 35 = .ok (.invokestatic 150, 3) := by decide +kernel
theorem dJ7_copyOf_6403c_38 : decode cJ7_copyOf_6403c 38 = .ok (.aload_n 3, 1) := by decide +kernel
theorem dJ7_copyOf_6403c_39 : decode cJ7_copyOf_6403c 39 = .ok (.areturn, 1) := by decide +kernel
theorem dJ8_newLength_cabcc_0 : decode cJ8_newLength_cabcc 0 = .ok (.iload_n 0, 1) := by decide +kernel
theorem dJ8_newLength_cabcc_1 : decode cJ8_newLength_cabcc 1 = .ok (.iload_n 1, 1) := by decide +kernel
theorem dJ8_newLength_cabcc_2 : decode cJ8_newLength_cabcc 2 = .ok (.iload_n 2, 1) := by decide +kernel
theorem dJ8_newLength_cabcc_3 : decode cJ8_newLength_cabcc 3 = .ok (.invokestatic 194, 3) := by decide +kernel
theorem dJ8_newLength_cabcc_6 : decode cJ8_newLength_cabcc 6 = .ok (.iadd, 1) := by decide +kernel
theorem dJ8_newLength_cabcc_7 : decode cJ8_newLength_cabcc 7 = .ok (.istore_n 3, 1) := by decide +kernel
theorem dJ8_newLength_cabcc_8 : decode cJ8_newLength_cabcc 8 = .ok (.iconst 0, 1) := by decide +kernel
theorem dJ8_newLength_cabcc_9 : decode cJ8_newLength_cabcc 9 = .ok (.iload_n 3, 1) := by decide +kernel
theorem dJ8_newLength_cabcc_10 : decode cJ8_newLength_cabcc 10 = .ok (.if_icmp .ge 11, 3) := by decide +kernel
theorem dJ8_newLength_cabcc_13 : decode cJ8_newLength_cabcc 13 = .ok (.iload_n 3, 1) := by decide +kernel
theorem dJ8_newLength_cabcc_14 : decode cJ8_newLength_cabcc 14 = .ok (.ldc 200, 2) := by decide +kernel
theorem dJ8_newLength_cabcc_16 : decode cJ8_newLength_cabcc 16 = .ok (.if_icmp .gt 5, 3) := by decide +kernel
theorem dJ8_newLength_cabcc_19 : decode cJ8_newLength_cabcc 19 = .ok (.iload_n 3, 1) := by decide +kernel
theorem dJ8_newLength_cabcc_20 : decode cJ8_newLength_cabcc 20 = .ok (.ireturn, 1) := by decide +kernel
theorem dJ8_newLength_cabcc_21 : decode cJ8_newLength_cabcc 21 = .ok (.iload_n 0, 1) := by decide +kernel
theorem dJ8_newLength_cabcc_22 : decode cJ8_newLength_cabcc 22 = .ok (.iload_n 1, 1) := by decide +kernel
theorem dJ8_newLength_cabcc_23 : decode cJ8_newLength_cabcc 23 = .ok (.invokestatic 201, 3) := by decide +kernel
theorem dJ8_newLength_cabcc_26 : decode cJ8_newLength_cabcc 26 = .ok (.ireturn, 1) := by decide +kernel
theorem dJ8_hugeLength_7cf53_0 : decode cJ8_hugeLength_7cf53 0 = .ok (.iload_n 0, 1) := by decide +kernel
theorem dJ8_hugeLength_7cf53_1 : decode cJ8_hugeLength_7cf53 1 = .ok (.iload_n 1, 1) := by decide +kernel
theorem dJ8_hugeLength_7cf53_2 : decode cJ8_hugeLength_7cf53 2 = .ok (.iadd, 1) := by decide +kernel
theorem dJ8_hugeLength_7cf53_3 : decode cJ8_hugeLength_7cf53 3 = .ok (.istore_n 2, 1) := by decide +kernel
theorem dJ8_hugeLength_7cf53_4 : decode cJ8_hugeLength_7cf53 4 = .ok (.iload_n 2, 1) := by decide +kernel
theorem dJ8_hugeLength_7cf53_5 : decode cJ8_hugeLength_7cf53 5 = .ok (.ifCond .ge 44, 3) := by decide +kernel
theorem dJ8_hugeLength_7cf53_8 : decode cJ8_hugeLength_7cf53 8 = .ok (.new 204, 3) := by decide +kernel
theorem dJ8_hugeLength_7cf53_11 : decode cJ8_hugeLength_7cf53 11 = .ok (.dup, 1) := by decide +kernel
theorem dJ8_hugeLength_7cf53_12 : decode cJ8_hugeLength_7cf53 12 = .ok (.new 89, 3) := by decide +kernel
theorem dJ8_hugeLength_7cf53_15 : decode cJ8_hugeLength_7cf53 15 = .ok (.dup, 1) := by decide +kernel
theorem dJ8_hugeLength_7cf53_16 : decode cJ8_hugeLength_7cf53 16 = .ok (.invokespecial 91, 3) := by decide +kernel
theorem dJ8_hugeLength_7cf53_19 : decode cJ8_hugeLength_7cf53 19 = .ok (.ldc 206, 2) := by decide +kernel
theorem dJ8_hugeLength_7cf53_21 : decode cJ8_hugeLength_7cf53 21 = .ok (.invokevirtual 94, 3) := by decide +kernel
theorem dJ8_hugeLength_7cf53_24 : decode cJ8_hugeLength_7cf53 24 = .ok (.iload_n 0, 1) := by decide +kernel
theorem dJ8_hugeLength_7cf53_25 : decode cJ8_hugeLength_7cf53 25 = .ok (.invokevirtual 98, 3) := by decide +kernel
theorem dJ8_hugeLength_7cf53_28 : decode cJ8_hugeLength_7cf53 28 = .ok (.ldc 208, 2) := by decide +kernel
theorem dJ8_hugeLength_7cf53_30 : decode cJ8_hugeLength_7cf53 30 = .ok (.invokevirtual 94, 3) := by decide +kernel
theorem dJ8_hugeLength_7cf53_33 : decode cJ8_hugeLength_7cf53 33 = .ok (.iload_n 1, 1) := by decide +kernel
theorem dJ8_hugeLength_7cf53_34 : decode cJ8_hugeLength_7cf53 34 = .ok (.invokevirtual 98, 3) := by decide +kernel
theorem dJ8_hugeLength_7cf53_37 : decode cJ8_hugeLength_7cf53 37 = .ok (.ldc 210, 2) := by decide +kernel
theorem dJ8_hugeLength_7cf53_39 : decode cJ8_hugeLength_7cf53 39 = .ok (.invokevirtual 94, 3) := by decide +kernel
theorem dJ8_hugeLength_7cf53_42 : decode cJ8_hugeLength_7cf53 42 = .ok (.invokevirtual 101, 3) := by decide +kernel
theorem dJ8_hugeLength_7cf53_45 : decode cJ8_hugeLength_7cf53 45 = .ok (.invokespecial 212, 3) := by decide +kernel
theorem dJ8_hugeLength_7cf53_48 : decode cJ8_hugeLength_7cf53 48 = .ok (.athrow, 1) := by decide +kernel
theorem dJ8_hugeLength_7cf53_49 : decode cJ8_hugeLength_7cf53 49 = .ok (.iload_n 2, 1) := by decide +kernel
theorem dJ8_hugeLength_7cf53_50 : decode cJ8_hugeLength_7cf53 50 = .ok (.ldc 200, 2) := by decide +kernel
theorem dJ8_hugeLength_7cf53_52 : decode cJ8_hugeLength_7cf53 52 = .ok (.if_icmp .gt 6, 3) := by decide +kernel
theorem dJ8_hugeLength_7cf53_55 : decode cJ8_hugeLength_7cf53 55 = .ok (.ldc 200, 2) := by decide +kernel
theorem dJ8_hugeLength_7cf53_57 : decode cJ8_hugeLength_7cf53 57 = .ok (.ireturn, 1) := by decide +kernel
theorem dJ8_hugeLength_7cf53_58 : decode cJ8_hugeLength_7cf53 58 = .ok (.iload_n 2, 1) := by decide +kernel
theorem dJ8_hugeLength_7cf53_59 : decode cJ8_hugeLength_7cf53 59 = .ok (.ireturn, 1) := by decide +kernel
theorem dJ9_max_7cf53_0 : decode cJ9_max_7cf53 0 = .ok (.iload_n 0, 1) := by decide +kernel
theorem dJ9_max_7cf53_1 : decode cJ9_max_7cf53 1 = .ok (.iload_n 1, 1) := by decide +kernel
theorem dJ9_max_7cf53_2 : decode cJ9_max_7cf53 2 = .ok (.if_icmp .lt 7, 3) := by decide +kernel
theorem dJ9_max_7cf53_5 : decode cJ9_max_7cf53 5 = .ok (.iload_n 0, 1) := by decide +kernel
theorem dJ9_max_7cf53_6 : decode cJ9_max_7cf53 6 = .ok (.goto 4, 3) := by decide +kernel
theorem dJ9_max_7cf53_9 : decode cJ9_max_7cf53 9 = .ok (.iload_n 1, 1) := by decide +kernel
theorem dJ9_max_7cf53_10 : decode cJ9_max_7cf53 10 = .ok (.ireturn, 1) := by decide +kernel
theorem dJ9_max_f86c9_0 : decode cJ9_max_f86c9 0 = .ok (.lload_n 0, 1) := by decide +kernel
theorem dJ9_max_f86c9_1 : decode cJ9_max_f86c9 1 = .ok (.lload_n 2, 1) := by decide +kernel
theorem dJ9_max_f86c9_2 : decode cJ9_max_f86c9 2 = .ok (.lcmp, 1) := by decide +kernel
theorem dJ9_max_f86c9_3 : decode cJ9_max_f86c9 3 = .ok (.ifCond .lt 7, 3) := by decide +kernel
theorem dJ9_max_f86c9_6 : decode cJ9_max_f86c9 6 = .ok (.lload_n 0, 1) := by decide +kernel
theorem dJ9_max_f86c9_7 : decode cJ9_max_f86c9 7 = .ok (.goto 4, 3) := by decide +kernel
theorem dJ9_max_f86c9_10 : decode cJ9_max_f86c9 10 = .ok (.lload_n 2, 1) := by decide +kernel
theorem dJ9_max_f86c9_11 : decode cJ9_max_f86c9 11 = .ok (.lreturn, 1) := by decide +kernel
theorem dJ9_min_7cf53_0 : decode cJ9_min_7cf53 0 = .ok (.iload_n 0, 1) := by decide +kernel
theorem dJ9_min_7cf53_1 : decode cJ9_min_7cf53 1 = .ok (.iload_n 1, 1) := by decide +kernel
theorem dJ9_min_7cf53_2 : decode cJ9_min_7cf53 2 = .ok (.if_icmp .gt 7, 3) := by decide +kernel
theorem dJ9_min_7cf53_5 : decode cJ9_min_7cf53 5 = .ok (.iload_n 0, 1) := by decide +kernel
theorem dJ9_min_7cf53_6 : decode cJ9_min_7cf53 6 = .ok (.goto 4, 3) := by decide +kernel
theorem dJ9_min_7cf53_9 : decode cJ9_min_7cf53 9 = .ok (.iload_n 1, 1) := by decide +kernel
theorem dJ9_min_7cf53_10 : decode cJ9_min_7cf53 10 = .ok (.ireturn, 1) := by decide +kernel
theorem dJ9_min_f86c9_0 : decode cJ9_min_f86c9 0 = .ok (.lload_n 0, 1) := by decide +kernel
theorem dJ9_min_f86c9_1 : decode cJ9_min_f86c9 1 = .ok (.lload_n 2, 1) := by decide +kernel
theorem dJ9_min_f86c9_2 : decode cJ9_min_f86c9 2 = .ok (.lcmp, 1) := by decide +kernel
theorem dJ9_min_f86c9_3 : decode cJ9_min_f86c9 3 = .ok (.ifCond .gt 7, 3) := by decide +kernel
theorem dJ9_min_f86c9_6 : decode cJ9_min_f86c9 6 = .ok (.lload_n 0, 1) := by decide +kernel
theorem dJ9_min_f86c9_7 : decode cJ9_min_f86c9 7 = .ok (.goto 4, 3) := by decide +kernel
theorem dJ9_min_f86c9_10 : decode cJ9_min_f86c9 10 = .ok (.lload_n 2, 1) := by decide +kernel
theorem dJ9_min_f86c9_11 : decode cJ9_min_f86c9 11 = .ok (.lreturn, 1) := by decide +kernel
theorem dJx4a65c_init_da8c8_0 : decode cJx4a65c_init_da8c8 0 = .ok (.aload_n 0, 1) := by decide +kernel
theorem dJx4a65c_init_da8c8_1 : decode cJx4a65c_init_da8c8 1 = .ok (.invokespecial 1, 3) := by decide +kernel
theorem dJx4a65c_init_da8c8_4 : decode cJx4a65c_init_da8c8 4 = .ok (.aload_n 0, 1) := by decide +kernel
theorem dJx4a65c_init_da8c8_5 : decode cJx4a65c_init_da8c8 5 = .ok (.getstatic 39, 3) := by decide +kernel
theorem dJx4a65c_init_da8c8_8 : decode cJx4a65c_init_da8c8 8 = .ok (.putfield 9, 3) := by decide +kernel
theorem dJx4a65c_init_da8c8_11 : decode cJx4a65c_init_da8c8 11 = .ok (.return_, 1) := by decide +kernel
theorem dJx4a65c_grow_92f84_0 : decode cJx4a65c_grow_92f84 0 = .ok (.aload_n 0, 1) := by decide +kernel
theorem dJx4a65c_grow_92f84_1 : decode cJx4a65c_grow_92f84 1 = .ok (.getfield 9, 3) := by decide +kernel
theorem dJx4a65c_grow_92f84_4 : decode cJx4a65c_grow_92f84 4 = .ok (.arraylength, 1) := by decide +kernel
theorem dJx4a65c_grow_92f84_5 : decode cJx4a65c_grow_92f84 5 = .ok (.istore_n 2, 1) := by decide +kernel
theorem dJx4a65c_grow_92f84_6 : decode cJx4a65c_grow_92f84 6 = .ok (.iload_n 2, 1) := by decide +kernel
theorem dJx4a65c_grow_92f84_7 : decode cJx4a65c_grow_92f84 7 = .ok (.ifCond .gt 13, 3) := by decide +kernel
theorem dJx4a65c_grow_92f84_10 : decode cJx4a65c_grow_92f84 10 = .ok (.aload_n 0, 1) := by decide +kernel
theorem dJx4a65c_grow_92f84_11 : decode cJx4a65c_grow_92f84 11 = .ok (.getfield 9, 3) := by decide +kernel
theorem dJx4a65c_grow_92f84_14 : decode cJx4a65c_grow_92f84 14 = .ok (.getstatic 39, 3) := by decide +kernel
theorem dJx4a65c_grow_92f84_17 : decode cJx4a65c_grow_92f84 17 = .ok (.if_acmp .eq 28, 3) := by decide +kernel
theorem dJx4a65c_grow_92f84_20 : decode cJx4a65c_grow_92f84 20 = .ok (.iload_n 2, 1) := by decide +kernel
theorem dJx4a65c_grow_92f84_21 : decode cJx4a65c_grow_92f84 21 = .ok (.iload_n 1, 1) := by decide +kernel
theorem dJx4a65c_grow_92f84_22 : decode cJx4a65c_grow_92f84 22 = .ok (.iload_n 2, 1) := by decide +kernel
theorem dJx4a65c_grow_92f84_23 : decode cJx4a65c_grow_92f84 23 = .ok (.isub, 1) := by decide +kernel
theorem dJx4a65c_grow_92f84_24 : decode cJx4a65c_grow_92f84 24 = .ok (.iload_n 2, 1) := by decide +kernel
theorem dJx4a65c_grow_92f84_25 : decode cJx4a65c_grow_92f84 25 = .ok (.iconst 1, 1) := by decide +kernel
theorem dJx4a65c_grow_92f84_26 : decode cJx4a65c_grow_92f84 26 = .ok (.ishr, 1) := by decide +kernel
theorem dJx4a65c_grow_92f84_27 : decode cJx4a65c_grow_92f84 27 = .ok (.invokestatic 73, 3) := by decide +kernel
theorem dJx4a65c_grow_92f84_30 : decode cJx4a65c_grow_92f84 30 = .ok (.istore_n 3, 1) := by decide +kernel
theorem dJx4a65c_grow_92f84_31 : decode cJx4a65c_grow_92f84 31 = .ok (.aload_n 0, 1) := by decide +kernel
theorem dJx4a65c_grow_92f84_32 : decode cJx4a65c_grow_92f84 32 = .ok (.aload_n 0, 1) := by decide +kernel
theorem dJx4a65c_grow_92f84_33 : decode cJx4a65c_grow_92f84 33 = .ok (.getfield 9, 3) := by decide +kernel
theorem dJx4a65c_grow_92f84_36 : decode cJx4a65c_grow_92f84 36 = .ok (.iload_n 3, 1) := by decide +kernel
theorem dJx4a65c_grow_92f84_37 : decode cJx4a65c_grow_92f84 37 = .ok (.invokestatic 66, 3) := by decide +kernel
theorem dJx4a65c_grow_92f84_40 : decode cJx4a65c_grow_92f84 40 = .ok (.dup_x1, 1) := by decide +kernel
theorem dJx4a65c_grow_92f84_41 : decode cJx4a65c_grow_92f84 41 = .ok (.putfield 9, 3) := by decide +kernel
theorem dJx4a65c_grow_92f84_44 : decode cJx4a65c_grow_92f84 44 = .ok (.areturn, 1) := by decide +kernel
theorem dJx4a65c_grow_92f84_45 : decode cJx4a65c_grow_92f84 45 = .ok (.aload_n 0, 1) := by decide +kernel
theorem dJx4a65c_grow_92f84_46 : decode cJx4a65c_grow_92f84 46 = .ok (.bipush 10, 2) := by decide +kernel
theorem dJx4a65c_grow_92f84_48 : decode cJx4a65c_grow_92f84 48 = .ok (.iload_n 1, 1) := by decide +kernel
theorem dJx4a65c_grow_92f84_49 : decode cJx4a65c_grow_92f84 49 = .ok (.invokestatic 79, 3) := by decide +kernel
theorem dJx4a65c_grow_92f84_52 : decode cJx4a65c_grow_92f84 52 = .ok (.anewarray 7, 3) := by decide +kernel
theorem dJx4a65c_grow_92f84_55 : decode cJx4a65c_grow_92f84 55 = .ok (.dup_x1, 1) := by decide +kernel
theorem dJx4a65c_grow_92f84_56 : decode cJx4a65c_grow_92f84 56 = .ok (.putfield 9, 3) := by decide +kernel
theorem dJx4a65c_grow_92f84_59 : decode cJx4a65c_grow_92f84 59 = .ok (.areturn, 1) := by decide +kernel
theorem dJx4a65c_grow_d5877_0 : decode cJx4a65c_grow_d5877 0 = .ok (.aload_n 0, 1) := by decide +kernel
theorem dJx4a65c_grow_d5877_1 : decode cJx4a65c_grow_d5877 1 = .ok (.aload_n 0, 1) := by decide +kernel
theorem dJx4a65c_grow_d5877_2 : decode cJx4a65c_grow_d5877 2 = .ok (.getfield 48, 3) := by decide +kernel
theorem dJx4a65c_grow_d5877_5 : decode cJx4a65c_grow_d5877 5 = .ok (.iconst 1, 1) := by decide +kernel
theorem dJx4a65c_grow_d5877_6 : decode cJx4a65c_grow_d5877 6 = .ok (.iadd, 1) := by decide +kernel
theorem dJx4a65c_grow_d5877_7 : decode cJx4a65c_grow_d5877 7 = .ok (.invokevirtual 69, 3) := by decide +kernel
theorem dJx4a65c_grow_d5877_10 : decode cJx4a65c_grow_d5877 10 = .ok (.areturn, 1) := by decide +kernel
theorem dJx4a65c_size_8abf5_0 : decode cJx4a65c_size_8abf5 0 = .ok (.aload_n 0, 1) := by decide +kernel
theorem dJx4a65c_size_8abf5_1 : decode cJx4a65c_size_8abf5 1 = .ok (.getfield 48, 3) := by decide +kernel
theorem dJx4a65c_size_8abf5_4 : decode cJx4a65c_size_8abf5 4 = .ok (.ireturn, 1) := by decide +kernel
theorem dJx4a65c_elementData_915e3_0 : decode cJx4a65c_elementData_915e3 0 = .ok (.aload_n 0, 1) := by decide +kernel
theorem dJx4a65c_elementData_915e3_1 : decode cJx4a65c_elementData_915e3 1 = .ok (.getfield 9, 3) := by decide +kernel
theorem dJx4a65c_elementData_915e3_4 : decode cJx4a65c_elementData_915e3 4 = .ok (.iload_n 1, 1) := by decide +kernel
theorem dJx4a65c_elementData_915e3_5 : decode cJx4a65c_elementData_915e3 5 = .ok (.aaload, 1) := by decide +kernel
theorem dJx4a65c_elementData_915e3_6 : decode cJx4a65c_elementData_915e3 6 = .ok (.areturn, 1) := by decide +kernel
theorem dJx4a65c_get_915e3_0 : decode cJx4a65c_get_915e3 0 = .ok (.iload_n 1, 1) := by decide +kernel
theorem dJx4a65c_get_915e3_1 : decode cJx4a65c_get_915e3 1 = .ok (.aload_n 0, 1) := by decide +kernel
theorem dJx4a65c_get_915e3_2 : decode cJx4a65c_get_915e3 2 = .ok (.getfield 48, 3) := by decide +kernel
theorem dJx4a65c_get_915e3_5 : decode cJx4a65c_get_915e3 5 = .ok (.invokestatic 118, 3) := by decide +kernel
theorem dJx4a65c_get_915e3_8 : decode cJx4a65c_get_915e3 8 = .ok (.pop, 1) := by decide +kernel
theorem dJx4a65c_get_915e3_9 : decode cJx4a65c_get_915e3 9 = .ok (.aload_n 0, 1) := by decide +kernel
theorem dJx4a65c_get_915e3_10 : decode cJx4a65c_get_915e3 10 = .ok (.iload_n 1, 1) := by decide +kernel
theorem dJx4a65c_get_915e3_11 : decode cJx4a65c_get_915e3 11 = .ok (.invokevirtual 123, 3) := by decide +kernel
theorem dJx4a65c_get_915e3_14 : decode cJx4a65c_get_915e3 14 = .ok (.areturn, 1) := by decide +kernel
theorem dJx4a65c_add_72be8_0 : decode cJx4a65c_add_72be8 0 = .ok (.iload_n 3, 1) := by decide +kernel
theorem dJx4a65c_add_72be8_1 : decode cJx4a65c_add_72be8 1 = .ok (.aload_n 2, 1) := by decide +kernel
theorem dJx4a65c_add_72be8_2 : decode cJx4a65c_add_72be8 2 = .ok (.arraylength, 1) := by decide +kernel
theorem dJx4a65c_add_72be8_3 : decode cJx4a65c_add_72be8 3 = .ok (.if_icmp .ne 8, 3) := by decide +kernel
theorem dJx4a65c_add_72be8_6 : decode cJx4a65c_add_72be8 6 = .ok (.aload_n 0, 1) := by decide +kernel
theorem dJx4a65c_add_72be8_7 : decode cJx4a65c_add_72be8 7 = .ok (.invokevirtual 129, 3) := by decide +kernel
theorem dJx4a65c_add_72be8_10 : decode cJx4a65c_add_72be8 10 = .ok (.astore_n 2, 1) := by decide +kernel
theorem dJx4a65c_add_72be8_11 : decode cJx4a65c_add_72be8 11 = .ok (.aload_n 2, 1) := by decide +kernel
theorem dJx4a65c_add_72be8_12 : decode cJx4a65c_add_72be8 12 = .ok (.iload_n 3, 1) := by decide +kernel
theorem dJx4a65c_add_72be8_13 : decode cJx4a65c_add_72be8 13 = .ok (.aload_n 1, 1) := by decide +kernel
theorem dJx4a65c_add_72be8_14 : decode cJx4a65c_add_72be8 14 = .ok (.aastore, 1) := by decide +kernel
theorem dJx4a65c_add_72be8_15 : decode cJx4a65c_add_72be8 15 = .ok (.aload_n 0, 1) := by decide +kernel
theorem dJx4a65c_add_72be8_16 : decode cJx4a65c_add_72be8 16 = .ok (.iload_n 3, 1) := by decide +kernel
theorem dJx4a65c_add_72be8_17 : decode cJx4a65c_add_72be8 17 = .ok (.iconst 1, 1) := by decide +kernel
theorem dJx4a65c_add_72be8_18 : decode cJx4a65c_add_72be8 18 = .ok (.iadd, 1) := by decide +kernel
theorem dJx4a65c_add_72be8_19 : decode cJx4a65c_add_72be8 19 = .ok (.putfield 48, 3) := by decide +kernel
theorem dJx4a65c_add_72be8_22 : decode cJx4a65c_add_72be8 22 = .ok (.return_, 1) := by decide +kernel
theorem dJx4a65c_add_9ea2d_0 : decode cJx4a65c_add_9ea2d 0 = .ok (.aload_n 0, 1) := by decide +kernel
theorem dJx4a65c_add_9ea2d_1 : decode cJx4a65c_add_9ea2d 1 = .ok (.dup, 1) := by decide +kernel
theorem dJx4a65c_add_9ea2d_2 : decode cJx4a65c_add_9ea2d 2 = .ok (.getfield 63, 3) := by decide +kernel
theorem dJx4a65c_add_9ea2d_5 : decode cJx4a65c_add_9ea2d 5 = .ok (.iconst 1, 1) := by decide +kernel
theorem dJx4a65c_add_9ea2d_6 : decode cJx4a65c_add_9ea2d 6 = .ok (.iadd, 1) := by decide +kernel
theorem dJx4a65c_add_9ea2d_7 : decode cJx4a65c_add_9ea2d 7 = .ok (.putfield 63, 3) := by decide +kernel
theorem dJx4a65c_add_9ea2d_10 : decode cJx4a65c_add_9ea2d 10 = .ok (.aload_n 0, 1) := by decide +kernel
theorem dJx4a65c_add_9ea2d_11 : decode cJx4a65c_add_9ea2d 11 = .ok (.aload_n 1, 1) := by decide +kernel
theorem dJx4a65c_add_9ea2d_12 : decode cJx4a65c_add_9ea2d 12 = .ok (.aload_n 0, 1) := by decide +kernel
theorem dJx4a65c_add_9ea2d_13 : decode cJx4a65c_add_9ea2d 13 = .ok (.getfield 9, 3) := by decide +kernel
theorem dJx4a65c_add_9ea2d_16 : decode cJx4a65c_add_9ea2d 16 = .ok (.aload_n 0, 1) := by decide +kernel
theorem dJx4a65c_add_9ea2d_17 : decode cJx4a65c_add_9ea2d 17 = .ok (.getfield 48, 3) := by decide +kernel
theorem dJx4a65c_add_9ea2d_20 : decode cJx4a65c_add_9ea2d 20 = .ok (.invokevirtual 131, 3) := by decide +kernel
theorem dJx4a65c_add_9ea2d_23 : decode cJx4a65c_add_9ea2d 23 = .ok (.iconst 1, 1) := by decide +kernel
theorem dJx4a65c_add_9ea2d_24 : decode cJx4a65c_add_9ea2d 24 = .ok (.ireturn, 1) := by decide +kernel
theorem dJx4a65c_remove_915e3_0 : decode cJx4a65c_remove_915e3 0 = .ok (.iload_n 1, 1) := by decide +kernel
theorem dJx4a65c_remove_915e3_1 : decode cJx4a65c_remove_915e3 1 = .ok (.aload_n 0, 1) := by decide +kernel
theorem dJx4a65c_remove_915e3_2 : decode cJx4a65c_remove_915e3 2 = .ok (.getfield 48, 3) := by decide +kernel
theorem dJx4a65c_remove_915e3_5 : decode cJx4a65c_remove_915e3 5 = .ok (.invokestatic 118, 3) := by decide +kernel
theorem dJx4a65c_remove_915e3_8 : decode cJx4a65c_remove_915e3 8 = .ok (.pop, 1) := by decide +kernel
theorem dJx4a65c_remove_915e3_9 : decode cJx4a65c_remove_915e3 9 = .ok (.aload_n 0, 1) := by decide +kernel
theorem dJx4a65c_remove_915e3_10 : decode cJx4a65c_remove_915e3 10 = .ok (.getfield 9, 3) := by decide +kernel
theorem dJx4a65c_remove_915e3_13 : decode cJx4a65c_remove_915e3 13 = .ok (.astore_n 2, 1) := by decide +kernel
theorem dJx4a65c_remove_915e3_14 : decode cJx4a65c_remove_915e3 14 = .ok (.aload_n 2, 1) := by decide +kernel
theorem dJx4a65c_remove_915e3_15 : decode cJx4a65c_remove_915e3 15 = .ok (.iload_n 1, 1) := by decide +kernel
theorem dJx4a65c_remove_915e3_16 : decode cJx4a65c_remove_915e3 16 = .ok (.aaload, 1) := by decide +kernel
theorem dJx4a65c_remove_915e3_17 : decode cJx4a65c_remove_915e3 17 = .ok (.astore_n 3, 1) := by decide +kernel
theorem dJx4a65c_remove_915e3_18 : decode cJx4a65c_remove_915e3 18 = .ok (.aload_n 0, 1) := by decide +kernel
theorem dJx4a65c_remove_915e3_19 : decode cJx4a65c_remove_915e3 19 = .ok (.aload_n 2, 1) := by decide +kernel
theorem dJx4a65c_remove_915e3_20 : decode cJx4a65c_remove_915e3 20 = .ok (.iload_n 1, 1) := by decide +kernel
theorem dJx4a65c_remove_915e3_21 : decode cJx4a65c_remove_915e3 21 = .ok (.invokevirtual 144, 3) := by decide +kernel
theorem dJx4a65c_remove_915e3_24 : decode cJx4a65c_remove_915e3 24 = .ok (.aload_n 3, 1) := by decide +kernel
theorem dJx4a65c_remove_915e3_25 : decode cJx4a65c_remove_915e3 25 = .ok (.areturn, 1) := by decide +kernel
theorem dJx4a65c_fastRemove_b59b0_0 : decode cJx4a65c_fastRemove_b59b0 0 = .ok (.aload_n 0, 1) := by decide +kernel
theorem dJx4a65c_fastRemove_b59b0_1 : decode cJx4a65c_fastRemove_b59b0 1 = .ok (.dup, 1) := by decide +kernel
theorem dJx4a65c_fastRemove_b59b0_2 : decode cJx4a65c_fastRemove_b59b0 2 = .ok (.getfield 63, 3) := by decide +kernel
theorem dJx4a65c_fastRemove_b59b0_5 : decode cJx4a65c_fastRemove_b59b0 5 = .ok (.iconst 1, 1) := by decide +kernel
theorem dJx4a65c_fastRemove_b59b0_6 : decode cJx4a65c_fastRemove_b59b0 6 = .ok (.iadd, 1) := by decide +kernel
theorem dJx4a65c_fastRemove_b59b0_7 : decode cJx4a65c_fastRemove_b59b0 7 = .ok (.putfield 63, 3) := by decide +kernel
theorem dJx4a65c_fastRemove_b59b0_10 : decode cJx4a65c_fastRemove_b59b0 10 = .ok (.aload_n 0, 1) := by decide +kernel
theorem dJx4a65c_fastRemove_b59b0_11 : decode cJx4a65c_fastRemove_b59b0 11 = .ok (.getfield 48, 3) := by decide +kernel
theorem dJx4a65c_fastRemove_b59b0_14 : decode cJx4a65c_fastRemove_b59b0 14 = .ok (.iconst 1, 1) := by decide +kernel
theorem dJx4a65c_fastRemove_b59b0_15 : decode cJx4a65c_fastRemove_b59b0 15 = .ok (.isub, 1) := by decide +kernel
theorem dJx4a65c_fastRemove_b59b0_16 : decode cJx4a65c_fastRemove_b59b0 16 = .ok (.dup, 1) := by decide +kernel
theorem dJx4a65c_fastRemove_b59b0_17 : decode cJx4a65c_fastRemove_b59b0 17 = .ok (.istore_n 3, 1) := by decide +kernel
theorem dJx4a65c_fastRemove_b59b0_18 : decode cJx4a65c_fastRemove_b59b0 18 = .ok (.iload_n 2, 1) := by decide +kernel
theorem dJx4a65c_fastRemove_b59b0_19 : decode cJx4a65c_fastRemove_b59b0 19 = .ok (.if_icmp .le 15, 3) := by decide +kernel
theorem dJx4a65c_fastRemove_b59b0_22 : decode cJx4a65c_fastRemove_b59b0 22 = .ok (.aload_n 1, 1) := by decide +kernel
theorem dJx4a65c_fastRemove_b59b0_23 : decode cJx4a65c_fastRemove_b59b0 23 = .ok (.iload_n 2, 1) := by decide +kernel
theorem dJx4a65c_fastRemove_b59b0_24 : decode cJx4a65c_fastRemove_b59b0 24 = .ok (.iconst 1, 1) := by decide +kernel
theorem dJx4a65c_fastRemove_b59b0_25 : decode cJx4a65c_fastRemove_b59b0 25 = .ok (.iadd, 1) := by decide +kernel
theorem dJx4a65c_fastRemove_b59b0_26 : decode cJx4a65c_fastRemove_b59b0 26 = .ok (.aload_n 1, 1) := by decide +kernel
theorem dJx4a65c_fastRemove_b59b0_27 : decode cJx4a65c_fastRemove_b59b0 27 = .ok (.iload_n 2, 1) := by decide +kernel
theorem dJx4a65c_fastRemove_b59b0_28 : decode cJx4a65c_fastRemove_b59b0 28 = .ok (.iload_n 3, 1) := by decide +kernel
theorem dJx4a65c_fastRemove_b59b0_29 : decode cJx4a65c_fastRemove_b59b0 29 = .ok (.iload_n 2, 1) := by decide +kernel
theorem dJx4a65c_fastRemove_b59b0_30 : decode cJx4a65c_fastRemove_b59b0 30 = .ok (.isub, 1) := by decide +kernel
theorem dJx4a65c_fastRemove_b59b0_31 : decode cJx4a65c_fastRemove_b59b0 31 = .ok (.invokestatic 112, 3) := by decide +kernel
theorem dJx4a65c_fastRemove_b59b0_34 : decode cJx4a65c_fastRemove_b59b0 34 = .ok (.aload_n 1, 1) := by decide +kernel
theorem dJx4a65c_fastRemove_b59b0_35 : decode cJx4a65c_fastRemove_b59b0 35 = .ok (.aload_n 0, 1) := by decide +kernel
theorem dJx4a65c_fastRemove_b59b0_36 : decode cJx4a65c_fastRemove_b59b0 36 = .ok (.iload_n 3, 1) := by decide +kernel
theorem dJx4a65c_fastRemove_b59b0_37 : decode cJx4a65c_fastRemove_b59b0 37 = .ok (.dup_x1, 1) := by decide +kernel
theorem dJx4a65c_fastRemove_b59b0_38 : decode cJx4a65c_fastRemove_b59b0 38 = .ok (.putfield 48, 3) := by decide +kernel
theorem dJx4a65c_fastRemove_b59b0_41 : decode cJx4a65c_fastRemove_b59b0 41 = .ok (.aconst_null, 1) := by decide +kernel
theorem dJx4a65c_fastRemove_b59b0_42 : decode cJx4a65c_fastRemove_b59b0 42 = .ok (.aastore, 1) := by decide +kernel
theorem dJx4a65c_fastRemove_b59b0_43 : decode cJx4a65c_fastRemove_b59b0 43 = .ok (.return_, 1) := by decide +kernel
theorem dJxa1e45_init_da8c8_0 : decode cJxa1e45_init_da8c8 0 = .ok (.aload_n 0, 1) := by decide +kernel
theorem dJxa1e45_init_da8c8_1 : decode cJxa1e45_init_da8c8 1 = .ok (.invokespecial 1, 3) := by decide +kernel
theorem dJxa1e45_init_da8c8_4 : decode cJxa1e45_init_da8c8 4 = .ok (.return_, 1) := by decide +kernel
theorem dJxc12de_init_da8c8_0 : decode cJxc12de_init_da8c8 0 = .ok (.aload_n 0, 1) := by decide +kernel
theorem dJxc12de_init_da8c8_1 : decode cJxc12de_init_da8c8 1 = .ok (.invokespecial 1, 3) := by decide +kernel
theorem dJxc12de_init_da8c8_4 : decode cJxc12de_init_da8c8 4 = .ok (.aload_n 0, 1) := by decide +kernel
theorem dJxc12de_init_da8c8_5 : decode cJxc12de_init_da8c8 5 = .ok (.iconst 0, 1) := by decide +kernel
theorem dJxc12de_init_da8c8_6 : decode cJxc12de_init_da8c8 6 = .ok (.putfield 7, 3) := by decide +kernel
theorem dJxc12de_init_da8c8_9 : decode cJxc12de_init_da8c8 9 = .ok (.return_, 1) := by decide +kernel
