theorem dX1_allergen_27 : decode cX1_allergen 27 = .ok (.aload_n 0, 1) := by decide +kernel
theorem dX1_allergen_28 : decode cX1_allergen 28 = .ok (.getfield 52, 3) := by decide +kernel
theorem dX1_allergen_31 : decode cX1_allergen 31 = .ok (.iload_n 1, 1) := by decide +kernel
theorem dX1_allergen_32 : decode cX1_allergen 32 = .ok (.iload_n 2, 1) := by decide +kernel
theorem dX1_allergen_33 : decode cX1_allergen 33 = .ok (.iastore, 1) := by decide +kernel
theorem dX1_allergen_34 : decode cX1_allergen 34 = .ok (.iload_n 3, 1) := by decide +kernel
theorem dX1_allergen_35 : decode cX1_allergen 35 = .ok (.ireturn, 1) := by decide +kernel
theorem dX1_isKind_0 : decode cX1_isKind 0 = .ok (.iload_n 1, 1) := by decide +kernel
theorem dX1_isKind_1 : decode cX1_isKind 1 = .ok (.ifCond .lt 15, 3) := by decide +kernel
theorem dX1_isKind_4 : decode cX1_isKind 4 = .ok (.iload_n 1, 1) := by decide +kernel
theorem dX1_isKind_5 : decode cX1_isKind 5 = .ok (.aload_n 0, 1) := by decide +kernel
theorem dX1_isKind_6 : decode cX1_isKind 6 = .ok (.getfield 35, 3) := by decide +kernel
theorem dX1_isKind_9 : decode cX1_isKind 9 = .ok (.if_icmp .ge 7, 3) := by decide +kernel
theorem dX1_isKind_12 : decode cX1_isKind 12 = .ok (.iconst 1, 1) := by decide +kernel
theorem dX1_isKind_13 : decode cX1_isKind 13 = .ok (.goto 4, 3) := by decide +kernel
theorem dX1_isKind_16 : decode cX1_isKind 16 = .ok (.iconst 0, 1) := by decide +kernel
theorem dX1_isKind_17 : decode cX1_isKind 17 = .ok (.ireturn, 1) := by decide +kernel
theorem dX1_isCleaningLevel_0 : decode cX1_isCleaningLevel 0 = .ok (.iload_n 1, 1) := by decide +kernel
theorem dX1_isCleaningLevel_1 : decode cX1_isCleaningLevel 1 = .ok (.iconst 1, 1) := by decide +kernel
theorem dX1_isCleaningLevel_2 : decode cX1_isCleaningLevel 2 = .ok (.if_icmp .lt 15, 3) := by decide +kernel
theorem dX1_isCleaningLevel_5 : decode cX1_isCleaningLevel 5 = .ok (.iload_n 1, 1) := by decide +kernel
theorem dX1_isCleaningLevel_6 : decode cX1_isCleaningLevel 6 = .ok (.aload_n 0, 1) := by decide +kernel
theorem dX1_isCleaningLevel_7 : decode cX1_isCleaningLevel 7 = .ok (.getfield 38, 3) := by decide +kernel
theorem dX1_isCleaningLevel_10 : decode cX1_isCleaningLevel 10 = .ok (.if_icmp .gt 7, 3) := by decide +kernel
theorem dX1_isCleaningLevel_13 : decode cX1_isCleaningLevel 13 = .ok (.iconst 1, 1) := by decide +kernel
theorem dX1_isCleaningLevel_14 : decode cX1_isCleaningLevel 14 = .ok (.goto 4, 3) := by decide +kernel
theorem dX1_isCleaningLevel_17 : decode cX1_isCleaningLevel 17 = .ok (.iconst 0, 1) := by decide +kernel
theorem dX1_isCleaningLevel_18 : decode cX1_isCleaningLevel 18 = .ok (.ireturn, 1) := by decide +kernel
theorem dX1_isThing_0 : decode cX1_isThing 0 = .ok (.iload_n 1, 1) := by decide +kernel
theorem dX1_isThing_1 : decode cX1_isThing 1 = .ok (.ifCond .lt 15, 3) := by decide +kernel
theorem dX1_isThing_4 : decode cX1_isThing 4 = .ok (.iload_n 1, 1) := by decide +kernel
theorem dX1_isThing_5 : decode cX1_isThing 5 = .ok (.aload_n 0, 1) := by decide +kernel
theorem dX1_isThing_6 : decode cX1_isThing 6 = .ok (.getfield 19, 3) := by decide +kernel
theorem dX1_isThing_9 : decode cX1_isThing 9 = .ok (.if_icmp .ge 7, 3) := by decide +kernel
theorem dX1_isThing_12 : decode cX1_isThing 12 = .ok (.iconst 1, 1) := by decide +kernel
theorem dX1_isThing_13 : decode cX1_isThing 13 = .ok (.goto 4, 3) := by decide +kernel
theorem dX1_isThing_16 : decode cX1_isThing 16 = .ok (.iconst 0, 1) := by decide +kernel
theorem dX1_isThing_17 : decode cX1_isThing 17 = .ok (.ireturn, 1) := by decide +kernel
theorem dX1_isHour_0 : decode cX1_isHour 0 = .ok (.lload_n 0, 1) := by decide +kernel
theorem dX1_isHour_1 : decode cX1_isHour 1 = .ok (.lconst 0, 1) := by decide +kernel
theorem dX1_isHour_2 : decode cX1_isHour 2 = .ok (.lcmp, 1) := by decide +kernel
theorem dX1_isHour_3 : decode cX1_isHour 3 = .ok (.ifCond .lt 15, 3) := by decide +kernel
theorem dX1_isHour_6 : decode cX1_isHour 6 = .ok (.lload_n 0, 1) := by decide +kernel
theorem dX1_isHour_7 : decode cX1_isHour 7 = .ok (.ldc2_w 100, 3) := by decide +kernel
theorem dX1_isHour_10 : decode cX1_isHour 10 = .ok (.lcmp, 1) := by decide +kernel
theorem dX1_isHour_11 : decode cX1_isHour 11 = .ok (.ifCond .gt 7, 3) := by decide +kernel
theorem dX1_isHour_14 : decode cX1_isHour 14 = .ok (.iconst 1, 1) := by decide +kernel
theorem dX1_isHour_15 : decode cX1_isHour 15 = .ok (.goto 4, 3) := by decide +kernel
theorem dX1_isHour_18 : decode cX1_isHour 18 = .ok (.iconst 0, 1) := by decide +kernel
theorem dX1_isHour_19 : decode cX1_isHour 19 = .ok (.ireturn, 1) := by decide +kernel
theorem dX1_takesNext_0 : decode cX1_takesNext 0 = .ok (.aload_n 0, 1) := by decide +kernel
theorem dX1_takesNext_1 : decode cX1_takesNext 1 = .ok (.iload_n 1, 1) := by decide +kernel
theorem dX1_takesNext_2 : decode cX1_takesNext 2 = .ok (.invokevirtual 70, 3) := by decide +kernel
theorem dX1_takesNext_5 : decode cX1_takesNext 5 = .ok (.ifCond .eq 20, 3) := by decide +kernel
theorem dX1_takesNext_8 : decode cX1_takesNext 8 = .ok (.lload_n 2, 1) := by decide +kernel
theorem dX1_takesNext_9 : decode cX1_takesNext 9 = .ok (.invokestatic 84, 3) := by decide +kernel
theorem dX1_takesNext_12 : decode cX1_takesNext 12 = .ok (.ifCond .eq 13, 3) := by decide +kernel
theorem dX1_takesNext_15 : decode cX1_takesNext 15 = .ok (.aload_n 0, 1) := by decide +kernel
theorem dX1_takesNext_16 : decode cX1_takesNext 16 = .ok (.getfield 23, 3) := by decide +kernel
theorem dX1_takesNext_19 : decode cX1_takesNext 19 = .ok (.sipush 200, 3) := by decide +kernel
theorem dX1_takesNext_22 : decode cX1_takesNext 22 = .ok (.if_icmp .lt 5, 3) := by decide +kernel
theorem dX1_takesNext_25 : decode cX1_takesNext 25 = .ok (.iconst 0, 1) := by decide +kernel
theorem dX1_takesNext_26 : decode cX1_takesNext 26 = .ok (.ireturn, 1) := by decide +kernel
theorem dX1_takesNext_27 : decode cX1_takesNext 27 = .ok (.aload_n 0, 1) := by decide +kernel
theorem dX1_takesNext_28 : decode cX1_takesNext 28 = .ok (.getfield 15, 3) := by decide +kernel
theorem dX1_takesNext_31 : decode cX1_takesNext 31 = .ok (.iload_n 1, 1) := by decide +kernel
theorem dX1_takesNext_32 : decode cX1_takesNext 32 = .ok (.aaload, 1) := by decide +kernel
theorem dX1_takesNext_33 : decode cX1_takesNext 33 = .ok (.astore 4, 2) := by decide +kernel
theorem dX1_takesNext_35 : decode cX1_takesNext 35 = .ok (.aload 4, 2) := by decide +kernel
theorem dX1_takesNext_37 : decode cX1_takesNext 37 = .ok (.ifnull 13, 3) := by decide +kernel
theorem dX1_takesNext_40 : decode cX1_takesNext 40 = .ok (.lload_n 2, 1) := by decide +kernel
theorem dX1_takesNext_41 : decode cX1_takesNext 41 = .ok (.aload 4, 2) := by decide +kernel
theorem dX1_takesNext_43 : decode cX1_takesNext 43 = .ok (.getfield 107, 3) := by decide +kernel
theorem dX1_takesNext_46 : decode cX1_takesNext 46 = .ok (.lcmp, 1) := by decide +kernel
theorem dX1_takesNext_47 : decode cX1_takesNext 47 = .ok (.ifCond .lt 7, 3) := by decide +kernel
theorem dX1_takesNext_50 : decode cX1_takesNext 50 = .ok (.iconst 1, 1) := by decide +kernel
theorem dX1_takesNext_51 : decode cX1_takesNext 51 = .ok (.goto 4, 3) := by decide +kernel
theorem dX1_takesNext_54 : decode cX1_takesNext 54 = .ok (.iconst 0, 1) := by decide +kernel
theorem dX1_takesNext_55 : decode cX1_takesNext 55 = .ok (.ireturn, 1) := by decide +kernel
theorem dX1_lastHourInTime_0 : decode cX1_lastHourInTime 0 = .ok (.aload_n 0, 1) := by decide +kernel
theorem dX1_lastHourInTime_1 : decode cX1_lastHourInTime 1 = .ok (.getfield 15, 3) := by decide +kernel
theorem dX1_lastHourInTime_4 : decode cX1_lastHourInTime 4 = .ok (.iload_n 1, 1) := by decide +kernel
theorem dX1_lastHourInTime_5 : decode cX1_lastHourInTime 5 = .ok (.aaload, 1) := by decide +kernel
theorem dX1_lastHourInTime_6 : decode cX1_lastHourInTime 6 = .ok (.astore_n 2, 1) := by decide +kernel
theorem dX1_lastHourInTime_7 : decode cX1_lastHourInTime 7 = .ok (.aload_n 2, 1) := by decide +kernel
theorem dX1_lastHourInTime_8 : decode cX1_lastHourInTime 8 = .ok (.ifnull 23, 3) := by decide +kernel
theorem dX1_lastHourInTime_11 : decode cX1_lastHourInTime 11 = .ok (.aload_n 2, 1) := by decide +kernel
theorem dX1_lastHourInTime_12 : decode cX1_lastHourInTime 12 = .ok (.getfield 111, 3) := by decide +kernel
theorem dX1_lastHourInTime_15 : decode cX1_lastHourInTime 15 = .ok (.ifCond .ne 8, 3) := by decide +kernel
theorem dX1_lastHourInTime_18 : decode cX1_lastHourInTime 18 = .ok (.aload_n 2, 1) := by decide +kernel
theorem dX1_lastHourInTime_19 : decode cX1_lastHourInTime 19 = .ok (.getfield 107, 3) := by decide +kernel
theorem dX1_lastHourInTime_22 : decode cX1_lastHourInTime 22 = .ok (.lreturn, 1) := by decide +kernel
theorem dX1_lastHourInTime_23 : decode cX1_lastHourInTime 23 = .ok (.aload_n 2, 1) := by decide +kernel
theorem dX1_lastHourInTime_24 : decode cX1_lastHourInTime 24 = .ok (.getfield 115, 3) := by decide +kernel
theorem dX1_lastHourInTime_27 : decode cX1_lastHourInTime 27 = .ok (.astore_n 2, 1) := by decide +kernel
theorem dX1_lastHourInTime_28 : decode cX1_lastHourInTime 28 = .ok (.goto (-21), 3) := by decide +kernel
theorem dX1_lastHourInTime_31 : decode cX1_lastHourInTime 31 = .ok (.lconst 0, 1) := by decide +kernel
theorem dX1_lastHourInTime_32 : decode cX1_lastHourInTime 32 = .ok (.lreturn, 1) := by decide +kernel
theorem dX1_place_0 : decode cX1_place 0 = .ok (.aconst_null, 1) := by decide +kernel
theorem dX1_place_1 : decode cX1_place 1 = .ok (.astore_n 3, 1) := by decide +kernel
theorem dX1_place_2 : decode cX1_place 2 = .ok (.aload_n 0, 1) := by decide +kernel
theorem dX1_place_3 : decode cX1_place 3 = .ok (.getfield 15, 3) := by decide +kernel
theorem dX1_place_6 : decode cX1_place 6 = .ok (.iload_n 1, 1) := by decide +kernel
theorem dX1_place_7 : decode cX1_place 7 = .ok (.aaload, 1) := by decide +kernel
theorem dX1_place_8 : decode cX1_place 8 = .ok (.astore 4, 2) := by decide +kernel
theorem dX1_place_10 : decode cX1_place 10 = .ok (.aload 4, 2) := by decide +kernel
theorem dX1_place_12 : decode cX1_place 12 = .ok (.ifnull 29, 3) := by decide +kernel
theorem dX1_place_15 : decode cX1_place 15 = .ok (.aload 4, 2) := by decide +kernel
theorem dX1_place_17 : decode cX1_place 17 = .ok (.getfield 107, 3) := by decide +kernel
theorem dX1_place_20 : decode cX1_place 20 = .ok (.aload_n 2, 1) := by decide +kernel
theorem dX1_place_21 : decode cX1_place 21 = .ok (.getfield 107, 3) := by decide +kernel
theorem dX1_place_24 : decode cX1_place 24 = .ok (.lcmp, 1) := by decide +kernel
theorem dX1_place_25 : decode cX1_place 25 = .ok (.ifCond .le 16, 3) := by decide +kernel
theorem dX1_place_28 : decode cX1_place 28 = .ok (.aload 4, 2) := by decide +kernel
theorem dX1_place_30 : decode cX1_place 30 = .ok (.astore_n 3, 1) := by decide +kernel
theorem dX1_place_31 : decode cX1_place 31 = .ok (.aload 4, 2) := by decide +kernel
theorem dX1_place_33 : decode cX1_place 33 = .ok (.getfield 115, 3) := by decide +kernel
theorem dX1_place_36 : decode cX1_place 36 = .ok (.astore 4, 2) := by decide +kernel
theorem dX1_place_38 : decode cX1_place 38 = .ok (.goto (-28), 3) := by decide +kernel
theorem dX1_place_41 : decode cX1_place 41 = .ok (.aload_n 2, 1) := by decide +kernel
theorem dX1_place_42 : decode cX1_place 42 = .ok (.aload 4, 2) := by decide +kernel
theorem dX1_place_44 : decode cX1_place 44 = .ok (.putfield 115, 3) := by decide +kernel
theorem dX1_place_47 : decode cX1_place 47 = .ok (.aload_n 3, 1) := by decide +kernel
theorem dX1_place_48 : decode cX1_place 48 = .ok (.ifnonnull 13, 3) := by decide +kernel
theorem dX1_place_51 : decode cX1_place 51 = .ok (.aload_n 0, 1) := by decide +kernel
theorem dX1_place_52 : decode cX1_place 52 = .ok (.getfield 15, 3) := by decide +kernel
theorem dX1_place_55 : decode cX1_place 55 = .ok (.iload_n 1, 1) := by decide +kernel
theorem dX1_place_56 : decode cX1_place 56 = .ok (.aload_n 2, 1) := by decide +kernel
theorem dX1_place_57 : decode cX1_place 57 = .ok (.aastore, 1) := by decide +kernel
theorem dX1_place_58 : decode cX1_place 58 = .ok (.goto 8, 3) := by decide +kernel
theorem dX1_place_61 : decode cX1_place 61 = .ok (.aload_n 3, 1) := by decide +kernel
theorem dX1_place_62 : decode cX1_place 62 = .ok (.aload_n 2, 1) := by decide +kernel
theorem dX1_place_63 : decode cX1_place 63 = .ok (.putfield 115, 3) := by decide +kernel
theorem dX1_place_66 : decode cX1_place 66 = .ok (.aload_n 0, 1) := by decide +kernel
theorem dX1_place_67 : decode cX1_place 67 = .ok (.dup, 1) := by decide +kernel
theorem dX1_place_68 : decode cX1_place 68 = .ok (.getfield 23, 3) := by decide +kernel
theorem dX1_place_71 : decode cX1_place 71 = .ok (.iconst 1, 1) := by decide +kernel
theorem dX1_place_72 : decode cX1_place 72 = .ok (.iadd, 1) := by decide +kernel
theorem dX1_place_73 : decode cX1_place 73 = .ok (.putfield 23, 3) := by decide +kernel
theorem dX1_place_76 : decode cX1_place 76 = .ok (.return_, 1) := by decide +kernel
theorem dX1_groupLevel_0 : decode cX1_groupLevel 0 = .ok (.aload_n 0, 1) := by decide +kernel
theorem dX1_groupLevel_1 : decode cX1_groupLevel 1 = .ok (.iload_n 1, 1) := by decide +kernel
theorem dX1_groupLevel_2 : decode cX1_groupLevel 2 = .ok (.invokevirtual 119, 3) := by decide +kernel
theorem dX1_groupLevel_5 : decode cX1_groupLevel 5 = .ok (.istore 4, 2) := by decide +kernel
theorem dX1_groupLevel_7 : decode cX1_groupLevel 7 = .ok (.aload_n 0, 1) := by decide +kernel
theorem dX1_groupLevel_8 : decode cX1_groupLevel 8 = .ok (.getfield 38, 3) := by decide +kernel
theorem dX1_groupLevel_11 : decode cX1_groupLevel 11 = .ok (.istore 5, 2) := by decide +kernel
theorem dX1_groupLevel_13 : decode cX1_groupLevel 13 = .ok (.iconst 0, 1) := by decide +kernel
theorem dX1_groupLevel_14 : decode cX1_groupLevel 14 = .ok (.istore 6, 2) := by decide +kernel
theorem dX1_groupLevel_16 : decode cX1_groupLevel 16 = .ok (.iload 6, 2) := by decide +kernel
theorem dX1_groupLevel_18 : decode cX1_groupLevel 18 = .ok (.aload_n 0, 1) := by decide +kernel
theorem dX1_groupLevel_19 : decode cX1_groupLevel 19 = .ok (.getfield 19, 3) := by decide +kernel
theorem dX1_groupLevel_22 : decode cX1_groupLevel 22 = .ok (.if_icmp .ge 41, 3) := by decide +kernel
theorem dX1_groupLevel_25 : decode cX1_groupLevel 25 = .ok (.aload_n 0, 1) := by decide +kernel
theorem dX1_groupLevel_26 : decode cX1_groupLevel 26 = .ok (.getfield 9, 3) := by decide +kernel
theorem dX1_groupLevel_29 : decode cX1_groupLevel 29 = .ok (.iload 6, 2) := by decide +kernel
theorem dX1_groupLevel_31 : decode cX1_groupLevel 31 = .ok (.iaload, 1) := by decide +kernel
theorem dX1_groupLevel_32 : decode cX1_groupLevel 32 = .ok (.aload_n 0, 1) := by decide +kernel
theorem dX1_groupLevel_33 : decode cX1_groupLevel 33 = .ok (.getfield 9, 3) := by decide +kernel
theorem dX1_groupLevel_36 : decode cX1_groupLevel 36 = .ok (.iload_n 1, 1) := by decide +kernel
theorem dX1_groupLevel_37 : decode cX1_groupLevel 37 = .ok (.iaload, 1) := by decide +kernel
theorem dX1_groupLevel_38 : decode cX1_groupLevel 38 = .ok (.if_icmp .ne 19, 3) := by decide +kernel
theorem dX1_groupLevel_41 : decode cX1_groupLevel 41 = .ok (.iload 5, 2) := by decide +kernel
theorem dX1_groupLevel_43 : decode cX1_groupLevel 43 = .ok (.aload_n 0, 1) := by decide +kernel
theorem dX1_groupLevel_44 : decode cX1_groupLevel 44 = .ok (.iload 6, 2) := by decide +kernel
theorem dX1_groupLevel_46 : decode cX1_groupLevel 46 = .ok (.lload_n 2, 1) := by decide +kernel
theorem dX1_groupLevel_47 : decode cX1_groupLevel 47 = .ok (.iload 4, 2) := by decide +kernel
theorem dX1_groupLevel_49 : decode cX1_groupLevel 49 = .ok (.invokevirtual 122, 3) := by decide +kernel
theorem dX1_groupLevel_52 : decode cX1_groupLevel 52 = .ok (.invokestatic 32, 3) := by decide +kernel
theorem dX1_groupLevel_55 : decode cX1_groupLevel 55 = .ok (.istore 5, 2) := by decide +kernel
theorem dX1_groupLevel_57 : decode cX1_groupLevel 57 = .ok (.iinc 6 1, 3) := by decide +kernel
theorem dX1_groupLevel_60 : decode cX1_groupLevel 60 = .ok (.goto (-44), 3) := by decide +kernel
theorem dX1_groupLevel_63 : decode cX1_groupLevel 63 = .ok (.iload 5, 2) := by decide +kernel
theorem dX1_groupLevel_65 : decode cX1_groupLevel 65 = .ok (.ireturn, 1) := by decide +kernel
theorem dX1_stateOf_0 : decode cX1_stateOf 0 = .ok (.iconst 0, 1) := by decide +kernel
theorem dX1_stateOf_1 : decode cX1_stateOf 1 = .ok (.istore_n 2, 1) := by decide +kernel
theorem dX1_stateOf_2 : decode cX1_stateOf 2 = .ok (.iload_n 2, 1) := by decide +kernel
theorem dX1_stateOf_3 : decode cX1_stateOf 3 = .ok (.aload_n 0, 1) := by decide +kernel
theorem dX1_stateOf_4 : decode cX1_stateOf 4 = .ok (.getfield 19, 3) := by decide +kernel
theorem dX1_stateOf_7 : decode cX1_stateOf 7 = .ok (.if_icmp .ge 31, 3) := by decide +kernel
theorem dX1_stateOf_10 : decode cX1_stateOf 10 = .ok (.iload_n 2, 1) := by decide +kernel
theorem dX1_stateOf_11 : decode cX1_stateOf 11 = .ok (.iload_n 1, 1) := by decide +kernel
theorem dX1_stateOf_12 : decode cX1_stateOf 12 = .ok (.if_icmp .eq 20, 3) := by decide +kernel
theorem dX1_stateOf_15 : decode cX1_stateOf 15 = .ok (.aload_n 0, 1) := by decide +kernel
theorem dX1_stateOf_16 : decode cX1_stateOf 16 = .ok (.getfield 9, 3) := by decide +kernel
theorem dX1_stateOf_19 : decode cX1_stateOf 19 = .ok (.iload_n 2, 1) := by decide +kernel
theorem dX1_stateOf_20 : decode cX1_stateOf 20 = .ok (.iaload, 1) := by decide +kernel
theorem dX1_stateOf_21 : decode cX1_stateOf 21 = .ok (.aload_n 0, 1) := by decide +kernel
theorem dX1_stateOf_22 : decode cX1_stateOf 22 = .ok (.getfield 9, 3) := by decide +kernel
theorem dX1_stateOf_25 : decode cX1_stateOf 25 = .ok (.iload_n 1, 1) := by decide +kernel
theorem dX1_stateOf_26 : decode cX1_stateOf 26 = .ok (.iaload, 1) := by decide +kernel
theorem dX1_stateOf_27 : decode cX1_stateOf 27 = .ok (.if_icmp .ne 5, 3) := by decide +kernel
theorem dX1_stateOf_30 : decode cX1_stateOf 30 = .ok (.iconst 1, 1) := by decide +kernel
theorem dX1_stateOf_31 : decode cX1_stateOf 31 = .ok (.ireturn, 1) := by decide +kernel
theorem dX1_stateOf_32 : decode cX1_stateOf 32 = .ok (.iinc 2 1, 3) := by decide +kernel
theorem dX1_stateOf_35 : decode cX1_stateOf 35 = .ok (.goto (-33), 3) := by decide +kernel
theorem dX1_stateOf_38 : decode cX1_stateOf 38 = .ok (.iconst 0, 1) := by decide +kernel
theorem dX1_stateOf_39 : decode cX1_stateOf 39 = .ok (.ireturn, 1) := by decide +kernel
theorem dX1_ownLevel_0 : decode cX1_ownLevel 0 = .ok (.iconst 0, 1) := by decide +kernel
theorem dX1_ownLevel_1 : decode cX1_ownLevel 1 = .ok (.istore 5, 2) := by decide +kernel
theorem dX1_ownLevel_3 : decode cX1_ownLevel 3 = .ok (.aload_n 0, 1) := by decide +kernel
theorem dX1_ownLevel_4 : decode cX1_ownLevel 4 = .ok (.getfield 15, 3) := by decide +kernel
theorem dX1_ownLevel_7 : decode cX1_ownLevel 7 = .ok (.iload_n 1, 1) := by decide +kernel
theorem dX1_ownLevel_8 : decode cX1_ownLevel 8 = .ok (.aaload, 1) := by decide +kernel
theorem dX1_ownLevel_9 : decode cX1_ownLevel 9 = .ok (.astore 6, 2) := by decide +kernel
theorem dX1_ownLevel_11 : decode cX1_ownLevel 11 = .ok (.aload 6, 2) := by decide +kernel
theorem dX1_ownLevel_13 : decode cX1_ownLevel 13 = .ok (.ifnull 60, 3) := by decide +kernel
theorem dX1_ownLevel_16 : decode cX1_ownLevel 16 = .ok (.aload 6, 2) := by decide +kernel
theorem dX1_ownLevel_18 : decode cX1_ownLevel 18 = .ok (.getfield 107, 3) := by decide +kernel
theorem dX1_ownLevel_21 : decode cX1_ownLevel 21 = .ok (.lload_n 2, 1) := by decide +kernel
theorem dX1_ownLevel_22 : decode cX1_ownLevel 22 = .ok (.lcmp, 1) := by decide +kernel
theorem dX1_ownLevel_23 : decode cX1_ownLevel 23 = .ok (.ifCond .gt 40, 3) := by decide +kernel
theorem dX1_ownLevel_26 : decode cX1_ownLevel 26 = .ok (.aload 6, 2) := by decide +kernel
theorem dX1_ownLevel_28 : decode cX1_ownLevel 28 = .ok (.getfield 126, 3) := by decide +kernel
theorem dX1_ownLevel_31 : decode cX1_ownLevel 31 = .ok (.iconst (-1), 1) := by decide +kernel
theorem dX1_ownLevel_32 : decode cX1_ownLevel 32 = .ok (.if_icmp .eq 6, 3) := by decide +kernel
theorem dX1_ownLevel_35 : decode cX1_ownLevel 35 = .ok (.iload 5, 2) := by decide +kernel
theorem dX1_ownLevel_37 : decode cX1_ownLevel 37 = .ok (.ireturn, 1) := by decide +kernel
theorem dX1_ownLevel_38 : decode cX1_ownLevel 38 = .ok (.iload 5, 2) := by decide +kernel
theorem dX1_ownLevel_40 : decode cX1_ownLevel 40 = .ok (.aload_n 0, 1) := by decide +kernel
theorem dX1_ownLevel_41 : decode cX1_ownLevel 41 = .ok (.aload 6, 2) := by decide +kernel
theorem dX1_ownLevel_43 : decode cX1_ownLevel 43 = .ok (.getfield 129, 3) := by decide +kernel
theorem dX1_ownLevel_46 : decode cX1_ownLevel 46 = .ok (.lload_n 2, 1) := by decide +kernel
theorem dX1_ownLevel_47 : decode cX1_ownLevel 47 = .ok (.aload 6, 2) := by decide +kernel
theorem dX1_ownLevel_49 : decode cX1_ownLevel 49 = .ok (.getfield 107, 3) := by decide +kernel
theorem dX1_ownLevel_52 : decode cX1_ownLevel 52 = .ok (.lsub, 1) := by decide +kernel
theorem dX1_ownLevel_53 : decode cX1_ownLevel 53 = .ok (.iload 4, 2) := by decide +kernel
theorem dX1_ownLevel_55 : decode cX1_ownLevel 55 = .ok (.invokevirtual 132, 3) := by decide +kernel
theorem dX1_ownLevel_58 : decode cX1_ownLevel 58 = .ok (.invokestatic 26, 3) := by decide +kernel
theorem dX1_ownLevel_61 : decode cX1_ownLevel 61 = .ok (.istore 5, 2) := by decide +kernel
theorem dX1_ownLevel_63 : decode cX1_ownLevel 63 = .ok (.aload 6, 2) := by decide +kernel
theorem dX1_ownLevel_65 : decode cX1_ownLevel 65 = .ok (.getfield 115, 3) := by decide +kernel
theorem dX1_ownLevel_68 : decode cX1_ownLevel 68 = .ok (.astore 6, 2) := by decide +kernel
theorem dX1_ownLevel_70 : decode cX1_ownLevel 70 = .ok (.goto (-59), 3) := by decide +kernel
theorem dX1_ownLevel_73 : decode cX1_ownLevel 73 = .ok (.iload 5, 2) := by decide +kernel
theorem dX1_ownLevel_75 : decode cX1_ownLevel 75 = .ok (.ireturn, 1) := by decide +kernel
theorem dX1_levelLeft_0 : decode cX1_levelLeft 0 = .ok (.iload_n 1, 1) := by decide +kernel
theorem dX1_levelLeft_1 : decode cX1_levelLeft 1 = .ok (.istore 5, 2) := by decide +kernel
theorem dX1_levelLeft_3 : decode cX1_levelLeft 3 = .ok (.iload 5, 2) := by decide +kernel
theorem dX1_levelLeft_5 : decode cX1_levelLeft 5 = .ok (.iconst 1, 1) := by decide +kernel
theorem dX1_levelLeft_6 : decode cX1_levelLeft 6 = .ok (.if_icmp .lt 28, 3) := by decide +kernel
theorem dX1_levelLeft_9 : decode cX1_levelLeft 9 = .ok (.lload_n 2, 1) := by decide +kernel
theorem dX1_levelLeft_10 : decode cX1_levelLeft 10 = .ok (.aload_n 0, 1) := by decide +kernel
theorem dX1_levelLeft_11 : decode cX1_levelLeft 11 = .ok (.getfield 55, 3) := by decide +kernel
theorem dX1_levelLeft_14 : decode cX1_levelLeft 14 = .ok (.iload 4, 2) := by decide +kernel
theorem dX1_levelLeft_16 : decode cX1_levelLeft 16 = .ok (.aaload, 1) := by decide +kernel
theorem dX1_levelLeft_17 : decode cX1_levelLeft 17 = .ok (.iload 5, 2) := by decide +kernel
theorem dX1_levelLeft_19 : decode cX1_levelLeft 19 = .ok (.iaload, 1) := by decide +kernel
theorem dX1_levelLeft_20 : decode cX1_levelLeft 20 = .ok (.i2l, 1) := by decide +kernel
theorem dX1_levelLeft_21 : decode cX1_levelLeft 21 = .ok (.lcmp, 1) := by decide +kernel
theorem dX1_levelLeft_22 : decode cX1_levelLeft 22 = .ok (.ifCond .ge 6, 3) := by decide +kernel
theorem dX1_levelLeft_25 : decode cX1_levelLeft 25 = .ok (.iload 5, 2) := by decide +kernel
theorem dX1_levelLeft_27 : decode cX1_levelLeft 27 = .ok (.ireturn, 1) := by decide +kernel
theorem dX1_levelLeft_28 : decode cX1_levelLeft 28 = .ok (.iinc 5 (-1), 3) := by decide +kernel
theorem dX1_levelLeft_31 : decode cX1_levelLeft 31 = .ok (.goto (-28), 3) := by decide +kernel
theorem dX1_levelLeft_34 : decode cX1_levelLeft 34 = .ok (.iconst 0, 1) := by decide +kernel
theorem dX1_levelLeft_35 : decode cX1_levelLeft 35 = .ok (.ireturn, 1) := by decide +kernel
theorem dX1_groupNeed_0 : decode cX1_groupNeed 0 = .ok (.iconst 0, 1) := by decide +kernel
theorem dX1_groupNeed_1 : decode cX1_groupNeed 1 = .ok (.istore 5, 2) := by decide +kernel
theorem dX1_groupNeed_3 : decode cX1_groupNeed 3 = .ok (.iconst 0, 1) := by decide +kernel
theorem dX1_groupNeed_4 : decode cX1_groupNeed 4 = .ok (.istore 6, 2) := by decide +kernel
theorem dX1_groupNeed_6 : decode cX1_groupNeed 6 = .ok (.iload 6, 2) := by decide +kernel
theorem dX1_groupNeed_8 : decode cX1_groupNeed 8 = .ok (.aload_n 0, 1) := by decide +kernel
theorem dX1_groupNeed_9 : decode cX1_groupNeed 9 = .ok (.getfield 19, 3) := by decide +kernel
theorem dX1_groupNeed_12 : decode cX1_groupNeed 12 = .ok (.if_icmp .ge 44, 3) := by decide +kernel
theorem dX1_groupNeed_15 : decode cX1_groupNeed 15 = .ok (.aload_n 0, 1) := by decide +kernel
theorem dX1_groupNeed_16 : decode cX1_groupNeed 16 = .ok (.getfield 9, 3) := by decide +kernel
theorem dX1_groupNeed_19 : decode cX1_groupNeed 19 = .ok (.iload 6, 2) := by decide +kernel
theorem dX1_groupNeed_21 : decode cX1_groupNeed 21 = .ok (.iaload, 1) := by decide +kernel
theorem dX1_groupNeed_22 : decode cX1_groupNeed 22 = .ok (.aload_n 0, 1) := by decide +kernel
theorem dX1_groupNeed_23 : decode cX1_groupNeed 23 = .ok (.getfield 9, 3) := by decide +kernel
theorem dX1_groupNeed_26 : decode cX1_groupNeed 26 = .ok (.iload_n 1, 1) := by decide +kernel
theorem dX1_groupNeed_27 : decode cX1_groupNeed 27 = .ok (.iaload, 1) := by decide +kernel
theorem dX1_groupNeed_28 : decode cX1_groupNeed 28 = .ok (.if_icmp .ne 22, 3) := by decide +kernel
theorem dX1_groupNeed_31 : decode cX1_groupNeed 31 = .ok (.iload 5, 2) := by decide +kernel
theorem dX1_groupNeed_33 : decode cX1_groupNeed 33 = .ok (.aload_n 0, 1) := by decide +kernel
theorem dX1_groupNeed_34 : decode cX1_groupNeed 34 = .ok (.aload_n 0, 1) := by decide +kernel
theorem dX1_groupNeed_35 : decode cX1_groupNeed 35 = .ok (.iload 6, 2) := by decide +kernel
theorem dX1_groupNeed_37 : decode cX1_groupNeed 37 = .ok (.lload_n 3, 1) := by decide +kernel
theorem dX1_groupNeed_38 : decode cX1_groupNeed 38 = .ok (.invokevirtual 135, 3) := by decide +kernel
theorem dX1_groupNeed_41 : decode cX1_groupNeed 41 = .ok (.iload_n 2, 1) := by decide +kernel
theorem dX1_groupNeed_42 : decode cX1_groupNeed 42 = .ok (.invokevirtual 138, 3) := by decide +kernel
theorem dX1_groupNeed_45 : decode cX1_groupNeed 45 = .ok (.invokestatic 26, 3) := by decide +kernel
theorem dX1_groupNeed_48 : decode cX1_groupNeed 48 = .ok (.istore 5, 2) := by decide +kernel
theorem dX1_groupNeed_50 : decode cX1_groupNeed 50 = .ok (.iinc 6 1, 3) := by decide +kernel
theorem dX1_groupNeed_53 : decode cX1_groupNeed 53 = .ok (.goto (-47), 3) := by decide +kernel
theorem dX1_groupNeed_56 : decode cX1_groupNeed 56 = .ok (.iload 5, 2) := by decide +kernel
theorem dX1_groupNeed_58 : decode cX1_groupNeed 58 = .ok (.ireturn, 1) := by decide +kernel
theorem dX1_lastContent_0 : decode cX1_lastContent 0 = .ok (.aload_n 0, 1) := by decide +kernel
theorem dX1_lastContent_1 : decode cX1_lastContent 1 = .ok (.getfield 15, 3) := by decide +kernel
theorem dX1_lastContent_4 : decode cX1_lastContent 4 = .ok (.iload_n 1, 1) := by decide +kernel
theorem dX1_lastContent_5 : decode cX1_lastContent 5 = .ok (.aaload, 1) := by decide +kernel
theorem dX1_lastContent_6 : decode cX1_lastContent 6 = .ok (.astore 4, 2) := by decide +kernel
theorem dX1_lastContent_8 : decode cX1_lastContent 8 = .ok (.aload 4, 2) := by decide +kernel
theorem dX1_lastContent_10 : decode cX1_lastContent 10 = .ok (.ifnull 38, 3) := by decide +kernel
theorem dX1_lastContent_13 : decode cX1_lastContent 13 = .ok (.aload 4, 2) := by decide +kernel
theorem dX1_lastContent_15 : decode cX1_lastContent 15 = .ok (.getfield 107, 3) := by decide +kernel
theorem dX1_lastContent_18 : decode cX1_lastContent 18 = .ok (.lload_n 2, 1) := by decide +kernel
theorem dX1_lastContent_19 : decode cX1_lastContent 19 = .ok (.lcmp, 1) := by decide +kernel
theorem dX1_lastContent_20 : decode cX1_lastContent 20 = .ok (.ifCond .gt 18, 3) := by decide +kernel
theorem dX1_lastContent_23 : decode cX1_lastContent 23 = .ok (.aload 4, 2) := by decide +kernel
theorem dX1_lastContent_25 : decode cX1_lastContent 25 = .ok (.getfield 126, 3) := by decide +kernel
theorem dX1_lastContent_28 : decode cX1_lastContent 28 = .ok (.iconst (-1), 1) := by decide +kernel
theorem dX1_lastContent_29 : decode cX1_lastContent 29 = .ok (.if_icmp .eq 9, 3) := by decide +kernel
theorem dX1_lastContent_32 : decode cX1_lastContent 32 = .ok (.aload 4, 2) := by decide +kernel
theorem dX1_lastContent_34 : decode cX1_lastContent 34 = .ok (.getfield 126, 3) := by decide +kernel
theorem dX1_lastContent_37 : decode cX1_lastContent 37 = .ok (.ireturn, 1) := by decide +kernel
theorem dX1_lastContent_38 : decode cX1_lastContent 38 = .ok (.aload 4, 2) := by decide +kernel
theorem dX1_lastContent_40 : decode cX1_lastContent 40 = .ok (.getfield 115, 3) := by decide +kernel
theorem dX1_lastContent_43 : decode cX1_lastContent 43 = .ok (.astore 4, 2) := by decide +kernel
theorem dX1_lastContent_45 : decode cX1_lastContent 45 = .ok (.goto (-37), 3) := by decide +kernel
theorem dX1_lastContent_48 : decode cX1_lastContent 48 = .ok (.iconst (-1), 1) := by decide +kernel
theorem dX1_lastContent_49 : decode cX1_lastContent 49 = .ok (.ireturn, 1) := by decide +kernel
theorem dX1_needBehind_0 : decode cX1_needBehind 0 = .ok (.aload_n 0, 1) := by decide +kernel
theorem dX1_needBehind_1 : decode cX1_needBehind 1 = .ok (.iload_n 1, 1) := by decide +kernel
theorem dX1_needBehind_2 : decode cX1_needBehind 2 = .ok (.invokevirtual 62, 3) := by decide +kernel
theorem dX1_needBehind_5 : decode cX1_needBehind 5 = .ok (.ifCond .ne 5, 3) := by decide +kernel
theorem dX1_needBehind_8 : decode cX1_needBehind 8 = .ok (.iconst 0, 1) := by decide +kernel
theorem dX1_needBehind_9 : decode cX1_needBehind 9 = .ok (.ireturn, 1) := by decide +kernel
theorem dX1_needBehind_10 : decode cX1_needBehind 10 = .ok (.aload_n 0, 1) := by decide +kernel
theorem dX1_needBehind_11 : decode cX1_needBehind 11 = .ok (.iload_n 2, 1) := by decide +kernel
theorem dX1_needBehind_12 : decode cX1_needBehind 12 = .ok (.invokevirtual 62, 3) := by decide +kernel
theorem dX1_needBehind_15 : decode cX1_needBehind 15 = .ok (.ifCond .eq 21, 3) := by decide +kernel
theorem dX1_needBehind_18 : decode cX1_needBehind 18 = .ok (.aload_n 0, 1) := by decide +kernel
theorem dX1_needBehind_19 : decode cX1_needBehind 19 = .ok (.getfield 52, 3) := by decide +kernel
theorem dX1_needBehind_22 : decode cX1_needBehind 22 = .ok (.iload_n 1, 1) := by decide +kernel
theorem dX1_needBehind_23 : decode cX1_needBehind 23 = .ok (.iaload, 1) := by decide +kernel
theorem dX1_needBehind_24 : decode cX1_needBehind 24 = .ok (.aload_n 0, 1) := by decide +kernel
theorem dX1_needBehind_25 : decode cX1_needBehind 25 = .ok (.getfield 52, 3) := by decide +kernel
theorem dX1_needBehind_28 : decode cX1_needBehind 28 = .ok (.iload_n 2, 1) := by decide +kernel
theorem dX1_needBehind_29 : decode cX1_needBehind 29 = .ok (.iaload, 1) := by decide +kernel
theorem dX1_needBehind_30 : decode cX1_needBehind 30 = .ok (.iconst (-1), 1) := by decide +kernel
theorem dX1_needBehind_31 : decode cX1_needBehind 31 = .ok (.ixor, 1) := by decide +kernel
theorem dX1_needBehind_32 : decode cX1_needBehind 32 = .ok (.iand, 1) := by decide +kernel
theorem dX1_needBehind_33 : decode cX1_needBehind 33 = .ok (.ifCond .eq 8, 3) := by decide +kernel
theorem dX1_needBehind_36 : decode cX1_needBehind 36 = .ok (.aload_n 0, 1) := by decide +kernel
theorem dX1_needBehind_37 : decode cX1_needBehind 37 = .ok (.getfield 38, 3) := by decide +kernel
theorem dX1_needBehind_40 : decode cX1_needBehind 40 = .ok (.ireturn, 1) := by decide +kernel
theorem dX1_needBehind_41 : decode cX1_needBehind 41 = .ok (.aload_n 0, 1) := by decide +kernel
theorem dX1_needBehind_42 : decode cX1_needBehind 42 = .ok (.getfield 43, 3) := by decide +kernel
theorem dX1_needBehind_45 : decode cX1_needBehind 45 = .ok (.iload_n 1, 1) := by decide +kernel
theorem dX1_needBehind_46 : decode cX1_needBehind 46 = .ok (.aaload, 1) := by decide +kernel
theorem dX1_needBehind_47 : decode cX1_needBehind 47 = .ok (.iload_n 2, 1) := by decide +kernel
theorem dX1_needBehind_48 : decode cX1_needBehind 48 = .ok (.iaload, 1) := by decide +kernel
theorem dX1_needBehind_49 : decode cX1_needBehind 49 = .ok (.ireturn, 1) := by decide +kernel
theorem dX1_cheapestFrom_0 : decode cX1_cheapestFrom 0 = .ok (.iload_n 1, 1) := by decide +kernel
theorem dX1_cheapestFrom_1 : decode cX1_cheapestFrom 1 = .ok (.istore_n 2, 1) := by decide +kernel
theorem dX1_cheapestFrom_2 : decode cX1_cheapestFrom 2 = .ok (.iload_n 1, 1) := by decide +kernel
theorem dX1_cheapestFrom_3 : decode cX1_cheapestFrom 3 = .ok (.iconst 1, 1) := by decide +kernel
theorem dX1_cheapestFrom_4 : decode cX1_cheapestFrom 4 = .ok (.iadd, 1) := by decide +kernel
theorem dX1_cheapestFrom_5 : decode cX1_cheapestFrom 5 = .ok (.istore_n 3, 1) := by decide +kernel
theorem dX1_cheapestFrom_6 : decode cX1_cheapestFrom 6 = .ok (.iload_n 3, 1) := by decide +kernel
theorem dX1_cheapestFrom_7 : decode cX1_cheapestFrom 7 = .ok (.aload_n 0, 1) := by decide +kernel
theorem dX1_cheapestFrom_8 : decode cX1_cheapestFrom 8 = .ok (.getfield 38, 3) := by decide +kernel
theorem dX1_cheapestFrom_11 : decode cX1_cheapestFrom 11 = .ok (.if_icmp .gt 27, 3) := by decide +kernel
theorem dX1_cheapestFrom_14 : decode cX1_cheapestFrom 14 = .ok (.aload_n 0, 1) := by decide +kernel
theorem dX1_cheapestFrom_15 : decode cX1_cheapestFrom 15 = .ok (.getfield 58, 3) := by decide +kernel
theorem dX1_cheapestFrom_18 : decode cX1_cheapestFrom 18 = .ok (.iload_n 3, 1) := by decide +kernel
theorem dX1_cheapestFrom_19 : decode cX1_cheapestFrom 19 = .ok (.laload, 1) := by decide +kernel
theorem dX1_cheapestFrom_20 : decode cX1_cheapestFrom 20 = .ok (.aload_n 0, 1) := by decide +kernel
theorem dX1_cheapestFrom_21 : decode cX1_cheapestFrom 21 = .ok (.getfield 58, 3) := by decide +kernel
theorem dX1_cheapestFrom_24 : decode cX1_cheapestFrom 24 = .ok (.iload_n 2, 1) := by decide +kernel
theorem dX1_cheapestFrom_25 : decode cX1_cheapestFrom 25 = .ok (.laload, 1) := by decide +kernel
theorem dX1_cheapestFrom_26 : decode cX1_cheapestFrom 26 = .ok (.lcmp, 1) := by decide +kernel
theorem dX1_cheapestFrom_27 : decode cX1_cheapestFrom 27 = .ok (.ifCond .ge 5, 3) := by decide +kernel
theorem dX1_cheapestFrom_30 : decode cX1_cheapestFrom 30 = .ok (.iload_n 3, 1) := by decide +kernel
theorem dX1_cheapestFrom_31 : decode cX1_cheapestFrom 31 = .ok (.istore_n 2, 1) := by decide +kernel
theorem dX1_cheapestFrom_32 : decode cX1_cheapestFrom 32 = .ok (.iinc 3 1, 3) := by decide +kernel
theorem dX1_cheapestFrom_35 : decode cX1_cheapestFrom 35 = .ok (.goto (-29), 3) := by decide +kernel
theorem dX1_cheapestFrom_38 : decode cX1_cheapestFrom 38 = .ok (.iload_n 2, 1) := by decide +kernel
theorem dX1_cheapestFrom_39 : decode cX1_cheapestFrom 39 = .ok (.ireturn, 1) := by decide +kernel
theorem dX0_init_0 : decode cX0_init 0 = .ok (.aload_n 0, 1) := by decide +kernel
theorem dX0_init_1 : decode cX0_init 1 = .ok (.invokespecial 1, 3) := by decide +kernel
theorem dX0_init_4 : decode cX0_init 4 = .ok (.aload_n 0, 1) := by decide +kernel
theorem dX0_init_5 : decode cX0_init 5 = .ok (.aconst_null, 1) := by decide +kernel
theorem dX0_init_6 : decode cX0_init 6 = .ok (.putfield 7, 3) := by decide +kernel
theorem dX0_init_9 : decode cX0_init 9 = .ok (.aload_n 0, 1) := by decide +kernel
theorem dX0_init_10 : decode cX0_init 10 = .ok (.iload_n 1, 1) := by decide +kernel
theorem dX0_init_11 : decode cX0_init 11 = .ok (.putfield 13, 3) := by decide +kernel
theorem dX0_init_14 : decode cX0_init 14 = .ok (.aload_n 0, 1) := by decide +kernel
theorem dX0_init_15 : decode cX0_init 15 = .ok (.iload_n 2, 1) := by decide +kernel
theorem dX0_init_16 : decode cX0_init 16 = .ok (.putfield 17, 3) := by decide +kernel
theorem dX0_init_19 : decode cX0_init 19 = .ok (.aload_n 0, 1) := by decide +kernel
theorem dX0_init_20 : decode cX0_init 20 = .ok (.lload_n 3, 1) := by decide +kernel
theorem dX0_init_21 : decode cX0_init 21 = .ok (.putfield 20, 3) := by decide +kernel
theorem dX0_init_24 : decode cX0_init 24 = .ok (.aload_n 0, 1) := by decide +kernel
theorem dX0_init_25 : decode cX0_init 25 = .ok (.iload 5, 2) := by decide +kernel
theorem dX0_init_27 : decode cX0_init 27 = .ok (.putfield 24, 3) := by decide +kernel
theorem dX0_init_30 : decode cX0_init 30 = .ok (.return_, 1) := by decide +kernel
theorem dJ7_fill_0 : decode cJ7_fill 0 = .ok (.iconst 0, 1) := by decide +kernel
theorem dJ7_fill_1 : decode cJ7_fill 1 = .ok (.istore_n 2, 1) := by decide +kernel
theorem dJ7_fill_2 : decode cJ7_fill 2 = .ok (.aload_n 0, 1) := by decide +kernel
theorem dJ7_fill_3 : decode cJ7_fill 3 = .ok (.arraylength, 1) := by decide +kernel
theorem dJ7_fill_4 : decode cJ7_fill 4 = .ok (.istore_n 3, 1) := by decide +kernel
theorem dJ7_fill_5 : decode cJ7_fill 5 = .ok (.iload_n 2, 1) := by decide +kernel
theorem dJ7_fill_6 : decode cJ7_fill 6 = .ok (.iload_n 3, 1) := by decide +kernel
theorem dJ7_fill_7 : decode cJ7_fill 7 = .ok (.if_icmp .ge 13, 3) := by decide +kernel
theorem dJ7_fill_10 : decode cJ7_fill 10 = .ok (.aload_n 0, 1) := by decide +kernel
theorem dJ7_fill_11 : decode cJ7_fill 11 = .ok (.iload_n 2, 1) := by decide +kernel
theorem dJ7_fill_12 : decode cJ7_fill 12 = .ok (.iload_n 1, 1) := by decide +kernel
theorem dJ7_fill_13 : decode cJ7_fill 13 = .ok (.iastore, 1) := by decide +kernel
theorem dJ7_fill_14 : decode cJ7_fill 14 = .ok (.iinc 2 1, 3) := by decide +kernel
theorem dJ7_fill_17 : decode cJ7_fill 17 = .ok (.goto (-12), 3) := by decide +kernel
theorem dJ7_fill_20 : decode cJ7_fill 20 = .ok (.return_, 1) := by decide +kernel
