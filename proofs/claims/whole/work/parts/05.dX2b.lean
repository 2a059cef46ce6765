theorem dX2_cleaned_48 : decode cX2_cleaned 48 = .ok (.iconst 0, 1) := by decide +kernel
theorem dX2_cleaned_49 : decode cX2_cleaned 49 = .ok (.invokevirtual 77, 3) := by decide +kernel
theorem dX2_cleaned_52 : decode cX2_cleaned 52 = .ok (.ifCond .eq 7, 3) := by decide +kernel
theorem dX2_cleaned_55 : decode cX2_cleaned 55 = .ok (.iconst 1, 1) := by decide +kernel
theorem dX2_cleaned_56 : decode cX2_cleaned 56 = .ok (.goto 4, 3) := by decide +kernel
theorem dX2_cleaned_59 : decode cX2_cleaned 59 = .ok (.iconst 0, 1) := by decide +kernel
theorem dX2_cleaned_60 : decode cX2_cleaned 60 = .ok (.ireturn, 1) := by decide +kernel
theorem dX2_told_0 : decode cX2_told 0 = .ok (.aload_n 0, 1) := by decide +kernel
theorem dX2_told_1 : decode cX2_told 1 = .ok (.iload_n 1, 1) := by decide +kernel
theorem dX2_told_2 : decode cX2_told 2 = .ok (.invokevirtual 63, 3) := by decide +kernel
theorem dX2_told_5 : decode cX2_told 5 = .ok (.ifCond .eq 70, 3) := by decide +kernel
theorem dX2_told_8 : decode cX2_told 8 = .ok (.aload_n 0, 1) := by decide +kernel
theorem dX2_told_9 : decode cX2_told 9 = .ok (.iload_n 2, 1) := by decide +kernel
theorem dX2_told_10 : decode cX2_told 10 = .ok (.invokevirtual 54, 3) := by decide +kernel
theorem dX2_told_13 : decode cX2_told 13 = .ok (.ifCond .eq 62, 3) := by decide +kernel
theorem dX2_told_16 : decode cX2_told 16 = .ok (.lload_n 3, 1) := by decide +kernel
theorem dX2_told_17 : decode cX2_told 17 = .ok (.invokestatic 69, 3) := by decide +kernel
theorem dX2_told_20 : decode cX2_told 20 = .ok (.ifCond .eq 55, 3) := by decide +kernel
theorem dX2_told_23 : decode cX2_told 23 = .ok (.lload 5, 2) := by decide +kernel
theorem dX2_told_25 : decode cX2_told 25 = .ok (.invokestatic 69, 3) := by decide +kernel
theorem dX2_told_28 : decode cX2_told 28 = .ok (.ifCond .eq 47, 3) := by decide +kernel
theorem dX2_told_31 : decode cX2_told 31 = .ok (.lload 5, 2) := by decide +kernel
theorem dX2_told_33 : decode cX2_told 33 = .ok (.lload_n 3, 1) := by decide +kernel
theorem dX2_told_34 : decode cX2_told 34 = .ok (.lcmp, 1) := by decide +kernel
theorem dX2_told_35 : decode cX2_told 35 = .ok (.ifCond .lt 40, 3) := by decide +kernel
theorem dX2_told_38 : decode cX2_told 38 = .ok (.aload_n 0, 1) := by decide +kernel
theorem dX2_told_39 : decode cX2_told 39 = .ok (.iload_n 1, 1) := by decide +kernel
theorem dX2_told_40 : decode cX2_told 40 = .ok (.lload 5, 2) := by decide +kernel
theorem dX2_told_42 : decode cX2_told 42 = .ok (.iconst 0, 1) := by decide +kernel
theorem dX2_told_43 : decode cX2_told 43 = .ok (.invokevirtual 73, 3) := by decide +kernel
theorem dX2_told_46 : decode cX2_told 46 = .ok (.ifCond .eq 29, 3) := by decide +kernel
theorem dX2_told_49 : decode cX2_told 49 = .ok (.aload_n 0, 1) := by decide +kernel
theorem dX2_told_50 : decode cX2_told 50 = .ok (.getfield 66, 3) := by decide +kernel
theorem dX2_told_53 : decode cX2_told 53 = .ok (.sipush 200, 3) := by decide +kernel
theorem dX2_told_56 : decode cX2_told 56 = .ok (.if_icmp .ge 19, 3) := by decide +kernel
theorem dX2_told_59 : decode cX2_told 59 = .ok (.aload_n 0, 1) := by decide +kernel
theorem dX2_told_60 : decode cX2_told 60 = .ok (.iload_n 1, 1) := by decide +kernel
theorem dX2_told_61 : decode cX2_told 61 = .ok (.iload_n 2, 1) := by decide +kernel
theorem dX2_told_62 : decode cX2_told 62 = .ok (.iconst 0, 1) := by decide +kernel
theorem dX2_told_63 : decode cX2_told 63 = .ok (.lload_n 3, 1) := by decide +kernel
theorem dX2_told_64 : decode cX2_told 64 = .ok (.iconst 1, 1) := by decide +kernel
theorem dX2_told_65 : decode cX2_told 65 = .ok (.invokevirtual 77, 3) := by decide +kernel
theorem dX2_told_68 : decode cX2_told 68 = .ok (.ifCond .eq 7, 3) := by decide +kernel
theorem dX2_told_71 : decode cX2_told 71 = .ok (.iconst 1, 1) := by decide +kernel
theorem dX2_told_72 : decode cX2_told 72 = .ok (.goto 4, 3) := by decide +kernel
theorem dX2_told_75 : decode cX2_told 75 = .ok (.iconst 0, 1) := by decide +kernel
theorem dX2_told_76 : decode cX2_told 76 = .ok (.ireturn, 1) := by decide +kernel
theorem dX2_content_0 : decode cX2_content 0 = .ok (.iconst (-1), 1) := by decide +kernel
theorem dX2_content_1 : decode cX2_content 1 = .ok (.istore 4, 2) := by decide +kernel
theorem dX2_content_3 : decode cX2_content 3 = .ok (.iconst 0, 1) := by decide +kernel
theorem dX2_content_4 : decode cX2_content 4 = .ok (.istore 5, 2) := by decide +kernel
theorem dX2_content_6 : decode cX2_content 6 = .ok (.iload 5, 2) := by decide +kernel
theorem dX2_content_8 : decode cX2_content 8 = .ok (.aload_n 0, 1) := by decide +kernel
theorem dX2_content_9 : decode cX2_content 9 = .ok (.getfield 66, 3) := by decide +kernel
theorem dX2_content_12 : decode cX2_content 12 = .ok (.if_icmp .ge 88, 3) := by decide +kernel
theorem dX2_content_15 : decode cX2_content 15 = .ok (.aload_n 0, 1) := by decide +kernel
theorem dX2_content_16 : decode cX2_content 16 = .ok (.getfield 26, 3) := by decide +kernel
theorem dX2_content_19 : decode cX2_content 19 = .ok (.iload 5, 2) := by decide +kernel
theorem dX2_content_21 : decode cX2_content 21 = .ok (.iaload, 1) := by decide +kernel
theorem dX2_content_22 : decode cX2_content 22 = .ok (.iload_n 1, 1) := by decide +kernel
theorem dX2_content_23 : decode cX2_content 23 = .ok (.if_icmp .ne 30, 3) := by decide +kernel
theorem dX2_content_26 : decode cX2_content 26 = .ok (.aload_n 0, 1) := by decide +kernel
theorem dX2_content_27 : decode cX2_content 27 = .ok (.getfield 32, 3) := by decide +kernel
theorem dX2_content_30 : decode cX2_content 30 = .ok (.iload 5, 2) := by decide +kernel
theorem dX2_content_32 : decode cX2_content 32 = .ok (.iaload, 1) := by decide +kernel
theorem dX2_content_33 : decode cX2_content 33 = .ok (.iconst (-1), 1) := by decide +kernel
theorem dX2_content_34 : decode cX2_content 34 = .ok (.if_icmp .eq 19, 3) := by decide +kernel
theorem dX2_content_37 : decode cX2_content 37 = .ok (.aload_n 0, 1) := by decide +kernel
theorem dX2_content_38 : decode cX2_content 38 = .ok (.getfield 29, 3) := by decide +kernel
theorem dX2_content_41 : decode cX2_content 41 = .ok (.iload 5, 2) := by decide +kernel
theorem dX2_content_43 : decode cX2_content 43 = .ok (.laload, 1) := by decide +kernel
theorem dX2_content_44 : decode cX2_content 44 = .ok (.lload_n 2, 1) := by decide +kernel
theorem dX2_content_45 : decode cX2_content 45 = .ok (.lcmp, 1) := by decide +kernel
theorem dX2_content_46 : decode cX2_content 46 = .ok (.ifCond .gt 7, 3) := by decide +kernel
theorem dX2_content_49 : decode cX2_content 49 = .ok (.iconst 1, 1) := by decide +kernel
theorem dX2_content_50 : decode cX2_content 50 = .ok (.goto 4, 3) := by decide +kernel
theorem dX2_content_53 : decode cX2_content 53 = .ok (.iconst 0, 1) := by decide +kernel
theorem dX2_content_54 : decode cX2_content 54 = .ok (.istore 6, 2) := by decide +kernel
theorem dX2_content_56 : decode cX2_content 56 = .ok (.iload 6, 2) := by decide +kernel
theorem dX2_content_58 : decode cX2_content 58 = .ok (.ifCond .eq 32, 3) := by decide +kernel
theorem dX2_content_61 : decode cX2_content 61 = .ok (.iload 4, 2) := by decide +kernel
theorem dX2_content_63 : decode cX2_content 63 = .ok (.iconst (-1), 1) := by decide +kernel
theorem dX2_content_64 : decode cX2_content 64 = .ok (.if_icmp .eq 21, 3) := by decide +kernel
theorem dX2_content_67 : decode cX2_content 67 = .ok (.aload_n 0, 1) := by decide +kernel
theorem dX2_content_68 : decode cX2_content 68 = .ok (.getfield 29, 3) := by decide +kernel
theorem dX2_content_71 : decode cX2_content 71 = .ok (.iload 5, 2) := by decide +kernel
theorem dX2_content_73 : decode cX2_content 73 = .ok (.laload, 1) := by decide +kernel
theorem dX2_content_74 : decode cX2_content 74 = .ok (.aload_n 0, 1) := by decide +kernel
theorem dX2_content_75 : decode cX2_content 75 = .ok (.getfield 29, 3) := by decide +kernel
theorem dX2_content_78 : decode cX2_content 78 = .ok (.iload 4, 2) := by decide +kernel
theorem dX2_content_80 : decode cX2_content 80 = .ok (.laload, 1) := by decide +kernel
theorem dX2_content_81 : decode cX2_content 81 = .ok (.lcmp, 1) := by decide +kernel
theorem dX2_content_82 : decode cX2_content 82 = .ok (.ifCond .lt 8, 3) := by decide +kernel
theorem dX2_content_85 : decode cX2_content 85 = .ok (.iload 5, 2) := by decide +kernel
theorem dX2_content_87 : decode cX2_content 87 = .ok (.goto 5, 3) := by decide +kernel
theorem dX2_content_90 : decode cX2_content 90 = .ok (.iload 4, 2) := by decide +kernel
theorem dX2_content_92 : decode cX2_content 92 = .ok (.istore 4, 2) := by decide +kernel
theorem dX2_content_94 : decode cX2_content 94 = .ok (.iinc 5 1, 3) := by decide +kernel
theorem dX2_content_97 : decode cX2_content 97 = .ok (.goto (-91), 3) := by decide +kernel
theorem dX2_content_100 : decode cX2_content 100 = .ok (.iload 4, 2) := by decide +kernel
theorem dX2_content_102 : decode cX2_content 102 = .ok (.ireturn, 1) := by decide +kernel
theorem dX2_isAfter_0 : decode cX2_isAfter 0 = .ok (.iload_n 2, 1) := by decide +kernel
theorem dX2_isAfter_1 : decode cX2_isAfter 1 = .ok (.iconst (-1), 1) := by decide +kernel
theorem dX2_isAfter_2 : decode cX2_isAfter 2 = .ok (.if_icmp .eq 40, 3) := by decide +kernel
theorem dX2_isAfter_5 : decode cX2_isAfter 5 = .ok (.aload_n 0, 1) := by decide +kernel
theorem dX2_isAfter_6 : decode cX2_isAfter 6 = .ok (.getfield 29, 3) := by decide +kernel
theorem dX2_isAfter_9 : decode cX2_isAfter 9 = .ok (.iload_n 1, 1) := by decide +kernel
theorem dX2_isAfter_10 : decode cX2_isAfter 10 = .ok (.laload, 1) := by decide +kernel
theorem dX2_isAfter_11 : decode cX2_isAfter 11 = .ok (.aload_n 0, 1) := by decide +kernel
theorem dX2_isAfter_12 : decode cX2_isAfter 12 = .ok (.getfield 29, 3) := by decide +kernel
theorem dX2_isAfter_15 : decode cX2_isAfter 15 = .ok (.iload_n 2, 1) := by decide +kernel
theorem dX2_isAfter_16 : decode cX2_isAfter 16 = .ok (.laload, 1) := by decide +kernel
theorem dX2_isAfter_17 : decode cX2_isAfter 17 = .ok (.lcmp, 1) := by decide +kernel
theorem dX2_isAfter_18 : decode cX2_isAfter 18 = .ok (.ifCond .gt 24, 3) := by decide +kernel
theorem dX2_isAfter_21 : decode cX2_isAfter 21 = .ok (.aload_n 0, 1) := by decide +kernel
theorem dX2_isAfter_22 : decode cX2_isAfter 22 = .ok (.getfield 29, 3) := by decide +kernel
theorem dX2_isAfter_25 : decode cX2_isAfter 25 = .ok (.iload_n 1, 1) := by decide +kernel
theorem dX2_isAfter_26 : decode cX2_isAfter 26 = .ok (.laload, 1) := by decide +kernel
theorem dX2_isAfter_27 : decode cX2_isAfter 27 = .ok (.aload_n 0, 1) := by decide +kernel
theorem dX2_isAfter_28 : decode cX2_isAfter 28 = .ok (.getfield 29, 3) := by decide +kernel
theorem dX2_isAfter_31 : decode cX2_isAfter 31 = .ok (.iload_n 2, 1) := by decide +kernel
theorem dX2_isAfter_32 : decode cX2_isAfter 32 = .ok (.laload, 1) := by decide +kernel
theorem dX2_isAfter_33 : decode cX2_isAfter 33 = .ok (.lcmp, 1) := by decide +kernel
theorem dX2_isAfter_34 : decode cX2_isAfter 34 = .ok (.ifCond .ne 12, 3) := by decide +kernel
theorem dX2_isAfter_37 : decode cX2_isAfter 37 = .ok (.iload_n 1, 1) := by decide +kernel
theorem dX2_isAfter_38 : decode cX2_isAfter 38 = .ok (.iload_n 2, 1) := by decide +kernel
theorem dX2_isAfter_39 : decode cX2_isAfter 39 = .ok (.if_icmp .le 7, 3) := by decide +kernel
theorem dX2_isAfter_42 : decode cX2_isAfter 42 = .ok (.iconst 1, 1) := by decide +kernel
theorem dX2_isAfter_43 : decode cX2_isAfter 43 = .ok (.goto 4, 3) := by decide +kernel
theorem dX2_isAfter_46 : decode cX2_isAfter 46 = .ok (.iconst 0, 1) := by decide +kernel
theorem dX2_isAfter_47 : decode cX2_isAfter 47 = .ok (.ireturn, 1) := by decide +kernel
theorem dX2_state_0 : decode cX2_state 0 = .ok (.iconst 0, 1) := by decide +kernel
theorem dX2_state_1 : decode cX2_state 1 = .ok (.istore_n 2, 1) := by decide +kernel
theorem dX2_state_2 : decode cX2_state 2 = .ok (.iconst 0, 1) := by decide +kernel
theorem dX2_state_3 : decode cX2_state 3 = .ok (.istore_n 3, 1) := by decide +kernel
theorem dX2_state_4 : decode cX2_state 4 = .ok (.iload_n 3, 1) := by decide +kernel
theorem dX2_state_5 : decode cX2_state 5 = .ok (.aload_n 0, 1) := by decide +kernel
theorem dX2_state_6 : decode cX2_state 6 = .ok (.getfield 49, 3) := by decide +kernel
theorem dX2_state_9 : decode cX2_state 9 = .ok (.if_icmp .ge 32, 3) := by decide +kernel
theorem dX2_state_12 : decode cX2_state 12 = .ok (.iload_n 2, 1) := by decide +kernel
theorem dX2_state_13 : decode cX2_state 13 = .ok (.aload_n 0, 1) := by decide +kernel
theorem dX2_state_14 : decode cX2_state 14 = .ok (.getfield 23, 3) := by decide +kernel
theorem dX2_state_17 : decode cX2_state 17 = .ok (.iload_n 3, 1) := by decide +kernel
theorem dX2_state_18 : decode cX2_state 18 = .ok (.iaload, 1) := by decide +kernel
theorem dX2_state_19 : decode cX2_state 19 = .ok (.aload_n 0, 1) := by decide +kernel
theorem dX2_state_20 : decode cX2_state 20 = .ok (.getfield 23, 3) := by decide +kernel
theorem dX2_state_23 : decode cX2_state 23 = .ok (.iload_n 1, 1) := by decide +kernel
theorem dX2_state_24 : decode cX2_state 24 = .ok (.iaload, 1) := by decide +kernel
theorem dX2_state_25 : decode cX2_state 25 = .ok (.if_icmp .ne 7, 3) := by decide +kernel
theorem dX2_state_28 : decode cX2_state 28 = .ok (.iconst 1, 1) := by decide +kernel
theorem dX2_state_29 : decode cX2_state 29 = .ok (.goto 4, 3) := by decide +kernel
theorem dX2_state_32 : decode cX2_state 32 = .ok (.iconst 0, 1) := by decide +kernel
theorem dX2_state_33 : decode cX2_state 33 = .ok (.iadd, 1) := by decide +kernel
theorem dX2_state_34 : decode cX2_state 34 = .ok (.istore_n 2, 1) := by decide +kernel
theorem dX2_state_35 : decode cX2_state 35 = .ok (.iinc 3 1, 3) := by decide +kernel
theorem dX2_state_38 : decode cX2_state 38 = .ok (.goto (-34), 3) := by decide +kernel
theorem dX2_state_41 : decode cX2_state 41 = .ok (.iload_n 2, 1) := by decide +kernel
theorem dX2_state_42 : decode cX2_state 42 = .ok (.iconst 1, 1) := by decide +kernel
theorem dX2_state_43 : decode cX2_state 43 = .ok (.if_icmp .le 7, 3) := by decide +kernel
theorem dX2_state_46 : decode cX2_state 46 = .ok (.iconst 1, 1) := by decide +kernel
theorem dX2_state_47 : decode cX2_state 47 = .ok (.goto 4, 3) := by decide +kernel
theorem dX2_state_50 : decode cX2_state 50 = .ok (.iconst 0, 1) := by decide +kernel
theorem dX2_state_51 : decode cX2_state 51 = .ok (.ireturn, 1) := by decide +kernel
theorem dX2_holds_0 : decode cX2_holds 0 = .ok (.aload_n 0, 1) := by decide +kernel
theorem dX2_holds_1 : decode cX2_holds 1 = .ok (.iload_n 1, 1) := by decide +kernel
theorem dX2_holds_2 : decode cX2_holds 2 = .ok (.lload_n 3, 1) := by decide +kernel
theorem dX2_holds_3 : decode cX2_holds 3 = .ok (.invokevirtual 81, 3) := by decide +kernel
theorem dX2_holds_6 : decode cX2_holds 6 = .ok (.istore 5, 2) := by decide +kernel
theorem dX2_holds_8 : decode cX2_holds 8 = .ok (.iconst 0, 1) := by decide +kernel
theorem dX2_holds_9 : decode cX2_holds 9 = .ok (.istore 6, 2) := by decide +kernel
theorem dX2_holds_11 : decode cX2_holds 11 = .ok (.iconst 0, 1) := by decide +kernel
theorem dX2_holds_12 : decode cX2_holds 12 = .ok (.istore 7, 2) := by decide +kernel
theorem dX2_holds_14 : decode cX2_holds 14 = .ok (.iload 7, 2) := by decide +kernel
theorem dX2_holds_16 : decode cX2_holds 16 = .ok (.aload_n 0, 1) := by decide +kernel
theorem dX2_holds_17 : decode cX2_holds 17 = .ok (.getfield 66, 3) := by decide +kernel
theorem dX2_holds_20 : decode cX2_holds 20 = .ok (.if_icmp .ge 117, 3) := by decide +kernel
theorem dX2_holds_23 : decode cX2_holds 23 = .ok (.iload 6, 2) := by decide +kernel
theorem dX2_holds_25 : decode cX2_holds 25 = .ok (.ifCond .ne 112, 3) := by decide +kernel
theorem dX2_holds_28 : decode cX2_holds 28 = .ok (.aload_n 0, 1) := by decide +kernel
theorem dX2_holds_29 : decode cX2_holds 29 = .ok (.getfield 26, 3) := by decide +kernel
theorem dX2_holds_32 : decode cX2_holds 32 = .ok (.iload 7, 2) := by decide +kernel
theorem dX2_holds_34 : decode cX2_holds 34 = .ok (.iaload, 1) := by decide +kernel
theorem dX2_holds_35 : decode cX2_holds 35 = .ok (.iload_n 1, 1) := by decide +kernel
theorem dX2_holds_36 : decode cX2_holds 36 = .ok (.if_icmp .ne 52, 3) := by decide +kernel
theorem dX2_holds_39 : decode cX2_holds 39 = .ok (.aload_n 0, 1) := by decide +kernel
theorem dX2_holds_40 : decode cX2_holds 40 = .ok (.getfield 32, 3) := by decide +kernel
theorem dX2_holds_43 : decode cX2_holds 43 = .ok (.iload 7, 2) := by decide +kernel
theorem dX2_holds_45 : decode cX2_holds 45 = .ok (.iaload, 1) := by decide +kernel
theorem dX2_holds_46 : decode cX2_holds 46 = .ok (.iconst (-1), 1) := by decide +kernel
theorem dX2_holds_47 : decode cX2_holds 47 = .ok (.if_icmp .ne 41, 3) := by decide +kernel
theorem dX2_holds_50 : decode cX2_holds 50 = .ok (.aload_n 0, 1) := by decide +kernel
theorem dX2_holds_51 : decode cX2_holds 51 = .ok (.getfield 35, 3) := by decide +kernel
theorem dX2_holds_54 : decode cX2_holds 54 = .ok (.iload 7, 2) := by decide +kernel
theorem dX2_holds_56 : decode cX2_holds 56 = .ok (.iaload, 1) := by decide +kernel
theorem dX2_holds_57 : decode cX2_holds 57 = .ok (.iload_n 2, 1) := by decide +kernel
theorem dX2_holds_58 : decode cX2_holds 58 = .ok (.if_icmp .lt 30, 3) := by decide +kernel
theorem dX2_holds_61 : decode cX2_holds 61 = .ok (.aload_n 0, 1) := by decide +kernel
theorem dX2_holds_62 : decode cX2_holds 62 = .ok (.getfield 29, 3) := by decide +kernel
theorem dX2_holds_65 : decode cX2_holds 65 = .ok (.iload 7, 2) := by decide +kernel
theorem dX2_holds_67 : decode cX2_holds 67 = .ok (.laload, 1) := by decide +kernel
theorem dX2_holds_68 : decode cX2_holds 68 = .ok (.lload_n 3, 1) := by decide +kernel
theorem dX2_holds_69 : decode cX2_holds 69 = .ok (.lcmp, 1) := by decide +kernel
theorem dX2_holds_70 : decode cX2_holds 70 = .ok (.ifCond .gt 18, 3) := by decide +kernel
theorem dX2_holds_73 : decode cX2_holds 73 = .ok (.aload_n 0, 1) := by decide +kernel
theorem dX2_holds_74 : decode cX2_holds 74 = .ok (.iload 7, 2) := by decide +kernel
theorem dX2_holds_76 : decode cX2_holds 76 = .ok (.iload 5, 2) := by decide +kernel
theorem dX2_holds_78 : decode cX2_holds 78 = .ok (.invokevirtual 85, 3) := by decide +kernel
theorem dX2_holds_81 : decode cX2_holds 81 = .ok (.ifCond .eq 7, 3) := by decide +kernel
theorem dX2_holds_84 : decode cX2_holds 84 = .ok (.iconst 1, 1) := by decide +kernel
theorem dX2_holds_85 : decode cX2_holds 85 = .ok (.goto 4, 3) := by decide +kernel
theorem dX2_holds_88 : decode cX2_holds 88 = .ok (.iconst 0, 1) := by decide +kernel
theorem dX2_holds_89 : decode cX2_holds 89 = .ok (.istore 8, 2) := by decide +kernel
theorem dX2_holds_91 : decode cX2_holds 91 = .ok (.iload 8, 2) := by decide +kernel
theorem dX2_holds_93 : decode cX2_holds 93 = .ok (.ifCond .eq 35, 3) := by decide +kernel
theorem dX2_holds_96 : decode cX2_holds 96 = .ok (.lload_n 3, 1) := by decide +kernel
theorem dX2_holds_97 : decode cX2_holds 97 = .ok (.aload_n 0, 1) := by decide +kernel
theorem dX2_holds_98 : decode cX2_holds 98 = .ok (.getfield 29, 3) := by decide +kernel
theorem dX2_holds_101 : decode cX2_holds 101 = .ok (.iload 7, 2) := by decide +kernel
theorem dX2_holds_103 : decode cX2_holds 103 = .ok (.laload, 1) := by decide +kernel
theorem dX2_holds_104 : decode cX2_holds 104 = .ok (.lsub, 1) := by decide +kernel
theorem dX2_holds_105 : decode cX2_holds 105 = .ok (.aload_n 0, 1) := by decide +kernel
theorem dX2_holds_106 : decode cX2_holds 106 = .ok (.getfield 16, 3) := by decide +kernel
theorem dX2_holds_109 : decode cX2_holds 109 = .ok (.iconst 2, 1) := by decide +kernel
theorem dX2_holds_110 : decode cX2_holds 110 = .ok (.iload_n 2, 1) := by decide +kernel
theorem dX2_holds_111 : decode cX2_holds 111 = .ok (.imul, 1) := by decide +kernel
theorem dX2_holds_112 : decode cX2_holds 112 = .ok (.aload_n 0, 1) := by decide +kernel
theorem dX2_holds_113 : decode cX2_holds 113 = .ok (.iload_n 1, 1) := by decide +kernel
theorem dX2_holds_114 : decode cX2_holds 114 = .ok (.invokevirtual 89, 3) := by decide +kernel
theorem dX2_holds_117 : decode cX2_holds 117 = .ok (.iadd, 1) := by decide +kernel
theorem dX2_holds_118 : decode cX2_holds 118 = .ok (.iaload, 1) := by decide +kernel
theorem dX2_holds_119 : decode cX2_holds 119 = .ok (.i2l, 1) := by decide +kernel
theorem dX2_holds_120 : decode cX2_holds 120 = .ok (.lcmp, 1) := by decide +kernel
theorem dX2_holds_121 : decode cX2_holds 121 = .ok (.ifCond .ge 7, 3) := by decide +kernel
theorem dX2_holds_124 : decode cX2_holds 124 = .ok (.iconst 1, 1) := by decide +kernel
theorem dX2_holds_125 : decode cX2_holds 125 = .ok (.goto 4, 3) := by decide +kernel
theorem dX2_holds_128 : decode cX2_holds 128 = .ok (.iconst 0, 1) := by decide +kernel
theorem dX2_holds_129 : decode cX2_holds 129 = .ok (.istore 6, 2) := by decide +kernel
theorem dX2_holds_131 : decode cX2_holds 131 = .ok (.iinc 7 1, 3) := by decide +kernel
theorem dX2_holds_134 : decode cX2_holds 134 = .ok (.goto (-120), 3) := by decide +kernel
theorem dX2_holds_137 : decode cX2_holds 137 = .ok (.iload 6, 2) := by decide +kernel
theorem dX2_holds_139 : decode cX2_holds 139 = .ok (.ireturn, 1) := by decide +kernel
theorem dX2_levelOf_0 : decode cX2_levelOf 0 = .ok (.aload_n 0, 1) := by decide +kernel
theorem dX2_levelOf_1 : decode cX2_levelOf 1 = .ok (.getfield 46, 3) := by decide +kernel
theorem dX2_levelOf_4 : decode cX2_levelOf 4 = .ok (.istore 4, 2) := by decide +kernel
theorem dX2_levelOf_6 : decode cX2_levelOf 6 = .ok (.iload 4, 2) := by decide +kernel
theorem dX2_levelOf_8 : decode cX2_levelOf 8 = .ok (.ifCond .le 20, 3) := by decide +kernel
theorem dX2_levelOf_11 : decode cX2_levelOf 11 = .ok (.aload_n 0, 1) := by decide +kernel
theorem dX2_levelOf_12 : decode cX2_levelOf 12 = .ok (.iload_n 1, 1) := by decide +kernel
theorem dX2_levelOf_13 : decode cX2_levelOf 13 = .ok (.iload 4, 2) := by decide +kernel
theorem dX2_levelOf_15 : decode cX2_levelOf 15 = .ok (.lload_n 2, 1) := by decide +kernel
theorem dX2_levelOf_16 : decode cX2_levelOf 16 = .ok (.invokevirtual 93, 3) := by decide +kernel
theorem dX2_levelOf_19 : decode cX2_levelOf 19 = .ok (.ifCond .ne 9, 3) := by decide +kernel
theorem dX2_levelOf_22 : decode cX2_levelOf 22 = .ok (.iinc 4 (-1), 3) := by decide +kernel
theorem dX2_levelOf_25 : decode cX2_levelOf 25 = .ok (.goto (-19), 3) := by decide +kernel
theorem dX2_levelOf_28 : decode cX2_levelOf 28 = .ok (.iload 4, 2) := by decide +kernel
theorem dX2_levelOf_30 : decode cX2_levelOf 30 = .ok (.ireturn, 1) := by decide +kernel
theorem dX2_levelOfGroup_0 : decode cX2_levelOfGroup 0 = .ok (.aload_n 0, 1) := by decide +kernel
theorem dX2_levelOfGroup_1 : decode cX2_levelOfGroup 1 = .ok (.getfield 46, 3) := by decide +kernel
theorem dX2_levelOfGroup_4 : decode cX2_levelOfGroup 4 = .ok (.istore 4, 2) := by decide +kernel
theorem dX2_levelOfGroup_6 : decode cX2_levelOfGroup 6 = .ok (.iconst 0, 1) := by decide +kernel
theorem dX2_levelOfGroup_7 : decode cX2_levelOfGroup 7 = .ok (.istore 5, 2) := by decide +kernel
theorem dX2_levelOfGroup_9 : decode cX2_levelOfGroup 9 = .ok (.iload 5, 2) := by decide +kernel
theorem dX2_levelOfGroup_11 : decode cX2_levelOfGroup 11 = .ok (.aload_n 0, 1) := by decide +kernel
theorem dX2_levelOfGroup_12 : decode cX2_levelOfGroup 12 = .ok (.getfield 49, 3) := by decide +kernel
theorem dX2_levelOfGroup_15 : decode cX2_levelOfGroup 15 = .ok (.if_icmp .ge 55, 3) := by decide +kernel
theorem dX2_levelOfGroup_18 : decode cX2_levelOfGroup 18 = .ok (.aload_n 0, 1) := by decide +kernel
theorem dX2_levelOfGroup_19 : decode cX2_levelOfGroup 19 = .ok (.getfield 23, 3) := by decide +kernel
theorem dX2_levelOfGroup_22 : decode cX2_levelOfGroup 22 = .ok (.iload 5, 2) := by decide +kernel
theorem dX2_levelOfGroup_24 : decode cX2_levelOfGroup 24 = .ok (.iaload, 1) := by decide +kernel
theorem dX2_levelOfGroup_25 : decode cX2_levelOfGroup 25 = .ok (.aload_n 0, 1) := by decide +kernel
theorem dX2_levelOfGroup_26 : decode cX2_levelOfGroup 26 = .ok (.getfield 23, 3) := by decide +kernel
theorem dX2_levelOfGroup_29 : decode cX2_levelOfGroup 29 = .ok (.iload_n 1, 1) := by decide +kernel
theorem dX2_levelOfGroup_30 : decode cX2_levelOfGroup 30 = .ok (.iaload, 1) := by decide +kernel
theorem dX2_levelOfGroup_31 : decode cX2_levelOfGroup 31 = .ok (.if_icmp .ne 13, 3) := by decide +kernel
theorem dX2_levelOfGroup_34 : decode cX2_levelOfGroup 34 = .ok (.aload_n 0, 1) := by decide +kernel
theorem dX2_levelOfGroup_35 : decode cX2_levelOfGroup 35 = .ok (.iload 5, 2) := by decide +kernel
theorem dX2_levelOfGroup_37 : decode cX2_levelOfGroup 37 = .ok (.lload_n 2, 1) := by decide +kernel
theorem dX2_levelOfGroup_38 : decode cX2_levelOfGroup 38 = .ok (.invokevirtual 97, 3) := by decide +kernel
theorem dX2_levelOfGroup_41 : decode cX2_levelOfGroup 41 = .ok (.goto 5, 3) := by decide +kernel
theorem dX2_levelOfGroup_44 : decode cX2_levelOfGroup 44 = .ok (.iload 4, 2) := by decide +kernel
theorem dX2_levelOfGroup_46 : decode cX2_levelOfGroup 46 = .ok (.istore 6, 2) := by decide +kernel
theorem dX2_levelOfGroup_48 : decode cX2_levelOfGroup 48 = .ok (.iload 6, 2) := by decide +kernel
theorem dX2_levelOfGroup_50 : decode cX2_levelOfGroup 50 = .ok (.iload 4, 2) := by decide +kernel
theorem dX2_levelOfGroup_52 : decode cX2_levelOfGroup 52 = .ok (.if_icmp .ge 8, 3) := by decide +kernel
theorem dX2_levelOfGroup_55 : decode cX2_levelOfGroup 55 = .ok (.iload 6, 2) := by decide +kernel
theorem dX2_levelOfGroup_57 : decode cX2_levelOfGroup 57 = .ok (.goto 5, 3) := by decide +kernel
theorem dX2_levelOfGroup_60 : decode cX2_levelOfGroup 60 = .ok (.iload 4, 2) := by decide +kernel
theorem dX2_levelOfGroup_62 : decode cX2_levelOfGroup 62 = .ok (.istore 4, 2) := by decide +kernel
theorem dX2_levelOfGroup_64 : decode cX2_levelOfGroup 64 = .ok (.iinc 5 1, 3) := by decide +kernel
theorem dX2_levelOfGroup_67 : decode cX2_levelOfGroup 67 = .ok (.goto (-58), 3) := by decide +kernel
theorem dX2_levelOfGroup_70 : decode cX2_levelOfGroup 70 = .ok (.iload 4, 2) := by decide +kernel
theorem dX2_levelOfGroup_72 : decode cX2_levelOfGroup 72 = .ok (.ireturn, 1) := by decide +kernel
theorem dX2_needed_0 : decode cX2_needed 0 = .ok (.iconst 0, 1) := by decide +kernel
theorem dX2_needed_1 : decode cX2_needed 1 = .ok (.istore 5, 2) := by decide +kernel
theorem dX2_needed_3 : decode cX2_needed 3 = .ok (.iconst 0, 1) := by decide +kernel
theorem dX2_needed_4 : decode cX2_needed 4 = .ok (.istore 6, 2) := by decide +kernel
theorem dX2_needed_6 : decode cX2_needed 6 = .ok (.iload 6, 2) := by decide +kernel
theorem dX2_needed_8 : decode cX2_needed 8 = .ok (.aload_n 0, 1) := by decide +kernel
theorem dX2_needed_9 : decode cX2_needed 9 = .ok (.getfield 49, 3) := by decide +kernel
theorem dX2_needed_12 : decode cX2_needed 12 = .ok (.if_icmp .ge 147, 3) := by decide +kernel
theorem dX2_needed_15 : decode cX2_needed 15 = .ok (.aload_n 0, 1) := by decide +kernel
theorem dX2_needed_16 : decode cX2_needed 16 = .ok (.getfield 23, 3) := by decide +kernel
theorem dX2_needed_19 : decode cX2_needed 19 = .ok (.iload 6, 2) := by decide +kernel
theorem dX2_needed_21 : decode cX2_needed 21 = .ok (.iaload, 1) := by decide +kernel
theorem dX2_needed_22 : decode cX2_needed 22 = .ok (.aload_n 0, 1) := by decide +kernel
theorem dX2_needed_23 : decode cX2_needed 23 = .ok (.getfield 23, 3) := by decide +kernel
theorem dX2_needed_26 : decode cX2_needed 26 = .ok (.iload_n 1, 1) := by decide +kernel
theorem dX2_needed_27 : decode cX2_needed 27 = .ok (.iaload, 1) := by decide +kernel
theorem dX2_needed_28 : decode cX2_needed 28 = .ok (.if_icmp .ne 13, 3) := by decide +kernel
theorem dX2_needed_31 : decode cX2_needed 31 = .ok (.aload_n 0, 1) := by decide +kernel
theorem dX2_needed_32 : decode cX2_needed 32 = .ok (.iload 6, 2) := by decide +kernel
theorem dX2_needed_34 : decode cX2_needed 34 = .ok (.lload_n 3, 1) := by decide +kernel
theorem dX2_needed_35 : decode cX2_needed 35 = .ok (.invokevirtual 81, 3) := by decide +kernel
theorem dX2_needed_38 : decode cX2_needed 38 = .ok (.goto 4, 3) := by decide +kernel
theorem dX2_needed_41 : decode cX2_needed 41 = .ok (.iconst (-1), 1) := by decide +kernel
theorem dX2_needed_42 : decode cX2_needed 42 = .ok (.istore 7, 2) := by decide +kernel
theorem dX2_needed_44 : decode cX2_needed 44 = .ok (.iload 7, 2) := by decide +kernel
theorem dX2_needed_46 : decode cX2_needed 46 = .ok (.iconst (-1), 1) := by decide +kernel
theorem dX2_needed_47 : decode cX2_needed 47 = .ok (.if_icmp .eq 106, 3) := by decide +kernel
theorem dX2_needed_50 : decode cX2_needed 50 = .ok (.aload_n 0, 1) := by decide +kernel
theorem dX2_needed_51 : decode cX2_needed 51 = .ok (.getfield 32, 3) := by decide +kernel
theorem dX2_needed_54 : decode cX2_needed 54 = .ok (.iload 7, 2) := by decide +kernel
theorem dX2_needed_56 : decode cX2_needed 56 = .ok (.iaload, 1) := by decide +kernel
theorem dX2_needed_57 : decode cX2_needed 57 = .ok (.istore 8, 2) := by decide +kernel
theorem dX2_needed_59 : decode cX2_needed 59 = .ok (.aload_n 0, 1) := by decide +kernel
theorem dX2_needed_60 : decode cX2_needed 60 = .ok (.iload_n 2, 1) := by decide +kernel
theorem dX2_needed_61 : decode cX2_needed 61 = .ok (.invokevirtual 54, 3) := by decide +kernel
theorem dX2_needed_64 : decode cX2_needed 64 = .ok (.ifCond .eq 18, 3) := by decide +kernel
theorem dX2_needed_67 : decode cX2_needed 67 = .ok (.aload_n 0, 1) := by decide +kernel
theorem dX2_needed_68 : decode cX2_needed 68 = .ok (.getfield 9, 3) := by decide +kernel
theorem dX2_needed_71 : decode cX2_needed 71 = .ok (.iload 8, 2) := by decide +kernel
theorem dX2_needed_73 : decode cX2_needed 73 = .ok (.bipush 20, 2) := by decide +kernel
theorem dX2_needed_75 : decode cX2_needed 75 = .ok (.imul, 1) := by decide +kernel
theorem dX2_needed_76 : decode cX2_needed 76 = .ok (.iload_n 2, 1) := by decide +kernel
theorem dX2_needed_77 : decode cX2_needed 77 = .ok (.iadd, 1) := by decide +kernel
theorem dX2_needed_78 : decode cX2_needed 78 = .ok (.iaload, 1) := by decide +kernel
theorem dX2_needed_79 : decode cX2_needed 79 = .ok (.goto 4, 3) := by decide +kernel
theorem dX2_needed_82 : decode cX2_needed 82 = .ok (.iconst (-1), 1) := by decide +kernel
theorem dX2_needed_83 : decode cX2_needed 83 = .ok (.istore 9, 2) := by decide +kernel
theorem dX2_needed_85 : decode cX2_needed 85 = .ok (.aload_n 0, 1) := by decide +kernel
theorem dX2_needed_86 : decode cX2_needed 86 = .ok (.iload_n 2, 1) := by decide +kernel
theorem dX2_needed_87 : decode cX2_needed 87 = .ok (.invokevirtual 54, 3) := by decide +kernel
theorem dX2_needed_90 : decode cX2_needed 90 = .ok (.ifCond .eq 12, 3) := by decide +kernel
theorem dX2_needed_93 : decode cX2_needed 93 = .ok (.aload_n 0, 1) := by decide +kernel
theorem dX2_needed_94 : decode cX2_needed 94 = .ok (.getfield 13, 3) := by decide +kernel
theorem dX2_needed_97 : decode cX2_needed 97 = .ok (.iload_n 2, 1) := by decide +kernel
theorem dX2_needed_98 : decode cX2_needed 98 = .ok (.iaload, 1) := by decide +kernel
theorem dX2_needed_99 : decode cX2_needed 99 = .ok (.goto 4, 3) := by decide +kernel
theorem dX2_needed_102 : decode cX2_needed 102 = .ok (.iconst 0, 1) := by decide +kernel
theorem dX2_needed_103 : decode cX2_needed 103 = .ok (.istore 10, 2) := by decide +kernel
theorem dX2_needed_105 : decode cX2_needed 105 = .ok (.iload 9, 2) := by decide +kernel
theorem dX2_needed_107 : decode cX2_needed 107 = .ok (.iconst (-1), 1) := by decide +kernel
theorem dX2_needed_108 : decode cX2_needed 108 = .ok (.if_icmp .eq 18, 3) := by decide +kernel
theorem dX2_needed_111 : decode cX2_needed 111 = .ok (.aload_n 0, 1) := by decide +kernel
theorem dX2_needed_112 : decode cX2_needed 112 = .ok (.getfield 13, 3) := by decide +kernel
theorem dX2_needed_115 : decode cX2_needed 115 = .ok (.iload 8, 2) := by decide +kernel
theorem dX2_needed_117 : decode cX2_needed 117 = .ok (.iaload, 1) := by decide +kernel
theorem dX2_needed_118 : decode cX2_needed 118 = .ok (.iload 10, 2) := by decide +kernel
theorem dX2_needed_120 : decode cX2_needed 120 = .ok (.iconst (-1), 1) := by decide +kernel
theorem dX2_needed_121 : decode cX2_needed 121 = .ok (.ixor, 1) := by decide +kernel
theorem dX2_needed_122 : decode cX2_needed 122 = .ok (.iand, 1) := by decide +kernel
theorem dX2_needed_123 : decode cX2_needed 123 = .ok (.ifCond .eq 10, 3) := by decide +kernel
theorem dX2_needed_126 : decode cX2_needed 126 = .ok (.aload_n 0, 1) := by decide +kernel
theorem dX2_needed_127 : decode cX2_needed 127 = .ok (.getfield 46, 3) := by decide +kernel
theorem dX2_needed_130 : decode cX2_needed 130 = .ok (.goto 5, 3) := by decide +kernel
theorem dX2_needed_133 : decode cX2_needed 133 = .ok (.iload 9, 2) := by decide +kernel
theorem dX2_needed_135 : decode cX2_needed 135 = .ok (.istore 11, 2) := by decide +kernel
theorem dX2_needed_137 : decode cX2_needed 137 = .ok (.iload 11, 2) := by decide +kernel
theorem dX2_needed_139 : decode cX2_needed 139 = .ok (.iload 5, 2) := by decide +kernel
theorem dX2_needed_141 : decode cX2_needed 141 = .ok (.if_icmp .le 8, 3) := by decide +kernel
theorem dX2_needed_144 : decode cX2_needed 144 = .ok (.iload 11, 2) := by decide +kernel
theorem dX2_needed_146 : decode cX2_needed 146 = .ok (.goto 5, 3) := by decide +kernel
theorem dX2_needed_149 : decode cX2_needed 149 = .ok (.iload 5, 2) := by decide +kernel
theorem dX2_needed_151 : decode cX2_needed 151 = .ok (.istore 5, 2) := by decide +kernel
theorem dX2_needed_153 : decode cX2_needed 153 = .ok (.iinc 6 1, 3) := by decide +kernel
theorem dX2_needed_156 : decode cX2_needed 156 = .ok (.goto (-150), 3) := by decide +kernel
theorem dX2_needed_159 : decode cX2_needed 159 = .ok (.iload 5, 2) := by decide +kernel
theorem dX2_needed_161 : decode cX2_needed 161 = .ok (.ireturn, 1) := by decide +kernel
theorem dX2_may_0 : decode cX2_may 0 = .ok (.aload_n 0, 1) := by decide +kernel
theorem dX2_may_1 : decode cX2_may 1 = .ok (.iload_n 1, 1) := by decide +kernel
theorem dX2_may_2 : decode cX2_may 2 = .ok (.invokevirtual 63, 3) := by decide +kernel
theorem dX2_may_5 : decode cX2_may 5 = .ok (.ifCond .eq 10, 3) := by decide +kernel
theorem dX2_may_8 : decode cX2_may 8 = .ok (.lload_n 3, 1) := by decide +kernel
theorem dX2_may_9 : decode cX2_may 9 = .ok (.invokestatic 69, 3) := by decide +kernel
theorem dX2_may_12 : decode cX2_may 12 = .ok (.ifCond .ne 5, 3) := by decide +kernel
theorem dX2_may_15 : decode cX2_may 15 = .ok (.iconst (-1), 1) := by decide +kernel
theorem dX2_may_16 : decode cX2_may 16 = .ok (.ireturn, 1) := by decide +kernel
theorem dX2_may_17 : decode cX2_may 17 = .ok (.aload_n 0, 1) := by decide +kernel
theorem dX2_may_18 : decode cX2_may 18 = .ok (.iload_n 1, 1) := by decide +kernel
theorem dX2_may_19 : decode cX2_may 19 = .ok (.lload_n 3, 1) := by decide +kernel
theorem dX2_may_20 : decode cX2_may 20 = .ok (.invokevirtual 100, 3) := by decide +kernel
theorem dX2_may_23 : decode cX2_may 23 = .ok (.aload_n 0, 1) := by decide +kernel
theorem dX2_may_24 : decode cX2_may 24 = .ok (.iload_n 1, 1) := by decide +kernel
theorem dX2_may_25 : decode cX2_may 25 = .ok (.iload_n 2, 1) := by decide +kernel
theorem dX2_may_26 : decode cX2_may 26 = .ok (.lload_n 3, 1) := by decide +kernel
theorem dX2_may_27 : decode cX2_may 27 = .ok (.invokevirtual 103, 3) := by decide +kernel
theorem dX2_may_30 : decode cX2_may 30 = .ok (.if_icmp .lt 7, 3) := by decide +kernel
theorem dX2_may_33 : decode cX2_may 33 = .ok (.iconst 1, 1) := by decide +kernel
theorem dX2_may_34 : decode cX2_may 34 = .ok (.goto 4, 3) := by decide +kernel
theorem dX2_may_37 : decode cX2_may 37 = .ok (.iconst 0, 1) := by decide +kernel
theorem dX2_may_38 : decode cX2_may 38 = .ok (.ireturn, 1) := by decide +kernel
theorem dX2_least_0 : decode cX2_least 0 = .ok (.aload_n 0, 1) := by decide +kernel
theorem dX2_least_1 : decode cX2_least 1 = .ok (.iload_n 1, 1) := by decide +kernel
theorem dX2_least_2 : decode cX2_least 2 = .ok (.invokevirtual 63, 3) := by decide +kernel
theorem dX2_least_5 : decode cX2_least 5 = .ok (.ifCond .eq 10, 3) := by decide +kernel
theorem dX2_least_8 : decode cX2_least 8 = .ok (.lload_n 3, 1) := by decide +kernel
theorem dX2_least_9 : decode cX2_least 9 = .ok (.invokestatic 69, 3) := by decide +kernel
theorem dX2_least_12 : decode cX2_least 12 = .ok (.ifCond .ne 5, 3) := by decide +kernel
theorem dX2_least_15 : decode cX2_least 15 = .ok (.iconst (-1), 1) := by decide +kernel
theorem dX2_least_16 : decode cX2_least 16 = .ok (.ireturn, 1) := by decide +kernel
theorem dX2_least_17 : decode cX2_least 17 = .ok (.aload_n 0, 1) := by decide +kernel
theorem dX2_least_18 : decode cX2_least 18 = .ok (.iload_n 1, 1) := by decide +kernel
theorem dX2_least_19 : decode cX2_least 19 = .ok (.iload_n 2, 1) := by decide +kernel
theorem dX2_least_20 : decode cX2_least 20 = .ok (.lload_n 3, 1) := by decide +kernel
theorem dX2_least_21 : decode cX2_least 21 = .ok (.invokevirtual 103, 3) := by decide +kernel
theorem dX2_least_24 : decode cX2_least 24 = .ok (.istore 5, 2) := by decide +kernel
theorem dX2_least_26 : decode cX2_least 26 = .ok (.aload_n 0, 1) := by decide +kernel
theorem dX2_least_27 : decode cX2_least 27 = .ok (.iload_n 1, 1) := by decide +kernel
theorem dX2_least_28 : decode cX2_least 28 = .ok (.lload_n 3, 1) := by decide +kernel
theorem dX2_least_29 : decode cX2_least 29 = .ok (.invokevirtual 100, 3) := by decide +kernel
theorem dX2_least_32 : decode cX2_least 32 = .ok (.iload 5, 2) := by decide +kernel
theorem dX2_least_34 : decode cX2_least 34 = .ok (.if_icmp .lt 5, 3) := by decide +kernel
theorem dX2_least_37 : decode cX2_least 37 = .ok (.iconst 0, 1) := by decide +kernel
theorem dX2_least_38 : decode cX2_least 38 = .ok (.ireturn, 1) := by decide +kernel
theorem dX2_least_39 : decode cX2_least 39 = .ok (.iload 5, 2) := by decide +kernel
theorem dX2_least_41 : decode cX2_least 41 = .ok (.istore 6, 2) := by decide +kernel
theorem dX2_least_43 : decode cX2_least 43 = .ok (.iload 5, 2) := by decide +kernel
theorem dX2_least_45 : decode cX2_least 45 = .ok (.istore 7, 2) := by decide +kernel
theorem dX2_least_47 : decode cX2_least 47 = .ok (.iload 7, 2) := by decide +kernel
theorem dX2_least_49 : decode cX2_least 49 = .ok (.aload_n 0, 1) := by decide +kernel
theorem dX2_least_50 : decode cX2_least 50 = .ok (.getfield 46, 3) := by decide +kernel
theorem dX2_least_53 : decode cX2_least 53 = .ok (.if_icmp .gt 36, 3) := by decide +kernel
theorem dX2_least_56 : decode cX2_least 56 = .ok (.aload_n 0, 1) := by decide +kernel
theorem dX2_least_57 : decode cX2_least 57 = .ok (.getfield 19, 3) := by decide +kernel
theorem dX2_least_60 : decode cX2_least 60 = .ok (.iload 7, 2) := by decide +kernel
theorem dX2_least_62 : decode cX2_least 62 = .ok (.laload, 1) := by decide +kernel
theorem dX2_least_63 : decode cX2_least 63 = .ok (.aload_n 0, 1) := by decide +kernel
theorem dX2_least_64 : decode cX2_least 64 = .ok (.getfield 19, 3) := by decide +kernel
theorem dX2_least_67 : decode cX2_least 67 = .ok (.iload 6, 2) := by decide +kernel
theorem dX2_least_69 : decode cX2_least 69 = .ok (.laload, 1) := by decide +kernel
theorem dX2_least_70 : decode cX2_least 70 = .ok (.lcmp, 1) := by decide +kernel
theorem dX2_least_71 : decode cX2_least 71 = .ok (.ifCond .ge 8, 3) := by decide +kernel
theorem dX2_least_74 : decode cX2_least 74 = .ok (.iload 7, 2) := by decide +kernel
theorem dX2_least_76 : decode cX2_least 76 = .ok (.goto 5, 3) := by decide +kernel
theorem dX2_least_79 : decode cX2_least 79 = .ok (.iload 6, 2) := by decide +kernel
theorem dX2_least_81 : decode cX2_least 81 = .ok (.istore 6, 2) := by decide +kernel
theorem dX2_least_83 : decode cX2_least 83 = .ok (.iinc 7 1, 3) := by decide +kernel
theorem dX2_least_86 : decode cX2_least 86 = .ok (.goto (-39), 3) := by decide +kernel
theorem dX2_least_89 : decode cX2_least 89 = .ok (.iload 6, 2) := by decide +kernel
theorem dX2_least_91 : decode cX2_least 91 = .ok (.ireturn, 1) := by decide +kernel
theorem dX2_level_0 : decode cX2_level 0 = .ok (.aload_n 0, 1) := by decide +kernel
theorem dX2_level_1 : decode cX2_level 1 = .ok (.iload_n 1, 1) := by decide +kernel
theorem dX2_level_2 : decode cX2_level 2 = .ok (.invokevirtual 63, 3) := by decide +kernel
theorem dX2_level_5 : decode cX2_level 5 = .ok (.ifCond .eq 19, 3) := by decide +kernel
theorem dX2_level_8 : decode cX2_level 8 = .ok (.lload_n 2, 1) := by decide +kernel
theorem dX2_level_9 : decode cX2_level 9 = .ok (.invokestatic 69, 3) := by decide +kernel
theorem dX2_level_12 : decode cX2_level 12 = .ok (.ifCond .eq 12, 3) := by decide +kernel
theorem dX2_level_15 : decode cX2_level 15 = .ok (.aload_n 0, 1) := by decide +kernel
theorem dX2_level_16 : decode cX2_level 16 = .ok (.iload_n 1, 1) := by decide +kernel
theorem dX2_level_17 : decode cX2_level 17 = .ok (.lload_n 2, 1) := by decide +kernel
theorem dX2_level_18 : decode cX2_level 18 = .ok (.invokevirtual 100, 3) := by decide +kernel
theorem dX2_level_21 : decode cX2_level 21 = .ok (.goto 4, 3) := by decide +kernel
theorem dX2_level_24 : decode cX2_level 24 = .ok (.iconst (-1), 1) := by decide +kernel
theorem dX2_level_25 : decode cX2_level 25 = .ok (.ireturn, 1) := by decide +kernel
