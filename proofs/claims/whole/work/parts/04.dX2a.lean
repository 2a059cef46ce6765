theorem dX2_init_0 : decode cX2_init 0 = .ok (.aload_n 0, 1) := by decide +kernel
theorem dX2_init_1 : decode cX2_init 1 = .ok (.invokespecial 1, 3) := by decide +kernel
theorem dX2_init_4 : decode cX2_init 4 = .ok (.aload_n 0, 1) := by decide +kernel
theorem dX2_init_5 : decode cX2_init 5 = .ok (.sipush 400, 3) := by decide +kernel
theorem dX2_init_8 : decode cX2_init 8 = .ok (.newarray .int, 2) := by decide +kernel
theorem dX2_init_10 : decode cX2_init 10 = .ok (.putfield 9, 3) := by decide +kernel
theorem dX2_init_13 : decode cX2_init 13 = .ok (.aload_n 0, 1) := by decide +kernel
theorem dX2_init_14 : decode cX2_init 14 = .ok (.bipush 20, 2) := by decide +kernel
theorem dX2_init_16 : decode cX2_init 16 = .ok (.newarray .int, 2) := by decide +kernel
theorem dX2_init_18 : decode cX2_init 18 = .ok (.putfield 13, 3) := by decide +kernel
theorem dX2_init_21 : decode cX2_init 21 = .ok (.aload_n 0, 1) := by decide +kernel
theorem dX2_init_22 : decode cX2_init 22 = .ok (.bipush 20, 2) := by decide +kernel
theorem dX2_init_24 : decode cX2_init 24 = .ok (.newarray .int, 2) := by decide +kernel
theorem dX2_init_26 : decode cX2_init 26 = .ok (.putfield 16, 3) := by decide +kernel
theorem dX2_init_29 : decode cX2_init 29 = .ok (.aload_n 0, 1) := by decide +kernel
theorem dX2_init_30 : decode cX2_init 30 = .ok (.bipush 10, 2) := by decide +kernel
theorem dX2_init_32 : decode cX2_init 32 = .ok (.newarray .long, 2) := by decide +kernel
theorem dX2_init_34 : decode cX2_init 34 = .ok (.putfield 19, 3) := by decide +kernel
theorem dX2_init_37 : decode cX2_init 37 = .ok (.aload_n 0, 1) := by decide +kernel
theorem dX2_init_38 : decode cX2_init 38 = .ok (.bipush 32, 2) := by decide +kernel
theorem dX2_init_40 : decode cX2_init 40 = .ok (.newarray .int, 2) := by decide +kernel
theorem dX2_init_42 : decode cX2_init 42 = .ok (.putfield 23, 3) := by decide +kernel
theorem dX2_init_45 : decode cX2_init 45 = .ok (.aload_n 0, 1) := by decide +kernel
theorem dX2_init_46 : decode cX2_init 46 = .ok (.sipush 200, 3) := by decide +kernel
theorem dX2_init_49 : decode cX2_init 49 = .ok (.newarray .int, 2) := by decide +kernel
theorem dX2_init_51 : decode cX2_init 51 = .ok (.putfield 26, 3) := by decide +kernel
theorem dX2_init_54 : decode cX2_init 54 = .ok (.aload_n 0, 1) := by decide +kernel
theorem dX2_init_55 : decode cX2_init 55 = .ok (.sipush 200, 3) := by decide +kernel
theorem dX2_init_58 : decode cX2_init 58 = .ok (.newarray .long, 2) := by decide +kernel
theorem dX2_init_60 : decode cX2_init 60 = .ok (.putfield 29, 3) := by decide +kernel
theorem dX2_init_63 : decode cX2_init 63 = .ok (.aload_n 0, 1) := by decide +kernel
theorem dX2_init_64 : decode cX2_init 64 = .ok (.sipush 200, 3) := by decide +kernel
theorem dX2_init_67 : decode cX2_init 67 = .ok (.newarray .int, 2) := by decide +kernel
theorem dX2_init_69 : decode cX2_init 69 = .ok (.putfield 32, 3) := by decide +kernel
theorem dX2_init_72 : decode cX2_init 72 = .ok (.aload_n 0, 1) := by decide +kernel
theorem dX2_init_73 : decode cX2_init 73 = .ok (.sipush 200, 3) := by decide +kernel
theorem dX2_init_76 : decode cX2_init 76 = .ok (.newarray .int, 2) := by decide +kernel
theorem dX2_init_78 : decode cX2_init 78 = .ok (.putfield 35, 3) := by decide +kernel
theorem dX2_init_81 : decode cX2_init 81 = .ok (.aload_n 0, 1) := by decide +kernel
theorem dX2_init_82 : decode cX2_init 82 = .ok (.sipush 200, 3) := by decide +kernel
theorem dX2_init_85 : decode cX2_init 85 = .ok (.newarray .boolean, 2) := by decide +kernel
theorem dX2_init_87 : decode cX2_init 87 = .ok (.putfield 38, 3) := by decide +kernel
theorem dX2_init_90 : decode cX2_init 90 = .ok (.aload_n 0, 1) := by decide +kernel
theorem dX2_init_91 : decode cX2_init 91 = .ok (.iload_n 1, 1) := by decide +kernel
theorem dX2_init_92 : decode cX2_init 92 = .ok (.iconst 1, 1) := by decide +kernel
theorem dX2_init_93 : decode cX2_init 93 = .ok (.if_icmp .ge 7, 3) := by decide +kernel
theorem dX2_init_96 : decode cX2_init 96 = .ok (.iconst 1, 1) := by decide +kernel
theorem dX2_init_97 : decode cX2_init 97 = .ok (.goto 15, 3) := by decide +kernel
theorem dX2_init_100 : decode cX2_init 100 = .ok (.iload_n 1, 1) := by decide +kernel
theorem dX2_init_101 : decode cX2_init 101 = .ok (.bipush 20, 2) := by decide +kernel
theorem dX2_init_103 : decode cX2_init 103 = .ok (.if_icmp .le 8, 3) := by decide +kernel
theorem dX2_init_106 : decode cX2_init 106 = .ok (.bipush 20, 2) := by decide +kernel
theorem dX2_init_108 : decode cX2_init 108 = .ok (.goto 4, 3) := by decide +kernel
theorem dX2_init_111 : decode cX2_init 111 = .ok (.iload_n 1, 1) := by decide +kernel
theorem dX2_init_112 : decode cX2_init 112 = .ok (.putfield 42, 3) := by decide +kernel
theorem dX2_init_115 : decode cX2_init 115 = .ok (.aload_n 0, 1) := by decide +kernel
theorem dX2_init_116 : decode cX2_init 116 = .ok (.iload_n 2, 1) := by decide +kernel
theorem dX2_init_117 : decode cX2_init 117 = .ok (.iconst 1, 1) := by decide +kernel
theorem dX2_init_118 : decode cX2_init 118 = .ok (.if_icmp .ge 7, 3) := by decide +kernel
theorem dX2_init_121 : decode cX2_init 121 = .ok (.iconst 1, 1) := by decide +kernel
theorem dX2_init_122 : decode cX2_init 122 = .ok (.goto 15, 3) := by decide +kernel
theorem dX2_init_125 : decode cX2_init 125 = .ok (.iload_n 2, 1) := by decide +kernel
theorem dX2_init_126 : decode cX2_init 126 = .ok (.bipush 9, 2) := by decide +kernel
theorem dX2_init_128 : decode cX2_init 128 = .ok (.if_icmp .le 8, 3) := by decide +kernel
theorem dX2_init_131 : decode cX2_init 131 = .ok (.bipush 9, 2) := by decide +kernel
theorem dX2_init_133 : decode cX2_init 133 = .ok (.goto 4, 3) := by decide +kernel
theorem dX2_init_136 : decode cX2_init 136 = .ok (.iload_n 2, 1) := by decide +kernel
theorem dX2_init_137 : decode cX2_init 137 = .ok (.putfield 46, 3) := by decide +kernel
theorem dX2_init_140 : decode cX2_init 140 = .ok (.iconst 0, 1) := by decide +kernel
theorem dX2_init_141 : decode cX2_init 141 = .ok (.istore_n 3, 1) := by decide +kernel
theorem dX2_init_142 : decode cX2_init 142 = .ok (.iload_n 3, 1) := by decide +kernel
theorem dX2_init_143 : decode cX2_init 143 = .ok (.aload_n 0, 1) := by decide +kernel
theorem dX2_init_144 : decode cX2_init 144 = .ok (.getfield 9, 3) := by decide +kernel
theorem dX2_init_147 : decode cX2_init 147 = .ok (.arraylength, 1) := by decide +kernel
theorem dX2_init_148 : decode cX2_init 148 = .ok (.if_icmp .ge 16, 3) := by decide +kernel
theorem dX2_init_151 : decode cX2_init 151 = .ok (.aload_n 0, 1) := by decide +kernel
theorem dX2_init_152 : decode cX2_init 152 = .ok (.getfield 9, 3) := by decide +kernel
theorem dX2_init_155 : decode cX2_init 155 = .ok (.iload_n 3, 1) := by decide +kernel
theorem dX2_init_156 : decode cX2_init 156 = .ok (.iconst (-1), 1) := by decide +kernel
theorem dX2_init_157 : decode cX2_init 157 = .ok (.iastore, 1) := by decide +kernel
theorem dX2_init_158 : decode cX2_init 158 = .ok (.iinc 3 1, 3) := by decide +kernel
theorem dX2_init_161 : decode cX2_init 161 = .ok (.goto (-19), 3) := by decide +kernel
theorem dX2_init_164 : decode cX2_init 164 = .ok (.iconst 0, 1) := by decide +kernel
theorem dX2_init_165 : decode cX2_init 165 = .ok (.istore_n 3, 1) := by decide +kernel
theorem dX2_init_166 : decode cX2_init 166 = .ok (.iload_n 3, 1) := by decide +kernel
theorem dX2_init_167 : decode cX2_init 167 = .ok (.aload_n 0, 1) := by decide +kernel
theorem dX2_init_168 : decode cX2_init 168 = .ok (.getfield 16, 3) := by decide +kernel
theorem dX2_init_171 : decode cX2_init 171 = .ok (.arraylength, 1) := by decide +kernel
theorem dX2_init_172 : decode cX2_init 172 = .ok (.if_icmp .ge 17, 3) := by decide +kernel
theorem dX2_init_175 : decode cX2_init 175 = .ok (.aload_n 0, 1) := by decide +kernel
theorem dX2_init_176 : decode cX2_init 176 = .ok (.getfield 16, 3) := by decide +kernel
theorem dX2_init_179 : decode cX2_init 179 = .ok (.iload_n 3, 1) := by decide +kernel
theorem dX2_init_180 : decode cX2_init 180 = .ok (.bipush 24, 2) := by decide +kernel
theorem dX2_init_182 : decode cX2_init 182 = .ok (.iastore, 1) := by decide +kernel
theorem dX2_init_183 : decode cX2_init 183 = .ok (.iinc 3 1, 3) := by decide +kernel
theorem dX2_init_186 : decode cX2_init 186 = .ok (.goto (-20), 3) := by decide +kernel
theorem dX2_init_189 : decode cX2_init 189 = .ok (.return_, 1) := by decide +kernel
theorem dX2_isKind_0 : decode cX2_isKind 0 = .ok (.iload_n 1, 1) := by decide +kernel
theorem dX2_isKind_1 : decode cX2_isKind 1 = .ok (.ifCond .lt 15, 3) := by decide +kernel
theorem dX2_isKind_4 : decode cX2_isKind 4 = .ok (.iload_n 1, 1) := by decide +kernel
theorem dX2_isKind_5 : decode cX2_isKind 5 = .ok (.aload_n 0, 1) := by decide +kernel
theorem dX2_isKind_6 : decode cX2_isKind 6 = .ok (.getfield 42, 3) := by decide +kernel
theorem dX2_isKind_9 : decode cX2_isKind 9 = .ok (.if_icmp .ge 7, 3) := by decide +kernel
theorem dX2_isKind_12 : decode cX2_isKind 12 = .ok (.iconst 1, 1) := by decide +kernel
theorem dX2_isKind_13 : decode cX2_isKind 13 = .ok (.goto 4, 3) := by decide +kernel
theorem dX2_isKind_16 : decode cX2_isKind 16 = .ok (.iconst 0, 1) := by decide +kernel
theorem dX2_isKind_17 : decode cX2_isKind 17 = .ok (.ireturn, 1) := by decide +kernel
theorem dX2_isLevel_0 : decode cX2_isLevel 0 = .ok (.iload_n 1, 1) := by decide +kernel
theorem dX2_isLevel_1 : decode cX2_isLevel 1 = .ok (.iconst 1, 1) := by decide +kernel
theorem dX2_isLevel_2 : decode cX2_isLevel 2 = .ok (.if_icmp .lt 15, 3) := by decide +kernel
theorem dX2_isLevel_5 : decode cX2_isLevel 5 = .ok (.iload_n 1, 1) := by decide +kernel
theorem dX2_isLevel_6 : decode cX2_isLevel 6 = .ok (.aload_n 0, 1) := by decide +kernel
theorem dX2_isLevel_7 : decode cX2_isLevel 7 = .ok (.getfield 46, 3) := by decide +kernel
theorem dX2_isLevel_10 : decode cX2_isLevel 10 = .ok (.if_icmp .gt 7, 3) := by decide +kernel
theorem dX2_isLevel_13 : decode cX2_isLevel 13 = .ok (.iconst 1, 1) := by decide +kernel
theorem dX2_isLevel_14 : decode cX2_isLevel 14 = .ok (.goto 4, 3) := by decide +kernel
theorem dX2_isLevel_17 : decode cX2_isLevel 17 = .ok (.iconst 0, 1) := by decide +kernel
theorem dX2_isLevel_18 : decode cX2_isLevel 18 = .ok (.ireturn, 1) := by decide +kernel
theorem dX2_isThing_0 : decode cX2_isThing 0 = .ok (.iload_n 1, 1) := by decide +kernel
theorem dX2_isThing_1 : decode cX2_isThing 1 = .ok (.ifCond .lt 15, 3) := by decide +kernel
theorem dX2_isThing_4 : decode cX2_isThing 4 = .ok (.iload_n 1, 1) := by decide +kernel
theorem dX2_isThing_5 : decode cX2_isThing 5 = .ok (.aload_n 0, 1) := by decide +kernel
theorem dX2_isThing_6 : decode cX2_isThing 6 = .ok (.getfield 49, 3) := by decide +kernel
theorem dX2_isThing_9 : decode cX2_isThing 9 = .ok (.if_icmp .ge 7, 3) := by decide +kernel
theorem dX2_isThing_12 : decode cX2_isThing 12 = .ok (.iconst 1, 1) := by decide +kernel
theorem dX2_isThing_13 : decode cX2_isThing 13 = .ok (.goto 4, 3) := by decide +kernel
theorem dX2_isThing_16 : decode cX2_isThing 16 = .ok (.iconst 0, 1) := by decide +kernel
theorem dX2_isThing_17 : decode cX2_isThing 17 = .ok (.ireturn, 1) := by decide +kernel
theorem dX2_isHour_0 : decode cX2_isHour 0 = .ok (.lload_n 0, 1) := by decide +kernel
theorem dX2_isHour_1 : decode cX2_isHour 1 = .ok (.lconst 0, 1) := by decide +kernel
theorem dX2_isHour_2 : decode cX2_isHour 2 = .ok (.lcmp, 1) := by decide +kernel
theorem dX2_isHour_3 : decode cX2_isHour 3 = .ok (.ifCond .lt 15, 3) := by decide +kernel
theorem dX2_isHour_6 : decode cX2_isHour 6 = .ok (.lload_n 0, 1) := by decide +kernel
theorem dX2_isHour_7 : decode cX2_isHour 7 = .ok (.ldc2_w 52, 3) := by decide +kernel
theorem dX2_isHour_10 : decode cX2_isHour 10 = .ok (.lcmp, 1) := by decide +kernel
theorem dX2_isHour_11 : decode cX2_isHour 11 = .ok (.ifCond .gt 7, 3) := by decide +kernel
theorem dX2_isHour_14 : decode cX2_isHour 14 = .ok (.iconst 1, 1) := by decide +kernel
theorem dX2_isHour_15 : decode cX2_isHour 15 = .ok (.goto 4, 3) := by decide +kernel
theorem dX2_isHour_18 : decode cX2_isHour 18 = .ok (.iconst 0, 1) := by decide +kernel
theorem dX2_isHour_19 : decode cX2_isHour 19 = .ok (.ireturn, 1) := by decide +kernel
theorem dX2_need_0 : decode cX2_need 0 = .ok (.aload_n 0, 1) := by decide +kernel
theorem dX2_need_1 : decode cX2_need 1 = .ok (.iload_n 1, 1) := by decide +kernel
theorem dX2_need_2 : decode cX2_need 2 = .ok (.invokevirtual 54, 3) := by decide +kernel
theorem dX2_need_5 : decode cX2_need 5 = .ok (.ifCond .eq 23, 3) := by decide +kernel
theorem dX2_need_8 : decode cX2_need 8 = .ok (.aload_n 0, 1) := by decide +kernel
theorem dX2_need_9 : decode cX2_need 9 = .ok (.iload_n 2, 1) := by decide +kernel
theorem dX2_need_10 : decode cX2_need 10 = .ok (.invokevirtual 54, 3) := by decide +kernel
theorem dX2_need_13 : decode cX2_need 13 = .ok (.ifCond .eq 15, 3) := by decide +kernel
theorem dX2_need_16 : decode cX2_need 16 = .ok (.iload_n 3, 1) := by decide +kernel
theorem dX2_need_17 : decode cX2_need 17 = .ok (.ifCond .eq 13, 3) := by decide +kernel
theorem dX2_need_20 : decode cX2_need 20 = .ok (.aload_n 0, 1) := by decide +kernel
theorem dX2_need_21 : decode cX2_need 21 = .ok (.iload_n 3, 1) := by decide +kernel
theorem dX2_need_22 : decode cX2_need 22 = .ok (.invokevirtual 58, 3) := by decide +kernel
theorem dX2_need_25 : decode cX2_need 25 = .ok (.ifCond .ne 5, 3) := by decide +kernel
theorem dX2_need_28 : decode cX2_need 28 = .ok (.iconst 0, 1) := by decide +kernel
theorem dX2_need_29 : decode cX2_need 29 = .ok (.ireturn, 1) := by decide +kernel
theorem dX2_need_30 : decode cX2_need 30 = .ok (.aload_n 0, 1) := by decide +kernel
theorem dX2_need_31 : decode cX2_need 31 = .ok (.getfield 9, 3) := by decide +kernel
theorem dX2_need_34 : decode cX2_need 34 = .ok (.iload_n 1, 1) := by decide +kernel
theorem dX2_need_35 : decode cX2_need 35 = .ok (.bipush 20, 2) := by decide +kernel
theorem dX2_need_37 : decode cX2_need 37 = .ok (.imul, 1) := by decide +kernel
theorem dX2_need_38 : decode cX2_need 38 = .ok (.iload_n 2, 1) := by decide +kernel
theorem dX2_need_39 : decode cX2_need 39 = .ok (.iadd, 1) := by decide +kernel
theorem dX2_need_40 : decode cX2_need 40 = .ok (.iload_n 3, 1) := by decide +kernel
theorem dX2_need_41 : decode cX2_need 41 = .ok (.iastore, 1) := by decide +kernel
theorem dX2_need_42 : decode cX2_need 42 = .ok (.iconst 1, 1) := by decide +kernel
theorem dX2_need_43 : decode cX2_need 43 = .ok (.ireturn, 1) := by decide +kernel
theorem dX2_hours_0 : decode cX2_hours 0 = .ok (.aload_n 0, 1) := by decide +kernel
theorem dX2_hours_1 : decode cX2_hours 1 = .ok (.iload_n 1, 1) := by decide +kernel
theorem dX2_hours_2 : decode cX2_hours 2 = .ok (.invokevirtual 58, 3) := by decide +kernel
theorem dX2_hours_5 : decode cX2_hours 5 = .ok (.ifCond .eq 22, 3) := by decide +kernel
theorem dX2_hours_8 : decode cX2_hours 8 = .ok (.iload_n 2, 1) := by decide +kernel
theorem dX2_hours_9 : decode cX2_hours 9 = .ok (.ifCond .lt 18, 3) := by decide +kernel
theorem dX2_hours_12 : decode cX2_hours 12 = .ok (.iload_n 2, 1) := by decide +kernel
theorem dX2_hours_13 : decode cX2_hours 13 = .ok (.iconst 1, 1) := by decide +kernel
theorem dX2_hours_14 : decode cX2_hours 14 = .ok (.if_icmp .gt 13, 3) := by decide +kernel
theorem dX2_hours_17 : decode cX2_hours 17 = .ok (.iload_n 3, 1) := by decide +kernel
theorem dX2_hours_18 : decode cX2_hours 18 = .ok (.ifCond .lt 9, 3) := by decide +kernel
theorem dX2_hours_21 : decode cX2_hours 21 = .ok (.iload_n 3, 1) := by decide +kernel
theorem dX2_hours_22 : decode cX2_hours 22 = .ok (.ldc 61, 2) := by decide +kernel
theorem dX2_hours_24 : decode cX2_hours 24 = .ok (.if_icmp .le 5, 3) := by decide +kernel
theorem dX2_hours_27 : decode cX2_hours 27 = .ok (.iconst 0, 1) := by decide +kernel
theorem dX2_hours_28 : decode cX2_hours 28 = .ok (.ireturn, 1) := by decide +kernel
theorem dX2_hours_29 : decode cX2_hours 29 = .ok (.aload_n 0, 1) := by decide +kernel
theorem dX2_hours_30 : decode cX2_hours 30 = .ok (.getfield 16, 3) := by decide +kernel
theorem dX2_hours_33 : decode cX2_hours 33 = .ok (.iconst 2, 1) := by decide +kernel
theorem dX2_hours_34 : decode cX2_hours 34 = .ok (.iload_n 1, 1) := by decide +kernel
theorem dX2_hours_35 : decode cX2_hours 35 = .ok (.imul, 1) := by decide +kernel
theorem dX2_hours_36 : decode cX2_hours 36 = .ok (.iload_n 2, 1) := by decide +kernel
theorem dX2_hours_37 : decode cX2_hours 37 = .ok (.iadd, 1) := by decide +kernel
theorem dX2_hours_38 : decode cX2_hours 38 = .ok (.iload_n 3, 1) := by decide +kernel
theorem dX2_hours_39 : decode cX2_hours 39 = .ok (.iastore, 1) := by decide +kernel
theorem dX2_hours_40 : decode cX2_hours 40 = .ok (.iconst 1, 1) := by decide +kernel
theorem dX2_hours_41 : decode cX2_hours 41 = .ok (.ireturn, 1) := by decide +kernel
theorem dX2_cost_0 : decode cX2_cost 0 = .ok (.aload_n 0, 1) := by decide +kernel
theorem dX2_cost_1 : decode cX2_cost 1 = .ok (.iload_n 1, 1) := by decide +kernel
theorem dX2_cost_2 : decode cX2_cost 2 = .ok (.invokevirtual 58, 3) := by decide +kernel
theorem dX2_cost_5 : decode cX2_cost 5 = .ok (.ifCond .eq 17, 3) := by decide +kernel
theorem dX2_cost_8 : decode cX2_cost 8 = .ok (.lload_n 2, 1) := by decide +kernel
theorem dX2_cost_9 : decode cX2_cost 9 = .ok (.lconst 0, 1) := by decide +kernel
theorem dX2_cost_10 : decode cX2_cost 10 = .ok (.lcmp, 1) := by decide +kernel
theorem dX2_cost_11 : decode cX2_cost 11 = .ok (.ifCond .lt 11, 3) := by decide +kernel
theorem dX2_cost_14 : decode cX2_cost 14 = .ok (.lload_n 2, 1) := by decide +kernel
theorem dX2_cost_15 : decode cX2_cost 15 = .ok (.ldc2_w 52, 3) := by decide +kernel
theorem dX2_cost_18 : decode cX2_cost 18 = .ok (.lcmp, 1) := by decide +kernel
theorem dX2_cost_19 : decode cX2_cost 19 = .ok (.ifCond .le 5, 3) := by decide +kernel
theorem dX2_cost_22 : decode cX2_cost 22 = .ok (.iconst 0, 1) := by decide +kernel
theorem dX2_cost_23 : decode cX2_cost 23 = .ok (.ireturn, 1) := by decide +kernel
theorem dX2_cost_24 : decode cX2_cost 24 = .ok (.aload_n 0, 1) := by decide +kernel
theorem dX2_cost_25 : decode cX2_cost 25 = .ok (.getfield 19, 3) := by decide +kernel
theorem dX2_cost_28 : decode cX2_cost 28 = .ok (.iload_n 1, 1) := by decide +kernel
theorem dX2_cost_29 : decode cX2_cost 29 = .ok (.lload_n 2, 1) := by decide +kernel
theorem dX2_cost_30 : decode cX2_cost 30 = .ok (.lastore, 1) := by decide +kernel
theorem dX2_cost_31 : decode cX2_cost 31 = .ok (.iconst 1, 1) := by decide +kernel
theorem dX2_cost_32 : decode cX2_cost 32 = .ok (.ireturn, 1) := by decide +kernel
theorem dX2_allergen_0 : decode cX2_allergen 0 = .ok (.aload_n 0, 1) := by decide +kernel
theorem dX2_allergen_1 : decode cX2_allergen 1 = .ok (.iload_n 1, 1) := by decide +kernel
theorem dX2_allergen_2 : decode cX2_allergen 2 = .ok (.invokevirtual 54, 3) := by decide +kernel
theorem dX2_allergen_5 : decode cX2_allergen 5 = .ok (.ifCond .eq 13, 3) := by decide +kernel
theorem dX2_allergen_8 : decode cX2_allergen 8 = .ok (.iload_n 2, 1) := by decide +kernel
theorem dX2_allergen_9 : decode cX2_allergen 9 = .ok (.ifCond .lt 9, 3) := by decide +kernel
theorem dX2_allergen_12 : decode cX2_allergen 12 = .ok (.iload_n 2, 1) := by decide +kernel
theorem dX2_allergen_13 : decode cX2_allergen 13 = .ok (.ldc 62, 2) := by decide +kernel
theorem dX2_allergen_15 : decode cX2_allergen 15 = .ok (.if_icmp .le 5, 3) := by decide +kernel
theorem dX2_allergen_18 : decode cX2_allergen 18 = .ok (.iconst (-1), 1) := by decide +kernel
theorem dX2_allergen_19 : decode cX2_allergen 19 = .ok (.ireturn, 1) := by decide +kernel
theorem dX2_allergen_20 : decode cX2_allergen 20 = .ok (.aload_n 0, 1) := by decide +kernel
theorem dX2_allergen_21 : decode cX2_allergen 21 = .ok (.getfield 13, 3) := by decide +kernel
theorem dX2_allergen_24 : decode cX2_allergen 24 = .ok (.iload_n 1, 1) := by decide +kernel
theorem dX2_allergen_25 : decode cX2_allergen 25 = .ok (.iaload, 1) := by decide +kernel
theorem dX2_allergen_26 : decode cX2_allergen 26 = .ok (.istore_n 3, 1) := by decide +kernel
theorem dX2_allergen_27 : decode cX2_allergen 27 = .ok (.aload_n 0, 1) := by decide +kernel
theorem dX2_allergen_28 : decode cX2_allergen 28 = .ok (.getfield 13, 3) := by decide +kernel
theorem dX2_allergen_31 : decode cX2_allergen 31 = .ok (.iload_n 1, 1) := by decide +kernel
theorem dX2_allergen_32 : decode cX2_allergen 32 = .ok (.iload_n 2, 1) := by decide +kernel
theorem dX2_allergen_33 : decode cX2_allergen 33 = .ok (.iastore, 1) := by decide +kernel
theorem dX2_allergen_34 : decode cX2_allergen 34 = .ok (.iload_n 3, 1) := by decide +kernel
theorem dX2_allergen_35 : decode cX2_allergen 35 = .ok (.ireturn, 1) := by decide +kernel
theorem dX2_thing_0 : decode cX2_thing 0 = .ok (.aload_n 0, 1) := by decide +kernel
theorem dX2_thing_1 : decode cX2_thing 1 = .ok (.getfield 49, 3) := by decide +kernel
theorem dX2_thing_4 : decode cX2_thing 4 = .ok (.bipush 32, 2) := by decide +kernel
theorem dX2_thing_6 : decode cX2_thing 6 = .ok (.if_icmp .ne 6, 3) := by decide +kernel
theorem dX2_thing_9 : decode cX2_thing 9 = .ok (.bipush (-2), 2) := by decide +kernel
theorem dX2_thing_11 : decode cX2_thing 11 = .ok (.ireturn, 1) := by decide +kernel
theorem dX2_thing_12 : decode cX2_thing 12 = .ok (.aload_n 0, 1) := by decide +kernel
theorem dX2_thing_13 : decode cX2_thing 13 = .ok (.getfield 23, 3) := by decide +kernel
theorem dX2_thing_16 : decode cX2_thing 16 = .ok (.aload_n 0, 1) := by decide +kernel
theorem dX2_thing_17 : decode cX2_thing 17 = .ok (.getfield 49, 3) := by decide +kernel
theorem dX2_thing_20 : decode cX2_thing 20 = .ok (.aload_n 0, 1) := by decide +kernel
theorem dX2_thing_21 : decode cX2_thing 21 = .ok (.getfield 49, 3) := by decide +kernel
theorem dX2_thing_24 : decode cX2_thing 24 = .ok (.iastore, 1) := by decide +kernel
theorem dX2_thing_25 : decode cX2_thing 25 = .ok (.aload_n 0, 1) := by decide +kernel
theorem dX2_thing_26 : decode cX2_thing 26 = .ok (.dup, 1) := by decide +kernel
theorem dX2_thing_27 : decode cX2_thing 27 = .ok (.getfield 49, 3) := by decide +kernel
theorem dX2_thing_30 : decode cX2_thing 30 = .ok (.iconst 1, 1) := by decide +kernel
theorem dX2_thing_31 : decode cX2_thing 31 = .ok (.iadd, 1) := by decide +kernel
theorem dX2_thing_32 : decode cX2_thing 32 = .ok (.putfield 49, 3) := by decide +kernel
theorem dX2_thing_35 : decode cX2_thing 35 = .ok (.aload_n 0, 1) := by decide +kernel
theorem dX2_thing_36 : decode cX2_thing 36 = .ok (.getfield 49, 3) := by decide +kernel
theorem dX2_thing_39 : decode cX2_thing 39 = .ok (.iconst 1, 1) := by decide +kernel
theorem dX2_thing_40 : decode cX2_thing 40 = .ok (.isub, 1) := by decide +kernel
theorem dX2_thing_41 : decode cX2_thing 41 = .ok (.ireturn, 1) := by decide +kernel
theorem dX2_joinPipe_0 : decode cX2_joinPipe 0 = .ok (.aload_n 0, 1) := by decide +kernel
theorem dX2_joinPipe_1 : decode cX2_joinPipe 1 = .ok (.iload_n 1, 1) := by decide +kernel
theorem dX2_joinPipe_2 : decode cX2_joinPipe 2 = .ok (.invokevirtual 63, 3) := by decide +kernel
theorem dX2_joinPipe_5 : decode cX2_joinPipe 5 = .ok (.ifCond .eq 26, 3) := by decide +kernel
theorem dX2_joinPipe_8 : decode cX2_joinPipe 8 = .ok (.aload_n 0, 1) := by decide +kernel
theorem dX2_joinPipe_9 : decode cX2_joinPipe 9 = .ok (.iload_n 2, 1) := by decide +kernel
theorem dX2_joinPipe_10 : decode cX2_joinPipe 10 = .ok (.invokevirtual 63, 3) := by decide +kernel
theorem dX2_joinPipe_13 : decode cX2_joinPipe 13 = .ok (.ifCond .eq 18, 3) := by decide +kernel
theorem dX2_joinPipe_16 : decode cX2_joinPipe 16 = .ok (.aload_n 0, 1) := by decide +kernel
theorem dX2_joinPipe_17 : decode cX2_joinPipe 17 = .ok (.getfield 23, 3) := by decide +kernel
theorem dX2_joinPipe_20 : decode cX2_joinPipe 20 = .ok (.iload_n 1, 1) := by decide +kernel
theorem dX2_joinPipe_21 : decode cX2_joinPipe 21 = .ok (.iaload, 1) := by decide +kernel
theorem dX2_joinPipe_22 : decode cX2_joinPipe 22 = .ok (.aload_n 0, 1) := by decide +kernel
theorem dX2_joinPipe_23 : decode cX2_joinPipe 23 = .ok (.getfield 23, 3) := by decide +kernel
theorem dX2_joinPipe_26 : decode cX2_joinPipe 26 = .ok (.iload_n 2, 1) := by decide +kernel
theorem dX2_joinPipe_27 : decode cX2_joinPipe 27 = .ok (.iaload, 1) := by decide +kernel
theorem dX2_joinPipe_28 : decode cX2_joinPipe 28 = .ok (.if_icmp .ne 5, 3) := by decide +kernel
theorem dX2_joinPipe_31 : decode cX2_joinPipe 31 = .ok (.iconst 0, 1) := by decide +kernel
theorem dX2_joinPipe_32 : decode cX2_joinPipe 32 = .ok (.ireturn, 1) := by decide +kernel
theorem dX2_joinPipe_33 : decode cX2_joinPipe 33 = .ok (.aload_n 0, 1) := by decide +kernel
theorem dX2_joinPipe_34 : decode cX2_joinPipe 34 = .ok (.getfield 23, 3) := by decide +kernel
theorem dX2_joinPipe_37 : decode cX2_joinPipe 37 = .ok (.iload_n 1, 1) := by decide +kernel
theorem dX2_joinPipe_38 : decode cX2_joinPipe 38 = .ok (.iaload, 1) := by decide +kernel
theorem dX2_joinPipe_39 : decode cX2_joinPipe 39 = .ok (.aload_n 0, 1) := by decide +kernel
theorem dX2_joinPipe_40 : decode cX2_joinPipe 40 = .ok (.getfield 23, 3) := by decide +kernel
theorem dX2_joinPipe_43 : decode cX2_joinPipe 43 = .ok (.iload_n 2, 1) := by decide +kernel
theorem dX2_joinPipe_44 : decode cX2_joinPipe 44 = .ok (.iaload, 1) := by decide +kernel
theorem dX2_joinPipe_45 : decode cX2_joinPipe 45 = .ok (.if_icmp .ge 12, 3) := by decide +kernel
theorem dX2_joinPipe_48 : decode cX2_joinPipe 48 = .ok (.aload_n 0, 1) := by decide +kernel
theorem dX2_joinPipe_49 : decode cX2_joinPipe 49 = .ok (.getfield 23, 3) := by decide +kernel
theorem dX2_joinPipe_52 : decode cX2_joinPipe 52 = .ok (.iload_n 1, 1) := by decide +kernel
theorem dX2_joinPipe_53 : decode cX2_joinPipe 53 = .ok (.iaload, 1) := by decide +kernel
theorem dX2_joinPipe_54 : decode cX2_joinPipe 54 = .ok (.goto 9, 3) := by decide +kernel
theorem dX2_joinPipe_57 : decode cX2_joinPipe 57 = .ok (.aload_n 0, 1) := by decide +kernel
theorem dX2_joinPipe_58 : decode cX2_joinPipe 58 = .ok (.getfield 23, 3) := by decide +kernel
theorem dX2_joinPipe_61 : decode cX2_joinPipe 61 = .ok (.iload_n 2, 1) := by decide +kernel
theorem dX2_joinPipe_62 : decode cX2_joinPipe 62 = .ok (.iaload, 1) := by decide +kernel
theorem dX2_joinPipe_63 : decode cX2_joinPipe 63 = .ok (.istore_n 3, 1) := by decide +kernel
theorem dX2_joinPipe_64 : decode cX2_joinPipe 64 = .ok (.aload_n 0, 1) := by decide +kernel
theorem dX2_joinPipe_65 : decode cX2_joinPipe 65 = .ok (.getfield 23, 3) := by decide +kernel
theorem dX2_joinPipe_68 : decode cX2_joinPipe 68 = .ok (.iload_n 1, 1) := by decide +kernel
theorem dX2_joinPipe_69 : decode cX2_joinPipe 69 = .ok (.iaload, 1) := by decide +kernel
theorem dX2_joinPipe_70 : decode cX2_joinPipe 70 = .ok (.aload_n 0, 1) := by decide +kernel
theorem dX2_joinPipe_71 : decode cX2_joinPipe 71 = .ok (.getfield 23, 3) := by decide +kernel
theorem dX2_joinPipe_74 : decode cX2_joinPipe 74 = .ok (.iload_n 2, 1) := by decide +kernel
theorem dX2_joinPipe_75 : decode cX2_joinPipe 75 = .ok (.iaload, 1) := by decide +kernel
theorem dX2_joinPipe_76 : decode cX2_joinPipe 76 = .ok (.if_icmp .ge 12, 3) := by decide +kernel
theorem dX2_joinPipe_79 : decode cX2_joinPipe 79 = .ok (.aload_n 0, 1) := by decide +kernel
theorem dX2_joinPipe_80 : decode cX2_joinPipe 80 = .ok (.getfield 23, 3) := by decide +kernel
theorem dX2_joinPipe_83 : decode cX2_joinPipe 83 = .ok (.iload_n 2, 1) := by decide +kernel
theorem dX2_joinPipe_84 : decode cX2_joinPipe 84 = .ok (.iaload, 1) := by decide +kernel
theorem dX2_joinPipe_85 : decode cX2_joinPipe 85 = .ok (.goto 9, 3) := by decide +kernel
theorem dX2_joinPipe_88 : decode cX2_joinPipe 88 = .ok (.aload_n 0, 1) := by decide +kernel
theorem dX2_joinPipe_89 : decode cX2_joinPipe 89 = .ok (.getfield 23, 3) := by decide +kernel
theorem dX2_joinPipe_92 : decode cX2_joinPipe 92 = .ok (.iload_n 1, 1) := by decide +kernel
theorem dX2_joinPipe_93 : decode cX2_joinPipe 93 = .ok (.iaload, 1) := by decide +kernel
theorem dX2_joinPipe_94 : decode cX2_joinPipe 94 = .ok (.istore 4, 2) := by decide +kernel
theorem dX2_joinPipe_96 : decode cX2_joinPipe 96 = .ok (.iconst 0, 1) := by decide +kernel
theorem dX2_joinPipe_97 : decode cX2_joinPipe 97 = .ok (.istore 5, 2) := by decide +kernel
theorem dX2_joinPipe_99 : decode cX2_joinPipe 99 = .ok (.iload 5, 2) := by decide +kernel
theorem dX2_joinPipe_101 : decode cX2_joinPipe 101 = .ok (.aload_n 0, 1) := by decide +kernel
theorem dX2_joinPipe_102 : decode cX2_joinPipe 102 = .ok (.getfield 49, 3) := by decide +kernel
theorem dX2_joinPipe_105 : decode cX2_joinPipe 105 = .ok (.if_icmp .ge 39, 3) := by decide +kernel
theorem dX2_joinPipe_108 : decode cX2_joinPipe 108 = .ok (.aload_n 0, 1) := by decide +kernel
theorem dX2_joinPipe_109 : decode cX2_joinPipe 109 = .ok (.getfield 23, 3) := by decide +kernel
theorem dX2_joinPipe_112 : decode cX2_joinPipe 112 = .ok (.iload 5, 2) := by decide +kernel
theorem dX2_joinPipe_114 : decode cX2_joinPipe 114 = .ok (.aload_n 0, 1) := by decide +kernel
theorem dX2_joinPipe_115 : decode cX2_joinPipe 115 = .ok (.getfield 23, 3) := by decide +kernel
theorem dX2_joinPipe_118 : decode cX2_joinPipe 118 = .ok (.iload 5, 2) := by decide +kernel
theorem dX2_joinPipe_120 : decode cX2_joinPipe 120 = .ok (.iaload, 1) := by decide +kernel
theorem dX2_joinPipe_121 : decode cX2_joinPipe 121 = .ok (.iload 4, 2) := by decide +kernel
theorem dX2_joinPipe_123 : decode cX2_joinPipe 123 = .ok (.if_icmp .ne 7, 3) := by decide +kernel
theorem dX2_joinPipe_126 : decode cX2_joinPipe 126 = .ok (.iload_n 3, 1) := by decide +kernel
theorem dX2_joinPipe_127 : decode cX2_joinPipe 127 = .ok (.goto 10, 3) := by decide +kernel
theorem dX2_joinPipe_130 : decode cX2_joinPipe 130 = .ok (.aload_n 0, 1) := by decide +kernel
theorem dX2_joinPipe_131 : decode cX2_joinPipe 131 = .ok (.getfield 23, 3) := by decide +kernel
theorem dX2_joinPipe_134 : decode cX2_joinPipe 134 = .ok (.iload 5, 2) := by decide +kernel
theorem dX2_joinPipe_136 : decode cX2_joinPipe 136 = .ok (.iaload, 1) := by decide +kernel
theorem dX2_joinPipe_137 : decode cX2_joinPipe 137 = .ok (.iastore, 1) := by decide +kernel
theorem dX2_joinPipe_138 : decode cX2_joinPipe 138 = .ok (.iinc 5 1, 3) := by decide +kernel
theorem dX2_joinPipe_141 : decode cX2_joinPipe 141 = .ok (.goto (-42), 3) := by decide +kernel
theorem dX2_joinPipe_144 : decode cX2_joinPipe 144 = .ok (.iconst 1, 1) := by decide +kernel
theorem dX2_joinPipe_145 : decode cX2_joinPipe 145 = .ok (.ireturn, 1) := by decide +kernel
theorem dX2_isBehind_0 : decode cX2_isBehind 0 = .ok (.iconst 1, 1) := by decide +kernel
theorem dX2_isBehind_1 : decode cX2_isBehind 1 = .ok (.istore 5, 2) := by decide +kernel
theorem dX2_isBehind_3 : decode cX2_isBehind 3 = .ok (.iconst 0, 1) := by decide +kernel
theorem dX2_isBehind_4 : decode cX2_isBehind 4 = .ok (.istore 6, 2) := by decide +kernel
theorem dX2_isBehind_6 : decode cX2_isBehind 6 = .ok (.iload 6, 2) := by decide +kernel
theorem dX2_isBehind_8 : decode cX2_isBehind 8 = .ok (.aload_n 0, 1) := by decide +kernel
theorem dX2_isBehind_9 : decode cX2_isBehind 9 = .ok (.getfield 66, 3) := by decide +kernel
theorem dX2_isBehind_12 : decode cX2_isBehind 12 = .ok (.if_icmp .ge 59, 3) := by decide +kernel
theorem dX2_isBehind_15 : decode cX2_isBehind 15 = .ok (.iload 5, 2) := by decide +kernel
theorem dX2_isBehind_17 : decode cX2_isBehind 17 = .ok (.ifCond .eq 54, 3) := by decide +kernel
theorem dX2_isBehind_20 : decode cX2_isBehind 20 = .ok (.aload_n 0, 1) := by decide +kernel
theorem dX2_isBehind_21 : decode cX2_isBehind 21 = .ok (.getfield 26, 3) := by decide +kernel
theorem dX2_isBehind_24 : decode cX2_isBehind 24 = .ok (.iload 6, 2) := by decide +kernel
theorem dX2_isBehind_26 : decode cX2_isBehind 26 = .ok (.iaload, 1) := by decide +kernel
theorem dX2_isBehind_27 : decode cX2_isBehind 27 = .ok (.iload_n 1, 1) := by decide +kernel
theorem dX2_isBehind_28 : decode cX2_isBehind 28 = .ok (.if_icmp .ne 30, 3) := by decide +kernel
theorem dX2_isBehind_31 : decode cX2_isBehind 31 = .ok (.iload 4, 2) := by decide +kernel
theorem dX2_isBehind_33 : decode cX2_isBehind 33 = .ok (.ifCond .ne 13, 3) := by decide +kernel
theorem dX2_isBehind_36 : decode cX2_isBehind 36 = .ok (.aload_n 0, 1) := by decide +kernel
theorem dX2_isBehind_37 : decode cX2_isBehind 37 = .ok (.getfield 38, 3) := by decide +kernel
theorem dX2_isBehind_40 : decode cX2_isBehind 40 = .ok (.iload 6, 2) := by decide +kernel
theorem dX2_isBehind_42 : decode cX2_isBehind 42 = .ok (.baload, 1) := by decide +kernel
theorem dX2_isBehind_43 : decode cX2_isBehind 43 = .ok (.ifCond .ne 15, 3) := by decide +kernel
theorem dX2_isBehind_46 : decode cX2_isBehind 46 = .ok (.aload_n 0, 1) := by decide +kernel
theorem dX2_isBehind_47 : decode cX2_isBehind 47 = .ok (.getfield 29, 3) := by decide +kernel
theorem dX2_isBehind_50 : decode cX2_isBehind 50 = .ok (.iload 6, 2) := by decide +kernel
theorem dX2_isBehind_52 : decode cX2_isBehind 52 = .ok (.laload, 1) := by decide +kernel
theorem dX2_isBehind_53 : decode cX2_isBehind 53 = .ok (.lload_n 2, 1) := by decide +kernel
theorem dX2_isBehind_54 : decode cX2_isBehind 54 = .ok (.lcmp, 1) := by decide +kernel
theorem dX2_isBehind_55 : decode cX2_isBehind 55 = .ok (.ifCond .gt 7, 3) := by decide +kernel
theorem dX2_isBehind_58 : decode cX2_isBehind 58 = .ok (.iconst 1, 1) := by decide +kernel
theorem dX2_isBehind_59 : decode cX2_isBehind 59 = .ok (.goto 4, 3) := by decide +kernel
theorem dX2_isBehind_62 : decode cX2_isBehind 62 = .ok (.iconst 0, 1) := by decide +kernel
theorem dX2_isBehind_63 : decode cX2_isBehind 63 = .ok (.istore 5, 2) := by decide +kernel
theorem dX2_isBehind_65 : decode cX2_isBehind 65 = .ok (.iinc 6 1, 3) := by decide +kernel
theorem dX2_isBehind_68 : decode cX2_isBehind 68 = .ok (.goto (-62), 3) := by decide +kernel
theorem dX2_isBehind_71 : decode cX2_isBehind 71 = .ok (.iload 5, 2) := by decide +kernel
theorem dX2_isBehind_73 : decode cX2_isBehind 73 = .ok (.ireturn, 1) := by decide +kernel
theorem dX2_add_0 : decode cX2_add 0 = .ok (.aload_n 0, 1) := by decide +kernel
theorem dX2_add_1 : decode cX2_add 1 = .ok (.getfield 26, 3) := by decide +kernel
theorem dX2_add_4 : decode cX2_add 4 = .ok (.aload_n 0, 1) := by decide +kernel
theorem dX2_add_5 : decode cX2_add 5 = .ok (.getfield 66, 3) := by decide +kernel
theorem dX2_add_8 : decode cX2_add 8 = .ok (.iload_n 1, 1) := by decide +kernel
theorem dX2_add_9 : decode cX2_add 9 = .ok (.iastore, 1) := by decide +kernel
theorem dX2_add_10 : decode cX2_add 10 = .ok (.aload_n 0, 1) := by decide +kernel
theorem dX2_add_11 : decode cX2_add 11 = .ok (.getfield 32, 3) := by decide +kernel
theorem dX2_add_14 : decode cX2_add 14 = .ok (.aload_n 0, 1) := by decide +kernel
theorem dX2_add_15 : decode cX2_add 15 = .ok (.getfield 66, 3) := by decide +kernel
theorem dX2_add_18 : decode cX2_add 18 = .ok (.iload_n 2, 1) := by decide +kernel
theorem dX2_add_19 : decode cX2_add 19 = .ok (.iastore, 1) := by decide +kernel
theorem dX2_add_20 : decode cX2_add 20 = .ok (.aload_n 0, 1) := by decide +kernel
theorem dX2_add_21 : decode cX2_add 21 = .ok (.getfield 35, 3) := by decide +kernel
theorem dX2_add_24 : decode cX2_add 24 = .ok (.aload_n 0, 1) := by decide +kernel
theorem dX2_add_25 : decode cX2_add 25 = .ok (.getfield 66, 3) := by decide +kernel
theorem dX2_add_28 : decode cX2_add 28 = .ok (.iload_n 3, 1) := by decide +kernel
theorem dX2_add_29 : decode cX2_add 29 = .ok (.iastore, 1) := by decide +kernel
theorem dX2_add_30 : decode cX2_add 30 = .ok (.aload_n 0, 1) := by decide +kernel
theorem dX2_add_31 : decode cX2_add 31 = .ok (.getfield 29, 3) := by decide +kernel
theorem dX2_add_34 : decode cX2_add 34 = .ok (.aload_n 0, 1) := by decide +kernel
theorem dX2_add_35 : decode cX2_add 35 = .ok (.getfield 66, 3) := by decide +kernel
theorem dX2_add_38 : decode cX2_add 38 = .ok (.lload 4, 2) := by decide +kernel
theorem dX2_add_40 : decode cX2_add 40 = .ok (.lastore, 1) := by decide +kernel
theorem dX2_add_41 : decode cX2_add 41 = .ok (.aload_n 0, 1) := by decide +kernel
theorem dX2_add_42 : decode cX2_add 42 = .ok (.getfield 38, 3) := by decide +kernel
theorem dX2_add_45 : decode cX2_add 45 = .ok (.aload_n 0, 1) := by decide +kernel
theorem dX2_add_46 : decode cX2_add 46 = .ok (.getfield 66, 3) := by decide +kernel
theorem dX2_add_49 : decode cX2_add 49 = .ok (.iload 6, 2) := by decide +kernel
theorem dX2_add_51 : decode cX2_add 51 = .ok (.bastore, 1) := by decide +kernel
theorem dX2_add_52 : decode cX2_add 52 = .ok (.aload_n 0, 1) := by decide +kernel
theorem dX2_add_53 : decode cX2_add 53 = .ok (.dup, 1) := by decide +kernel
theorem dX2_add_54 : decode cX2_add 54 = .ok (.getfield 66, 3) := by decide +kernel
theorem dX2_add_57 : decode cX2_add 57 = .ok (.iconst 1, 1) := by decide +kernel
theorem dX2_add_58 : decode cX2_add 58 = .ok (.iadd, 1) := by decide +kernel
theorem dX2_add_59 : decode cX2_add 59 = .ok (.putfield 66, 3) := by decide +kernel
theorem dX2_add_62 : decode cX2_add 62 = .ok (.iconst 1, 1) := by decide +kernel
theorem dX2_add_63 : decode cX2_add 63 = .ok (.ireturn, 1) := by decide +kernel
theorem dX2_held_0 : decode cX2_held 0 = .ok (.aload_n 0, 1) := by decide +kernel
theorem dX2_held_1 : decode cX2_held 1 = .ok (.iload_n 1, 1) := by decide +kernel
theorem dX2_held_2 : decode cX2_held 2 = .ok (.invokevirtual 63, 3) := by decide +kernel
theorem dX2_held_5 : decode cX2_held 5 = .ok (.ifCond .eq 54, 3) := by decide +kernel
theorem dX2_held_8 : decode cX2_held 8 = .ok (.aload_n 0, 1) := by decide +kernel
theorem dX2_held_9 : decode cX2_held 9 = .ok (.iload_n 2, 1) := by decide +kernel
theorem dX2_held_10 : decode cX2_held 10 = .ok (.invokevirtual 54, 3) := by decide +kernel
theorem dX2_held_13 : decode cX2_held 13 = .ok (.ifCond .eq 46, 3) := by decide +kernel
theorem dX2_held_16 : decode cX2_held 16 = .ok (.lload_n 3, 1) := by decide +kernel
theorem dX2_held_17 : decode cX2_held 17 = .ok (.invokestatic 69, 3) := by decide +kernel
theorem dX2_held_20 : decode cX2_held 20 = .ok (.ifCond .eq 39, 3) := by decide +kernel
theorem dX2_held_23 : decode cX2_held 23 = .ok (.aload_n 0, 1) := by decide +kernel
theorem dX2_held_24 : decode cX2_held 24 = .ok (.iload_n 1, 1) := by decide +kernel
theorem dX2_held_25 : decode cX2_held 25 = .ok (.lload_n 3, 1) := by decide +kernel
theorem dX2_held_26 : decode cX2_held 26 = .ok (.iconst 1, 1) := by decide +kernel
theorem dX2_held_27 : decode cX2_held 27 = .ok (.invokevirtual 73, 3) := by decide +kernel
theorem dX2_held_30 : decode cX2_held 30 = .ok (.ifCond .eq 29, 3) := by decide +kernel
theorem dX2_held_33 : decode cX2_held 33 = .ok (.aload_n 0, 1) := by decide +kernel
theorem dX2_held_34 : decode cX2_held 34 = .ok (.getfield 66, 3) := by decide +kernel
theorem dX2_held_37 : decode cX2_held 37 = .ok (.sipush 200, 3) := by decide +kernel
theorem dX2_held_40 : decode cX2_held 40 = .ok (.if_icmp .ge 19, 3) := by decide +kernel
theorem dX2_held_43 : decode cX2_held 43 = .ok (.aload_n 0, 1) := by decide +kernel
theorem dX2_held_44 : decode cX2_held 44 = .ok (.iload_n 1, 1) := by decide +kernel
theorem dX2_held_45 : decode cX2_held 45 = .ok (.iload_n 2, 1) := by decide +kernel
theorem dX2_held_46 : decode cX2_held 46 = .ok (.iconst 0, 1) := by decide +kernel
theorem dX2_held_47 : decode cX2_held 47 = .ok (.lload_n 3, 1) := by decide +kernel
theorem dX2_held_48 : decode cX2_held 48 = .ok (.iconst 0, 1) := by decide +kernel
theorem dX2_held_49 : decode cX2_held 49 = .ok (.invokevirtual 77, 3) := by decide +kernel
theorem dX2_held_52 : decode cX2_held 52 = .ok (.ifCond .eq 7, 3) := by decide +kernel
theorem dX2_held_55 : decode cX2_held 55 = .ok (.iconst 1, 1) := by decide +kernel
theorem dX2_held_56 : decode cX2_held 56 = .ok (.goto 4, 3) := by decide +kernel
theorem dX2_held_59 : decode cX2_held 59 = .ok (.iconst 0, 1) := by decide +kernel
theorem dX2_held_60 : decode cX2_held 60 = .ok (.ireturn, 1) := by decide +kernel
theorem dX2_cleaned_0 : decode cX2_cleaned 0 = .ok (.aload_n 0, 1) := by decide +kernel
theorem dX2_cleaned_1 : decode cX2_cleaned 1 = .ok (.iload_n 1, 1) := by decide +kernel
theorem dX2_cleaned_2 : decode cX2_cleaned 2 = .ok (.invokevirtual 63, 3) := by decide +kernel
theorem dX2_cleaned_5 : decode cX2_cleaned 5 = .ok (.ifCond .eq 54, 3) := by decide +kernel
theorem dX2_cleaned_8 : decode cX2_cleaned 8 = .ok (.aload_n 0, 1) := by decide +kernel
theorem dX2_cleaned_9 : decode cX2_cleaned 9 = .ok (.iload_n 2, 1) := by decide +kernel
theorem dX2_cleaned_10 : decode cX2_cleaned 10 = .ok (.invokevirtual 58, 3) := by decide +kernel
theorem dX2_cleaned_13 : decode cX2_cleaned 13 = .ok (.ifCond .eq 46, 3) := by decide +kernel
theorem dX2_cleaned_16 : decode cX2_cleaned 16 = .ok (.lload_n 3, 1) := by decide +kernel
theorem dX2_cleaned_17 : decode cX2_cleaned 17 = .ok (.invokestatic 69, 3) := by decide +kernel
theorem dX2_cleaned_20 : decode cX2_cleaned 20 = .ok (.ifCond .eq 39, 3) := by decide +kernel
theorem dX2_cleaned_23 : decode cX2_cleaned 23 = .ok (.aload_n 0, 1) := by decide +kernel
theorem dX2_cleaned_24 : decode cX2_cleaned 24 = .ok (.iload_n 1, 1) := by decide +kernel
theorem dX2_cleaned_25 : decode cX2_cleaned 25 = .ok (.lload_n 3, 1) := by decide +kernel
theorem dX2_cleaned_26 : decode cX2_cleaned 26 = .ok (.iconst 1, 1) := by decide +kernel
theorem dX2_cleaned_27 : decode cX2_cleaned 27 = .ok (.invokevirtual 73, 3) := by decide +kernel
theorem dX2_cleaned_30 : decode cX2_cleaned 30 = .ok (.ifCond .eq 29, 3) := by decide +kernel
theorem dX2_cleaned_33 : decode cX2_cleaned 33 = .ok (.aload_n 0, 1) := by decide +kernel
theorem dX2_cleaned_34 : decode cX2_cleaned 34 = .ok (.getfield 66, 3) := by decide +kernel
theorem dX2_cleaned_37 : decode cX2_cleaned 37 = .ok (.sipush 200, 3) := by decide +kernel
theorem dX2_cleaned_40 : decode cX2_cleaned 40 = .ok (.if_icmp .ge 19, 3) := by decide +kernel
theorem dX2_cleaned_43 : decode cX2_cleaned 43 = .ok (.aload_n 0, 1) := by decide +kernel
theorem dX2_cleaned_44 : decode cX2_cleaned 44 = .ok (.iload_n 1, 1) := by decide +kernel
theorem dX2_cleaned_45 : decode cX2_cleaned 45 = .ok (.iconst (-1), 1) := by decide +kernel
theorem dX2_cleaned_46 : decode cX2_cleaned 46 = .ok (.iload_n 2, 1) := by decide +kernel
theorem dX2_cleaned_47 : decode cX2_cleaned 47 = .ok (.lload_n 3, 1) := by decide +kernel
