theorem dX1_init_0 : decode cX1_init 0 = .ok (.aload_n 0, 1) := by decide +kernel
theorem dX1_init_1 : decode cX1_init 1 = .ok (.invokespecial 1, 3) := by decide +kernel
theorem dX1_init_4 : decode cX1_init 4 = .ok (.aload_n 0, 1) := by decide +kernel
theorem dX1_init_5 : decode cX1_init 5 = .ok (.bipush 32, 2) := by decide +kernel
theorem dX1_init_7 : decode cX1_init 7 = .ok (.newarray .int, 2) := by decide +kernel
theorem dX1_init_9 : decode cX1_init 9 = .ok (.putfield 9, 3) := by decide +kernel
theorem dX1_init_12 : decode cX1_init 12 = .ok (.aload_n 0, 1) := by decide +kernel
theorem dX1_init_13 : decode cX1_init 13 = .ok (.bipush 32, 2) := by decide +kernel
theorem dX1_init_15 : decode cX1_init 15 = .ok (.anewarray 13, 3) := by decide +kernel
theorem dX1_init_18 : decode cX1_init 18 = .ok (.putfield 15, 3) := by decide +kernel
theorem dX1_init_21 : decode cX1_init 21 = .ok (.aload_n 0, 1) := by decide +kernel
theorem dX1_init_22 : decode cX1_init 22 = .ok (.iconst 0, 1) := by decide +kernel
theorem dX1_init_23 : decode cX1_init 23 = .ok (.putfield 19, 3) := by decide +kernel
theorem dX1_init_26 : decode cX1_init 26 = .ok (.aload_n 0, 1) := by decide +kernel
theorem dX1_init_27 : decode cX1_init 27 = .ok (.iconst 0, 1) := by decide +kernel
theorem dX1_init_28 : decode cX1_init 28 = .ok (.putfield 23, 3) := by decide +kernel
theorem dX1_init_31 : decode cX1_init 31 = .ok (.aload_n 0, 1) := by decide +kernel
theorem dX1_init_32 : decode cX1_init 32 = .ok (.iload_n 1, 1) := by decide +kernel
theorem dX1_init_33 : decode cX1_init 33 = .ok (.iconst 1, 1) := by decide +kernel
theorem dX1_init_34 : decode cX1_init 34 = .ok (.invokestatic 26, 3) := by decide +kernel
theorem dX1_init_37 : decode cX1_init 37 = .ok (.bipush 20, 2) := by decide +kernel
theorem dX1_init_39 : decode cX1_init 39 = .ok (.invokestatic 32, 3) := by decide +kernel
theorem dX1_init_42 : decode cX1_init 42 = .ok (.putfield 35, 3) := by decide +kernel
theorem dX1_init_45 : decode cX1_init 45 = .ok (.aload_n 0, 1) := by decide +kernel
theorem dX1_init_46 : decode cX1_init 46 = .ok (.iload_n 2, 1) := by decide +kernel
theorem dX1_init_47 : decode cX1_init 47 = .ok (.iconst 1, 1) := by decide +kernel
theorem dX1_init_48 : decode cX1_init 48 = .ok (.invokestatic 26, 3) := by decide +kernel
theorem dX1_init_51 : decode cX1_init 51 = .ok (.bipush 9, 2) := by decide +kernel
theorem dX1_init_53 : decode cX1_init 53 = .ok (.invokestatic 32, 3) := by decide +kernel
theorem dX1_init_56 : decode cX1_init 56 = .ok (.putfield 38, 3) := by decide +kernel
theorem dX1_init_59 : decode cX1_init 59 = .ok (.aload_n 0, 1) := by decide +kernel
theorem dX1_init_60 : decode cX1_init 60 = .ok (.aload_n 0, 1) := by decide +kernel
theorem dX1_init_61 : decode cX1_init 61 = .ok (.getfield 35, 3) := by decide +kernel
theorem dX1_init_64 : decode cX1_init 64 = .ok (.aload_n 0, 1) := by decide +kernel
theorem dX1_init_65 : decode cX1_init 65 = .ok (.getfield 35, 3) := by decide +kernel
theorem dX1_init_68 : decode cX1_init 68 = .ok (.multianewarray 41 2, 4) := by decide +kernel
theorem dX1_init_72 : decode cX1_init 72 = .ok (.putfield 43, 3) := by decide +kernel
theorem dX1_init_75 : decode cX1_init 75 = .ok (.iconst 0, 1) := by decide +kernel
theorem dX1_init_76 : decode cX1_init 76 = .ok (.istore_n 3, 1) := by decide +kernel
theorem dX1_init_77 : decode cX1_init 77 = .ok (.iload_n 3, 1) := by decide +kernel
theorem dX1_init_78 : decode cX1_init 78 = .ok (.aload_n 0, 1) := by decide +kernel
theorem dX1_init_79 : decode cX1_init 79 = .ok (.getfield 35, 3) := by decide +kernel
theorem dX1_init_82 : decode cX1_init 82 = .ok (.if_icmp .ge 22, 3) := by decide +kernel
theorem dX1_init_85 : decode cX1_init 85 = .ok (.aload_n 0, 1) := by decide +kernel
theorem dX1_init_86 : decode cX1_init 86 = .ok (.getfield 43, 3) := by decide +kernel
theorem dX1_init_89 : decode cX1_init 89 = .ok (.iload_n 3, 1) := by decide +kernel
theorem dX1_init_90 : decode cX1_init 90 = .ok (.aaload, 1) := by decide +kernel
theorem dX1_init_91 : decode cX1_init 91 = .ok (.aload_n 0, 1) := by decide +kernel
theorem dX1_init_92 : decode cX1_init 92 = .ok (.getfield 38, 3) := by decide +kernel
theorem dX1_init_95 : decode cX1_init 95 = .ok (.invokestatic 46, 3) := by decide +kernel
theorem dX1_init_98 : decode cX1_init 98 = .ok (.iinc 3 1, 3) := by decide +kernel
theorem dX1_init_101 : decode cX1_init 101 = .ok (.goto (-24), 3) := by decide +kernel
theorem dX1_init_104 : decode cX1_init 104 = .ok (.aload_n 0, 1) := by decide +kernel
theorem dX1_init_105 : decode cX1_init 105 = .ok (.aload_n 0, 1) := by decide +kernel
theorem dX1_init_106 : decode cX1_init 106 = .ok (.getfield 35, 3) := by decide +kernel
theorem dX1_init_109 : decode cX1_init 109 = .ok (.newarray .int, 2) := by decide +kernel
theorem dX1_init_111 : decode cX1_init 111 = .ok (.putfield 52, 3) := by decide +kernel
theorem dX1_init_114 : decode cX1_init 114 = .ok (.aload_n 0, 1) := by decide +kernel
theorem dX1_init_115 : decode cX1_init 115 = .ok (.iconst 2, 1) := by decide +kernel
theorem dX1_init_116 : decode cX1_init 116 = .ok (.aload_n 0, 1) := by decide +kernel
theorem dX1_init_117 : decode cX1_init 117 = .ok (.getfield 38, 3) := by decide +kernel
theorem dX1_init_120 : decode cX1_init 120 = .ok (.iconst 1, 1) := by decide +kernel
theorem dX1_init_121 : decode cX1_init 121 = .ok (.iadd, 1) := by decide +kernel
theorem dX1_init_122 : decode cX1_init 122 = .ok (.multianewarray 41 2, 4) := by decide +kernel
theorem dX1_init_126 : decode cX1_init 126 = .ok (.putfield 55, 3) := by decide +kernel
theorem dX1_init_129 : decode cX1_init 129 = .ok (.aload_n 0, 1) := by decide +kernel
theorem dX1_init_130 : decode cX1_init 130 = .ok (.getfield 55, 3) := by decide +kernel
theorem dX1_init_133 : decode cX1_init 133 = .ok (.iconst 0, 1) := by decide +kernel
theorem dX1_init_134 : decode cX1_init 134 = .ok (.aaload, 1) := by decide +kernel
theorem dX1_init_135 : decode cX1_init 135 = .ok (.bipush 24, 2) := by decide +kernel
theorem dX1_init_137 : decode cX1_init 137 = .ok (.invokestatic 46, 3) := by decide +kernel
theorem dX1_init_140 : decode cX1_init 140 = .ok (.aload_n 0, 1) := by decide +kernel
theorem dX1_init_141 : decode cX1_init 141 = .ok (.getfield 55, 3) := by decide +kernel
theorem dX1_init_144 : decode cX1_init 144 = .ok (.iconst 1, 1) := by decide +kernel
theorem dX1_init_145 : decode cX1_init 145 = .ok (.aaload, 1) := by decide +kernel
theorem dX1_init_146 : decode cX1_init 146 = .ok (.bipush 24, 2) := by decide +kernel
theorem dX1_init_148 : decode cX1_init 148 = .ok (.invokestatic 46, 3) := by decide +kernel
theorem dX1_init_151 : decode cX1_init 151 = .ok (.aload_n 0, 1) := by decide +kernel
theorem dX1_init_152 : decode cX1_init 152 = .ok (.aload_n 0, 1) := by decide +kernel
theorem dX1_init_153 : decode cX1_init 153 = .ok (.getfield 38, 3) := by decide +kernel
theorem dX1_init_156 : decode cX1_init 156 = .ok (.iconst 1, 1) := by decide +kernel
theorem dX1_init_157 : decode cX1_init 157 = .ok (.iadd, 1) := by decide +kernel
theorem dX1_init_158 : decode cX1_init 158 = .ok (.newarray .long, 2) := by decide +kernel
theorem dX1_init_160 : decode cX1_init 160 = .ok (.putfield 58, 3) := by decide +kernel
theorem dX1_init_163 : decode cX1_init 163 = .ok (.return_, 1) := by decide +kernel
theorem dX1_need_0 : decode cX1_need 0 = .ok (.aload_n 0, 1) := by decide +kernel
theorem dX1_need_1 : decode cX1_need 1 = .ok (.iload_n 1, 1) := by decide +kernel
theorem dX1_need_2 : decode cX1_need 2 = .ok (.invokevirtual 62, 3) := by decide +kernel
theorem dX1_need_5 : decode cX1_need 5 = .ok (.ifCond .eq 23, 3) := by decide +kernel
theorem dX1_need_8 : decode cX1_need 8 = .ok (.aload_n 0, 1) := by decide +kernel
theorem dX1_need_9 : decode cX1_need 9 = .ok (.iload_n 2, 1) := by decide +kernel
theorem dX1_need_10 : decode cX1_need 10 = .ok (.invokevirtual 62, 3) := by decide +kernel
theorem dX1_need_13 : decode cX1_need 13 = .ok (.ifCond .eq 15, 3) := by decide +kernel
theorem dX1_need_16 : decode cX1_need 16 = .ok (.iload_n 3, 1) := by decide +kernel
theorem dX1_need_17 : decode cX1_need 17 = .ok (.ifCond .lt 11, 3) := by decide +kernel
theorem dX1_need_20 : decode cX1_need 20 = .ok (.iload_n 3, 1) := by decide +kernel
theorem dX1_need_21 : decode cX1_need 21 = .ok (.aload_n 0, 1) := by decide +kernel
theorem dX1_need_22 : decode cX1_need 22 = .ok (.getfield 38, 3) := by decide +kernel
theorem dX1_need_25 : decode cX1_need 25 = .ok (.if_icmp .le 5, 3) := by decide +kernel
theorem dX1_need_28 : decode cX1_need 28 = .ok (.iconst 0, 1) := by decide +kernel
theorem dX1_need_29 : decode cX1_need 29 = .ok (.ireturn, 1) := by decide +kernel
theorem dX1_need_30 : decode cX1_need 30 = .ok (.aload_n 0, 1) := by decide +kernel
theorem dX1_need_31 : decode cX1_need 31 = .ok (.getfield 43, 3) := by decide +kernel
theorem dX1_need_34 : decode cX1_need 34 = .ok (.iload_n 1, 1) := by decide +kernel
theorem dX1_need_35 : decode cX1_need 35 = .ok (.aaload, 1) := by decide +kernel
theorem dX1_need_36 : decode cX1_need 36 = .ok (.iload_n 2, 1) := by decide +kernel
theorem dX1_need_37 : decode cX1_need 37 = .ok (.iload_n 3, 1) := by decide +kernel
theorem dX1_need_38 : decode cX1_need 38 = .ok (.iastore, 1) := by decide +kernel
theorem dX1_need_39 : decode cX1_need 39 = .ok (.iconst 1, 1) := by decide +kernel
theorem dX1_need_40 : decode cX1_need 40 = .ok (.ireturn, 1) := by decide +kernel
theorem dX1_hours_0 : decode cX1_hours 0 = .ok (.aload_n 0, 1) := by decide +kernel
theorem dX1_hours_1 : decode cX1_hours 1 = .ok (.iload_n 1, 1) := by decide +kernel
theorem dX1_hours_2 : decode cX1_hours 2 = .ok (.invokevirtual 66, 3) := by decide +kernel
theorem dX1_hours_5 : decode cX1_hours 5 = .ok (.ifCond .eq 12, 3) := by decide +kernel
theorem dX1_hours_8 : decode cX1_hours 8 = .ok (.iload_n 2, 1) := by decide +kernel
theorem dX1_hours_9 : decode cX1_hours 9 = .ok (.ifCond .eq 10, 3) := by decide +kernel
theorem dX1_hours_12 : decode cX1_hours 12 = .ok (.iload_n 2, 1) := by decide +kernel
theorem dX1_hours_13 : decode cX1_hours 13 = .ok (.iconst 1, 1) := by decide +kernel
theorem dX1_hours_14 : decode cX1_hours 14 = .ok (.if_icmp .eq 5, 3) := by decide +kernel
theorem dX1_hours_17 : decode cX1_hours 17 = .ok (.iconst 0, 1) := by decide +kernel
theorem dX1_hours_18 : decode cX1_hours 18 = .ok (.ireturn, 1) := by decide +kernel
theorem dX1_hours_19 : decode cX1_hours 19 = .ok (.iload_n 3, 1) := by decide +kernel
theorem dX1_hours_20 : decode cX1_hours 20 = .ok (.ifCond .lt 9, 3) := by decide +kernel
theorem dX1_hours_23 : decode cX1_hours 23 = .ok (.iload_n 3, 1) := by decide +kernel
theorem dX1_hours_24 : decode cX1_hours 24 = .ok (.ldc 69, 2) := by decide +kernel
theorem dX1_hours_26 : decode cX1_hours 26 = .ok (.if_icmp .le 5, 3) := by decide +kernel
theorem dX1_hours_29 : decode cX1_hours 29 = .ok (.iconst 0, 1) := by decide +kernel
theorem dX1_hours_30 : decode cX1_hours 30 = .ok (.ireturn, 1) := by decide +kernel
theorem dX1_hours_31 : decode cX1_hours 31 = .ok (.aload_n 0, 1) := by decide +kernel
theorem dX1_hours_32 : decode cX1_hours 32 = .ok (.getfield 55, 3) := by decide +kernel
theorem dX1_hours_35 : decode cX1_hours 35 = .ok (.iload_n 2, 1) := by decide +kernel
theorem dX1_hours_36 : decode cX1_hours 36 = .ok (.aaload, 1) := by decide +kernel
theorem dX1_hours_37 : decode cX1_hours 37 = .ok (.iload_n 1, 1) := by decide +kernel
theorem dX1_hours_38 : decode cX1_hours 38 = .ok (.iload_n 3, 1) := by decide +kernel
theorem dX1_hours_39 : decode cX1_hours 39 = .ok (.iastore, 1) := by decide +kernel
theorem dX1_hours_40 : decode cX1_hours 40 = .ok (.iconst 1, 1) := by decide +kernel
theorem dX1_hours_41 : decode cX1_hours 41 = .ok (.ireturn, 1) := by decide +kernel
theorem dX1_thing_0 : decode cX1_thing 0 = .ok (.aload_n 0, 1) := by decide +kernel
theorem dX1_thing_1 : decode cX1_thing 1 = .ok (.getfield 19, 3) := by decide +kernel
theorem dX1_thing_4 : decode cX1_thing 4 = .ok (.bipush 32, 2) := by decide +kernel
theorem dX1_thing_6 : decode cX1_thing 6 = .ok (.if_icmp .lt 6, 3) := by decide +kernel
theorem dX1_thing_9 : decode cX1_thing 9 = .ok (.bipush (-2), 2) := by decide +kernel
theorem dX1_thing_11 : decode cX1_thing 11 = .ok (.ireturn, 1) := by decide +kernel
theorem dX1_thing_12 : decode cX1_thing 12 = .ok (.aload_n 0, 1) := by decide +kernel
theorem dX1_thing_13 : decode cX1_thing 13 = .ok (.getfield 19, 3) := by decide +kernel
theorem dX1_thing_16 : decode cX1_thing 16 = .ok (.istore_n 1, 1) := by decide +kernel
theorem dX1_thing_17 : decode cX1_thing 17 = .ok (.aload_n 0, 1) := by decide +kernel
theorem dX1_thing_18 : decode cX1_thing 18 = .ok (.getfield 9, 3) := by decide +kernel
theorem dX1_thing_21 : decode cX1_thing 21 = .ok (.iload_n 1, 1) := by decide +kernel
theorem dX1_thing_22 : decode cX1_thing 22 = .ok (.iload_n 1, 1) := by decide +kernel
theorem dX1_thing_23 : decode cX1_thing 23 = .ok (.iastore, 1) := by decide +kernel
theorem dX1_thing_24 : decode cX1_thing 24 = .ok (.aload_n 0, 1) := by decide +kernel
theorem dX1_thing_25 : decode cX1_thing 25 = .ok (.dup, 1) := by decide +kernel
theorem dX1_thing_26 : decode cX1_thing 26 = .ok (.getfield 19, 3) := by decide +kernel
theorem dX1_thing_29 : decode cX1_thing 29 = .ok (.iconst 1, 1) := by decide +kernel
theorem dX1_thing_30 : decode cX1_thing 30 = .ok (.iadd, 1) := by decide +kernel
theorem dX1_thing_31 : decode cX1_thing 31 = .ok (.putfield 19, 3) := by decide +kernel
theorem dX1_thing_34 : decode cX1_thing 34 = .ok (.iload_n 1, 1) := by decide +kernel
theorem dX1_thing_35 : decode cX1_thing 35 = .ok (.ireturn, 1) := by decide +kernel
theorem dX1_joinPipe_0 : decode cX1_joinPipe 0 = .ok (.aload_n 0, 1) := by decide +kernel
theorem dX1_joinPipe_1 : decode cX1_joinPipe 1 = .ok (.iload_n 1, 1) := by decide +kernel
theorem dX1_joinPipe_2 : decode cX1_joinPipe 2 = .ok (.invokevirtual 70, 3) := by decide +kernel
theorem dX1_joinPipe_5 : decode cX1_joinPipe 5 = .ok (.ifCond .eq 26, 3) := by decide +kernel
theorem dX1_joinPipe_8 : decode cX1_joinPipe 8 = .ok (.aload_n 0, 1) := by decide +kernel
theorem dX1_joinPipe_9 : decode cX1_joinPipe 9 = .ok (.iload_n 2, 1) := by decide +kernel
theorem dX1_joinPipe_10 : decode cX1_joinPipe 10 = .ok (.invokevirtual 70, 3) := by decide +kernel
theorem dX1_joinPipe_13 : decode cX1_joinPipe 13 = .ok (.ifCond .eq 18, 3) := by decide +kernel
theorem dX1_joinPipe_16 : decode cX1_joinPipe 16 = .ok (.aload_n 0, 1) := by decide +kernel
theorem dX1_joinPipe_17 : decode cX1_joinPipe 17 = .ok (.getfield 9, 3) := by decide +kernel
theorem dX1_joinPipe_20 : decode cX1_joinPipe 20 = .ok (.iload_n 1, 1) := by decide +kernel
theorem dX1_joinPipe_21 : decode cX1_joinPipe 21 = .ok (.iaload, 1) := by decide +kernel
theorem dX1_joinPipe_22 : decode cX1_joinPipe 22 = .ok (.aload_n 0, 1) := by decide +kernel
theorem dX1_joinPipe_23 : decode cX1_joinPipe 23 = .ok (.getfield 9, 3) := by decide +kernel
theorem dX1_joinPipe_26 : decode cX1_joinPipe 26 = .ok (.iload_n 2, 1) := by decide +kernel
theorem dX1_joinPipe_27 : decode cX1_joinPipe 27 = .ok (.iaload, 1) := by decide +kernel
theorem dX1_joinPipe_28 : decode cX1_joinPipe 28 = .ok (.if_icmp .ne 5, 3) := by decide +kernel
theorem dX1_joinPipe_31 : decode cX1_joinPipe 31 = .ok (.iconst 0, 1) := by decide +kernel
theorem dX1_joinPipe_32 : decode cX1_joinPipe 32 = .ok (.ireturn, 1) := by decide +kernel
theorem dX1_joinPipe_33 : decode cX1_joinPipe 33 = .ok (.aload_n 0, 1) := by decide +kernel
theorem dX1_joinPipe_34 : decode cX1_joinPipe 34 = .ok (.getfield 9, 3) := by decide +kernel
theorem dX1_joinPipe_37 : decode cX1_joinPipe 37 = .ok (.iload_n 1, 1) := by decide +kernel
theorem dX1_joinPipe_38 : decode cX1_joinPipe 38 = .ok (.iaload, 1) := by decide +kernel
theorem dX1_joinPipe_39 : decode cX1_joinPipe 39 = .ok (.istore_n 3, 1) := by decide +kernel
theorem dX1_joinPipe_40 : decode cX1_joinPipe 40 = .ok (.aload_n 0, 1) := by decide +kernel
theorem dX1_joinPipe_41 : decode cX1_joinPipe 41 = .ok (.getfield 9, 3) := by decide +kernel
theorem dX1_joinPipe_44 : decode cX1_joinPipe 44 = .ok (.iload_n 2, 1) := by decide +kernel
theorem dX1_joinPipe_45 : decode cX1_joinPipe 45 = .ok (.iaload, 1) := by decide +kernel
theorem dX1_joinPipe_46 : decode cX1_joinPipe 46 = .ok (.istore 4, 2) := by decide +kernel
theorem dX1_joinPipe_48 : decode cX1_joinPipe 48 = .ok (.iconst 0, 1) := by decide +kernel
theorem dX1_joinPipe_49 : decode cX1_joinPipe 49 = .ok (.istore 5, 2) := by decide +kernel
theorem dX1_joinPipe_51 : decode cX1_joinPipe 51 = .ok (.iload 5, 2) := by decide +kernel
theorem dX1_joinPipe_53 : decode cX1_joinPipe 53 = .ok (.aload_n 0, 1) := by decide +kernel
theorem dX1_joinPipe_54 : decode cX1_joinPipe 54 = .ok (.getfield 19, 3) := by decide +kernel
theorem dX1_joinPipe_57 : decode cX1_joinPipe 57 = .ok (.if_icmp .ge 29, 3) := by decide +kernel
theorem dX1_joinPipe_60 : decode cX1_joinPipe 60 = .ok (.aload_n 0, 1) := by decide +kernel
theorem dX1_joinPipe_61 : decode cX1_joinPipe 61 = .ok (.getfield 9, 3) := by decide +kernel
theorem dX1_joinPipe_64 : decode cX1_joinPipe 64 = .ok (.iload 5, 2) := by decide +kernel
theorem dX1_joinPipe_66 : decode cX1_joinPipe 66 = .ok (.iaload, 1) := by decide +kernel
theorem dX1_joinPipe_67 : decode cX1_joinPipe 67 = .ok (.iload 4, 2) := by decide +kernel
theorem dX1_joinPipe_69 : decode cX1_joinPipe 69 = .ok (.if_icmp .ne 11, 3) := by decide +kernel
theorem dX1_joinPipe_72 : decode cX1_joinPipe 72 = .ok (.aload_n 0, 1) := by decide +kernel
theorem dX1_joinPipe_73 : decode cX1_joinPipe 73 = .ok (.getfield 9, 3) := by decide +kernel
theorem dX1_joinPipe_76 : decode cX1_joinPipe 76 = .ok (.iload 5, 2) := by decide +kernel
theorem dX1_joinPipe_78 : decode cX1_joinPipe 78 = .ok (.iload_n 3, 1) := by decide +kernel
theorem dX1_joinPipe_79 : decode cX1_joinPipe 79 = .ok (.iastore, 1) := by decide +kernel
theorem dX1_joinPipe_80 : decode cX1_joinPipe 80 = .ok (.iinc 5 1, 3) := by decide +kernel
theorem dX1_joinPipe_83 : decode cX1_joinPipe 83 = .ok (.goto (-32), 3) := by decide +kernel
theorem dX1_joinPipe_86 : decode cX1_joinPipe 86 = .ok (.iconst 1, 1) := by decide +kernel
theorem dX1_joinPipe_87 : decode cX1_joinPipe 87 = .ok (.ireturn, 1) := by decide +kernel
theorem dX1_held_0 : decode cX1_held 0 = .ok (.aload_n 0, 1) := by decide +kernel
theorem dX1_held_1 : decode cX1_held 1 = .ok (.iload_n 2, 1) := by decide +kernel
theorem dX1_held_2 : decode cX1_held 2 = .ok (.invokevirtual 62, 3) := by decide +kernel
theorem dX1_held_5 : decode cX1_held 5 = .ok (.ifCond .eq 12, 3) := by decide +kernel
theorem dX1_held_8 : decode cX1_held 8 = .ok (.aload_n 0, 1) := by decide +kernel
theorem dX1_held_9 : decode cX1_held 9 = .ok (.iload_n 1, 1) := by decide +kernel
theorem dX1_held_10 : decode cX1_held 10 = .ok (.lload_n 3, 1) := by decide +kernel
theorem dX1_held_11 : decode cX1_held 11 = .ok (.invokevirtual 73, 3) := by decide +kernel
theorem dX1_held_14 : decode cX1_held 14 = .ok (.ifCond .ne 5, 3) := by decide +kernel
theorem dX1_held_17 : decode cX1_held 17 = .ok (.iconst 0, 1) := by decide +kernel
theorem dX1_held_18 : decode cX1_held 18 = .ok (.ireturn, 1) := by decide +kernel
theorem dX1_held_19 : decode cX1_held 19 = .ok (.aload_n 0, 1) := by decide +kernel
theorem dX1_held_20 : decode cX1_held 20 = .ok (.iload_n 1, 1) := by decide +kernel
theorem dX1_held_21 : decode cX1_held 21 = .ok (.new 13, 3) := by decide +kernel
theorem dX1_held_24 : decode cX1_held 24 = .ok (.dup, 1) := by decide +kernel
theorem dX1_held_25 : decode cX1_held 25 = .ok (.iload_n 2, 1) := by decide +kernel
theorem dX1_held_26 : decode cX1_held 26 = .ok (.iconst 0, 1) := by decide +kernel
theorem dX1_held_27 : decode cX1_held 27 = .ok (.lload_n 3, 1) := by decide +kernel
theorem dX1_held_28 : decode cX1_held 28 = .ok (.iconst 0, 1) := by decide +kernel
theorem dX1_held_29 : decode cX1_held 29 = .ok (.invokespecial 77, 3) := by decide +kernel
theorem dX1_held_32 : decode cX1_held 32 = .ok (.invokevirtual 80, 3) := by decide +kernel
theorem dX1_held_35 : decode cX1_held 35 = .ok (.iconst 1, 1) := by decide +kernel
theorem dX1_held_36 : decode cX1_held 36 = .ok (.ireturn, 1) := by decide +kernel
theorem dX1_cleaned_0 : decode cX1_cleaned 0 = .ok (.aload_n 0, 1) := by decide +kernel
theorem dX1_cleaned_1 : decode cX1_cleaned 1 = .ok (.iload_n 2, 1) := by decide +kernel
theorem dX1_cleaned_2 : decode cX1_cleaned 2 = .ok (.invokevirtual 66, 3) := by decide +kernel
theorem dX1_cleaned_5 : decode cX1_cleaned 5 = .ok (.ifCond .eq 12, 3) := by decide +kernel
theorem dX1_cleaned_8 : decode cX1_cleaned 8 = .ok (.aload_n 0, 1) := by decide +kernel
theorem dX1_cleaned_9 : decode cX1_cleaned 9 = .ok (.iload_n 1, 1) := by decide +kernel
theorem dX1_cleaned_10 : decode cX1_cleaned 10 = .ok (.lload_n 3, 1) := by decide +kernel
theorem dX1_cleaned_11 : decode cX1_cleaned 11 = .ok (.invokevirtual 73, 3) := by decide +kernel
theorem dX1_cleaned_14 : decode cX1_cleaned 14 = .ok (.ifCond .ne 5, 3) := by decide +kernel
theorem dX1_cleaned_17 : decode cX1_cleaned 17 = .ok (.iconst 0, 1) := by decide +kernel
theorem dX1_cleaned_18 : decode cX1_cleaned 18 = .ok (.ireturn, 1) := by decide +kernel
theorem dX1_cleaned_19 : decode cX1_cleaned 19 = .ok (.aload_n 0, 1) := by decide +kernel
theorem dX1_cleaned_20 : decode cX1_cleaned 20 = .ok (.iload_n 1, 1) := by decide +kernel
theorem dX1_cleaned_21 : decode cX1_cleaned 21 = .ok (.new 13, 3) := by decide +kernel
theorem dX1_cleaned_24 : decode cX1_cleaned 24 = .ok (.dup, 1) := by decide +kernel
theorem dX1_cleaned_25 : decode cX1_cleaned 25 = .ok (.iconst (-1), 1) := by decide +kernel
theorem dX1_cleaned_26 : decode cX1_cleaned 26 = .ok (.iload_n 2, 1) := by decide +kernel
theorem dX1_cleaned_27 : decode cX1_cleaned 27 = .ok (.lload_n 3, 1) := by decide +kernel
theorem dX1_cleaned_28 : decode cX1_cleaned 28 = .ok (.iconst 0, 1) := by decide +kernel
theorem dX1_cleaned_29 : decode cX1_cleaned 29 = .ok (.invokespecial 77, 3) := by decide +kernel
theorem dX1_cleaned_32 : decode cX1_cleaned 32 = .ok (.invokevirtual 80, 3) := by decide +kernel
theorem dX1_cleaned_35 : decode cX1_cleaned 35 = .ok (.iconst 1, 1) := by decide +kernel
theorem dX1_cleaned_36 : decode cX1_cleaned 36 = .ok (.ireturn, 1) := by decide +kernel
theorem dX1_may_0 : decode cX1_may 0 = .ok (.aload_n 0, 1) := by decide +kernel
theorem dX1_may_1 : decode cX1_may 1 = .ok (.iload_n 1, 1) := by decide +kernel
theorem dX1_may_2 : decode cX1_may 2 = .ok (.invokevirtual 70, 3) := by decide +kernel
theorem dX1_may_5 : decode cX1_may 5 = .ok (.ifCond .eq 10, 3) := by decide +kernel
theorem dX1_may_8 : decode cX1_may 8 = .ok (.lload_n 3, 1) := by decide +kernel
theorem dX1_may_9 : decode cX1_may 9 = .ok (.invokestatic 84, 3) := by decide +kernel
theorem dX1_may_12 : decode cX1_may 12 = .ok (.ifCond .ne 5, 3) := by decide +kernel
theorem dX1_may_15 : decode cX1_may 15 = .ok (.iconst (-1), 1) := by decide +kernel
theorem dX1_may_16 : decode cX1_may 16 = .ok (.ireturn, 1) := by decide +kernel
theorem dX1_may_17 : decode cX1_may 17 = .ok (.aload_n 0, 1) := by decide +kernel
theorem dX1_may_18 : decode cX1_may 18 = .ok (.iload_n 1, 1) := by decide +kernel
theorem dX1_may_19 : decode cX1_may 19 = .ok (.lload_n 3, 1) := by decide +kernel
theorem dX1_may_20 : decode cX1_may 20 = .ok (.invokevirtual 88, 3) := by decide +kernel
theorem dX1_may_23 : decode cX1_may 23 = .ok (.aload_n 0, 1) := by decide +kernel
theorem dX1_may_24 : decode cX1_may 24 = .ok (.iload_n 1, 1) := by decide +kernel
theorem dX1_may_25 : decode cX1_may 25 = .ok (.iload_n 2, 1) := by decide +kernel
theorem dX1_may_26 : decode cX1_may 26 = .ok (.lload_n 3, 1) := by decide +kernel
theorem dX1_may_27 : decode cX1_may 27 = .ok (.invokevirtual 92, 3) := by decide +kernel
theorem dX1_may_30 : decode cX1_may 30 = .ok (.if_icmp .lt 7, 3) := by decide +kernel
theorem dX1_may_33 : decode cX1_may 33 = .ok (.iconst 1, 1) := by decide +kernel
theorem dX1_may_34 : decode cX1_may 34 = .ok (.goto 4, 3) := by decide +kernel
theorem dX1_may_37 : decode cX1_may 37 = .ok (.iconst 0, 1) := by decide +kernel
theorem dX1_may_38 : decode cX1_may 38 = .ok (.ireturn, 1) := by decide +kernel
theorem dX1_least_0 : decode cX1_least 0 = .ok (.aload_n 0, 1) := by decide +kernel
theorem dX1_least_1 : decode cX1_least 1 = .ok (.iload_n 1, 1) := by decide +kernel
theorem dX1_least_2 : decode cX1_least 2 = .ok (.invokevirtual 70, 3) := by decide +kernel
theorem dX1_least_5 : decode cX1_least 5 = .ok (.ifCond .eq 10, 3) := by decide +kernel
theorem dX1_least_8 : decode cX1_least 8 = .ok (.lload_n 3, 1) := by decide +kernel
theorem dX1_least_9 : decode cX1_least 9 = .ok (.invokestatic 84, 3) := by decide +kernel
theorem dX1_least_12 : decode cX1_least 12 = .ok (.ifCond .ne 5, 3) := by decide +kernel
theorem dX1_least_15 : decode cX1_least 15 = .ok (.iconst (-1), 1) := by decide +kernel
theorem dX1_least_16 : decode cX1_least 16 = .ok (.ireturn, 1) := by decide +kernel
theorem dX1_least_17 : decode cX1_least 17 = .ok (.aload_n 0, 1) := by decide +kernel
theorem dX1_least_18 : decode cX1_least 18 = .ok (.iload_n 1, 1) := by decide +kernel
theorem dX1_least_19 : decode cX1_least 19 = .ok (.iload_n 2, 1) := by decide +kernel
theorem dX1_least_20 : decode cX1_least 20 = .ok (.lload_n 3, 1) := by decide +kernel
theorem dX1_least_21 : decode cX1_least 21 = .ok (.invokevirtual 92, 3) := by decide +kernel
theorem dX1_least_24 : decode cX1_least 24 = .ok (.istore 5, 2) := by decide +kernel
theorem dX1_least_26 : decode cX1_least 26 = .ok (.aload_n 0, 1) := by decide +kernel
theorem dX1_least_27 : decode cX1_least 27 = .ok (.iload_n 1, 1) := by decide +kernel
theorem dX1_least_28 : decode cX1_least 28 = .ok (.lload_n 3, 1) := by decide +kernel
theorem dX1_least_29 : decode cX1_least 29 = .ok (.invokevirtual 88, 3) := by decide +kernel
theorem dX1_least_32 : decode cX1_least 32 = .ok (.iload 5, 2) := by decide +kernel
theorem dX1_least_34 : decode cX1_least 34 = .ok (.if_icmp .lt 7, 3) := by decide +kernel
theorem dX1_least_37 : decode cX1_least 37 = .ok (.iconst 0, 1) := by decide +kernel
theorem dX1_least_38 : decode cX1_least 38 = .ok (.goto 9, 3) := by decide +kernel
theorem dX1_least_41 : decode cX1_least 41 = .ok (.aload_n 0, 1) := by decide +kernel
theorem dX1_least_42 : decode cX1_least 42 = .ok (.iload 5, 2) := by decide +kernel
theorem dX1_least_44 : decode cX1_least 44 = .ok (.invokevirtual 96, 3) := by decide +kernel
theorem dX1_least_47 : decode cX1_least 47 = .ok (.ireturn, 1) := by decide +kernel
theorem dX1_cost_0 : decode cX1_cost 0 = .ok (.aload_n 0, 1) := by decide +kernel
theorem dX1_cost_1 : decode cX1_cost 1 = .ok (.iload_n 1, 1) := by decide +kernel
theorem dX1_cost_2 : decode cX1_cost 2 = .ok (.invokevirtual 66, 3) := by decide +kernel
theorem dX1_cost_5 : decode cX1_cost 5 = .ok (.ifCond .eq 17, 3) := by decide +kernel
theorem dX1_cost_8 : decode cX1_cost 8 = .ok (.lload_n 2, 1) := by decide +kernel
theorem dX1_cost_9 : decode cX1_cost 9 = .ok (.lconst 0, 1) := by decide +kernel
theorem dX1_cost_10 : decode cX1_cost 10 = .ok (.lcmp, 1) := by decide +kernel
theorem dX1_cost_11 : decode cX1_cost 11 = .ok (.ifCond .lt 11, 3) := by decide +kernel
theorem dX1_cost_14 : decode cX1_cost 14 = .ok (.lload_n 2, 1) := by decide +kernel
theorem dX1_cost_15 : decode cX1_cost 15 = .ok (.ldc2_w 100, 3) := by decide +kernel
theorem dX1_cost_18 : decode cX1_cost 18 = .ok (.lcmp, 1) := by decide +kernel
theorem dX1_cost_19 : decode cX1_cost 19 = .ok (.ifCond .le 5, 3) := by decide +kernel
theorem dX1_cost_22 : decode cX1_cost 22 = .ok (.iconst 0, 1) := by decide +kernel
theorem dX1_cost_23 : decode cX1_cost 23 = .ok (.ireturn, 1) := by decide +kernel
theorem dX1_cost_24 : decode cX1_cost 24 = .ok (.aload_n 0, 1) := by decide +kernel
theorem dX1_cost_25 : decode cX1_cost 25 = .ok (.getfield 58, 3) := by decide +kernel
theorem dX1_cost_28 : decode cX1_cost 28 = .ok (.iload_n 1, 1) := by decide +kernel
theorem dX1_cost_29 : decode cX1_cost 29 = .ok (.lload_n 2, 1) := by decide +kernel
theorem dX1_cost_30 : decode cX1_cost 30 = .ok (.lastore, 1) := by decide +kernel
theorem dX1_cost_31 : decode cX1_cost 31 = .ok (.iconst 1, 1) := by decide +kernel
theorem dX1_cost_32 : decode cX1_cost 32 = .ok (.ireturn, 1) := by decide +kernel
theorem dX1_level_0 : decode cX1_level 0 = .ok (.aload_n 0, 1) := by decide +kernel
theorem dX1_level_1 : decode cX1_level 1 = .ok (.iload_n 1, 1) := by decide +kernel
theorem dX1_level_2 : decode cX1_level 2 = .ok (.invokevirtual 70, 3) := by decide +kernel
theorem dX1_level_5 : decode cX1_level 5 = .ok (.ifCond .eq 10, 3) := by decide +kernel
theorem dX1_level_8 : decode cX1_level 8 = .ok (.lload_n 2, 1) := by decide +kernel
theorem dX1_level_9 : decode cX1_level 9 = .ok (.invokestatic 84, 3) := by decide +kernel
theorem dX1_level_12 : decode cX1_level 12 = .ok (.ifCond .ne 5, 3) := by decide +kernel
theorem dX1_level_15 : decode cX1_level 15 = .ok (.iconst (-1), 1) := by decide +kernel
theorem dX1_level_16 : decode cX1_level 16 = .ok (.ireturn, 1) := by decide +kernel
theorem dX1_level_17 : decode cX1_level 17 = .ok (.aload_n 0, 1) := by decide +kernel
theorem dX1_level_18 : decode cX1_level 18 = .ok (.iload_n 1, 1) := by decide +kernel
theorem dX1_level_19 : decode cX1_level 19 = .ok (.lload_n 2, 1) := by decide +kernel
theorem dX1_level_20 : decode cX1_level 20 = .ok (.invokevirtual 88, 3) := by decide +kernel
theorem dX1_level_23 : decode cX1_level 23 = .ok (.ireturn, 1) := by decide +kernel
theorem dX1_told_0 : decode cX1_told 0 = .ok (.aload_n 0, 1) := by decide +kernel
theorem dX1_told_1 : decode cX1_told 1 = .ok (.iload_n 1, 1) := by decide +kernel
theorem dX1_told_2 : decode cX1_told 2 = .ok (.invokevirtual 70, 3) := by decide +kernel
theorem dX1_told_5 : decode cX1_told 5 = .ok (.ifCond .eq 26, 3) := by decide +kernel
theorem dX1_told_8 : decode cX1_told 8 = .ok (.aload_n 0, 1) := by decide +kernel
theorem dX1_told_9 : decode cX1_told 9 = .ok (.iload_n 2, 1) := by decide +kernel
theorem dX1_told_10 : decode cX1_told 10 = .ok (.invokevirtual 62, 3) := by decide +kernel
theorem dX1_told_13 : decode cX1_told 13 = .ok (.ifCond .eq 18, 3) := by decide +kernel
theorem dX1_told_16 : decode cX1_told 16 = .ok (.lload_n 3, 1) := by decide +kernel
theorem dX1_told_17 : decode cX1_told 17 = .ok (.invokestatic 84, 3) := by decide +kernel
theorem dX1_told_20 : decode cX1_told 20 = .ok (.ifCond .eq 11, 3) := by decide +kernel
theorem dX1_told_23 : decode cX1_told 23 = .ok (.lload 5, 2) := by decide +kernel
theorem dX1_told_25 : decode cX1_told 25 = .ok (.invokestatic 84, 3) := by decide +kernel
theorem dX1_told_28 : decode cX1_told 28 = .ok (.ifCond .ne 5, 3) := by decide +kernel
theorem dX1_told_31 : decode cX1_told 31 = .ok (.iconst 0, 1) := by decide +kernel
theorem dX1_told_32 : decode cX1_told 32 = .ok (.ireturn, 1) := by decide +kernel
theorem dX1_told_33 : decode cX1_told 33 = .ok (.lload 5, 2) := by decide +kernel
theorem dX1_told_35 : decode cX1_told 35 = .ok (.lload_n 3, 1) := by decide +kernel
theorem dX1_told_36 : decode cX1_told 36 = .ok (.lcmp, 1) := by decide +kernel
theorem dX1_told_37 : decode cX1_told 37 = .ok (.ifCond .lt 24, 3) := by decide +kernel
theorem dX1_told_40 : decode cX1_told 40 = .ok (.lload 5, 2) := by decide +kernel
theorem dX1_told_42 : decode cX1_told 42 = .ok (.aload_n 0, 1) := by decide +kernel
theorem dX1_told_43 : decode cX1_told 43 = .ok (.iload_n 1, 1) := by decide +kernel
theorem dX1_told_44 : decode cX1_told 44 = .ok (.invokevirtual 102, 3) := by decide +kernel
theorem dX1_told_47 : decode cX1_told 47 = .ok (.lcmp, 1) := by decide +kernel
theorem dX1_told_48 : decode cX1_told 48 = .ok (.ifCond .lt 13, 3) := by decide +kernel
theorem dX1_told_51 : decode cX1_told 51 = .ok (.aload_n 0, 1) := by decide +kernel
theorem dX1_told_52 : decode cX1_told 52 = .ok (.getfield 23, 3) := by decide +kernel
theorem dX1_told_55 : decode cX1_told 55 = .ok (.sipush 200, 3) := by decide +kernel
theorem dX1_told_58 : decode cX1_told 58 = .ok (.if_icmp .lt 5, 3) := by decide +kernel
theorem dX1_told_61 : decode cX1_told 61 = .ok (.iconst 0, 1) := by decide +kernel
theorem dX1_told_62 : decode cX1_told 62 = .ok (.ireturn, 1) := by decide +kernel
theorem dX1_told_63 : decode cX1_told 63 = .ok (.aload_n 0, 1) := by decide +kernel
theorem dX1_told_64 : decode cX1_told 64 = .ok (.iload_n 1, 1) := by decide +kernel
theorem dX1_told_65 : decode cX1_told 65 = .ok (.new 13, 3) := by decide +kernel
theorem dX1_told_68 : decode cX1_told 68 = .ok (.dup, 1) := by decide +kernel
theorem dX1_told_69 : decode cX1_told 69 = .ok (.iload_n 2, 1) := by decide +kernel
theorem dX1_told_70 : decode cX1_told 70 = .ok (.iconst 0, 1) := by decide +kernel
theorem dX1_told_71 : decode cX1_told 71 = .ok (.lload_n 3, 1) := by decide +kernel
theorem dX1_told_72 : decode cX1_told 72 = .ok (.iconst 1, 1) := by decide +kernel
theorem dX1_told_73 : decode cX1_told 73 = .ok (.invokespecial 77, 3) := by decide +kernel
theorem dX1_told_76 : decode cX1_told 76 = .ok (.invokevirtual 80, 3) := by decide +kernel
theorem dX1_told_79 : decode cX1_told 79 = .ok (.iconst 1, 1) := by decide +kernel
theorem dX1_told_80 : decode cX1_told 80 = .ok (.ireturn, 1) := by decide +kernel
theorem dX1_allergen_0 : decode cX1_allergen 0 = .ok (.aload_n 0, 1) := by decide +kernel
theorem dX1_allergen_1 : decode cX1_allergen 1 = .ok (.iload_n 1, 1) := by decide +kernel
theorem dX1_allergen_2 : decode cX1_allergen 2 = .ok (.invokevirtual 62, 3) := by decide +kernel
theorem dX1_allergen_5 : decode cX1_allergen 5 = .ok (.ifCond .eq 13, 3) := by decide +kernel
theorem dX1_allergen_8 : decode cX1_allergen 8 = .ok (.iload_n 2, 1) := by decide +kernel
theorem dX1_allergen_9 : decode cX1_allergen 9 = .ok (.ifCond .lt 9, 3) := by decide +kernel
theorem dX1_allergen_12 : decode cX1_allergen 12 = .ok (.iload_n 2, 1) := by decide +kernel
theorem dX1_allergen_13 : decode cX1_allergen 13 = .ok (.ldc 106, 2) := by decide +kernel
theorem dX1_allergen_15 : decode cX1_allergen 15 = .ok (.if_icmp .le 5, 3) := by decide +kernel
theorem dX1_allergen_18 : decode cX1_allergen 18 = .ok (.iconst (-1), 1) := by decide +kernel
theorem dX1_allergen_19 : decode cX1_allergen 19 = .ok (.ireturn, 1) := by decide +kernel
theorem dX1_allergen_20 : decode cX1_allergen 20 = .ok (.aload_n 0, 1) := by decide +kernel
theorem dX1_allergen_21 : decode cX1_allergen 21 = .ok (.getfield 52, 3) := by decide +kernel
theorem dX1_allergen_24 : decode cX1_allergen 24 = .ok (.iload_n 1, 1) := by decide +kernel
theorem dX1_allergen_25 : decode cX1_allergen 25 = .ok (.iaload, 1) := by decide +kernel
theorem dX1_allergen_26 : decode cX1_allergen 26 = .ok (.istore_n 3, 1) := by decide +kernel
