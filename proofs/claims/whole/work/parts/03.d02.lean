theorem dX11_joined_14 : decode cX11_joined 14 = .ok (.iload_n 3, 1) := by decide +kernel
theorem dX11_joined_15 : decode cX11_joined 15 = .ok (.iconst 0, 1) := by decide +kernel
theorem dX11_joined_16 : decode cX11_joined 16 = .ok (.iconst 3, 1) := by decide +kernel
theorem dX11_joined_17 : decode cX11_joined 17 = .ok (.invokestatic 94, 3) := by decide +kernel
theorem dX11_joined_20 : decode cX11_joined 20 = .ok (.ifCond .ne 6, 3) := by decide +kernel
theorem dX11_joined_23 : decode cX11_joined 23 = .ok (.ldc 98, 2) := by decide +kernel
theorem dX11_joined_25 : decode cX11_joined 25 = .ok (.ireturn, 1) := by decide +kernel
theorem dX11_joined_26 : decode cX11_joined 26 = .ok (.aload_n 0, 1) := by decide +kernel
theorem dX11_joined_27 : decode cX11_joined 27 = .ok (.getfield 48, 3) := by decide +kernel
theorem dX11_joined_30 : decode cX11_joined 30 = .ok (.aload_n 0, 1) := by decide +kernel
theorem dX11_joined_31 : decode cX11_joined 31 = .ok (.getfield 41, 3) := by decide +kernel
theorem dX11_joined_34 : decode cX11_joined 34 = .ok (.iload_n 1, 1) := by decide +kernel
theorem dX11_joined_35 : decode cX11_joined 35 = .ok (.aaload, 1) := by decide +kernel
theorem dX11_joined_36 : decode cX11_joined 36 = .ok (.aload_n 0, 1) := by decide +kernel
theorem dX11_joined_37 : decode cX11_joined 37 = .ok (.getfield 41, 3) := by decide +kernel
theorem dX11_joined_40 : decode cX11_joined 40 = .ok (.iload_n 2, 1) := by decide +kernel
theorem dX11_joined_41 : decode cX11_joined 41 = .ok (.aaload, 1) := by decide +kernel
theorem dX11_joined_42 : decode cX11_joined 42 = .ok (.invokevirtual 242, 3) := by decide +kernel
theorem dX11_joined_45 : decode cX11_joined 45 = .ok (.iload_n 3, 1) := by decide +kernel
theorem dX11_joined_46 : decode cX11_joined 46 = .ok (.ifCond .ne 11, 3) := by decide +kernel
theorem dX11_joined_49 : decode cX11_joined 49 = .ok (.aload_n 0, 1) := by decide +kernel
theorem dX11_joined_50 : decode cX11_joined 50 = .ok (.getfield 48, 3) := by decide +kernel
theorem dX11_joined_53 : decode cX11_joined 53 = .ok (.invokevirtual 245, 3) := by decide +kernel
theorem dX11_joined_56 : decode cX11_joined 56 = .ok (.ireturn, 1) := by decide +kernel
theorem dX11_joined_57 : decode cX11_joined 57 = .ok (.aload_n 0, 1) := by decide +kernel
theorem dX11_joined_58 : decode cX11_joined 58 = .ok (.getfield 48, 3) := by decide +kernel
theorem dX11_joined_61 : decode cX11_joined 61 = .ok (.invokevirtual 245, 3) := by decide +kernel
theorem dX11_joined_64 : decode cX11_joined 64 = .ok (.ifCond .ne 6, 3) := by decide +kernel
theorem dX11_joined_67 : decode cX11_joined 67 = .ok (.ldc 237, 2) := by decide +kernel
theorem dX11_joined_69 : decode cX11_joined 69 = .ok (.ireturn, 1) := by decide +kernel
theorem dX11_joined_70 : decode cX11_joined 70 = .ok (.iload_n 3, 1) := by decide +kernel
theorem dX11_joined_71 : decode cX11_joined 71 = .ok (.iconst 3, 1) := by decide +kernel
theorem dX11_joined_72 : decode cX11_joined 72 = .ok (.if_icmp .ne 11, 3) := by decide +kernel
theorem dX11_joined_75 : decode cX11_joined 75 = .ok (.aload_n 0, 1) := by decide +kernel
theorem dX11_joined_76 : decode cX11_joined 76 = .ok (.getfield 48, 3) := by decide +kernel
theorem dX11_joined_79 : decode cX11_joined 79 = .ok (.invokevirtual 248, 3) := by decide +kernel
theorem dX11_joined_82 : decode cX11_joined 82 = .ok (.ireturn, 1) := by decide +kernel
theorem dX11_joined_83 : decode cX11_joined 83 = .ok (.iload_n 3, 1) := by decide +kernel
theorem dX11_joined_84 : decode cX11_joined 84 = .ok (.iconst 1, 1) := by decide +kernel
theorem dX11_joined_85 : decode cX11_joined 85 = .ok (.if_icmp .ne 13, 3) := by decide +kernel
theorem dX11_joined_88 : decode cX11_joined 88 = .ok (.aload_n 0, 1) := by decide +kernel
theorem dX11_joined_89 : decode cX11_joined 89 = .ok (.getfield 48, 3) := by decide +kernel
theorem dX11_joined_92 : decode cX11_joined 92 = .ok (.invokevirtual 251, 3) := by decide +kernel
theorem dX11_joined_95 : decode cX11_joined 95 = .ok (.goto 10, 3) := by decide +kernel
theorem dX11_joined_98 : decode cX11_joined 98 = .ok (.aload_n 0, 1) := by decide +kernel
theorem dX11_joined_99 : decode cX11_joined 99 = .ok (.getfield 48, 3) := by decide +kernel
theorem dX11_joined_102 : decode cX11_joined 102 = .ok (.invokevirtual 254, 3) := by decide +kernel
theorem dX11_joined_105 : decode cX11_joined 105 = .ok (.ireturn, 1) := by decide +kernel
theorem dX11_round_0 : decode cX11_round 0 = .ok (.iload_n 1, 1) := by decide +kernel
theorem dX11_round_1 : decode cX11_round 1 = .ok (.iconst 2, 1) := by decide +kernel
theorem dX11_round_2 : decode cX11_round 2 = .ok (.bipush 8, 2) := by decide +kernel
theorem dX11_round_4 : decode cX11_round 4 = .ok (.invokestatic 94, 3) := by decide +kernel
theorem dX11_round_7 : decode cX11_round 7 = .ok (.ifCond .eq 12, 3) := by decide +kernel
theorem dX11_round_10 : decode cX11_round 10 = .ok (.iload_n 2, 1) := by decide +kernel
theorem dX11_round_11 : decode cX11_round 11 = .ok (.iconst 0, 1) := by decide +kernel
theorem dX11_round_12 : decode cX11_round 12 = .ok (.iconst 2, 1) := by decide +kernel
theorem dX11_round_13 : decode cX11_round 13 = .ok (.invokestatic 94, 3) := by decide +kernel
theorem dX11_round_16 : decode cX11_round 16 = .ok (.ifCond .ne 6, 3) := by decide +kernel
theorem dX11_round_19 : decode cX11_round 19 = .ok (.ldc 98, 2) := by decide +kernel
theorem dX11_round_21 : decode cX11_round 21 = .ok (.ireturn, 1) := by decide +kernel
theorem dX11_round_22 : decode cX11_round 22 = .ok (.aload_n 0, 1) := by decide +kernel
theorem dX11_round_23 : decode cX11_round 23 = .ok (.getfield 55, 3) := by decide +kernel
theorem dX11_round_26 : decode cX11_round 26 = .ok (.aload_n 0, 1) := by decide +kernel
theorem dX11_round_27 : decode cX11_round 27 = .ok (.getfield 41, 3) := by decide +kernel
theorem dX11_round_30 : decode cX11_round 30 = .ok (.iload_n 1, 1) := by decide +kernel
theorem dX11_round_31 : decode cX11_round 31 = .ok (.aload_n 0, 1) := by decide +kernel
theorem dX11_round_32 : decode cX11_round 32 = .ok (.getfield 48, 3) := by decide +kernel
theorem dX11_round_35 : decode cX11_round 35 = .ok (.invokevirtual 257, 3) := by decide +kernel
theorem dX11_round_38 : decode cX11_round 38 = .ok (.ifCond .ne 6, 3) := by decide +kernel
theorem dX11_round_41 : decode cX11_round 41 = .ok (.ldc 237, 2) := by decide +kernel
theorem dX11_round_43 : decode cX11_round 43 = .ok (.ireturn, 1) := by decide +kernel
theorem dX11_round_44 : decode cX11_round 44 = .ok (.iload_n 2, 1) := by decide +kernel
theorem dX11_round_45 : decode cX11_round 45 = .ok (.iconst 2, 1) := by decide +kernel
theorem dX11_round_46 : decode cX11_round 46 = .ok (.if_icmp .ne 11, 3) := by decide +kernel
theorem dX11_round_49 : decode cX11_round 49 = .ok (.aload_n 0, 1) := by decide +kernel
theorem dX11_round_50 : decode cX11_round 50 = .ok (.getfield 55, 3) := by decide +kernel
theorem dX11_round_53 : decode cX11_round 53 = .ok (.getfield 260, 3) := by decide +kernel
theorem dX11_round_56 : decode cX11_round 56 = .ok (.ireturn, 1) := by decide +kernel
theorem dX11_round_57 : decode cX11_round 57 = .ok (.iload_n 2, 1) := by decide +kernel
theorem dX11_round_58 : decode cX11_round 58 = .ok (.ifCond .ne 15, 3) := by decide +kernel
theorem dX11_round_61 : decode cX11_round 61 = .ok (.aload_n 0, 1) := by decide +kernel
theorem dX11_round_62 : decode cX11_round 62 = .ok (.getfield 55, 3) := by decide +kernel
theorem dX11_round_65 : decode cX11_round 65 = .ok (.getfield 262, 3) := by decide +kernel
theorem dX11_round_68 : decode cX11_round 68 = .ok (.iload_n 1, 1) := by decide +kernel
theorem dX11_round_69 : decode cX11_round 69 = .ok (.iaload, 1) := by decide +kernel
theorem dX11_round_70 : decode cX11_round 70 = .ok (.goto 12, 3) := by decide +kernel
theorem dX11_round_73 : decode cX11_round 73 = .ok (.aload_n 0, 1) := by decide +kernel
theorem dX11_round_74 : decode cX11_round 74 = .ok (.getfield 55, 3) := by decide +kernel
theorem dX11_round_77 : decode cX11_round 77 = .ok (.getfield 265, 3) := by decide +kernel
theorem dX11_round_80 : decode cX11_round 80 = .ok (.iload_n 1, 1) := by decide +kernel
theorem dX11_round_81 : decode cX11_round 81 = .ok (.iaload, 1) := by decide +kernel
theorem dX11_round_82 : decode cX11_round 82 = .ok (.ireturn, 1) := by decide +kernel
theorem dX11_around_0 : decode cX11_around 0 = .ok (.iload_n 1, 1) := by decide +kernel
theorem dX11_around_1 : decode cX11_around 1 = .ok (.iconst 2, 1) := by decide +kernel
theorem dX11_around_2 : decode cX11_around 2 = .ok (.bipush 8, 2) := by decide +kernel
theorem dX11_around_4 : decode cX11_around 4 = .ok (.invokestatic 94, 3) := by decide +kernel
theorem dX11_around_7 : decode cX11_around 7 = .ok (.ifCond .eq 19, 3) := by decide +kernel
theorem dX11_around_10 : decode cX11_around 10 = .ok (.iload_n 2, 1) := by decide +kernel
theorem dX11_around_11 : decode cX11_around 11 = .ok (.invokestatic 216, 3) := by decide +kernel
theorem dX11_around_14 : decode cX11_around 14 = .ok (.ifCond .eq 12, 3) := by decide +kernel
theorem dX11_around_17 : decode cX11_around 17 = .ok (.iload_n 3, 1) := by decide +kernel
theorem dX11_around_18 : decode cX11_around 18 = .ok (.iconst 0, 1) := by decide +kernel
theorem dX11_around_19 : decode cX11_around 19 = .ok (.iconst 1, 1) := by decide +kernel
theorem dX11_around_20 : decode cX11_around 20 = .ok (.invokestatic 94, 3) := by decide +kernel
theorem dX11_around_23 : decode cX11_around 23 = .ok (.ifCond .ne 6, 3) := by decide +kernel
theorem dX11_around_26 : decode cX11_around 26 = .ok (.ldc 98, 2) := by decide +kernel
theorem dX11_around_28 : decode cX11_around 28 = .ok (.ireturn, 1) := by decide +kernel
theorem dX11_around_29 : decode cX11_around 29 = .ok (.aload_n 0, 1) := by decide +kernel
theorem dX11_around_30 : decode cX11_around 30 = .ok (.getfield 55, 3) := by decide +kernel
theorem dX11_around_33 : decode cX11_around 33 = .ok (.aload_n 0, 1) := by decide +kernel
theorem dX11_around_34 : decode cX11_around 34 = .ok (.getfield 41, 3) := by decide +kernel
theorem dX11_around_37 : decode cX11_around 37 = .ok (.iload_n 1, 1) := by decide +kernel
theorem dX11_around_38 : decode cX11_around 38 = .ok (.aload_n 0, 1) := by decide +kernel
theorem dX11_around_39 : decode cX11_around 39 = .ok (.getfield 48, 3) := by decide +kernel
theorem dX11_around_42 : decode cX11_around 42 = .ok (.invokevirtual 257, 3) := by decide +kernel
theorem dX11_around_45 : decode cX11_around 45 = .ok (.ifCond .ne 6, 3) := by decide +kernel
theorem dX11_around_48 : decode cX11_around 48 = .ok (.ldc 237, 2) := by decide +kernel
theorem dX11_around_50 : decode cX11_around 50 = .ok (.ireturn, 1) := by decide +kernel
theorem dX11_around_51 : decode cX11_around 51 = .ok (.iconst 0, 1) := by decide +kernel
theorem dX11_around_52 : decode cX11_around 52 = .ok (.istore 4, 2) := by decide +kernel
theorem dX11_around_54 : decode cX11_around 54 = .ok (.iconst 0, 1) := by decide +kernel
theorem dX11_around_55 : decode cX11_around 55 = .ok (.istore 5, 2) := by decide +kernel
theorem dX11_around_57 : decode cX11_around 57 = .ok (.iconst 0, 1) := by decide +kernel
theorem dX11_around_58 : decode cX11_around 58 = .ok (.istore 6, 2) := by decide +kernel
theorem dX11_around_60 : decode cX11_around 60 = .ok (.iload 6, 2) := by decide +kernel
theorem dX11_around_62 : decode cX11_around 62 = .ok (.iload_n 1, 1) := by decide +kernel
theorem dX11_around_63 : decode cX11_around 63 = .ok (.if_icmp .ge 85, 3) := by decide +kernel
theorem dX11_around_66 : decode cX11_around 66 = .ok (.aload_n 0, 1) := by decide +kernel
theorem dX11_around_67 : decode cX11_around 67 = .ok (.getfield 41, 3) := by decide +kernel
theorem dX11_around_70 : decode cX11_around 70 = .ok (.iload 6, 2) := by decide +kernel
theorem dX11_around_72 : decode cX11_around 72 = .ok (.aaload, 1) := by decide +kernel
theorem dX11_around_73 : decode cX11_around 73 = .ok (.astore 7, 2) := by decide +kernel
theorem dX11_around_75 : decode cX11_around 75 = .ok (.aload 7, 2) := by decide +kernel
theorem dX11_around_77 : decode cX11_around 77 = .ok (.getfield 222, 3) := by decide +kernel
theorem dX11_around_80 : decode cX11_around 80 = .ok (.iload_n 2, 1) := by decide +kernel
theorem dX11_around_81 : decode cX11_around 81 = .ok (.baload, 1) := by decide +kernel
theorem dX11_around_82 : decode cX11_around 82 = .ok (.ifCond .eq 60, 3) := by decide +kernel
theorem dX11_around_85 : decode cX11_around 85 = .ok (.iinc 4 1, 3) := by decide +kernel
theorem dX11_around_88 : decode cX11_around 88 = .ok (.iload 5, 2) := by decide +kernel
theorem dX11_around_90 : decode cX11_around 90 = .ok (.iload_n 3, 1) := by decide +kernel
theorem dX11_around_91 : decode cX11_around 91 = .ok (.ifCond .ne 27, 3) := by decide +kernel
theorem dX11_around_94 : decode cX11_around 94 = .ok (.aload 7, 2) := by decide +kernel
theorem dX11_around_96 : decode cX11_around 96 = .ok (.getfield 238, 3) := by decide +kernel
theorem dX11_around_99 : decode cX11_around 99 = .ok (.iload_n 2, 1) := by decide +kernel
theorem dX11_around_100 : decode cX11_around 100 = .ok (.iaload, 1) := by decide +kernel
theorem dX11_around_101 : decode cX11_around 101 = .ok (.aload_n 0, 1) := by decide +kernel
theorem dX11_around_102 : decode cX11_around 102 = .ok (.getfield 55, 3) := by decide +kernel
theorem dX11_around_105 : decode cX11_around 105 = .ok (.getfield 262, 3) := by decide +kernel
theorem dX11_around_108 : decode cX11_around 108 = .ok (.iload 6, 2) := by decide +kernel
theorem dX11_around_110 : decode cX11_around 110 = .ok (.iload_n 1, 1) := by decide +kernel
theorem dX11_around_111 : decode cX11_around 111 = .ok (.invokestatic 268, 3) := by decide +kernel
theorem dX11_around_114 : decode cX11_around 114 = .ok (.iadd, 1) := by decide +kernel
theorem dX11_around_115 : decode cX11_around 115 = .ok (.goto 24, 3) := by decide +kernel
theorem dX11_around_118 : decode cX11_around 118 = .ok (.aload 7, 2) := by decide +kernel
theorem dX11_around_120 : decode cX11_around 120 = .ok (.getfield 240, 3) := by decide +kernel
theorem dX11_around_123 : decode cX11_around 123 = .ok (.iload_n 2, 1) := by decide +kernel
theorem dX11_around_124 : decode cX11_around 124 = .ok (.iaload, 1) := by decide +kernel
theorem dX11_around_125 : decode cX11_around 125 = .ok (.aload_n 0, 1) := by decide +kernel
theorem dX11_around_126 : decode cX11_around 126 = .ok (.getfield 55, 3) := by decide +kernel
theorem dX11_around_129 : decode cX11_around 129 = .ok (.getfield 265, 3) := by decide +kernel
theorem dX11_around_132 : decode cX11_around 132 = .ok (.iload 6, 2) := by decide +kernel
theorem dX11_around_134 : decode cX11_around 134 = .ok (.iload_n 1, 1) := by decide +kernel
theorem dX11_around_135 : decode cX11_around 135 = .ok (.invokestatic 268, 3) := by decide +kernel
theorem dX11_around_138 : decode cX11_around 138 = .ok (.iadd, 1) := by decide +kernel
theorem dX11_around_139 : decode cX11_around 139 = .ok (.iadd, 1) := by decide +kernel
theorem dX11_around_140 : decode cX11_around 140 = .ok (.istore 5, 2) := by decide +kernel
theorem dX11_around_142 : decode cX11_around 142 = .ok (.iinc 6 1, 3) := by decide +kernel
theorem dX11_around_145 : decode cX11_around 145 = .ok (.goto (-85), 3) := by decide +kernel
theorem dX11_around_148 : decode cX11_around 148 = .ok (.iload 4, 2) := by decide +kernel
theorem dX11_around_150 : decode cX11_around 150 = .ok (.ifCond .ne 8, 3) := by decide +kernel
theorem dX11_around_153 : decode cX11_around 153 = .ok (.ldc 237, 2) := by decide +kernel
theorem dX11_around_155 : decode cX11_around 155 = .ok (.goto 10, 3) := by decide +kernel
theorem dX11_around_158 : decode cX11_around 158 = .ok (.iload 5, 2) := by decide +kernel
theorem dX11_around_160 : decode cX11_around 160 = .ok (.iload 4, 2) := by decide +kernel
theorem dX11_around_162 : decode cX11_around 162 = .ok (.invokestatic 272, 3) := by decide +kernel
theorem dX11_around_165 : decode cX11_around 165 = .ok (.ireturn, 1) := by decide +kernel
theorem dX11_stand_0 : decode cX11_stand 0 = .ok (.iload_n 1, 1) := by decide +kernel
theorem dX11_stand_1 : decode cX11_stand 1 = .ok (.iconst 0, 1) := by decide +kernel
theorem dX11_stand_2 : decode cX11_stand 2 = .ok (.iconst 1, 1) := by decide +kernel
theorem dX11_stand_3 : decode cX11_stand 3 = .ok (.invokestatic 94, 3) := by decide +kernel
theorem dX11_stand_6 : decode cX11_stand 6 = .ok (.ifCond .eq 20, 3) := by decide +kernel
theorem dX11_stand_9 : decode cX11_stand 9 = .ok (.iload 4, 2) := by decide +kernel
theorem dX11_stand_11 : decode cX11_stand 11 = .ok (.ifCond .lt 15, 3) := by decide +kernel
theorem dX11_stand_14 : decode cX11_stand 14 = .ok (.iload_n 2, 1) := by decide +kernel
theorem dX11_stand_15 : decode cX11_stand 15 = .ok (.iload_n 3, 1) := by decide +kernel
theorem dX11_stand_16 : decode cX11_stand 16 = .ok (.iload 4, 2) := by decide +kernel
theorem dX11_stand_18 : decode cX11_stand 18 = .ok (.iload 5, 2) := by decide +kernel
theorem dX11_stand_20 : decode cX11_stand 20 = .ok (.invokestatic 275, 3) := by decide +kernel
theorem dX11_stand_23 : decode cX11_stand 23 = .ok (.ifCond .ne 6, 3) := by decide +kernel
theorem dX11_stand_26 : decode cX11_stand 26 = .ok (.ldc 98, 2) := by decide +kernel
theorem dX11_stand_28 : decode cX11_stand 28 = .ok (.ireturn, 1) := by decide +kernel
theorem dX11_stand_29 : decode cX11_stand 29 = .ok (.aload_n 0, 1) := by decide +kernel
theorem dX11_stand_30 : decode cX11_stand 30 = .ok (.getfield 61, 3) := by decide +kernel
theorem dX11_stand_33 : decode cX11_stand 33 = .ok (.iload_n 1, 1) := by decide +kernel
theorem dX11_stand_34 : decode cX11_stand 34 = .ok (.aaload, 1) := by decide +kernel
theorem dX11_stand_35 : decode cX11_stand 35 = .ok (.iload_n 2, 1) := by decide +kernel
theorem dX11_stand_36 : decode cX11_stand 36 = .ok (.iload_n 3, 1) := by decide +kernel
theorem dX11_stand_37 : decode cX11_stand 37 = .ok (.iload 4, 2) := by decide +kernel
theorem dX11_stand_39 : decode cX11_stand 39 = .ok (.iload 5, 2) := by decide +kernel
theorem dX11_stand_41 : decode cX11_stand 41 = .ok (.invokevirtual 279, 3) := by decide +kernel
theorem dX11_stand_44 : decode cX11_stand 44 = .ok (.iconst 1, 1) := by decide +kernel
theorem dX11_stand_45 : decode cX11_stand 45 = .ok (.ireturn, 1) := by decide +kernel
theorem dX11_far_0 : decode cX11_far 0 = .ok (.iload_n 1, 1) := by decide +kernel
theorem dX11_far_1 : decode cX11_far 1 = .ok (.invokestatic 219, 3) := by decide +kernel
theorem dX11_far_4 : decode cX11_far 4 = .ok (.ifCond .eq 19, 3) := by decide +kernel
theorem dX11_far_7 : decode cX11_far 7 = .ok (.iload_n 2, 1) := by decide +kernel
theorem dX11_far_8 : decode cX11_far 8 = .ok (.invokestatic 219, 3) := by decide +kernel
theorem dX11_far_11 : decode cX11_far 11 = .ok (.ifCond .eq 12, 3) := by decide +kernel
theorem dX11_far_14 : decode cX11_far 14 = .ok (.iload_n 3, 1) := by decide +kernel
theorem dX11_far_15 : decode cX11_far 15 = .ok (.iconst 0, 1) := by decide +kernel
theorem dX11_far_16 : decode cX11_far 16 = .ok (.iconst 1, 1) := by decide +kernel
theorem dX11_far_17 : decode cX11_far 17 = .ok (.invokestatic 94, 3) := by decide +kernel
theorem dX11_far_20 : decode cX11_far 20 = .ok (.ifCond .ne 7, 3) := by decide +kernel
theorem dX11_far_23 : decode cX11_far 23 = .ok (.ldc2_w 282, 3) := by decide +kernel
theorem dX11_far_26 : decode cX11_far 26 = .ok (.lreturn, 1) := by decide +kernel
theorem dX11_far_27 : decode cX11_far 27 = .ok (.aload_n 0, 1) := by decide +kernel
theorem dX11_far_28 : decode cX11_far 28 = .ok (.getfield 68, 3) := by decide +kernel
theorem dX11_far_31 : decode cX11_far 31 = .ok (.aload_n 0, 1) := by decide +kernel
theorem dX11_far_32 : decode cX11_far 32 = .ok (.getfield 61, 3) := by decide +kernel
theorem dX11_far_35 : decode cX11_far 35 = .ok (.iconst 0, 1) := by decide +kernel
theorem dX11_far_36 : decode cX11_far 36 = .ok (.aaload, 1) := by decide +kernel
theorem dX11_far_37 : decode cX11_far 37 = .ok (.aload_n 0, 1) := by decide +kernel
theorem dX11_far_38 : decode cX11_far 38 = .ok (.getfield 61, 3) := by decide +kernel
theorem dX11_far_41 : decode cX11_far 41 = .ok (.iconst 1, 1) := by decide +kernel
theorem dX11_far_42 : decode cX11_far 42 = .ok (.aaload, 1) := by decide +kernel
theorem dX11_far_43 : decode cX11_far 43 = .ok (.iload_n 1, 1) := by decide +kernel
theorem dX11_far_44 : decode cX11_far 44 = .ok (.i2l, 1) := by decide +kernel
theorem dX11_far_45 : decode cX11_far 45 = .ok (.iload_n 2, 1) := by decide +kernel
theorem dX11_far_46 : decode cX11_far 46 = .ok (.i2l, 1) := by decide +kernel
theorem dX11_far_47 : decode cX11_far 47 = .ok (.invokevirtual 284, 3) := by decide +kernel
theorem dX11_far_50 : decode cX11_far 50 = .ok (.ifCond .ne 7, 3) := by decide +kernel
theorem dX11_far_53 : decode cX11_far 53 = .ok (.ldc2_w 287, 3) := by decide +kernel
theorem dX11_far_56 : decode cX11_far 56 = .ok (.lreturn, 1) := by decide +kernel
theorem dX11_far_57 : decode cX11_far 57 = .ok (.iload_n 3, 1) := by decide +kernel
theorem dX11_far_58 : decode cX11_far 58 = .ok (.ifCond .ne 13, 3) := by decide +kernel
theorem dX11_far_61 : decode cX11_far 61 = .ok (.aload_n 0, 1) := by decide +kernel
theorem dX11_far_62 : decode cX11_far 62 = .ok (.getfield 68, 3) := by decide +kernel
theorem dX11_far_65 : decode cX11_far 65 = .ok (.getfield 289, 3) := by decide +kernel
theorem dX11_far_68 : decode cX11_far 68 = .ok (.goto 10, 3) := by decide +kernel
theorem dX11_far_71 : decode cX11_far 71 = .ok (.aload_n 0, 1) := by decide +kernel
theorem dX11_far_72 : decode cX11_far 72 = .ok (.getfield 68, 3) := by decide +kernel
theorem dX11_far_75 : decode cX11_far 75 = .ok (.getfield 293, 3) := by decide +kernel
theorem dX11_far_78 : decode cX11_far 78 = .ok (.lreturn, 1) := by decide +kernel
theorem dX11_high_0 : decode cX11_high 0 = .ok (.iload_n 1, 1) := by decide +kernel
theorem dX11_high_1 : decode cX11_high 1 = .ok (.invokestatic 219, 3) := by decide +kernel
theorem dX11_high_4 : decode cX11_high 4 = .ok (.ifCond .eq 17, 3) := by decide +kernel
theorem dX11_high_7 : decode cX11_high 7 = .ok (.iload_n 2, 1) := by decide +kernel
theorem dX11_high_8 : decode cX11_high 8 = .ok (.invokestatic 219, 3) := by decide +kernel
theorem dX11_high_11 : decode cX11_high 11 = .ok (.ifCond .eq 10, 3) := by decide +kernel
theorem dX11_high_14 : decode cX11_high 14 = .ok (.iload_n 3, 1) := by decide +kernel
theorem dX11_high_15 : decode cX11_high 15 = .ok (.invokestatic 219, 3) := by decide +kernel
theorem dX11_high_18 : decode cX11_high 18 = .ok (.ifCond .ne 7, 3) := by decide +kernel
theorem dX11_high_21 : decode cX11_high 21 = .ok (.ldc2_w 282, 3) := by decide +kernel
theorem dX11_high_24 : decode cX11_high 24 = .ok (.lreturn, 1) := by decide +kernel
theorem dX11_high_25 : decode cX11_high 25 = .ok (.aload_n 0, 1) := by decide +kernel
theorem dX11_high_26 : decode cX11_high 26 = .ok (.getfield 68, 3) := by decide +kernel
theorem dX11_high_29 : decode cX11_high 29 = .ok (.aload_n 0, 1) := by decide +kernel
theorem dX11_high_30 : decode cX11_high 30 = .ok (.getfield 61, 3) := by decide +kernel
theorem dX11_high_33 : decode cX11_high 33 = .ok (.iconst 0, 1) := by decide +kernel
theorem dX11_high_34 : decode cX11_high 34 = .ok (.aaload, 1) := by decide +kernel
theorem dX11_high_35 : decode cX11_high 35 = .ok (.aload_n 0, 1) := by decide +kernel
theorem dX11_high_36 : decode cX11_high 36 = .ok (.getfield 61, 3) := by decide +kernel
theorem dX11_high_39 : decode cX11_high 39 = .ok (.iconst 1, 1) := by decide +kernel
theorem dX11_high_40 : decode cX11_high 40 = .ok (.aaload, 1) := by decide +kernel
theorem dX11_high_41 : decode cX11_high 41 = .ok (.iload_n 1, 1) := by decide +kernel
theorem dX11_high_42 : decode cX11_high 42 = .ok (.i2l, 1) := by decide +kernel
theorem dX11_high_43 : decode cX11_high 43 = .ok (.iload_n 2, 1) := by decide +kernel
theorem dX11_high_44 : decode cX11_high 44 = .ok (.i2l, 1) := by decide +kernel
theorem dX11_high_45 : decode cX11_high 45 = .ok (.invokevirtual 284, 3) := by decide +kernel
theorem dX11_high_48 : decode cX11_high 48 = .ok (.ifCond .ne 7, 3) := by decide +kernel
theorem dX11_high_51 : decode cX11_high 51 = .ok (.ldc2_w 287, 3) := by decide +kernel
theorem dX11_high_54 : decode cX11_high 54 = .ok (.lreturn, 1) := by decide +kernel
theorem dX11_high_55 : decode cX11_high 55 = .ok (.aload_n 0, 1) := by decide +kernel
theorem dX11_high_56 : decode cX11_high 56 = .ok (.getfield 68, 3) := by decide +kernel
theorem dX11_high_59 : decode cX11_high 59 = .ok (.aload_n 0, 1) := by decide +kernel
theorem dX11_high_60 : decode cX11_high 60 = .ok (.getfield 61, 3) := by decide +kernel
theorem dX11_high_63 : decode cX11_high 63 = .ok (.iconst 0, 1) := by decide +kernel
theorem dX11_high_64 : decode cX11_high 64 = .ok (.aaload, 1) := by decide +kernel
theorem dX11_high_65 : decode cX11_high 65 = .ok (.iload_n 3, 1) := by decide +kernel
theorem dX11_high_66 : decode cX11_high 66 = .ok (.i2l, 1) := by decide +kernel
theorem dX11_high_67 : decode cX11_high 67 = .ok (.invokevirtual 296, 3) := by decide +kernel
theorem dX11_high_70 : decode cX11_high 70 = .ok (.lreturn, 1) := by decide +kernel
theorem dX11_span_0 : decode cX11_span 0 = .ok (.iload_n 1, 1) := by decide +kernel
theorem dX11_span_1 : decode cX11_span 1 = .ok (.invokestatic 219, 3) := by decide +kernel
theorem dX11_span_4 : decode cX11_span 4 = .ok (.ifCond .eq 30, 3) := by decide +kernel
theorem dX11_span_7 : decode cX11_span 7 = .ok (.iload_n 2, 1) := by decide +kernel
theorem dX11_span_8 : decode cX11_span 8 = .ok (.invokestatic 219, 3) := by decide +kernel
theorem dX11_span_11 : decode cX11_span 11 = .ok (.ifCond .eq 23, 3) := by decide +kernel
theorem dX11_span_14 : decode cX11_span 14 = .ok (.iload_n 3, 1) := by decide +kernel
theorem dX11_span_15 : decode cX11_span 15 = .ok (.iconst 0, 1) := by decide +kernel
theorem dX11_span_16 : decode cX11_span 16 = .ok (.bipush 20, 2) := by decide +kernel
theorem dX11_span_18 : decode cX11_span 18 = .ok (.invokestatic 94, 3) := by decide +kernel
theorem dX11_span_21 : decode cX11_span 21 = .ok (.ifCond .eq 13, 3) := by decide +kernel
theorem dX11_span_24 : decode cX11_span 24 = .ok (.iload 4, 2) := by decide +kernel
theorem dX11_span_26 : decode cX11_span 26 = .ok (.iconst 0, 1) := by decide +kernel
theorem dX11_span_27 : decode cX11_span 27 = .ok (.iconst 1, 1) := by decide +kernel
theorem dX11_span_28 : decode cX11_span 28 = .ok (.invokestatic 94, 3) := by decide +kernel
theorem dX11_span_31 : decode cX11_span 31 = .ok (.ifCond .ne 7, 3) := by decide +kernel
theorem dX11_span_34 : decode cX11_span 34 = .ok (.ldc2_w 282, 3) := by decide +kernel
theorem dX11_span_37 : decode cX11_span 37 = .ok (.lreturn, 1) := by decide +kernel
theorem dX11_span_38 : decode cX11_span 38 = .ok (.aload_n 0, 1) := by decide +kernel
theorem dX11_span_39 : decode cX11_span 39 = .ok (.getfield 68, 3) := by decide +kernel
theorem dX11_span_42 : decode cX11_span 42 = .ok (.aload_n 0, 1) := by decide +kernel
theorem dX11_span_43 : decode cX11_span 43 = .ok (.getfield 61, 3) := by decide +kernel
theorem dX11_span_46 : decode cX11_span 46 = .ok (.iconst 0, 1) := by decide +kernel
theorem dX11_span_47 : decode cX11_span 47 = .ok (.aaload, 1) := by decide +kernel
theorem dX11_span_48 : decode cX11_span 48 = .ok (.aload_n 0, 1) := by decide +kernel
theorem dX11_span_49 : decode cX11_span 49 = .ok (.getfield 61, 3) := by decide +kernel
theorem dX11_span_52 : decode cX11_span 52 = .ok (.iconst 1, 1) := by decide +kernel
theorem dX11_span_53 : decode cX11_span 53 = .ok (.aaload, 1) := by decide +kernel
theorem dX11_span_54 : decode cX11_span 54 = .ok (.iload_n 1, 1) := by decide +kernel
theorem dX11_span_55 : decode cX11_span 55 = .ok (.i2l, 1) := by decide +kernel
theorem dX11_span_56 : decode cX11_span 56 = .ok (.iload_n 2, 1) := by decide +kernel
theorem dX11_span_57 : decode cX11_span 57 = .ok (.i2l, 1) := by decide +kernel
theorem dX11_span_58 : decode cX11_span 58 = .ok (.invokevirtual 284, 3) := by decide +kernel
theorem dX11_span_61 : decode cX11_span 61 = .ok (.ifCond .ne 7, 3) := by decide +kernel
theorem dX11_span_64 : decode cX11_span 64 = .ok (.ldc2_w 287, 3) := by decide +kernel
theorem dX11_span_67 : decode cX11_span 67 = .ok (.lreturn, 1) := by decide +kernel
theorem dX11_span_68 : decode cX11_span 68 = .ok (.aload_n 0, 1) := by decide +kernel
theorem dX11_span_69 : decode cX11_span 69 = .ok (.getfield 68, 3) := by decide +kernel
theorem dX11_span_72 : decode cX11_span 72 = .ok (.getfield 289, 3) := by decide +kernel
theorem dX11_span_75 : decode cX11_span 75 = .ok (.aload_n 0, 1) := by decide +kernel
theorem dX11_span_76 : decode cX11_span 76 = .ok (.getfield 68, 3) := by decide +kernel
theorem dX11_span_79 : decode cX11_span 79 = .ok (.getfield 293, 3) := by decide +kernel
theorem dX11_span_82 : decode cX11_span 82 = .ok (.invokestatic 300, 3) := by decide +kernel
theorem dX11_span_85 : decode cX11_span 85 = .ok (.lstore 5, 2) := by decide +kernel
theorem dX11_span_87 : decode cX11_span 87 = .ok (.lload 5, 2) := by decide +kernel
theorem dX11_span_89 : decode cX11_span 89 = .ok (.lstore 7, 2) := by decide +kernel
theorem dX11_span_91 : decode cX11_span 91 = .ok (.iconst (-1), 1) := by decide +kernel
theorem dX11_span_92 : decode cX11_span 92 = .ok (.istore 9, 2) := by decide +kernel
theorem dX11_span_94 : decode cX11_span 94 = .ok (.iload 9, 2) := by decide +kernel
theorem dX11_span_96 : decode cX11_span 96 = .ok (.iconst 1, 1) := by decide +kernel
theorem dX11_span_97 : decode cX11_span 97 = .ok (.if_icmp .gt 101, 3) := by decide +kernel
theorem dX11_span_100 : decode cX11_span 100 = .ok (.iconst (-1), 1) := by decide +kernel
theorem dX11_span_101 : decode cX11_span 101 = .ok (.istore 10, 2) := by decide +kernel
theorem dX11_span_103 : decode cX11_span 103 = .ok (.iload 10, 2) := by decide +kernel
theorem dX11_span_105 : decode cX11_span 105 = .ok (.iconst 1, 1) := by decide +kernel
theorem dX11_span_106 : decode cX11_span 106 = .ok (.if_icmp .gt 86, 3) := by decide +kernel
theorem dX11_span_109 : decode cX11_span 109 = .ok (.aload_n 0, 1) := by decide +kernel
theorem dX11_span_110 : decode cX11_span 110 = .ok (.getfield 68, 3) := by decide +kernel
theorem dX11_span_113 : decode cX11_span 113 = .ok (.aload_n 0, 1) := by decide +kernel
theorem dX11_span_114 : decode cX11_span 114 = .ok (.getfield 61, 3) := by decide +kernel
theorem dX11_span_117 : decode cX11_span 117 = .ok (.iconst 0, 1) := by decide +kernel
theorem dX11_span_118 : decode cX11_span 118 = .ok (.aaload, 1) := by decide +kernel
theorem dX11_span_119 : decode cX11_span 119 = .ok (.aload_n 0, 1) := by decide +kernel
theorem dX11_span_120 : decode cX11_span 120 = .ok (.getfield 61, 3) := by decide +kernel
theorem dX11_span_123 : decode cX11_span 123 = .ok (.iconst 1, 1) := by decide +kernel
theorem dX11_span_124 : decode cX11_span 124 = .ok (.aaload, 1) := by decide +kernel
theorem dX11_span_125 : decode cX11_span 125 = .ok (.iload_n 1, 1) := by decide +kernel
theorem dX11_span_126 : decode cX11_span 126 = .ok (.iload 9, 2) := by decide +kernel
theorem dX11_span_128 : decode cX11_span 128 = .ok (.iload_n 3, 1) := by decide +kernel
theorem dX11_span_129 : decode cX11_span 129 = .ok (.imul, 1) := by decide +kernel
theorem dX11_span_130 : decode cX11_span 130 = .ok (.iadd, 1) := by decide +kernel
theorem dX11_span_131 : decode cX11_span 131 = .ok (.i2l, 1) := by decide +kernel
theorem dX11_span_132 : decode cX11_span 132 = .ok (.iload_n 2, 1) := by decide +kernel
theorem dX11_span_133 : decode cX11_span 133 = .ok (.iload 10, 2) := by decide +kernel
theorem dX11_span_135 : decode cX11_span 135 = .ok (.iload_n 3, 1) := by decide +kernel
theorem dX11_span_136 : decode cX11_span 136 = .ok (.imul, 1) := by decide +kernel
theorem dX11_span_137 : decode cX11_span 137 = .ok (.iadd, 1) := by decide +kernel
theorem dX11_span_138 : decode cX11_span 138 = .ok (.i2l, 1) := by decide +kernel
theorem dX11_span_139 : decode cX11_span 139 = .ok (.invokevirtual 284, 3) := by decide +kernel
theorem dX11_span_142 : decode cX11_span 142 = .ok (.ifCond .ne 7, 3) := by decide +kernel
theorem dX11_span_145 : decode cX11_span 145 = .ok (.ldc2_w 287, 3) := by decide +kernel
theorem dX11_span_148 : decode cX11_span 148 = .ok (.lreturn, 1) := by decide +kernel
theorem dX11_span_149 : decode cX11_span 149 = .ok (.aload_n 0, 1) := by decide +kernel
theorem dX11_span_150 : decode cX11_span 150 = .ok (.getfield 68, 3) := by decide +kernel
theorem dX11_span_153 : decode cX11_span 153 = .ok (.getfield 289, 3) := by decide +kernel
theorem dX11_span_156 : decode cX11_span 156 = .ok (.aload_n 0, 1) := by decide +kernel
theorem dX11_span_157 : decode cX11_span 157 = .ok (.getfield 68, 3) := by decide +kernel
theorem dX11_span_160 : decode cX11_span 160 = .ok (.getfield 293, 3) := by decide +kernel
theorem dX11_span_163 : decode cX11_span 163 = .ok (.invokestatic 300, 3) := by decide +kernel
theorem dX11_span_166 : decode cX11_span 166 = .ok (.lstore 11, 2) := by decide +kernel
theorem dX11_span_168 : decode cX11_span 168 = .ok (.lload 5, 2) := by decide +kernel
theorem dX11_span_170 : decode cX11_span 170 = .ok (.lload 11, 2) := by decide +kernel
theorem dX11_span_172 : decode cX11_span 172 = .ok (.invokestatic 303, 3) := by decide +kernel
theorem dX11_span_175 : decode cX11_span 175 = .ok (.lstore 5, 2) := by decide +kernel
theorem dX11_span_177 : decode cX11_span 177 = .ok (.lload 7, 2) := by decide +kernel
theorem dX11_span_179 : decode cX11_span 179 = .ok (.lload 11, 2) := by decide +kernel
theorem dX11_span_181 : decode cX11_span 181 = .ok (.invokestatic 308, 3) := by decide +kernel
theorem dX11_span_184 : decode cX11_span 184 = .ok (.lstore 7, 2) := by decide +kernel
theorem dX11_span_186 : decode cX11_span 186 = .ok (.iinc 10 1, 3) := by decide +kernel
theorem dX11_span_189 : decode cX11_span 189 = .ok (.goto (-86), 3) := by decide +kernel
theorem dX11_span_192 : decode cX11_span 192 = .ok (.iinc 9 1, 3) := by decide +kernel
theorem dX11_span_195 : decode cX11_span 195 = .ok (.goto (-101), 3) := by decide +kernel
theorem dX11_span_198 : decode cX11_span 198 = .ok (.iload 4, 2) := by decide +kernel
theorem dX11_span_200 : decode cX11_span 200 = .ok (.ifCond .ne 8, 3) := by decide +kernel
theorem dX11_span_203 : decode cX11_span 203 = .ok (.lload 5, 2) := by decide +kernel
theorem dX11_span_205 : decode cX11_span 205 = .ok (.goto 5, 3) := by decide +kernel
theorem dX11_span_208 : decode cX11_span 208 = .ok (.lload 7, 2) := by decide +kernel
theorem dX11_span_210 : decode cX11_span 210 = .ok (.lreturn, 1) := by decide +kernel
theorem dX11_studio_0 : decode cX11_studio 0 = .ok (.iload_n 1, 1) := by decide +kernel
theorem dX11_studio_1 : decode cX11_studio 1 = .ok (.iload_n 2, 1) := by decide +kernel
theorem dX11_studio_2 : decode cX11_studio 2 = .ok (.iload 4, 2) := by decide +kernel
theorem dX11_studio_4 : decode cX11_studio 4 = .ok (.iload 6, 2) := by decide +kernel
theorem dX11_studio_6 : decode cX11_studio 6 = .ok (.invokestatic 311, 3) := by decide +kernel
theorem dX11_studio_9 : decode cX11_studio 9 = .ok (.ifCond .eq 26, 3) := by decide +kernel
theorem dX11_studio_12 : decode cX11_studio 12 = .ok (.iload 5, 2) := by decide +kernel
theorem dX11_studio_14 : decode cX11_studio 14 = .ok (.iconst 0, 1) := by decide +kernel
theorem dX11_studio_15 : decode cX11_studio 15 = .ok (.iload 4, 2) := by decide +kernel
theorem dX11_studio_17 : decode cX11_studio 17 = .ok (.iconst 1, 1) := by decide +kernel
theorem dX11_studio_18 : decode cX11_studio 18 = .ok (.isub, 1) := by decide +kernel
theorem dX11_studio_19 : decode cX11_studio 19 = .ok (.invokestatic 94, 3) := by decide +kernel
theorem dX11_studio_22 : decode cX11_studio 22 = .ok (.ifCond .eq 13, 3) := by decide +kernel
theorem dX11_studio_25 : decode cX11_studio 25 = .ok (.iload 7, 2) := by decide +kernel
theorem dX11_studio_27 : decode cX11_studio 27 = .ok (.iconst 0, 1) := by decide +kernel
theorem dX11_studio_28 : decode cX11_studio 28 = .ok (.iconst 1, 1) := by decide +kernel
theorem dX11_studio_29 : decode cX11_studio 29 = .ok (.invokestatic 94, 3) := by decide +kernel
theorem dX11_studio_32 : decode cX11_studio 32 = .ok (.ifCond .ne 6, 3) := by decide +kernel
theorem dX11_studio_35 : decode cX11_studio 35 = .ok (.ldc 98, 2) := by decide +kernel
theorem dX11_studio_37 : decode cX11_studio 37 = .ok (.ireturn, 1) := by decide +kernel
theorem dX11_studio_38 : decode cX11_studio 38 = .ok (.aload_n 0, 1) := by decide +kernel
theorem dX11_studio_39 : decode cX11_studio 39 = .ok (.iload_n 2, 1) := by decide +kernel
theorem dX11_studio_40 : decode cX11_studio 40 = .ok (.iload_n 3, 1) := by decide +kernel
theorem dX11_studio_41 : decode cX11_studio 41 = .ok (.iload 4, 2) := by decide +kernel
theorem dX11_studio_43 : decode cX11_studio 43 = .ok (.invokevirtual 314, 3) := by decide +kernel
theorem dX11_studio_46 : decode cX11_studio 46 = .ok (.istore 8, 2) := by decide +kernel
theorem dX11_studio_48 : decode cX11_studio 48 = .ok (.iload 8, 2) := by decide +kernel
theorem dX11_studio_50 : decode cX11_studio 50 = .ok (.ifCond .eq 6, 3) := by decide +kernel
theorem dX11_studio_53 : decode cX11_studio 53 = .ok (.iload 8, 2) := by decide +kernel
theorem dX11_studio_55 : decode cX11_studio 55 = .ok (.ireturn, 1) := by decide +kernel
theorem dX11_studio_56 : decode cX11_studio 56 = .ok (.aload_n 0, 1) := by decide +kernel
theorem dX11_studio_57 : decode cX11_studio 57 = .ok (.iload_n 2, 1) := by decide +kernel
theorem dX11_studio_58 : decode cX11_studio 58 = .ok (.iload_n 3, 1) := by decide +kernel
theorem dX11_studio_59 : decode cX11_studio 59 = .ok (.iload 5, 2) := by decide +kernel
theorem dX11_studio_61 : decode cX11_studio 61 = .ok (.invokevirtual 318, 3) := by decide +kernel
theorem dX11_studio_64 : decode cX11_studio 64 = .ok (.iload 7, 2) := by decide +kernel
theorem dX11_studio_66 : decode cX11_studio 66 = .ok (.ifCond .ne 18, 3) := by decide +kernel
theorem dX11_studio_69 : decode cX11_studio 69 = .ok (.aload_n 0, 1) := by decide +kernel
theorem dX11_studio_70 : decode cX11_studio 70 = .ok (.aload_n 0, 1) := by decide +kernel
theorem dX11_studio_71 : decode cX11_studio 71 = .ok (.aload_n 0, 1) := by decide +kernel
theorem dX11_studio_72 : decode cX11_studio 72 = .ok (.getfield 41, 3) := by decide +kernel
theorem dX11_studio_75 : decode cX11_studio 75 = .ok (.iload_n 1, 1) := by decide +kernel
theorem dX11_studio_76 : decode cX11_studio 76 = .ok (.aaload, 1) := by decide +kernel
theorem dX11_studio_77 : decode cX11_studio 77 = .ok (.invokevirtual 321, 3) := by decide +kernel
theorem dX11_studio_80 : decode cX11_studio 80 = .ok (.invokevirtual 107, 3) := by decide +kernel
theorem dX11_studio_83 : decode cX11_studio 83 = .ok (.ireturn, 1) := by decide +kernel
theorem dX11_studio_84 : decode cX11_studio 84 = .ok (.aload_n 0, 1) := by decide +kernel
theorem dX11_studio_85 : decode cX11_studio 85 = .ok (.aload_n 0, 1) := by decide +kernel
theorem dX11_studio_86 : decode cX11_studio 86 = .ok (.aload_n 0, 1) := by decide +kernel
theorem dX11_studio_87 : decode cX11_studio 87 = .ok (.getfield 41, 3) := by decide +kernel
theorem dX11_studio_90 : decode cX11_studio 90 = .ok (.iload_n 1, 1) := by decide +kernel
theorem dX11_studio_91 : decode cX11_studio 91 = .ok (.aaload, 1) := by decide +kernel
theorem dX11_studio_92 : decode cX11_studio 92 = .ok (.iload 6, 2) := by decide +kernel
theorem dX11_studio_94 : decode cX11_studio 94 = .ok (.invokevirtual 325, 3) := by decide +kernel
theorem dX11_studio_97 : decode cX11_studio 97 = .ok (.ifCond .eq 7, 3) := by decide +kernel
theorem dX11_studio_100 : decode cX11_studio 100 = .ok (.iconst 1, 1) := by decide +kernel
theorem dX11_studio_101 : decode cX11_studio 101 = .ok (.goto 4, 3) := by decide +kernel
theorem dX11_studio_104 : decode cX11_studio 104 = .ok (.iconst 0, 1) := by decide +kernel
theorem dX11_studio_105 : decode cX11_studio 105 = .ok (.invokevirtual 107, 3) := by decide +kernel
theorem dX11_studio_108 : decode cX11_studio 108 = .ok (.ireturn, 1) := by decide +kernel
theorem dX11_studios_0 : decode cX11_studios 0 = .ok (.iload_n 1, 1) := by decide +kernel
theorem dX11_studios_1 : decode cX11_studios 1 = .ok (.iload_n 2, 1) := by decide +kernel
theorem dX11_studios_2 : decode cX11_studios 2 = .ok (.iload 4, 2) := by decide +kernel
theorem dX11_studios_4 : decode cX11_studios 4 = .ok (.iload 5, 2) := by decide +kernel
theorem dX11_studios_6 : decode cX11_studios 6 = .ok (.invokestatic 311, 3) := by decide +kernel
theorem dX11_studios_9 : decode cX11_studios 9 = .ok (.ifCond .eq 13, 3) := by decide +kernel
theorem dX11_studios_12 : decode cX11_studios 12 = .ok (.iload 6, 2) := by decide +kernel
theorem dX11_studios_14 : decode cX11_studios 14 = .ok (.iconst 0, 1) := by decide +kernel
theorem dX11_studios_15 : decode cX11_studios 15 = .ok (.iconst 2, 1) := by decide +kernel
theorem dX11_studios_16 : decode cX11_studios 16 = .ok (.invokestatic 94, 3) := by decide +kernel
theorem dX11_studios_19 : decode cX11_studios 19 = .ok (.ifCond .ne 6, 3) := by decide +kernel
theorem dX11_studios_22 : decode cX11_studios 22 = .ok (.ldc 98, 2) := by decide +kernel
theorem dX11_studios_24 : decode cX11_studios 24 = .ok (.ireturn, 1) := by decide +kernel
theorem dX11_studios_25 : decode cX11_studios 25 = .ok (.aload_n 0, 1) := by decide +kernel
theorem dX11_studios_26 : decode cX11_studios 26 = .ok (.iload_n 2, 1) := by decide +kernel
theorem dX11_studios_27 : decode cX11_studios 27 = .ok (.iload_n 3, 1) := by decide +kernel
theorem dX11_studios_28 : decode cX11_studios 28 = .ok (.iload 4, 2) := by decide +kernel
theorem dX11_studios_30 : decode cX11_studios 30 = .ok (.invokevirtual 314, 3) := by decide +kernel
theorem dX11_studios_33 : decode cX11_studios 33 = .ok (.istore 7, 2) := by decide +kernel
theorem dX11_studios_35 : decode cX11_studios 35 = .ok (.iload 7, 2) := by decide +kernel
theorem dX11_studios_37 : decode cX11_studios 37 = .ok (.ifCond .eq 6, 3) := by decide +kernel
theorem dX11_studios_40 : decode cX11_studios 40 = .ok (.iload 7, 2) := by decide +kernel
theorem dX11_studios_42 : decode cX11_studios 42 = .ok (.ireturn, 1) := by decide +kernel
theorem dX11_studios_43 : decode cX11_studios 43 = .ok (.iload 6, 2) := by decide +kernel
theorem dX11_studios_45 : decode cX11_studios 45 = .ok (.lookupswitch 67 #[(0, 27), (1, 46)], 27) := by decide +kernel
theorem dX11_studios_72 : decode cX11_studios 72 = .ok (.aload_n 0, 1) := by decide +kernel
theorem dX11_studios_73 : decode cX11_studios 73 = .ok (.aload_n 0, 1) := by decide +kernel
theorem dX11_studios_74 : decode cX11_studios 74 = .ok (.aload_n 0, 1) := by decide +kernel
theorem dX11_studios_75 : decode cX11_studios 75 = .ok (.getfield 41, 3) := by decide +kernel
theorem dX11_studios_78 : decode cX11_studios 78 = .ok (.iload_n 1, 1) := by decide +kernel
theorem dX11_studios_79 : decode cX11_studios 79 = .ok (.aaload, 1) := by decide +kernel
theorem dX11_studios_80 : decode cX11_studios 80 = .ok (.iload_n 2, 1) := by decide +kernel
theorem dX11_studios_81 : decode cX11_studios 81 = .ok (.iload_n 3, 1) := by decide +kernel
theorem dX11_studios_82 : decode cX11_studios 82 = .ok (.iload 4, 2) := by decide +kernel
theorem dX11_studios_84 : decode cX11_studios 84 = .ok (.invokevirtual 329, 3) := by decide +kernel
theorem dX11_studios_87 : decode cX11_studios 87 = .ok (.invokevirtual 107, 3) := by decide +kernel
theorem dX11_studios_90 : decode cX11_studios 90 = .ok (.ireturn, 1) := by decide +kernel
theorem dX11_studios_91 : decode cX11_studios 91 = .ok (.aload_n 0, 1) := by decide +kernel
theorem dX11_studios_92 : decode cX11_studios 92 = .ok (.aload_n 0, 1) := by decide +kernel
theorem dX11_studios_93 : decode cX11_studios 93 = .ok (.aload_n 0, 1) := by decide +kernel
theorem dX11_studios_94 : decode cX11_studios 94 = .ok (.getfield 41, 3) := by decide +kernel
theorem dX11_studios_97 : decode cX11_studios 97 = .ok (.iload_n 1, 1) := by decide +kernel
theorem dX11_studios_98 : decode cX11_studios 98 = .ok (.aaload, 1) := by decide +kernel
theorem dX11_studios_99 : decode cX11_studios 99 = .ok (.iload_n 2, 1) := by decide +kernel
theorem dX11_studios_100 : decode cX11_studios 100 = .ok (.iload_n 3, 1) := by decide +kernel
theorem dX11_studios_101 : decode cX11_studios 101 = .ok (.iload 4, 2) := by decide +kernel
theorem dX11_studios_103 : decode cX11_studios 103 = .ok (.iload 5, 2) := by decide +kernel
theorem dX11_studios_105 : decode cX11_studios 105 = .ok (.invokevirtual 333, 3) := by decide +kernel
theorem dX11_studios_108 : decode cX11_studios 108 = .ok (.invokevirtual 107, 3) := by decide +kernel
theorem dX11_studios_111 : decode cX11_studios 111 = .ok (.ireturn, 1) := by decide +kernel
theorem dX11_studios_112 : decode cX11_studios 112 = .ok (.aload_n 0, 1) := by decide +kernel
theorem dX11_studios_113 : decode cX11_studios 113 = .ok (.aload_n 0, 1) := by decide +kernel
theorem dX11_studios_114 : decode cX11_studios 114 = .ok (.aload_n 0, 1) := by decide +kernel
theorem dX11_studios_115 : decode cX11_studios 115 = .ok (.getfield 41, 3) := by decide +kernel
theorem dX11_studios_118 : decode cX11_studios 118 = .ok (.iload_n 1, 1) := by decide +kernel
theorem dX11_studios_119 : decode cX11_studios 119 = .ok (.aaload, 1) := by decide +kernel
theorem dX11_studios_120 : decode cX11_studios 120 = .ok (.iload_n 2, 1) := by decide +kernel
theorem dX11_studios_121 : decode cX11_studios 121 = .ok (.iload_n 3, 1) := by decide +kernel
theorem dX11_studios_122 : decode cX11_studios 122 = .ok (.iload 4, 2) := by decide +kernel
theorem dX11_studios_124 : decode cX11_studios 124 = .ok (.iload 5, 2) := by decide +kernel
theorem dX11_studios_126 : decode cX11_studios 126 = .ok (.invokevirtual 337, 3) := by decide +kernel
theorem dX11_studios_129 : decode cX11_studios 129 = .ok (.invokevirtual 107, 3) := by decide +kernel
theorem dX11_studios_132 : decode cX11_studios 132 = .ok (.ireturn, 1) := by decide +kernel
theorem dX11_spot_0 : decode cX11_spot 0 = .ok (.iload_n 1, 1) := by decide +kernel
theorem dX11_spot_1 : decode cX11_spot 1 = .ok (.iconst 0, 1) := by decide +kernel
theorem dX11_spot_2 : decode cX11_spot 2 = .ok (.sipush 364, 3) := by decide +kernel
theorem dX11_spot_5 : decode cX11_spot 5 = .ok (.invokestatic 94, 3) := by decide +kernel
theorem dX11_spot_8 : decode cX11_spot 8 = .ok (.ifCond .eq 14, 3) := by decide +kernel
theorem dX11_spot_11 : decode cX11_spot 11 = .ok (.iload_n 2, 1) := by decide +kernel
theorem dX11_spot_12 : decode cX11_spot 12 = .ok (.bipush (-6), 2) := by decide +kernel
theorem dX11_spot_14 : decode cX11_spot 14 = .ok (.bipush 6, 2) := by decide +kernel
theorem dX11_spot_16 : decode cX11_spot 16 = .ok (.invokestatic 94, 3) := by decide +kernel
theorem dX11_spot_19 : decode cX11_spot 19 = .ok (.ifCond .ne 6, 3) := by decide +kernel
theorem dX11_spot_22 : decode cX11_spot 22 = .ok (.ldc 98, 2) := by decide +kernel
theorem dX11_spot_24 : decode cX11_spot 24 = .ok (.ireturn, 1) := by decide +kernel
theorem dX11_spot_25 : decode cX11_spot 25 = .ok (.iload_n 3, 1) := by decide +kernel
theorem dX11_spot_26 : decode cX11_spot 26 = .ok (.iconst 1, 1) := by decide +kernel
theorem dX11_spot_27 : decode cX11_spot 27 = .ok (.sipush 1000, 3) := by decide +kernel
theorem dX11_spot_30 : decode cX11_spot 30 = .ok (.invokestatic 94, 3) := by decide +kernel
theorem dX11_spot_33 : decode cX11_spot 33 = .ok (.ifCond .eq 13, 3) := by decide +kernel
theorem dX11_spot_36 : decode cX11_spot 36 = .ok (.iload 4, 2) := by decide +kernel
theorem dX11_spot_38 : decode cX11_spot 38 = .ok (.iconst 0, 1) := by decide +kernel
theorem dX11_spot_39 : decode cX11_spot 39 = .ok (.iconst 1, 1) := by decide +kernel
theorem dX11_spot_40 : decode cX11_spot 40 = .ok (.invokestatic 94, 3) := by decide +kernel
theorem dX11_spot_43 : decode cX11_spot 43 = .ok (.ifCond .ne 6, 3) := by decide +kernel
theorem dX11_spot_46 : decode cX11_spot 46 = .ok (.ldc 98, 2) := by decide +kernel
theorem dX11_spot_48 : decode cX11_spot 48 = .ok (.ireturn, 1) := by decide +kernel
theorem dX11_spot_49 : decode cX11_spot 49 = .ok (.iload 4, 2) := by decide +kernel
theorem dX11_spot_51 : decode cX11_spot 51 = .ok (.ifCond .ne 11, 3) := by decide +kernel
theorem dX11_spot_54 : decode cX11_spot 54 = .ok (.iload_n 2, 1) := by decide +kernel
theorem dX11_spot_55 : decode cX11_spot 55 = .ok (.iload_n 3, 1) := by decide +kernel
theorem dX11_spot_56 : decode cX11_spot 56 = .ok (.invokestatic 340, 3) := by decide +kernel
theorem dX11_spot_59 : decode cX11_spot 59 = .ok (.goto 12, 3) := by decide +kernel
theorem dX11_spot_62 : decode cX11_spot 62 = .ok (.iload_n 1, 1) := by decide +kernel
theorem dX11_spot_63 : decode cX11_spot 63 = .ok (.invokestatic 343, 3) := by decide +kernel
theorem dX11_spot_66 : decode cX11_spot 66 = .ok (.iload_n 2, 1) := by decide +kernel
theorem dX11_spot_67 : decode cX11_spot 67 = .ok (.iload_n 3, 1) := by decide +kernel
theorem dX11_spot_68 : decode cX11_spot 68 = .ok (.invokestatic 346, 3) := by decide +kernel
theorem dX11_spot_71 : decode cX11_spot 71 = .ok (.ireturn, 1) := by decide +kernel
theorem dX11_days_0 : decode cX11_days 0 = .ok (.iload_n 3, 1) := by decide +kernel
theorem dX11_days_1 : decode cX11_days 1 = .ok (.iconst 1, 1) := by decide +kernel
theorem dX11_days_2 : decode cX11_days 2 = .ok (.sipush 1000, 3) := by decide +kernel
theorem dX11_days_5 : decode cX11_days 5 = .ok (.invokestatic 94, 3) := by decide +kernel
theorem dX11_days_8 : decode cX11_days 8 = .ok (.ifCond .ne 6, 3) := by decide +kernel
theorem dX11_days_11 : decode cX11_days 11 = .ok (.ldc 98, 2) := by decide +kernel
theorem dX11_days_13 : decode cX11_days 13 = .ok (.ireturn, 1) := by decide +kernel
theorem dX11_days_14 : decode cX11_days 14 = .ok (.iconst 0, 1) := by decide +kernel
theorem dX11_days_15 : decode cX11_days 15 = .ok (.istore 5, 2) := by decide +kernel
theorem dX11_days_17 : decode cX11_days 17 = .ok (.iconst 0, 1) := by decide +kernel
theorem dX11_days_18 : decode cX11_days 18 = .ok (.istore 6, 2) := by decide +kernel
theorem dX11_days_20 : decode cX11_days 20 = .ok (.iload 6, 2) := by decide +kernel
theorem dX11_days_22 : decode cX11_days 22 = .ok (.sipush 365, 3) := by decide +kernel
theorem dX11_days_25 : decode cX11_days 25 = .ok (.if_icmp .ge 77, 3) := by decide +kernel
theorem dX11_days_28 : decode cX11_days 28 = .ok (.iload 6, 2) := by decide +kernel
theorem dX11_days_30 : decode cX11_days 30 = .ok (.invokestatic 343, 3) := by decide +kernel
theorem dX11_days_33 : decode cX11_days 33 = .ok (.istore 7, 2) := by decide +kernel
theorem dX11_days_35 : decode cX11_days 35 = .ok (.bipush (-6), 2) := by decide +kernel
theorem dX11_days_37 : decode cX11_days 37 = .ok (.istore 8, 2) := by decide +kernel
theorem dX11_days_39 : decode cX11_days 39 = .ok (.iload 8, 2) := by decide +kernel
theorem dX11_days_41 : decode cX11_days 41 = .ok (.bipush 6, 2) := by decide +kernel
theorem dX11_days_43 : decode cX11_days 43 = .ok (.if_icmp .gt 53, 3) := by decide +kernel
theorem dX11_days_46 : decode cX11_days 46 = .ok (.iload 8, 2) := by decide +kernel
theorem dX11_days_48 : decode cX11_days 48 = .ok (.iload_n 3, 1) := by decide +kernel
theorem dX11_days_49 : decode cX11_days 49 = .ok (.invokestatic 340, 3) := by decide +kernel
theorem dX11_days_52 : decode cX11_days 52 = .ok (.iload_n 1, 1) := by decide +kernel
theorem dX11_days_53 : decode cX11_days 53 = .ok (.if_icmp .ne 37, 3) := by decide +kernel
theorem dX11_days_56 : decode cX11_days 56 = .ok (.iload 7, 2) := by decide +kernel
theorem dX11_days_58 : decode cX11_days 58 = .ok (.iload 8, 2) := by decide +kernel
theorem dX11_days_60 : decode cX11_days 60 = .ok (.iload_n 3, 1) := by decide +kernel
theorem dX11_days_61 : decode cX11_days 61 = .ok (.invokestatic 346, 3) := by decide +kernel
theorem dX11_days_64 : decode cX11_days 64 = .ok (.iload_n 2, 1) := by decide +kernel
theorem dX11_days_65 : decode cX11_days 65 = .ok (.if_icmp .ne 25, 3) := by decide +kernel
theorem dX11_days_68 : decode cX11_days 68 = .ok (.iload 5, 2) := by decide +kernel
theorem dX11_days_70 : decode cX11_days 70 = .ok (.iload 4, 2) := by decide +kernel
theorem dX11_days_72 : decode cX11_days 72 = .ok (.if_icmp .ne 15, 3) := by decide +kernel
theorem dX11_days_75 : decode cX11_days 75 = .ok (.bipush 100, 2) := by decide +kernel
theorem dX11_days_77 : decode cX11_days 77 = .ok (.iload 6, 2) := by decide +kernel
theorem dX11_days_79 : decode cX11_days 79 = .ok (.imul, 1) := by decide +kernel
theorem dX11_days_80 : decode cX11_days 80 = .ok (.iload 8, 2) := by decide +kernel
theorem dX11_days_82 : decode cX11_days 82 = .ok (.iadd, 1) := by decide +kernel
theorem dX11_days_83 : decode cX11_days 83 = .ok (.bipush 50, 2) := by decide +kernel
theorem dX11_days_85 : decode cX11_days 85 = .ok (.iadd, 1) := by decide +kernel
theorem dX11_days_86 : decode cX11_days 86 = .ok (.ireturn, 1) := by decide +kernel
theorem dX11_days_87 : decode cX11_days 87 = .ok (.iinc 5 1, 3) := by decide +kernel
theorem dX11_days_90 : decode cX11_days 90 = .ok (.iinc 8 1, 3) := by decide +kernel
theorem dX11_days_93 : decode cX11_days 93 = .ok (.goto (-54), 3) := by decide +kernel
theorem dX11_days_96 : decode cX11_days 96 = .ok (.iinc 6 1, 3) := by decide +kernel
theorem dX11_days_99 : decode cX11_days 99 = .ok (.goto (-79), 3) := by decide +kernel
theorem dX11_days_102 : decode cX11_days 102 = .ok (.iload 4, 2) := by decide +kernel
theorem dX11_days_104 : decode cX11_days 104 = .ok (.ldc 237, 2) := by decide +kernel
theorem dX11_days_106 : decode cX11_days 106 = .ok (.if_icmp .ne 8, 3) := by decide +kernel
theorem dX11_days_109 : decode cX11_days 109 = .ok (.iload 5, 2) := by decide +kernel
theorem dX11_days_111 : decode cX11_days 111 = .ok (.goto 5, 3) := by decide +kernel
theorem dX11_days_114 : decode cX11_days 114 = .ok (.ldc 237, 2) := by decide +kernel
theorem dX11_days_116 : decode cX11_days 116 = .ok (.ireturn, 1) := by decide +kernel
theorem dX11_kind_0 : decode cX11_kind 0 = .ok (.aload_n 0, 1) := by decide +kernel
theorem dX11_kind_1 : decode cX11_kind 1 = .ok (.iload_n 1, 1) := by decide +kernel
theorem dX11_kind_2 : decode cX11_kind 2 = .ok (.invokevirtual 159, 3) := by decide +kernel
theorem dX11_kind_5 : decode cX11_kind 5 = .ok (.ifCond .eq 11, 3) := by decide +kernel
theorem dX11_kind_8 : decode cX11_kind 8 = .ok (.aload_n 0, 1) := by decide +kernel
theorem dX11_kind_9 : decode cX11_kind 9 = .ok (.iload_n 1, 1) := by decide +kernel
theorem dX11_kind_10 : decode cX11_kind 10 = .ok (.invokevirtual 349, 3) := by decide +kernel
theorem dX11_kind_13 : decode cX11_kind 13 = .ok (.goto 5, 3) := by decide +kernel
theorem dX11_kind_16 : decode cX11_kind 16 = .ok (.ldc 98, 2) := by decide +kernel
theorem dX11_kind_18 : decode cX11_kind 18 = .ok (.ireturn, 1) := by decide +kernel
theorem dX11_as_0 : decode cX11_as 0 = .ok (.aload_n 0, 1) := by decide +kernel
theorem dX11_as_1 : decode cX11_as 1 = .ok (.iload_n 1, 1) := by decide +kernel
theorem dX11_as_2 : decode cX11_as 2 = .ok (.invokevirtual 159, 3) := by decide +kernel
theorem dX11_as_5 : decode cX11_as 5 = .ok (.ifCond .eq 12, 3) := by decide +kernel
theorem dX11_as_8 : decode cX11_as 8 = .ok (.iload_n 2, 1) := by decide +kernel
theorem dX11_as_9 : decode cX11_as 9 = .ok (.iconst 0, 1) := by decide +kernel
theorem dX11_as_10 : decode cX11_as 10 = .ok (.iconst 3, 1) := by decide +kernel
theorem dX11_as_11 : decode cX11_as 11 = .ok (.invokestatic 94, 3) := by decide +kernel
theorem dX11_as_14 : decode cX11_as 14 = .ok (.ifCond .ne 6, 3) := by decide +kernel
theorem dX11_as_17 : decode cX11_as 17 = .ok (.ldc 98, 2) := by decide +kernel
theorem dX11_as_19 : decode cX11_as 19 = .ok (.ireturn, 1) := by decide +kernel
theorem dX11_as_20 : decode cX11_as 20 = .ok (.aload_n 0, 1) := by decide +kernel
theorem dX11_as_21 : decode cX11_as 21 = .ok (.iload_n 1, 1) := by decide +kernel
theorem dX11_as_22 : decode cX11_as 22 = .ok (.invokevirtual 349, 3) := by decide +kernel
theorem dX11_as_25 : decode cX11_as 25 = .ok (.istore_n 3, 1) := by decide +kernel
theorem dX11_as_26 : decode cX11_as 26 = .ok (.iload_n 2, 1) := by decide +kernel
theorem dX11_as_27 : decode cX11_as 27 = .ok (.ifCond .eq 18, 3) := by decide +kernel
theorem dX11_as_30 : decode cX11_as 30 = .ok (.iload_n 2, 1) := by decide +kernel
theorem dX11_as_31 : decode cX11_as 31 = .ok (.iload_n 3, 1) := by decide +kernel
theorem dX11_as_32 : decode cX11_as 32 = .ok (.if_icmp .eq 13, 3) := by decide +kernel
theorem dX11_as_35 : decode cX11_as 35 = .ok (.iload_n 2, 1) := by decide +kernel
theorem dX11_as_36 : decode cX11_as 36 = .ok (.iconst 1, 1) := by decide +kernel
theorem dX11_as_37 : decode cX11_as 37 = .ok (.if_icmp .ne 12, 3) := by decide +kernel
theorem dX11_as_40 : decode cX11_as 40 = .ok (.iload_n 3, 1) := by decide +kernel
theorem dX11_as_41 : decode cX11_as 41 = .ok (.iconst 2, 1) := by decide +kernel
theorem dX11_as_42 : decode cX11_as 42 = .ok (.if_icmp .ne 7, 3) := by decide +kernel
theorem dX11_as_45 : decode cX11_as 45 = .ok (.iconst 1, 1) := by decide +kernel
theorem dX11_as_46 : decode cX11_as 46 = .ok (.goto 4, 3) := by decide +kernel
theorem dX11_as_49 : decode cX11_as 49 = .ok (.iconst 0, 1) := by decide +kernel
theorem dX11_as_50 : decode cX11_as 50 = .ok (.istore 4, 2) := by decide +kernel
theorem dX11_as_52 : decode cX11_as 52 = .ok (.iload 4, 2) := by decide +kernel
theorem dX11_as_54 : decode cX11_as 54 = .ok (.ifCond .eq 19, 3) := by decide +kernel
theorem dX11_as_57 : decode cX11_as 57 = .ok (.aload_n 0, 1) := by decide +kernel
theorem dX11_as_58 : decode cX11_as 58 = .ok (.aload_n 0, 1) := by decide +kernel
theorem dX11_as_59 : decode cX11_as 59 = .ok (.getfield 24, 3) := by decide +kernel
theorem dX11_as_62 : decode cX11_as 62 = .ok (.iload_n 1, 1) := by decide +kernel
theorem dX11_as_63 : decode cX11_as 63 = .ok (.aaload, 1) := by decide +kernel
theorem dX11_as_64 : decode cX11_as 64 = .ok (.getfield 172, 3) := by decide +kernel
theorem dX11_as_67 : decode cX11_as 67 = .ok (.invokevirtual 107, 3) := by decide +kernel
theorem dX11_as_70 : decode cX11_as 70 = .ok (.goto 8, 3) := by decide +kernel
theorem dX11_as_73 : decode cX11_as 73 = .ok (.aload_n 0, 1) := by decide +kernel
theorem dX11_as_74 : decode cX11_as 74 = .ok (.iconst 3, 1) := by decide +kernel
theorem dX11_as_75 : decode cX11_as 75 = .ok (.invokevirtual 99, 3) := by decide +kernel
theorem dX11_as_78 : decode cX11_as 78 = .ok (.ireturn, 1) := by decide +kernel
theorem dX11_ask_0 : decode cX11_ask 0 = .ok (.aload_n 0, 1) := by decide +kernel
theorem dX11_ask_1 : decode cX11_ask 1 = .ok (.iload_n 1, 1) := by decide +kernel
theorem dX11_ask_2 : decode cX11_ask 2 = .ok (.invokevirtual 159, 3) := by decide +kernel
theorem dX11_ask_5 : decode cX11_ask 5 = .ok (.ifCond .eq 12, 3) := by decide +kernel
theorem dX11_ask_8 : decode cX11_ask 8 = .ok (.iload_n 2, 1) := by decide +kernel
theorem dX11_ask_9 : decode cX11_ask 9 = .ok (.iconst 0, 1) := by decide +kernel
theorem dX11_ask_10 : decode cX11_ask 10 = .ok (.iconst 1, 1) := by decide +kernel
theorem dX11_ask_11 : decode cX11_ask 11 = .ok (.invokestatic 94, 3) := by decide +kernel
theorem dX11_ask_14 : decode cX11_ask 14 = .ok (.ifCond .ne 6, 3) := by decide +kernel
theorem dX11_ask_17 : decode cX11_ask 17 = .ok (.ldc 98, 2) := by decide +kernel
theorem dX11_ask_19 : decode cX11_ask 19 = .ok (.ireturn, 1) := by decide +kernel
theorem dX11_ask_20 : decode cX11_ask 20 = .ok (.aload_n 0, 1) := by decide +kernel
theorem dX11_ask_21 : decode cX11_ask 21 = .ok (.iload_n 1, 1) := by decide +kernel
theorem dX11_ask_22 : decode cX11_ask 22 = .ok (.invokevirtual 349, 3) := by decide +kernel
theorem dX11_ask_25 : decode cX11_ask 25 = .ok (.istore_n 3, 1) := by decide +kernel
theorem dX11_ask_26 : decode cX11_ask 26 = .ok (.aload_n 0, 1) := by decide +kernel
theorem dX11_ask_27 : decode cX11_ask 27 = .ok (.getfield 80, 3) := by decide +kernel
theorem dX11_ask_30 : decode cX11_ask 30 = .ok (.aload_n 0, 1) := by decide +kernel
theorem dX11_ask_31 : decode cX11_ask 31 = .ok (.getfield 24, 3) := by decide +kernel
theorem dX11_ask_34 : decode cX11_ask 34 = .ok (.iload_n 1, 1) := by decide +kernel
theorem dX11_ask_35 : decode cX11_ask 35 = .ok (.aaload, 1) := by decide +kernel
theorem dX11_ask_36 : decode cX11_ask 36 = .ok (.getfield 172, 3) := by decide +kernel
theorem dX11_ask_39 : decode cX11_ask 39 = .ok (.aload_n 0, 1) := by decide +kernel
theorem dX11_ask_40 : decode cX11_ask 40 = .ok (.getfield 35, 3) := by decide +kernel
theorem dX11_ask_43 : decode cX11_ask 43 = .ok (.getfield 178, 3) := by decide +kernel
theorem dX11_ask_46 : decode cX11_ask 46 = .ok (.aload_n 0, 1) := by decide +kernel
theorem dX11_ask_47 : decode cX11_ask 47 = .ok (.getfield 35, 3) := by decide +kernel
theorem dX11_ask_50 : decode cX11_ask 50 = .ok (.getfield 186, 3) := by decide +kernel
theorem dX11_ask_53 : decode cX11_ask 53 = .ok (.invokevirtual 352, 3) := by decide +kernel
theorem dX11_ask_56 : decode cX11_ask 56 = .ok (.iload_n 2, 1) := by decide +kernel
theorem dX11_ask_57 : decode cX11_ask 57 = .ok (.ifCond .ne 14, 3) := by decide +kernel
theorem dX11_ask_60 : decode cX11_ask 60 = .ok (.aload_n 0, 1) := by decide +kernel
theorem dX11_ask_61 : decode cX11_ask 61 = .ok (.getfield 80, 3) := by decide +kernel
theorem dX11_ask_64 : decode cX11_ask 64 = .ok (.iload_n 3, 1) := by decide +kernel
theorem dX11_ask_65 : decode cX11_ask 65 = .ok (.invokevirtual 355, 3) := by decide +kernel
theorem dX11_ask_68 : decode cX11_ask 68 = .ok (.goto 11, 3) := by decide +kernel
theorem dX11_ask_71 : decode cX11_ask 71 = .ok (.aload_n 0, 1) := by decide +kernel
theorem dX11_ask_72 : decode cX11_ask 72 = .ok (.getfield 80, 3) := by decide +kernel
theorem dX11_ask_75 : decode cX11_ask 75 = .ok (.iload_n 3, 1) := by decide +kernel
theorem dX11_ask_76 : decode cX11_ask 76 = .ok (.invokevirtual 358, 3) := by decide +kernel
theorem dX11_ask_79 : decode cX11_ask 79 = .ok (.ireturn, 1) := by decide +kernel
