theorem dX12_goRound_2 : decode cX12_goRound 2 = .ok (.putfield 175, 3) := by decide +kernel
theorem dX12_goRound_5 : decode cX12_goRound 5 = .ok (.aload_n 0, 1) := by decide +kernel
theorem dX12_goRound_6 : decode cX12_goRound 6 = .ok (.getfield 47, 3) := by decide +kernel
theorem dX12_goRound_9 : decode cX12_goRound 9 = .ok (.iconst 0, 1) := by decide +kernel
theorem dX12_goRound_10 : decode cX12_goRound 10 = .ok (.iconst 0, 1) := by decide +kernel
theorem dX12_goRound_11 : decode cX12_goRound 11 = .ok (.iastore, 1) := by decide +kernel
theorem dX12_goRound_12 : decode cX12_goRound 12 = .ok (.aload_n 0, 1) := by decide +kernel
theorem dX12_goRound_13 : decode cX12_goRound 13 = .ok (.getfield 50, 3) := by decide +kernel
theorem dX12_goRound_16 : decode cX12_goRound 16 = .ok (.iconst 0, 1) := by decide +kernel
theorem dX12_goRound_17 : decode cX12_goRound 17 = .ok (.iconst 0, 1) := by decide +kernel
theorem dX12_goRound_18 : decode cX12_goRound 18 = .ok (.iastore, 1) := by decide +kernel
theorem dX12_goRound_19 : decode cX12_goRound 19 = .ok (.iconst 0, 1) := by decide +kernel
theorem dX12_goRound_20 : decode cX12_goRound 20 = .ok (.istore_n 2, 1) := by decide +kernel
theorem dX12_goRound_21 : decode cX12_goRound 21 = .ok (.iload_n 2, 1) := by decide +kernel
theorem dX12_goRound_22 : decode cX12_goRound 22 = .ok (.iload_n 1, 1) := by decide +kernel
theorem dX12_goRound_23 : decode cX12_goRound 23 = .ok (.if_icmp .ge 79, 3) := by decide +kernel
theorem dX12_goRound_26 : decode cX12_goRound 26 = .ok (.aload_n 0, 1) := by decide +kernel
theorem dX12_goRound_27 : decode cX12_goRound 27 = .ok (.iload_n 2, 1) := by decide +kernel
theorem dX12_goRound_28 : decode cX12_goRound 28 = .ok (.iload_n 2, 1) := by decide +kernel
theorem dX12_goRound_29 : decode cX12_goRound 29 = .ok (.iconst 1, 1) := by decide +kernel
theorem dX12_goRound_30 : decode cX12_goRound 30 = .ok (.iadd, 1) := by decide +kernel
theorem dX12_goRound_31 : decode cX12_goRound 31 = .ok (.iload_n 1, 1) := by decide +kernel
theorem dX12_goRound_32 : decode cX12_goRound 32 = .ok (.irem, 1) := by decide +kernel
theorem dX12_goRound_33 : decode cX12_goRound 33 = .ok (.invokevirtual 171, 3) := by decide +kernel
theorem dX12_goRound_36 : decode cX12_goRound 36 = .ok (.aload_n 0, 1) := by decide +kernel
theorem dX12_goRound_37 : decode cX12_goRound 37 = .ok (.getfield 150, 3) := by decide +kernel
theorem dX12_goRound_40 : decode cX12_goRound 40 = .ok (.ifCond .ne 5, 3) := by decide +kernel
theorem dX12_goRound_43 : decode cX12_goRound 43 = .ok (.iconst 0, 1) := by decide +kernel
theorem dX12_goRound_44 : decode cX12_goRound 44 = .ok (.ireturn, 1) := by decide +kernel
theorem dX12_goRound_45 : decode cX12_goRound 45 = .ok (.aload_n 0, 1) := by decide +kernel
theorem dX12_goRound_46 : decode cX12_goRound 46 = .ok (.dup, 1) := by decide +kernel
theorem dX12_goRound_47 : decode cX12_goRound 47 = .ok (.getfield 175, 3) := by decide +kernel
theorem dX12_goRound_50 : decode cX12_goRound 50 = .ok (.aload_n 0, 1) := by decide +kernel
theorem dX12_goRound_51 : decode cX12_goRound 51 = .ok (.getfield 153, 3) := by decide +kernel
theorem dX12_goRound_54 : decode cX12_goRound 54 = .ok (.iadd, 1) := by decide +kernel
theorem dX12_goRound_55 : decode cX12_goRound 55 = .ok (.putfield 175, 3) := by decide +kernel
theorem dX12_goRound_58 : decode cX12_goRound 58 = .ok (.aload_n 0, 1) := by decide +kernel
theorem dX12_goRound_59 : decode cX12_goRound 59 = .ok (.getfield 47, 3) := by decide +kernel
theorem dX12_goRound_62 : decode cX12_goRound 62 = .ok (.iload_n 2, 1) := by decide +kernel
theorem dX12_goRound_63 : decode cX12_goRound 63 = .ok (.iconst 1, 1) := by decide +kernel
theorem dX12_goRound_64 : decode cX12_goRound 64 = .ok (.iadd, 1) := by decide +kernel
theorem dX12_goRound_65 : decode cX12_goRound 65 = .ok (.aload_n 0, 1) := by decide +kernel
theorem dX12_goRound_66 : decode cX12_goRound 66 = .ok (.getfield 47, 3) := by decide +kernel
theorem dX12_goRound_69 : decode cX12_goRound 69 = .ok (.iload_n 2, 1) := by decide +kernel
theorem dX12_goRound_70 : decode cX12_goRound 70 = .ok (.iaload, 1) := by decide +kernel
theorem dX12_goRound_71 : decode cX12_goRound 71 = .ok (.aload_n 0, 1) := by decide +kernel
theorem dX12_goRound_72 : decode cX12_goRound 72 = .ok (.getfield 163, 3) := by decide +kernel
theorem dX12_goRound_75 : decode cX12_goRound 75 = .ok (.iadd, 1) := by decide +kernel
theorem dX12_goRound_76 : decode cX12_goRound 76 = .ok (.iastore, 1) := by decide +kernel
theorem dX12_goRound_77 : decode cX12_goRound 77 = .ok (.aload_n 0, 1) := by decide +kernel
theorem dX12_goRound_78 : decode cX12_goRound 78 = .ok (.getfield 50, 3) := by decide +kernel
theorem dX12_goRound_81 : decode cX12_goRound 81 = .ok (.iload_n 2, 1) := by decide +kernel
theorem dX12_goRound_82 : decode cX12_goRound 82 = .ok (.iconst 1, 1) := by decide +kernel
theorem dX12_goRound_83 : decode cX12_goRound 83 = .ok (.iadd, 1) := by decide +kernel
theorem dX12_goRound_84 : decode cX12_goRound 84 = .ok (.aload_n 0, 1) := by decide +kernel
theorem dX12_goRound_85 : decode cX12_goRound 85 = .ok (.getfield 50, 3) := by decide +kernel
theorem dX12_goRound_88 : decode cX12_goRound 88 = .ok (.iload_n 2, 1) := by decide +kernel
theorem dX12_goRound_89 : decode cX12_goRound 89 = .ok (.iaload, 1) := by decide +kernel
theorem dX12_goRound_90 : decode cX12_goRound 90 = .ok (.aload_n 0, 1) := by decide +kernel
theorem dX12_goRound_91 : decode cX12_goRound 91 = .ok (.getfield 166, 3) := by decide +kernel
theorem dX12_goRound_94 : decode cX12_goRound 94 = .ok (.iadd, 1) := by decide +kernel
theorem dX12_goRound_95 : decode cX12_goRound 95 = .ok (.iastore, 1) := by decide +kernel
theorem dX12_goRound_96 : decode cX12_goRound 96 = .ok (.iinc 2 1, 3) := by decide +kernel
theorem dX12_goRound_99 : decode cX12_goRound 99 = .ok (.goto (-78), 3) := by decide +kernel
theorem dX12_goRound_102 : decode cX12_goRound 102 = .ok (.iconst 1, 1) := by decide +kernel
theorem dX12_goRound_103 : decode cX12_goRound 103 = .ok (.ireturn, 1) := by decide +kernel
theorem dX12_round_0 : decode cX12_round 0 = .ok (.aload_n 0, 1) := by decide +kernel
theorem dX12_round_1 : decode cX12_round 1 = .ok (.iconst 0, 1) := by decide +kernel
theorem dX12_round_2 : decode cX12_round 2 = .ok (.putfield 59, 3) := by decide +kernel
theorem dX12_round_5 : decode cX12_round 5 = .ok (.iload_n 1, 1) := by decide +kernel
theorem dX12_round_6 : decode cX12_round 6 = .ok (.i2l, 1) := by decide +kernel
theorem dX12_round_7 : decode cX12_round 7 = .ok (.ldc2_w 77, 3) := by decide +kernel
theorem dX12_round_10 : decode cX12_round 10 = .ok (.ldc2_w 88, 3) := by decide +kernel
theorem dX12_round_13 : decode cX12_round 13 = .ok (.invokestatic 69, 3) := by decide +kernel
theorem dX12_round_16 : decode cX12_round 16 = .ok (.ifCond .eq 15, 3) := by decide +kernel
theorem dX12_round_19 : decode cX12_round 19 = .ok (.iload_n 2, 1) := by decide +kernel
theorem dX12_round_20 : decode cX12_round 20 = .ok (.i2l, 1) := by decide +kernel
theorem dX12_round_21 : decode cX12_round 21 = .ok (.lconst 0, 1) := by decide +kernel
theorem dX12_round_22 : decode cX12_round 22 = .ok (.ldc2_w 77, 3) := by decide +kernel
theorem dX12_round_25 : decode cX12_round 25 = .ok (.invokestatic 69, 3) := by decide +kernel
theorem dX12_round_28 : decode cX12_round 28 = .ok (.ifCond .ne 6, 3) := by decide +kernel
theorem dX12_round_31 : decode cX12_round 31 = .ok (.ldc 79, 2) := by decide +kernel
theorem dX12_round_33 : decode cX12_round 33 = .ok (.ireturn, 1) := by decide +kernel
theorem dX12_round_34 : decode cX12_round 34 = .ok (.aload_n 0, 1) := by decide +kernel
theorem dX12_round_35 : decode cX12_round 35 = .ok (.iload_n 1, 1) := by decide +kernel
theorem dX12_round_36 : decode cX12_round 36 = .ok (.invokevirtual 178, 3) := by decide +kernel
theorem dX12_round_39 : decode cX12_round 39 = .ok (.ifCond .ne 8, 3) := by decide +kernel
theorem dX12_round_42 : decode cX12_round 42 = .ok (.ldc 149, 2) := by decide +kernel
theorem dX12_round_44 : decode cX12_round 44 = .ok (.goto 34, 3) := by decide +kernel
theorem dX12_round_47 : decode cX12_round 47 = .ok (.iload_n 2, 1) := by decide +kernel
theorem dX12_round_48 : decode cX12_round 48 = .ok (.ifCond .ne 12, 3) := by decide +kernel
theorem dX12_round_51 : decode cX12_round 51 = .ok (.aload_n 0, 1) := by decide +kernel
theorem dX12_round_52 : decode cX12_round 52 = .ok (.getfield 47, 3) := by decide +kernel
theorem dX12_round_55 : decode cX12_round 55 = .ok (.iload_n 1, 1) := by decide +kernel
theorem dX12_round_56 : decode cX12_round 56 = .ok (.iaload, 1) := by decide +kernel
theorem dX12_round_57 : decode cX12_round 57 = .ok (.goto 21, 3) := by decide +kernel
theorem dX12_round_60 : decode cX12_round 60 = .ok (.iload_n 2, 1) := by decide +kernel
theorem dX12_round_61 : decode cX12_round 61 = .ok (.iconst 1, 1) := by decide +kernel
theorem dX12_round_62 : decode cX12_round 62 = .ok (.if_icmp .ne 12, 3) := by decide +kernel
theorem dX12_round_65 : decode cX12_round 65 = .ok (.aload_n 0, 1) := by decide +kernel
theorem dX12_round_66 : decode cX12_round 66 = .ok (.getfield 50, 3) := by decide +kernel
theorem dX12_round_69 : decode cX12_round 69 = .ok (.iload_n 1, 1) := by decide +kernel
theorem dX12_round_70 : decode cX12_round 70 = .ok (.iaload, 1) := by decide +kernel
theorem dX12_round_71 : decode cX12_round 71 = .ok (.goto 7, 3) := by decide +kernel
theorem dX12_round_74 : decode cX12_round 74 = .ok (.aload_n 0, 1) := by decide +kernel
theorem dX12_round_75 : decode cX12_round 75 = .ok (.getfield 175, 3) := by decide +kernel
theorem dX12_round_78 : decode cX12_round 78 = .ok (.ireturn, 1) := by decide +kernel
theorem dX12_around_0 : decode cX12_around 0 = .ok (.aload_n 0, 1) := by decide +kernel
theorem dX12_around_1 : decode cX12_around 1 = .ok (.iconst 0, 1) := by decide +kernel
theorem dX12_around_2 : decode cX12_around 2 = .ok (.putfield 59, 3) := by decide +kernel
theorem dX12_around_5 : decode cX12_around 5 = .ok (.iload_n 1, 1) := by decide +kernel
theorem dX12_around_6 : decode cX12_around 6 = .ok (.i2l, 1) := by decide +kernel
theorem dX12_around_7 : decode cX12_around 7 = .ok (.ldc2_w 77, 3) := by decide +kernel
theorem dX12_around_10 : decode cX12_around 10 = .ok (.ldc2_w 88, 3) := by decide +kernel
theorem dX12_around_13 : decode cX12_around 13 = .ok (.invokestatic 69, 3) := by decide +kernel
theorem dX12_around_16 : decode cX12_around 16 = .ok (.ifCond .eq 20, 3) := by decide +kernel
theorem dX12_around_19 : decode cX12_around 19 = .ok (.iload_n 2, 1) := by decide +kernel
theorem dX12_around_20 : decode cX12_around 20 = .ok (.invokestatic 143, 3) := by decide +kernel
theorem dX12_around_23 : decode cX12_around 23 = .ok (.ifCond .eq 13, 3) := by decide +kernel
theorem dX12_around_26 : decode cX12_around 26 = .ok (.iload_n 3, 1) := by decide +kernel
theorem dX12_around_27 : decode cX12_around 27 = .ok (.i2l, 1) := by decide +kernel
theorem dX12_around_28 : decode cX12_around 28 = .ok (.lconst 0, 1) := by decide +kernel
theorem dX12_around_29 : decode cX12_around 29 = .ok (.lconst 1, 1) := by decide +kernel
theorem dX12_around_30 : decode cX12_around 30 = .ok (.invokestatic 69, 3) := by decide +kernel
theorem dX12_around_33 : decode cX12_around 33 = .ok (.ifCond .ne 6, 3) := by decide +kernel
theorem dX12_around_36 : decode cX12_around 36 = .ok (.ldc 79, 2) := by decide +kernel
theorem dX12_around_38 : decode cX12_around 38 = .ok (.ireturn, 1) := by decide +kernel
theorem dX12_around_39 : decode cX12_around 39 = .ok (.aload_n 0, 1) := by decide +kernel
theorem dX12_around_40 : decode cX12_around 40 = .ok (.iload_n 1, 1) := by decide +kernel
theorem dX12_around_41 : decode cX12_around 41 = .ok (.invokevirtual 178, 3) := by decide +kernel
theorem dX12_around_44 : decode cX12_around 44 = .ok (.ifCond .ne 6, 3) := by decide +kernel
theorem dX12_around_47 : decode cX12_around 47 = .ok (.ldc 149, 2) := by decide +kernel
theorem dX12_around_49 : decode cX12_around 49 = .ok (.ireturn, 1) := by decide +kernel
theorem dX12_around_50 : decode cX12_around 50 = .ok (.iconst 0, 1) := by decide +kernel
theorem dX12_around_51 : decode cX12_around 51 = .ok (.istore 4, 2) := by decide +kernel
theorem dX12_around_53 : decode cX12_around 53 = .ok (.iconst 0, 1) := by decide +kernel
theorem dX12_around_54 : decode cX12_around 54 = .ok (.istore 5, 2) := by decide +kernel
theorem dX12_around_56 : decode cX12_around 56 = .ok (.iconst 0, 1) := by decide +kernel
theorem dX12_around_57 : decode cX12_around 57 = .ok (.istore 6, 2) := by decide +kernel
theorem dX12_around_59 : decode cX12_around 59 = .ok (.iload 6, 2) := by decide +kernel
theorem dX12_around_61 : decode cX12_around 61 = .ok (.iload_n 1, 1) := by decide +kernel
theorem dX12_around_62 : decode cX12_around 62 = .ok (.if_icmp .ge 97, 3) := by decide +kernel
theorem dX12_around_65 : decode cX12_around 65 = .ok (.bipush 24, 2) := by decide +kernel
theorem dX12_around_67 : decode cX12_around 67 = .ok (.iload 6, 2) := by decide +kernel
theorem dX12_around_69 : decode cX12_around 69 = .ok (.imul, 1) := by decide +kernel
theorem dX12_around_70 : decode cX12_around 70 = .ok (.iload_n 2, 1) := by decide +kernel
theorem dX12_around_71 : decode cX12_around 71 = .ok (.iadd, 1) := by decide +kernel
theorem dX12_around_72 : decode cX12_around 72 = .ok (.istore 7, 2) := by decide +kernel
theorem dX12_around_74 : decode cX12_around 74 = .ok (.aload_n 0, 1) := by decide +kernel
theorem dX12_around_75 : decode cX12_around 75 = .ok (.getfield 34, 3) := by decide +kernel
theorem dX12_around_78 : decode cX12_around 78 = .ok (.iload 7, 2) := by decide +kernel
theorem dX12_around_80 : decode cX12_around 80 = .ok (.baload, 1) := by decide +kernel
theorem dX12_around_81 : decode cX12_around 81 = .ok (.ifCond .eq 72, 3) := by decide +kernel
theorem dX12_around_84 : decode cX12_around 84 = .ok (.iinc 4 1, 3) := by decide +kernel
theorem dX12_around_87 : decode cX12_around 87 = .ok (.iload 5, 2) := by decide +kernel
theorem dX12_around_89 : decode cX12_around 89 = .ok (.iload_n 3, 1) := by decide +kernel
theorem dX12_around_90 : decode cX12_around 90 = .ok (.ifCond .ne 33, 3) := by decide +kernel
theorem dX12_around_93 : decode cX12_around 93 = .ok (.aload_n 0, 1) := by decide +kernel
theorem dX12_around_94 : decode cX12_around 94 = .ok (.getfield 38, 3) := by decide +kernel
theorem dX12_around_97 : decode cX12_around 97 = .ok (.iload 7, 2) := by decide +kernel
theorem dX12_around_99 : decode cX12_around 99 = .ok (.iaload, 1) := by decide +kernel
theorem dX12_around_100 : decode cX12_around 100 = .ok (.aload_n 0, 1) := by decide +kernel
theorem dX12_around_101 : decode cX12_around 101 = .ok (.getfield 47, 3) := by decide +kernel
theorem dX12_around_104 : decode cX12_around 104 = .ok (.iload 6, 2) := by decide +kernel
theorem dX12_around_106 : decode cX12_around 106 = .ok (.iaload, 1) := by decide +kernel
theorem dX12_around_107 : decode cX12_around 107 = .ok (.iadd, 1) := by decide +kernel
theorem dX12_around_108 : decode cX12_around 108 = .ok (.aload_n 0, 1) := by decide +kernel
theorem dX12_around_109 : decode cX12_around 109 = .ok (.getfield 47, 3) := by decide +kernel
theorem dX12_around_112 : decode cX12_around 112 = .ok (.iload_n 1, 1) := by decide +kernel
theorem dX12_around_113 : decode cX12_around 113 = .ok (.iaload, 1) := by decide +kernel
theorem dX12_around_114 : decode cX12_around 114 = .ok (.iload 6, 2) := by decide +kernel
theorem dX12_around_116 : decode cX12_around 116 = .ok (.imul, 1) := by decide +kernel
theorem dX12_around_117 : decode cX12_around 117 = .ok (.iload_n 1, 1) := by decide +kernel
theorem dX12_around_118 : decode cX12_around 118 = .ok (.idiv, 1) := by decide +kernel
theorem dX12_around_119 : decode cX12_around 119 = .ok (.isub, 1) := by decide +kernel
theorem dX12_around_120 : decode cX12_around 120 = .ok (.goto 30, 3) := by decide +kernel
theorem dX12_around_123 : decode cX12_around 123 = .ok (.aload_n 0, 1) := by decide +kernel
theorem dX12_around_124 : decode cX12_around 124 = .ok (.getfield 41, 3) := by decide +kernel
theorem dX12_around_127 : decode cX12_around 127 = .ok (.iload 7, 2) := by decide +kernel
theorem dX12_around_129 : decode cX12_around 129 = .ok (.iaload, 1) := by decide +kernel
theorem dX12_around_130 : decode cX12_around 130 = .ok (.aload_n 0, 1) := by decide +kernel
theorem dX12_around_131 : decode cX12_around 131 = .ok (.getfield 50, 3) := by decide +kernel
theorem dX12_around_134 : decode cX12_around 134 = .ok (.iload 6, 2) := by decide +kernel
theorem dX12_around_136 : decode cX12_around 136 = .ok (.iaload, 1) := by decide +kernel
theorem dX12_around_137 : decode cX12_around 137 = .ok (.iadd, 1) := by decide +kernel
theorem dX12_around_138 : decode cX12_around 138 = .ok (.aload_n 0, 1) := by decide +kernel
theorem dX12_around_139 : decode cX12_around 139 = .ok (.getfield 50, 3) := by decide +kernel
theorem dX12_around_142 : decode cX12_around 142 = .ok (.iload_n 1, 1) := by decide +kernel
theorem dX12_around_143 : decode cX12_around 143 = .ok (.iaload, 1) := by decide +kernel
theorem dX12_around_144 : decode cX12_around 144 = .ok (.iload 6, 2) := by decide +kernel
theorem dX12_around_146 : decode cX12_around 146 = .ok (.imul, 1) := by decide +kernel
theorem dX12_around_147 : decode cX12_around 147 = .ok (.iload_n 1, 1) := by decide +kernel
theorem dX12_around_148 : decode cX12_around 148 = .ok (.idiv, 1) := by decide +kernel
theorem dX12_around_149 : decode cX12_around 149 = .ok (.isub, 1) := by decide +kernel
theorem dX12_around_150 : decode cX12_around 150 = .ok (.iadd, 1) := by decide +kernel
theorem dX12_around_151 : decode cX12_around 151 = .ok (.istore 5, 2) := by decide +kernel
theorem dX12_around_153 : decode cX12_around 153 = .ok (.iinc 6 1, 3) := by decide +kernel
theorem dX12_around_156 : decode cX12_around 156 = .ok (.goto (-97), 3) := by decide +kernel
theorem dX12_around_159 : decode cX12_around 159 = .ok (.iload 4, 2) := by decide +kernel
theorem dX12_around_161 : decode cX12_around 161 = .ok (.ifCond .ne 8, 3) := by decide +kernel
theorem dX12_around_164 : decode cX12_around 164 = .ok (.ldc 149, 2) := by decide +kernel
theorem dX12_around_166 : decode cX12_around 166 = .ok (.goto 8, 3) := by decide +kernel
theorem dX12_around_169 : decode cX12_around 169 = .ok (.iload 5, 2) := by decide +kernel
theorem dX12_around_171 : decode cX12_around 171 = .ok (.iload 4, 2) := by decide +kernel
theorem dX12_around_173 : decode cX12_around 173 = .ok (.idiv, 1) := by decide +kernel
theorem dX12_around_174 : decode cX12_around 174 = .ok (.ireturn, 1) := by decide +kernel
theorem dX12_stand_0 : decode cX12_stand 0 = .ok (.aload_n 0, 1) := by decide +kernel
theorem dX12_stand_1 : decode cX12_stand 1 = .ok (.iconst 0, 1) := by decide +kernel
theorem dX12_stand_2 : decode cX12_stand 2 = .ok (.putfield 59, 3) := by decide +kernel
theorem dX12_stand_5 : decode cX12_stand 5 = .ok (.iload_n 1, 1) := by decide +kernel
theorem dX12_stand_6 : decode cX12_stand 6 = .ok (.i2l, 1) := by decide +kernel
theorem dX12_stand_7 : decode cX12_stand 7 = .ok (.lconst 0, 1) := by decide +kernel
theorem dX12_stand_8 : decode cX12_stand 8 = .ok (.lconst 1, 1) := by decide +kernel
theorem dX12_stand_9 : decode cX12_stand 9 = .ok (.invokestatic 69, 3) := by decide +kernel
theorem dX12_stand_12 : decode cX12_stand 12 = .ok (.ifCond .eq 57, 3) := by decide +kernel
theorem dX12_stand_15 : decode cX12_stand 15 = .ok (.iload_n 2, 1) := by decide +kernel
theorem dX12_stand_16 : decode cX12_stand 16 = .ok (.i2l, 1) := by decide +kernel
theorem dX12_stand_17 : decode cX12_stand 17 = .ok (.ldc2_w 96, 3) := by decide +kernel
theorem dX12_stand_20 : decode cX12_stand 20 = .ok (.ldc2_w 98, 3) := by decide +kernel
theorem dX12_stand_23 : decode cX12_stand 23 = .ok (.invokestatic 69, 3) := by decide +kernel
theorem dX12_stand_26 : decode cX12_stand 26 = .ok (.ifCond .eq 43, 3) := by decide +kernel
theorem dX12_stand_29 : decode cX12_stand 29 = .ok (.iload_n 3, 1) := by decide +kernel
theorem dX12_stand_30 : decode cX12_stand 30 = .ok (.i2l, 1) := by decide +kernel
theorem dX12_stand_31 : decode cX12_stand 31 = .ok (.ldc2_w 96, 3) := by decide +kernel
theorem dX12_stand_34 : decode cX12_stand 34 = .ok (.ldc2_w 98, 3) := by decide +kernel
theorem dX12_stand_37 : decode cX12_stand 37 = .ok (.invokestatic 69, 3) := by decide +kernel
theorem dX12_stand_40 : decode cX12_stand 40 = .ok (.ifCond .eq 29, 3) := by decide +kernel
theorem dX12_stand_43 : decode cX12_stand 43 = .ok (.iload 4, 2) := by decide +kernel
theorem dX12_stand_45 : decode cX12_stand 45 = .ok (.i2l, 1) := by decide +kernel
theorem dX12_stand_46 : decode cX12_stand 46 = .ok (.lconst 0, 1) := by decide +kernel
theorem dX12_stand_47 : decode cX12_stand 47 = .ok (.ldc2_w 98, 3) := by decide +kernel
theorem dX12_stand_50 : decode cX12_stand 50 = .ok (.invokestatic 69, 3) := by decide +kernel
theorem dX12_stand_53 : decode cX12_stand 53 = .ok (.ifCond .eq 16, 3) := by decide +kernel
theorem dX12_stand_56 : decode cX12_stand 56 = .ok (.iload 5, 2) := by decide +kernel
theorem dX12_stand_58 : decode cX12_stand 58 = .ok (.i2l, 1) := by decide +kernel
theorem dX12_stand_59 : decode cX12_stand 59 = .ok (.lconst 1, 1) := by decide +kernel
theorem dX12_stand_60 : decode cX12_stand 60 = .ok (.ldc2_w 98, 3) := by decide +kernel
theorem dX12_stand_63 : decode cX12_stand 63 = .ok (.invokestatic 69, 3) := by decide +kernel
theorem dX12_stand_66 : decode cX12_stand 66 = .ok (.ifCond .ne 6, 3) := by decide +kernel
theorem dX12_stand_69 : decode cX12_stand 69 = .ok (.ldc 79, 2) := by decide +kernel
theorem dX12_stand_71 : decode cX12_stand 71 = .ok (.ireturn, 1) := by decide +kernel
theorem dX12_stand_72 : decode cX12_stand 72 = .ok (.aload_n 0, 1) := by decide +kernel
theorem dX12_stand_73 : decode cX12_stand 73 = .ok (.getfield 53, 3) := by decide +kernel
theorem dX12_stand_76 : decode cX12_stand 76 = .ok (.iconst 4, 1) := by decide +kernel
theorem dX12_stand_77 : decode cX12_stand 77 = .ok (.iload_n 1, 1) := by decide +kernel
theorem dX12_stand_78 : decode cX12_stand 78 = .ok (.imul, 1) := by decide +kernel
theorem dX12_stand_79 : decode cX12_stand 79 = .ok (.iload_n 2, 1) := by decide +kernel
theorem dX12_stand_80 : decode cX12_stand 80 = .ok (.iastore, 1) := by decide +kernel
theorem dX12_stand_81 : decode cX12_stand 81 = .ok (.aload_n 0, 1) := by decide +kernel
theorem dX12_stand_82 : decode cX12_stand 82 = .ok (.getfield 53, 3) := by decide +kernel
theorem dX12_stand_85 : decode cX12_stand 85 = .ok (.iconst 4, 1) := by decide +kernel
theorem dX12_stand_86 : decode cX12_stand 86 = .ok (.iload_n 1, 1) := by decide +kernel
theorem dX12_stand_87 : decode cX12_stand 87 = .ok (.imul, 1) := by decide +kernel
theorem dX12_stand_88 : decode cX12_stand 88 = .ok (.iconst 1, 1) := by decide +kernel
theorem dX12_stand_89 : decode cX12_stand 89 = .ok (.iadd, 1) := by decide +kernel
theorem dX12_stand_90 : decode cX12_stand 90 = .ok (.iload_n 3, 1) := by decide +kernel
theorem dX12_stand_91 : decode cX12_stand 91 = .ok (.iastore, 1) := by decide +kernel
theorem dX12_stand_92 : decode cX12_stand 92 = .ok (.aload_n 0, 1) := by decide +kernel
theorem dX12_stand_93 : decode cX12_stand 93 = .ok (.getfield 53, 3) := by decide +kernel
theorem dX12_stand_96 : decode cX12_stand 96 = .ok (.iconst 4, 1) := by decide +kernel
theorem dX12_stand_97 : decode cX12_stand 97 = .ok (.iload_n 1, 1) := by decide +kernel
theorem dX12_stand_98 : decode cX12_stand 98 = .ok (.imul, 1) := by decide +kernel
theorem dX12_stand_99 : decode cX12_stand 99 = .ok (.iconst 2, 1) := by decide +kernel
theorem dX12_stand_100 : decode cX12_stand 100 = .ok (.iadd, 1) := by decide +kernel
theorem dX12_stand_101 : decode cX12_stand 101 = .ok (.iload 4, 2) := by decide +kernel
theorem dX12_stand_103 : decode cX12_stand 103 = .ok (.iastore, 1) := by decide +kernel
theorem dX12_stand_104 : decode cX12_stand 104 = .ok (.aload_n 0, 1) := by decide +kernel
theorem dX12_stand_105 : decode cX12_stand 105 = .ok (.getfield 53, 3) := by decide +kernel
theorem dX12_stand_108 : decode cX12_stand 108 = .ok (.iconst 4, 1) := by decide +kernel
theorem dX12_stand_109 : decode cX12_stand 109 = .ok (.iload_n 1, 1) := by decide +kernel
theorem dX12_stand_110 : decode cX12_stand 110 = .ok (.imul, 1) := by decide +kernel
theorem dX12_stand_111 : decode cX12_stand 111 = .ok (.iconst 3, 1) := by decide +kernel
theorem dX12_stand_112 : decode cX12_stand 112 = .ok (.iadd, 1) := by decide +kernel
theorem dX12_stand_113 : decode cX12_stand 113 = .ok (.iload 5, 2) := by decide +kernel
theorem dX12_stand_115 : decode cX12_stand 115 = .ok (.iastore, 1) := by decide +kernel
theorem dX12_stand_116 : decode cX12_stand 116 = .ok (.iconst 1, 1) := by decide +kernel
theorem dX12_stand_117 : decode cX12_stand 117 = .ok (.ireturn, 1) := by decide +kernel
theorem dX12_see_0 : decode cX12_see 0 = .ok (.aload_n 0, 1) := by decide +kernel
theorem dX12_see_1 : decode cX12_see 1 = .ok (.getfield 53, 3) := by decide +kernel
theorem dX12_see_4 : decode cX12_see 4 = .ok (.iconst 3, 1) := by decide +kernel
theorem dX12_see_5 : decode cX12_see 5 = .ok (.iaload, 1) := by decide +kernel
theorem dX12_see_6 : decode cX12_see 6 = .ok (.i2l, 1) := by decide +kernel
theorem dX12_see_7 : decode cX12_see 7 = .ok (.lstore_n 3, 1) := by decide +kernel
theorem dX12_see_8 : decode cX12_see 8 = .ok (.aload_n 0, 1) := by decide +kernel
theorem dX12_see_9 : decode cX12_see 9 = .ok (.getfield 53, 3) := by decide +kernel
theorem dX12_see_12 : decode cX12_see 12 = .ok (.bipush 7, 2) := by decide +kernel
theorem dX12_see_14 : decode cX12_see 14 = .ok (.iaload, 1) := by decide +kernel
theorem dX12_see_15 : decode cX12_see 15 = .ok (.i2l, 1) := by decide +kernel
theorem dX12_see_16 : decode cX12_see 16 = .ok (.lstore 5, 2) := by decide +kernel
theorem dX12_see_18 : decode cX12_see 18 = .ok (.aload_n 0, 1) := by decide +kernel
theorem dX12_see_19 : decode cX12_see 19 = .ok (.iload_n 2, 1) := by decide +kernel
theorem dX12_see_20 : decode cX12_see 20 = .ok (.i2l, 1) := by decide +kernel
theorem dX12_see_21 : decode cX12_see 21 = .ok (.lload_n 3, 1) := by decide +kernel
theorem dX12_see_22 : decode cX12_see 22 = .ok (.lmul, 1) := by decide +kernel
theorem dX12_see_23 : decode cX12_see 23 = .ok (.iload_n 1, 1) := by decide +kernel
theorem dX12_see_24 : decode cX12_see 24 = .ok (.i2l, 1) := by decide +kernel
theorem dX12_see_25 : decode cX12_see 25 = .ok (.lload 5, 2) := by decide +kernel
theorem dX12_see_27 : decode cX12_see 27 = .ok (.lmul, 1) := by decide +kernel
theorem dX12_see_28 : decode cX12_see 28 = .ok (.lsub, 1) := by decide +kernel
theorem dX12_see_29 : decode cX12_see 29 = .ok (.putfield 181, 3) := by decide +kernel
theorem dX12_see_32 : decode cX12_see 32 = .ok (.aload_n 0, 1) := by decide +kernel
theorem dX12_see_33 : decode cX12_see 33 = .ok (.aload_n 0, 1) := by decide +kernel
theorem dX12_see_34 : decode cX12_see 34 = .ok (.getfield 53, 3) := by decide +kernel
theorem dX12_see_37 : decode cX12_see 37 = .ok (.iconst 4, 1) := by decide +kernel
theorem dX12_see_38 : decode cX12_see 38 = .ok (.iaload, 1) := by decide +kernel
theorem dX12_see_39 : decode cX12_see 39 = .ok (.aload_n 0, 1) := by decide +kernel
theorem dX12_see_40 : decode cX12_see 40 = .ok (.getfield 53, 3) := by decide +kernel
theorem dX12_see_43 : decode cX12_see 43 = .ok (.iconst 0, 1) := by decide +kernel
theorem dX12_see_44 : decode cX12_see 44 = .ok (.iaload, 1) := by decide +kernel
theorem dX12_see_45 : decode cX12_see 45 = .ok (.isub, 1) := by decide +kernel
theorem dX12_see_46 : decode cX12_see 46 = .ok (.i2l, 1) := by decide +kernel
theorem dX12_see_47 : decode cX12_see 47 = .ok (.lload_n 3, 1) := by decide +kernel
theorem dX12_see_48 : decode cX12_see 48 = .ok (.lmul, 1) := by decide +kernel
theorem dX12_see_49 : decode cX12_see 49 = .ok (.lload 5, 2) := by decide +kernel
theorem dX12_see_51 : decode cX12_see 51 = .ok (.lmul, 1) := by decide +kernel
theorem dX12_see_52 : decode cX12_see 52 = .ok (.iload_n 1, 1) := by decide +kernel
theorem dX12_see_53 : decode cX12_see 53 = .ok (.aload_n 0, 1) := by decide +kernel
theorem dX12_see_54 : decode cX12_see 54 = .ok (.getfield 53, 3) := by decide +kernel
theorem dX12_see_57 : decode cX12_see 57 = .ok (.iconst 2, 1) := by decide +kernel
theorem dX12_see_58 : decode cX12_see 58 = .ok (.iaload, 1) := by decide +kernel
theorem dX12_see_59 : decode cX12_see 59 = .ok (.imul, 1) := by decide +kernel
theorem dX12_see_60 : decode cX12_see 60 = .ok (.i2l, 1) := by decide +kernel
theorem dX12_see_61 : decode cX12_see 61 = .ok (.lload 5, 2) := by decide +kernel
theorem dX12_see_63 : decode cX12_see 63 = .ok (.lmul, 1) := by decide +kernel
theorem dX12_see_64 : decode cX12_see 64 = .ok (.lsub, 1) := by decide +kernel
theorem dX12_see_65 : decode cX12_see 65 = .ok (.iload_n 2, 1) := by decide +kernel
theorem dX12_see_66 : decode cX12_see 66 = .ok (.aload_n 0, 1) := by decide +kernel
theorem dX12_see_67 : decode cX12_see 67 = .ok (.getfield 53, 3) := by decide +kernel
theorem dX12_see_70 : decode cX12_see 70 = .ok (.bipush 6, 2) := by decide +kernel
theorem dX12_see_72 : decode cX12_see 72 = .ok (.iaload, 1) := by decide +kernel
theorem dX12_see_73 : decode cX12_see 73 = .ok (.imul, 1) := by decide +kernel
theorem dX12_see_74 : decode cX12_see 74 = .ok (.i2l, 1) := by decide +kernel
theorem dX12_see_75 : decode cX12_see 75 = .ok (.lload_n 3, 1) := by decide +kernel
theorem dX12_see_76 : decode cX12_see 76 = .ok (.lmul, 1) := by decide +kernel
theorem dX12_see_77 : decode cX12_see 77 = .ok (.ladd, 1) := by decide +kernel
theorem dX12_see_78 : decode cX12_see 78 = .ok (.putfield 185, 3) := by decide +kernel
theorem dX12_see_81 : decode cX12_see 81 = .ok (.aload_n 0, 1) := by decide +kernel
theorem dX12_see_82 : decode cX12_see 82 = .ok (.getfield 181, 3) := by decide +kernel
theorem dX12_see_85 : decode cX12_see 85 = .ok (.lconst 0, 1) := by decide +kernel
theorem dX12_see_86 : decode cX12_see 86 = .ok (.lcmp, 1) := by decide +kernel
theorem dX12_see_87 : decode cX12_see 87 = .ok (.ifCond .ge 21, 3) := by decide +kernel
theorem dX12_see_90 : decode cX12_see 90 = .ok (.aload_n 0, 1) := by decide +kernel
theorem dX12_see_91 : decode cX12_see 91 = .ok (.aload_n 0, 1) := by decide +kernel
theorem dX12_see_92 : decode cX12_see 92 = .ok (.getfield 181, 3) := by decide +kernel
theorem dX12_see_95 : decode cX12_see 95 = .ok (.lneg, 1) := by decide +kernel
theorem dX12_see_96 : decode cX12_see 96 = .ok (.putfield 181, 3) := by decide +kernel
theorem dX12_see_99 : decode cX12_see 99 = .ok (.aload_n 0, 1) := by decide +kernel
theorem dX12_see_100 : decode cX12_see 100 = .ok (.aload_n 0, 1) := by decide +kernel
theorem dX12_see_101 : decode cX12_see 101 = .ok (.getfield 185, 3) := by decide +kernel
theorem dX12_see_104 : decode cX12_see 104 = .ok (.lneg, 1) := by decide +kernel
theorem dX12_see_105 : decode cX12_see 105 = .ok (.putfield 185, 3) := by decide +kernel
theorem dX12_see_108 : decode cX12_see 108 = .ok (.aload_n 0, 1) := by decide +kernel
theorem dX12_see_109 : decode cX12_see 109 = .ok (.getfield 53, 3) := by decide +kernel
theorem dX12_see_112 : decode cX12_see 112 = .ok (.iconst 2, 1) := by decide +kernel
theorem dX12_see_113 : decode cX12_see 113 = .ok (.iaload, 1) := by decide +kernel
theorem dX12_see_114 : decode cX12_see 114 = .ok (.aload_n 0, 1) := by decide +kernel
theorem dX12_see_115 : decode cX12_see 115 = .ok (.getfield 53, 3) := by decide +kernel
theorem dX12_see_118 : decode cX12_see 118 = .ok (.bipush 6, 2) := by decide +kernel
theorem dX12_see_120 : decode cX12_see 120 = .ok (.iaload, 1) := by decide +kernel
theorem dX12_see_121 : decode cX12_see 121 = .ok (.if_icmp .le 12, 3) := by decide +kernel
theorem dX12_see_124 : decode cX12_see 124 = .ok (.aload_n 0, 1) := by decide +kernel
theorem dX12_see_125 : decode cX12_see 125 = .ok (.getfield 53, 3) := by decide +kernel
theorem dX12_see_128 : decode cX12_see 128 = .ok (.iconst 2, 1) := by decide +kernel
theorem dX12_see_129 : decode cX12_see 129 = .ok (.iaload, 1) := by decide +kernel
theorem dX12_see_130 : decode cX12_see 130 = .ok (.goto 10, 3) := by decide +kernel
theorem dX12_see_133 : decode cX12_see 133 = .ok (.aload_n 0, 1) := by decide +kernel
theorem dX12_see_134 : decode cX12_see 134 = .ok (.getfield 53, 3) := by decide +kernel
theorem dX12_see_137 : decode cX12_see 137 = .ok (.bipush 6, 2) := by decide +kernel
theorem dX12_see_139 : decode cX12_see 139 = .ok (.iaload, 1) := by decide +kernel
theorem dX12_see_140 : decode cX12_see 140 = .ok (.istore 7, 2) := by decide +kernel
theorem dX12_see_142 : decode cX12_see 142 = .ok (.aload_n 0, 1) := by decide +kernel
theorem dX12_see_143 : decode cX12_see 143 = .ok (.getfield 181, 3) := by decide +kernel
theorem dX12_see_146 : decode cX12_see 146 = .ok (.lconst 0, 1) := by decide +kernel
theorem dX12_see_147 : decode cX12_see 147 = .ok (.lcmp, 1) := by decide +kernel
theorem dX12_see_148 : decode cX12_see 148 = .ok (.ifCond .eq 23, 3) := by decide +kernel
theorem dX12_see_151 : decode cX12_see 151 = .ok (.aload_n 0, 1) := by decide +kernel
theorem dX12_see_152 : decode cX12_see 152 = .ok (.getfield 185, 3) := by decide +kernel
theorem dX12_see_155 : decode cX12_see 155 = .ok (.aload_n 0, 1) := by decide +kernel
theorem dX12_see_156 : decode cX12_see 156 = .ok (.getfield 181, 3) := by decide +kernel
theorem dX12_see_159 : decode cX12_see 159 = .ok (.iload 7, 2) := by decide +kernel
theorem dX12_see_161 : decode cX12_see 161 = .ok (.i2l, 1) := by decide +kernel
theorem dX12_see_162 : decode cX12_see 162 = .ok (.lmul, 1) := by decide +kernel
theorem dX12_see_163 : decode cX12_see 163 = .ok (.lcmp, 1) := by decide +kernel
theorem dX12_see_164 : decode cX12_see 164 = .ok (.ifCond .le 7, 3) := by decide +kernel
theorem dX12_see_167 : decode cX12_see 167 = .ok (.iconst 1, 1) := by decide +kernel
theorem dX12_see_168 : decode cX12_see 168 = .ok (.goto 4, 3) := by decide +kernel
theorem dX12_see_171 : decode cX12_see 171 = .ok (.iconst 0, 1) := by decide +kernel
theorem dX12_see_172 : decode cX12_see 172 = .ok (.ireturn, 1) := by decide +kernel
theorem dX12_isSight_0 : decode cX12_isSight 0 = .ok (.iload_n 0, 1) := by decide +kernel
theorem dX12_isSight_1 : decode cX12_isSight 1 = .ok (.i2l, 1) := by decide +kernel
theorem dX12_isSight_2 : decode cX12_isSight 2 = .ok (.ldc2_w 96, 3) := by decide +kernel
theorem dX12_isSight_5 : decode cX12_isSight 5 = .ok (.ldc2_w 98, 3) := by decide +kernel
theorem dX12_isSight_8 : decode cX12_isSight 8 = .ok (.invokestatic 69, 3) := by decide +kernel
theorem dX12_isSight_11 : decode cX12_isSight 11 = .ok (.ireturn, 1) := by decide +kernel
theorem dX12_far_0 : decode cX12_far 0 = .ok (.aload_n 0, 1) := by decide +kernel
theorem dX12_far_1 : decode cX12_far 1 = .ok (.iconst 0, 1) := by decide +kernel
theorem dX12_far_2 : decode cX12_far 2 = .ok (.putfield 59, 3) := by decide +kernel
theorem dX12_far_5 : decode cX12_far 5 = .ok (.iload_n 1, 1) := by decide +kernel
theorem dX12_far_6 : decode cX12_far 6 = .ok (.invokestatic 188, 3) := by decide +kernel
theorem dX12_far_9 : decode cX12_far 9 = .ok (.ifCond .eq 20, 3) := by decide +kernel
theorem dX12_far_12 : decode cX12_far 12 = .ok (.iload_n 2, 1) := by decide +kernel
theorem dX12_far_13 : decode cX12_far 13 = .ok (.invokestatic 188, 3) := by decide +kernel
theorem dX12_far_16 : decode cX12_far 16 = .ok (.ifCond .eq 13, 3) := by decide +kernel
theorem dX12_far_19 : decode cX12_far 19 = .ok (.iload_n 3, 1) := by decide +kernel
theorem dX12_far_20 : decode cX12_far 20 = .ok (.i2l, 1) := by decide +kernel
theorem dX12_far_21 : decode cX12_far 21 = .ok (.lconst 0, 1) := by decide +kernel
theorem dX12_far_22 : decode cX12_far 22 = .ok (.lconst 1, 1) := by decide +kernel
theorem dX12_far_23 : decode cX12_far 23 = .ok (.invokestatic 69, 3) := by decide +kernel
theorem dX12_far_26 : decode cX12_far 26 = .ok (.ifCond .ne 7, 3) := by decide +kernel
theorem dX12_far_29 : decode cX12_far 29 = .ok (.ldc2_w 191, 3) := by decide +kernel
theorem dX12_far_32 : decode cX12_far 32 = .ok (.lreturn, 1) := by decide +kernel
theorem dX12_far_33 : decode cX12_far 33 = .ok (.aload_n 0, 1) := by decide +kernel
theorem dX12_far_34 : decode cX12_far 34 = .ok (.iload_n 1, 1) := by decide +kernel
theorem dX12_far_35 : decode cX12_far 35 = .ok (.iload_n 2, 1) := by decide +kernel
theorem dX12_far_36 : decode cX12_far 36 = .ok (.invokevirtual 193, 3) := by decide +kernel
theorem dX12_far_39 : decode cX12_far 39 = .ok (.ifCond .ne 9, 3) := by decide +kernel
theorem dX12_far_42 : decode cX12_far 42 = .ok (.ldc2_w 197, 3) := by decide +kernel
theorem dX12_far_45 : decode cX12_far 45 = .ok (.goto 18, 3) := by decide +kernel
theorem dX12_far_48 : decode cX12_far 48 = .ok (.iload_n 3, 1) := by decide +kernel
theorem dX12_far_49 : decode cX12_far 49 = .ok (.ifCond .ne 10, 3) := by decide +kernel
theorem dX12_far_52 : decode cX12_far 52 = .ok (.aload_n 0, 1) := by decide +kernel
theorem dX12_far_53 : decode cX12_far 53 = .ok (.getfield 185, 3) := by decide +kernel
theorem dX12_far_56 : decode cX12_far 56 = .ok (.goto 7, 3) := by decide +kernel
theorem dX12_far_59 : decode cX12_far 59 = .ok (.aload_n 0, 1) := by decide +kernel
theorem dX12_far_60 : decode cX12_far 60 = .ok (.getfield 181, 3) := by decide +kernel
theorem dX12_far_63 : decode cX12_far 63 = .ok (.lreturn, 1) := by decide +kernel
theorem dX12_high_0 : decode cX12_high 0 = .ok (.aload_n 0, 1) := by decide +kernel
theorem dX12_high_1 : decode cX12_high 1 = .ok (.iconst 0, 1) := by decide +kernel
theorem dX12_high_2 : decode cX12_high 2 = .ok (.putfield 59, 3) := by decide +kernel
theorem dX12_high_5 : decode cX12_high 5 = .ok (.iload_n 1, 1) := by decide +kernel
theorem dX12_high_6 : decode cX12_high 6 = .ok (.invokestatic 188, 3) := by decide +kernel
theorem dX12_high_9 : decode cX12_high 9 = .ok (.ifCond .eq 17, 3) := by decide +kernel
theorem dX12_high_12 : decode cX12_high 12 = .ok (.iload_n 2, 1) := by decide +kernel
theorem dX12_high_13 : decode cX12_high 13 = .ok (.invokestatic 188, 3) := by decide +kernel
theorem dX12_high_16 : decode cX12_high 16 = .ok (.ifCond .eq 10, 3) := by decide +kernel
theorem dX12_high_19 : decode cX12_high 19 = .ok (.iload_n 3, 1) := by decide +kernel
theorem dX12_high_20 : decode cX12_high 20 = .ok (.invokestatic 188, 3) := by decide +kernel
theorem dX12_high_23 : decode cX12_high 23 = .ok (.ifCond .ne 7, 3) := by decide +kernel
theorem dX12_high_26 : decode cX12_high 26 = .ok (.ldc2_w 191, 3) := by decide +kernel
theorem dX12_high_29 : decode cX12_high 29 = .ok (.lreturn, 1) := by decide +kernel
theorem dX12_high_30 : decode cX12_high 30 = .ok (.aload_n 0, 1) := by decide +kernel
theorem dX12_high_31 : decode cX12_high 31 = .ok (.iload_n 1, 1) := by decide +kernel
theorem dX12_high_32 : decode cX12_high 32 = .ok (.iload_n 2, 1) := by decide +kernel
theorem dX12_high_33 : decode cX12_high 33 = .ok (.invokevirtual 193, 3) := by decide +kernel
theorem dX12_high_36 : decode cX12_high 36 = .ok (.ifCond .ne 7, 3) := by decide +kernel
theorem dX12_high_39 : decode cX12_high 39 = .ok (.ldc2_w 197, 3) := by decide +kernel
theorem dX12_high_42 : decode cX12_high 42 = .ok (.lreturn, 1) := by decide +kernel
theorem dX12_high_43 : decode cX12_high 43 = .ok (.aload_n 0, 1) := by decide +kernel
theorem dX12_high_44 : decode cX12_high 44 = .ok (.getfield 53, 3) := by decide +kernel
theorem dX12_high_47 : decode cX12_high 47 = .ok (.iconst 3, 1) := by decide +kernel
theorem dX12_high_48 : decode cX12_high 48 = .ok (.iaload, 1) := by decide +kernel
theorem dX12_high_49 : decode cX12_high 49 = .ok (.i2l, 1) := by decide +kernel
theorem dX12_high_50 : decode cX12_high 50 = .ok (.lstore 4, 2) := by decide +kernel
theorem dX12_high_52 : decode cX12_high 52 = .ok (.aload_n 0, 1) := by decide +kernel
theorem dX12_high_53 : decode cX12_high 53 = .ok (.getfield 53, 3) := by decide +kernel
theorem dX12_high_56 : decode cX12_high 56 = .ok (.iconst 1, 1) := by decide +kernel
theorem dX12_high_57 : decode cX12_high 57 = .ok (.iaload, 1) := by decide +kernel
theorem dX12_high_58 : decode cX12_high 58 = .ok (.i2l, 1) := by decide +kernel
theorem dX12_high_59 : decode cX12_high 59 = .ok (.aload_n 0, 1) := by decide +kernel
theorem dX12_high_60 : decode cX12_high 60 = .ok (.getfield 181, 3) := by decide +kernel
theorem dX12_high_63 : decode cX12_high 63 = .ok (.lmul, 1) := by decide +kernel
theorem dX12_high_64 : decode cX12_high 64 = .ok (.lload 4, 2) := by decide +kernel
theorem dX12_high_66 : decode cX12_high 66 = .ok (.lmul, 1) := by decide +kernel
theorem dX12_high_67 : decode cX12_high 67 = .ok (.iload_n 3, 1) := by decide +kernel
theorem dX12_high_68 : decode cX12_high 68 = .ok (.i2l, 1) := by decide +kernel
theorem dX12_high_69 : decode cX12_high 69 = .ok (.aload_n 0, 1) := by decide +kernel
theorem dX12_high_70 : decode cX12_high 70 = .ok (.getfield 185, 3) := by decide +kernel
theorem dX12_high_73 : decode cX12_high 73 = .ok (.aload_n 0, 1) := by decide +kernel
theorem dX12_high_74 : decode cX12_high 74 = .ok (.getfield 53, 3) := by decide +kernel
theorem dX12_high_77 : decode cX12_high 77 = .ok (.iconst 2, 1) := by decide +kernel
theorem dX12_high_78 : decode cX12_high 78 = .ok (.iaload, 1) := by decide +kernel
theorem dX12_high_79 : decode cX12_high 79 = .ok (.i2l, 1) := by decide +kernel
theorem dX12_high_80 : decode cX12_high 80 = .ok (.aload_n 0, 1) := by decide +kernel
theorem dX12_high_81 : decode cX12_high 81 = .ok (.getfield 181, 3) := by decide +kernel
theorem dX12_high_84 : decode cX12_high 84 = .ok (.lmul, 1) := by decide +kernel
theorem dX12_high_85 : decode cX12_high 85 = .ok (.lsub, 1) := by decide +kernel
theorem dX12_high_86 : decode cX12_high 86 = .ok (.lmul, 1) := by decide +kernel
theorem dX12_high_87 : decode cX12_high 87 = .ok (.lsub, 1) := by decide +kernel
theorem dX12_high_88 : decode cX12_high 88 = .ok (.aload_n 0, 1) := by decide +kernel
theorem dX12_high_89 : decode cX12_high 89 = .ok (.getfield 181, 3) := by decide +kernel
theorem dX12_high_92 : decode cX12_high 92 = .ok (.lload 4, 2) := by decide +kernel
theorem dX12_high_94 : decode cX12_high 94 = .ok (.lmul, 1) := by decide +kernel
theorem dX12_high_95 : decode cX12_high 95 = .ok (.ldiv, 1) := by decide +kernel
theorem dX12_high_96 : decode cX12_high 96 = .ok (.lreturn, 1) := by decide +kernel
theorem dX12_span_0 : decode cX12_span 0 = .ok (.aload_n 0, 1) := by decide +kernel
theorem dX12_span_1 : decode cX12_span 1 = .ok (.iconst 0, 1) := by decide +kernel
theorem dX12_span_2 : decode cX12_span 2 = .ok (.putfield 59, 3) := by decide +kernel
theorem dX12_span_5 : decode cX12_span 5 = .ok (.iload_n 1, 1) := by decide +kernel
theorem dX12_span_6 : decode cX12_span 6 = .ok (.invokestatic 188, 3) := by decide +kernel
theorem dX12_span_9 : decode cX12_span 9 = .ok (.ifCond .eq 33, 3) := by decide +kernel
theorem dX12_span_12 : decode cX12_span 12 = .ok (.iload_n 2, 1) := by decide +kernel
theorem dX12_span_13 : decode cX12_span 13 = .ok (.invokestatic 188, 3) := by decide +kernel
theorem dX12_span_16 : decode cX12_span 16 = .ok (.ifCond .eq 26, 3) := by decide +kernel
theorem dX12_span_19 : decode cX12_span 19 = .ok (.iload_n 3, 1) := by decide +kernel
theorem dX12_span_20 : decode cX12_span 20 = .ok (.i2l, 1) := by decide +kernel
theorem dX12_span_21 : decode cX12_span 21 = .ok (.lconst 0, 1) := by decide +kernel
theorem dX12_span_22 : decode cX12_span 22 = .ok (.ldc2_w 199, 3) := by decide +kernel
theorem dX12_span_25 : decode cX12_span 25 = .ok (.invokestatic 69, 3) := by decide +kernel
theorem dX12_span_28 : decode cX12_span 28 = .ok (.ifCond .eq 14, 3) := by decide +kernel
theorem dX12_span_31 : decode cX12_span 31 = .ok (.iload 4, 2) := by decide +kernel
theorem dX12_span_33 : decode cX12_span 33 = .ok (.i2l, 1) := by decide +kernel
theorem dX12_span_34 : decode cX12_span 34 = .ok (.lconst 0, 1) := by decide +kernel
theorem dX12_span_35 : decode cX12_span 35 = .ok (.lconst 1, 1) := by decide +kernel
theorem dX12_span_36 : decode cX12_span 36 = .ok (.invokestatic 69, 3) := by decide +kernel
theorem dX12_span_39 : decode cX12_span 39 = .ok (.ifCond .ne 7, 3) := by decide +kernel
theorem dX12_span_42 : decode cX12_span 42 = .ok (.ldc2_w 191, 3) := by decide +kernel
theorem dX12_span_45 : decode cX12_span 45 = .ok (.lreturn, 1) := by decide +kernel
theorem dX12_span_46 : decode cX12_span 46 = .ok (.lconst 0, 1) := by decide +kernel
theorem dX12_span_47 : decode cX12_span 47 = .ok (.lstore 5, 2) := by decide +kernel
theorem dX12_span_49 : decode cX12_span 49 = .ok (.lconst 0, 1) := by decide +kernel
theorem dX12_span_50 : decode cX12_span 50 = .ok (.lstore 7, 2) := by decide +kernel
theorem dX12_span_52 : decode cX12_span 52 = .ok (.iconst 0, 1) := by decide +kernel
theorem dX12_span_53 : decode cX12_span 53 = .ok (.istore 9, 2) := by decide +kernel
theorem dX12_span_55 : decode cX12_span 55 = .ok (.iload 9, 2) := by decide +kernel
theorem dX12_span_57 : decode cX12_span 57 = .ok (.bipush 9, 2) := by decide +kernel
theorem dX12_span_59 : decode cX12_span 59 = .ok (.if_icmp .ge 95, 3) := by decide +kernel
theorem dX12_span_62 : decode cX12_span 62 = .ok (.aload_n 0, 1) := by decide +kernel
theorem dX12_span_63 : decode cX12_span 63 = .ok (.iload_n 1, 1) := by decide +kernel
theorem dX12_span_64 : decode cX12_span 64 = .ok (.iload 9, 2) := by decide +kernel
theorem dX12_span_66 : decode cX12_span 66 = .ok (.iconst 3, 1) := by decide +kernel
theorem dX12_span_67 : decode cX12_span 67 = .ok (.idiv, 1) := by decide +kernel
theorem dX12_span_68 : decode cX12_span 68 = .ok (.iconst 1, 1) := by decide +kernel
theorem dX12_span_69 : decode cX12_span 69 = .ok (.isub, 1) := by decide +kernel
theorem dX12_span_70 : decode cX12_span 70 = .ok (.iload_n 3, 1) := by decide +kernel
theorem dX12_span_71 : decode cX12_span 71 = .ok (.imul, 1) := by decide +kernel
theorem dX12_span_72 : decode cX12_span 72 = .ok (.iadd, 1) := by decide +kernel
theorem dX12_span_73 : decode cX12_span 73 = .ok (.iload_n 2, 1) := by decide +kernel
theorem dX12_span_74 : decode cX12_span 74 = .ok (.iload 9, 2) := by decide +kernel
theorem dX12_span_76 : decode cX12_span 76 = .ok (.iconst 3, 1) := by decide +kernel
theorem dX12_span_77 : decode cX12_span 77 = .ok (.irem, 1) := by decide +kernel
theorem dX12_span_78 : decode cX12_span 78 = .ok (.iconst 1, 1) := by decide +kernel
theorem dX12_span_79 : decode cX12_span 79 = .ok (.isub, 1) := by decide +kernel
theorem dX12_span_80 : decode cX12_span 80 = .ok (.iload_n 3, 1) := by decide +kernel
theorem dX12_span_81 : decode cX12_span 81 = .ok (.imul, 1) := by decide +kernel
theorem dX12_span_82 : decode cX12_span 82 = .ok (.iadd, 1) := by decide +kernel
theorem dX12_span_83 : decode cX12_span 83 = .ok (.invokevirtual 193, 3) := by decide +kernel
theorem dX12_span_86 : decode cX12_span 86 = .ok (.ifCond .ne 7, 3) := by decide +kernel
theorem dX12_span_89 : decode cX12_span 89 = .ok (.ldc2_w 197, 3) := by decide +kernel
theorem dX12_span_92 : decode cX12_span 92 = .ok (.lreturn, 1) := by decide +kernel
theorem dX12_span_93 : decode cX12_span 93 = .ok (.aload_n 0, 1) := by decide +kernel
theorem dX12_span_94 : decode cX12_span 94 = .ok (.getfield 185, 3) := by decide +kernel
theorem dX12_span_97 : decode cX12_span 97 = .ok (.aload_n 0, 1) := by decide +kernel
theorem dX12_span_98 : decode cX12_span 98 = .ok (.getfield 181, 3) := by decide +kernel
theorem dX12_span_101 : decode cX12_span 101 = .ok (.ldiv, 1) := by decide +kernel
theorem dX12_span_102 : decode cX12_span 102 = .ok (.lstore 10, 2) := by decide +kernel
theorem dX12_span_104 : decode cX12_span 104 = .ok (.iload 9, 2) := by decide +kernel
theorem dX12_span_106 : decode cX12_span 106 = .ok (.ifCond .eq 11, 3) := by decide +kernel
theorem dX12_span_109 : decode cX12_span 109 = .ok (.lload 10, 2) := by decide +kernel
theorem dX12_span_111 : decode cX12_span 111 = .ok (.lload 5, 2) := by decide +kernel
theorem dX12_span_113 : decode cX12_span 113 = .ok (.lcmp, 1) := by decide +kernel
theorem dX12_span_114 : decode cX12_span 114 = .ok (.ifCond .ge 8, 3) := by decide +kernel
theorem dX12_span_117 : decode cX12_span 117 = .ok (.lload 10, 2) := by decide +kernel
theorem dX12_span_119 : decode cX12_span 119 = .ok (.goto 5, 3) := by decide +kernel
theorem dX12_span_122 : decode cX12_span 122 = .ok (.lload 5, 2) := by decide +kernel
theorem dX12_span_124 : decode cX12_span 124 = .ok (.lstore 5, 2) := by decide +kernel
theorem dX12_span_126 : decode cX12_span 126 = .ok (.iload 9, 2) := by decide +kernel
theorem dX12_span_128 : decode cX12_span 128 = .ok (.ifCond .eq 11, 3) := by decide +kernel
theorem dX12_span_131 : decode cX12_span 131 = .ok (.lload 10, 2) := by decide +kernel
theorem dX12_span_133 : decode cX12_span 133 = .ok (.lload 7, 2) := by decide +kernel
theorem dX12_span_135 : decode cX12_span 135 = .ok (.lcmp, 1) := by decide +kernel
theorem dX12_span_136 : decode cX12_span 136 = .ok (.ifCond .le 8, 3) := by decide +kernel
theorem dX12_span_139 : decode cX12_span 139 = .ok (.lload 10, 2) := by decide +kernel
theorem dX12_span_141 : decode cX12_span 141 = .ok (.goto 5, 3) := by decide +kernel
theorem dX12_span_144 : decode cX12_span 144 = .ok (.lload 7, 2) := by decide +kernel
theorem dX12_span_146 : decode cX12_span 146 = .ok (.lstore 7, 2) := by decide +kernel
theorem dX12_span_148 : decode cX12_span 148 = .ok (.iinc 9 1, 3) := by decide +kernel
theorem dX12_span_151 : decode cX12_span 151 = .ok (.goto (-96), 3) := by decide +kernel
theorem dX12_span_154 : decode cX12_span 154 = .ok (.iload 4, 2) := by decide +kernel
theorem dX12_span_156 : decode cX12_span 156 = .ok (.ifCond .ne 8, 3) := by decide +kernel
theorem dX12_span_159 : decode cX12_span 159 = .ok (.lload 5, 2) := by decide +kernel
theorem dX12_span_161 : decode cX12_span 161 = .ok (.goto 5, 3) := by decide +kernel
theorem dX12_span_164 : decode cX12_span 164 = .ok (.lload 7, 2) := by decide +kernel
theorem dX12_span_166 : decode cX12_span 166 = .ok (.lreturn, 1) := by decide +kernel
theorem dX12_lookStudios_0 : decode cX12_lookStudios 0 = .ok (.aload_n 0, 1) := by decide +kernel
theorem dX12_lookStudios_1 : decode cX12_lookStudios 1 = .ok (.getfield 7, 3) := by decide +kernel
theorem dX12_lookStudios_4 : decode cX12_lookStudios 4 = .ok (.iload_n 2, 1) := by decide +kernel
theorem dX12_lookStudios_5 : decode cX12_lookStudios 5 = .ok (.iaload, 1) := by decide +kernel
theorem dX12_lookStudios_6 : decode cX12_lookStudios 6 = .ok (.ifCond .ge 9, 3) := by decide +kernel
theorem dX12_lookStudios_9 : decode cX12_lookStudios 9 = .ok (.aload_n 0, 1) := by decide +kernel
theorem dX12_lookStudios_10 : decode cX12_lookStudios 10 = .ok (.iconst 1, 1) := by decide +kernel
theorem dX12_lookStudios_11 : decode cX12_lookStudios 11 = .ok (.invokevirtual 80, 3) := by decide +kernel
theorem dX12_lookStudios_14 : decode cX12_lookStudios 14 = .ok (.ireturn, 1) := by decide +kernel
theorem dX12_lookStudios_15 : decode cX12_lookStudios 15 = .ok (.iload_n 3, 1) := by decide +kernel
theorem dX12_lookStudios_16 : decode cX12_lookStudios 16 = .ok (.ifCond .lt 22, 3) := by decide +kernel
theorem dX12_lookStudios_19 : decode cX12_lookStudios 19 = .ok (.iload_n 3, 1) := by decide +kernel
theorem dX12_lookStudios_20 : decode cX12_lookStudios 20 = .ok (.i2l, 1) := by decide +kernel
theorem dX12_lookStudios_21 : decode cX12_lookStudios 21 = .ok (.iconst 4, 1) := by decide +kernel
theorem dX12_lookStudios_22 : decode cX12_lookStudios 22 = .ok (.iload 4, 2) := by decide +kernel
theorem dX12_lookStudios_24 : decode cX12_lookStudios 24 = .ok (.imul, 1) := by decide +kernel
theorem dX12_lookStudios_25 : decode cX12_lookStudios 25 = .ok (.i2l, 1) := by decide +kernel
theorem dX12_lookStudios_26 : decode cX12_lookStudios 26 = .ok (.ladd, 1) := by decide +kernel
theorem dX12_lookStudios_27 : decode cX12_lookStudios 27 = .ok (.aload_n 0, 1) := by decide +kernel
theorem dX12_lookStudios_28 : decode cX12_lookStudios 28 = .ok (.getfield 13, 3) := by decide +kernel
theorem dX12_lookStudios_31 : decode cX12_lookStudios 31 = .ok (.iload_n 2, 1) := by decide +kernel
theorem dX12_lookStudios_32 : decode cX12_lookStudios 32 = .ok (.iaload, 1) := by decide +kernel
theorem dX12_lookStudios_33 : decode cX12_lookStudios 33 = .ok (.i2l, 1) := by decide +kernel
theorem dX12_lookStudios_34 : decode cX12_lookStudios 34 = .ok (.lcmp, 1) := by decide +kernel
theorem dX12_lookStudios_35 : decode cX12_lookStudios 35 = .ok (.ifCond .le 9, 3) := by decide +kernel
theorem dX12_lookStudios_38 : decode cX12_lookStudios 38 = .ok (.aload_n 0, 1) := by decide +kernel
theorem dX12_lookStudios_39 : decode cX12_lookStudios 39 = .ok (.iconst 2, 1) := by decide +kernel
theorem dX12_lookStudios_40 : decode cX12_lookStudios 40 = .ok (.invokevirtual 80, 3) := by decide +kernel
theorem dX12_lookStudios_43 : decode cX12_lookStudios 43 = .ok (.ireturn, 1) := by decide +kernel
theorem dX12_lookStudios_44 : decode cX12_lookStudios 44 = .ok (.iconst 0, 1) := by decide +kernel
theorem dX12_lookStudios_45 : decode cX12_lookStudios 45 = .ok (.istore 5, 2) := by decide +kernel
theorem dX12_lookStudios_47 : decode cX12_lookStudios 47 = .ok (.iload 5, 2) := by decide +kernel
theorem dX12_lookStudios_49 : decode cX12_lookStudios 49 = .ok (.iconst 4, 1) := by decide +kernel
theorem dX12_lookStudios_50 : decode cX12_lookStudios 50 = .ok (.iload 4, 2) := by decide +kernel
theorem dX12_lookStudios_52 : decode cX12_lookStudios 52 = .ok (.imul, 1) := by decide +kernel
theorem dX12_lookStudios_53 : decode cX12_lookStudios 53 = .ok (.if_icmp .ge 67, 3) := by decide +kernel
theorem dX12_lookStudios_56 : decode cX12_lookStudios 56 = .ok (.aload_n 0, 1) := by decide +kernel
theorem dX12_lookStudios_57 : decode cX12_lookStudios 57 = .ok (.getfield 16, 3) := by decide +kernel
theorem dX12_lookStudios_60 : decode cX12_lookStudios 60 = .ok (.bipush 80, 2) := by decide +kernel
theorem dX12_lookStudios_62 : decode cX12_lookStudios 62 = .ok (.iload_n 2, 1) := by decide +kernel
theorem dX12_lookStudios_63 : decode cX12_lookStudios 63 = .ok (.imul, 1) := by decide +kernel
theorem dX12_lookStudios_64 : decode cX12_lookStudios 64 = .ok (.iload_n 3, 1) := by decide +kernel
theorem dX12_lookStudios_65 : decode cX12_lookStudios 65 = .ok (.iadd, 1) := by decide +kernel
theorem dX12_lookStudios_66 : decode cX12_lookStudios 66 = .ok (.iload 5, 2) := by decide +kernel
theorem dX12_lookStudios_68 : decode cX12_lookStudios 68 = .ok (.iadd, 1) := by decide +kernel
theorem dX12_lookStudios_69 : decode cX12_lookStudios 69 = .ok (.iaload, 1) := by decide +kernel
theorem dX12_lookStudios_70 : decode cX12_lookStudios 70 = .ok (.istore 6, 2) := by decide +kernel
theorem dX12_lookStudios_72 : decode cX12_lookStudios 72 = .ok (.iload 5, 2) := by decide +kernel
theorem dX12_lookStudios_74 : decode cX12_lookStudios 74 = .ok (.iconst 4, 1) := by decide +kernel
theorem dX12_lookStudios_75 : decode cX12_lookStudios 75 = .ok (.irem, 1) := by decide +kernel
theorem dX12_lookStudios_76 : decode cX12_lookStudios 76 = .ok (.iconst 3, 1) := by decide +kernel
theorem dX12_lookStudios_77 : decode cX12_lookStudios 77 = .ok (.if_icmp .ne 19, 3) := by decide +kernel
theorem dX12_lookStudios_80 : decode cX12_lookStudios 80 = .ok (.iload 6, 2) := by decide +kernel
theorem dX12_lookStudios_82 : decode cX12_lookStudios 82 = .ok (.i2l, 1) := by decide +kernel
theorem dX12_lookStudios_83 : decode cX12_lookStudios 83 = .ok (.lconst 1, 1) := by decide +kernel
theorem dX12_lookStudios_84 : decode cX12_lookStudios 84 = .ok (.ldc2_w 98, 3) := by decide +kernel
theorem dX12_lookStudios_87 : decode cX12_lookStudios 87 = .ok (.invokestatic 69, 3) := by decide +kernel
theorem dX12_lookStudios_90 : decode cX12_lookStudios 90 = .ok (.ifCond .ne 24, 3) := by decide +kernel
theorem dX12_lookStudios_93 : decode cX12_lookStudios 93 = .ok (.goto 18, 3) := by decide +kernel
theorem dX12_lookStudios_96 : decode cX12_lookStudios 96 = .ok (.iload 6, 2) := by decide +kernel
theorem dX12_lookStudios_98 : decode cX12_lookStudios 98 = .ok (.i2l, 1) := by decide +kernel
theorem dX12_lookStudios_99 : decode cX12_lookStudios 99 = .ok (.ldc2_w 96, 3) := by decide +kernel
theorem dX12_lookStudios_102 : decode cX12_lookStudios 102 = .ok (.ldc2_w 98, 3) := by decide +kernel
theorem dX12_lookStudios_105 : decode cX12_lookStudios 105 = .ok (.invokestatic 69, 3) := by decide +kernel
theorem dX12_lookStudios_108 : decode cX12_lookStudios 108 = .ok (.ifCond .ne 6, 3) := by decide +kernel
theorem dX12_lookStudios_111 : decode cX12_lookStudios 111 = .ok (.ldc 79, 2) := by decide +kernel
theorem dX12_lookStudios_113 : decode cX12_lookStudios 113 = .ok (.ireturn, 1) := by decide +kernel
theorem dX12_lookStudios_114 : decode cX12_lookStudios 114 = .ok (.iinc 5 1, 3) := by decide +kernel
theorem dX12_lookStudios_117 : decode cX12_lookStudios 117 = .ok (.goto (-70), 3) := by decide +kernel
theorem dX12_lookStudios_120 : decode cX12_lookStudios 120 = .ok (.aload_n 0, 1) := by decide +kernel
theorem dX12_lookStudios_121 : decode cX12_lookStudios 121 = .ok (.iconst 0, 1) := by decide +kernel
theorem dX12_lookStudios_122 : decode cX12_lookStudios 122 = .ok (.putfield 63, 3) := by decide +kernel
theorem dX12_lookStudios_125 : decode cX12_lookStudios 125 = .ok (.iconst 0, 1) := by decide +kernel
theorem dX12_lookStudios_126 : decode cX12_lookStudios 126 = .ok (.ireturn, 1) := by decide +kernel
theorem dX12_puts_0 : decode cX12_puts 0 = .ok (.aload_n 0, 1) := by decide +kernel
theorem dX12_puts_1 : decode cX12_puts 1 = .ok (.getfield 31, 3) := by decide +kernel
theorem dX12_puts_4 : decode cX12_puts 4 = .ok (.iload_n 3, 1) := by decide +kernel
theorem dX12_puts_5 : decode cX12_puts 5 = .ok (.iaload, 1) := by decide +kernel
theorem dX12_puts_6 : decode cX12_puts 6 = .ok (.aload_n 0, 1) := by decide +kernel
theorem dX12_puts_7 : decode cX12_puts 7 = .ok (.getfield 16, 3) := by decide +kernel
theorem dX12_puts_10 : decode cX12_puts 10 = .ok (.iload_n 1, 1) := by decide +kernel
theorem dX12_puts_11 : decode cX12_puts 11 = .ok (.iconst 2, 1) := by decide +kernel
theorem dX12_puts_12 : decode cX12_puts 12 = .ok (.iadd, 1) := by decide +kernel
theorem dX12_puts_13 : decode cX12_puts 13 = .ok (.iaload, 1) := by decide +kernel
theorem dX12_puts_14 : decode cX12_puts 14 = .ok (.isub, 1) := by decide +kernel
theorem dX12_puts_15 : decode cX12_puts 15 = .ok (.istore 4, 2) := by decide +kernel
theorem dX12_puts_17 : decode cX12_puts 17 = .ok (.iload 4, 2) := by decide +kernel
theorem dX12_puts_19 : decode cX12_puts 19 = .ok (.ifCond .gt 5, 3) := by decide +kernel
theorem dX12_puts_22 : decode cX12_puts 22 = .ok (.iconst 0, 1) := by decide +kernel
theorem dX12_puts_23 : decode cX12_puts 23 = .ok (.ireturn, 1) := by decide +kernel
theorem dX12_puts_24 : decode cX12_puts 24 = .ok (.aload_n 0, 1) := by decide +kernel
theorem dX12_puts_25 : decode cX12_puts 25 = .ok (.getfield 16, 3) := by decide +kernel
theorem dX12_puts_28 : decode cX12_puts 28 = .ok (.iload_n 1, 1) := by decide +kernel
theorem dX12_puts_29 : decode cX12_puts 29 = .ok (.iconst 3, 1) := by decide +kernel
theorem dX12_puts_30 : decode cX12_puts 30 = .ok (.iadd, 1) := by decide +kernel
theorem dX12_puts_31 : decode cX12_puts 31 = .ok (.iaload, 1) := by decide +kernel
theorem dX12_puts_32 : decode cX12_puts 32 = .ok (.istore 5, 2) := by decide +kernel
theorem dX12_puts_34 : decode cX12_puts 34 = .ok (.aload_n 0, 1) := by decide +kernel
theorem dX12_puts_35 : decode cX12_puts 35 = .ok (.aload_n 0, 1) := by decide +kernel
theorem dX12_puts_36 : decode cX12_puts 36 = .ok (.getfield 38, 3) := by decide +kernel
theorem dX12_puts_39 : decode cX12_puts 39 = .ok (.bipush 24, 2) := by decide +kernel
theorem dX12_puts_41 : decode cX12_puts 41 = .ok (.iload_n 2, 1) := by decide +kernel
theorem dX12_puts_42 : decode cX12_puts 42 = .ok (.imul, 1) := by decide +kernel
theorem dX12_puts_43 : decode cX12_puts 43 = .ok (.iload_n 3, 1) := by decide +kernel
theorem dX12_puts_44 : decode cX12_puts 44 = .ok (.iadd, 1) := by decide +kernel
theorem dX12_puts_45 : decode cX12_puts 45 = .ok (.iaload, 1) := by decide +kernel
theorem dX12_puts_46 : decode cX12_puts 46 = .ok (.aload_n 0, 1) := by decide +kernel
theorem dX12_puts_47 : decode cX12_puts 47 = .ok (.getfield 25, 3) := by decide +kernel
theorem dX12_puts_50 : decode cX12_puts 50 = .ok (.iload_n 3, 1) := by decide +kernel
theorem dX12_puts_51 : decode cX12_puts 51 = .ok (.iaload, 1) := by decide +kernel
theorem dX12_puts_52 : decode cX12_puts 52 = .ok (.aload_n 0, 1) := by decide +kernel
theorem dX12_puts_53 : decode cX12_puts 53 = .ok (.getfield 16, 3) := by decide +kernel
theorem dX12_puts_56 : decode cX12_puts 56 = .ok (.iload_n 1, 1) := by decide +kernel
theorem dX12_puts_57 : decode cX12_puts 57 = .ok (.iaload, 1) := by decide +kernel
theorem dX12_puts_58 : decode cX12_puts 58 = .ok (.isub, 1) := by decide +kernel
theorem dX12_puts_59 : decode cX12_puts 59 = .ok (.iload 5, 2) := by decide +kernel
theorem dX12_puts_61 : decode cX12_puts 61 = .ok (.imul, 1) := by decide +kernel
theorem dX12_puts_62 : decode cX12_puts 62 = .ok (.iload 4, 2) := by decide +kernel
theorem dX12_puts_64 : decode cX12_puts 64 = .ok (.idiv, 1) := by decide +kernel
theorem dX12_puts_65 : decode cX12_puts 65 = .ok (.iadd, 1) := by decide +kernel
theorem dX12_puts_66 : decode cX12_puts 66 = .ok (.invokestatic 123, 3) := by decide +kernel
theorem dX12_puts_69 : decode cX12_puts 69 = .ok (.putfield 201, 3) := by decide +kernel
theorem dX12_puts_72 : decode cX12_puts 72 = .ok (.aload_n 0, 1) := by decide +kernel
theorem dX12_puts_73 : decode cX12_puts 73 = .ok (.aload_n 0, 1) := by decide +kernel
theorem dX12_puts_74 : decode cX12_puts 74 = .ok (.getfield 41, 3) := by decide +kernel
theorem dX12_puts_77 : decode cX12_puts 77 = .ok (.bipush 24, 2) := by decide +kernel
theorem dX12_puts_79 : decode cX12_puts 79 = .ok (.iload_n 2, 1) := by decide +kernel
theorem dX12_puts_80 : decode cX12_puts 80 = .ok (.imul, 1) := by decide +kernel
theorem dX12_puts_81 : decode cX12_puts 81 = .ok (.iload_n 3, 1) := by decide +kernel
theorem dX12_puts_82 : decode cX12_puts 82 = .ok (.iadd, 1) := by decide +kernel
theorem dX12_puts_83 : decode cX12_puts 83 = .ok (.iaload, 1) := by decide +kernel
theorem dX12_puts_84 : decode cX12_puts 84 = .ok (.aload_n 0, 1) := by decide +kernel
theorem dX12_puts_85 : decode cX12_puts 85 = .ok (.getfield 28, 3) := by decide +kernel
theorem dX12_puts_88 : decode cX12_puts 88 = .ok (.iload_n 3, 1) := by decide +kernel
theorem dX12_puts_89 : decode cX12_puts 89 = .ok (.iaload, 1) := by decide +kernel
theorem dX12_puts_90 : decode cX12_puts 90 = .ok (.aload_n 0, 1) := by decide +kernel
theorem dX12_puts_91 : decode cX12_puts 91 = .ok (.getfield 16, 3) := by decide +kernel
theorem dX12_puts_94 : decode cX12_puts 94 = .ok (.iload_n 1, 1) := by decide +kernel
theorem dX12_puts_95 : decode cX12_puts 95 = .ok (.iconst 1, 1) := by decide +kernel
theorem dX12_puts_96 : decode cX12_puts 96 = .ok (.iadd, 1) := by decide +kernel
theorem dX12_puts_97 : decode cX12_puts 97 = .ok (.iaload, 1) := by decide +kernel
theorem dX12_puts_98 : decode cX12_puts 98 = .ok (.isub, 1) := by decide +kernel
theorem dX12_puts_99 : decode cX12_puts 99 = .ok (.iload 5, 2) := by decide +kernel
theorem dX12_puts_101 : decode cX12_puts 101 = .ok (.imul, 1) := by decide +kernel
theorem dX12_puts_102 : decode cX12_puts 102 = .ok (.iload 4, 2) := by decide +kernel
theorem dX12_puts_104 : decode cX12_puts 104 = .ok (.idiv, 1) := by decide +kernel
theorem dX12_puts_105 : decode cX12_puts 105 = .ok (.iadd, 1) := by decide +kernel
theorem dX12_puts_106 : decode cX12_puts 106 = .ok (.invokestatic 123, 3) := by decide +kernel
theorem dX12_puts_109 : decode cX12_puts 109 = .ok (.putfield 204, 3) := by decide +kernel
theorem dX12_puts_112 : decode cX12_puts 112 = .ok (.iconst 1, 1) := by decide +kernel
theorem dX12_puts_113 : decode cX12_puts 113 = .ok (.ireturn, 1) := by decide +kernel
theorem dX12_misfitOf_0 : decode cX12_misfitOf 0 = .ok (.iconst 0, 1) := by decide +kernel
theorem dX12_misfitOf_1 : decode cX12_misfitOf 1 = .ok (.istore_n 3, 1) := by decide +kernel
theorem dX12_misfitOf_2 : decode cX12_misfitOf 2 = .ok (.iconst 0, 1) := by decide +kernel
theorem dX12_misfitOf_3 : decode cX12_misfitOf 3 = .ok (.istore 4, 2) := by decide +kernel
theorem dX12_misfitOf_5 : decode cX12_misfitOf 5 = .ok (.iload 4, 2) := by decide +kernel
theorem dX12_misfitOf_7 : decode cX12_misfitOf 7 = .ok (.aload_n 0, 1) := by decide +kernel
theorem dX12_misfitOf_8 : decode cX12_misfitOf 8 = .ok (.getfield 102, 3) := by decide +kernel
theorem dX12_misfitOf_11 : decode cX12_misfitOf 11 = .ok (.if_icmp .ge 85, 3) := by decide +kernel
theorem dX12_misfitOf_14 : decode cX12_misfitOf 14 = .ok (.aload_n 0, 1) := by decide +kernel
theorem dX12_misfitOf_15 : decode cX12_misfitOf 15 = .ok (.getfield 34, 3) := by decide +kernel
theorem dX12_misfitOf_18 : decode cX12_misfitOf 18 = .ok (.bipush 24, 2) := by decide +kernel
theorem dX12_misfitOf_20 : decode cX12_misfitOf 20 = .ok (.iload_n 2, 1) := by decide +kernel
theorem dX12_misfitOf_21 : decode cX12_misfitOf 21 = .ok (.imul, 1) := by decide +kernel
theorem dX12_misfitOf_22 : decode cX12_misfitOf 22 = .ok (.iload 4, 2) := by decide +kernel
theorem dX12_misfitOf_24 : decode cX12_misfitOf 24 = .ok (.iadd, 1) := by decide +kernel
theorem dX12_misfitOf_25 : decode cX12_misfitOf 25 = .ok (.baload, 1) := by decide +kernel
theorem dX12_misfitOf_26 : decode cX12_misfitOf 26 = .ok (.ifCond .eq 64, 3) := by decide +kernel
theorem dX12_misfitOf_29 : decode cX12_misfitOf 29 = .ok (.iload_n 3, 1) := by decide +kernel
theorem dX12_misfitOf_30 : decode cX12_misfitOf 30 = .ok (.aload_n 0, 1) := by decide +kernel
theorem dX12_misfitOf_31 : decode cX12_misfitOf 31 = .ok (.iload_n 1, 1) := by decide +kernel
theorem dX12_misfitOf_32 : decode cX12_misfitOf 32 = .ok (.iload_n 2, 1) := by decide +kernel
theorem dX12_misfitOf_33 : decode cX12_misfitOf 33 = .ok (.iload 4, 2) := by decide +kernel
theorem dX12_misfitOf_35 : decode cX12_misfitOf 35 = .ok (.invokevirtual 207, 3) := by decide +kernel
theorem dX12_misfitOf_38 : decode cX12_misfitOf 38 = .ok (.ifCond .ne 9, 3) := by decide +kernel
theorem dX12_misfitOf_41 : decode cX12_misfitOf 41 = .ok (.sipush 1000, 3) := by decide +kernel
theorem dX12_misfitOf_44 : decode cX12_misfitOf 44 = .ok (.goto 44, 3) := by decide +kernel
theorem dX12_misfitOf_47 : decode cX12_misfitOf 47 = .ok (.aload_n 0, 1) := by decide +kernel
theorem dX12_misfitOf_48 : decode cX12_misfitOf 48 = .ok (.getfield 201, 3) := by decide +kernel
theorem dX12_misfitOf_51 : decode cX12_misfitOf 51 = .ok (.sipush 500, 3) := by decide +kernel
theorem dX12_misfitOf_54 : decode cX12_misfitOf 54 = .ok (.if_icmp .le 9, 3) := by decide +kernel
theorem dX12_misfitOf_57 : decode cX12_misfitOf 57 = .ok (.sipush 500, 3) := by decide +kernel
theorem dX12_misfitOf_60 : decode cX12_misfitOf 60 = .ok (.goto 7, 3) := by decide +kernel
theorem dX12_misfitOf_63 : decode cX12_misfitOf 63 = .ok (.aload_n 0, 1) := by decide +kernel
theorem dX12_misfitOf_64 : decode cX12_misfitOf 64 = .ok (.getfield 201, 3) := by decide +kernel
theorem dX12_misfitOf_67 : decode cX12_misfitOf 67 = .ok (.aload_n 0, 1) := by decide +kernel
theorem dX12_misfitOf_68 : decode cX12_misfitOf 68 = .ok (.getfield 204, 3) := by decide +kernel
theorem dX12_misfitOf_71 : decode cX12_misfitOf 71 = .ok (.sipush 500, 3) := by decide +kernel
theorem dX12_misfitOf_74 : decode cX12_misfitOf 74 = .ok (.if_icmp .le 9, 3) := by decide +kernel
theorem dX12_misfitOf_77 : decode cX12_misfitOf 77 = .ok (.sipush 500, 3) := by decide +kernel
theorem dX12_misfitOf_80 : decode cX12_misfitOf 80 = .ok (.goto 7, 3) := by decide +kernel
theorem dX12_misfitOf_83 : decode cX12_misfitOf 83 = .ok (.aload_n 0, 1) := by decide +kernel
theorem dX12_misfitOf_84 : decode cX12_misfitOf 84 = .ok (.getfield 204, 3) := by decide +kernel
theorem dX12_misfitOf_87 : decode cX12_misfitOf 87 = .ok (.iadd, 1) := by decide +kernel
theorem dX12_misfitOf_88 : decode cX12_misfitOf 88 = .ok (.iadd, 1) := by decide +kernel
theorem dX12_misfitOf_89 : decode cX12_misfitOf 89 = .ok (.istore_n 3, 1) := by decide +kernel
theorem dX12_misfitOf_90 : decode cX12_misfitOf 90 = .ok (.iinc 4 1, 3) := by decide +kernel
theorem dX12_misfitOf_93 : decode cX12_misfitOf 93 = .ok (.goto (-88), 3) := by decide +kernel
theorem dX12_misfitOf_96 : decode cX12_misfitOf 96 = .ok (.iload_n 3, 1) := by decide +kernel
theorem dX12_misfitOf_97 : decode cX12_misfitOf 97 = .ok (.ireturn, 1) := by decide +kernel
theorem dX12_isMade_0 : decode cX12_isMade 0 = .ok (.iconst 1, 1) := by decide +kernel
theorem dX12_isMade_1 : decode cX12_isMade 1 = .ok (.istore 4, 2) := by decide +kernel
theorem dX12_isMade_3 : decode cX12_isMade 3 = .ok (.iconst 0, 1) := by decide +kernel
theorem dX12_isMade_4 : decode cX12_isMade 4 = .ok (.istore 5, 2) := by decide +kernel
theorem dX12_isMade_6 : decode cX12_isMade 6 = .ok (.iload 5, 2) := by decide +kernel
theorem dX12_isMade_8 : decode cX12_isMade 8 = .ok (.aload_n 0, 1) := by decide +kernel
theorem dX12_isMade_9 : decode cX12_isMade 9 = .ok (.getfield 102, 3) := by decide +kernel
theorem dX12_isMade_12 : decode cX12_isMade 12 = .ok (.if_icmp .ge 63, 3) := by decide +kernel
theorem dX12_isMade_15 : decode cX12_isMade 15 = .ok (.iload 4, 2) := by decide +kernel
theorem dX12_isMade_17 : decode cX12_isMade 17 = .ok (.ifCond .eq 49, 3) := by decide +kernel
theorem dX12_isMade_20 : decode cX12_isMade 20 = .ok (.aload_n 0, 1) := by decide +kernel
theorem dX12_isMade_21 : decode cX12_isMade 21 = .ok (.getfield 34, 3) := by decide +kernel
theorem dX12_isMade_24 : decode cX12_isMade 24 = .ok (.bipush 24, 2) := by decide +kernel
theorem dX12_isMade_26 : decode cX12_isMade 26 = .ok (.iload_n 2, 1) := by decide +kernel
theorem dX12_isMade_27 : decode cX12_isMade 27 = .ok (.imul, 1) := by decide +kernel
theorem dX12_isMade_28 : decode cX12_isMade 28 = .ok (.iload 5, 2) := by decide +kernel
theorem dX12_isMade_30 : decode cX12_isMade 30 = .ok (.iadd, 1) := by decide +kernel
theorem dX12_isMade_31 : decode cX12_isMade 31 = .ok (.baload, 1) := by decide +kernel
theorem dX12_isMade_32 : decode cX12_isMade 32 = .ok (.ifCond .eq 30, 3) := by decide +kernel
theorem dX12_isMade_35 : decode cX12_isMade 35 = .ok (.aload_n 0, 1) := by decide +kernel
theorem dX12_isMade_36 : decode cX12_isMade 36 = .ok (.iload_n 1, 1) := by decide +kernel
theorem dX12_isMade_37 : decode cX12_isMade 37 = .ok (.iload_n 2, 1) := by decide +kernel
theorem dX12_isMade_38 : decode cX12_isMade 38 = .ok (.iload 5, 2) := by decide +kernel
theorem dX12_isMade_40 : decode cX12_isMade 40 = .ok (.invokevirtual 207, 3) := by decide +kernel
theorem dX12_isMade_43 : decode cX12_isMade 43 = .ok (.ifCond .eq 23, 3) := by decide +kernel
theorem dX12_isMade_46 : decode cX12_isMade 46 = .ok (.aload_n 0, 1) := by decide +kernel
theorem dX12_isMade_47 : decode cX12_isMade 47 = .ok (.getfield 201, 3) := by decide +kernel
