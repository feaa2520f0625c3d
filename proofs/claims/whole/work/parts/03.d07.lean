theorem dX12_isMade_50 : decode cX12_isMade 50 = .ok (.iload_n 3, 1) := by decide +kernel
theorem dX12_isMade_51 : decode cX12_isMade 51 = .ok (.if_icmp .gt 15, 3) := by decide +kernel
theorem dX12_isMade_54 : decode cX12_isMade 54 = .ok (.aload_n 0, 1) := by decide +kernel
theorem dX12_isMade_55 : decode cX12_isMade 55 = .ok (.getfield 204, 3) := by decide +kernel
theorem dX12_isMade_58 : decode cX12_isMade 58 = .ok (.iload_n 3, 1) := by decide +kernel
theorem dX12_isMade_59 : decode cX12_isMade 59 = .ok (.if_icmp .gt 7, 3) := by decide +kernel
theorem dX12_isMade_62 : decode cX12_isMade 62 = .ok (.iconst 1, 1) := by decide +kernel
theorem dX12_isMade_63 : decode cX12_isMade 63 = .ok (.goto 4, 3) := by decide +kernel
theorem dX12_isMade_66 : decode cX12_isMade 66 = .ok (.iconst 0, 1) := by decide +kernel
theorem dX12_isMade_67 : decode cX12_isMade 67 = .ok (.istore 4, 2) := by decide +kernel
theorem dX12_isMade_69 : decode cX12_isMade 69 = .ok (.iinc 5 1, 3) := by decide +kernel
theorem dX12_isMade_72 : decode cX12_isMade 72 = .ok (.goto (-66), 3) := by decide +kernel
theorem dX12_isMade_75 : decode cX12_isMade 75 = .ok (.iload 4, 2) := by decide +kernel
theorem dX12_isMade_77 : decode cX12_isMade 77 = .ok (.ireturn, 1) := by decide +kernel
theorem dX12_studio_0 : decode cX12_studio 0 = .ok (.aload_n 0, 1) := by decide +kernel
theorem dX12_studio_1 : decode cX12_studio 1 = .ok (.iconst 0, 1) := by decide +kernel
theorem dX12_studio_2 : decode cX12_studio 2 = .ok (.putfield 59, 3) := by decide +kernel
theorem dX12_studio_5 : decode cX12_studio 5 = .ok (.iload_n 1, 1) := by decide +kernel
theorem dX12_studio_6 : decode cX12_studio 6 = .ok (.invokestatic 140, 3) := by decide +kernel
theorem dX12_studio_9 : decode cX12_studio 9 = .ok (.ifCond .eq 62, 3) := by decide +kernel
theorem dX12_studio_12 : decode cX12_studio 12 = .ok (.iload_n 2, 1) := by decide +kernel
theorem dX12_studio_13 : decode cX12_studio 13 = .ok (.invokestatic 73, 3) := by decide +kernel
theorem dX12_studio_16 : decode cX12_studio 16 = .ok (.ifCond .eq 55, 3) := by decide +kernel
theorem dX12_studio_19 : decode cX12_studio 19 = .ok (.iload 4, 2) := by decide +kernel
theorem dX12_studio_21 : decode cX12_studio 21 = .ok (.i2l, 1) := by decide +kernel
theorem dX12_studio_22 : decode cX12_studio 22 = .ok (.lconst 1, 1) := by decide +kernel
theorem dX12_studio_23 : decode cX12_studio 23 = .ok (.ldc2_w 199, 3) := by decide +kernel
theorem dX12_studio_26 : decode cX12_studio 26 = .ok (.invokestatic 69, 3) := by decide +kernel
theorem dX12_studio_29 : decode cX12_studio 29 = .ok (.ifCond .eq 42, 3) := by decide +kernel
theorem dX12_studio_32 : decode cX12_studio 32 = .ok (.iload 5, 2) := by decide +kernel
theorem dX12_studio_34 : decode cX12_studio 34 = .ok (.i2l, 1) := by decide +kernel
theorem dX12_studio_35 : decode cX12_studio 35 = .ok (.lconst 0, 1) := by decide +kernel
theorem dX12_studio_36 : decode cX12_studio 36 = .ok (.iload 4, 2) := by decide +kernel
theorem dX12_studio_38 : decode cX12_studio 38 = .ok (.iconst 1, 1) := by decide +kernel
theorem dX12_studio_39 : decode cX12_studio 39 = .ok (.isub, 1) := by decide +kernel
theorem dX12_studio_40 : decode cX12_studio 40 = .ok (.i2l, 1) := by decide +kernel
theorem dX12_studio_41 : decode cX12_studio 41 = .ok (.invokestatic 69, 3) := by decide +kernel
theorem dX12_studio_44 : decode cX12_studio 44 = .ok (.ifCond .eq 27, 3) := by decide +kernel
theorem dX12_studio_47 : decode cX12_studio 47 = .ok (.iload 6, 2) := by decide +kernel
theorem dX12_studio_49 : decode cX12_studio 49 = .ok (.i2l, 1) := by decide +kernel
theorem dX12_studio_50 : decode cX12_studio 50 = .ok (.lconst 0, 1) := by decide +kernel
theorem dX12_studio_51 : decode cX12_studio 51 = .ok (.ldc2_w 199, 3) := by decide +kernel
theorem dX12_studio_54 : decode cX12_studio 54 = .ok (.invokestatic 69, 3) := by decide +kernel
theorem dX12_studio_57 : decode cX12_studio 57 = .ok (.ifCond .eq 14, 3) := by decide +kernel
theorem dX12_studio_60 : decode cX12_studio 60 = .ok (.iload 7, 2) := by decide +kernel
theorem dX12_studio_62 : decode cX12_studio 62 = .ok (.i2l, 1) := by decide +kernel
theorem dX12_studio_63 : decode cX12_studio 63 = .ok (.lconst 0, 1) := by decide +kernel
theorem dX12_studio_64 : decode cX12_studio 64 = .ok (.lconst 1, 1) := by decide +kernel
theorem dX12_studio_65 : decode cX12_studio 65 = .ok (.invokestatic 69, 3) := by decide +kernel
theorem dX12_studio_68 : decode cX12_studio 68 = .ok (.ifCond .ne 6, 3) := by decide +kernel
theorem dX12_studio_71 : decode cX12_studio 71 = .ok (.ldc 79, 2) := by decide +kernel
theorem dX12_studio_73 : decode cX12_studio 73 = .ok (.ireturn, 1) := by decide +kernel
theorem dX12_studio_74 : decode cX12_studio 74 = .ok (.aload_n 0, 1) := by decide +kernel
theorem dX12_studio_75 : decode cX12_studio 75 = .ok (.iload_n 1, 1) := by decide +kernel
theorem dX12_studio_76 : decode cX12_studio 76 = .ok (.iload_n 2, 1) := by decide +kernel
theorem dX12_studio_77 : decode cX12_studio 77 = .ok (.iload_n 3, 1) := by decide +kernel
theorem dX12_studio_78 : decode cX12_studio 78 = .ok (.iload 4, 2) := by decide +kernel
theorem dX12_studio_80 : decode cX12_studio 80 = .ok (.invokevirtual 210, 3) := by decide +kernel
theorem dX12_studio_83 : decode cX12_studio 83 = .ok (.istore 8, 2) := by decide +kernel
theorem dX12_studio_85 : decode cX12_studio 85 = .ok (.iload 8, 2) := by decide +kernel
theorem dX12_studio_87 : decode cX12_studio 87 = .ok (.ifCond .ge 6, 3) := by decide +kernel
theorem dX12_studio_90 : decode cX12_studio 90 = .ok (.iload 8, 2) := by decide +kernel
theorem dX12_studio_92 : decode cX12_studio 92 = .ok (.ireturn, 1) := by decide +kernel
theorem dX12_studio_93 : decode cX12_studio 93 = .ok (.bipush 80, 2) := by decide +kernel
theorem dX12_studio_95 : decode cX12_studio 95 = .ok (.iload_n 2, 1) := by decide +kernel
theorem dX12_studio_96 : decode cX12_studio 96 = .ok (.imul, 1) := by decide +kernel
theorem dX12_studio_97 : decode cX12_studio 97 = .ok (.iload_n 3, 1) := by decide +kernel
theorem dX12_studio_98 : decode cX12_studio 98 = .ok (.iadd, 1) := by decide +kernel
theorem dX12_studio_99 : decode cX12_studio 99 = .ok (.iconst 4, 1) := by decide +kernel
theorem dX12_studio_100 : decode cX12_studio 100 = .ok (.iload 5, 2) := by decide +kernel
theorem dX12_studio_102 : decode cX12_studio 102 = .ok (.imul, 1) := by decide +kernel
theorem dX12_studio_103 : decode cX12_studio 103 = .ok (.iadd, 1) := by decide +kernel
theorem dX12_studio_104 : decode cX12_studio 104 = .ok (.istore 9, 2) := by decide +kernel
theorem dX12_studio_106 : decode cX12_studio 106 = .ok (.iload 7, 2) := by decide +kernel
theorem dX12_studio_108 : decode cX12_studio 108 = .ok (.ifCond .ne 13, 3) := by decide +kernel
theorem dX12_studio_111 : decode cX12_studio 111 = .ok (.aload_n 0, 1) := by decide +kernel
theorem dX12_studio_112 : decode cX12_studio 112 = .ok (.iload 9, 2) := by decide +kernel
theorem dX12_studio_114 : decode cX12_studio 114 = .ok (.iload_n 1, 1) := by decide +kernel
theorem dX12_studio_115 : decode cX12_studio 115 = .ok (.invokevirtual 214, 3) := by decide +kernel
theorem dX12_studio_118 : decode cX12_studio 118 = .ok (.goto 20, 3) := by decide +kernel
theorem dX12_studio_121 : decode cX12_studio 121 = .ok (.aload_n 0, 1) := by decide +kernel
theorem dX12_studio_122 : decode cX12_studio 122 = .ok (.iload 9, 2) := by decide +kernel
theorem dX12_studio_124 : decode cX12_studio 124 = .ok (.iload_n 1, 1) := by decide +kernel
theorem dX12_studio_125 : decode cX12_studio 125 = .ok (.iload 6, 2) := by decide +kernel
theorem dX12_studio_127 : decode cX12_studio 127 = .ok (.invokevirtual 217, 3) := by decide +kernel
theorem dX12_studio_130 : decode cX12_studio 130 = .ok (.ifCond .eq 7, 3) := by decide +kernel
theorem dX12_studio_133 : decode cX12_studio 133 = .ok (.iconst 1, 1) := by decide +kernel
theorem dX12_studio_134 : decode cX12_studio 134 = .ok (.goto 4, 3) := by decide +kernel
theorem dX12_studio_137 : decode cX12_studio 137 = .ok (.iconst 0, 1) := by decide +kernel
theorem dX12_studio_138 : decode cX12_studio 138 = .ok (.ireturn, 1) := by decide +kernel
theorem dX12_studios_0 : decode cX12_studios 0 = .ok (.aload_n 0, 1) := by decide +kernel
theorem dX12_studios_1 : decode cX12_studios 1 = .ok (.iconst 0, 1) := by decide +kernel
theorem dX12_studios_2 : decode cX12_studios 2 = .ok (.putfield 59, 3) := by decide +kernel
theorem dX12_studios_5 : decode cX12_studios 5 = .ok (.iload_n 1, 1) := by decide +kernel
theorem dX12_studios_6 : decode cX12_studios 6 = .ok (.invokestatic 140, 3) := by decide +kernel
theorem dX12_studios_9 : decode cX12_studios 9 = .ok (.ifCond .eq 49, 3) := by decide +kernel
theorem dX12_studios_12 : decode cX12_studios 12 = .ok (.iload_n 2, 1) := by decide +kernel
theorem dX12_studios_13 : decode cX12_studios 13 = .ok (.invokestatic 73, 3) := by decide +kernel
theorem dX12_studios_16 : decode cX12_studios 16 = .ok (.ifCond .eq 42, 3) := by decide +kernel
theorem dX12_studios_19 : decode cX12_studios 19 = .ok (.iload 4, 2) := by decide +kernel
theorem dX12_studios_21 : decode cX12_studios 21 = .ok (.i2l, 1) := by decide +kernel
theorem dX12_studios_22 : decode cX12_studios 22 = .ok (.lconst 1, 1) := by decide +kernel
theorem dX12_studios_23 : decode cX12_studios 23 = .ok (.ldc2_w 199, 3) := by decide +kernel
theorem dX12_studios_26 : decode cX12_studios 26 = .ok (.invokestatic 69, 3) := by decide +kernel
theorem dX12_studios_29 : decode cX12_studios 29 = .ok (.ifCond .eq 29, 3) := by decide +kernel
theorem dX12_studios_32 : decode cX12_studios 32 = .ok (.iload 5, 2) := by decide +kernel
theorem dX12_studios_34 : decode cX12_studios 34 = .ok (.i2l, 1) := by decide +kernel
theorem dX12_studios_35 : decode cX12_studios 35 = .ok (.lconst 0, 1) := by decide +kernel
theorem dX12_studios_36 : decode cX12_studios 36 = .ok (.ldc2_w 199, 3) := by decide +kernel
theorem dX12_studios_39 : decode cX12_studios 39 = .ok (.invokestatic 69, 3) := by decide +kernel
theorem dX12_studios_42 : decode cX12_studios 42 = .ok (.ifCond .eq 16, 3) := by decide +kernel
theorem dX12_studios_45 : decode cX12_studios 45 = .ok (.iload 6, 2) := by decide +kernel
theorem dX12_studios_47 : decode cX12_studios 47 = .ok (.i2l, 1) := by decide +kernel
theorem dX12_studios_48 : decode cX12_studios 48 = .ok (.lconst 0, 1) := by decide +kernel
theorem dX12_studios_49 : decode cX12_studios 49 = .ok (.ldc2_w 77, 3) := by decide +kernel
theorem dX12_studios_52 : decode cX12_studios 52 = .ok (.invokestatic 69, 3) := by decide +kernel
theorem dX12_studios_55 : decode cX12_studios 55 = .ok (.ifCond .ne 6, 3) := by decide +kernel
theorem dX12_studios_58 : decode cX12_studios 58 = .ok (.ldc 79, 2) := by decide +kernel
theorem dX12_studios_60 : decode cX12_studios 60 = .ok (.ireturn, 1) := by decide +kernel
theorem dX12_studios_61 : decode cX12_studios 61 = .ok (.aload_n 0, 1) := by decide +kernel
theorem dX12_studios_62 : decode cX12_studios 62 = .ok (.iload_n 1, 1) := by decide +kernel
theorem dX12_studios_63 : decode cX12_studios 63 = .ok (.iload_n 2, 1) := by decide +kernel
theorem dX12_studios_64 : decode cX12_studios 64 = .ok (.iload_n 3, 1) := by decide +kernel
theorem dX12_studios_65 : decode cX12_studios 65 = .ok (.iload 4, 2) := by decide +kernel
theorem dX12_studios_67 : decode cX12_studios 67 = .ok (.invokevirtual 210, 3) := by decide +kernel
theorem dX12_studios_70 : decode cX12_studios 70 = .ok (.istore 7, 2) := by decide +kernel
theorem dX12_studios_72 : decode cX12_studios 72 = .ok (.iload 7, 2) := by decide +kernel
theorem dX12_studios_74 : decode cX12_studios 74 = .ok (.ifCond .ge 6, 3) := by decide +kernel
theorem dX12_studios_77 : decode cX12_studios 77 = .ok (.iload 7, 2) := by decide +kernel
theorem dX12_studios_79 : decode cX12_studios 79 = .ok (.ireturn, 1) := by decide +kernel
theorem dX12_studios_80 : decode cX12_studios 80 = .ok (.bipush 80, 2) := by decide +kernel
theorem dX12_studios_82 : decode cX12_studios 82 = .ok (.iload_n 2, 1) := by decide +kernel
theorem dX12_studios_83 : decode cX12_studios 83 = .ok (.imul, 1) := by decide +kernel
theorem dX12_studios_84 : decode cX12_studios 84 = .ok (.iload_n 3, 1) := by decide +kernel
theorem dX12_studios_85 : decode cX12_studios 85 = .ok (.iadd, 1) := by decide +kernel
theorem dX12_studios_86 : decode cX12_studios 86 = .ok (.istore 8, 2) := by decide +kernel
theorem dX12_studios_88 : decode cX12_studios 88 = .ok (.iconst 0, 1) := by decide +kernel
theorem dX12_studios_89 : decode cX12_studios 89 = .ok (.istore 9, 2) := by decide +kernel
theorem dX12_studios_91 : decode cX12_studios 91 = .ok (.iconst 0, 1) := by decide +kernel
theorem dX12_studios_92 : decode cX12_studios 92 = .ok (.istore 10, 2) := by decide +kernel
theorem dX12_studios_94 : decode cX12_studios 94 = .ok (.iconst 0, 1) := by decide +kernel
theorem dX12_studios_95 : decode cX12_studios 95 = .ok (.istore 11, 2) := by decide +kernel
theorem dX12_studios_97 : decode cX12_studios 97 = .ok (.iload 11, 2) := by decide +kernel
theorem dX12_studios_99 : decode cX12_studios 99 = .ok (.iload 4, 2) := by decide +kernel
theorem dX12_studios_101 : decode cX12_studios 101 = .ok (.if_icmp .ge 72, 3) := by decide +kernel
theorem dX12_studios_104 : decode cX12_studios 104 = .ok (.aload_n 0, 1) := by decide +kernel
theorem dX12_studios_105 : decode cX12_studios 105 = .ok (.iload 8, 2) := by decide +kernel
theorem dX12_studios_107 : decode cX12_studios 107 = .ok (.iconst 4, 1) := by decide +kernel
theorem dX12_studios_108 : decode cX12_studios 108 = .ok (.iload 11, 2) := by decide +kernel
theorem dX12_studios_110 : decode cX12_studios 110 = .ok (.imul, 1) := by decide +kernel
theorem dX12_studios_111 : decode cX12_studios 111 = .ok (.iadd, 1) := by decide +kernel
theorem dX12_studios_112 : decode cX12_studios 112 = .ok (.iload_n 1, 1) := by decide +kernel
theorem dX12_studios_113 : decode cX12_studios 113 = .ok (.invokevirtual 214, 3) := by decide +kernel
theorem dX12_studios_116 : decode cX12_studios 116 = .ok (.aload_n 0, 1) := by decide +kernel
theorem dX12_studios_117 : decode cX12_studios 117 = .ok (.iload 8, 2) := by decide +kernel
theorem dX12_studios_119 : decode cX12_studios 119 = .ok (.iconst 4, 1) := by decide +kernel
theorem dX12_studios_120 : decode cX12_studios 120 = .ok (.iload 9, 2) := by decide +kernel
theorem dX12_studios_122 : decode cX12_studios 122 = .ok (.imul, 1) := by decide +kernel
theorem dX12_studios_123 : decode cX12_studios 123 = .ok (.iadd, 1) := by decide +kernel
theorem dX12_studios_124 : decode cX12_studios 124 = .ok (.iload_n 1, 1) := by decide +kernel
theorem dX12_studios_125 : decode cX12_studios 125 = .ok (.invokevirtual 214, 3) := by decide +kernel
theorem dX12_studios_128 : decode cX12_studios 128 = .ok (.if_icmp .ge 8, 3) := by decide +kernel
theorem dX12_studios_131 : decode cX12_studios 131 = .ok (.iload 11, 2) := by decide +kernel
theorem dX12_studios_133 : decode cX12_studios 133 = .ok (.goto 5, 3) := by decide +kernel
theorem dX12_studios_136 : decode cX12_studios 136 = .ok (.iload 9, 2) := by decide +kernel
theorem dX12_studios_138 : decode cX12_studios 138 = .ok (.istore 9, 2) := by decide +kernel
theorem dX12_studios_140 : decode cX12_studios 140 = .ok (.iload 10, 2) := by decide +kernel
theorem dX12_studios_142 : decode cX12_studios 142 = .ok (.aload_n 0, 1) := by decide +kernel
theorem dX12_studios_143 : decode cX12_studios 143 = .ok (.iload 8, 2) := by decide +kernel
theorem dX12_studios_145 : decode cX12_studios 145 = .ok (.iconst 4, 1) := by decide +kernel
theorem dX12_studios_146 : decode cX12_studios 146 = .ok (.iload 11, 2) := by decide +kernel
theorem dX12_studios_148 : decode cX12_studios 148 = .ok (.imul, 1) := by decide +kernel
theorem dX12_studios_149 : decode cX12_studios 149 = .ok (.iadd, 1) := by decide +kernel
theorem dX12_studios_150 : decode cX12_studios 150 = .ok (.iload_n 1, 1) := by decide +kernel
theorem dX12_studios_151 : decode cX12_studios 151 = .ok (.iload 5, 2) := by decide +kernel
theorem dX12_studios_153 : decode cX12_studios 153 = .ok (.invokevirtual 217, 3) := by decide +kernel
theorem dX12_studios_156 : decode cX12_studios 156 = .ok (.ifCond .eq 7, 3) := by decide +kernel
theorem dX12_studios_159 : decode cX12_studios 159 = .ok (.iconst 1, 1) := by decide +kernel
theorem dX12_studios_160 : decode cX12_studios 160 = .ok (.goto 4, 3) := by decide +kernel
theorem dX12_studios_163 : decode cX12_studios 163 = .ok (.iconst 0, 1) := by decide +kernel
theorem dX12_studios_164 : decode cX12_studios 164 = .ok (.iadd, 1) := by decide +kernel
theorem dX12_studios_165 : decode cX12_studios 165 = .ok (.istore 10, 2) := by decide +kernel
theorem dX12_studios_167 : decode cX12_studios 167 = .ok (.iinc 11 1, 3) := by decide +kernel
theorem dX12_studios_170 : decode cX12_studios 170 = .ok (.goto (-73), 3) := by decide +kernel
theorem dX12_studios_173 : decode cX12_studios 173 = .ok (.iconst 0, 1) := by decide +kernel
theorem dX12_studios_174 : decode cX12_studios 174 = .ok (.istore 11, 2) := by decide +kernel
theorem dX12_studios_176 : decode cX12_studios 176 = .ok (.iconst 0, 1) := by decide +kernel
theorem dX12_studios_177 : decode cX12_studios 177 = .ok (.istore 12, 2) := by decide +kernel
theorem dX12_studios_179 : decode cX12_studios 179 = .ok (.iload 12, 2) := by decide +kernel
theorem dX12_studios_181 : decode cX12_studios 181 = .ok (.aload_n 0, 1) := by decide +kernel
theorem dX12_studios_182 : decode cX12_studios 182 = .ok (.getfield 102, 3) := by decide +kernel
theorem dX12_studios_185 : decode cX12_studios 185 = .ok (.if_icmp .ge 109, 3) := by decide +kernel
theorem dX12_studios_188 : decode cX12_studios 188 = .ok (.aload_n 0, 1) := by decide +kernel
theorem dX12_studios_189 : decode cX12_studios 189 = .ok (.getfield 34, 3) := by decide +kernel
theorem dX12_studios_192 : decode cX12_studios 192 = .ok (.bipush 24, 2) := by decide +kernel
theorem dX12_studios_194 : decode cX12_studios 194 = .ok (.iload_n 1, 1) := by decide +kernel
theorem dX12_studios_195 : decode cX12_studios 195 = .ok (.imul, 1) := by decide +kernel
theorem dX12_studios_196 : decode cX12_studios 196 = .ok (.iload 12, 2) := by decide +kernel
theorem dX12_studios_198 : decode cX12_studios 198 = .ok (.iadd, 1) := by decide +kernel
theorem dX12_studios_199 : decode cX12_studios 199 = .ok (.baload, 1) := by decide +kernel
theorem dX12_studios_200 : decode cX12_studios 200 = .ok (.ifCond .ne 7, 3) := by decide +kernel
theorem dX12_studios_203 : decode cX12_studios 203 = .ok (.iconst 1, 1) := by decide +kernel
theorem dX12_studios_204 : decode cX12_studios 204 = .ok (.goto 4, 3) := by decide +kernel
theorem dX12_studios_207 : decode cX12_studios 207 = .ok (.iconst 0, 1) := by decide +kernel
theorem dX12_studios_208 : decode cX12_studios 208 = .ok (.istore 13, 2) := by decide +kernel
theorem dX12_studios_210 : decode cX12_studios 210 = .ok (.iconst 0, 1) := by decide +kernel
theorem dX12_studios_211 : decode cX12_studios 211 = .ok (.istore 14, 2) := by decide +kernel
theorem dX12_studios_213 : decode cX12_studios 213 = .ok (.iload 14, 2) := by decide +kernel
theorem dX12_studios_215 : decode cX12_studios 215 = .ok (.iload 4, 2) := by decide +kernel
theorem dX12_studios_217 : decode cX12_studios 217 = .ok (.if_icmp .ge 56, 3) := by decide +kernel
theorem dX12_studios_220 : decode cX12_studios 220 = .ok (.iload 13, 2) := by decide +kernel
theorem dX12_studios_222 : decode cX12_studios 222 = .ok (.ifCond .ne 38, 3) := by decide +kernel
theorem dX12_studios_225 : decode cX12_studios 225 = .ok (.aload_n 0, 1) := by decide +kernel
theorem dX12_studios_226 : decode cX12_studios 226 = .ok (.iload 8, 2) := by decide +kernel
theorem dX12_studios_228 : decode cX12_studios 228 = .ok (.iconst 4, 1) := by decide +kernel
theorem dX12_studios_229 : decode cX12_studios 229 = .ok (.iload 14, 2) := by decide +kernel
theorem dX12_studios_231 : decode cX12_studios 231 = .ok (.imul, 1) := by decide +kernel
theorem dX12_studios_232 : decode cX12_studios 232 = .ok (.iadd, 1) := by decide +kernel
theorem dX12_studios_233 : decode cX12_studios 233 = .ok (.iload_n 1, 1) := by decide +kernel
theorem dX12_studios_234 : decode cX12_studios 234 = .ok (.iload 12, 2) := by decide +kernel
theorem dX12_studios_236 : decode cX12_studios 236 = .ok (.invokevirtual 207, 3) := by decide +kernel
theorem dX12_studios_239 : decode cX12_studios 239 = .ok (.ifCond .eq 25, 3) := by decide +kernel
theorem dX12_studios_242 : decode cX12_studios 242 = .ok (.aload_n 0, 1) := by decide +kernel
theorem dX12_studios_243 : decode cX12_studios 243 = .ok (.getfield 201, 3) := by decide +kernel
theorem dX12_studios_246 : decode cX12_studios 246 = .ok (.iload 5, 2) := by decide +kernel
theorem dX12_studios_248 : decode cX12_studios 248 = .ok (.if_icmp .gt 16, 3) := by decide +kernel
theorem dX12_studios_251 : decode cX12_studios 251 = .ok (.aload_n 0, 1) := by decide +kernel
theorem dX12_studios_252 : decode cX12_studios 252 = .ok (.getfield 204, 3) := by decide +kernel
theorem dX12_studios_255 : decode cX12_studios 255 = .ok (.iload 5, 2) := by decide +kernel
theorem dX12_studios_257 : decode cX12_studios 257 = .ok (.if_icmp .gt 7, 3) := by decide +kernel
theorem dX12_studios_260 : decode cX12_studios 260 = .ok (.iconst 1, 1) := by decide +kernel
theorem dX12_studios_261 : decode cX12_studios 261 = .ok (.goto 4, 3) := by decide +kernel
theorem dX12_studios_264 : decode cX12_studios 264 = .ok (.iconst 0, 1) := by decide +kernel
theorem dX12_studios_265 : decode cX12_studios 265 = .ok (.istore 13, 2) := by decide +kernel
theorem dX12_studios_267 : decode cX12_studios 267 = .ok (.iinc 14 1, 3) := by decide +kernel
theorem dX12_studios_270 : decode cX12_studios 270 = .ok (.goto (-57), 3) := by decide +kernel
theorem dX12_studios_273 : decode cX12_studios 273 = .ok (.iload 11, 2) := by decide +kernel
theorem dX12_studios_275 : decode cX12_studios 275 = .ok (.iload 13, 2) := by decide +kernel
theorem dX12_studios_277 : decode cX12_studios 277 = .ok (.ifCond .eq 7, 3) := by decide +kernel
theorem dX12_studios_280 : decode cX12_studios 280 = .ok (.iconst 0, 1) := by decide +kernel
theorem dX12_studios_281 : decode cX12_studios 281 = .ok (.goto 4, 3) := by decide +kernel
theorem dX12_studios_284 : decode cX12_studios 284 = .ok (.iconst 1, 1) := by decide +kernel
theorem dX12_studios_285 : decode cX12_studios 285 = .ok (.iadd, 1) := by decide +kernel
theorem dX12_studios_286 : decode cX12_studios 286 = .ok (.istore 11, 2) := by decide +kernel
theorem dX12_studios_288 : decode cX12_studios 288 = .ok (.iinc 12 1, 3) := by decide +kernel
theorem dX12_studios_291 : decode cX12_studios 291 = .ok (.goto (-112), 3) := by decide +kernel
theorem dX12_studios_294 : decode cX12_studios 294 = .ok (.iload 6, 2) := by decide +kernel
theorem dX12_studios_296 : decode cX12_studios 296 = .ok (.ifCond .ne 8, 3) := by decide +kernel
theorem dX12_studios_299 : decode cX12_studios 299 = .ok (.iload 9, 2) := by decide +kernel
theorem dX12_studios_301 : decode cX12_studios 301 = .ok (.goto 16, 3) := by decide +kernel
theorem dX12_studios_304 : decode cX12_studios 304 = .ok (.iload 6, 2) := by decide +kernel
theorem dX12_studios_306 : decode cX12_studios 306 = .ok (.iconst 1, 1) := by decide +kernel
theorem dX12_studios_307 : decode cX12_studios 307 = .ok (.if_icmp .ne 8, 3) := by decide +kernel
theorem dX12_studios_310 : decode cX12_studios 310 = .ok (.iload 10, 2) := by decide +kernel
theorem dX12_studios_312 : decode cX12_studios 312 = .ok (.goto 5, 3) := by decide +kernel
theorem dX12_studios_315 : decode cX12_studios 315 = .ok (.iload 11, 2) := by decide +kernel
theorem dX12_studios_317 : decode cX12_studios 317 = .ok (.ireturn, 1) := by decide +kernel
theorem dX12_spotOf_0 : decode cX12_spotOf 0 = .ok (.iload_n 0, 1) := by decide +kernel
theorem dX12_spotOf_1 : decode cX12_spotOf 1 = .ok (.sipush 172, 3) := by decide +kernel
theorem dX12_spotOf_4 : decode cX12_spotOf 4 = .ok (.if_icmp .le 11, 3) := by decide +kernel
theorem dX12_spotOf_7 : decode cX12_spotOf 7 = .ok (.iload_n 0, 1) := by decide +kernel
theorem dX12_spotOf_8 : decode cX12_spotOf 8 = .ok (.sipush 172, 3) := by decide +kernel
theorem dX12_spotOf_11 : decode cX12_spotOf 11 = .ok (.isub, 1) := by decide +kernel
theorem dX12_spotOf_12 : decode cX12_spotOf 12 = .ok (.goto 8, 3) := by decide +kernel
theorem dX12_spotOf_15 : decode cX12_spotOf 15 = .ok (.sipush 172, 3) := by decide +kernel
theorem dX12_spotOf_18 : decode cX12_spotOf 18 = .ok (.iload_n 0, 1) := by decide +kernel
theorem dX12_spotOf_19 : decode cX12_spotOf 19 = .ok (.isub, 1) := by decide +kernel
theorem dX12_spotOf_20 : decode cX12_spotOf 20 = .ok (.istore 4, 2) := by decide +kernel
theorem dX12_spotOf_22 : decode cX12_spotOf 22 = .ok (.iload 4, 2) := by decide +kernel
theorem dX12_spotOf_24 : decode cX12_spotOf 24 = .ok (.sipush 182, 3) := by decide +kernel
theorem dX12_spotOf_27 : decode cX12_spotOf 27 = .ok (.if_icmp .le 12, 3) := by decide +kernel
theorem dX12_spotOf_30 : decode cX12_spotOf 30 = .ok (.sipush 365, 3) := by decide +kernel
theorem dX12_spotOf_33 : decode cX12_spotOf 33 = .ok (.iload 4, 2) := by decide +kernel
theorem dX12_spotOf_35 : decode cX12_spotOf 35 = .ok (.isub, 1) := by decide +kernel
theorem dX12_spotOf_36 : decode cX12_spotOf 36 = .ok (.goto 5, 3) := by decide +kernel
theorem dX12_spotOf_39 : decode cX12_spotOf 39 = .ok (.iload 4, 2) := by decide +kernel
theorem dX12_spotOf_41 : decode cX12_spotOf 41 = .ok (.istore 4, 2) := by decide +kernel
theorem dX12_spotOf_43 : decode cX12_spotOf 43 = .ok (.iload_n 3, 1) := by decide +kernel
theorem dX12_spotOf_44 : decode cX12_spotOf 44 = .ok (.ifCond .ne 17, 3) := by decide +kernel
theorem dX12_spotOf_47 : decode cX12_spotOf 47 = .ok (.iload_n 2, 1) := by decide +kernel
theorem dX12_spotOf_48 : decode cX12_spotOf 48 = .ok (.iload_n 1, 1) := by decide +kernel
theorem dX12_spotOf_49 : decode cX12_spotOf 49 = .ok (.imul, 1) := by decide +kernel
theorem dX12_spotOf_50 : decode cX12_spotOf 50 = .ok (.sipush 200, 3) := by decide +kernel
theorem dX12_spotOf_53 : decode cX12_spotOf 53 = .ok (.imul, 1) := by decide +kernel
theorem dX12_spotOf_54 : decode cX12_spotOf 54 = .ok (.sipush 1000, 3) := by decide +kernel
theorem dX12_spotOf_57 : decode cX12_spotOf 57 = .ok (.idiv, 1) := by decide +kernel
theorem dX12_spotOf_58 : decode cX12_spotOf 58 = .ok (.goto 30, 3) := by decide +kernel
theorem dX12_spotOf_61 : decode cX12_spotOf 61 = .ok (.iload_n 2, 1) := by decide +kernel
theorem dX12_spotOf_62 : decode cX12_spotOf 62 = .ok (.sipush 500, 3) := by decide +kernel
theorem dX12_spotOf_65 : decode cX12_spotOf 65 = .ok (.sipush 1500, 3) := by decide +kernel
theorem dX12_spotOf_68 : decode cX12_spotOf 68 = .ok (.iload 4, 2) := by decide +kernel
theorem dX12_spotOf_70 : decode cX12_spotOf 70 = .ok (.imul, 1) := by decide +kernel
theorem dX12_spotOf_71 : decode cX12_spotOf 71 = .ok (.sipush 182, 3) := by decide +kernel
theorem dX12_spotOf_74 : decode cX12_spotOf 74 = .ok (.idiv, 1) := by decide +kernel
theorem dX12_spotOf_75 : decode cX12_spotOf 75 = .ok (.iadd, 1) := by decide +kernel
theorem dX12_spotOf_76 : decode cX12_spotOf 76 = .ok (.bipush 30, 2) := by decide +kernel
theorem dX12_spotOf_78 : decode cX12_spotOf 78 = .ok (.iload_n 1, 1) := by decide +kernel
theorem dX12_spotOf_79 : decode cX12_spotOf 79 = .ok (.imul, 1) := by decide +kernel
theorem dX12_spotOf_80 : decode cX12_spotOf 80 = .ok (.iload_n 1, 1) := by decide +kernel
theorem dX12_spotOf_81 : decode cX12_spotOf 81 = .ok (.imul, 1) := by decide +kernel
theorem dX12_spotOf_82 : decode cX12_spotOf 82 = .ok (.iadd, 1) := by decide +kernel
theorem dX12_spotOf_83 : decode cX12_spotOf 83 = .ok (.imul, 1) := by decide +kernel
theorem dX12_spotOf_84 : decode cX12_spotOf 84 = .ok (.sipush 1000, 3) := by decide +kernel
theorem dX12_spotOf_87 : decode cX12_spotOf 87 = .ok (.idiv, 1) := by decide +kernel
theorem dX12_spotOf_88 : decode cX12_spotOf 88 = .ok (.ireturn, 1) := by decide +kernel
theorem dX12_spot_0 : decode cX12_spot 0 = .ok (.aload_n 0, 1) := by decide +kernel
theorem dX12_spot_1 : decode cX12_spot 1 = .ok (.iconst 0, 1) := by decide +kernel
theorem dX12_spot_2 : decode cX12_spot 2 = .ok (.putfield 59, 3) := by decide +kernel
theorem dX12_spot_5 : decode cX12_spot 5 = .ok (.iload_n 1, 1) := by decide +kernel
theorem dX12_spot_6 : decode cX12_spot 6 = .ok (.i2l, 1) := by decide +kernel
theorem dX12_spot_7 : decode cX12_spot 7 = .ok (.lconst 0, 1) := by decide +kernel
theorem dX12_spot_8 : decode cX12_spot 8 = .ok (.ldc2_w 220, 3) := by decide +kernel
theorem dX12_spot_11 : decode cX12_spot 11 = .ok (.invokestatic 69, 3) := by decide +kernel
theorem dX12_spot_14 : decode cX12_spot 14 = .ok (.ifCond .eq 40, 3) := by decide +kernel
theorem dX12_spot_17 : decode cX12_spot 17 = .ok (.iload_n 2, 1) := by decide +kernel
theorem dX12_spot_18 : decode cX12_spot 18 = .ok (.i2l, 1) := by decide +kernel
theorem dX12_spot_19 : decode cX12_spot 19 = .ok (.ldc2_w 222, 3) := by decide +kernel
theorem dX12_spot_22 : decode cX12_spot 22 = .ok (.ldc2_w 84, 3) := by decide +kernel
theorem dX12_spot_25 : decode cX12_spot 25 = .ok (.invokestatic 69, 3) := by decide +kernel
theorem dX12_spot_28 : decode cX12_spot 28 = .ok (.ifCond .eq 26, 3) := by decide +kernel
theorem dX12_spot_31 : decode cX12_spot 31 = .ok (.iload_n 3, 1) := by decide +kernel
theorem dX12_spot_32 : decode cX12_spot 32 = .ok (.i2l, 1) := by decide +kernel
theorem dX12_spot_33 : decode cX12_spot 33 = .ok (.lconst 1, 1) := by decide +kernel
theorem dX12_spot_34 : decode cX12_spot 34 = .ok (.ldc2_w 98, 3) := by decide +kernel
theorem dX12_spot_37 : decode cX12_spot 37 = .ok (.invokestatic 69, 3) := by decide +kernel
theorem dX12_spot_40 : decode cX12_spot 40 = .ok (.ifCond .eq 14, 3) := by decide +kernel
theorem dX12_spot_43 : decode cX12_spot 43 = .ok (.iload 4, 2) := by decide +kernel
theorem dX12_spot_45 : decode cX12_spot 45 = .ok (.i2l, 1) := by decide +kernel
theorem dX12_spot_46 : decode cX12_spot 46 = .ok (.lconst 0, 1) := by decide +kernel
theorem dX12_spot_47 : decode cX12_spot 47 = .ok (.lconst 1, 1) := by decide +kernel
theorem dX12_spot_48 : decode cX12_spot 48 = .ok (.invokestatic 69, 3) := by decide +kernel
theorem dX12_spot_51 : decode cX12_spot 51 = .ok (.ifCond .ne 8, 3) := by decide +kernel
theorem dX12_spot_54 : decode cX12_spot 54 = .ok (.ldc 79, 2) := by decide +kernel
theorem dX12_spot_56 : decode cX12_spot 56 = .ok (.goto 11, 3) := by decide +kernel
theorem dX12_spot_59 : decode cX12_spot 59 = .ok (.iload_n 1, 1) := by decide +kernel
theorem dX12_spot_60 : decode cX12_spot 60 = .ok (.iload_n 2, 1) := by decide +kernel
theorem dX12_spot_61 : decode cX12_spot 61 = .ok (.iload_n 3, 1) := by decide +kernel
theorem dX12_spot_62 : decode cX12_spot 62 = .ok (.iload 4, 2) := by decide +kernel
theorem dX12_spot_64 : decode cX12_spot 64 = .ok (.invokestatic 224, 3) := by decide +kernel
theorem dX12_spot_67 : decode cX12_spot 67 = .ok (.ireturn, 1) := by decide +kernel
theorem dX12_days_0 : decode cX12_days 0 = .ok (.aload_n 0, 1) := by decide +kernel
theorem dX12_days_1 : decode cX12_days 1 = .ok (.iconst 0, 1) := by decide +kernel
theorem dX12_days_2 : decode cX12_days 2 = .ok (.putfield 59, 3) := by decide +kernel
theorem dX12_days_5 : decode cX12_days 5 = .ok (.iload_n 3, 1) := by decide +kernel
theorem dX12_days_6 : decode cX12_days 6 = .ok (.i2l, 1) := by decide +kernel
theorem dX12_days_7 : decode cX12_days 7 = .ok (.lconst 1, 1) := by decide +kernel
theorem dX12_days_8 : decode cX12_days 8 = .ok (.ldc2_w 98, 3) := by decide +kernel
theorem dX12_days_11 : decode cX12_days 11 = .ok (.invokestatic 69, 3) := by decide +kernel
theorem dX12_days_14 : decode cX12_days 14 = .ok (.ifCond .ne 6, 3) := by decide +kernel
theorem dX12_days_17 : decode cX12_days 17 = .ok (.ldc 79, 2) := by decide +kernel
theorem dX12_days_19 : decode cX12_days 19 = .ok (.ireturn, 1) := by decide +kernel
theorem dX12_days_20 : decode cX12_days 20 = .ok (.iconst 0, 1) := by decide +kernel
theorem dX12_days_21 : decode cX12_days 21 = .ok (.istore 5, 2) := by decide +kernel
theorem dX12_days_23 : decode cX12_days 23 = .ok (.iconst 0, 1) := by decide +kernel
theorem dX12_days_24 : decode cX12_days 24 = .ok (.istore 6, 2) := by decide +kernel
theorem dX12_days_26 : decode cX12_days 26 = .ok (.iload 6, 2) := by decide +kernel
theorem dX12_days_28 : decode cX12_days 28 = .ok (.sipush 365, 3) := by decide +kernel
theorem dX12_days_31 : decode cX12_days 31 = .ok (.if_icmp .ge 74, 3) := by decide +kernel
theorem dX12_days_34 : decode cX12_days 34 = .ok (.bipush (-6), 2) := by decide +kernel
theorem dX12_days_36 : decode cX12_days 36 = .ok (.istore 7, 2) := by decide +kernel
theorem dX12_days_38 : decode cX12_days 38 = .ok (.iload 7, 2) := by decide +kernel
theorem dX12_days_40 : decode cX12_days 40 = .ok (.bipush 7, 2) := by decide +kernel
theorem dX12_days_42 : decode cX12_days 42 = .ok (.if_icmp .ge 57, 3) := by decide +kernel
theorem dX12_days_45 : decode cX12_days 45 = .ok (.iload 6, 2) := by decide +kernel
theorem dX12_days_47 : decode cX12_days 47 = .ok (.iload 7, 2) := by decide +kernel
theorem dX12_days_49 : decode cX12_days 49 = .ok (.iload_n 3, 1) := by decide +kernel
theorem dX12_days_50 : decode cX12_days 50 = .ok (.iconst 0, 1) := by decide +kernel
theorem dX12_days_51 : decode cX12_days 51 = .ok (.invokestatic 224, 3) := by decide +kernel
theorem dX12_days_54 : decode cX12_days 54 = .ok (.iload_n 1, 1) := by decide +kernel
theorem dX12_days_55 : decode cX12_days 55 = .ok (.if_icmp .ne 38, 3) := by decide +kernel
theorem dX12_days_58 : decode cX12_days 58 = .ok (.iload 6, 2) := by decide +kernel
theorem dX12_days_60 : decode cX12_days 60 = .ok (.iload 7, 2) := by decide +kernel
theorem dX12_days_62 : decode cX12_days 62 = .ok (.iload_n 3, 1) := by decide +kernel
theorem dX12_days_63 : decode cX12_days 63 = .ok (.iconst 1, 1) := by decide +kernel
theorem dX12_days_64 : decode cX12_days 64 = .ok (.invokestatic 224, 3) := by decide +kernel
theorem dX12_days_67 : decode cX12_days 67 = .ok (.iload_n 2, 1) := by decide +kernel
theorem dX12_days_68 : decode cX12_days 68 = .ok (.if_icmp .ne 25, 3) := by decide +kernel
theorem dX12_days_71 : decode cX12_days 71 = .ok (.iload 5, 2) := by decide +kernel
theorem dX12_days_73 : decode cX12_days 73 = .ok (.iload 4, 2) := by decide +kernel
theorem dX12_days_75 : decode cX12_days 75 = .ok (.if_icmp .ne 15, 3) := by decide +kernel
theorem dX12_days_78 : decode cX12_days 78 = .ok (.bipush 100, 2) := by decide +kernel
theorem dX12_days_80 : decode cX12_days 80 = .ok (.iload 6, 2) := by decide +kernel
theorem dX12_days_82 : decode cX12_days 82 = .ok (.imul, 1) := by decide +kernel
theorem dX12_days_83 : decode cX12_days 83 = .ok (.iload 7, 2) := by decide +kernel
theorem dX12_days_85 : decode cX12_days 85 = .ok (.iadd, 1) := by decide +kernel
theorem dX12_days_86 : decode cX12_days 86 = .ok (.bipush 50, 2) := by decide +kernel
theorem dX12_days_88 : decode cX12_days 88 = .ok (.iadd, 1) := by decide +kernel
theorem dX12_days_89 : decode cX12_days 89 = .ok (.ireturn, 1) := by decide +kernel
theorem dX12_days_90 : decode cX12_days 90 = .ok (.iinc 5 1, 3) := by decide +kernel
theorem dX12_days_93 : decode cX12_days 93 = .ok (.iinc 7 1, 3) := by decide +kernel
theorem dX12_days_96 : decode cX12_days 96 = .ok (.goto (-58), 3) := by decide +kernel
theorem dX12_days_99 : decode cX12_days 99 = .ok (.iinc 6 1, 3) := by decide +kernel
theorem dX12_days_102 : decode cX12_days 102 = .ok (.goto (-76), 3) := by decide +kernel
theorem dX12_days_105 : decode cX12_days 105 = .ok (.iload 4, 2) := by decide +kernel
theorem dX12_days_107 : decode cX12_days 107 = .ok (.ldc 149, 2) := by decide +kernel
theorem dX12_days_109 : decode cX12_days 109 = .ok (.if_icmp .ne 8, 3) := by decide +kernel
theorem dX12_days_112 : decode cX12_days 112 = .ok (.iload 5, 2) := by decide +kernel
theorem dX12_days_114 : decode cX12_days 114 = .ok (.goto 5, 3) := by decide +kernel
theorem dX12_days_117 : decode cX12_days 117 = .ok (.ldc 149, 2) := by decide +kernel
theorem dX12_days_119 : decode cX12_days 119 = .ok (.ireturn, 1) := by decide +kernel
theorem dX12_kindOf_0 : decode cX12_kindOf 0 = .ok (.aload_n 0, 1) := by decide +kernel
theorem dX12_kindOf_1 : decode cX12_kindOf 1 = .ok (.iload_n 1, 1) := by decide +kernel
theorem dX12_kindOf_2 : decode cX12_kindOf 2 = .ok (.invokevirtual 146, 3) := by decide +kernel
theorem dX12_kindOf_5 : decode cX12_kindOf 5 = .ok (.ifCond .ne 7, 3) := by decide +kernel
theorem dX12_kindOf_8 : decode cX12_kindOf 8 = .ok (.iconst 3, 1) := by decide +kernel
theorem dX12_kindOf_9 : decode cX12_kindOf 9 = .ok (.goto 22, 3) := by decide +kernel
theorem dX12_kindOf_12 : decode cX12_kindOf 12 = .ok (.aload_n 0, 1) := by decide +kernel
theorem dX12_kindOf_13 : decode cX12_kindOf 13 = .ok (.iload_n 1, 1) := by decide +kernel
theorem dX12_kindOf_14 : decode cX12_kindOf 14 = .ok (.invokevirtual 135, 3) := by decide +kernel
theorem dX12_kindOf_17 : decode cX12_kindOf 17 = .ok (.aload_n 0, 1) := by decide +kernel
theorem dX12_kindOf_18 : decode cX12_kindOf 18 = .ok (.getfield 19, 3) := by decide +kernel
theorem dX12_kindOf_21 : decode cX12_kindOf 21 = .ok (.iconst 4, 1) := by decide +kernel
theorem dX12_kindOf_22 : decode cX12_kindOf 22 = .ok (.iaload, 1) := by decide +kernel
theorem dX12_kindOf_23 : decode cX12_kindOf 23 = .ok (.if_icmp .gt 7, 3) := by decide +kernel
theorem dX12_kindOf_26 : decode cX12_kindOf 26 = .ok (.iconst 2, 1) := by decide +kernel
theorem dX12_kindOf_27 : decode cX12_kindOf 27 = .ok (.goto 4, 3) := by decide +kernel
theorem dX12_kindOf_30 : decode cX12_kindOf 30 = .ok (.iconst 1, 1) := by decide +kernel
theorem dX12_kindOf_31 : decode cX12_kindOf 31 = .ok (.ireturn, 1) := by decide +kernel
theorem dX12_isOf_0 : decode cX12_isOf 0 = .ok (.iload_n 1, 1) := by decide +kernel
theorem dX12_isOf_1 : decode cX12_isOf 1 = .ok (.ifCond .eq 18, 3) := by decide +kernel
theorem dX12_isOf_4 : decode cX12_isOf 4 = .ok (.iload_n 0, 1) := by decide +kernel
theorem dX12_isOf_5 : decode cX12_isOf 5 = .ok (.iload_n 1, 1) := by decide +kernel
theorem dX12_isOf_6 : decode cX12_isOf 6 = .ok (.if_icmp .eq 13, 3) := by decide +kernel
theorem dX12_isOf_9 : decode cX12_isOf 9 = .ok (.iload_n 1, 1) := by decide +kernel
theorem dX12_isOf_10 : decode cX12_isOf 10 = .ok (.iconst 1, 1) := by decide +kernel
theorem dX12_isOf_11 : decode cX12_isOf 11 = .ok (.if_icmp .ne 12, 3) := by decide +kernel
theorem dX12_isOf_14 : decode cX12_isOf 14 = .ok (.iload_n 0, 1) := by decide +kernel
theorem dX12_isOf_15 : decode cX12_isOf 15 = .ok (.iconst 2, 1) := by decide +kernel
theorem dX12_isOf_16 : decode cX12_isOf 16 = .ok (.if_icmp .ne 7, 3) := by decide +kernel
theorem dX12_isOf_19 : decode cX12_isOf 19 = .ok (.iconst 1, 1) := by decide +kernel
theorem dX12_isOf_20 : decode cX12_isOf 20 = .ok (.goto 4, 3) := by decide +kernel
theorem dX12_isOf_23 : decode cX12_isOf 23 = .ok (.iconst 0, 1) := by decide +kernel
theorem dX12_isOf_24 : decode cX12_isOf 24 = .ok (.ireturn, 1) := by decide +kernel
theorem dX12_kind_0 : decode cX12_kind 0 = .ok (.aload_n 0, 1) := by decide +kernel
theorem dX12_kind_1 : decode cX12_kind 1 = .ok (.iconst 0, 1) := by decide +kernel
theorem dX12_kind_2 : decode cX12_kind 2 = .ok (.putfield 59, 3) := by decide +kernel
theorem dX12_kind_5 : decode cX12_kind 5 = .ok (.aload_n 0, 1) := by decide +kernel
theorem dX12_kind_6 : decode cX12_kind 6 = .ok (.iload_n 1, 1) := by decide +kernel
theorem dX12_kind_7 : decode cX12_kind 7 = .ok (.invokevirtual 110, 3) := by decide +kernel
theorem dX12_kind_10 : decode cX12_kind 10 = .ok (.ifCond .eq 11, 3) := by decide +kernel
theorem dX12_kind_13 : decode cX12_kind 13 = .ok (.aload_n 0, 1) := by decide +kernel
theorem dX12_kind_14 : decode cX12_kind 14 = .ok (.iload_n 1, 1) := by decide +kernel
theorem dX12_kind_15 : decode cX12_kind 15 = .ok (.invokevirtual 227, 3) := by decide +kernel
theorem dX12_kind_18 : decode cX12_kind 18 = .ok (.goto 5, 3) := by decide +kernel
theorem dX12_kind_21 : decode cX12_kind 21 = .ok (.ldc 79, 2) := by decide +kernel
theorem dX12_kind_23 : decode cX12_kind 23 = .ok (.ireturn, 1) := by decide +kernel
theorem dX12_as_0 : decode cX12_as 0 = .ok (.aload_n 0, 1) := by decide +kernel
theorem dX12_as_1 : decode cX12_as 1 = .ok (.iconst 0, 1) := by decide +kernel
theorem dX12_as_2 : decode cX12_as 2 = .ok (.putfield 59, 3) := by decide +kernel
theorem dX12_as_5 : decode cX12_as 5 = .ok (.aload_n 0, 1) := by decide +kernel
theorem dX12_as_6 : decode cX12_as 6 = .ok (.iload_n 1, 1) := by decide +kernel
theorem dX12_as_7 : decode cX12_as 7 = .ok (.invokevirtual 110, 3) := by decide +kernel
theorem dX12_as_10 : decode cX12_as 10 = .ok (.ifCond .eq 15, 3) := by decide +kernel
theorem dX12_as_13 : decode cX12_as 13 = .ok (.iload_n 2, 1) := by decide +kernel
theorem dX12_as_14 : decode cX12_as 14 = .ok (.i2l, 1) := by decide +kernel
theorem dX12_as_15 : decode cX12_as 15 = .ok (.lconst 0, 1) := by decide +kernel
theorem dX12_as_16 : decode cX12_as 16 = .ok (.ldc2_w 169, 3) := by decide +kernel
theorem dX12_as_19 : decode cX12_as 19 = .ok (.invokestatic 69, 3) := by decide +kernel
theorem dX12_as_22 : decode cX12_as 22 = .ok (.ifCond .ne 6, 3) := by decide +kernel
theorem dX12_as_25 : decode cX12_as 25 = .ok (.ldc 79, 2) := by decide +kernel
theorem dX12_as_27 : decode cX12_as 27 = .ok (.ireturn, 1) := by decide +kernel
theorem dX12_as_28 : decode cX12_as 28 = .ok (.aload_n 0, 1) := by decide +kernel
theorem dX12_as_29 : decode cX12_as 29 = .ok (.iconst 0, 1) := by decide +kernel
theorem dX12_as_30 : decode cX12_as 30 = .ok (.putfield 63, 3) := by decide +kernel
theorem dX12_as_33 : decode cX12_as 33 = .ok (.aload_n 0, 1) := by decide +kernel
theorem dX12_as_34 : decode cX12_as 34 = .ok (.iload_n 1, 1) := by decide +kernel
theorem dX12_as_35 : decode cX12_as 35 = .ok (.invokevirtual 227, 3) := by decide +kernel
theorem dX12_as_38 : decode cX12_as 38 = .ok (.iload_n 2, 1) := by decide +kernel
theorem dX12_as_39 : decode cX12_as 39 = .ok (.invokestatic 230, 3) := by decide +kernel
theorem dX12_as_42 : decode cX12_as 42 = .ok (.ifCond .eq 12, 3) := by decide +kernel
theorem dX12_as_45 : decode cX12_as 45 = .ok (.aload_n 0, 1) := by decide +kernel
theorem dX12_as_46 : decode cX12_as 46 = .ok (.getfield 31, 3) := by decide +kernel
theorem dX12_as_49 : decode cX12_as 49 = .ok (.iload_n 1, 1) := by decide +kernel
theorem dX12_as_50 : decode cX12_as 50 = .ok (.iaload, 1) := by decide +kernel
theorem dX12_as_51 : decode cX12_as 51 = .ok (.goto 8, 3) := by decide +kernel
theorem dX12_as_54 : decode cX12_as 54 = .ok (.aload_n 0, 1) := by decide +kernel
theorem dX12_as_55 : decode cX12_as 55 = .ok (.iconst 3, 1) := by decide +kernel
theorem dX12_as_56 : decode cX12_as 56 = .ok (.invokevirtual 80, 3) := by decide +kernel
theorem dX12_as_59 : decode cX12_as 59 = .ok (.ireturn, 1) := by decide +kernel
theorem dX12_began_0 : decode cX12_began 0 = .ok (.aload_n 0, 1) := by decide +kernel
theorem dX12_began_1 : decode cX12_began 1 = .ok (.getfield 233, 3) := by decide +kernel
theorem dX12_began_4 : decode cX12_began 4 = .ok (.bipush 16, 2) := by decide +kernel
theorem dX12_began_6 : decode cX12_began 6 = .ok (.if_icmp .ge 23, 3) := by decide +kernel
theorem dX12_began_9 : decode cX12_began 9 = .ok (.aload_n 0, 1) := by decide +kernel
theorem dX12_began_10 : decode cX12_began 10 = .ok (.getfield 56, 3) := by decide +kernel
theorem dX12_began_13 : decode cX12_began 13 = .ok (.aload_n 0, 1) := by decide +kernel
theorem dX12_began_14 : decode cX12_began 14 = .ok (.getfield 233, 3) := by decide +kernel
theorem dX12_began_17 : decode cX12_began 17 = .ok (.iload_n 1, 1) := by decide +kernel
theorem dX12_began_18 : decode cX12_began 18 = .ok (.iastore, 1) := by decide +kernel
theorem dX12_began_19 : decode cX12_began 19 = .ok (.aload_n 0, 1) := by decide +kernel
theorem dX12_began_20 : decode cX12_began 20 = .ok (.dup, 1) := by decide +kernel
theorem dX12_began_21 : decode cX12_began 21 = .ok (.getfield 233, 3) := by decide +kernel
theorem dX12_began_24 : decode cX12_began 24 = .ok (.iconst 1, 1) := by decide +kernel
theorem dX12_began_25 : decode cX12_began 25 = .ok (.iadd, 1) := by decide +kernel
theorem dX12_began_26 : decode cX12_began 26 = .ok (.putfield 233, 3) := by decide +kernel
theorem dX12_began_29 : decode cX12_began 29 = .ok (.return_, 1) := by decide +kernel
theorem dX12_seenSize_0 : decode cX12_seenSize 0 = .ok (.iload_n 2, 1) := by decide +kernel
theorem dX12_seenSize_1 : decode cX12_seenSize 1 = .ok (.iconst 2, 1) := by decide +kernel
theorem dX12_seenSize_2 : decode cX12_seenSize 2 = .ok (.if_icmp .ne 9, 3) := by decide +kernel
theorem dX12_seenSize_5 : decode cX12_seenSize 5 = .ok (.aload_n 0, 1) := by decide +kernel
theorem dX12_seenSize_6 : decode cX12_seenSize 6 = .ok (.bipush 12, 2) := by decide +kernel
theorem dX12_seenSize_8 : decode cX12_seenSize 8 = .ok (.invokevirtual 236, 3) := by decide +kernel
theorem dX12_seenSize_11 : decode cX12_seenSize 11 = .ok (.aload_n 0, 1) := by decide +kernel
theorem dX12_seenSize_12 : decode cX12_seenSize 12 = .ok (.bipush 11, 2) := by decide +kernel
theorem dX12_seenSize_14 : decode cX12_seenSize 14 = .ok (.invokevirtual 236, 3) := by decide +kernel
theorem dX12_seenSize_17 : decode cX12_seenSize 17 = .ok (.aload_n 0, 1) := by decide +kernel
theorem dX12_seenSize_18 : decode cX12_seenSize 18 = .ok (.bipush 10, 2) := by decide +kernel
theorem dX12_seenSize_20 : decode cX12_seenSize 20 = .ok (.invokevirtual 236, 3) := by decide +kernel
theorem dX12_seenSize_23 : decode cX12_seenSize 23 = .ok (.aload_n 0, 1) := by decide +kernel
theorem dX12_seenSize_24 : decode cX12_seenSize 24 = .ok (.getfield 31, 3) := by decide +kernel
theorem dX12_seenSize_27 : decode cX12_seenSize 27 = .ok (.iload_n 1, 1) := by decide +kernel
theorem dX12_seenSize_28 : decode cX12_seenSize 28 = .ok (.iaload, 1) := by decide +kernel
theorem dX12_seenSize_29 : decode cX12_seenSize 29 = .ok (.aload_n 0, 1) := by decide +kernel
theorem dX12_seenSize_30 : decode cX12_seenSize 30 = .ok (.iload_n 1, 1) := by decide +kernel
theorem dX12_seenSize_31 : decode cX12_seenSize 31 = .ok (.invokevirtual 135, 3) := by decide +kernel
theorem dX12_seenSize_34 : decode cX12_seenSize 34 = .ok (.iadd, 1) := by decide +kernel
theorem dX12_seenSize_35 : decode cX12_seenSize 35 = .ok (.istore_n 3, 1) := by decide +kernel
theorem dX12_seenSize_36 : decode cX12_seenSize 36 = .ok (.iload_n 2, 1) := by decide +kernel
theorem dX12_seenSize_37 : decode cX12_seenSize 37 = .ok (.iconst 2, 1) := by decide +kernel
theorem dX12_seenSize_38 : decode cX12_seenSize 38 = .ok (.if_icmp .ne 9, 3) := by decide +kernel
theorem dX12_seenSize_41 : decode cX12_seenSize 41 = .ok (.iconst 2, 1) := by decide +kernel
theorem dX12_seenSize_42 : decode cX12_seenSize 42 = .ok (.iload_n 3, 1) := by decide +kernel
theorem dX12_seenSize_43 : decode cX12_seenSize 43 = .ok (.imul, 1) := by decide +kernel
theorem dX12_seenSize_44 : decode cX12_seenSize 44 = .ok (.goto 4, 3) := by decide +kernel
theorem dX12_seenSize_47 : decode cX12_seenSize 47 = .ok (.iload_n 3, 1) := by decide +kernel
theorem dX12_seenSize_48 : decode cX12_seenSize 48 = .ok (.ireturn, 1) := by decide +kernel
theorem dX12_markOf_0 : decode cX12_markOf 0 = .ok (.aload_n 0, 1) := by decide +kernel
theorem dX12_markOf_1 : decode cX12_markOf 1 = .ok (.iload_n 1, 1) := by decide +kernel
theorem dX12_markOf_2 : decode cX12_markOf 2 = .ok (.aload_n 0, 1) := by decide +kernel
theorem dX12_markOf_3 : decode cX12_markOf 3 = .ok (.getfield 19, 3) := by decide +kernel
theorem dX12_markOf_6 : decode cX12_markOf 6 = .ok (.iconst 2, 1) := by decide +kernel
theorem dX12_markOf_7 : decode cX12_markOf 7 = .ok (.iaload, 1) := by decide +kernel
theorem dX12_markOf_8 : decode cX12_markOf 8 = .ok (.invokevirtual 117, 3) := by decide +kernel
theorem dX12_markOf_11 : decode cX12_markOf 11 = .ok (.istore_n 3, 1) := by decide +kernel
theorem dX12_markOf_12 : decode cX12_markOf 12 = .ok (.iload_n 2, 1) := by decide +kernel
theorem dX12_markOf_13 : decode cX12_markOf 13 = .ok (.iconst 3, 1) := by decide +kernel
theorem dX12_markOf_14 : decode cX12_markOf 14 = .ok (.if_icmp .ne 21, 3) := by decide +kernel
theorem dX12_markOf_17 : decode cX12_markOf 17 = .ok (.aload_n 0, 1) := by decide +kernel
theorem dX12_markOf_18 : decode cX12_markOf 18 = .ok (.bipush 23, 2) := by decide +kernel
theorem dX12_markOf_20 : decode cX12_markOf 20 = .ok (.invokevirtual 236, 3) := by decide +kernel
theorem dX12_markOf_23 : decode cX12_markOf 23 = .ok (.aload_n 0, 1) := by decide +kernel
theorem dX12_markOf_24 : decode cX12_markOf 24 = .ok (.bipush 20, 2) := by decide +kernel
theorem dX12_markOf_26 : decode cX12_markOf 26 = .ok (.invokevirtual 236, 3) := by decide +kernel
theorem dX12_markOf_29 : decode cX12_markOf 29 = .ok (.iload_n 3, 1) := by decide +kernel
theorem dX12_markOf_30 : decode cX12_markOf 30 = .ok (.sipush 1000, 3) := by decide +kernel
theorem dX12_markOf_33 : decode cX12_markOf 33 = .ok (.iadd, 1) := by decide +kernel
theorem dX12_markOf_34 : decode cX12_markOf 34 = .ok (.ireturn, 1) := by decide +kernel
theorem dX12_markOf_35 : decode cX12_markOf 35 = .ok (.iload_n 2, 1) := by decide +kernel
theorem dX12_markOf_36 : decode cX12_markOf 36 = .ok (.iconst 2, 1) := by decide +kernel
theorem dX12_markOf_37 : decode cX12_markOf 37 = .ok (.if_icmp .ne 9, 3) := by decide +kernel
theorem dX12_markOf_40 : decode cX12_markOf 40 = .ok (.aload_n 0, 1) := by decide +kernel
theorem dX12_markOf_41 : decode cX12_markOf 41 = .ok (.bipush 22, 2) := by decide +kernel
theorem dX12_markOf_43 : decode cX12_markOf 43 = .ok (.invokevirtual 236, 3) := by decide +kernel
theorem dX12_markOf_46 : decode cX12_markOf 46 = .ok (.aload_n 0, 1) := by decide +kernel
theorem dX12_markOf_47 : decode cX12_markOf 47 = .ok (.bipush 21, 2) := by decide +kernel
theorem dX12_markOf_49 : decode cX12_markOf 49 = .ok (.invokevirtual 236, 3) := by decide +kernel
theorem dX12_markOf_52 : decode cX12_markOf 52 = .ok (.aload_n 0, 1) := by decide +kernel
theorem dX12_markOf_53 : decode cX12_markOf 53 = .ok (.bipush 20, 2) := by decide +kernel
theorem dX12_markOf_55 : decode cX12_markOf 55 = .ok (.invokevirtual 236, 3) := by decide +kernel
theorem dX12_markOf_58 : decode cX12_markOf 58 = .ok (.iload_n 3, 1) := by decide +kernel
theorem dX12_markOf_59 : decode cX12_markOf 59 = .ok (.bipush 100, 2) := by decide +kernel
theorem dX12_markOf_61 : decode cX12_markOf 61 = .ok (.iadd, 1) := by decide +kernel
theorem dX12_markOf_62 : decode cX12_markOf 62 = .ok (.iload_n 2, 1) := by decide +kernel
theorem dX12_markOf_63 : decode cX12_markOf 63 = .ok (.iconst 2, 1) := by decide +kernel
theorem dX12_markOf_64 : decode cX12_markOf 64 = .ok (.if_icmp .ne 12, 3) := by decide +kernel
theorem dX12_markOf_67 : decode cX12_markOf 67 = .ok (.aload_n 0, 1) := by decide +kernel
theorem dX12_markOf_68 : decode cX12_markOf 68 = .ok (.iload_n 1, 1) := by decide +kernel
theorem dX12_markOf_69 : decode cX12_markOf 69 = .ok (.iload_n 2, 1) := by decide +kernel
theorem dX12_markOf_70 : decode cX12_markOf 70 = .ok (.invokevirtual 240, 3) := by decide +kernel
theorem dX12_markOf_73 : decode cX12_markOf 73 = .ok (.goto 4, 3) := by decide +kernel
theorem dX12_markOf_76 : decode cX12_markOf 76 = .ok (.iconst 0, 1) := by decide +kernel
theorem dX12_markOf_77 : decode cX12_markOf 77 = .ok (.iadd, 1) := by decide +kernel
theorem dX12_markOf_78 : decode cX12_markOf 78 = .ok (.ireturn, 1) := by decide +kernel
theorem dX12_ask_0 : decode cX12_ask 0 = .ok (.aload_n 0, 1) := by decide +kernel
theorem dX12_ask_1 : decode cX12_ask 1 = .ok (.iconst 0, 1) := by decide +kernel
theorem dX12_ask_2 : decode cX12_ask 2 = .ok (.putfield 59, 3) := by decide +kernel
theorem dX12_ask_5 : decode cX12_ask 5 = .ok (.aload_n 0, 1) := by decide +kernel
theorem dX12_ask_6 : decode cX12_ask 6 = .ok (.iload_n 1, 1) := by decide +kernel
theorem dX12_ask_7 : decode cX12_ask 7 = .ok (.invokevirtual 110, 3) := by decide +kernel
theorem dX12_ask_10 : decode cX12_ask 10 = .ok (.ifCond .eq 13, 3) := by decide +kernel
theorem dX12_ask_13 : decode cX12_ask 13 = .ok (.iload_n 2, 1) := by decide +kernel
theorem dX12_ask_14 : decode cX12_ask 14 = .ok (.i2l, 1) := by decide +kernel
theorem dX12_ask_15 : decode cX12_ask 15 = .ok (.lconst 0, 1) := by decide +kernel
theorem dX12_ask_16 : decode cX12_ask 16 = .ok (.lconst 1, 1) := by decide +kernel
theorem dX12_ask_17 : decode cX12_ask 17 = .ok (.invokestatic 69, 3) := by decide +kernel
theorem dX12_ask_20 : decode cX12_ask 20 = .ok (.ifCond .ne 6, 3) := by decide +kernel
theorem dX12_ask_23 : decode cX12_ask 23 = .ok (.ldc 79, 2) := by decide +kernel
theorem dX12_ask_25 : decode cX12_ask 25 = .ok (.ireturn, 1) := by decide +kernel
theorem dX12_ask_26 : decode cX12_ask 26 = .ok (.aload_n 0, 1) := by decide +kernel
theorem dX12_ask_27 : decode cX12_ask 27 = .ok (.iconst 0, 1) := by decide +kernel
theorem dX12_ask_28 : decode cX12_ask 28 = .ok (.putfield 233, 3) := by decide +kernel
theorem dX12_ask_31 : decode cX12_ask 31 = .ok (.aload_n 0, 1) := by decide +kernel
theorem dX12_ask_32 : decode cX12_ask 32 = .ok (.iload_n 1, 1) := by decide +kernel
theorem dX12_ask_33 : decode cX12_ask 33 = .ok (.invokevirtual 227, 3) := by decide +kernel
theorem dX12_ask_36 : decode cX12_ask 36 = .ok (.istore_n 3, 1) := by decide +kernel
theorem dX12_ask_37 : decode cX12_ask 37 = .ok (.iload_n 2, 1) := by decide +kernel
theorem dX12_ask_38 : decode cX12_ask 38 = .ok (.iconst 1, 1) := by decide +kernel
theorem dX12_ask_39 : decode cX12_ask 39 = .ok (.if_icmp .ne 10, 3) := by decide +kernel
theorem dX12_ask_42 : decode cX12_ask 42 = .ok (.aload_n 0, 1) := by decide +kernel
theorem dX12_ask_43 : decode cX12_ask 43 = .ok (.iload_n 1, 1) := by decide +kernel
theorem dX12_ask_44 : decode cX12_ask 44 = .ok (.iload_n 3, 1) := by decide +kernel
theorem dX12_ask_45 : decode cX12_ask 45 = .ok (.invokevirtual 243, 3) := by decide +kernel
theorem dX12_ask_48 : decode cX12_ask 48 = .ok (.ireturn, 1) := by decide +kernel
theorem dX12_ask_49 : decode cX12_ask 49 = .ok (.iload_n 3, 1) := by decide +kernel
theorem dX12_ask_50 : decode cX12_ask 50 = .ok (.iconst 3, 1) := by decide +kernel
theorem dX12_ask_51 : decode cX12_ask 51 = .ok (.if_icmp .eq 10, 3) := by decide +kernel
theorem dX12_ask_54 : decode cX12_ask 54 = .ok (.aload_n 0, 1) := by decide +kernel
theorem dX12_ask_55 : decode cX12_ask 55 = .ok (.iload_n 1, 1) := by decide +kernel
theorem dX12_ask_56 : decode cX12_ask 56 = .ok (.iload_n 3, 1) := by decide +kernel
theorem dX12_ask_57 : decode cX12_ask 57 = .ok (.invokevirtual 240, 3) := by decide +kernel
theorem dX12_ask_60 : decode cX12_ask 60 = .ok (.ireturn, 1) := by decide +kernel
theorem dX12_ask_61 : decode cX12_ask 61 = .ok (.aload_n 0, 1) := by decide +kernel
theorem dX12_ask_62 : decode cX12_ask 62 = .ok (.bipush 13, 2) := by decide +kernel
theorem dX12_ask_64 : decode cX12_ask 64 = .ok (.invokevirtual 236, 3) := by decide +kernel
theorem dX12_ask_67 : decode cX12_ask 67 = .ok (.aload_n 0, 1) := by decide +kernel
theorem dX12_ask_68 : decode cX12_ask 68 = .ok (.bipush 10, 2) := by decide +kernel
theorem dX12_ask_70 : decode cX12_ask 70 = .ok (.invokevirtual 236, 3) := by decide +kernel
theorem dX12_ask_73 : decode cX12_ask 73 = .ok (.aload_n 0, 1) := by decide +kernel
theorem dX12_ask_74 : decode cX12_ask 74 = .ok (.getfield 31, 3) := by decide +kernel
theorem dX12_ask_77 : decode cX12_ask 77 = .ok (.iload_n 1, 1) := by decide +kernel
theorem dX12_ask_78 : decode cX12_ask 78 = .ok (.iaload, 1) := by decide +kernel
theorem dX12_ask_79 : decode cX12_ask 79 = .ok (.aload_n 0, 1) := by decide +kernel
theorem dX12_ask_80 : decode cX12_ask 80 = .ok (.iload_n 1, 1) := by decide +kernel
theorem dX12_ask_81 : decode cX12_ask 81 = .ok (.iload_n 3, 1) := by decide +kernel
theorem dX12_ask_82 : decode cX12_ask 82 = .ok (.invokevirtual 243, 3) := by decide +kernel
theorem dX12_ask_85 : decode cX12_ask 85 = .ok (.isub, 1) := by decide +kernel
theorem dX12_ask_86 : decode cX12_ask 86 = .ok (.ireturn, 1) := by decide +kernel
theorem dX12_trace_0 : decode cX12_trace 0 = .ok (.aload_n 0, 1) := by decide +kernel
theorem dX12_trace_1 : decode cX12_trace 1 = .ok (.iconst 0, 1) := by decide +kernel
theorem dX12_trace_2 : decode cX12_trace 2 = .ok (.putfield 59, 3) := by decide +kernel
theorem dX12_trace_5 : decode cX12_trace 5 = .ok (.iload_n 1, 1) := by decide +kernel
theorem dX12_trace_6 : decode cX12_trace 6 = .ok (.i2l, 1) := by decide +kernel
theorem dX12_trace_7 : decode cX12_trace 7 = .ok (.lconst 0, 1) := by decide +kernel
theorem dX12_trace_8 : decode cX12_trace 8 = .ok (.aload_n 0, 1) := by decide +kernel
theorem dX12_trace_9 : decode cX12_trace 9 = .ok (.getfield 233, 3) := by decide +kernel
theorem dX12_trace_12 : decode cX12_trace 12 = .ok (.iconst 1, 1) := by decide +kernel
theorem dX12_trace_13 : decode cX12_trace 13 = .ok (.isub, 1) := by decide +kernel
theorem dX12_trace_14 : decode cX12_trace 14 = .ok (.i2l, 1) := by decide +kernel
theorem dX12_trace_15 : decode cX12_trace 15 = .ok (.invokestatic 69, 3) := by decide +kernel
theorem dX12_trace_18 : decode cX12_trace 18 = .ok (.ifCond .eq 12, 3) := by decide +kernel
theorem dX12_trace_21 : decode cX12_trace 21 = .ok (.aload_n 0, 1) := by decide +kernel
theorem dX12_trace_22 : decode cX12_trace 22 = .ok (.getfield 56, 3) := by decide +kernel
theorem dX12_trace_25 : decode cX12_trace 25 = .ok (.iload_n 1, 1) := by decide +kernel
theorem dX12_trace_26 : decode cX12_trace 26 = .ok (.iaload, 1) := by decide +kernel
theorem dX12_trace_27 : decode cX12_trace 27 = .ok (.goto 5, 3) := by decide +kernel
theorem dX12_trace_30 : decode cX12_trace 30 = .ok (.ldc 149, 2) := by decide +kernel
theorem dX12_trace_32 : decode cX12_trace 32 = .ok (.ireturn, 1) := by decide +kernel
theorem dX12_count_0 : decode cX12_count 0 = .ok (.aload_n 0, 1) := by decide +kernel
theorem dX12_count_1 : decode cX12_count 1 = .ok (.iconst 0, 1) := by decide +kernel
theorem dX12_count_2 : decode cX12_count 2 = .ok (.putfield 59, 3) := by decide +kernel
theorem dX12_count_5 : decode cX12_count 5 = .ok (.iconst 0, 1) := by decide +kernel
theorem dX12_count_6 : decode cX12_count 6 = .ok (.istore_n 2, 1) := by decide +kernel
theorem dX12_count_7 : decode cX12_count 7 = .ok (.iload_n 1, 1) := by decide +kernel
theorem dX12_count_8 : decode cX12_count 8 = .ok (.tableswitch 268 0 7 #[48, 81, 86, 86, 86, 126, 160, 235], 48) := by decide +kernel
theorem dX12_count_56 : decode cX12_count 56 = .ok (.iconst 0, 1) := by decide +kernel
theorem dX12_count_57 : decode cX12_count 57 = .ok (.istore_n 3, 1) := by decide +kernel
theorem dX12_count_58 : decode cX12_count 58 = .ok (.iload_n 3, 1) := by decide +kernel
theorem dX12_count_59 : decode cX12_count 59 = .ok (.bipush 8, 2) := by decide +kernel
theorem dX12_count_61 : decode cX12_count 61 = .ok (.if_icmp .ge 26, 3) := by decide +kernel
theorem dX12_count_64 : decode cX12_count 64 = .ok (.iload_n 2, 1) := by decide +kernel
theorem dX12_count_65 : decode cX12_count 65 = .ok (.aload_n 0, 1) := by decide +kernel
theorem dX12_count_66 : decode cX12_count 66 = .ok (.getfield 7, 3) := by decide +kernel
theorem dX12_count_69 : decode cX12_count 69 = .ok (.iload_n 3, 1) := by decide +kernel
theorem dX12_count_70 : decode cX12_count 70 = .ok (.iaload, 1) := by decide +kernel
theorem dX12_count_71 : decode cX12_count 71 = .ok (.ifCond .lt 7, 3) := by decide +kernel
theorem dX12_count_74 : decode cX12_count 74 = .ok (.iconst 1, 1) := by decide +kernel
theorem dX12_count_75 : decode cX12_count 75 = .ok (.goto 4, 3) := by decide +kernel
theorem dX12_count_78 : decode cX12_count 78 = .ok (.iconst 0, 1) := by decide +kernel
theorem dX12_count_79 : decode cX12_count 79 = .ok (.iadd, 1) := by decide +kernel
theorem dX12_count_80 : decode cX12_count 80 = .ok (.istore_n 2, 1) := by decide +kernel
theorem dX12_count_81 : decode cX12_count 81 = .ok (.iinc 3 1, 3) := by decide +kernel
theorem dX12_count_84 : decode cX12_count 84 = .ok (.goto (-26), 3) := by decide +kernel
theorem dX12_count_87 : decode cX12_count 87 = .ok (.iload_n 2, 1) := by decide +kernel
theorem dX12_count_88 : decode cX12_count 88 = .ok (.ireturn, 1) := by decide +kernel
theorem dX12_count_89 : decode cX12_count 89 = .ok (.aload_n 0, 1) := by decide +kernel
theorem dX12_count_90 : decode cX12_count 90 = .ok (.getfield 102, 3) := by decide +kernel
theorem dX12_count_93 : decode cX12_count 93 = .ok (.ireturn, 1) := by decide +kernel
theorem dX12_count_94 : decode cX12_count 94 = .ok (.iconst 0, 1) := by decide +kernel
theorem dX12_count_95 : decode cX12_count 95 = .ok (.istore_n 3, 1) := by decide +kernel
theorem dX12_count_96 : decode cX12_count 96 = .ok (.iload_n 3, 1) := by decide +kernel
theorem dX12_count_97 : decode cX12_count 97 = .ok (.aload_n 0, 1) := by decide +kernel
theorem dX12_count_98 : decode cX12_count 98 = .ok (.getfield 102, 3) := by decide +kernel
theorem dX12_count_101 : decode cX12_count 101 = .ok (.if_icmp .ge 31, 3) := by decide +kernel
theorem dX12_count_104 : decode cX12_count 104 = .ok (.iload_n 2, 1) := by decide +kernel
theorem dX12_count_105 : decode cX12_count 105 = .ok (.aload_n 0, 1) := by decide +kernel
theorem dX12_count_106 : decode cX12_count 106 = .ok (.iload_n 3, 1) := by decide +kernel
theorem dX12_count_107 : decode cX12_count 107 = .ok (.invokevirtual 227, 3) := by decide +kernel
theorem dX12_count_110 : decode cX12_count 110 = .ok (.iload_n 1, 1) := by decide +kernel
theorem dX12_count_111 : decode cX12_count 111 = .ok (.iconst 1, 1) := by decide +kernel
theorem dX12_count_112 : decode cX12_count 112 = .ok (.isub, 1) := by decide +kernel
theorem dX12_count_113 : decode cX12_count 113 = .ok (.invokestatic 230, 3) := by decide +kernel
theorem dX12_count_116 : decode cX12_count 116 = .ok (.ifCond .eq 7, 3) := by decide +kernel
theorem dX12_count_119 : decode cX12_count 119 = .ok (.iconst 1, 1) := by decide +kernel
theorem dX12_count_120 : decode cX12_count 120 = .ok (.goto 4, 3) := by decide +kernel
theorem dX12_count_123 : decode cX12_count 123 = .ok (.iconst 0, 1) := by decide +kernel
theorem dX12_count_124 : decode cX12_count 124 = .ok (.iadd, 1) := by decide +kernel
theorem dX12_count_125 : decode cX12_count 125 = .ok (.istore_n 2, 1) := by decide +kernel
theorem dX12_count_126 : decode cX12_count 126 = .ok (.iinc 3 1, 3) := by decide +kernel
theorem dX12_count_129 : decode cX12_count 129 = .ok (.goto (-33), 3) := by decide +kernel
theorem dX12_count_132 : decode cX12_count 132 = .ok (.iload_n 2, 1) := by decide +kernel
theorem dX12_count_133 : decode cX12_count 133 = .ok (.ireturn, 1) := by decide +kernel
theorem dX12_count_134 : decode cX12_count 134 = .ok (.iconst 0, 1) := by decide +kernel
theorem dX12_count_135 : decode cX12_count 135 = .ok (.istore_n 3, 1) := by decide +kernel
theorem dX12_count_136 : decode cX12_count 136 = .ok (.iload_n 3, 1) := by decide +kernel
theorem dX12_count_137 : decode cX12_count 137 = .ok (.sipush 192, 3) := by decide +kernel
theorem dX12_count_140 : decode cX12_count 140 = .ok (.if_icmp .ge 26, 3) := by decide +kernel
theorem dX12_count_143 : decode cX12_count 143 = .ok (.iload_n 2, 1) := by decide +kernel
theorem dX12_count_144 : decode cX12_count 144 = .ok (.aload_n 0, 1) := by decide +kernel
theorem dX12_count_145 : decode cX12_count 145 = .ok (.getfield 34, 3) := by decide +kernel
theorem dX12_count_148 : decode cX12_count 148 = .ok (.iload_n 3, 1) := by decide +kernel
theorem dX12_count_149 : decode cX12_count 149 = .ok (.baload, 1) := by decide +kernel
theorem dX12_count_150 : decode cX12_count 150 = .ok (.ifCond .eq 7, 3) := by decide +kernel
theorem dX12_count_153 : decode cX12_count 153 = .ok (.iconst 1, 1) := by decide +kernel
theorem dX12_count_154 : decode cX12_count 154 = .ok (.goto 4, 3) := by decide +kernel
theorem dX12_count_157 : decode cX12_count 157 = .ok (.iconst 0, 1) := by decide +kernel
theorem dX12_count_158 : decode cX12_count 158 = .ok (.iadd, 1) := by decide +kernel
theorem dX12_count_159 : decode cX12_count 159 = .ok (.istore_n 2, 1) := by decide +kernel
theorem dX12_count_160 : decode cX12_count 160 = .ok (.iinc 3 1, 3) := by decide +kernel
theorem dX12_count_163 : decode cX12_count 163 = .ok (.goto (-27), 3) := by decide +kernel
theorem dX12_count_166 : decode cX12_count 166 = .ok (.iload_n 2, 1) := by decide +kernel
theorem dX12_count_167 : decode cX12_count 167 = .ok (.ireturn, 1) := by decide +kernel
theorem dX12_count_168 : decode cX12_count 168 = .ok (.iconst 0, 1) := by decide +kernel
theorem dX12_count_169 : decode cX12_count 169 = .ok (.istore_n 3, 1) := by decide +kernel
theorem dX12_count_170 : decode cX12_count 170 = .ok (.iload_n 3, 1) := by decide +kernel
theorem dX12_count_171 : decode cX12_count 171 = .ok (.bipush 8, 2) := by decide +kernel
theorem dX12_count_173 : decode cX12_count 173 = .ok (.if_icmp .ge 68, 3) := by decide +kernel
theorem dX12_count_176 : decode cX12_count 176 = .ok (.iconst 0, 1) := by decide +kernel
theorem dX12_count_177 : decode cX12_count 177 = .ok (.istore 4, 2) := by decide +kernel
theorem dX12_count_179 : decode cX12_count 179 = .ok (.iconst 0, 1) := by decide +kernel
theorem dX12_count_180 : decode cX12_count 180 = .ok (.istore 5, 2) := by decide +kernel
theorem dX12_count_182 : decode cX12_count 182 = .ok (.iload 5, 2) := by decide +kernel
theorem dX12_count_184 : decode cX12_count 184 = .ok (.bipush 24, 2) := by decide +kernel
theorem dX12_count_186 : decode cX12_count 186 = .ok (.if_icmp .ge 36, 3) := by decide +kernel
theorem dX12_count_189 : decode cX12_count 189 = .ok (.iload 4, 2) := by decide +kernel
theorem dX12_count_191 : decode cX12_count 191 = .ok (.ifCond .ne 18, 3) := by decide +kernel
theorem dX12_count_194 : decode cX12_count 194 = .ok (.aload_n 0, 1) := by decide +kernel
theorem dX12_count_195 : decode cX12_count 195 = .ok (.getfield 34, 3) := by decide +kernel
theorem dX12_count_198 : decode cX12_count 198 = .ok (.bipush 24, 2) := by decide +kernel
theorem dX12_count_200 : decode cX12_count 200 = .ok (.iload_n 3, 1) := by decide +kernel
theorem dX12_count_201 : decode cX12_count 201 = .ok (.imul, 1) := by decide +kernel
theorem dX12_count_202 : decode cX12_count 202 = .ok (.iload 5, 2) := by decide +kernel
theorem dX12_count_204 : decode cX12_count 204 = .ok (.iadd, 1) := by decide +kernel
theorem dX12_count_205 : decode cX12_count 205 = .ok (.baload, 1) := by decide +kernel
theorem dX12_count_206 : decode cX12_count 206 = .ok (.ifCond .eq 7, 3) := by decide +kernel
theorem dX12_count_209 : decode cX12_count 209 = .ok (.iconst 1, 1) := by decide +kernel
theorem dX12_count_210 : decode cX12_count 210 = .ok (.goto 4, 3) := by decide +kernel
theorem dX12_count_213 : decode cX12_count 213 = .ok (.iconst 0, 1) := by decide +kernel
theorem dX12_count_214 : decode cX12_count 214 = .ok (.istore 4, 2) := by decide +kernel
theorem dX12_count_216 : decode cX12_count 216 = .ok (.iinc 5 1, 3) := by decide +kernel
theorem dX12_count_219 : decode cX12_count 219 = .ok (.goto (-37), 3) := by decide +kernel
theorem dX12_count_222 : decode cX12_count 222 = .ok (.iload_n 2, 1) := by decide +kernel
theorem dX12_count_223 : decode cX12_count 223 = .ok (.iload 4, 2) := by decide +kernel
theorem dX12_count_225 : decode cX12_count 225 = .ok (.ifCond .eq 7, 3) := by decide +kernel
theorem dX12_count_228 : decode cX12_count 228 = .ok (.iconst 1, 1) := by decide +kernel
theorem dX12_count_229 : decode cX12_count 229 = .ok (.goto 4, 3) := by decide +kernel
theorem dX12_count_232 : decode cX12_count 232 = .ok (.iconst 0, 1) := by decide +kernel
theorem dX12_count_233 : decode cX12_count 233 = .ok (.iadd, 1) := by decide +kernel
theorem dX12_count_234 : decode cX12_count 234 = .ok (.istore_n 2, 1) := by decide +kernel
theorem dX12_count_235 : decode cX12_count 235 = .ok (.iinc 3 1, 3) := by decide +kernel
theorem dX12_count_238 : decode cX12_count 238 = .ok (.goto (-68), 3) := by decide +kernel
theorem dX12_count_241 : decode cX12_count 241 = .ok (.iload_n 2, 1) := by decide +kernel
theorem dX12_count_242 : decode cX12_count 242 = .ok (.ireturn, 1) := by decide +kernel
theorem dX12_count_243 : decode cX12_count 243 = .ok (.iconst 0, 1) := by decide +kernel
theorem dX12_count_244 : decode cX12_count 244 = .ok (.istore_n 3, 1) := by decide +kernel
theorem dX12_count_245 : decode cX12_count 245 = .ok (.iload_n 3, 1) := by decide +kernel
theorem dX12_count_246 : decode cX12_count 246 = .ok (.bipush 17, 2) := by decide +kernel
theorem dX12_count_248 : decode cX12_count 248 = .ok (.if_icmp .ge 26, 3) := by decide +kernel
theorem dX12_count_251 : decode cX12_count 251 = .ok (.iload_n 2, 1) := by decide +kernel
theorem dX12_count_252 : decode cX12_count 252 = .ok (.aload_n 0, 1) := by decide +kernel
theorem dX12_count_253 : decode cX12_count 253 = .ok (.getfield 22, 3) := by decide +kernel
theorem dX12_count_256 : decode cX12_count 256 = .ok (.iload_n 3, 1) := by decide +kernel
theorem dX12_count_257 : decode cX12_count 257 = .ok (.iaload, 1) := by decide +kernel
theorem dX12_count_258 : decode cX12_count 258 = .ok (.ifCond .eq 7, 3) := by decide +kernel
theorem dX12_count_261 : decode cX12_count 261 = .ok (.iconst 1, 1) := by decide +kernel
theorem dX12_count_262 : decode cX12_count 262 = .ok (.goto 4, 3) := by decide +kernel
theorem dX12_count_265 : decode cX12_count 265 = .ok (.iconst 0, 1) := by decide +kernel
theorem dX12_count_266 : decode cX12_count 266 = .ok (.iadd, 1) := by decide +kernel
theorem dX12_count_267 : decode cX12_count 267 = .ok (.istore_n 2, 1) := by decide +kernel
theorem dX12_count_268 : decode cX12_count 268 = .ok (.iinc 3 1, 3) := by decide +kernel
theorem dX12_count_271 : decode cX12_count 271 = .ok (.goto (-26), 3) := by decide +kernel
theorem dX12_count_274 : decode cX12_count 274 = .ok (.iload_n 2, 1) := by decide +kernel
theorem dX12_count_275 : decode cX12_count 275 = .ok (.ireturn, 1) := by decide +kernel
theorem dX12_count_276 : decode cX12_count 276 = .ok (.ldc 79, 2) := by decide +kernel
theorem dX12_count_278 : decode cX12_count 278 = .ok (.ireturn, 1) := by decide +kernel
theorem dX12_status_0 : decode cX12_status 0 = .ok (.aload_n 0, 1) := by decide +kernel
theorem dX12_status_1 : decode cX12_status 1 = .ok (.iconst 0, 1) := by decide +kernel
theorem dX12_status_2 : decode cX12_status 2 = .ok (.putfield 59, 3) := by decide +kernel
theorem dX12_status_5 : decode cX12_status 5 = .ok (.aload_n 0, 1) := by decide +kernel
theorem dX12_status_6 : decode cX12_status 6 = .ok (.getfield 63, 3) := by decide +kernel
theorem dX12_status_9 : decode cX12_status 9 = .ok (.ireturn, 1) := by decide +kernel
