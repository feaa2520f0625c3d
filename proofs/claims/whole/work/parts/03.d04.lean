theorem dX12_init_0 : decode cX12_init 0 = .ok (.aload_n 0, 1) := by decide +kernel
theorem dX12_init_1 : decode cX12_init 1 = .ok (.invokespecial 1, 3) := by decide +kernel
theorem dX12_init_4 : decode cX12_init 4 = .ok (.aload_n 0, 1) := by decide +kernel
theorem dX12_init_5 : decode cX12_init 5 = .ok (.bipush 8, 2) := by decide +kernel
theorem dX12_init_7 : decode cX12_init 7 = .ok (.newarray .int, 2) := by decide +kernel
theorem dX12_init_9 : decode cX12_init 9 = .ok (.dup, 1) := by decide +kernel
theorem dX12_init_10 : decode cX12_init 10 = .ok (.iconst 0, 1) := by decide +kernel
theorem dX12_init_11 : decode cX12_init 11 = .ok (.iconst (-1), 1) := by decide +kernel
theorem dX12_init_12 : decode cX12_init 12 = .ok (.iastore, 1) := by decide +kernel
theorem dX12_init_13 : decode cX12_init 13 = .ok (.dup, 1) := by decide +kernel
theorem dX12_init_14 : decode cX12_init 14 = .ok (.iconst 1, 1) := by decide +kernel
theorem dX12_init_15 : decode cX12_init 15 = .ok (.iconst (-1), 1) := by decide +kernel
theorem dX12_init_16 : decode cX12_init 16 = .ok (.iastore, 1) := by decide +kernel
theorem dX12_init_17 : decode cX12_init 17 = .ok (.dup, 1) := by decide +kernel
theorem dX12_init_18 : decode cX12_init 18 = .ok (.iconst 2, 1) := by decide +kernel
theorem dX12_init_19 : decode cX12_init 19 = .ok (.iconst (-1), 1) := by decide +kernel
theorem dX12_init_20 : decode cX12_init 20 = .ok (.iastore, 1) := by decide +kernel
theorem dX12_init_21 : decode cX12_init 21 = .ok (.dup, 1) := by decide +kernel
theorem dX12_init_22 : decode cX12_init 22 = .ok (.iconst 3, 1) := by decide +kernel
theorem dX12_init_23 : decode cX12_init 23 = .ok (.iconst (-1), 1) := by decide +kernel
theorem dX12_init_24 : decode cX12_init 24 = .ok (.iastore, 1) := by decide +kernel
theorem dX12_init_25 : decode cX12_init 25 = .ok (.dup, 1) := by decide +kernel
theorem dX12_init_26 : decode cX12_init 26 = .ok (.iconst 4, 1) := by decide +kernel
theorem dX12_init_27 : decode cX12_init 27 = .ok (.iconst (-1), 1) := by decide +kernel
theorem dX12_init_28 : decode cX12_init 28 = .ok (.iastore, 1) := by decide +kernel
theorem dX12_init_29 : decode cX12_init 29 = .ok (.dup, 1) := by decide +kernel
theorem dX12_init_30 : decode cX12_init 30 = .ok (.iconst 5, 1) := by decide +kernel
theorem dX12_init_31 : decode cX12_init 31 = .ok (.iconst (-1), 1) := by decide +kernel
theorem dX12_init_32 : decode cX12_init 32 = .ok (.iastore, 1) := by decide +kernel
theorem dX12_init_33 : decode cX12_init 33 = .ok (.dup, 1) := by decide +kernel
theorem dX12_init_34 : decode cX12_init 34 = .ok (.bipush 6, 2) := by decide +kernel
theorem dX12_init_36 : decode cX12_init 36 = .ok (.iconst (-1), 1) := by decide +kernel
theorem dX12_init_37 : decode cX12_init 37 = .ok (.iastore, 1) := by decide +kernel
theorem dX12_init_38 : decode cX12_init 38 = .ok (.dup, 1) := by decide +kernel
theorem dX12_init_39 : decode cX12_init 39 = .ok (.bipush 7, 2) := by decide +kernel
theorem dX12_init_41 : decode cX12_init 41 = .ok (.iconst (-1), 1) := by decide +kernel
theorem dX12_init_42 : decode cX12_init 42 = .ok (.iastore, 1) := by decide +kernel
theorem dX12_init_43 : decode cX12_init 43 = .ok (.putfield 7, 3) := by decide +kernel
theorem dX12_init_46 : decode cX12_init 46 = .ok (.aload_n 0, 1) := by decide +kernel
theorem dX12_init_47 : decode cX12_init 47 = .ok (.bipush 8, 2) := by decide +kernel
theorem dX12_init_49 : decode cX12_init 49 = .ok (.newarray .int, 2) := by decide +kernel
theorem dX12_init_51 : decode cX12_init 51 = .ok (.putfield 13, 3) := by decide +kernel
theorem dX12_init_54 : decode cX12_init 54 = .ok (.aload_n 0, 1) := by decide +kernel
theorem dX12_init_55 : decode cX12_init 55 = .ok (.sipush 640, 3) := by decide +kernel
theorem dX12_init_58 : decode cX12_init 58 = .ok (.newarray .int, 2) := by decide +kernel
theorem dX12_init_60 : decode cX12_init 60 = .ok (.putfield 16, 3) := by decide +kernel
theorem dX12_init_63 : decode cX12_init 63 = .ok (.aload_n 0, 1) := by decide +kernel
theorem dX12_init_64 : decode cX12_init 64 = .ok (.bipush 7, 2) := by decide +kernel
theorem dX12_init_66 : decode cX12_init 66 = .ok (.newarray .int, 2) := by decide +kernel
theorem dX12_init_68 : decode cX12_init 68 = .ok (.dup, 1) := by decide +kernel
theorem dX12_init_69 : decode cX12_init 69 = .ok (.iconst 0, 1) := by decide +kernel
theorem dX12_init_70 : decode cX12_init 70 = .ok (.iconst 0, 1) := by decide +kernel
theorem dX12_init_71 : decode cX12_init 71 = .ok (.iastore, 1) := by decide +kernel
theorem dX12_init_72 : decode cX12_init 72 = .ok (.dup, 1) := by decide +kernel
theorem dX12_init_73 : decode cX12_init 73 = .ok (.iconst 1, 1) := by decide +kernel
theorem dX12_init_74 : decode cX12_init 74 = .ok (.bipush 10, 2) := by decide +kernel
theorem dX12_init_76 : decode cX12_init 76 = .ok (.iastore, 1) := by decide +kernel
theorem dX12_init_77 : decode cX12_init 77 = .ok (.dup, 1) := by decide +kernel
theorem dX12_init_78 : decode cX12_init 78 = .ok (.iconst 2, 1) := by decide +kernel
theorem dX12_init_79 : decode cX12_init 79 = .ok (.bipush 100, 2) := by decide +kernel
theorem dX12_init_81 : decode cX12_init 81 = .ok (.iastore, 1) := by decide +kernel
theorem dX12_init_82 : decode cX12_init 82 = .ok (.dup, 1) := by decide +kernel
theorem dX12_init_83 : decode cX12_init 83 = .ok (.iconst 3, 1) := by decide +kernel
theorem dX12_init_84 : decode cX12_init 84 = .ok (.iconst 0, 1) := by decide +kernel
theorem dX12_init_85 : decode cX12_init 85 = .ok (.iastore, 1) := by decide +kernel
theorem dX12_init_86 : decode cX12_init 86 = .ok (.dup, 1) := by decide +kernel
theorem dX12_init_87 : decode cX12_init 87 = .ok (.iconst 4, 1) := by decide +kernel
theorem dX12_init_88 : decode cX12_init 88 = .ok (.iconst 5, 1) := by decide +kernel
theorem dX12_init_89 : decode cX12_init 89 = .ok (.iastore, 1) := by decide +kernel
theorem dX12_init_90 : decode cX12_init 90 = .ok (.dup, 1) := by decide +kernel
theorem dX12_init_91 : decode cX12_init 91 = .ok (.iconst 5, 1) := by decide +kernel
theorem dX12_init_92 : decode cX12_init 92 = .ok (.sipush 160, 3) := by decide +kernel
theorem dX12_init_95 : decode cX12_init 95 = .ok (.iastore, 1) := by decide +kernel
theorem dX12_init_96 : decode cX12_init 96 = .ok (.dup, 1) := by decide +kernel
theorem dX12_init_97 : decode cX12_init 97 = .ok (.bipush 6, 2) := by decide +kernel
theorem dX12_init_99 : decode cX12_init 99 = .ok (.bipush 100, 2) := by decide +kernel
theorem dX12_init_101 : decode cX12_init 101 = .ok (.iastore, 1) := by decide +kernel
theorem dX12_init_102 : decode cX12_init 102 = .ok (.putfield 19, 3) := by decide +kernel
theorem dX12_init_105 : decode cX12_init 105 = .ok (.aload_n 0, 1) := by decide +kernel
theorem dX12_init_106 : decode cX12_init 106 = .ok (.bipush 17, 2) := by decide +kernel
theorem dX12_init_108 : decode cX12_init 108 = .ok (.newarray .int, 2) := by decide +kernel
theorem dX12_init_110 : decode cX12_init 110 = .ok (.putfield 22, 3) := by decide +kernel
theorem dX12_init_113 : decode cX12_init 113 = .ok (.aload_n 0, 1) := by decide +kernel
theorem dX12_init_114 : decode cX12_init 114 = .ok (.bipush 24, 2) := by decide +kernel
theorem dX12_init_116 : decode cX12_init 116 = .ok (.newarray .int, 2) := by decide +kernel
theorem dX12_init_118 : decode cX12_init 118 = .ok (.putfield 25, 3) := by decide +kernel
theorem dX12_init_121 : decode cX12_init 121 = .ok (.aload_n 0, 1) := by decide +kernel
theorem dX12_init_122 : decode cX12_init 122 = .ok (.bipush 24, 2) := by decide +kernel
theorem dX12_init_124 : decode cX12_init 124 = .ok (.newarray .int, 2) := by decide +kernel
theorem dX12_init_126 : decode cX12_init 126 = .ok (.putfield 28, 3) := by decide +kernel
theorem dX12_init_129 : decode cX12_init 129 = .ok (.aload_n 0, 1) := by decide +kernel
theorem dX12_init_130 : decode cX12_init 130 = .ok (.bipush 24, 2) := by decide +kernel
theorem dX12_init_132 : decode cX12_init 132 = .ok (.newarray .int, 2) := by decide +kernel
theorem dX12_init_134 : decode cX12_init 134 = .ok (.putfield 31, 3) := by decide +kernel
theorem dX12_init_137 : decode cX12_init 137 = .ok (.aload_n 0, 1) := by decide +kernel
theorem dX12_init_138 : decode cX12_init 138 = .ok (.sipush 192, 3) := by decide +kernel
theorem dX12_init_141 : decode cX12_init 141 = .ok (.newarray .boolean, 2) := by decide +kernel
theorem dX12_init_143 : decode cX12_init 143 = .ok (.putfield 34, 3) := by decide +kernel
theorem dX12_init_146 : decode cX12_init 146 = .ok (.aload_n 0, 1) := by decide +kernel
theorem dX12_init_147 : decode cX12_init 147 = .ok (.sipush 192, 3) := by decide +kernel
theorem dX12_init_150 : decode cX12_init 150 = .ok (.newarray .int, 2) := by decide +kernel
theorem dX12_init_152 : decode cX12_init 152 = .ok (.putfield 38, 3) := by decide +kernel
theorem dX12_init_155 : decode cX12_init 155 = .ok (.aload_n 0, 1) := by decide +kernel
theorem dX12_init_156 : decode cX12_init 156 = .ok (.sipush 192, 3) := by decide +kernel
theorem dX12_init_159 : decode cX12_init 159 = .ok (.newarray .int, 2) := by decide +kernel
theorem dX12_init_161 : decode cX12_init 161 = .ok (.putfield 41, 3) := by decide +kernel
theorem dX12_init_164 : decode cX12_init 164 = .ok (.aload_n 0, 1) := by decide +kernel
theorem dX12_init_165 : decode cX12_init 165 = .ok (.bipush 24, 2) := by decide +kernel
theorem dX12_init_167 : decode cX12_init 167 = .ok (.newarray .int, 2) := by decide +kernel
theorem dX12_init_169 : decode cX12_init 169 = .ok (.putfield 44, 3) := by decide +kernel
theorem dX12_init_172 : decode cX12_init 172 = .ok (.aload_n 0, 1) := by decide +kernel
theorem dX12_init_173 : decode cX12_init 173 = .ok (.bipush 9, 2) := by decide +kernel
theorem dX12_init_175 : decode cX12_init 175 = .ok (.newarray .int, 2) := by decide +kernel
theorem dX12_init_177 : decode cX12_init 177 = .ok (.putfield 47, 3) := by decide +kernel
theorem dX12_init_180 : decode cX12_init 180 = .ok (.aload_n 0, 1) := by decide +kernel
theorem dX12_init_181 : decode cX12_init 181 = .ok (.bipush 9, 2) := by decide +kernel
theorem dX12_init_183 : decode cX12_init 183 = .ok (.newarray .int, 2) := by decide +kernel
theorem dX12_init_185 : decode cX12_init 185 = .ok (.putfield 50, 3) := by decide +kernel
theorem dX12_init_188 : decode cX12_init 188 = .ok (.aload_n 0, 1) := by decide +kernel
theorem dX12_init_189 : decode cX12_init 189 = .ok (.bipush 8, 2) := by decide +kernel
theorem dX12_init_191 : decode cX12_init 191 = .ok (.newarray .int, 2) := by decide +kernel
theorem dX12_init_193 : decode cX12_init 193 = .ok (.dup, 1) := by decide +kernel
theorem dX12_init_194 : decode cX12_init 194 = .ok (.iconst 0, 1) := by decide +kernel
theorem dX12_init_195 : decode cX12_init 195 = .ok (.iconst 0, 1) := by decide +kernel
theorem dX12_init_196 : decode cX12_init 196 = .ok (.iastore, 1) := by decide +kernel
theorem dX12_init_197 : decode cX12_init 197 = .ok (.dup, 1) := by decide +kernel
theorem dX12_init_198 : decode cX12_init 198 = .ok (.iconst 1, 1) := by decide +kernel
theorem dX12_init_199 : decode cX12_init 199 = .ok (.iconst 0, 1) := by decide +kernel
theorem dX12_init_200 : decode cX12_init 200 = .ok (.iastore, 1) := by decide +kernel
theorem dX12_init_201 : decode cX12_init 201 = .ok (.dup, 1) := by decide +kernel
theorem dX12_init_202 : decode cX12_init 202 = .ok (.iconst 2, 1) := by decide +kernel
theorem dX12_init_203 : decode cX12_init 203 = .ok (.iconst 0, 1) := by decide +kernel
theorem dX12_init_204 : decode cX12_init 204 = .ok (.iastore, 1) := by decide +kernel
theorem dX12_init_205 : decode cX12_init 205 = .ok (.dup, 1) := by decide +kernel
theorem dX12_init_206 : decode cX12_init 206 = .ok (.iconst 3, 1) := by decide +kernel
theorem dX12_init_207 : decode cX12_init 207 = .ok (.bipush 100, 2) := by decide +kernel
theorem dX12_init_209 : decode cX12_init 209 = .ok (.iastore, 1) := by decide +kernel
theorem dX12_init_210 : decode cX12_init 210 = .ok (.dup, 1) := by decide +kernel
theorem dX12_init_211 : decode cX12_init 211 = .ok (.iconst 4, 1) := by decide +kernel
theorem dX12_init_212 : decode cX12_init 212 = .ok (.iconst 0, 1) := by decide +kernel
theorem dX12_init_213 : decode cX12_init 213 = .ok (.iastore, 1) := by decide +kernel
theorem dX12_init_214 : decode cX12_init 214 = .ok (.dup, 1) := by decide +kernel
theorem dX12_init_215 : decode cX12_init 215 = .ok (.iconst 5, 1) := by decide +kernel
theorem dX12_init_216 : decode cX12_init 216 = .ok (.iconst 0, 1) := by decide +kernel
theorem dX12_init_217 : decode cX12_init 217 = .ok (.iastore, 1) := by decide +kernel
theorem dX12_init_218 : decode cX12_init 218 = .ok (.dup, 1) := by decide +kernel
theorem dX12_init_219 : decode cX12_init 219 = .ok (.bipush 6, 2) := by decide +kernel
theorem dX12_init_221 : decode cX12_init 221 = .ok (.iconst 0, 1) := by decide +kernel
theorem dX12_init_222 : decode cX12_init 222 = .ok (.iastore, 1) := by decide +kernel
theorem dX12_init_223 : decode cX12_init 223 = .ok (.dup, 1) := by decide +kernel
theorem dX12_init_224 : decode cX12_init 224 = .ok (.bipush 7, 2) := by decide +kernel
theorem dX12_init_226 : decode cX12_init 226 = .ok (.bipush 100, 2) := by decide +kernel
theorem dX12_init_228 : decode cX12_init 228 = .ok (.iastore, 1) := by decide +kernel
theorem dX12_init_229 : decode cX12_init 229 = .ok (.putfield 53, 3) := by decide +kernel
theorem dX12_init_232 : decode cX12_init 232 = .ok (.aload_n 0, 1) := by decide +kernel
theorem dX12_init_233 : decode cX12_init 233 = .ok (.bipush 16, 2) := by decide +kernel
theorem dX12_init_235 : decode cX12_init 235 = .ok (.newarray .int, 2) := by decide +kernel
theorem dX12_init_237 : decode cX12_init 237 = .ok (.putfield 56, 3) := by decide +kernel
theorem dX12_init_240 : decode cX12_init 240 = .ok (.return_, 1) := by decide +kernel
theorem dX12_in_0 : decode cX12_in 0 = .ok (.lload_n 0, 1) := by decide +kernel
theorem dX12_in_1 : decode cX12_in 1 = .ok (.lload_n 2, 1) := by decide +kernel
theorem dX12_in_2 : decode cX12_in 2 = .ok (.lcmp, 1) := by decide +kernel
theorem dX12_in_3 : decode cX12_in 3 = .ok (.ifCond .lt 14, 3) := by decide +kernel
theorem dX12_in_6 : decode cX12_in 6 = .ok (.lload_n 0, 1) := by decide +kernel
theorem dX12_in_7 : decode cX12_in 7 = .ok (.lload 4, 2) := by decide +kernel
theorem dX12_in_9 : decode cX12_in 9 = .ok (.lcmp, 1) := by decide +kernel
theorem dX12_in_10 : decode cX12_in 10 = .ok (.ifCond .gt 7, 3) := by decide +kernel
theorem dX12_in_13 : decode cX12_in 13 = .ok (.iconst 1, 1) := by decide +kernel
theorem dX12_in_14 : decode cX12_in 14 = .ok (.goto 4, 3) := by decide +kernel
theorem dX12_in_17 : decode cX12_in 17 = .ok (.iconst 0, 1) := by decide +kernel
theorem dX12_in_18 : decode cX12_in 18 = .ok (.ireturn, 1) := by decide +kernel
theorem dX12_found_0 : decode cX12_found 0 = .ok (.aload_n 0, 1) := by decide +kernel
theorem dX12_found_1 : decode cX12_found 1 = .ok (.iload_n 1, 1) := by decide +kernel
theorem dX12_found_2 : decode cX12_found 2 = .ok (.putfield 63, 3) := by decide +kernel
theorem dX12_found_5 : decode cX12_found 5 = .ok (.ldc 66, 2) := by decide +kernel
theorem dX12_found_7 : decode cX12_found 7 = .ok (.iload_n 1, 1) := by decide +kernel
theorem dX12_found_8 : decode cX12_found 8 = .ok (.isub, 1) := by decide +kernel
theorem dX12_found_9 : decode cX12_found 9 = .ok (.ireturn, 1) := by decide +kernel
theorem dX12_isSheet_0 : decode cX12_isSheet 0 = .ok (.iload_n 0, 1) := by decide +kernel
theorem dX12_isSheet_1 : decode cX12_isSheet 1 = .ok (.i2l, 1) := by decide +kernel
theorem dX12_isSheet_2 : decode cX12_isSheet 2 = .ok (.lconst 0, 1) := by decide +kernel
theorem dX12_isSheet_3 : decode cX12_isSheet 3 = .ok (.ldc2_w 67, 3) := by decide +kernel
theorem dX12_isSheet_6 : decode cX12_isSheet 6 = .ok (.invokestatic 69, 3) := by decide +kernel
theorem dX12_isSheet_9 : decode cX12_isSheet 9 = .ok (.ireturn, 1) := by decide +kernel
theorem dX12_sheet_0 : decode cX12_sheet 0 = .ok (.aload_n 0, 1) := by decide +kernel
theorem dX12_sheet_1 : decode cX12_sheet 1 = .ok (.iconst 0, 1) := by decide +kernel
theorem dX12_sheet_2 : decode cX12_sheet 2 = .ok (.putfield 59, 3) := by decide +kernel
theorem dX12_sheet_5 : decode cX12_sheet 5 = .ok (.iload_n 1, 1) := by decide +kernel
theorem dX12_sheet_6 : decode cX12_sheet 6 = .ok (.invokestatic 73, 3) := by decide +kernel
theorem dX12_sheet_9 : decode cX12_sheet 9 = .ok (.ifCond .eq 21, 3) := by decide +kernel
theorem dX12_sheet_12 : decode cX12_sheet 12 = .ok (.iload_n 2, 1) := by decide +kernel
theorem dX12_sheet_13 : decode cX12_sheet 13 = .ok (.i2l, 1) := by decide +kernel
theorem dX12_sheet_14 : decode cX12_sheet 14 = .ok (.lconst 0, 1) := by decide +kernel
theorem dX12_sheet_15 : decode cX12_sheet 15 = .ok (.ldc2_w 77, 3) := by decide +kernel
theorem dX12_sheet_18 : decode cX12_sheet 18 = .ok (.invokestatic 69, 3) := by decide +kernel
theorem dX12_sheet_21 : decode cX12_sheet 21 = .ok (.ifCond .eq 9, 3) := by decide +kernel
theorem dX12_sheet_24 : decode cX12_sheet 24 = .ok (.iload_n 3, 1) := by decide +kernel
theorem dX12_sheet_25 : decode cX12_sheet 25 = .ok (.bipush 80, 2) := by decide +kernel
theorem dX12_sheet_27 : decode cX12_sheet 27 = .ok (.if_icmp .le 6, 3) := by decide +kernel
theorem dX12_sheet_30 : decode cX12_sheet 30 = .ok (.ldc 79, 2) := by decide +kernel
theorem dX12_sheet_32 : decode cX12_sheet 32 = .ok (.ireturn, 1) := by decide +kernel
theorem dX12_sheet_33 : decode cX12_sheet 33 = .ok (.aload_n 0, 1) := by decide +kernel
theorem dX12_sheet_34 : decode cX12_sheet 34 = .ok (.iconst 0, 1) := by decide +kernel
theorem dX12_sheet_35 : decode cX12_sheet 35 = .ok (.putfield 63, 3) := by decide +kernel
theorem dX12_sheet_38 : decode cX12_sheet 38 = .ok (.iload_n 3, 1) := by decide +kernel
theorem dX12_sheet_39 : decode cX12_sheet 39 = .ok (.ifCond .ge 9, 3) := by decide +kernel
theorem dX12_sheet_42 : decode cX12_sheet 42 = .ok (.aload_n 0, 1) := by decide +kernel
theorem dX12_sheet_43 : decode cX12_sheet 43 = .ok (.iconst 4, 1) := by decide +kernel
theorem dX12_sheet_44 : decode cX12_sheet 44 = .ok (.invokevirtual 80, 3) := by decide +kernel
theorem dX12_sheet_47 : decode cX12_sheet 47 = .ok (.ireturn, 1) := by decide +kernel
theorem dX12_sheet_48 : decode cX12_sheet 48 = .ok (.aload_n 0, 1) := by decide +kernel
theorem dX12_sheet_49 : decode cX12_sheet 49 = .ok (.getfield 7, 3) := by decide +kernel
theorem dX12_sheet_52 : decode cX12_sheet 52 = .ok (.iload_n 1, 1) := by decide +kernel
theorem dX12_sheet_53 : decode cX12_sheet 53 = .ok (.iload_n 2, 1) := by decide +kernel
theorem dX12_sheet_54 : decode cX12_sheet 54 = .ok (.iastore, 1) := by decide +kernel
theorem dX12_sheet_55 : decode cX12_sheet 55 = .ok (.aload_n 0, 1) := by decide +kernel
theorem dX12_sheet_56 : decode cX12_sheet 56 = .ok (.getfield 13, 3) := by decide +kernel
theorem dX12_sheet_59 : decode cX12_sheet 59 = .ok (.iload_n 1, 1) := by decide +kernel
theorem dX12_sheet_60 : decode cX12_sheet 60 = .ok (.iload_n 3, 1) := by decide +kernel
theorem dX12_sheet_61 : decode cX12_sheet 61 = .ok (.iastore, 1) := by decide +kernel
theorem dX12_sheet_62 : decode cX12_sheet 62 = .ok (.iconst 0, 1) := by decide +kernel
theorem dX12_sheet_63 : decode cX12_sheet 63 = .ok (.istore 4, 2) := by decide +kernel
theorem dX12_sheet_65 : decode cX12_sheet 65 = .ok (.iload 4, 2) := by decide +kernel
theorem dX12_sheet_67 : decode cX12_sheet 67 = .ok (.bipush 80, 2) := by decide +kernel
theorem dX12_sheet_69 : decode cX12_sheet 69 = .ok (.if_icmp .ge 22, 3) := by decide +kernel
theorem dX12_sheet_72 : decode cX12_sheet 72 = .ok (.aload_n 0, 1) := by decide +kernel
theorem dX12_sheet_73 : decode cX12_sheet 73 = .ok (.getfield 16, 3) := by decide +kernel
theorem dX12_sheet_76 : decode cX12_sheet 76 = .ok (.bipush 80, 2) := by decide +kernel
theorem dX12_sheet_78 : decode cX12_sheet 78 = .ok (.iload_n 1, 1) := by decide +kernel
theorem dX12_sheet_79 : decode cX12_sheet 79 = .ok (.imul, 1) := by decide +kernel
theorem dX12_sheet_80 : decode cX12_sheet 80 = .ok (.iload 4, 2) := by decide +kernel
theorem dX12_sheet_82 : decode cX12_sheet 82 = .ok (.iadd, 1) := by decide +kernel
theorem dX12_sheet_83 : decode cX12_sheet 83 = .ok (.iconst 0, 1) := by decide +kernel
theorem dX12_sheet_84 : decode cX12_sheet 84 = .ok (.iastore, 1) := by decide +kernel
theorem dX12_sheet_85 : decode cX12_sheet 85 = .ok (.iinc 4 1, 3) := by decide +kernel
theorem dX12_sheet_88 : decode cX12_sheet 88 = .ok (.goto (-23), 3) := by decide +kernel
theorem dX12_sheet_91 : decode cX12_sheet 91 = .ok (.iload_n 3, 1) := by decide +kernel
theorem dX12_sheet_92 : decode cX12_sheet 92 = .ok (.ireturn, 1) := by decide +kernel
theorem dX12_set_0 : decode cX12_set 0 = .ok (.aload_n 0, 1) := by decide +kernel
theorem dX12_set_1 : decode cX12_set 1 = .ok (.iconst 0, 1) := by decide +kernel
theorem dX12_set_2 : decode cX12_set 2 = .ok (.putfield 59, 3) := by decide +kernel
theorem dX12_set_5 : decode cX12_set 5 = .ok (.iload_n 1, 1) := by decide +kernel
theorem dX12_set_6 : decode cX12_set 6 = .ok (.invokestatic 73, 3) := by decide +kernel
theorem dX12_set_9 : decode cX12_set 9 = .ok (.ifCond .ne 6, 3) := by decide +kernel
theorem dX12_set_12 : decode cX12_set 12 = .ok (.ldc 79, 2) := by decide +kernel
theorem dX12_set_14 : decode cX12_set 14 = .ok (.ireturn, 1) := by decide +kernel
theorem dX12_set_15 : decode cX12_set 15 = .ok (.aload_n 0, 1) := by decide +kernel
theorem dX12_set_16 : decode cX12_set 16 = .ok (.iconst 0, 1) := by decide +kernel
theorem dX12_set_17 : decode cX12_set 17 = .ok (.putfield 63, 3) := by decide +kernel
theorem dX12_set_20 : decode cX12_set 20 = .ok (.aload_n 0, 1) := by decide +kernel
theorem dX12_set_21 : decode cX12_set 21 = .ok (.getfield 7, 3) := by decide +kernel
theorem dX12_set_24 : decode cX12_set 24 = .ok (.iload_n 1, 1) := by decide +kernel
theorem dX12_set_25 : decode cX12_set 25 = .ok (.iaload, 1) := by decide +kernel
theorem dX12_set_26 : decode cX12_set 26 = .ok (.ifCond .ge 9, 3) := by decide +kernel
theorem dX12_set_29 : decode cX12_set 29 = .ok (.aload_n 0, 1) := by decide +kernel
theorem dX12_set_30 : decode cX12_set 30 = .ok (.iconst 1, 1) := by decide +kernel
theorem dX12_set_31 : decode cX12_set 31 = .ok (.invokevirtual 80, 3) := by decide +kernel
theorem dX12_set_34 : decode cX12_set 34 = .ok (.ireturn, 1) := by decide +kernel
theorem dX12_set_35 : decode cX12_set 35 = .ok (.iload_n 2, 1) := by decide +kernel
theorem dX12_set_36 : decode cX12_set 36 = .ok (.i2l, 1) := by decide +kernel
theorem dX12_set_37 : decode cX12_set 37 = .ok (.lconst 0, 1) := by decide +kernel
theorem dX12_set_38 : decode cX12_set 38 = .ok (.aload_n 0, 1) := by decide +kernel
theorem dX12_set_39 : decode cX12_set 39 = .ok (.getfield 13, 3) := by decide +kernel
theorem dX12_set_42 : decode cX12_set 42 = .ok (.iload_n 1, 1) := by decide +kernel
theorem dX12_set_43 : decode cX12_set 43 = .ok (.iaload, 1) := by decide +kernel
theorem dX12_set_44 : decode cX12_set 44 = .ok (.iconst 1, 1) := by decide +kernel
theorem dX12_set_45 : decode cX12_set 45 = .ok (.isub, 1) := by decide +kernel
theorem dX12_set_46 : decode cX12_set 46 = .ok (.i2l, 1) := by decide +kernel
theorem dX12_set_47 : decode cX12_set 47 = .ok (.invokestatic 69, 3) := by decide +kernel
theorem dX12_set_50 : decode cX12_set 50 = .ok (.ifCond .ne 9, 3) := by decide +kernel
theorem dX12_set_53 : decode cX12_set 53 = .ok (.aload_n 0, 1) := by decide +kernel
theorem dX12_set_54 : decode cX12_set 54 = .ok (.iconst 2, 1) := by decide +kernel
theorem dX12_set_55 : decode cX12_set 55 = .ok (.invokevirtual 80, 3) := by decide +kernel
theorem dX12_set_58 : decode cX12_set 58 = .ok (.ireturn, 1) := by decide +kernel
theorem dX12_set_59 : decode cX12_set 59 = .ok (.aload_n 0, 1) := by decide +kernel
theorem dX12_set_60 : decode cX12_set 60 = .ok (.getfield 16, 3) := by decide +kernel
theorem dX12_set_63 : decode cX12_set 63 = .ok (.bipush 80, 2) := by decide +kernel
theorem dX12_set_65 : decode cX12_set 65 = .ok (.iload_n 1, 1) := by decide +kernel
theorem dX12_set_66 : decode cX12_set 66 = .ok (.imul, 1) := by decide +kernel
theorem dX12_set_67 : decode cX12_set 67 = .ok (.iload_n 2, 1) := by decide +kernel
theorem dX12_set_68 : decode cX12_set 68 = .ok (.iadd, 1) := by decide +kernel
theorem dX12_set_69 : decode cX12_set 69 = .ok (.aload_n 0, 1) := by decide +kernel
theorem dX12_set_70 : decode cX12_set 70 = .ok (.getfield 7, 3) := by decide +kernel
theorem dX12_set_73 : decode cX12_set 73 = .ok (.iload_n 1, 1) := by decide +kernel
theorem dX12_set_74 : decode cX12_set 74 = .ok (.iaload, 1) := by decide +kernel
theorem dX12_set_75 : decode cX12_set 75 = .ok (.ifCond .ne 8, 3) := by decide +kernel
theorem dX12_set_78 : decode cX12_set 78 = .ok (.iload_n 3, 1) := by decide +kernel
theorem dX12_set_79 : decode cX12_set 79 = .ok (.i2b, 1) := by decide +kernel
theorem dX12_set_80 : decode cX12_set 80 = .ok (.goto 19, 3) := by decide +kernel
theorem dX12_set_83 : decode cX12_set 83 = .ok (.aload_n 0, 1) := by decide +kernel
theorem dX12_set_84 : decode cX12_set 84 = .ok (.getfield 7, 3) := by decide +kernel
theorem dX12_set_87 : decode cX12_set 87 = .ok (.iload_n 1, 1) := by decide +kernel
theorem dX12_set_88 : decode cX12_set 88 = .ok (.iaload, 1) := by decide +kernel
theorem dX12_set_89 : decode cX12_set 89 = .ok (.iconst 1, 1) := by decide +kernel
theorem dX12_set_90 : decode cX12_set 90 = .ok (.if_icmp .ne 8, 3) := by decide +kernel
theorem dX12_set_93 : decode cX12_set 93 = .ok (.iload_n 3, 1) := by decide +kernel
theorem dX12_set_94 : decode cX12_set 94 = .ok (.i2s, 1) := by decide +kernel
theorem dX12_set_95 : decode cX12_set 95 = .ok (.goto 4, 3) := by decide +kernel
theorem dX12_set_98 : decode cX12_set 98 = .ok (.iload_n 3, 1) := by decide +kernel
theorem dX12_set_99 : decode cX12_set 99 = .ok (.iastore, 1) := by decide +kernel
theorem dX12_set_100 : decode cX12_set 100 = .ok (.aload_n 0, 1) := by decide +kernel
theorem dX12_set_101 : decode cX12_set 101 = .ok (.getfield 16, 3) := by decide +kernel
theorem dX12_set_104 : decode cX12_set 104 = .ok (.bipush 80, 2) := by decide +kernel
theorem dX12_set_106 : decode cX12_set 106 = .ok (.iload_n 1, 1) := by decide +kernel
theorem dX12_set_107 : decode cX12_set 107 = .ok (.imul, 1) := by decide +kernel
theorem dX12_set_108 : decode cX12_set 108 = .ok (.iload_n 2, 1) := by decide +kernel
theorem dX12_set_109 : decode cX12_set 109 = .ok (.iadd, 1) := by decide +kernel
theorem dX12_set_110 : decode cX12_set 110 = .ok (.iaload, 1) := by decide +kernel
theorem dX12_set_111 : decode cX12_set 111 = .ok (.ireturn, 1) := by decide +kernel
theorem dX12_copy_0 : decode cX12_copy 0 = .ok (.aload_n 0, 1) := by decide +kernel
theorem dX12_copy_1 : decode cX12_copy 1 = .ok (.iconst 0, 1) := by decide +kernel
theorem dX12_copy_2 : decode cX12_copy 2 = .ok (.putfield 59, 3) := by decide +kernel
theorem dX12_copy_5 : decode cX12_copy 5 = .ok (.iload_n 1, 1) := by decide +kernel
theorem dX12_copy_6 : decode cX12_copy 6 = .ok (.invokestatic 73, 3) := by decide +kernel
theorem dX12_copy_9 : decode cX12_copy 9 = .ok (.ifCond .eq 10, 3) := by decide +kernel
theorem dX12_copy_12 : decode cX12_copy 12 = .ok (.iload_n 3, 1) := by decide +kernel
theorem dX12_copy_13 : decode cX12_copy 13 = .ok (.invokestatic 73, 3) := by decide +kernel
theorem dX12_copy_16 : decode cX12_copy 16 = .ok (.ifCond .ne 6, 3) := by decide +kernel
theorem dX12_copy_19 : decode cX12_copy 19 = .ok (.ldc 79, 2) := by decide +kernel
theorem dX12_copy_21 : decode cX12_copy 21 = .ok (.ireturn, 1) := by decide +kernel
theorem dX12_copy_22 : decode cX12_copy 22 = .ok (.aload_n 0, 1) := by decide +kernel
theorem dX12_copy_23 : decode cX12_copy 23 = .ok (.iconst 0, 1) := by decide +kernel
theorem dX12_copy_24 : decode cX12_copy 24 = .ok (.putfield 63, 3) := by decide +kernel
theorem dX12_copy_27 : decode cX12_copy 27 = .ok (.aload_n 0, 1) := by decide +kernel
theorem dX12_copy_28 : decode cX12_copy 28 = .ok (.getfield 7, 3) := by decide +kernel
theorem dX12_copy_31 : decode cX12_copy 31 = .ok (.iload_n 1, 1) := by decide +kernel
theorem dX12_copy_32 : decode cX12_copy 32 = .ok (.iaload, 1) := by decide +kernel
theorem dX12_copy_33 : decode cX12_copy 33 = .ok (.ifCond .lt 12, 3) := by decide +kernel
theorem dX12_copy_36 : decode cX12_copy 36 = .ok (.aload_n 0, 1) := by decide +kernel
theorem dX12_copy_37 : decode cX12_copy 37 = .ok (.getfield 7, 3) := by decide +kernel
theorem dX12_copy_40 : decode cX12_copy 40 = .ok (.iload_n 3, 1) := by decide +kernel
theorem dX12_copy_41 : decode cX12_copy 41 = .ok (.iaload, 1) := by decide +kernel
theorem dX12_copy_42 : decode cX12_copy 42 = .ok (.ifCond .ge 9, 3) := by decide +kernel
theorem dX12_copy_45 : decode cX12_copy 45 = .ok (.aload_n 0, 1) := by decide +kernel
theorem dX12_copy_46 : decode cX12_copy 46 = .ok (.iconst 1, 1) := by decide +kernel
theorem dX12_copy_47 : decode cX12_copy 47 = .ok (.invokevirtual 80, 3) := by decide +kernel
theorem dX12_copy_50 : decode cX12_copy 50 = .ok (.ireturn, 1) := by decide +kernel
theorem dX12_copy_51 : decode cX12_copy 51 = .ok (.aload_n 0, 1) := by decide +kernel
theorem dX12_copy_52 : decode cX12_copy 52 = .ok (.getfield 7, 3) := by decide +kernel
theorem dX12_copy_55 : decode cX12_copy 55 = .ok (.iload_n 1, 1) := by decide +kernel
theorem dX12_copy_56 : decode cX12_copy 56 = .ok (.iaload, 1) := by decide +kernel
theorem dX12_copy_57 : decode cX12_copy 57 = .ok (.aload_n 0, 1) := by decide +kernel
theorem dX12_copy_58 : decode cX12_copy 58 = .ok (.getfield 7, 3) := by decide +kernel
theorem dX12_copy_61 : decode cX12_copy 61 = .ok (.iload_n 3, 1) := by decide +kernel
theorem dX12_copy_62 : decode cX12_copy 62 = .ok (.iaload, 1) := by decide +kernel
theorem dX12_copy_63 : decode cX12_copy 63 = .ok (.if_icmp .eq 9, 3) := by decide +kernel
theorem dX12_copy_66 : decode cX12_copy 66 = .ok (.aload_n 0, 1) := by decide +kernel
theorem dX12_copy_67 : decode cX12_copy 67 = .ok (.iconst 5, 1) := by decide +kernel
theorem dX12_copy_68 : decode cX12_copy 68 = .ok (.invokevirtual 80, 3) := by decide +kernel
theorem dX12_copy_71 : decode cX12_copy 71 = .ok (.ireturn, 1) := by decide +kernel
theorem dX12_copy_72 : decode cX12_copy 72 = .ok (.iload_n 2, 1) := by decide +kernel
theorem dX12_copy_73 : decode cX12_copy 73 = .ok (.ifCond .lt 48, 3) := by decide +kernel
theorem dX12_copy_76 : decode cX12_copy 76 = .ok (.iload 4, 2) := by decide +kernel
theorem dX12_copy_78 : decode cX12_copy 78 = .ok (.ifCond .lt 43, 3) := by decide +kernel
theorem dX12_copy_81 : decode cX12_copy 81 = .ok (.iload 5, 2) := by decide +kernel
theorem dX12_copy_83 : decode cX12_copy 83 = .ok (.ifCond .lt 38, 3) := by decide +kernel
theorem dX12_copy_86 : decode cX12_copy 86 = .ok (.iload_n 2, 1) := by decide +kernel
theorem dX12_copy_87 : decode cX12_copy 87 = .ok (.i2l, 1) := by decide +kernel
theorem dX12_copy_88 : decode cX12_copy 88 = .ok (.iload 5, 2) := by decide +kernel
theorem dX12_copy_90 : decode cX12_copy 90 = .ok (.i2l, 1) := by decide +kernel
theorem dX12_copy_91 : decode cX12_copy 91 = .ok (.ladd, 1) := by decide +kernel
theorem dX12_copy_92 : decode cX12_copy 92 = .ok (.aload_n 0, 1) := by decide +kernel
theorem dX12_copy_93 : decode cX12_copy 93 = .ok (.getfield 13, 3) := by decide +kernel
theorem dX12_copy_96 : decode cX12_copy 96 = .ok (.iload_n 1, 1) := by decide +kernel
theorem dX12_copy_97 : decode cX12_copy 97 = .ok (.iaload, 1) := by decide +kernel
theorem dX12_copy_98 : decode cX12_copy 98 = .ok (.i2l, 1) := by decide +kernel
theorem dX12_copy_99 : decode cX12_copy 99 = .ok (.lcmp, 1) := by decide +kernel
theorem dX12_copy_100 : decode cX12_copy 100 = .ok (.ifCond .gt 21, 3) := by decide +kernel
theorem dX12_copy_103 : decode cX12_copy 103 = .ok (.iload 4, 2) := by decide +kernel
theorem dX12_copy_105 : decode cX12_copy 105 = .ok (.i2l, 1) := by decide +kernel
theorem dX12_copy_106 : decode cX12_copy 106 = .ok (.iload 5, 2) := by decide +kernel
theorem dX12_copy_108 : decode cX12_copy 108 = .ok (.i2l, 1) := by decide +kernel
theorem dX12_copy_109 : decode cX12_copy 109 = .ok (.ladd, 1) := by decide +kernel
theorem dX12_copy_110 : decode cX12_copy 110 = .ok (.aload_n 0, 1) := by decide +kernel
theorem dX12_copy_111 : decode cX12_copy 111 = .ok (.getfield 13, 3) := by decide +kernel
theorem dX12_copy_114 : decode cX12_copy 114 = .ok (.iload_n 3, 1) := by decide +kernel
theorem dX12_copy_115 : decode cX12_copy 115 = .ok (.iaload, 1) := by decide +kernel
theorem dX12_copy_116 : decode cX12_copy 116 = .ok (.i2l, 1) := by decide +kernel
theorem dX12_copy_117 : decode cX12_copy 117 = .ok (.lcmp, 1) := by decide +kernel
theorem dX12_copy_118 : decode cX12_copy 118 = .ok (.ifCond .le 9, 3) := by decide +kernel
theorem dX12_copy_121 : decode cX12_copy 121 = .ok (.aload_n 0, 1) := by decide +kernel
theorem dX12_copy_122 : decode cX12_copy 122 = .ok (.iconst 2, 1) := by decide +kernel
theorem dX12_copy_123 : decode cX12_copy 123 = .ok (.invokevirtual 80, 3) := by decide +kernel
theorem dX12_copy_126 : decode cX12_copy 126 = .ok (.ireturn, 1) := by decide +kernel
theorem dX12_copy_127 : decode cX12_copy 127 = .ok (.iload_n 2, 1) := by decide +kernel
theorem dX12_copy_128 : decode cX12_copy 128 = .ok (.iload 4, 2) := by decide +kernel
theorem dX12_copy_130 : decode cX12_copy 130 = .ok (.if_icmp .lt 7, 3) := by decide +kernel
theorem dX12_copy_133 : decode cX12_copy 133 = .ok (.iconst 1, 1) := by decide +kernel
theorem dX12_copy_134 : decode cX12_copy 134 = .ok (.goto 4, 3) := by decide +kernel
theorem dX12_copy_137 : decode cX12_copy 137 = .ok (.iconst 0, 1) := by decide +kernel
theorem dX12_copy_138 : decode cX12_copy 138 = .ok (.istore 6, 2) := by decide +kernel
theorem dX12_copy_140 : decode cX12_copy 140 = .ok (.iconst 0, 1) := by decide +kernel
theorem dX12_copy_141 : decode cX12_copy 141 = .ok (.istore 7, 2) := by decide +kernel
theorem dX12_copy_143 : decode cX12_copy 143 = .ok (.iload 7, 2) := by decide +kernel
theorem dX12_copy_145 : decode cX12_copy 145 = .ok (.iload 5, 2) := by decide +kernel
theorem dX12_copy_147 : decode cX12_copy 147 = .ok (.if_icmp .ge 57, 3) := by decide +kernel
theorem dX12_copy_150 : decode cX12_copy 150 = .ok (.iload 6, 2) := by decide +kernel
theorem dX12_copy_152 : decode cX12_copy 152 = .ok (.ifCond .eq 8, 3) := by decide +kernel
theorem dX12_copy_155 : decode cX12_copy 155 = .ok (.iload 7, 2) := by decide +kernel
theorem dX12_copy_157 : decode cX12_copy 157 = .ok (.goto 10, 3) := by decide +kernel
theorem dX12_copy_160 : decode cX12_copy 160 = .ok (.iload 5, 2) := by decide +kernel
theorem dX12_copy_162 : decode cX12_copy 162 = .ok (.iconst 1, 1) := by decide +kernel
theorem dX12_copy_163 : decode cX12_copy 163 = .ok (.isub, 1) := by decide +kernel
theorem dX12_copy_164 : decode cX12_copy 164 = .ok (.iload 7, 2) := by decide +kernel
theorem dX12_copy_166 : decode cX12_copy 166 = .ok (.isub, 1) := by decide +kernel
theorem dX12_copy_167 : decode cX12_copy 167 = .ok (.istore 8, 2) := by decide +kernel
theorem dX12_copy_169 : decode cX12_copy 169 = .ok (.aload_n 0, 1) := by decide +kernel
theorem dX12_copy_170 : decode cX12_copy 170 = .ok (.getfield 16, 3) := by decide +kernel
theorem dX12_copy_173 : decode cX12_copy 173 = .ok (.bipush 80, 2) := by decide +kernel
theorem dX12_copy_175 : decode cX12_copy 175 = .ok (.iload_n 3, 1) := by decide +kernel
theorem dX12_copy_176 : decode cX12_copy 176 = .ok (.imul, 1) := by decide +kernel
theorem dX12_copy_177 : decode cX12_copy 177 = .ok (.iload 4, 2) := by decide +kernel
theorem dX12_copy_179 : decode cX12_copy 179 = .ok (.iadd, 1) := by decide +kernel
theorem dX12_copy_180 : decode cX12_copy 180 = .ok (.iload 8, 2) := by decide +kernel
theorem dX12_copy_182 : decode cX12_copy 182 = .ok (.iadd, 1) := by decide +kernel
theorem dX12_copy_183 : decode cX12_copy 183 = .ok (.aload_n 0, 1) := by decide +kernel
theorem dX12_copy_184 : decode cX12_copy 184 = .ok (.getfield 16, 3) := by decide +kernel
theorem dX12_copy_187 : decode cX12_copy 187 = .ok (.bipush 80, 2) := by decide +kernel
theorem dX12_copy_189 : decode cX12_copy 189 = .ok (.iload_n 1, 1) := by decide +kernel
theorem dX12_copy_190 : decode cX12_copy 190 = .ok (.imul, 1) := by decide +kernel
theorem dX12_copy_191 : decode cX12_copy 191 = .ok (.iload_n 2, 1) := by decide +kernel
theorem dX12_copy_192 : decode cX12_copy 192 = .ok (.iadd, 1) := by decide +kernel
theorem dX12_copy_193 : decode cX12_copy 193 = .ok (.iload 8, 2) := by decide +kernel
theorem dX12_copy_195 : decode cX12_copy 195 = .ok (.iadd, 1) := by decide +kernel
theorem dX12_copy_196 : decode cX12_copy 196 = .ok (.iaload, 1) := by decide +kernel
theorem dX12_copy_197 : decode cX12_copy 197 = .ok (.iastore, 1) := by decide +kernel
theorem dX12_copy_198 : decode cX12_copy 198 = .ok (.iinc 7 1, 3) := by decide +kernel
theorem dX12_copy_201 : decode cX12_copy 201 = .ok (.goto (-58), 3) := by decide +kernel
theorem dX12_copy_204 : decode cX12_copy 204 = .ok (.iload 5, 2) := by decide +kernel
theorem dX12_copy_206 : decode cX12_copy 206 = .ok (.ireturn, 1) := by decide +kernel
theorem dX12_drop_0 : decode cX12_drop 0 = .ok (.aload_n 0, 1) := by decide +kernel
theorem dX12_drop_1 : decode cX12_drop 1 = .ok (.iconst 0, 1) := by decide +kernel
theorem dX12_drop_2 : decode cX12_drop 2 = .ok (.putfield 59, 3) := by decide +kernel
theorem dX12_drop_5 : decode cX12_drop 5 = .ok (.iload_n 1, 1) := by decide +kernel
theorem dX12_drop_6 : decode cX12_drop 6 = .ok (.invokestatic 73, 3) := by decide +kernel
theorem dX12_drop_9 : decode cX12_drop 9 = .ok (.ifCond .ne 6, 3) := by decide +kernel
theorem dX12_drop_12 : decode cX12_drop 12 = .ok (.ldc 79, 2) := by decide +kernel
theorem dX12_drop_14 : decode cX12_drop 14 = .ok (.ireturn, 1) := by decide +kernel
theorem dX12_drop_15 : decode cX12_drop 15 = .ok (.aload_n 0, 1) := by decide +kernel
theorem dX12_drop_16 : decode cX12_drop 16 = .ok (.iconst 0, 1) := by decide +kernel
theorem dX12_drop_17 : decode cX12_drop 17 = .ok (.putfield 63, 3) := by decide +kernel
theorem dX12_drop_20 : decode cX12_drop 20 = .ok (.aload_n 0, 1) := by decide +kernel
theorem dX12_drop_21 : decode cX12_drop 21 = .ok (.getfield 7, 3) := by decide +kernel
theorem dX12_drop_24 : decode cX12_drop 24 = .ok (.iload_n 1, 1) := by decide +kernel
theorem dX12_drop_25 : decode cX12_drop 25 = .ok (.iaload, 1) := by decide +kernel
theorem dX12_drop_26 : decode cX12_drop 26 = .ok (.ifCond .ge 9, 3) := by decide +kernel
theorem dX12_drop_29 : decode cX12_drop 29 = .ok (.aload_n 0, 1) := by decide +kernel
theorem dX12_drop_30 : decode cX12_drop 30 = .ok (.iconst 1, 1) := by decide +kernel
theorem dX12_drop_31 : decode cX12_drop 31 = .ok (.invokevirtual 80, 3) := by decide +kernel
theorem dX12_drop_34 : decode cX12_drop 34 = .ok (.ireturn, 1) := by decide +kernel
theorem dX12_drop_35 : decode cX12_drop 35 = .ok (.aload_n 0, 1) := by decide +kernel
theorem dX12_drop_36 : decode cX12_drop 36 = .ok (.getfield 7, 3) := by decide +kernel
theorem dX12_drop_39 : decode cX12_drop 39 = .ok (.iload_n 1, 1) := by decide +kernel
theorem dX12_drop_40 : decode cX12_drop 40 = .ok (.iconst (-1), 1) := by decide +kernel
theorem dX12_drop_41 : decode cX12_drop 41 = .ok (.iastore, 1) := by decide +kernel
theorem dX12_drop_42 : decode cX12_drop 42 = .ok (.aload_n 0, 1) := by decide +kernel
theorem dX12_drop_43 : decode cX12_drop 43 = .ok (.getfield 13, 3) := by decide +kernel
theorem dX12_drop_46 : decode cX12_drop 46 = .ok (.iload_n 1, 1) := by decide +kernel
theorem dX12_drop_47 : decode cX12_drop 47 = .ok (.iaload, 1) := by decide +kernel
theorem dX12_drop_48 : decode cX12_drop 48 = .ok (.ireturn, 1) := by decide +kernel
theorem dX12_room_0 : decode cX12_room 0 = .ok (.aload_n 0, 1) := by decide +kernel
theorem dX12_room_1 : decode cX12_room 1 = .ok (.iconst 0, 1) := by decide +kernel
theorem dX12_room_2 : decode cX12_room 2 = .ok (.putfield 59, 3) := by decide +kernel
theorem dX12_room_5 : decode cX12_room 5 = .ok (.iload_n 1, 1) := by decide +kernel
theorem dX12_room_6 : decode cX12_room 6 = .ok (.i2l, 1) := by decide +kernel
theorem dX12_room_7 : decode cX12_room 7 = .ok (.lconst 0, 1) := by decide +kernel
theorem dX12_room_8 : decode cX12_room 8 = .ok (.ldc2_w 84, 3) := by decide +kernel
theorem dX12_room_11 : decode cX12_room 11 = .ok (.invokestatic 69, 3) := by decide +kernel
theorem dX12_room_14 : decode cX12_room 14 = .ok (.ifCond .ne 6, 3) := by decide +kernel
theorem dX12_room_17 : decode cX12_room 17 = .ok (.ldc 79, 2) := by decide +kernel
theorem dX12_room_19 : decode cX12_room 19 = .ok (.ireturn, 1) := by decide +kernel
theorem dX12_room_20 : decode cX12_room 20 = .ok (.iload_n 1, 1) := by decide +kernel
theorem dX12_room_21 : decode cX12_room 21 = .ok (.ifCond .eq 13, 3) := by decide +kernel
theorem dX12_room_24 : decode cX12_room 24 = .ok (.iload_n 1, 1) := by decide +kernel
theorem dX12_room_25 : decode cX12_room 25 = .ok (.iconst 3, 1) := by decide +kernel
theorem dX12_room_26 : decode cX12_room 26 = .ok (.if_icmp .eq 8, 3) := by decide +kernel
theorem dX12_room_29 : decode cX12_room 29 = .ok (.iload_n 1, 1) := by decide +kernel
theorem dX12_room_30 : decode cX12_room 30 = .ok (.iconst 4, 1) := by decide +kernel
theorem dX12_room_31 : decode cX12_room 31 = .ok (.if_icmp .ne 7, 3) := by decide +kernel
theorem dX12_room_34 : decode cX12_room 34 = .ok (.iconst 0, 1) := by decide +kernel
theorem dX12_room_35 : decode cX12_room 35 = .ok (.goto 4, 3) := by decide +kernel
theorem dX12_room_38 : decode cX12_room 38 = .ok (.iconst 1, 1) := by decide +kernel
theorem dX12_room_39 : decode cX12_room 39 = .ok (.istore_n 3, 1) := by decide +kernel
theorem dX12_room_40 : decode cX12_room 40 = .ok (.iload_n 1, 1) := by decide +kernel
theorem dX12_room_41 : decode cX12_room 41 = .ok (.ifCond .ne 9, 3) := by decide +kernel
theorem dX12_room_44 : decode cX12_room 44 = .ok (.sipush 500, 3) := by decide +kernel
theorem dX12_room_47 : decode cX12_room 47 = .ok (.goto 46, 3) := by decide +kernel
theorem dX12_room_50 : decode cX12_room 50 = .ok (.iload_n 1, 1) := by decide +kernel
theorem dX12_room_51 : decode cX12_room 51 = .ok (.iconst 1, 1) := by decide +kernel
theorem dX12_room_52 : decode cX12_room 52 = .ok (.if_icmp .ne 8, 3) := by decide +kernel
theorem dX12_room_55 : decode cX12_room 55 = .ok (.bipush 100, 2) := by decide +kernel
theorem dX12_room_57 : decode cX12_room 57 = .ok (.goto 36, 3) := by decide +kernel
theorem dX12_room_60 : decode cX12_room 60 = .ok (.iload_n 1, 1) := by decide +kernel
theorem dX12_room_61 : decode cX12_room 61 = .ok (.iconst 2, 1) := by decide +kernel
theorem dX12_room_62 : decode cX12_room 62 = .ok (.if_icmp .ne 9, 3) := by decide +kernel
theorem dX12_room_65 : decode cX12_room 65 = .ok (.sipush 1000, 3) := by decide +kernel
theorem dX12_room_68 : decode cX12_room 68 = .ok (.goto 25, 3) := by decide +kernel
theorem dX12_room_71 : decode cX12_room 71 = .ok (.iload_n 1, 1) := by decide +kernel
theorem dX12_room_72 : decode cX12_room 72 = .ok (.iconst 3, 1) := by decide +kernel
theorem dX12_room_73 : decode cX12_room 73 = .ok (.if_icmp .ne 7, 3) := by decide +kernel
theorem dX12_room_76 : decode cX12_room 76 = .ok (.iconst 1, 1) := by decide +kernel
theorem dX12_room_77 : decode cX12_room 77 = .ok (.goto 16, 3) := by decide +kernel
theorem dX12_room_80 : decode cX12_room 80 = .ok (.iload_n 1, 1) := by decide +kernel
theorem dX12_room_81 : decode cX12_room 81 = .ok (.iconst 4, 1) := by decide +kernel
theorem dX12_room_82 : decode cX12_room 82 = .ok (.if_icmp .ne 8, 3) := by decide +kernel
theorem dX12_room_85 : decode cX12_room 85 = .ok (.bipush 50, 2) := by decide +kernel
theorem dX12_room_87 : decode cX12_room 87 = .ok (.goto 6, 3) := by decide +kernel
theorem dX12_room_90 : decode cX12_room 90 = .ok (.sipush 400, 3) := by decide +kernel
theorem dX12_room_93 : decode cX12_room 93 = .ok (.istore 4, 2) := by decide +kernel
theorem dX12_room_95 : decode cX12_room 95 = .ok (.iload_n 2, 1) := by decide +kernel
theorem dX12_room_96 : decode cX12_room 96 = .ok (.i2l, 1) := by decide +kernel
theorem dX12_room_97 : decode cX12_room 97 = .ok (.iload_n 3, 1) := by decide +kernel
theorem dX12_room_98 : decode cX12_room 98 = .ok (.i2l, 1) := by decide +kernel
theorem dX12_room_99 : decode cX12_room 99 = .ok (.iload 4, 2) := by decide +kernel
theorem dX12_room_101 : decode cX12_room 101 = .ok (.i2l, 1) := by decide +kernel
theorem dX12_room_102 : decode cX12_room 102 = .ok (.invokestatic 69, 3) := by decide +kernel
theorem dX12_room_105 : decode cX12_room 105 = .ok (.ifCond .ne 6, 3) := by decide +kernel
theorem dX12_room_108 : decode cX12_room 108 = .ok (.ldc 79, 2) := by decide +kernel
theorem dX12_room_110 : decode cX12_room 110 = .ok (.ireturn, 1) := by decide +kernel
theorem dX12_room_111 : decode cX12_room 111 = .ok (.aload_n 0, 1) := by decide +kernel
theorem dX12_room_112 : decode cX12_room 112 = .ok (.getfield 19, 3) := by decide +kernel
theorem dX12_room_115 : decode cX12_room 115 = .ok (.iload_n 1, 1) := by decide +kernel
theorem dX12_room_116 : decode cX12_room 116 = .ok (.iaload, 1) := by decide +kernel
theorem dX12_room_117 : decode cX12_room 117 = .ok (.istore 5, 2) := by decide +kernel
theorem dX12_room_119 : decode cX12_room 119 = .ok (.aload_n 0, 1) := by decide +kernel
theorem dX12_room_120 : decode cX12_room 120 = .ok (.getfield 19, 3) := by decide +kernel
theorem dX12_room_123 : decode cX12_room 123 = .ok (.iload_n 1, 1) := by decide +kernel
theorem dX12_room_124 : decode cX12_room 124 = .ok (.iload_n 2, 1) := by decide +kernel
theorem dX12_room_125 : decode cX12_room 125 = .ok (.iastore, 1) := by decide +kernel
theorem dX12_room_126 : decode cX12_room 126 = .ok (.iload 5, 2) := by decide +kernel
theorem dX12_room_128 : decode cX12_room 128 = .ok (.ireturn, 1) := by decide +kernel
theorem dX12_bend_0 : decode cX12_bend 0 = .ok (.aload_n 0, 1) := by decide +kernel
theorem dX12_bend_1 : decode cX12_bend 1 = .ok (.iconst 0, 1) := by decide +kernel
theorem dX12_bend_2 : decode cX12_bend 2 = .ok (.putfield 59, 3) := by decide +kernel
theorem dX12_bend_5 : decode cX12_bend 5 = .ok (.iload_n 1, 1) := by decide +kernel
theorem dX12_bend_6 : decode cX12_bend 6 = .ok (.i2l, 1) := by decide +kernel
theorem dX12_bend_7 : decode cX12_bend 7 = .ok (.ldc2_w 86, 3) := by decide +kernel
theorem dX12_bend_10 : decode cX12_bend 10 = .ok (.ldc2_w 88, 3) := by decide +kernel
theorem dX12_bend_13 : decode cX12_bend 13 = .ok (.invokestatic 69, 3) := by decide +kernel
theorem dX12_bend_16 : decode cX12_bend 16 = .ok (.ifCond .eq 17, 3) := by decide +kernel
theorem dX12_bend_19 : decode cX12_bend 19 = .ok (.iload_n 2, 1) := by decide +kernel
theorem dX12_bend_20 : decode cX12_bend 20 = .ok (.i2l, 1) := by decide +kernel
theorem dX12_bend_21 : decode cX12_bend 21 = .ok (.ldc2_w 90, 3) := by decide +kernel
theorem dX12_bend_24 : decode cX12_bend 24 = .ok (.ldc2_w 92, 3) := by decide +kernel
theorem dX12_bend_27 : decode cX12_bend 27 = .ok (.invokestatic 69, 3) := by decide +kernel
theorem dX12_bend_30 : decode cX12_bend 30 = .ok (.ifCond .ne 6, 3) := by decide +kernel
theorem dX12_bend_33 : decode cX12_bend 33 = .ok (.ldc 79, 2) := by decide +kernel
theorem dX12_bend_35 : decode cX12_bend 35 = .ok (.ireturn, 1) := by decide +kernel
theorem dX12_bend_36 : decode cX12_bend 36 = .ok (.aload_n 0, 1) := by decide +kernel
theorem dX12_bend_37 : decode cX12_bend 37 = .ok (.getfield 22, 3) := by decide +kernel
theorem dX12_bend_40 : decode cX12_bend 40 = .ok (.iload_n 1, 1) := by decide +kernel
theorem dX12_bend_41 : decode cX12_bend 41 = .ok (.bipush 8, 2) := by decide +kernel
theorem dX12_bend_43 : decode cX12_bend 43 = .ok (.iadd, 1) := by decide +kernel
theorem dX12_bend_44 : decode cX12_bend 44 = .ok (.iaload, 1) := by decide +kernel
theorem dX12_bend_45 : decode cX12_bend 45 = .ok (.istore_n 3, 1) := by decide +kernel
theorem dX12_bend_46 : decode cX12_bend 46 = .ok (.aload_n 0, 1) := by decide +kernel
theorem dX12_bend_47 : decode cX12_bend 47 = .ok (.getfield 22, 3) := by decide +kernel
theorem dX12_bend_50 : decode cX12_bend 50 = .ok (.iload_n 1, 1) := by decide +kernel
theorem dX12_bend_51 : decode cX12_bend 51 = .ok (.bipush 8, 2) := by decide +kernel
theorem dX12_bend_53 : decode cX12_bend 53 = .ok (.iadd, 1) := by decide +kernel
theorem dX12_bend_54 : decode cX12_bend 54 = .ok (.iload_n 2, 1) := by decide +kernel
theorem dX12_bend_55 : decode cX12_bend 55 = .ok (.iastore, 1) := by decide +kernel
theorem dX12_bend_56 : decode cX12_bend 56 = .ok (.iload_n 3, 1) := by decide +kernel
theorem dX12_bend_57 : decode cX12_bend 57 = .ok (.ireturn, 1) := by decide +kernel
theorem dX12_told_0 : decode cX12_told 0 = .ok (.aload_n 0, 1) := by decide +kernel
theorem dX12_told_1 : decode cX12_told 1 = .ok (.iconst 0, 1) := by decide +kernel
theorem dX12_told_2 : decode cX12_told 2 = .ok (.putfield 59, 3) := by decide +kernel
theorem dX12_told_5 : decode cX12_told 5 = .ok (.iload_n 1, 1) := by decide +kernel
theorem dX12_told_6 : decode cX12_told 6 = .ok (.i2l, 1) := by decide +kernel
theorem dX12_told_7 : decode cX12_told 7 = .ok (.lconst 0, 1) := by decide +kernel
theorem dX12_told_8 : decode cX12_told 8 = .ok (.ldc2_w 84, 3) := by decide +kernel
theorem dX12_told_11 : decode cX12_told 11 = .ok (.invokestatic 69, 3) := by decide +kernel
theorem dX12_told_14 : decode cX12_told 14 = .ok (.ifCond .eq 12, 3) := by decide +kernel
theorem dX12_told_17 : decode cX12_told 17 = .ok (.aload_n 0, 1) := by decide +kernel
theorem dX12_told_18 : decode cX12_told 18 = .ok (.getfield 19, 3) := by decide +kernel
theorem dX12_told_21 : decode cX12_told 21 = .ok (.iload_n 1, 1) := by decide +kernel
theorem dX12_told_22 : decode cX12_told 22 = .ok (.iaload, 1) := by decide +kernel
theorem dX12_told_23 : decode cX12_told 23 = .ok (.goto 31, 3) := by decide +kernel
theorem dX12_told_26 : decode cX12_told 26 = .ok (.iload_n 1, 1) := by decide +kernel
theorem dX12_told_27 : decode cX12_told 27 = .ok (.i2l, 1) := by decide +kernel
theorem dX12_told_28 : decode cX12_told 28 = .ok (.ldc2_w 67, 3) := by decide +kernel
theorem dX12_told_31 : decode cX12_told 31 = .ok (.ldc2_w 94, 3) := by decide +kernel
theorem dX12_told_34 : decode cX12_told 34 = .ok (.invokestatic 69, 3) := by decide +kernel
theorem dX12_told_37 : decode cX12_told 37 = .ok (.ifCond .eq 15, 3) := by decide +kernel
theorem dX12_told_40 : decode cX12_told 40 = .ok (.aload_n 0, 1) := by decide +kernel
theorem dX12_told_41 : decode cX12_told 41 = .ok (.getfield 22, 3) := by decide +kernel
theorem dX12_told_44 : decode cX12_told 44 = .ok (.iload_n 1, 1) := by decide +kernel
theorem dX12_told_45 : decode cX12_told 45 = .ok (.bipush 7, 2) := by decide +kernel
theorem dX12_told_47 : decode cX12_told 47 = .ok (.isub, 1) := by decide +kernel
theorem dX12_told_48 : decode cX12_told 48 = .ok (.iaload, 1) := by decide +kernel
theorem dX12_told_49 : decode cX12_told 49 = .ok (.goto 5, 3) := by decide +kernel
theorem dX12_told_52 : decode cX12_told 52 = .ok (.ldc 79, 2) := by decide +kernel
theorem dX12_told_54 : decode cX12_told 54 = .ok (.ireturn, 1) := by decide +kernel
theorem dX12_isPlace_0 : decode cX12_isPlace 0 = .ok (.iload_n 0, 1) := by decide +kernel
theorem dX12_isPlace_1 : decode cX12_isPlace 1 = .ok (.i2l, 1) := by decide +kernel
theorem dX12_isPlace_2 : decode cX12_isPlace 2 = .ok (.ldc2_w 96, 3) := by decide +kernel
theorem dX12_isPlace_5 : decode cX12_isPlace 5 = .ok (.ldc2_w 98, 3) := by decide +kernel
theorem dX12_isPlace_8 : decode cX12_isPlace 8 = .ok (.invokestatic 69, 3) := by decide +kernel
theorem dX12_isPlace_11 : decode cX12_isPlace 11 = .ok (.ifCond .eq 33, 3) := by decide +kernel
theorem dX12_isPlace_14 : decode cX12_isPlace 14 = .ok (.iload_n 1, 1) := by decide +kernel
theorem dX12_isPlace_15 : decode cX12_isPlace 15 = .ok (.i2l, 1) := by decide +kernel
theorem dX12_isPlace_16 : decode cX12_isPlace 16 = .ok (.ldc2_w 96, 3) := by decide +kernel
theorem dX12_isPlace_19 : decode cX12_isPlace 19 = .ok (.ldc2_w 98, 3) := by decide +kernel
theorem dX12_isPlace_22 : decode cX12_isPlace 22 = .ok (.invokestatic 69, 3) := by decide +kernel
theorem dX12_isPlace_25 : decode cX12_isPlace 25 = .ok (.ifCond .eq 19, 3) := by decide +kernel
theorem dX12_isPlace_28 : decode cX12_isPlace 28 = .ok (.iload_n 2, 1) := by decide +kernel
theorem dX12_isPlace_29 : decode cX12_isPlace 29 = .ok (.i2l, 1) := by decide +kernel
theorem dX12_isPlace_30 : decode cX12_isPlace 30 = .ok (.lconst 1, 1) := by decide +kernel
theorem dX12_isPlace_31 : decode cX12_isPlace 31 = .ok (.ldc2_w 100, 3) := by decide +kernel
theorem dX12_isPlace_34 : decode cX12_isPlace 34 = .ok (.invokestatic 69, 3) := by decide +kernel
theorem dX12_isPlace_37 : decode cX12_isPlace 37 = .ok (.ifCond .eq 7, 3) := by decide +kernel
theorem dX12_isPlace_40 : decode cX12_isPlace 40 = .ok (.iconst 1, 1) := by decide +kernel
theorem dX12_isPlace_41 : decode cX12_isPlace 41 = .ok (.goto 4, 3) := by decide +kernel
theorem dX12_isPlace_44 : decode cX12_isPlace 44 = .ok (.iconst 0, 1) := by decide +kernel
theorem dX12_isPlace_45 : decode cX12_isPlace 45 = .ok (.ireturn, 1) := by decide +kernel
theorem dX12_isThing_0 : decode cX12_isThing 0 = .ok (.iload_n 1, 1) := by decide +kernel
theorem dX12_isThing_1 : decode cX12_isThing 1 = .ok (.i2l, 1) := by decide +kernel
theorem dX12_isThing_2 : decode cX12_isThing 2 = .ok (.lconst 0, 1) := by decide +kernel
theorem dX12_isThing_3 : decode cX12_isThing 3 = .ok (.aload_n 0, 1) := by decide +kernel
theorem dX12_isThing_4 : decode cX12_isThing 4 = .ok (.getfield 102, 3) := by decide +kernel
theorem dX12_isThing_7 : decode cX12_isThing 7 = .ok (.iconst 1, 1) := by decide +kernel
theorem dX12_isThing_8 : decode cX12_isThing 8 = .ok (.isub, 1) := by decide +kernel
theorem dX12_isThing_9 : decode cX12_isThing 9 = .ok (.i2l, 1) := by decide +kernel
theorem dX12_isThing_10 : decode cX12_isThing 10 = .ok (.invokestatic 69, 3) := by decide +kernel
theorem dX12_isThing_13 : decode cX12_isThing 13 = .ok (.ireturn, 1) := by decide +kernel
theorem dX12_thing_0 : decode cX12_thing 0 = .ok (.aload_n 0, 1) := by decide +kernel
theorem dX12_thing_1 : decode cX12_thing 1 = .ok (.iconst 0, 1) := by decide +kernel
theorem dX12_thing_2 : decode cX12_thing 2 = .ok (.putfield 59, 3) := by decide +kernel
theorem dX12_thing_5 : decode cX12_thing 5 = .ok (.iload_n 1, 1) := by decide +kernel
theorem dX12_thing_6 : decode cX12_thing 6 = .ok (.iload_n 2, 1) := by decide +kernel
theorem dX12_thing_7 : decode cX12_thing 7 = .ok (.iload_n 3, 1) := by decide +kernel
theorem dX12_thing_8 : decode cX12_thing 8 = .ok (.invokestatic 105, 3) := by decide +kernel
theorem dX12_thing_11 : decode cX12_thing 11 = .ok (.ifCond .ne 6, 3) := by decide +kernel
theorem dX12_thing_14 : decode cX12_thing 14 = .ok (.ldc 79, 2) := by decide +kernel
theorem dX12_thing_16 : decode cX12_thing 16 = .ok (.ireturn, 1) := by decide +kernel
theorem dX12_thing_17 : decode cX12_thing 17 = .ok (.aload_n 0, 1) := by decide +kernel
theorem dX12_thing_18 : decode cX12_thing 18 = .ok (.getfield 102, 3) := by decide +kernel
theorem dX12_thing_21 : decode cX12_thing 21 = .ok (.bipush 24, 2) := by decide +kernel
theorem dX12_thing_23 : decode cX12_thing 23 = .ok (.if_icmp .ne 6, 3) := by decide +kernel
theorem dX12_thing_26 : decode cX12_thing 26 = .ok (.ldc 109, 2) := by decide +kernel
theorem dX12_thing_28 : decode cX12_thing 28 = .ok (.ireturn, 1) := by decide +kernel
theorem dX12_thing_29 : decode cX12_thing 29 = .ok (.aload_n 0, 1) := by decide +kernel
theorem dX12_thing_30 : decode cX12_thing 30 = .ok (.getfield 25, 3) := by decide +kernel
theorem dX12_thing_33 : decode cX12_thing 33 = .ok (.aload_n 0, 1) := by decide +kernel
theorem dX12_thing_34 : decode cX12_thing 34 = .ok (.getfield 102, 3) := by decide +kernel
theorem dX12_thing_37 : decode cX12_thing 37 = .ok (.iload_n 1, 1) := by decide +kernel
theorem dX12_thing_38 : decode cX12_thing 38 = .ok (.iastore, 1) := by decide +kernel
theorem dX12_thing_39 : decode cX12_thing 39 = .ok (.aload_n 0, 1) := by decide +kernel
theorem dX12_thing_40 : decode cX12_thing 40 = .ok (.getfield 28, 3) := by decide +kernel
theorem dX12_thing_43 : decode cX12_thing 43 = .ok (.aload_n 0, 1) := by decide +kernel
theorem dX12_thing_44 : decode cX12_thing 44 = .ok (.getfield 102, 3) := by decide +kernel
theorem dX12_thing_47 : decode cX12_thing 47 = .ok (.iload_n 2, 1) := by decide +kernel
theorem dX12_thing_48 : decode cX12_thing 48 = .ok (.iastore, 1) := by decide +kernel
theorem dX12_thing_49 : decode cX12_thing 49 = .ok (.aload_n 0, 1) := by decide +kernel
theorem dX12_thing_50 : decode cX12_thing 50 = .ok (.getfield 31, 3) := by decide +kernel
theorem dX12_thing_53 : decode cX12_thing 53 = .ok (.aload_n 0, 1) := by decide +kernel
theorem dX12_thing_54 : decode cX12_thing 54 = .ok (.getfield 102, 3) := by decide +kernel
theorem dX12_thing_57 : decode cX12_thing 57 = .ok (.iload_n 3, 1) := by decide +kernel
theorem dX12_thing_58 : decode cX12_thing 58 = .ok (.iastore, 1) := by decide +kernel
theorem dX12_thing_59 : decode cX12_thing 59 = .ok (.aload_n 0, 1) := by decide +kernel
theorem dX12_thing_60 : decode cX12_thing 60 = .ok (.dup, 1) := by decide +kernel
theorem dX12_thing_61 : decode cX12_thing 61 = .ok (.getfield 102, 3) := by decide +kernel
theorem dX12_thing_64 : decode cX12_thing 64 = .ok (.iconst 1, 1) := by decide +kernel
theorem dX12_thing_65 : decode cX12_thing 65 = .ok (.iadd, 1) := by decide +kernel
theorem dX12_thing_66 : decode cX12_thing 66 = .ok (.putfield 102, 3) := by decide +kernel
theorem dX12_thing_69 : decode cX12_thing 69 = .ok (.aload_n 0, 1) := by decide +kernel
theorem dX12_thing_70 : decode cX12_thing 70 = .ok (.getfield 102, 3) := by decide +kernel
theorem dX12_thing_73 : decode cX12_thing 73 = .ok (.iconst 1, 1) := by decide +kernel
theorem dX12_thing_74 : decode cX12_thing 74 = .ok (.isub, 1) := by decide +kernel
theorem dX12_thing_75 : decode cX12_thing 75 = .ok (.ireturn, 1) := by decide +kernel
theorem dX12_move_0 : decode cX12_move 0 = .ok (.aload_n 0, 1) := by decide +kernel
theorem dX12_move_1 : decode cX12_move 1 = .ok (.iconst 0, 1) := by decide +kernel
theorem dX12_move_2 : decode cX12_move 2 = .ok (.putfield 59, 3) := by decide +kernel
theorem dX12_move_5 : decode cX12_move 5 = .ok (.aload_n 0, 1) := by decide +kernel
theorem dX12_move_6 : decode cX12_move 6 = .ok (.iload_n 1, 1) := by decide +kernel
theorem dX12_move_7 : decode cX12_move 7 = .ok (.invokevirtual 110, 3) := by decide +kernel
theorem dX12_move_10 : decode cX12_move 10 = .ok (.ifCond .eq 13, 3) := by decide +kernel
theorem dX12_move_13 : decode cX12_move 13 = .ok (.iload_n 2, 1) := by decide +kernel
theorem dX12_move_14 : decode cX12_move 14 = .ok (.iload_n 3, 1) := by decide +kernel
theorem dX12_move_15 : decode cX12_move 15 = .ok (.iload 4, 2) := by decide +kernel
theorem dX12_move_17 : decode cX12_move 17 = .ok (.invokestatic 105, 3) := by decide +kernel
theorem dX12_move_20 : decode cX12_move 20 = .ok (.ifCond .ne 6, 3) := by decide +kernel
theorem dX12_move_23 : decode cX12_move 23 = .ok (.ldc 79, 2) := by decide +kernel
theorem dX12_move_25 : decode cX12_move 25 = .ok (.ireturn, 1) := by decide +kernel
theorem dX12_move_26 : decode cX12_move 26 = .ok (.aload_n 0, 1) := by decide +kernel
theorem dX12_move_27 : decode cX12_move 27 = .ok (.getfield 25, 3) := by decide +kernel
theorem dX12_move_30 : decode cX12_move 30 = .ok (.iload_n 1, 1) := by decide +kernel
theorem dX12_move_31 : decode cX12_move 31 = .ok (.iload_n 2, 1) := by decide +kernel
theorem dX12_move_32 : decode cX12_move 32 = .ok (.iastore, 1) := by decide +kernel
theorem dX12_move_33 : decode cX12_move 33 = .ok (.aload_n 0, 1) := by decide +kernel
theorem dX12_move_34 : decode cX12_move 34 = .ok (.getfield 28, 3) := by decide +kernel
theorem dX12_move_37 : decode cX12_move 37 = .ok (.iload_n 1, 1) := by decide +kernel
theorem dX12_move_38 : decode cX12_move 38 = .ok (.iload_n 3, 1) := by decide +kernel
theorem dX12_move_39 : decode cX12_move 39 = .ok (.iastore, 1) := by decide +kernel
theorem dX12_move_40 : decode cX12_move 40 = .ok (.aload_n 0, 1) := by decide +kernel
theorem dX12_move_41 : decode cX12_move 41 = .ok (.getfield 31, 3) := by decide +kernel
theorem dX12_move_44 : decode cX12_move 44 = .ok (.iload_n 1, 1) := by decide +kernel
theorem dX12_move_45 : decode cX12_move 45 = .ok (.iload 4, 2) := by decide +kernel
theorem dX12_move_47 : decode cX12_move 47 = .ok (.iastore, 1) := by decide +kernel
theorem dX12_move_48 : decode cX12_move 48 = .ok (.iconst 1, 1) := by decide +kernel
theorem dX12_move_49 : decode cX12_move 49 = .ok (.ireturn, 1) := by decide +kernel
theorem dX12_firstOf_0 : decode cX12_firstOf 0 = .ok (.aload_n 0, 1) := by decide +kernel
theorem dX12_firstOf_1 : decode cX12_firstOf 1 = .ok (.getfield 25, 3) := by decide +kernel
theorem dX12_firstOf_4 : decode cX12_firstOf 4 = .ok (.iload_n 1, 1) := by decide +kernel
theorem dX12_firstOf_5 : decode cX12_firstOf 5 = .ok (.iaload, 1) := by decide +kernel
theorem dX12_firstOf_6 : decode cX12_firstOf 6 = .ok (.ineg, 1) := by decide +kernel
theorem dX12_firstOf_7 : decode cX12_firstOf 7 = .ok (.iload_n 2, 1) := by decide +kernel
theorem dX12_firstOf_8 : decode cX12_firstOf 8 = .ok (.imul, 1) := by decide +kernel
theorem dX12_firstOf_9 : decode cX12_firstOf 9 = .ok (.aload_n 0, 1) := by decide +kernel
theorem dX12_firstOf_10 : decode cX12_firstOf 10 = .ok (.getfield 31, 3) := by decide +kernel
theorem dX12_firstOf_13 : decode cX12_firstOf 13 = .ok (.iload_n 1, 1) := by decide +kernel
theorem dX12_firstOf_14 : decode cX12_firstOf 14 = .ok (.iaload, 1) := by decide +kernel
theorem dX12_firstOf_15 : decode cX12_firstOf 15 = .ok (.idiv, 1) := by decide +kernel
theorem dX12_firstOf_16 : decode cX12_firstOf 16 = .ok (.ireturn, 1) := by decide +kernel
theorem dX12_columnOf_0 : decode cX12_columnOf 0 = .ok (.aload_n 0, 1) := by decide +kernel
theorem dX12_columnOf_1 : decode cX12_columnOf 1 = .ok (.iload_n 1, 1) := by decide +kernel
theorem dX12_columnOf_2 : decode cX12_columnOf 2 = .ok (.iload_n 2, 1) := by decide +kernel
theorem dX12_columnOf_3 : decode cX12_columnOf 3 = .ok (.invokevirtual 113, 3) := by decide +kernel
theorem dX12_columnOf_6 : decode cX12_columnOf 6 = .ok (.bipush 10, 2) := by decide +kernel
theorem dX12_columnOf_8 : decode cX12_columnOf 8 = .ok (.iadd, 1) := by decide +kernel
theorem dX12_columnOf_9 : decode cX12_columnOf 9 = .ok (.istore_n 3, 1) := by decide +kernel
theorem dX12_columnOf_10 : decode cX12_columnOf 10 = .ok (.iload_n 3, 1) := by decide +kernel
theorem dX12_columnOf_11 : decode cX12_columnOf 11 = .ok (.ifCond .ge 14, 3) := by decide +kernel
theorem dX12_columnOf_14 : decode cX12_columnOf 14 = .ok (.bipush 19, 2) := by decide +kernel
theorem dX12_columnOf_16 : decode cX12_columnOf 16 = .ok (.iload_n 3, 1) := by decide +kernel
theorem dX12_columnOf_17 : decode cX12_columnOf 17 = .ok (.isub, 1) := by decide +kernel
theorem dX12_columnOf_18 : decode cX12_columnOf 18 = .ok (.bipush 20, 2) := by decide +kernel
theorem dX12_columnOf_20 : decode cX12_columnOf 20 = .ok (.idiv, 1) := by decide +kernel
theorem dX12_columnOf_21 : decode cX12_columnOf 21 = .ok (.ineg, 1) := by decide +kernel
theorem dX12_columnOf_22 : decode cX12_columnOf 22 = .ok (.goto 7, 3) := by decide +kernel
theorem dX12_columnOf_25 : decode cX12_columnOf 25 = .ok (.iload_n 3, 1) := by decide +kernel
theorem dX12_columnOf_26 : decode cX12_columnOf 26 = .ok (.bipush 20, 2) := by decide +kernel
theorem dX12_columnOf_28 : decode cX12_columnOf 28 = .ok (.idiv, 1) := by decide +kernel
theorem dX12_columnOf_29 : decode cX12_columnOf 29 = .ok (.istore 4, 2) := by decide +kernel
theorem dX12_columnOf_31 : decode cX12_columnOf 31 = .ok (.iload 4, 2) := by decide +kernel
theorem dX12_columnOf_33 : decode cX12_columnOf 33 = .ok (.bipush (-8), 2) := by decide +kernel
theorem dX12_columnOf_35 : decode cX12_columnOf 35 = .ok (.if_icmp .ge 8, 3) := by decide +kernel
theorem dX12_columnOf_38 : decode cX12_columnOf 38 = .ok (.bipush (-8), 2) := by decide +kernel
theorem dX12_columnOf_40 : decode cX12_columnOf 40 = .ok (.goto 17, 3) := by decide +kernel
theorem dX12_columnOf_43 : decode cX12_columnOf 43 = .ok (.iload 4, 2) := by decide +kernel
theorem dX12_columnOf_45 : decode cX12_columnOf 45 = .ok (.bipush 8, 2) := by decide +kernel
theorem dX12_columnOf_47 : decode cX12_columnOf 47 = .ok (.if_icmp .le 8, 3) := by decide +kernel
theorem dX12_columnOf_50 : decode cX12_columnOf 50 = .ok (.bipush 8, 2) := by decide +kernel
theorem dX12_columnOf_52 : decode cX12_columnOf 52 = .ok (.goto 5, 3) := by decide +kernel
theorem dX12_columnOf_55 : decode cX12_columnOf 55 = .ok (.iload 4, 2) := by decide +kernel
theorem dX12_columnOf_57 : decode cX12_columnOf 57 = .ok (.ireturn, 1) := by decide +kernel
theorem dX12_farBy_0 : decode cX12_farBy 0 = .ok (.iload_n 2, 1) := by decide +kernel
theorem dX12_farBy_1 : decode cX12_farBy 1 = .ok (.aload_n 0, 1) := by decide +kernel
theorem dX12_farBy_2 : decode cX12_farBy 2 = .ok (.getfield 22, 3) := by decide +kernel
theorem dX12_farBy_5 : decode cX12_farBy 5 = .ok (.aload_n 0, 1) := by decide +kernel
theorem dX12_farBy_6 : decode cX12_farBy 6 = .ok (.iload_n 1, 1) := by decide +kernel
theorem dX12_farBy_7 : decode cX12_farBy 7 = .ok (.iload_n 2, 1) := by decide +kernel
theorem dX12_farBy_8 : decode cX12_farBy 8 = .ok (.invokevirtual 117, 3) := by decide +kernel
theorem dX12_farBy_11 : decode cX12_farBy 11 = .ok (.bipush 8, 2) := by decide +kernel
theorem dX12_farBy_13 : decode cX12_farBy 13 = .ok (.iadd, 1) := by decide +kernel
theorem dX12_farBy_14 : decode cX12_farBy 14 = .ok (.iaload, 1) := by decide +kernel
theorem dX12_farBy_15 : decode cX12_farBy 15 = .ok (.iadd, 1) := by decide +kernel
theorem dX12_farBy_16 : decode cX12_farBy 16 = .ok (.istore_n 3, 1) := by decide +kernel
theorem dX12_farBy_17 : decode cX12_farBy 17 = .ok (.iload_n 3, 1) := by decide +kernel
theorem dX12_farBy_18 : decode cX12_farBy 18 = .ok (.iconst 1, 1) := by decide +kernel
theorem dX12_farBy_19 : decode cX12_farBy 19 = .ok (.if_icmp .ge 7, 3) := by decide +kernel
theorem dX12_farBy_22 : decode cX12_farBy 22 = .ok (.iconst 1, 1) := by decide +kernel
theorem dX12_farBy_23 : decode cX12_farBy 23 = .ok (.goto 4, 3) := by decide +kernel
theorem dX12_farBy_26 : decode cX12_farBy 26 = .ok (.iload_n 3, 1) := by decide +kernel
theorem dX12_farBy_27 : decode cX12_farBy 27 = .ok (.ireturn, 1) := by decide +kernel
theorem dX12_acrossOf_0 : decode cX12_acrossOf 0 = .ok (.aload_n 0, 1) := by decide +kernel
theorem dX12_acrossOf_1 : decode cX12_acrossOf 1 = .ok (.getfield 25, 3) := by decide +kernel
theorem dX12_acrossOf_4 : decode cX12_acrossOf 4 = .ok (.iload_n 1, 1) := by decide +kernel
theorem dX12_acrossOf_5 : decode cX12_acrossOf 5 = .ok (.iaload, 1) := by decide +kernel
theorem dX12_acrossOf_6 : decode cX12_acrossOf 6 = .ok (.ineg, 1) := by decide +kernel
theorem dX12_acrossOf_7 : decode cX12_acrossOf 7 = .ok (.aload_n 0, 1) := by decide +kernel
theorem dX12_acrossOf_8 : decode cX12_acrossOf 8 = .ok (.iload_n 1, 1) := by decide +kernel
theorem dX12_acrossOf_9 : decode cX12_acrossOf 9 = .ok (.aload_n 0, 1) := by decide +kernel
theorem dX12_acrossOf_10 : decode cX12_acrossOf 10 = .ok (.getfield 19, 3) := by decide +kernel
theorem dX12_acrossOf_13 : decode cX12_acrossOf 13 = .ok (.iconst 2, 1) := by decide +kernel
theorem dX12_acrossOf_14 : decode cX12_acrossOf 14 = .ok (.iaload, 1) := by decide +kernel
theorem dX12_acrossOf_15 : decode cX12_acrossOf 15 = .ok (.invokevirtual 120, 3) := by decide +kernel
theorem dX12_acrossOf_18 : decode cX12_acrossOf 18 = .ok (.imul, 1) := by decide +kernel
theorem dX12_acrossOf_19 : decode cX12_acrossOf 19 = .ok (.aload_n 0, 1) := by decide +kernel
theorem dX12_acrossOf_20 : decode cX12_acrossOf 20 = .ok (.getfield 31, 3) := by decide +kernel
theorem dX12_acrossOf_23 : decode cX12_acrossOf 23 = .ok (.iload_n 1, 1) := by decide +kernel
theorem dX12_acrossOf_24 : decode cX12_acrossOf 24 = .ok (.iaload, 1) := by decide +kernel
theorem dX12_acrossOf_25 : decode cX12_acrossOf 25 = .ok (.idiv, 1) := by decide +kernel
theorem dX12_acrossOf_26 : decode cX12_acrossOf 26 = .ok (.ireturn, 1) := by decide +kernel
theorem dX12_downOf_0 : decode cX12_downOf 0 = .ok (.aload_n 0, 1) := by decide +kernel
theorem dX12_downOf_1 : decode cX12_downOf 1 = .ok (.getfield 28, 3) := by decide +kernel
theorem dX12_downOf_4 : decode cX12_downOf 4 = .ok (.iload_n 1, 1) := by decide +kernel
theorem dX12_downOf_5 : decode cX12_downOf 5 = .ok (.iaload, 1) := by decide +kernel
theorem dX12_downOf_6 : decode cX12_downOf 6 = .ok (.aload_n 0, 1) := by decide +kernel
theorem dX12_downOf_7 : decode cX12_downOf 7 = .ok (.iload_n 1, 1) := by decide +kernel
theorem dX12_downOf_8 : decode cX12_downOf 8 = .ok (.aload_n 0, 1) := by decide +kernel
theorem dX12_downOf_9 : decode cX12_downOf 9 = .ok (.getfield 19, 3) := by decide +kernel
theorem dX12_downOf_12 : decode cX12_downOf 12 = .ok (.iconst 2, 1) := by decide +kernel
theorem dX12_downOf_13 : decode cX12_downOf 13 = .ok (.iaload, 1) := by decide +kernel
theorem dX12_downOf_14 : decode cX12_downOf 14 = .ok (.invokevirtual 120, 3) := by decide +kernel
theorem dX12_downOf_17 : decode cX12_downOf 17 = .ok (.imul, 1) := by decide +kernel
theorem dX12_downOf_18 : decode cX12_downOf 18 = .ok (.aload_n 0, 1) := by decide +kernel
theorem dX12_downOf_19 : decode cX12_downOf 19 = .ok (.getfield 31, 3) := by decide +kernel
theorem dX12_downOf_22 : decode cX12_downOf 22 = .ok (.iload_n 1, 1) := by decide +kernel
theorem dX12_downOf_23 : decode cX12_downOf 23 = .ok (.iaload, 1) := by decide +kernel
