theorem dX11_init_0 : decode cX11_init 0 = .ok (.aload_n 0, 1) := by decide +kernel
theorem dX11_init_1 : decode cX11_init 1 = .ok (.invokespecial 1, 3) := by decide +kernel
theorem dX11_init_4 : decode cX11_init 4 = .ok (.aload_n 0, 1) := by decide +kernel
theorem dX11_init_5 : decode cX11_init 5 = .ok (.bipush 8, 2) := by decide +kernel
theorem dX11_init_7 : decode cX11_init 7 = .ok (.anewarray 9, 3) := by decide +kernel
theorem dX11_init_10 : decode cX11_init 10 = .ok (.putfield 11, 3) := by decide +kernel
theorem dX11_init_13 : decode cX11_init 13 = .ok (.aload_n 0, 1) := by decide +kernel
theorem dX11_init_14 : decode cX11_init 14 = .ok (.new 15, 3) := by decide +kernel
theorem dX11_init_17 : decode cX11_init 17 = .ok (.dup, 1) := by decide +kernel
theorem dX11_init_18 : decode cX11_init 18 = .ok (.invokespecial 17, 3) := by decide +kernel
theorem dX11_init_21 : decode cX11_init 21 = .ok (.putfield 18, 3) := by decide +kernel
theorem dX11_init_24 : decode cX11_init 24 = .ok (.aload_n 0, 1) := by decide +kernel
theorem dX11_init_25 : decode cX11_init 25 = .ok (.bipush 24, 2) := by decide +kernel
theorem dX11_init_27 : decode cX11_init 27 = .ok (.anewarray 22, 3) := by decide +kernel
theorem dX11_init_30 : decode cX11_init 30 = .ok (.putfield 24, 3) := by decide +kernel
theorem dX11_init_33 : decode cX11_init 33 = .ok (.aload_n 0, 1) := by decide +kernel
theorem dX11_init_34 : decode cX11_init 34 = .ok (.iconst 0, 1) := by decide +kernel
theorem dX11_init_35 : decode cX11_init 35 = .ok (.putfield 28, 3) := by decide +kernel
theorem dX11_init_38 : decode cX11_init 38 = .ok (.aload_n 0, 1) := by decide +kernel
theorem dX11_init_39 : decode cX11_init 39 = .ok (.new 32, 3) := by decide +kernel
theorem dX11_init_42 : decode cX11_init 42 = .ok (.dup, 1) := by decide +kernel
theorem dX11_init_43 : decode cX11_init 43 = .ok (.invokespecial 34, 3) := by decide +kernel
theorem dX11_init_46 : decode cX11_init 46 = .ok (.putfield 35, 3) := by decide +kernel
theorem dX11_init_49 : decode cX11_init 49 = .ok (.aload_n 0, 1) := by decide +kernel
theorem dX11_init_50 : decode cX11_init 50 = .ok (.bipush 8, 2) := by decide +kernel
theorem dX11_init_52 : decode cX11_init 52 = .ok (.anewarray 39, 3) := by decide +kernel
theorem dX11_init_55 : decode cX11_init 55 = .ok (.putfield 41, 3) := by decide +kernel
theorem dX11_init_58 : decode cX11_init 58 = .ok (.aload_n 0, 1) := by decide +kernel
theorem dX11_init_59 : decode cX11_init 59 = .ok (.new 45, 3) := by decide +kernel
theorem dX11_init_62 : decode cX11_init 62 = .ok (.dup, 1) := by decide +kernel
theorem dX11_init_63 : decode cX11_init 63 = .ok (.invokespecial 47, 3) := by decide +kernel
theorem dX11_init_66 : decode cX11_init 66 = .ok (.putfield 48, 3) := by decide +kernel
theorem dX11_init_69 : decode cX11_init 69 = .ok (.aload_n 0, 1) := by decide +kernel
theorem dX11_init_70 : decode cX11_init 70 = .ok (.new 52, 3) := by decide +kernel
theorem dX11_init_73 : decode cX11_init 73 = .ok (.dup, 1) := by decide +kernel
theorem dX11_init_74 : decode cX11_init 74 = .ok (.invokespecial 54, 3) := by decide +kernel
theorem dX11_init_77 : decode cX11_init 77 = .ok (.putfield 55, 3) := by decide +kernel
theorem dX11_init_80 : decode cX11_init 80 = .ok (.aload_n 0, 1) := by decide +kernel
theorem dX11_init_81 : decode cX11_init 81 = .ok (.iconst 2, 1) := by decide +kernel
theorem dX11_init_82 : decode cX11_init 82 = .ok (.anewarray 59, 3) := by decide +kernel
theorem dX11_init_85 : decode cX11_init 85 = .ok (.putfield 61, 3) := by decide +kernel
theorem dX11_init_88 : decode cX11_init 88 = .ok (.aload_n 0, 1) := by decide +kernel
theorem dX11_init_89 : decode cX11_init 89 = .ok (.new 65, 3) := by decide +kernel
theorem dX11_init_92 : decode cX11_init 92 = .ok (.dup, 1) := by decide +kernel
theorem dX11_init_93 : decode cX11_init 93 = .ok (.invokespecial 67, 3) := by decide +kernel
theorem dX11_init_96 : decode cX11_init 96 = .ok (.putfield 68, 3) := by decide +kernel
theorem dX11_init_99 : decode cX11_init 99 = .ok (.aload_n 0, 1) := by decide +kernel
theorem dX11_init_100 : decode cX11_init 100 = .ok (.new 59, 3) := by decide +kernel
theorem dX11_init_103 : decode cX11_init 103 = .ok (.dup, 1) := by decide +kernel
theorem dX11_init_104 : decode cX11_init 104 = .ok (.invokespecial 72, 3) := by decide +kernel
theorem dX11_init_107 : decode cX11_init 107 = .ok (.putfield 73, 3) := by decide +kernel
theorem dX11_init_110 : decode cX11_init 110 = .ok (.aload_n 0, 1) := by decide +kernel
theorem dX11_init_111 : decode cX11_init 111 = .ok (.new 77, 3) := by decide +kernel
theorem dX11_init_114 : decode cX11_init 114 = .ok (.dup, 1) := by decide +kernel
theorem dX11_init_115 : decode cX11_init 115 = .ok (.invokespecial 79, 3) := by decide +kernel
theorem dX11_init_118 : decode cX11_init 118 = .ok (.putfield 80, 3) := by decide +kernel
theorem dX11_init_121 : decode cX11_init 121 = .ok (.aload_n 0, 1) := by decide +kernel
theorem dX11_init_122 : decode cX11_init 122 = .ok (.iconst 0, 1) := by decide +kernel
theorem dX11_init_123 : decode cX11_init 123 = .ok (.putfield 84, 3) := by decide +kernel
theorem dX11_init_126 : decode cX11_init 126 = .ok (.iconst 0, 1) := by decide +kernel
theorem dX11_init_127 : decode cX11_init 127 = .ok (.istore_n 1, 1) := by decide +kernel
theorem dX11_init_128 : decode cX11_init 128 = .ok (.iload_n 1, 1) := by decide +kernel
theorem dX11_init_129 : decode cX11_init 129 = .ok (.bipush 8, 2) := by decide +kernel
theorem dX11_init_131 : decode cX11_init 131 = .ok (.if_icmp .ge 22, 3) := by decide +kernel
theorem dX11_init_134 : decode cX11_init 134 = .ok (.aload_n 0, 1) := by decide +kernel
theorem dX11_init_135 : decode cX11_init 135 = .ok (.getfield 11, 3) := by decide +kernel
theorem dX11_init_138 : decode cX11_init 138 = .ok (.iload_n 1, 1) := by decide +kernel
theorem dX11_init_139 : decode cX11_init 139 = .ok (.new 9, 3) := by decide +kernel
theorem dX11_init_142 : decode cX11_init 142 = .ok (.dup, 1) := by decide +kernel
theorem dX11_init_143 : decode cX11_init 143 = .ok (.invokespecial 87, 3) := by decide +kernel
theorem dX11_init_146 : decode cX11_init 146 = .ok (.aastore, 1) := by decide +kernel
theorem dX11_init_147 : decode cX11_init 147 = .ok (.iinc 1 1, 3) := by decide +kernel
theorem dX11_init_150 : decode cX11_init 150 = .ok (.goto (-22), 3) := by decide +kernel
theorem dX11_init_153 : decode cX11_init 153 = .ok (.iconst 0, 1) := by decide +kernel
theorem dX11_init_154 : decode cX11_init 154 = .ok (.istore_n 1, 1) := by decide +kernel
theorem dX11_init_155 : decode cX11_init 155 = .ok (.iload_n 1, 1) := by decide +kernel
theorem dX11_init_156 : decode cX11_init 156 = .ok (.bipush 24, 2) := by decide +kernel
theorem dX11_init_158 : decode cX11_init 158 = .ok (.if_icmp .ge 22, 3) := by decide +kernel
theorem dX11_init_161 : decode cX11_init 161 = .ok (.aload_n 0, 1) := by decide +kernel
theorem dX11_init_162 : decode cX11_init 162 = .ok (.getfield 24, 3) := by decide +kernel
theorem dX11_init_165 : decode cX11_init 165 = .ok (.iload_n 1, 1) := by decide +kernel
theorem dX11_init_166 : decode cX11_init 166 = .ok (.new 22, 3) := by decide +kernel
theorem dX11_init_169 : decode cX11_init 169 = .ok (.dup, 1) := by decide +kernel
theorem dX11_init_170 : decode cX11_init 170 = .ok (.invokespecial 88, 3) := by decide +kernel
theorem dX11_init_173 : decode cX11_init 173 = .ok (.aastore, 1) := by decide +kernel
theorem dX11_init_174 : decode cX11_init 174 = .ok (.iinc 1 1, 3) := by decide +kernel
theorem dX11_init_177 : decode cX11_init 177 = .ok (.goto (-22), 3) := by decide +kernel
theorem dX11_init_180 : decode cX11_init 180 = .ok (.iconst 0, 1) := by decide +kernel
theorem dX11_init_181 : decode cX11_init 181 = .ok (.istore_n 1, 1) := by decide +kernel
theorem dX11_init_182 : decode cX11_init 182 = .ok (.iload_n 1, 1) := by decide +kernel
theorem dX11_init_183 : decode cX11_init 183 = .ok (.bipush 8, 2) := by decide +kernel
theorem dX11_init_185 : decode cX11_init 185 = .ok (.if_icmp .ge 22, 3) := by decide +kernel
theorem dX11_init_188 : decode cX11_init 188 = .ok (.aload_n 0, 1) := by decide +kernel
theorem dX11_init_189 : decode cX11_init 189 = .ok (.getfield 41, 3) := by decide +kernel
theorem dX11_init_192 : decode cX11_init 192 = .ok (.iload_n 1, 1) := by decide +kernel
theorem dX11_init_193 : decode cX11_init 193 = .ok (.new 39, 3) := by decide +kernel
theorem dX11_init_196 : decode cX11_init 196 = .ok (.dup, 1) := by decide +kernel
theorem dX11_init_197 : decode cX11_init 197 = .ok (.invokespecial 89, 3) := by decide +kernel
theorem dX11_init_200 : decode cX11_init 200 = .ok (.aastore, 1) := by decide +kernel
theorem dX11_init_201 : decode cX11_init 201 = .ok (.iinc 1 1, 3) := by decide +kernel
theorem dX11_init_204 : decode cX11_init 204 = .ok (.goto (-22), 3) := by decide +kernel
theorem dX11_init_207 : decode cX11_init 207 = .ok (.iconst 0, 1) := by decide +kernel
theorem dX11_init_208 : decode cX11_init 208 = .ok (.istore_n 1, 1) := by decide +kernel
theorem dX11_init_209 : decode cX11_init 209 = .ok (.iload_n 1, 1) := by decide +kernel
theorem dX11_init_210 : decode cX11_init 210 = .ok (.iconst 2, 1) := by decide +kernel
theorem dX11_init_211 : decode cX11_init 211 = .ok (.if_icmp .ge 22, 3) := by decide +kernel
theorem dX11_init_214 : decode cX11_init 214 = .ok (.aload_n 0, 1) := by decide +kernel
theorem dX11_init_215 : decode cX11_init 215 = .ok (.getfield 61, 3) := by decide +kernel
theorem dX11_init_218 : decode cX11_init 218 = .ok (.iload_n 1, 1) := by decide +kernel
theorem dX11_init_219 : decode cX11_init 219 = .ok (.new 59, 3) := by decide +kernel
theorem dX11_init_222 : decode cX11_init 222 = .ok (.dup, 1) := by decide +kernel
theorem dX11_init_223 : decode cX11_init 223 = .ok (.invokespecial 72, 3) := by decide +kernel
theorem dX11_init_226 : decode cX11_init 226 = .ok (.aastore, 1) := by decide +kernel
theorem dX11_init_227 : decode cX11_init 227 = .ok (.iinc 1 1, 3) := by decide +kernel
theorem dX11_init_230 : decode cX11_init 230 = .ok (.goto (-21), 3) := by decide +kernel
theorem dX11_init_233 : decode cX11_init 233 = .ok (.return_, 1) := by decide +kernel
theorem dX11_sheet_0 : decode cX11_sheet 0 = .ok (.iload_n 1, 1) := by decide +kernel
theorem dX11_sheet_1 : decode cX11_sheet 1 = .ok (.invokestatic 90, 3) := by decide +kernel
theorem dX11_sheet_4 : decode cX11_sheet 4 = .ok (.ifCond .eq 18, 3) := by decide +kernel
theorem dX11_sheet_7 : decode cX11_sheet 7 = .ok (.iload_n 2, 1) := by decide +kernel
theorem dX11_sheet_8 : decode cX11_sheet 8 = .ok (.iconst 0, 1) := by decide +kernel
theorem dX11_sheet_9 : decode cX11_sheet 9 = .ok (.iconst 2, 1) := by decide +kernel
theorem dX11_sheet_10 : decode cX11_sheet 10 = .ok (.invokestatic 94, 3) := by decide +kernel
theorem dX11_sheet_13 : decode cX11_sheet 13 = .ok (.ifCond .eq 9, 3) := by decide +kernel
theorem dX11_sheet_16 : decode cX11_sheet 16 = .ok (.iload_n 3, 1) := by decide +kernel
theorem dX11_sheet_17 : decode cX11_sheet 17 = .ok (.bipush 80, 2) := by decide +kernel
theorem dX11_sheet_19 : decode cX11_sheet 19 = .ok (.if_icmp .le 6, 3) := by decide +kernel
theorem dX11_sheet_22 : decode cX11_sheet 22 = .ok (.ldc 98, 2) := by decide +kernel
theorem dX11_sheet_24 : decode cX11_sheet 24 = .ok (.ireturn, 1) := by decide +kernel
theorem dX11_sheet_25 : decode cX11_sheet 25 = .ok (.iload_n 3, 1) := by decide +kernel
theorem dX11_sheet_26 : decode cX11_sheet 26 = .ok (.ifCond .ge 9, 3) := by decide +kernel
theorem dX11_sheet_29 : decode cX11_sheet 29 = .ok (.aload_n 0, 1) := by decide +kernel
theorem dX11_sheet_30 : decode cX11_sheet 30 = .ok (.iconst 4, 1) := by decide +kernel
theorem dX11_sheet_31 : decode cX11_sheet 31 = .ok (.invokevirtual 99, 3) := by decide +kernel
theorem dX11_sheet_34 : decode cX11_sheet 34 = .ok (.ireturn, 1) := by decide +kernel
theorem dX11_sheet_35 : decode cX11_sheet 35 = .ok (.aload_n 0, 1) := by decide +kernel
theorem dX11_sheet_36 : decode cX11_sheet 36 = .ok (.getfield 11, 3) := by decide +kernel
theorem dX11_sheet_39 : decode cX11_sheet 39 = .ok (.iload_n 1, 1) := by decide +kernel
theorem dX11_sheet_40 : decode cX11_sheet 40 = .ok (.aaload, 1) := by decide +kernel
theorem dX11_sheet_41 : decode cX11_sheet 41 = .ok (.iload_n 2, 1) := by decide +kernel
theorem dX11_sheet_42 : decode cX11_sheet 42 = .ok (.iload_n 3, 1) := by decide +kernel
theorem dX11_sheet_43 : decode cX11_sheet 43 = .ok (.invokevirtual 103, 3) := by decide +kernel
theorem dX11_sheet_46 : decode cX11_sheet 46 = .ok (.aload_n 0, 1) := by decide +kernel
theorem dX11_sheet_47 : decode cX11_sheet 47 = .ok (.iload_n 3, 1) := by decide +kernel
theorem dX11_sheet_48 : decode cX11_sheet 48 = .ok (.invokevirtual 107, 3) := by decide +kernel
theorem dX11_sheet_51 : decode cX11_sheet 51 = .ok (.ireturn, 1) := by decide +kernel
theorem dX11_set_0 : decode cX11_set 0 = .ok (.iload_n 1, 1) := by decide +kernel
theorem dX11_set_1 : decode cX11_set 1 = .ok (.invokestatic 90, 3) := by decide +kernel
theorem dX11_set_4 : decode cX11_set 4 = .ok (.ifCond .ne 6, 3) := by decide +kernel
theorem dX11_set_7 : decode cX11_set 7 = .ok (.ldc 98, 2) := by decide +kernel
theorem dX11_set_9 : decode cX11_set 9 = .ok (.ireturn, 1) := by decide +kernel
theorem dX11_set_10 : decode cX11_set 10 = .ok (.aload_n 0, 1) := by decide +kernel
theorem dX11_set_11 : decode cX11_set 11 = .ok (.getfield 11, 3) := by decide +kernel
theorem dX11_set_14 : decode cX11_set 14 = .ok (.iload_n 1, 1) := by decide +kernel
theorem dX11_set_15 : decode cX11_set 15 = .ok (.aaload, 1) := by decide +kernel
theorem dX11_set_16 : decode cX11_set 16 = .ok (.astore 4, 2) := by decide +kernel
theorem dX11_set_18 : decode cX11_set 18 = .ok (.aload 4, 2) := by decide +kernel
theorem dX11_set_20 : decode cX11_set 20 = .ok (.invokevirtual 110, 3) := by decide +kernel
theorem dX11_set_23 : decode cX11_set 23 = .ok (.ifCond .eq 9, 3) := by decide +kernel
theorem dX11_set_26 : decode cX11_set 26 = .ok (.aload_n 0, 1) := by decide +kernel
theorem dX11_set_27 : decode cX11_set 27 = .ok (.iconst 1, 1) := by decide +kernel
theorem dX11_set_28 : decode cX11_set 28 = .ok (.invokevirtual 99, 3) := by decide +kernel
theorem dX11_set_31 : decode cX11_set 31 = .ok (.ireturn, 1) := by decide +kernel
theorem dX11_set_32 : decode cX11_set 32 = .ok (.aload 4, 2) := by decide +kernel
theorem dX11_set_34 : decode cX11_set 34 = .ok (.iload_n 2, 1) := by decide +kernel
theorem dX11_set_35 : decode cX11_set 35 = .ok (.iconst 1, 1) := by decide +kernel
theorem dX11_set_36 : decode cX11_set 36 = .ok (.invokevirtual 114, 3) := by decide +kernel
theorem dX11_set_39 : decode cX11_set 39 = .ok (.ifCond .ne 9, 3) := by decide +kernel
theorem dX11_set_42 : decode cX11_set 42 = .ok (.aload_n 0, 1) := by decide +kernel
theorem dX11_set_43 : decode cX11_set 43 = .ok (.iconst 2, 1) := by decide +kernel
theorem dX11_set_44 : decode cX11_set 44 = .ok (.invokevirtual 99, 3) := by decide +kernel
theorem dX11_set_47 : decode cX11_set 47 = .ok (.ireturn, 1) := by decide +kernel
theorem dX11_set_48 : decode cX11_set 48 = .ok (.aload_n 0, 1) := by decide +kernel
theorem dX11_set_49 : decode cX11_set 49 = .ok (.aload 4, 2) := by decide +kernel
theorem dX11_set_51 : decode cX11_set 51 = .ok (.iload_n 2, 1) := by decide +kernel
theorem dX11_set_52 : decode cX11_set 52 = .ok (.iload_n 3, 1) := by decide +kernel
theorem dX11_set_53 : decode cX11_set 53 = .ok (.invokevirtual 118, 3) := by decide +kernel
theorem dX11_set_56 : decode cX11_set 56 = .ok (.invokevirtual 107, 3) := by decide +kernel
theorem dX11_set_59 : decode cX11_set 59 = .ok (.ireturn, 1) := by decide +kernel
theorem dX11_copy_0 : decode cX11_copy 0 = .ok (.iload_n 1, 1) := by decide +kernel
theorem dX11_copy_1 : decode cX11_copy 1 = .ok (.invokestatic 90, 3) := by decide +kernel
theorem dX11_copy_4 : decode cX11_copy 4 = .ok (.ifCond .eq 10, 3) := by decide +kernel
theorem dX11_copy_7 : decode cX11_copy 7 = .ok (.iload_n 3, 1) := by decide +kernel
theorem dX11_copy_8 : decode cX11_copy 8 = .ok (.invokestatic 90, 3) := by decide +kernel
theorem dX11_copy_11 : decode cX11_copy 11 = .ok (.ifCond .ne 6, 3) := by decide +kernel
theorem dX11_copy_14 : decode cX11_copy 14 = .ok (.ldc 98, 2) := by decide +kernel
theorem dX11_copy_16 : decode cX11_copy 16 = .ok (.ireturn, 1) := by decide +kernel
theorem dX11_copy_17 : decode cX11_copy 17 = .ok (.aload_n 0, 1) := by decide +kernel
theorem dX11_copy_18 : decode cX11_copy 18 = .ok (.getfield 11, 3) := by decide +kernel
theorem dX11_copy_21 : decode cX11_copy 21 = .ok (.iload_n 1, 1) := by decide +kernel
theorem dX11_copy_22 : decode cX11_copy 22 = .ok (.aaload, 1) := by decide +kernel
theorem dX11_copy_23 : decode cX11_copy 23 = .ok (.astore 6, 2) := by decide +kernel
theorem dX11_copy_25 : decode cX11_copy 25 = .ok (.aload_n 0, 1) := by decide +kernel
theorem dX11_copy_26 : decode cX11_copy 26 = .ok (.getfield 11, 3) := by decide +kernel
theorem dX11_copy_29 : decode cX11_copy 29 = .ok (.iload_n 3, 1) := by decide +kernel
theorem dX11_copy_30 : decode cX11_copy 30 = .ok (.aaload, 1) := by decide +kernel
theorem dX11_copy_31 : decode cX11_copy 31 = .ok (.astore 7, 2) := by decide +kernel
theorem dX11_copy_33 : decode cX11_copy 33 = .ok (.aload 6, 2) := by decide +kernel
theorem dX11_copy_35 : decode cX11_copy 35 = .ok (.invokevirtual 110, 3) := by decide +kernel
theorem dX11_copy_38 : decode cX11_copy 38 = .ok (.ifCond .ne 11, 3) := by decide +kernel
theorem dX11_copy_41 : decode cX11_copy 41 = .ok (.aload 7, 2) := by decide +kernel
theorem dX11_copy_43 : decode cX11_copy 43 = .ok (.invokevirtual 110, 3) := by decide +kernel
theorem dX11_copy_46 : decode cX11_copy 46 = .ok (.ifCond .eq 9, 3) := by decide +kernel
theorem dX11_copy_49 : decode cX11_copy 49 = .ok (.aload_n 0, 1) := by decide +kernel
theorem dX11_copy_50 : decode cX11_copy 50 = .ok (.iconst 1, 1) := by decide +kernel
theorem dX11_copy_51 : decode cX11_copy 51 = .ok (.invokevirtual 99, 3) := by decide +kernel
theorem dX11_copy_54 : decode cX11_copy 54 = .ok (.ireturn, 1) := by decide +kernel
theorem dX11_copy_55 : decode cX11_copy 55 = .ok (.aload 6, 2) := by decide +kernel
theorem dX11_copy_57 : decode cX11_copy 57 = .ok (.getfield 122, 3) := by decide +kernel
theorem dX11_copy_60 : decode cX11_copy 60 = .ok (.aload 7, 2) := by decide +kernel
theorem dX11_copy_62 : decode cX11_copy 62 = .ok (.getfield 122, 3) := by decide +kernel
theorem dX11_copy_65 : decode cX11_copy 65 = .ok (.if_icmp .eq 9, 3) := by decide +kernel
theorem dX11_copy_68 : decode cX11_copy 68 = .ok (.aload_n 0, 1) := by decide +kernel
theorem dX11_copy_69 : decode cX11_copy 69 = .ok (.iconst 5, 1) := by decide +kernel
theorem dX11_copy_70 : decode cX11_copy 70 = .ok (.invokevirtual 99, 3) := by decide +kernel
theorem dX11_copy_73 : decode cX11_copy 73 = .ok (.ireturn, 1) := by decide +kernel
theorem dX11_copy_74 : decode cX11_copy 74 = .ok (.aload 6, 2) := by decide +kernel
theorem dX11_copy_76 : decode cX11_copy 76 = .ok (.iload_n 2, 1) := by decide +kernel
theorem dX11_copy_77 : decode cX11_copy 77 = .ok (.iload 5, 2) := by decide +kernel
theorem dX11_copy_79 : decode cX11_copy 79 = .ok (.invokevirtual 114, 3) := by decide +kernel
theorem dX11_copy_82 : decode cX11_copy 82 = .ok (.ifCond .eq 15, 3) := by decide +kernel
theorem dX11_copy_85 : decode cX11_copy 85 = .ok (.aload 7, 2) := by decide +kernel
theorem dX11_copy_87 : decode cX11_copy 87 = .ok (.iload 4, 2) := by decide +kernel
theorem dX11_copy_89 : decode cX11_copy 89 = .ok (.iload 5, 2) := by decide +kernel
theorem dX11_copy_91 : decode cX11_copy 91 = .ok (.invokevirtual 114, 3) := by decide +kernel
theorem dX11_copy_94 : decode cX11_copy 94 = .ok (.ifCond .ne 9, 3) := by decide +kernel
theorem dX11_copy_97 : decode cX11_copy 97 = .ok (.aload_n 0, 1) := by decide +kernel
theorem dX11_copy_98 : decode cX11_copy 98 = .ok (.iconst 2, 1) := by decide +kernel
theorem dX11_copy_99 : decode cX11_copy 99 = .ok (.invokevirtual 99, 3) := by decide +kernel
theorem dX11_copy_102 : decode cX11_copy 102 = .ok (.ireturn, 1) := by decide +kernel
theorem dX11_copy_103 : decode cX11_copy 103 = .ok (.aload 6, 2) := by decide +kernel
theorem dX11_copy_105 : decode cX11_copy 105 = .ok (.getfield 125, 3) := by decide +kernel
theorem dX11_copy_108 : decode cX11_copy 108 = .ok (.iload_n 2, 1) := by decide +kernel
theorem dX11_copy_109 : decode cX11_copy 109 = .ok (.aload 7, 2) := by decide +kernel
theorem dX11_copy_111 : decode cX11_copy 111 = .ok (.getfield 125, 3) := by decide +kernel
theorem dX11_copy_114 : decode cX11_copy 114 = .ok (.iload 4, 2) := by decide +kernel
theorem dX11_copy_116 : decode cX11_copy 116 = .ok (.iload 5, 2) := by decide +kernel
theorem dX11_copy_118 : decode cX11_copy 118 = .ok (.invokestatic 129, 3) := by decide +kernel
theorem dX11_copy_121 : decode cX11_copy 121 = .ok (.aload_n 0, 1) := by decide +kernel
theorem dX11_copy_122 : decode cX11_copy 122 = .ok (.iload 5, 2) := by decide +kernel
theorem dX11_copy_124 : decode cX11_copy 124 = .ok (.invokevirtual 107, 3) := by decide +kernel
theorem dX11_copy_127 : decode cX11_copy 127 = .ok (.ireturn, 1) := by decide +kernel
theorem dX11_drop_0 : decode cX11_drop 0 = .ok (.iload_n 1, 1) := by decide +kernel
theorem dX11_drop_1 : decode cX11_drop 1 = .ok (.invokestatic 90, 3) := by decide +kernel
theorem dX11_drop_4 : decode cX11_drop 4 = .ok (.ifCond .ne 6, 3) := by decide +kernel
theorem dX11_drop_7 : decode cX11_drop 7 = .ok (.ldc 98, 2) := by decide +kernel
theorem dX11_drop_9 : decode cX11_drop 9 = .ok (.ireturn, 1) := by decide +kernel
theorem dX11_drop_10 : decode cX11_drop 10 = .ok (.aload_n 0, 1) := by decide +kernel
theorem dX11_drop_11 : decode cX11_drop 11 = .ok (.getfield 11, 3) := by decide +kernel
theorem dX11_drop_14 : decode cX11_drop 14 = .ok (.iload_n 1, 1) := by decide +kernel
theorem dX11_drop_15 : decode cX11_drop 15 = .ok (.aaload, 1) := by decide +kernel
theorem dX11_drop_16 : decode cX11_drop 16 = .ok (.invokevirtual 110, 3) := by decide +kernel
theorem dX11_drop_19 : decode cX11_drop 19 = .ok (.ifCond .eq 9, 3) := by decide +kernel
theorem dX11_drop_22 : decode cX11_drop 22 = .ok (.aload_n 0, 1) := by decide +kernel
theorem dX11_drop_23 : decode cX11_drop 23 = .ok (.iconst 1, 1) := by decide +kernel
theorem dX11_drop_24 : decode cX11_drop 24 = .ok (.invokevirtual 99, 3) := by decide +kernel
theorem dX11_drop_27 : decode cX11_drop 27 = .ok (.ireturn, 1) := by decide +kernel
theorem dX11_drop_28 : decode cX11_drop 28 = .ok (.aload_n 0, 1) := by decide +kernel
theorem dX11_drop_29 : decode cX11_drop 29 = .ok (.aload_n 0, 1) := by decide +kernel
theorem dX11_drop_30 : decode cX11_drop 30 = .ok (.getfield 11, 3) := by decide +kernel
theorem dX11_drop_33 : decode cX11_drop 33 = .ok (.iload_n 1, 1) := by decide +kernel
theorem dX11_drop_34 : decode cX11_drop 34 = .ok (.aaload, 1) := by decide +kernel
theorem dX11_drop_35 : decode cX11_drop 35 = .ok (.invokevirtual 135, 3) := by decide +kernel
theorem dX11_drop_38 : decode cX11_drop 38 = .ok (.invokevirtual 107, 3) := by decide +kernel
theorem dX11_drop_41 : decode cX11_drop 41 = .ok (.ireturn, 1) := by decide +kernel
theorem dX11_room_0 : decode cX11_room 0 = .ok (.iload_n 1, 1) := by decide +kernel
theorem dX11_room_1 : decode cX11_room 1 = .ok (.iconst 0, 1) := by decide +kernel
theorem dX11_room_2 : decode cX11_room 2 = .ok (.bipush 6, 2) := by decide +kernel
theorem dX11_room_4 : decode cX11_room 4 = .ok (.invokestatic 94, 3) := by decide +kernel
theorem dX11_room_7 : decode cX11_room 7 = .ok (.ifCond .eq 20, 3) := by decide +kernel
theorem dX11_room_10 : decode cX11_room 10 = .ok (.iload_n 2, 1) := by decide +kernel
theorem dX11_room_11 : decode cX11_room 11 = .ok (.getstatic 139, 3) := by decide +kernel
theorem dX11_room_14 : decode cX11_room 14 = .ok (.iload_n 1, 1) := by decide +kernel
theorem dX11_room_15 : decode cX11_room 15 = .ok (.iaload, 1) := by decide +kernel
theorem dX11_room_16 : decode cX11_room 16 = .ok (.getstatic 142, 3) := by decide +kernel
theorem dX11_room_19 : decode cX11_room 19 = .ok (.iload_n 1, 1) := by decide +kernel
theorem dX11_room_20 : decode cX11_room 20 = .ok (.iaload, 1) := by decide +kernel
theorem dX11_room_21 : decode cX11_room 21 = .ok (.invokestatic 94, 3) := by decide +kernel
theorem dX11_room_24 : decode cX11_room 24 = .ok (.ifCond .ne 6, 3) := by decide +kernel
theorem dX11_room_27 : decode cX11_room 27 = .ok (.ldc 98, 2) := by decide +kernel
theorem dX11_room_29 : decode cX11_room 29 = .ok (.ireturn, 1) := by decide +kernel
theorem dX11_room_30 : decode cX11_room 30 = .ok (.aload_n 0, 1) := by decide +kernel
theorem dX11_room_31 : decode cX11_room 31 = .ok (.getfield 18, 3) := by decide +kernel
theorem dX11_room_34 : decode cX11_room 34 = .ok (.getfield 145, 3) := by decide +kernel
theorem dX11_room_37 : decode cX11_room 37 = .ok (.iload_n 1, 1) := by decide +kernel
theorem dX11_room_38 : decode cX11_room 38 = .ok (.iaload, 1) := by decide +kernel
theorem dX11_room_39 : decode cX11_room 39 = .ok (.istore_n 3, 1) := by decide +kernel
theorem dX11_room_40 : decode cX11_room 40 = .ok (.aload_n 0, 1) := by decide +kernel
theorem dX11_room_41 : decode cX11_room 41 = .ok (.getfield 18, 3) := by decide +kernel
theorem dX11_room_44 : decode cX11_room 44 = .ok (.getfield 145, 3) := by decide +kernel
theorem dX11_room_47 : decode cX11_room 47 = .ok (.iload_n 1, 1) := by decide +kernel
theorem dX11_room_48 : decode cX11_room 48 = .ok (.iload_n 2, 1) := by decide +kernel
theorem dX11_room_49 : decode cX11_room 49 = .ok (.iastore, 1) := by decide +kernel
theorem dX11_room_50 : decode cX11_room 50 = .ok (.iload_n 3, 1) := by decide +kernel
theorem dX11_room_51 : decode cX11_room 51 = .ok (.ireturn, 1) := by decide +kernel
theorem dX11_bend_0 : decode cX11_bend 0 = .ok (.iload_n 1, 1) := by decide +kernel
theorem dX11_bend_1 : decode cX11_bend 1 = .ok (.bipush (-8), 2) := by decide +kernel
theorem dX11_bend_3 : decode cX11_bend 3 = .ok (.bipush 8, 2) := by decide +kernel
theorem dX11_bend_5 : decode cX11_bend 5 = .ok (.invokestatic 94, 3) := by decide +kernel
theorem dX11_bend_8 : decode cX11_bend 8 = .ok (.ifCond .eq 14, 3) := by decide +kernel
theorem dX11_bend_11 : decode cX11_bend 11 = .ok (.iload_n 2, 1) := by decide +kernel
theorem dX11_bend_12 : decode cX11_bend 12 = .ok (.bipush (-50), 2) := by decide +kernel
theorem dX11_bend_14 : decode cX11_bend 14 = .ok (.bipush 50, 2) := by decide +kernel
theorem dX11_bend_16 : decode cX11_bend 16 = .ok (.invokestatic 94, 3) := by decide +kernel
theorem dX11_bend_19 : decode cX11_bend 19 = .ok (.ifCond .ne 6, 3) := by decide +kernel
theorem dX11_bend_22 : decode cX11_bend 22 = .ok (.ldc 98, 2) := by decide +kernel
theorem dX11_bend_24 : decode cX11_bend 24 = .ok (.ireturn, 1) := by decide +kernel
theorem dX11_bend_25 : decode cX11_bend 25 = .ok (.aload_n 0, 1) := by decide +kernel
theorem dX11_bend_26 : decode cX11_bend 26 = .ok (.getfield 18, 3) := by decide +kernel
theorem dX11_bend_29 : decode cX11_bend 29 = .ok (.getfield 148, 3) := by decide +kernel
theorem dX11_bend_32 : decode cX11_bend 32 = .ok (.iload_n 1, 1) := by decide +kernel
theorem dX11_bend_33 : decode cX11_bend 33 = .ok (.bipush 8, 2) := by decide +kernel
theorem dX11_bend_35 : decode cX11_bend 35 = .ok (.iadd, 1) := by decide +kernel
theorem dX11_bend_36 : decode cX11_bend 36 = .ok (.iaload, 1) := by decide +kernel
theorem dX11_bend_37 : decode cX11_bend 37 = .ok (.istore_n 3, 1) := by decide +kernel
theorem dX11_bend_38 : decode cX11_bend 38 = .ok (.aload_n 0, 1) := by decide +kernel
theorem dX11_bend_39 : decode cX11_bend 39 = .ok (.getfield 18, 3) := by decide +kernel
theorem dX11_bend_42 : decode cX11_bend 42 = .ok (.getfield 148, 3) := by decide +kernel
theorem dX11_bend_45 : decode cX11_bend 45 = .ok (.iload_n 1, 1) := by decide +kernel
theorem dX11_bend_46 : decode cX11_bend 46 = .ok (.bipush 8, 2) := by decide +kernel
theorem dX11_bend_48 : decode cX11_bend 48 = .ok (.iadd, 1) := by decide +kernel
theorem dX11_bend_49 : decode cX11_bend 49 = .ok (.iload_n 2, 1) := by decide +kernel
theorem dX11_bend_50 : decode cX11_bend 50 = .ok (.iastore, 1) := by decide +kernel
theorem dX11_bend_51 : decode cX11_bend 51 = .ok (.iload_n 3, 1) := by decide +kernel
theorem dX11_bend_52 : decode cX11_bend 52 = .ok (.ireturn, 1) := by decide +kernel
theorem dX11_told_0 : decode cX11_told 0 = .ok (.iload_n 1, 1) := by decide +kernel
theorem dX11_told_1 : decode cX11_told 1 = .ok (.iconst 0, 1) := by decide +kernel
theorem dX11_told_2 : decode cX11_told 2 = .ok (.bipush 23, 2) := by decide +kernel
theorem dX11_told_4 : decode cX11_told 4 = .ok (.invokestatic 94, 3) := by decide +kernel
theorem dX11_told_7 : decode cX11_told 7 = .ok (.ifCond .ne 6, 3) := by decide +kernel
theorem dX11_told_10 : decode cX11_told 10 = .ok (.ldc 98, 2) := by decide +kernel
theorem dX11_told_12 : decode cX11_told 12 = .ok (.ireturn, 1) := by decide +kernel
theorem dX11_told_13 : decode cX11_told 13 = .ok (.iload_n 1, 1) := by decide +kernel
theorem dX11_told_14 : decode cX11_told 14 = .ok (.bipush 7, 2) := by decide +kernel
theorem dX11_told_16 : decode cX11_told 16 = .ok (.if_icmp .ge 15, 3) := by decide +kernel
theorem dX11_told_19 : decode cX11_told 19 = .ok (.aload_n 0, 1) := by decide +kernel
theorem dX11_told_20 : decode cX11_told 20 = .ok (.getfield 18, 3) := by decide +kernel
theorem dX11_told_23 : decode cX11_told 23 = .ok (.getfield 145, 3) := by decide +kernel
theorem dX11_told_26 : decode cX11_told 26 = .ok (.iload_n 1, 1) := by decide +kernel
theorem dX11_told_27 : decode cX11_told 27 = .ok (.iaload, 1) := by decide +kernel
theorem dX11_told_28 : decode cX11_told 28 = .ok (.goto 15, 3) := by decide +kernel
theorem dX11_told_31 : decode cX11_told 31 = .ok (.aload_n 0, 1) := by decide +kernel
theorem dX11_told_32 : decode cX11_told 32 = .ok (.getfield 18, 3) := by decide +kernel
theorem dX11_told_35 : decode cX11_told 35 = .ok (.getfield 148, 3) := by decide +kernel
theorem dX11_told_38 : decode cX11_told 38 = .ok (.iload_n 1, 1) := by decide +kernel
theorem dX11_told_39 : decode cX11_told 39 = .ok (.bipush 7, 2) := by decide +kernel
theorem dX11_told_41 : decode cX11_told 41 = .ok (.isub, 1) := by decide +kernel
theorem dX11_told_42 : decode cX11_told 42 = .ok (.iaload, 1) := by decide +kernel
theorem dX11_told_43 : decode cX11_told 43 = .ok (.ireturn, 1) := by decide +kernel
theorem dX11_thing_0 : decode cX11_thing 0 = .ok (.iload_n 1, 1) := by decide +kernel
theorem dX11_thing_1 : decode cX11_thing 1 = .ok (.iload_n 2, 1) := by decide +kernel
theorem dX11_thing_2 : decode cX11_thing 2 = .ok (.iload_n 3, 1) := by decide +kernel
theorem dX11_thing_3 : decode cX11_thing 3 = .ok (.invokestatic 151, 3) := by decide +kernel
theorem dX11_thing_6 : decode cX11_thing 6 = .ok (.ifCond .ne 6, 3) := by decide +kernel
theorem dX11_thing_9 : decode cX11_thing 9 = .ok (.ldc 98, 2) := by decide +kernel
theorem dX11_thing_11 : decode cX11_thing 11 = .ok (.ireturn, 1) := by decide +kernel
theorem dX11_thing_12 : decode cX11_thing 12 = .ok (.aload_n 0, 1) := by decide +kernel
theorem dX11_thing_13 : decode cX11_thing 13 = .ok (.getfield 28, 3) := by decide +kernel
theorem dX11_thing_16 : decode cX11_thing 16 = .ok (.bipush 24, 2) := by decide +kernel
theorem dX11_thing_18 : decode cX11_thing 18 = .ok (.if_icmp .lt 6, 3) := by decide +kernel
theorem dX11_thing_21 : decode cX11_thing 21 = .ok (.ldc 154, 2) := by decide +kernel
theorem dX11_thing_23 : decode cX11_thing 23 = .ok (.ireturn, 1) := by decide +kernel
theorem dX11_thing_24 : decode cX11_thing 24 = .ok (.aload_n 0, 1) := by decide +kernel
theorem dX11_thing_25 : decode cX11_thing 25 = .ok (.getfield 24, 3) := by decide +kernel
theorem dX11_thing_28 : decode cX11_thing 28 = .ok (.aload_n 0, 1) := by decide +kernel
theorem dX11_thing_29 : decode cX11_thing 29 = .ok (.getfield 28, 3) := by decide +kernel
theorem dX11_thing_32 : decode cX11_thing 32 = .ok (.aaload, 1) := by decide +kernel
theorem dX11_thing_33 : decode cX11_thing 33 = .ok (.iload_n 1, 1) := by decide +kernel
theorem dX11_thing_34 : decode cX11_thing 34 = .ok (.iload_n 2, 1) := by decide +kernel
theorem dX11_thing_35 : decode cX11_thing 35 = .ok (.iload_n 3, 1) := by decide +kernel
theorem dX11_thing_36 : decode cX11_thing 36 = .ok (.invokevirtual 155, 3) := by decide +kernel
theorem dX11_thing_39 : decode cX11_thing 39 = .ok (.aload_n 0, 1) := by decide +kernel
theorem dX11_thing_40 : decode cX11_thing 40 = .ok (.dup, 1) := by decide +kernel
theorem dX11_thing_41 : decode cX11_thing 41 = .ok (.getfield 28, 3) := by decide +kernel
theorem dX11_thing_44 : decode cX11_thing 44 = .ok (.iconst 1, 1) := by decide +kernel
theorem dX11_thing_45 : decode cX11_thing 45 = .ok (.iadd, 1) := by decide +kernel
theorem dX11_thing_46 : decode cX11_thing 46 = .ok (.putfield 28, 3) := by decide +kernel
theorem dX11_thing_49 : decode cX11_thing 49 = .ok (.aload_n 0, 1) := by decide +kernel
theorem dX11_thing_50 : decode cX11_thing 50 = .ok (.getfield 28, 3) := by decide +kernel
theorem dX11_thing_53 : decode cX11_thing 53 = .ok (.iconst 1, 1) := by decide +kernel
theorem dX11_thing_54 : decode cX11_thing 54 = .ok (.isub, 1) := by decide +kernel
theorem dX11_thing_55 : decode cX11_thing 55 = .ok (.ireturn, 1) := by decide +kernel
theorem dX11_move_0 : decode cX11_move 0 = .ok (.aload_n 0, 1) := by decide +kernel
theorem dX11_move_1 : decode cX11_move 1 = .ok (.iload_n 1, 1) := by decide +kernel
theorem dX11_move_2 : decode cX11_move 2 = .ok (.invokevirtual 159, 3) := by decide +kernel
theorem dX11_move_5 : decode cX11_move 5 = .ok (.ifCond .eq 13, 3) := by decide +kernel
theorem dX11_move_8 : decode cX11_move 8 = .ok (.iload_n 2, 1) := by decide +kernel
theorem dX11_move_9 : decode cX11_move 9 = .ok (.iload_n 3, 1) := by decide +kernel
theorem dX11_move_10 : decode cX11_move 10 = .ok (.iload 4, 2) := by decide +kernel
theorem dX11_move_12 : decode cX11_move 12 = .ok (.invokestatic 151, 3) := by decide +kernel
theorem dX11_move_15 : decode cX11_move 15 = .ok (.ifCond .ne 6, 3) := by decide +kernel
theorem dX11_move_18 : decode cX11_move 18 = .ok (.ldc 98, 2) := by decide +kernel
theorem dX11_move_20 : decode cX11_move 20 = .ok (.ireturn, 1) := by decide +kernel
theorem dX11_move_21 : decode cX11_move 21 = .ok (.aload_n 0, 1) := by decide +kernel
theorem dX11_move_22 : decode cX11_move 22 = .ok (.getfield 24, 3) := by decide +kernel
theorem dX11_move_25 : decode cX11_move 25 = .ok (.iload_n 1, 1) := by decide +kernel
theorem dX11_move_26 : decode cX11_move 26 = .ok (.aaload, 1) := by decide +kernel
theorem dX11_move_27 : decode cX11_move 27 = .ok (.iload_n 2, 1) := by decide +kernel
theorem dX11_move_28 : decode cX11_move 28 = .ok (.iload_n 3, 1) := by decide +kernel
theorem dX11_move_29 : decode cX11_move 29 = .ok (.iload 4, 2) := by decide +kernel
theorem dX11_move_31 : decode cX11_move 31 = .ok (.invokevirtual 155, 3) := by decide +kernel
theorem dX11_move_34 : decode cX11_move 34 = .ok (.iconst 1, 1) := by decide +kernel
theorem dX11_move_35 : decode cX11_move 35 = .ok (.ireturn, 1) := by decide +kernel
theorem dX11_picture_0 : decode cX11_picture 0 = .ok (.aload_n 0, 1) := by decide +kernel
theorem dX11_picture_1 : decode cX11_picture 1 = .ok (.iload_n 1, 1) := by decide +kernel
theorem dX11_picture_2 : decode cX11_picture 2 = .ok (.invokevirtual 159, 3) := by decide +kernel
theorem dX11_picture_5 : decode cX11_picture 5 = .ok (.ifCond .eq 13, 3) := by decide +kernel
theorem dX11_picture_8 : decode cX11_picture 8 = .ok (.iload_n 2, 1) := by decide +kernel
theorem dX11_picture_9 : decode cX11_picture 9 = .ok (.iconst 0, 1) := by decide +kernel
theorem dX11_picture_10 : decode cX11_picture 10 = .ok (.bipush 8, 2) := by decide +kernel
theorem dX11_picture_12 : decode cX11_picture 12 = .ok (.invokestatic 94, 3) := by decide +kernel
theorem dX11_picture_15 : decode cX11_picture 15 = .ok (.ifCond .ne 6, 3) := by decide +kernel
theorem dX11_picture_18 : decode cX11_picture 18 = .ok (.ldc 98, 2) := by decide +kernel
theorem dX11_picture_20 : decode cX11_picture 20 = .ok (.ireturn, 1) := by decide +kernel
theorem dX11_picture_21 : decode cX11_picture 21 = .ok (.aload_n 0, 1) := by decide +kernel
theorem dX11_picture_22 : decode cX11_picture 22 = .ok (.getfield 24, 3) := by decide +kernel
theorem dX11_picture_25 : decode cX11_picture 25 = .ok (.iload_n 1, 1) := by decide +kernel
theorem dX11_picture_26 : decode cX11_picture 26 = .ok (.aaload, 1) := by decide +kernel
theorem dX11_picture_27 : decode cX11_picture 27 = .ok (.astore_n 3, 1) := by decide +kernel
theorem dX11_picture_28 : decode cX11_picture 28 = .ok (.aload_n 0, 1) := by decide +kernel
theorem dX11_picture_29 : decode cX11_picture 29 = .ok (.getfield 35, 3) := by decide +kernel
theorem dX11_picture_32 : decode cX11_picture 32 = .ok (.aload_n 0, 1) := by decide +kernel
theorem dX11_picture_33 : decode cX11_picture 33 = .ok (.getfield 18, 3) := by decide +kernel
theorem dX11_picture_36 : decode cX11_picture 36 = .ok (.aload_n 3, 1) := by decide +kernel
theorem dX11_picture_37 : decode cX11_picture 37 = .ok (.invokevirtual 162, 3) := by decide +kernel
theorem dX11_picture_40 : decode cX11_picture 40 = .ok (.iload_n 2, 1) := by decide +kernel
theorem dX11_picture_41 : decode cX11_picture 41 = .ok (.tableswitch 102 0 7 #[47, 52, 57, 62, 70, 78, 86, 94], 47) := by decide +kernel
theorem dX11_picture_88 : decode cX11_picture 88 = .ok (.aload_n 3, 1) := by decide +kernel
theorem dX11_picture_89 : decode cX11_picture 89 = .ok (.getfield 166, 3) := by decide +kernel
theorem dX11_picture_92 : decode cX11_picture 92 = .ok (.ireturn, 1) := by decide +kernel
theorem dX11_picture_93 : decode cX11_picture 93 = .ok (.aload_n 3, 1) := by decide +kernel
theorem dX11_picture_94 : decode cX11_picture 94 = .ok (.getfield 169, 3) := by decide +kernel
theorem dX11_picture_97 : decode cX11_picture 97 = .ok (.ireturn, 1) := by decide +kernel
theorem dX11_picture_98 : decode cX11_picture 98 = .ok (.aload_n 3, 1) := by decide +kernel
theorem dX11_picture_99 : decode cX11_picture 99 = .ok (.getfield 172, 3) := by decide +kernel
theorem dX11_picture_102 : decode cX11_picture 102 = .ok (.ireturn, 1) := by decide +kernel
theorem dX11_picture_103 : decode cX11_picture 103 = .ok (.aload_n 0, 1) := by decide +kernel
theorem dX11_picture_104 : decode cX11_picture 104 = .ok (.getfield 35, 3) := by decide +kernel
theorem dX11_picture_107 : decode cX11_picture 107 = .ok (.getfield 175, 3) := by decide +kernel
theorem dX11_picture_110 : decode cX11_picture 110 = .ok (.ireturn, 1) := by decide +kernel
theorem dX11_picture_111 : decode cX11_picture 111 = .ok (.aload_n 0, 1) := by decide +kernel
theorem dX11_picture_112 : decode cX11_picture 112 = .ok (.getfield 35, 3) := by decide +kernel
theorem dX11_picture_115 : decode cX11_picture 115 = .ok (.getfield 178, 3) := by decide +kernel
theorem dX11_picture_118 : decode cX11_picture 118 = .ok (.ireturn, 1) := by decide +kernel
theorem dX11_picture_119 : decode cX11_picture 119 = .ok (.aload_n 0, 1) := by decide +kernel
theorem dX11_picture_120 : decode cX11_picture 120 = .ok (.getfield 35, 3) := by decide +kernel
theorem dX11_picture_123 : decode cX11_picture 123 = .ok (.getfield 181, 3) := by decide +kernel
theorem dX11_picture_126 : decode cX11_picture 126 = .ok (.ireturn, 1) := by decide +kernel
theorem dX11_picture_127 : decode cX11_picture 127 = .ok (.aload_n 0, 1) := by decide +kernel
theorem dX11_picture_128 : decode cX11_picture 128 = .ok (.getfield 35, 3) := by decide +kernel
theorem dX11_picture_131 : decode cX11_picture 131 = .ok (.getfield 184, 3) := by decide +kernel
theorem dX11_picture_134 : decode cX11_picture 134 = .ok (.ireturn, 1) := by decide +kernel
theorem dX11_picture_135 : decode cX11_picture 135 = .ok (.aload_n 0, 1) := by decide +kernel
theorem dX11_picture_136 : decode cX11_picture 136 = .ok (.getfield 35, 3) := by decide +kernel
theorem dX11_picture_139 : decode cX11_picture 139 = .ok (.getfield 185, 3) := by decide +kernel
theorem dX11_picture_142 : decode cX11_picture 142 = .ok (.ireturn, 1) := by decide +kernel
theorem dX11_picture_143 : decode cX11_picture 143 = .ok (.aload_n 0, 1) := by decide +kernel
theorem dX11_picture_144 : decode cX11_picture 144 = .ok (.getfield 35, 3) := by decide +kernel
theorem dX11_picture_147 : decode cX11_picture 147 = .ok (.getfield 186, 3) := by decide +kernel
theorem dX11_picture_150 : decode cX11_picture 150 = .ok (.ireturn, 1) := by decide +kernel
theorem dX11_focused_0 : decode cX11_focused 0 = .ok (.aload_n 0, 1) := by decide +kernel
theorem dX11_focused_1 : decode cX11_focused 1 = .ok (.iload_n 1, 1) := by decide +kernel
theorem dX11_focused_2 : decode cX11_focused 2 = .ok (.invokevirtual 159, 3) := by decide +kernel
theorem dX11_focused_5 : decode cX11_focused 5 = .ok (.ifCond .eq 12, 3) := by decide +kernel
theorem dX11_focused_8 : decode cX11_focused 8 = .ok (.iload_n 2, 1) := by decide +kernel
theorem dX11_focused_9 : decode cX11_focused 9 = .ok (.iconst 0, 1) := by decide +kernel
theorem dX11_focused_10 : decode cX11_focused 10 = .ok (.iconst 1, 1) := by decide +kernel
theorem dX11_focused_11 : decode cX11_focused 11 = .ok (.invokestatic 94, 3) := by decide +kernel
theorem dX11_focused_14 : decode cX11_focused 14 = .ok (.ifCond .ne 6, 3) := by decide +kernel
theorem dX11_focused_17 : decode cX11_focused 17 = .ok (.ldc 98, 2) := by decide +kernel
theorem dX11_focused_19 : decode cX11_focused 19 = .ok (.ireturn, 1) := by decide +kernel
theorem dX11_focused_20 : decode cX11_focused 20 = .ok (.aload_n 0, 1) := by decide +kernel
theorem dX11_focused_21 : decode cX11_focused 21 = .ok (.getfield 18, 3) := by decide +kernel
theorem dX11_focused_24 : decode cX11_focused 24 = .ok (.aload_n 0, 1) := by decide +kernel
theorem dX11_focused_25 : decode cX11_focused 25 = .ok (.getfield 24, 3) := by decide +kernel
theorem dX11_focused_28 : decode cX11_focused 28 = .ok (.iload_n 1, 1) := by decide +kernel
theorem dX11_focused_29 : decode cX11_focused 29 = .ok (.aaload, 1) := by decide +kernel
theorem dX11_focused_30 : decode cX11_focused 30 = .ok (.invokevirtual 189, 3) := by decide +kernel
theorem dX11_focused_33 : decode cX11_focused 33 = .ok (.istore_n 3, 1) := by decide +kernel
theorem dX11_focused_34 : decode cX11_focused 34 = .ok (.iload_n 2, 1) := by decide +kernel
theorem dX11_focused_35 : decode cX11_focused 35 = .ok (.ifCond .ne 7, 3) := by decide +kernel
theorem dX11_focused_38 : decode cX11_focused 38 = .ok (.iload_n 3, 1) := by decide +kernel
theorem dX11_focused_39 : decode cX11_focused 39 = .ok (.goto 17, 3) := by decide +kernel
theorem dX11_focused_42 : decode cX11_focused 42 = .ok (.aload_n 0, 1) := by decide +kernel
theorem dX11_focused_43 : decode cX11_focused 43 = .ok (.getfield 18, 3) := by decide +kernel
theorem dX11_focused_46 : decode cX11_focused 46 = .ok (.iload_n 3, 1) := by decide +kernel
theorem dX11_focused_47 : decode cX11_focused 47 = .ok (.aload_n 0, 1) := by decide +kernel
theorem dX11_focused_48 : decode cX11_focused 48 = .ok (.getfield 24, 3) := by decide +kernel
theorem dX11_focused_51 : decode cX11_focused 51 = .ok (.iload_n 1, 1) := by decide +kernel
theorem dX11_focused_52 : decode cX11_focused 52 = .ok (.aaload, 1) := by decide +kernel
theorem dX11_focused_53 : decode cX11_focused 53 = .ok (.invokevirtual 193, 3) := by decide +kernel
theorem dX11_focused_56 : decode cX11_focused 56 = .ok (.ireturn, 1) := by decide +kernel
theorem dX11_bent_0 : decode cX11_bent 0 = .ok (.bipush (-8), 2) := by decide +kernel
theorem dX11_bent_2 : decode cX11_bent 2 = .ok (.istore_n 1, 1) := by decide +kernel
theorem dX11_bent_3 : decode cX11_bent 3 = .ok (.iload_n 1, 1) := by decide +kernel
theorem dX11_bent_4 : decode cX11_bent 4 = .ok (.bipush 8, 2) := by decide +kernel
theorem dX11_bent_6 : decode cX11_bent 6 = .ok (.if_icmp .gt 89, 3) := by decide +kernel
theorem dX11_bent_9 : decode cX11_bent 9 = .ok (.aload_n 0, 1) := by decide +kernel
theorem dX11_bent_10 : decode cX11_bent 10 = .ok (.getfield 18, 3) := by decide +kernel
theorem dX11_bent_13 : decode cX11_bent 13 = .ok (.invokevirtual 197, 3) := by decide +kernel
theorem dX11_bent_16 : decode cX11_bent 16 = .ok (.iconst 0, 1) := by decide +kernel
theorem dX11_bent_17 : decode cX11_bent 17 = .ok (.istore_n 2, 1) := by decide +kernel
theorem dX11_bent_18 : decode cX11_bent 18 = .ok (.iload_n 2, 1) := by decide +kernel
theorem dX11_bent_19 : decode cX11_bent 19 = .ok (.aload_n 0, 1) := by decide +kernel
theorem dX11_bent_20 : decode cX11_bent 20 = .ok (.getfield 28, 3) := by decide +kernel
theorem dX11_bent_23 : decode cX11_bent 23 = .ok (.if_icmp .ge 47, 3) := by decide +kernel
theorem dX11_bent_26 : decode cX11_bent 26 = .ok (.aload_n 0, 1) := by decide +kernel
theorem dX11_bent_27 : decode cX11_bent 27 = .ok (.getfield 18, 3) := by decide +kernel
theorem dX11_bent_30 : decode cX11_bent 30 = .ok (.getfield 145, 3) := by decide +kernel
theorem dX11_bent_33 : decode cX11_bent 33 = .ok (.iconst 2, 1) := by decide +kernel
theorem dX11_bent_34 : decode cX11_bent 34 = .ok (.iaload, 1) := by decide +kernel
theorem dX11_bent_35 : decode cX11_bent 35 = .ok (.aload_n 0, 1) := by decide +kernel
theorem dX11_bent_36 : decode cX11_bent 36 = .ok (.getfield 24, 3) := by decide +kernel
theorem dX11_bent_39 : decode cX11_bent 39 = .ok (.iload_n 2, 1) := by decide +kernel
theorem dX11_bent_40 : decode cX11_bent 40 = .ok (.aaload, 1) := by decide +kernel
theorem dX11_bent_41 : decode cX11_bent 41 = .ok (.invokestatic 200, 3) := by decide +kernel
theorem dX11_bent_44 : decode cX11_bent 44 = .ok (.iload_n 1, 1) := by decide +kernel
theorem dX11_bent_45 : decode cX11_bent 45 = .ok (.if_icmp .ne 19, 3) := by decide +kernel
theorem dX11_bent_48 : decode cX11_bent 48 = .ok (.aload_n 0, 1) := by decide +kernel
theorem dX11_bent_49 : decode cX11_bent 49 = .ok (.getfield 18, 3) := by decide +kernel
theorem dX11_bent_52 : decode cX11_bent 52 = .ok (.aload_n 0, 1) := by decide +kernel
theorem dX11_bent_53 : decode cX11_bent 53 = .ok (.getfield 24, 3) := by decide +kernel
theorem dX11_bent_56 : decode cX11_bent 56 = .ok (.iload_n 2, 1) := by decide +kernel
theorem dX11_bent_57 : decode cX11_bent 57 = .ok (.aaload, 1) := by decide +kernel
theorem dX11_bent_58 : decode cX11_bent 58 = .ok (.getfield 172, 3) := by decide +kernel
theorem dX11_bent_61 : decode cX11_bent 61 = .ok (.invokevirtual 203, 3) := by decide +kernel
theorem dX11_bent_64 : decode cX11_bent 64 = .ok (.iinc 2 1, 3) := by decide +kernel
theorem dX11_bent_67 : decode cX11_bent 67 = .ok (.goto (-49), 3) := by decide +kernel
theorem dX11_bent_70 : decode cX11_bent 70 = .ok (.aload_n 0, 1) := by decide +kernel
theorem dX11_bent_71 : decode cX11_bent 71 = .ok (.getfield 18, 3) := by decide +kernel
theorem dX11_bent_74 : decode cX11_bent 74 = .ok (.getfield 148, 3) := by decide +kernel
theorem dX11_bent_77 : decode cX11_bent 77 = .ok (.iload_n 1, 1) := by decide +kernel
theorem dX11_bent_78 : decode cX11_bent 78 = .ok (.bipush 8, 2) := by decide +kernel
theorem dX11_bent_80 : decode cX11_bent 80 = .ok (.iadd, 1) := by decide +kernel
theorem dX11_bent_81 : decode cX11_bent 81 = .ok (.aload_n 0, 1) := by decide +kernel
theorem dX11_bent_82 : decode cX11_bent 82 = .ok (.getfield 18, 3) := by decide +kernel
theorem dX11_bent_85 : decode cX11_bent 85 = .ok (.invokevirtual 207, 3) := by decide +kernel
theorem dX11_bent_88 : decode cX11_bent 88 = .ok (.iastore, 1) := by decide +kernel
theorem dX11_bent_89 : decode cX11_bent 89 = .ok (.iinc 1 1, 3) := by decide +kernel
theorem dX11_bent_92 : decode cX11_bent 92 = .ok (.goto (-89), 3) := by decide +kernel
theorem dX11_bent_95 : decode cX11_bent 95 = .ok (.aload_n 0, 1) := by decide +kernel
theorem dX11_bent_96 : decode cX11_bent 96 = .ok (.getfield 18, 3) := by decide +kernel
theorem dX11_bent_99 : decode cX11_bent 99 = .ok (.invokevirtual 210, 3) := by decide +kernel
theorem dX11_bent_102 : decode cX11_bent 102 = .ok (.ireturn, 1) := by decide +kernel
theorem dX11_mark_0 : decode cX11_mark 0 = .ok (.iload_n 1, 1) := by decide +kernel
theorem dX11_mark_1 : decode cX11_mark 1 = .ok (.invokestatic 213, 3) := by decide +kernel
theorem dX11_mark_4 : decode cX11_mark 4 = .ok (.ifCond .eq 25, 3) := by decide +kernel
theorem dX11_mark_7 : decode cX11_mark 7 = .ok (.iload_n 2, 1) := by decide +kernel
theorem dX11_mark_8 : decode cX11_mark 8 = .ok (.invokestatic 216, 3) := by decide +kernel
theorem dX11_mark_11 : decode cX11_mark 11 = .ok (.ifCond .eq 18, 3) := by decide +kernel
theorem dX11_mark_14 : decode cX11_mark 14 = .ok (.iload_n 3, 1) := by decide +kernel
theorem dX11_mark_15 : decode cX11_mark 15 = .ok (.invokestatic 219, 3) := by decide +kernel
theorem dX11_mark_18 : decode cX11_mark 18 = .ok (.ifCond .eq 11, 3) := by decide +kernel
theorem dX11_mark_21 : decode cX11_mark 21 = .ok (.iload 4, 2) := by decide +kernel
theorem dX11_mark_23 : decode cX11_mark 23 = .ok (.invokestatic 219, 3) := by decide +kernel
theorem dX11_mark_26 : decode cX11_mark 26 = .ok (.ifCond .ne 6, 3) := by decide +kernel
theorem dX11_mark_29 : decode cX11_mark 29 = .ok (.ldc 98, 2) := by decide +kernel
theorem dX11_mark_31 : decode cX11_mark 31 = .ok (.ireturn, 1) := by decide +kernel
theorem dX11_mark_32 : decode cX11_mark 32 = .ok (.aload_n 0, 1) := by decide +kernel
theorem dX11_mark_33 : decode cX11_mark 33 = .ok (.getfield 41, 3) := by decide +kernel
theorem dX11_mark_36 : decode cX11_mark 36 = .ok (.iload_n 1, 1) := by decide +kernel
theorem dX11_mark_37 : decode cX11_mark 37 = .ok (.aaload, 1) := by decide +kernel
theorem dX11_mark_38 : decode cX11_mark 38 = .ok (.getfield 222, 3) := by decide +kernel
theorem dX11_mark_41 : decode cX11_mark 41 = .ok (.iload_n 2, 1) := by decide +kernel
theorem dX11_mark_42 : decode cX11_mark 42 = .ok (.baload, 1) := by decide +kernel
theorem dX11_mark_43 : decode cX11_mark 43 = .ok (.istore 5, 2) := by decide +kernel
theorem dX11_mark_45 : decode cX11_mark 45 = .ok (.aload_n 0, 1) := by decide +kernel
theorem dX11_mark_46 : decode cX11_mark 46 = .ok (.getfield 41, 3) := by decide +kernel
theorem dX11_mark_49 : decode cX11_mark 49 = .ok (.iload_n 1, 1) := by decide +kernel
theorem dX11_mark_50 : decode cX11_mark 50 = .ok (.aaload, 1) := by decide +kernel
theorem dX11_mark_51 : decode cX11_mark 51 = .ok (.iload_n 2, 1) := by decide +kernel
theorem dX11_mark_52 : decode cX11_mark 52 = .ok (.iload_n 3, 1) := by decide +kernel
theorem dX11_mark_53 : decode cX11_mark 53 = .ok (.iload 4, 2) := by decide +kernel
theorem dX11_mark_55 : decode cX11_mark 55 = .ok (.invokevirtual 226, 3) := by decide +kernel
theorem dX11_mark_58 : decode cX11_mark 58 = .ok (.iload 5, 2) := by decide +kernel
theorem dX11_mark_60 : decode cX11_mark 60 = .ok (.ifCond .eq 7, 3) := by decide +kernel
theorem dX11_mark_63 : decode cX11_mark 63 = .ok (.iconst 0, 1) := by decide +kernel
theorem dX11_mark_64 : decode cX11_mark 64 = .ok (.goto 4, 3) := by decide +kernel
theorem dX11_mark_67 : decode cX11_mark 67 = .ok (.iconst 1, 1) := by decide +kernel
theorem dX11_mark_68 : decode cX11_mark 68 = .ok (.ireturn, 1) := by decide +kernel
theorem dX11_rub_0 : decode cX11_rub 0 = .ok (.iload_n 1, 1) := by decide +kernel
theorem dX11_rub_1 : decode cX11_rub 1 = .ok (.invokestatic 213, 3) := by decide +kernel
theorem dX11_rub_4 : decode cX11_rub 4 = .ok (.ifCond .eq 10, 3) := by decide +kernel
theorem dX11_rub_7 : decode cX11_rub 7 = .ok (.iload_n 2, 1) := by decide +kernel
theorem dX11_rub_8 : decode cX11_rub 8 = .ok (.invokestatic 216, 3) := by decide +kernel
theorem dX11_rub_11 : decode cX11_rub 11 = .ok (.ifCond .ne 6, 3) := by decide +kernel
theorem dX11_rub_14 : decode cX11_rub 14 = .ok (.ldc 98, 2) := by decide +kernel
theorem dX11_rub_16 : decode cX11_rub 16 = .ok (.ireturn, 1) := by decide +kernel
theorem dX11_rub_17 : decode cX11_rub 17 = .ok (.aload_n 0, 1) := by decide +kernel
theorem dX11_rub_18 : decode cX11_rub 18 = .ok (.getfield 41, 3) := by decide +kernel
theorem dX11_rub_21 : decode cX11_rub 21 = .ok (.iload_n 1, 1) := by decide +kernel
theorem dX11_rub_22 : decode cX11_rub 22 = .ok (.aaload, 1) := by decide +kernel
theorem dX11_rub_23 : decode cX11_rub 23 = .ok (.getfield 222, 3) := by decide +kernel
theorem dX11_rub_26 : decode cX11_rub 26 = .ok (.iload_n 2, 1) := by decide +kernel
theorem dX11_rub_27 : decode cX11_rub 27 = .ok (.baload, 1) := by decide +kernel
theorem dX11_rub_28 : decode cX11_rub 28 = .ok (.istore_n 3, 1) := by decide +kernel
theorem dX11_rub_29 : decode cX11_rub 29 = .ok (.aload_n 0, 1) := by decide +kernel
theorem dX11_rub_30 : decode cX11_rub 30 = .ok (.getfield 41, 3) := by decide +kernel
theorem dX11_rub_33 : decode cX11_rub 33 = .ok (.iload_n 1, 1) := by decide +kernel
theorem dX11_rub_34 : decode cX11_rub 34 = .ok (.aaload, 1) := by decide +kernel
theorem dX11_rub_35 : decode cX11_rub 35 = .ok (.getfield 222, 3) := by decide +kernel
theorem dX11_rub_38 : decode cX11_rub 38 = .ok (.iload_n 2, 1) := by decide +kernel
theorem dX11_rub_39 : decode cX11_rub 39 = .ok (.iconst 0, 1) := by decide +kernel
theorem dX11_rub_40 : decode cX11_rub 40 = .ok (.bastore, 1) := by decide +kernel
theorem dX11_rub_41 : decode cX11_rub 41 = .ok (.iload_n 3, 1) := by decide +kernel
theorem dX11_rub_42 : decode cX11_rub 42 = .ok (.ifCond .eq 7, 3) := by decide +kernel
theorem dX11_rub_45 : decode cX11_rub 45 = .ok (.iconst 1, 1) := by decide +kernel
theorem dX11_rub_46 : decode cX11_rub 46 = .ok (.goto 4, 3) := by decide +kernel
theorem dX11_rub_49 : decode cX11_rub 49 = .ok (.iconst 0, 1) := by decide +kernel
theorem dX11_rub_50 : decode cX11_rub 50 = .ok (.ireturn, 1) := by decide +kernel
theorem dX11_draw_0 : decode cX11_draw 0 = .ok (.iload_n 1, 1) := by decide +kernel
theorem dX11_draw_1 : decode cX11_draw 1 = .ok (.invokestatic 213, 3) := by decide +kernel
theorem dX11_draw_4 : decode cX11_draw 4 = .ok (.ifCond .ne 6, 3) := by decide +kernel
theorem dX11_draw_7 : decode cX11_draw 7 = .ok (.ldc 98, 2) := by decide +kernel
theorem dX11_draw_9 : decode cX11_draw 9 = .ok (.ireturn, 1) := by decide +kernel
theorem dX11_draw_10 : decode cX11_draw 10 = .ok (.aload_n 0, 1) := by decide +kernel
theorem dX11_draw_11 : decode cX11_draw 11 = .ok (.getfield 41, 3) := by decide +kernel
theorem dX11_draw_14 : decode cX11_draw 14 = .ok (.iload_n 1, 1) := by decide +kernel
theorem dX11_draw_15 : decode cX11_draw 15 = .ok (.aaload, 1) := by decide +kernel
theorem dX11_draw_16 : decode cX11_draw 16 = .ok (.astore_n 2, 1) := by decide +kernel
theorem dX11_draw_17 : decode cX11_draw 17 = .ok (.aload_n 2, 1) := by decide +kernel
theorem dX11_draw_18 : decode cX11_draw 18 = .ok (.invokevirtual 227, 3) := by decide +kernel
theorem dX11_draw_21 : decode cX11_draw 21 = .ok (.iconst 0, 1) := by decide +kernel
theorem dX11_draw_22 : decode cX11_draw 22 = .ok (.istore_n 3, 1) := by decide +kernel
theorem dX11_draw_23 : decode cX11_draw 23 = .ok (.iload_n 3, 1) := by decide +kernel
theorem dX11_draw_24 : decode cX11_draw 24 = .ok (.aload_n 0, 1) := by decide +kernel
theorem dX11_draw_25 : decode cX11_draw 25 = .ok (.getfield 28, 3) := by decide +kernel
theorem dX11_draw_28 : decode cX11_draw 28 = .ok (.if_icmp .ge 59, 3) := by decide +kernel
theorem dX11_draw_31 : decode cX11_draw 31 = .ok (.aload_n 0, 1) := by decide +kernel
theorem dX11_draw_32 : decode cX11_draw 32 = .ok (.getfield 35, 3) := by decide +kernel
theorem dX11_draw_35 : decode cX11_draw 35 = .ok (.aload_n 0, 1) := by decide +kernel
theorem dX11_draw_36 : decode cX11_draw 36 = .ok (.getfield 18, 3) := by decide +kernel
theorem dX11_draw_39 : decode cX11_draw 39 = .ok (.aload_n 0, 1) := by decide +kernel
theorem dX11_draw_40 : decode cX11_draw 40 = .ok (.getfield 24, 3) := by decide +kernel
theorem dX11_draw_43 : decode cX11_draw 43 = .ok (.iload_n 3, 1) := by decide +kernel
theorem dX11_draw_44 : decode cX11_draw 44 = .ok (.aaload, 1) := by decide +kernel
theorem dX11_draw_45 : decode cX11_draw 45 = .ok (.invokevirtual 162, 3) := by decide +kernel
theorem dX11_draw_48 : decode cX11_draw 48 = .ok (.aload_n 0, 1) := by decide +kernel
theorem dX11_draw_49 : decode cX11_draw 49 = .ok (.getfield 18, 3) := by decide +kernel
theorem dX11_draw_52 : decode cX11_draw 52 = .ok (.aload_n 0, 1) := by decide +kernel
theorem dX11_draw_53 : decode cX11_draw 53 = .ok (.getfield 35, 3) := by decide +kernel
theorem dX11_draw_56 : decode cX11_draw 56 = .ok (.invokevirtual 230, 3) := by decide +kernel
theorem dX11_draw_59 : decode cX11_draw 59 = .ok (.ifCond .eq 22, 3) := by decide +kernel
theorem dX11_draw_62 : decode cX11_draw 62 = .ok (.aload_n 2, 1) := by decide +kernel
theorem dX11_draw_63 : decode cX11_draw 63 = .ok (.iload_n 3, 1) := by decide +kernel
theorem dX11_draw_64 : decode cX11_draw 64 = .ok (.aload_n 0, 1) := by decide +kernel
theorem dX11_draw_65 : decode cX11_draw 65 = .ok (.getfield 35, 3) := by decide +kernel
theorem dX11_draw_68 : decode cX11_draw 68 = .ok (.getfield 184, 3) := by decide +kernel
theorem dX11_draw_71 : decode cX11_draw 71 = .ok (.aload_n 0, 1) := by decide +kernel
theorem dX11_draw_72 : decode cX11_draw 72 = .ok (.getfield 35, 3) := by decide +kernel
theorem dX11_draw_75 : decode cX11_draw 75 = .ok (.getfield 185, 3) := by decide +kernel
theorem dX11_draw_78 : decode cX11_draw 78 = .ok (.invokevirtual 226, 3) := by decide +kernel
theorem dX11_draw_81 : decode cX11_draw 81 = .ok (.iinc 3 1, 3) := by decide +kernel
theorem dX11_draw_84 : decode cX11_draw 84 = .ok (.goto (-61), 3) := by decide +kernel
theorem dX11_draw_87 : decode cX11_draw 87 = .ok (.aload_n 2, 1) := by decide +kernel
theorem dX11_draw_88 : decode cX11_draw 88 = .ok (.invokevirtual 234, 3) := by decide +kernel
theorem dX11_draw_91 : decode cX11_draw 91 = .ok (.ireturn, 1) := by decide +kernel
theorem dX11_marked_0 : decode cX11_marked 0 = .ok (.iload_n 1, 1) := by decide +kernel
theorem dX11_marked_1 : decode cX11_marked 1 = .ok (.invokestatic 213, 3) := by decide +kernel
theorem dX11_marked_4 : decode cX11_marked 4 = .ok (.ifCond .eq 19, 3) := by decide +kernel
theorem dX11_marked_7 : decode cX11_marked 7 = .ok (.iload_n 2, 1) := by decide +kernel
theorem dX11_marked_8 : decode cX11_marked 8 = .ok (.invokestatic 216, 3) := by decide +kernel
theorem dX11_marked_11 : decode cX11_marked 11 = .ok (.ifCond .eq 12, 3) := by decide +kernel
theorem dX11_marked_14 : decode cX11_marked 14 = .ok (.iload_n 3, 1) := by decide +kernel
theorem dX11_marked_15 : decode cX11_marked 15 = .ok (.iconst 0, 1) := by decide +kernel
theorem dX11_marked_16 : decode cX11_marked 16 = .ok (.iconst 1, 1) := by decide +kernel
theorem dX11_marked_17 : decode cX11_marked 17 = .ok (.invokestatic 94, 3) := by decide +kernel
theorem dX11_marked_20 : decode cX11_marked 20 = .ok (.ifCond .ne 6, 3) := by decide +kernel
theorem dX11_marked_23 : decode cX11_marked 23 = .ok (.ldc 98, 2) := by decide +kernel
theorem dX11_marked_25 : decode cX11_marked 25 = .ok (.ireturn, 1) := by decide +kernel
theorem dX11_marked_26 : decode cX11_marked 26 = .ok (.aload_n 0, 1) := by decide +kernel
theorem dX11_marked_27 : decode cX11_marked 27 = .ok (.getfield 41, 3) := by decide +kernel
theorem dX11_marked_30 : decode cX11_marked 30 = .ok (.iload_n 1, 1) := by decide +kernel
theorem dX11_marked_31 : decode cX11_marked 31 = .ok (.aaload, 1) := by decide +kernel
theorem dX11_marked_32 : decode cX11_marked 32 = .ok (.astore 4, 2) := by decide +kernel
theorem dX11_marked_34 : decode cX11_marked 34 = .ok (.aload 4, 2) := by decide +kernel
theorem dX11_marked_36 : decode cX11_marked 36 = .ok (.getfield 222, 3) := by decide +kernel
theorem dX11_marked_39 : decode cX11_marked 39 = .ok (.iload_n 2, 1) := by decide +kernel
theorem dX11_marked_40 : decode cX11_marked 40 = .ok (.baload, 1) := by decide +kernel
theorem dX11_marked_41 : decode cX11_marked 41 = .ok (.ifCond .ne 6, 3) := by decide +kernel
theorem dX11_marked_44 : decode cX11_marked 44 = .ok (.ldc 237, 2) := by decide +kernel
theorem dX11_marked_46 : decode cX11_marked 46 = .ok (.ireturn, 1) := by decide +kernel
theorem dX11_marked_47 : decode cX11_marked 47 = .ok (.iload_n 3, 1) := by decide +kernel
theorem dX11_marked_48 : decode cX11_marked 48 = .ok (.ifCond .ne 13, 3) := by decide +kernel
theorem dX11_marked_51 : decode cX11_marked 51 = .ok (.aload 4, 2) := by decide +kernel
theorem dX11_marked_53 : decode cX11_marked 53 = .ok (.getfield 238, 3) := by decide +kernel
theorem dX11_marked_56 : decode cX11_marked 56 = .ok (.iload_n 2, 1) := by decide +kernel
theorem dX11_marked_57 : decode cX11_marked 57 = .ok (.iaload, 1) := by decide +kernel
theorem dX11_marked_58 : decode cX11_marked 58 = .ok (.goto 10, 3) := by decide +kernel
theorem dX11_marked_61 : decode cX11_marked 61 = .ok (.aload 4, 2) := by decide +kernel
theorem dX11_marked_63 : decode cX11_marked 63 = .ok (.getfield 240, 3) := by decide +kernel
theorem dX11_marked_66 : decode cX11_marked 66 = .ok (.iload_n 2, 1) := by decide +kernel
theorem dX11_marked_67 : decode cX11_marked 67 = .ok (.iaload, 1) := by decide +kernel
theorem dX11_marked_68 : decode cX11_marked 68 = .ok (.ireturn, 1) := by decide +kernel
theorem dX11_joined_0 : decode cX11_joined 0 = .ok (.iload_n 1, 1) := by decide +kernel
theorem dX11_joined_1 : decode cX11_joined 1 = .ok (.invokestatic 213, 3) := by decide +kernel
theorem dX11_joined_4 : decode cX11_joined 4 = .ok (.ifCond .eq 19, 3) := by decide +kernel
theorem dX11_joined_7 : decode cX11_joined 7 = .ok (.iload_n 2, 1) := by decide +kernel
theorem dX11_joined_8 : decode cX11_joined 8 = .ok (.invokestatic 213, 3) := by decide +kernel
theorem dX11_joined_11 : decode cX11_joined 11 = .ok (.ifCond .eq 12, 3) := by decide +kernel
