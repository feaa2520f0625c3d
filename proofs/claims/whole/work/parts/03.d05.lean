theorem dX12_downOf_24 : decode cX12_downOf 24 = .ok (.idiv, 1) := by decide +kernel
theorem dX12_downOf_25 : decode cX12_downOf 25 = .ok (.istore_n 2, 1) := by decide +kernel
theorem dX12_downOf_26 : decode cX12_downOf 26 = .ok (.aload_n 0, 1) := by decide +kernel
theorem dX12_downOf_27 : decode cX12_downOf 27 = .ok (.getfield 19, 3) := by decide +kernel
theorem dX12_downOf_30 : decode cX12_downOf 30 = .ok (.iconst 3, 1) := by decide +kernel
theorem dX12_downOf_31 : decode cX12_downOf 31 = .ok (.iaload, 1) := by decide +kernel
theorem dX12_downOf_32 : decode cX12_downOf 32 = .ok (.iconst 1, 1) := by decide +kernel
theorem dX12_downOf_33 : decode cX12_downOf 33 = .ok (.if_icmp .ne 7, 3) := by decide +kernel
theorem dX12_downOf_36 : decode cX12_downOf 36 = .ok (.iload_n 2, 1) := by decide +kernel
theorem dX12_downOf_37 : decode cX12_downOf 37 = .ok (.goto 5, 3) := by decide +kernel
theorem dX12_downOf_40 : decode cX12_downOf 40 = .ok (.iload_n 2, 1) := by decide +kernel
theorem dX12_downOf_41 : decode cX12_downOf 41 = .ok (.ineg, 1) := by decide +kernel
theorem dX12_downOf_42 : decode cX12_downOf 42 = .ok (.ireturn, 1) := by decide +kernel
theorem dX12_size_0 : decode cX12_size 0 = .ok (.iload_n 0, 1) := by decide +kernel
theorem dX12_size_1 : decode cX12_size 1 = .ok (.ifCond .ge 8, 3) := by decide +kernel
theorem dX12_size_4 : decode cX12_size 4 = .ok (.iload_n 0, 1) := by decide +kernel
theorem dX12_size_5 : decode cX12_size 5 = .ok (.ineg, 1) := by decide +kernel
theorem dX12_size_6 : decode cX12_size 6 = .ok (.goto 4, 3) := by decide +kernel
theorem dX12_size_9 : decode cX12_size 9 = .ok (.iload_n 0, 1) := by decide +kernel
theorem dX12_size_10 : decode cX12_size 10 = .ok (.ireturn, 1) := by decide +kernel
theorem dX12_blurBy_0 : decode cX12_blurBy 0 = .ok (.aload_n 0, 1) := by decide +kernel
theorem dX12_blurBy_1 : decode cX12_blurBy 1 = .ok (.getfield 31, 3) := by decide +kernel
theorem dX12_blurBy_4 : decode cX12_blurBy 4 = .ok (.iload_n 1, 1) := by decide +kernel
theorem dX12_blurBy_5 : decode cX12_blurBy 5 = .ok (.iaload, 1) := by decide +kernel
theorem dX12_blurBy_6 : decode cX12_blurBy 6 = .ok (.istore_n 3, 1) := by decide +kernel
theorem dX12_blurBy_7 : decode cX12_blurBy 7 = .ok (.aload_n 0, 1) := by decide +kernel
theorem dX12_blurBy_8 : decode cX12_blurBy 8 = .ok (.getfield 19, 3) := by decide +kernel
theorem dX12_blurBy_11 : decode cX12_blurBy 11 = .ok (.iconst 0, 1) := by decide +kernel
theorem dX12_blurBy_12 : decode cX12_blurBy 12 = .ok (.iaload, 1) := by decide +kernel
theorem dX12_blurBy_13 : decode cX12_blurBy 13 = .ok (.istore 4, 2) := by decide +kernel
theorem dX12_blurBy_15 : decode cX12_blurBy 15 = .ok (.iload 4, 2) := by decide +kernel
theorem dX12_blurBy_17 : decode cX12_blurBy 17 = .ok (.ifCond .ne 18, 3) := by decide +kernel
theorem dX12_blurBy_20 : decode cX12_blurBy 20 = .ok (.aload_n 0, 1) := by decide +kernel
theorem dX12_blurBy_21 : decode cX12_blurBy 21 = .ok (.getfield 19, 3) := by decide +kernel
theorem dX12_blurBy_24 : decode cX12_blurBy 24 = .ok (.iconst 1, 1) := by decide +kernel
theorem dX12_blurBy_25 : decode cX12_blurBy 25 = .ok (.iaload, 1) := by decide +kernel
theorem dX12_blurBy_26 : decode cX12_blurBy 26 = .ok (.iload_n 3, 1) := by decide +kernel
theorem dX12_blurBy_27 : decode cX12_blurBy 27 = .ok (.iload_n 2, 1) := by decide +kernel
theorem dX12_blurBy_28 : decode cX12_blurBy 28 = .ok (.iadd, 1) := by decide +kernel
theorem dX12_blurBy_29 : decode cX12_blurBy 29 = .ok (.imul, 1) := by decide +kernel
theorem dX12_blurBy_30 : decode cX12_blurBy 30 = .ok (.iload_n 3, 1) := by decide +kernel
theorem dX12_blurBy_31 : decode cX12_blurBy 31 = .ok (.idiv, 1) := by decide +kernel
theorem dX12_blurBy_32 : decode cX12_blurBy 32 = .ok (.goto 29, 3) := by decide +kernel
theorem dX12_blurBy_35 : decode cX12_blurBy 35 = .ok (.aload_n 0, 1) := by decide +kernel
theorem dX12_blurBy_36 : decode cX12_blurBy 36 = .ok (.getfield 19, 3) := by decide +kernel
theorem dX12_blurBy_39 : decode cX12_blurBy 39 = .ok (.iconst 1, 1) := by decide +kernel
theorem dX12_blurBy_40 : decode cX12_blurBy 40 = .ok (.iaload, 1) := by decide +kernel
theorem dX12_blurBy_41 : decode cX12_blurBy 41 = .ok (.iload_n 2, 1) := by decide +kernel
theorem dX12_blurBy_42 : decode cX12_blurBy 42 = .ok (.iload_n 3, 1) := by decide +kernel
theorem dX12_blurBy_43 : decode cX12_blurBy 43 = .ok (.iload 4, 2) := by decide +kernel
theorem dX12_blurBy_45 : decode cX12_blurBy 45 = .ok (.isub, 1) := by decide +kernel
theorem dX12_blurBy_46 : decode cX12_blurBy 46 = .ok (.imul, 1) := by decide +kernel
theorem dX12_blurBy_47 : decode cX12_blurBy 47 = .ok (.iload 4, 2) := by decide +kernel
theorem dX12_blurBy_49 : decode cX12_blurBy 49 = .ok (.iload_n 3, 1) := by decide +kernel
theorem dX12_blurBy_50 : decode cX12_blurBy 50 = .ok (.imul, 1) := by decide +kernel
theorem dX12_blurBy_51 : decode cX12_blurBy 51 = .ok (.isub, 1) := by decide +kernel
theorem dX12_blurBy_52 : decode cX12_blurBy 52 = .ok (.invokestatic 123, 3) := by decide +kernel
theorem dX12_blurBy_55 : decode cX12_blurBy 55 = .ok (.imul, 1) := by decide +kernel
theorem dX12_blurBy_56 : decode cX12_blurBy 56 = .ok (.iload 4, 2) := by decide +kernel
theorem dX12_blurBy_58 : decode cX12_blurBy 58 = .ok (.iload_n 3, 1) := by decide +kernel
theorem dX12_blurBy_59 : decode cX12_blurBy 59 = .ok (.imul, 1) := by decide +kernel
theorem dX12_blurBy_60 : decode cX12_blurBy 60 = .ok (.idiv, 1) := by decide +kernel
theorem dX12_blurBy_61 : decode cX12_blurBy 61 = .ok (.ireturn, 1) := by decide +kernel
theorem dX12_blurOf_0 : decode cX12_blurOf 0 = .ok (.aload_n 0, 1) := by decide +kernel
theorem dX12_blurOf_1 : decode cX12_blurOf 1 = .ok (.iload_n 1, 1) := by decide +kernel
theorem dX12_blurOf_2 : decode cX12_blurOf 2 = .ok (.aload_n 0, 1) := by decide +kernel
theorem dX12_blurOf_3 : decode cX12_blurOf 3 = .ok (.iload_n 1, 1) := by decide +kernel
theorem dX12_blurOf_4 : decode cX12_blurOf 4 = .ok (.aload_n 0, 1) := by decide +kernel
theorem dX12_blurOf_5 : decode cX12_blurOf 5 = .ok (.getfield 19, 3) := by decide +kernel
theorem dX12_blurOf_8 : decode cX12_blurOf 8 = .ok (.iconst 2, 1) := by decide +kernel
theorem dX12_blurOf_9 : decode cX12_blurOf 9 = .ok (.iaload, 1) := by decide +kernel
theorem dX12_blurOf_10 : decode cX12_blurOf 10 = .ok (.invokevirtual 120, 3) := by decide +kernel
theorem dX12_blurOf_13 : decode cX12_blurOf 13 = .ok (.invokevirtual 126, 3) := by decide +kernel
theorem dX12_blurOf_16 : decode cX12_blurOf 16 = .ok (.ireturn, 1) := by decide +kernel
theorem dX12_picture_0 : decode cX12_picture 0 = .ok (.aload_n 0, 1) := by decide +kernel
theorem dX12_picture_1 : decode cX12_picture 1 = .ok (.iconst 0, 1) := by decide +kernel
theorem dX12_picture_2 : decode cX12_picture 2 = .ok (.putfield 59, 3) := by decide +kernel
theorem dX12_picture_5 : decode cX12_picture 5 = .ok (.aload_n 0, 1) := by decide +kernel
theorem dX12_picture_6 : decode cX12_picture 6 = .ok (.iload_n 1, 1) := by decide +kernel
theorem dX12_picture_7 : decode cX12_picture 7 = .ok (.invokevirtual 110, 3) := by decide +kernel
theorem dX12_picture_10 : decode cX12_picture 10 = .ok (.ifCond .eq 15, 3) := by decide +kernel
theorem dX12_picture_13 : decode cX12_picture 13 = .ok (.iload_n 2, 1) := by decide +kernel
theorem dX12_picture_14 : decode cX12_picture 14 = .ok (.i2l, 1) := by decide +kernel
theorem dX12_picture_15 : decode cX12_picture 15 = .ok (.lconst 0, 1) := by decide +kernel
theorem dX12_picture_16 : decode cX12_picture 16 = .ok (.ldc2_w 88, 3) := by decide +kernel
theorem dX12_picture_19 : decode cX12_picture 19 = .ok (.invokestatic 69, 3) := by decide +kernel
theorem dX12_picture_22 : decode cX12_picture 22 = .ok (.ifCond .ne 6, 3) := by decide +kernel
theorem dX12_picture_25 : decode cX12_picture 25 = .ok (.ldc 79, 2) := by decide +kernel
theorem dX12_picture_27 : decode cX12_picture 27 = .ok (.ireturn, 1) := by decide +kernel
theorem dX12_picture_28 : decode cX12_picture 28 = .ok (.aload_n 0, 1) := by decide +kernel
theorem dX12_picture_29 : decode cX12_picture 29 = .ok (.getfield 19, 3) := by decide +kernel
theorem dX12_picture_32 : decode cX12_picture 32 = .ok (.iconst 2, 1) := by decide +kernel
theorem dX12_picture_33 : decode cX12_picture 33 = .ok (.iaload, 1) := by decide +kernel
theorem dX12_picture_34 : decode cX12_picture 34 = .ok (.istore_n 3, 1) := by decide +kernel
theorem dX12_picture_35 : decode cX12_picture 35 = .ok (.iload_n 2, 1) := by decide +kernel
theorem dX12_picture_36 : decode cX12_picture 36 = .ok (.tableswitch 102 0 7 #[48, 55, 62, 69, 76, 83, 90, 96], 48) := by decide +kernel
theorem dX12_picture_84 : decode cX12_picture 84 = .ok (.aload_n 0, 1) := by decide +kernel
theorem dX12_picture_85 : decode cX12_picture 85 = .ok (.getfield 25, 3) := by decide +kernel
theorem dX12_picture_88 : decode cX12_picture 88 = .ok (.iload_n 1, 1) := by decide +kernel
theorem dX12_picture_89 : decode cX12_picture 89 = .ok (.iaload, 1) := by decide +kernel
theorem dX12_picture_90 : decode cX12_picture 90 = .ok (.ireturn, 1) := by decide +kernel
theorem dX12_picture_91 : decode cX12_picture 91 = .ok (.aload_n 0, 1) := by decide +kernel
theorem dX12_picture_92 : decode cX12_picture 92 = .ok (.getfield 28, 3) := by decide +kernel
theorem dX12_picture_95 : decode cX12_picture 95 = .ok (.iload_n 1, 1) := by decide +kernel
theorem dX12_picture_96 : decode cX12_picture 96 = .ok (.iaload, 1) := by decide +kernel
theorem dX12_picture_97 : decode cX12_picture 97 = .ok (.ireturn, 1) := by decide +kernel
theorem dX12_picture_98 : decode cX12_picture 98 = .ok (.aload_n 0, 1) := by decide +kernel
theorem dX12_picture_99 : decode cX12_picture 99 = .ok (.getfield 31, 3) := by decide +kernel
theorem dX12_picture_102 : decode cX12_picture 102 = .ok (.iload_n 1, 1) := by decide +kernel
theorem dX12_picture_103 : decode cX12_picture 103 = .ok (.iaload, 1) := by decide +kernel
theorem dX12_picture_104 : decode cX12_picture 104 = .ok (.ireturn, 1) := by decide +kernel
theorem dX12_picture_105 : decode cX12_picture 105 = .ok (.aload_n 0, 1) := by decide +kernel
theorem dX12_picture_106 : decode cX12_picture 106 = .ok (.iload_n 1, 1) := by decide +kernel
theorem dX12_picture_107 : decode cX12_picture 107 = .ok (.iload_n 3, 1) := by decide +kernel
theorem dX12_picture_108 : decode cX12_picture 108 = .ok (.invokevirtual 113, 3) := by decide +kernel
theorem dX12_picture_111 : decode cX12_picture 111 = .ok (.ireturn, 1) := by decide +kernel
theorem dX12_picture_112 : decode cX12_picture 112 = .ok (.aload_n 0, 1) := by decide +kernel
theorem dX12_picture_113 : decode cX12_picture 113 = .ok (.iload_n 1, 1) := by decide +kernel
theorem dX12_picture_114 : decode cX12_picture 114 = .ok (.iload_n 3, 1) := by decide +kernel
theorem dX12_picture_115 : decode cX12_picture 115 = .ok (.invokevirtual 117, 3) := by decide +kernel
theorem dX12_picture_118 : decode cX12_picture 118 = .ok (.ireturn, 1) := by decide +kernel
theorem dX12_picture_119 : decode cX12_picture 119 = .ok (.aload_n 0, 1) := by decide +kernel
theorem dX12_picture_120 : decode cX12_picture 120 = .ok (.iload_n 1, 1) := by decide +kernel
theorem dX12_picture_121 : decode cX12_picture 121 = .ok (.iload_n 3, 1) := by decide +kernel
theorem dX12_picture_122 : decode cX12_picture 122 = .ok (.invokevirtual 120, 3) := by decide +kernel
theorem dX12_picture_125 : decode cX12_picture 125 = .ok (.ireturn, 1) := by decide +kernel
theorem dX12_picture_126 : decode cX12_picture 126 = .ok (.aload_n 0, 1) := by decide +kernel
theorem dX12_picture_127 : decode cX12_picture 127 = .ok (.iload_n 1, 1) := by decide +kernel
theorem dX12_picture_128 : decode cX12_picture 128 = .ok (.invokevirtual 129, 3) := by decide +kernel
theorem dX12_picture_131 : decode cX12_picture 131 = .ok (.ireturn, 1) := by decide +kernel
theorem dX12_picture_132 : decode cX12_picture 132 = .ok (.aload_n 0, 1) := by decide +kernel
theorem dX12_picture_133 : decode cX12_picture 133 = .ok (.iload_n 1, 1) := by decide +kernel
theorem dX12_picture_134 : decode cX12_picture 134 = .ok (.invokevirtual 132, 3) := by decide +kernel
theorem dX12_picture_137 : decode cX12_picture 137 = .ok (.ireturn, 1) := by decide +kernel
theorem dX12_picture_138 : decode cX12_picture 138 = .ok (.aload_n 0, 1) := by decide +kernel
theorem dX12_picture_139 : decode cX12_picture 139 = .ok (.iload_n 1, 1) := by decide +kernel
theorem dX12_picture_140 : decode cX12_picture 140 = .ok (.invokevirtual 135, 3) := by decide +kernel
theorem dX12_picture_143 : decode cX12_picture 143 = .ok (.ireturn, 1) := by decide +kernel
theorem dX12_focused_0 : decode cX12_focused 0 = .ok (.aload_n 0, 1) := by decide +kernel
theorem dX12_focused_1 : decode cX12_focused 1 = .ok (.iconst 0, 1) := by decide +kernel
theorem dX12_focused_2 : decode cX12_focused 2 = .ok (.putfield 59, 3) := by decide +kernel
theorem dX12_focused_5 : decode cX12_focused 5 = .ok (.aload_n 0, 1) := by decide +kernel
theorem dX12_focused_6 : decode cX12_focused 6 = .ok (.iload_n 1, 1) := by decide +kernel
theorem dX12_focused_7 : decode cX12_focused 7 = .ok (.invokevirtual 110, 3) := by decide +kernel
theorem dX12_focused_10 : decode cX12_focused 10 = .ok (.ifCond .eq 13, 3) := by decide +kernel
theorem dX12_focused_13 : decode cX12_focused 13 = .ok (.iload_n 2, 1) := by decide +kernel
theorem dX12_focused_14 : decode cX12_focused 14 = .ok (.i2l, 1) := by decide +kernel
theorem dX12_focused_15 : decode cX12_focused 15 = .ok (.lconst 0, 1) := by decide +kernel
theorem dX12_focused_16 : decode cX12_focused 16 = .ok (.lconst 1, 1) := by decide +kernel
theorem dX12_focused_17 : decode cX12_focused 17 = .ok (.invokestatic 69, 3) := by decide +kernel
theorem dX12_focused_20 : decode cX12_focused 20 = .ok (.ifCond .ne 6, 3) := by decide +kernel
theorem dX12_focused_23 : decode cX12_focused 23 = .ok (.ldc 79, 2) := by decide +kernel
theorem dX12_focused_25 : decode cX12_focused 25 = .ok (.ireturn, 1) := by decide +kernel
theorem dX12_focused_26 : decode cX12_focused 26 = .ok (.iconst 1, 1) := by decide +kernel
theorem dX12_focused_27 : decode cX12_focused 27 = .ok (.istore_n 3, 1) := by decide +kernel
theorem dX12_focused_28 : decode cX12_focused 28 = .ok (.aload_n 0, 1) := by decide +kernel
theorem dX12_focused_29 : decode cX12_focused 29 = .ok (.iload_n 1, 1) := by decide +kernel
theorem dX12_focused_30 : decode cX12_focused 30 = .ok (.aload_n 0, 1) := by decide +kernel
theorem dX12_focused_31 : decode cX12_focused 31 = .ok (.iload_n 1, 1) := by decide +kernel
theorem dX12_focused_32 : decode cX12_focused 32 = .ok (.iconst 1, 1) := by decide +kernel
theorem dX12_focused_33 : decode cX12_focused 33 = .ok (.invokevirtual 120, 3) := by decide +kernel
theorem dX12_focused_36 : decode cX12_focused 36 = .ok (.invokevirtual 126, 3) := by decide +kernel
theorem dX12_focused_39 : decode cX12_focused 39 = .ok (.istore 4, 2) := by decide +kernel
theorem dX12_focused_41 : decode cX12_focused 41 = .ok (.iconst 2, 1) := by decide +kernel
theorem dX12_focused_42 : decode cX12_focused 42 = .ok (.istore 5, 2) := by decide +kernel
theorem dX12_focused_44 : decode cX12_focused 44 = .ok (.iload 5, 2) := by decide +kernel
theorem dX12_focused_46 : decode cX12_focused 46 = .ok (.sipush 1000, 3) := by decide +kernel
theorem dX12_focused_49 : decode cX12_focused 49 = .ok (.if_icmp .gt 37, 3) := by decide +kernel
theorem dX12_focused_52 : decode cX12_focused 52 = .ok (.aload_n 0, 1) := by decide +kernel
theorem dX12_focused_53 : decode cX12_focused 53 = .ok (.iload_n 1, 1) := by decide +kernel
theorem dX12_focused_54 : decode cX12_focused 54 = .ok (.aload_n 0, 1) := by decide +kernel
theorem dX12_focused_55 : decode cX12_focused 55 = .ok (.iload_n 1, 1) := by decide +kernel
theorem dX12_focused_56 : decode cX12_focused 56 = .ok (.iload 5, 2) := by decide +kernel
theorem dX12_focused_58 : decode cX12_focused 58 = .ok (.invokevirtual 120, 3) := by decide +kernel
theorem dX12_focused_61 : decode cX12_focused 61 = .ok (.invokevirtual 126, 3) := by decide +kernel
theorem dX12_focused_64 : decode cX12_focused 64 = .ok (.istore 6, 2) := by decide +kernel
theorem dX12_focused_66 : decode cX12_focused 66 = .ok (.iload 6, 2) := by decide +kernel
theorem dX12_focused_68 : decode cX12_focused 68 = .ok (.iload 4, 2) := by decide +kernel
theorem dX12_focused_70 : decode cX12_focused 70 = .ok (.if_icmp .ge 10, 3) := by decide +kernel
theorem dX12_focused_73 : decode cX12_focused 73 = .ok (.iload 6, 2) := by decide +kernel
theorem dX12_focused_75 : decode cX12_focused 75 = .ok (.istore 4, 2) := by decide +kernel
theorem dX12_focused_77 : decode cX12_focused 77 = .ok (.iload 5, 2) := by decide +kernel
theorem dX12_focused_79 : decode cX12_focused 79 = .ok (.istore_n 3, 1) := by decide +kernel
theorem dX12_focused_80 : decode cX12_focused 80 = .ok (.iinc 5 1, 3) := by decide +kernel
theorem dX12_focused_83 : decode cX12_focused 83 = .ok (.goto (-39), 3) := by decide +kernel
theorem dX12_focused_86 : decode cX12_focused 86 = .ok (.iload_n 2, 1) := by decide +kernel
theorem dX12_focused_87 : decode cX12_focused 87 = .ok (.ifCond .ne 7, 3) := by decide +kernel
theorem dX12_focused_90 : decode cX12_focused 90 = .ok (.iload_n 3, 1) := by decide +kernel
theorem dX12_focused_91 : decode cX12_focused 91 = .ok (.goto 5, 3) := by decide +kernel
theorem dX12_focused_94 : decode cX12_focused 94 = .ok (.iload 4, 2) := by decide +kernel
theorem dX12_focused_96 : decode cX12_focused 96 = .ok (.ireturn, 1) := by decide +kernel
theorem dX12_bent_0 : decode cX12_bent 0 = .ok (.aload_n 0, 1) := by decide +kernel
theorem dX12_bent_1 : decode cX12_bent 1 = .ok (.iconst 0, 1) := by decide +kernel
theorem dX12_bent_2 : decode cX12_bent 2 = .ok (.putfield 59, 3) := by decide +kernel
theorem dX12_bent_5 : decode cX12_bent 5 = .ok (.iconst 0, 1) := by decide +kernel
theorem dX12_bent_6 : decode cX12_bent 6 = .ok (.istore_n 1, 1) := by decide +kernel
theorem dX12_bent_7 : decode cX12_bent 7 = .ok (.bipush (-8), 2) := by decide +kernel
theorem dX12_bent_9 : decode cX12_bent 9 = .ok (.istore_n 2, 1) := by decide +kernel
theorem dX12_bent_10 : decode cX12_bent 10 = .ok (.iload_n 2, 1) := by decide +kernel
theorem dX12_bent_11 : decode cX12_bent 11 = .ok (.bipush 9, 2) := by decide +kernel
theorem dX12_bent_13 : decode cX12_bent 13 = .ok (.if_icmp .ge 183, 3) := by decide +kernel
theorem dX12_bent_16 : decode cX12_bent 16 = .ok (.iconst 0, 1) := by decide +kernel
theorem dX12_bent_17 : decode cX12_bent 17 = .ok (.istore_n 3, 1) := by decide +kernel
theorem dX12_bent_18 : decode cX12_bent 18 = .ok (.ldc2_w 138, 3) := by decide +kernel
theorem dX12_bent_21 : decode cX12_bent 21 = .ok (.lstore 4, 2) := by decide +kernel
theorem dX12_bent_23 : decode cX12_bent 23 = .ok (.iconst 0, 1) := by decide +kernel
theorem dX12_bent_24 : decode cX12_bent 24 = .ok (.istore 6, 2) := by decide +kernel
theorem dX12_bent_26 : decode cX12_bent 26 = .ok (.iload 6, 2) := by decide +kernel
theorem dX12_bent_28 : decode cX12_bent 28 = .ok (.bipush 101, 2) := by decide +kernel
theorem dX12_bent_30 : decode cX12_bent 30 = .ok (.if_icmp .ge 138, 3) := by decide +kernel
theorem dX12_bent_33 : decode cX12_bent 33 = .ok (.iload 6, 2) := by decide +kernel
theorem dX12_bent_35 : decode cX12_bent 35 = .ok (.iconst 2, 1) := by decide +kernel
theorem dX12_bent_36 : decode cX12_bent 36 = .ok (.irem, 1) := by decide +kernel
theorem dX12_bent_37 : decode cX12_bent 37 = .ok (.iconst 1, 1) := by decide +kernel
theorem dX12_bent_38 : decode cX12_bent 38 = .ok (.if_icmp .ne 13, 3) := by decide +kernel
theorem dX12_bent_41 : decode cX12_bent 41 = .ok (.iload 6, 2) := by decide +kernel
theorem dX12_bent_43 : decode cX12_bent 43 = .ok (.iconst 1, 1) := by decide +kernel
theorem dX12_bent_44 : decode cX12_bent 44 = .ok (.iadd, 1) := by decide +kernel
theorem dX12_bent_45 : decode cX12_bent 45 = .ok (.ineg, 1) := by decide +kernel
theorem dX12_bent_46 : decode cX12_bent 46 = .ok (.iconst 2, 1) := by decide +kernel
theorem dX12_bent_47 : decode cX12_bent 47 = .ok (.idiv, 1) := by decide +kernel
theorem dX12_bent_48 : decode cX12_bent 48 = .ok (.goto 7, 3) := by decide +kernel
theorem dX12_bent_51 : decode cX12_bent 51 = .ok (.iload 6, 2) := by decide +kernel
theorem dX12_bent_53 : decode cX12_bent 53 = .ok (.iconst 2, 1) := by decide +kernel
theorem dX12_bent_54 : decode cX12_bent 54 = .ok (.idiv, 1) := by decide +kernel
theorem dX12_bent_55 : decode cX12_bent 55 = .ok (.istore 7, 2) := by decide +kernel
theorem dX12_bent_57 : decode cX12_bent 57 = .ok (.aload_n 0, 1) := by decide +kernel
theorem dX12_bent_58 : decode cX12_bent 58 = .ok (.getfield 19, 3) := by decide +kernel
theorem dX12_bent_61 : decode cX12_bent 61 = .ok (.iconst 2, 1) := by decide +kernel
theorem dX12_bent_62 : decode cX12_bent 62 = .ok (.iaload, 1) := by decide +kernel
theorem dX12_bent_63 : decode cX12_bent 63 = .ok (.iload 7, 2) := by decide +kernel
theorem dX12_bent_65 : decode cX12_bent 65 = .ok (.iadd, 1) := by decide +kernel
theorem dX12_bent_66 : decode cX12_bent 66 = .ok (.iconst 1, 1) := by decide +kernel
theorem dX12_bent_67 : decode cX12_bent 67 = .ok (.if_icmp .ge 7, 3) := by decide +kernel
theorem dX12_bent_70 : decode cX12_bent 70 = .ok (.iconst 1, 1) := by decide +kernel
theorem dX12_bent_71 : decode cX12_bent 71 = .ok (.goto 12, 3) := by decide +kernel
theorem dX12_bent_74 : decode cX12_bent 74 = .ok (.aload_n 0, 1) := by decide +kernel
theorem dX12_bent_75 : decode cX12_bent 75 = .ok (.getfield 19, 3) := by decide +kernel
theorem dX12_bent_78 : decode cX12_bent 78 = .ok (.iconst 2, 1) := by decide +kernel
theorem dX12_bent_79 : decode cX12_bent 79 = .ok (.iaload, 1) := by decide +kernel
theorem dX12_bent_80 : decode cX12_bent 80 = .ok (.iload 7, 2) := by decide +kernel
theorem dX12_bent_82 : decode cX12_bent 82 = .ok (.iadd, 1) := by decide +kernel
theorem dX12_bent_83 : decode cX12_bent 83 = .ok (.istore 8, 2) := by decide +kernel
theorem dX12_bent_85 : decode cX12_bent 85 = .ok (.lconst 0, 1) := by decide +kernel
theorem dX12_bent_86 : decode cX12_bent 86 = .ok (.lstore 9, 2) := by decide +kernel
theorem dX12_bent_88 : decode cX12_bent 88 = .ok (.iconst 0, 1) := by decide +kernel
theorem dX12_bent_89 : decode cX12_bent 89 = .ok (.istore 11, 2) := by decide +kernel
theorem dX12_bent_91 : decode cX12_bent 91 = .ok (.iload 11, 2) := by decide +kernel
theorem dX12_bent_93 : decode cX12_bent 93 = .ok (.aload_n 0, 1) := by decide +kernel
theorem dX12_bent_94 : decode cX12_bent 94 = .ok (.getfield 102, 3) := by decide +kernel
theorem dX12_bent_97 : decode cX12_bent 97 = .ok (.if_icmp .ge 43, 3) := by decide +kernel
theorem dX12_bent_100 : decode cX12_bent 100 = .ok (.lload 9, 2) := by decide +kernel
theorem dX12_bent_102 : decode cX12_bent 102 = .ok (.aload_n 0, 1) := by decide +kernel
theorem dX12_bent_103 : decode cX12_bent 103 = .ok (.iload 11, 2) := by decide +kernel
theorem dX12_bent_105 : decode cX12_bent 105 = .ok (.aload_n 0, 1) := by decide +kernel
theorem dX12_bent_106 : decode cX12_bent 106 = .ok (.getfield 19, 3) := by decide +kernel
theorem dX12_bent_109 : decode cX12_bent 109 = .ok (.iconst 2, 1) := by decide +kernel
theorem dX12_bent_110 : decode cX12_bent 110 = .ok (.iaload, 1) := by decide +kernel
theorem dX12_bent_111 : decode cX12_bent 111 = .ok (.invokevirtual 117, 3) := by decide +kernel
theorem dX12_bent_114 : decode cX12_bent 114 = .ok (.iload_n 2, 1) := by decide +kernel
theorem dX12_bent_115 : decode cX12_bent 115 = .ok (.if_icmp .ne 15, 3) := by decide +kernel
theorem dX12_bent_118 : decode cX12_bent 118 = .ok (.aload_n 0, 1) := by decide +kernel
theorem dX12_bent_119 : decode cX12_bent 119 = .ok (.iload 11, 2) := by decide +kernel
theorem dX12_bent_121 : decode cX12_bent 121 = .ok (.iload 8, 2) := by decide +kernel
theorem dX12_bent_123 : decode cX12_bent 123 = .ok (.invokevirtual 126, 3) := by decide +kernel
theorem dX12_bent_126 : decode cX12_bent 126 = .ok (.i2l, 1) := by decide +kernel
theorem dX12_bent_127 : decode cX12_bent 127 = .ok (.goto 4, 3) := by decide +kernel
theorem dX12_bent_130 : decode cX12_bent 130 = .ok (.lconst 0, 1) := by decide +kernel
theorem dX12_bent_131 : decode cX12_bent 131 = .ok (.ladd, 1) := by decide +kernel
theorem dX12_bent_132 : decode cX12_bent 132 = .ok (.lstore 9, 2) := by decide +kernel
theorem dX12_bent_134 : decode cX12_bent 134 = .ok (.iinc 11 1, 3) := by decide +kernel
theorem dX12_bent_137 : decode cX12_bent 137 = .ok (.goto (-46), 3) := by decide +kernel
theorem dX12_bent_140 : decode cX12_bent 140 = .ok (.lload 4, 2) := by decide +kernel
theorem dX12_bent_142 : decode cX12_bent 142 = .ok (.lconst 0, 1) := by decide +kernel
theorem dX12_bent_143 : decode cX12_bent 143 = .ok (.lcmp, 1) := by decide +kernel
theorem dX12_bent_144 : decode cX12_bent 144 = .ok (.ifCond .lt 11, 3) := by decide +kernel
theorem dX12_bent_147 : decode cX12_bent 147 = .ok (.lload 9, 2) := by decide +kernel
theorem dX12_bent_149 : decode cX12_bent 149 = .ok (.lload 4, 2) := by decide +kernel
theorem dX12_bent_151 : decode cX12_bent 151 = .ok (.lcmp, 1) := by decide +kernel
theorem dX12_bent_152 : decode cX12_bent 152 = .ok (.ifCond .ge 10, 3) := by decide +kernel
theorem dX12_bent_155 : decode cX12_bent 155 = .ok (.lload 9, 2) := by decide +kernel
theorem dX12_bent_157 : decode cX12_bent 157 = .ok (.lstore 4, 2) := by decide +kernel
theorem dX12_bent_159 : decode cX12_bent 159 = .ok (.iload 7, 2) := by decide +kernel
theorem dX12_bent_161 : decode cX12_bent 161 = .ok (.istore_n 3, 1) := by decide +kernel
theorem dX12_bent_162 : decode cX12_bent 162 = .ok (.iinc 6 1, 3) := by decide +kernel
theorem dX12_bent_165 : decode cX12_bent 165 = .ok (.goto (-139), 3) := by decide +kernel
theorem dX12_bent_168 : decode cX12_bent 168 = .ok (.aload_n 0, 1) := by decide +kernel
theorem dX12_bent_169 : decode cX12_bent 169 = .ok (.getfield 22, 3) := by decide +kernel
theorem dX12_bent_172 : decode cX12_bent 172 = .ok (.iload_n 2, 1) := by decide +kernel
theorem dX12_bent_173 : decode cX12_bent 173 = .ok (.bipush 8, 2) := by decide +kernel
theorem dX12_bent_175 : decode cX12_bent 175 = .ok (.iadd, 1) := by decide +kernel
theorem dX12_bent_176 : decode cX12_bent 176 = .ok (.iload_n 3, 1) := by decide +kernel
theorem dX12_bent_177 : decode cX12_bent 177 = .ok (.iastore, 1) := by decide +kernel
theorem dX12_bent_178 : decode cX12_bent 178 = .ok (.iload_n 1, 1) := by decide +kernel
theorem dX12_bent_179 : decode cX12_bent 179 = .ok (.iload_n 3, 1) := by decide +kernel
theorem dX12_bent_180 : decode cX12_bent 180 = .ok (.ifCond .ne 7, 3) := by decide +kernel
theorem dX12_bent_183 : decode cX12_bent 183 = .ok (.iconst 0, 1) := by decide +kernel
theorem dX12_bent_184 : decode cX12_bent 184 = .ok (.goto 4, 3) := by decide +kernel
theorem dX12_bent_187 : decode cX12_bent 187 = .ok (.iconst 1, 1) := by decide +kernel
theorem dX12_bent_188 : decode cX12_bent 188 = .ok (.iadd, 1) := by decide +kernel
theorem dX12_bent_189 : decode cX12_bent 189 = .ok (.istore_n 1, 1) := by decide +kernel
theorem dX12_bent_190 : decode cX12_bent 190 = .ok (.iinc 2 1, 3) := by decide +kernel
theorem dX12_bent_193 : decode cX12_bent 193 = .ok (.goto (-183), 3) := by decide +kernel
theorem dX12_bent_196 : decode cX12_bent 196 = .ok (.iload_n 1, 1) := by decide +kernel
theorem dX12_bent_197 : decode cX12_bent 197 = .ok (.ireturn, 1) := by decide +kernel
theorem dX12_isTrace_0 : decode cX12_isTrace 0 = .ok (.iload_n 0, 1) := by decide +kernel
theorem dX12_isTrace_1 : decode cX12_isTrace 1 = .ok (.i2l, 1) := by decide +kernel
theorem dX12_isTrace_2 : decode cX12_isTrace 2 = .ok (.lconst 0, 1) := by decide +kernel
theorem dX12_isTrace_3 : decode cX12_isTrace 3 = .ok (.ldc2_w 67, 3) := by decide +kernel
theorem dX12_isTrace_6 : decode cX12_isTrace 6 = .ok (.invokestatic 69, 3) := by decide +kernel
theorem dX12_isTrace_9 : decode cX12_isTrace 9 = .ok (.ireturn, 1) := by decide +kernel
theorem dX12_isNumber_0 : decode cX12_isNumber 0 = .ok (.iload_n 0, 1) := by decide +kernel
theorem dX12_isNumber_1 : decode cX12_isNumber 1 = .ok (.i2l, 1) := by decide +kernel
theorem dX12_isNumber_2 : decode cX12_isNumber 2 = .ok (.lconst 0, 1) := by decide +kernel
theorem dX12_isNumber_3 : decode cX12_isNumber 3 = .ok (.ldc2_w 94, 3) := by decide +kernel
theorem dX12_isNumber_6 : decode cX12_isNumber 6 = .ok (.invokestatic 69, 3) := by decide +kernel
theorem dX12_isNumber_9 : decode cX12_isNumber 9 = .ok (.ireturn, 1) := by decide +kernel
theorem dX12_mark_0 : decode cX12_mark 0 = .ok (.aload_n 0, 1) := by decide +kernel
theorem dX12_mark_1 : decode cX12_mark 1 = .ok (.iconst 0, 1) := by decide +kernel
theorem dX12_mark_2 : decode cX12_mark 2 = .ok (.putfield 59, 3) := by decide +kernel
theorem dX12_mark_5 : decode cX12_mark 5 = .ok (.iload_n 1, 1) := by decide +kernel
theorem dX12_mark_6 : decode cX12_mark 6 = .ok (.invokestatic 140, 3) := by decide +kernel
theorem dX12_mark_9 : decode cX12_mark 9 = .ok (.ifCond .eq 39, 3) := by decide +kernel
theorem dX12_mark_12 : decode cX12_mark 12 = .ok (.iload_n 2, 1) := by decide +kernel
theorem dX12_mark_13 : decode cX12_mark 13 = .ok (.invokestatic 143, 3) := by decide +kernel
theorem dX12_mark_16 : decode cX12_mark 16 = .ok (.ifCond .eq 32, 3) := by decide +kernel
theorem dX12_mark_19 : decode cX12_mark 19 = .ok (.iload_n 3, 1) := by decide +kernel
theorem dX12_mark_20 : decode cX12_mark 20 = .ok (.i2l, 1) := by decide +kernel
theorem dX12_mark_21 : decode cX12_mark 21 = .ok (.ldc2_w 96, 3) := by decide +kernel
theorem dX12_mark_24 : decode cX12_mark 24 = .ok (.ldc2_w 98, 3) := by decide +kernel
theorem dX12_mark_27 : decode cX12_mark 27 = .ok (.invokestatic 69, 3) := by decide +kernel
theorem dX12_mark_30 : decode cX12_mark 30 = .ok (.ifCond .eq 18, 3) := by decide +kernel
theorem dX12_mark_33 : decode cX12_mark 33 = .ok (.iload 4, 2) := by decide +kernel
theorem dX12_mark_35 : decode cX12_mark 35 = .ok (.i2l, 1) := by decide +kernel
theorem dX12_mark_36 : decode cX12_mark 36 = .ok (.ldc2_w 96, 3) := by decide +kernel
theorem dX12_mark_39 : decode cX12_mark 39 = .ok (.ldc2_w 98, 3) := by decide +kernel
theorem dX12_mark_42 : decode cX12_mark 42 = .ok (.invokestatic 69, 3) := by decide +kernel
theorem dX12_mark_45 : decode cX12_mark 45 = .ok (.ifCond .ne 6, 3) := by decide +kernel
theorem dX12_mark_48 : decode cX12_mark 48 = .ok (.ldc 79, 2) := by decide +kernel
theorem dX12_mark_50 : decode cX12_mark 50 = .ok (.ireturn, 1) := by decide +kernel
theorem dX12_mark_51 : decode cX12_mark 51 = .ok (.aload_n 0, 1) := by decide +kernel
theorem dX12_mark_52 : decode cX12_mark 52 = .ok (.getfield 34, 3) := by decide +kernel
theorem dX12_mark_55 : decode cX12_mark 55 = .ok (.bipush 24, 2) := by decide +kernel
theorem dX12_mark_57 : decode cX12_mark 57 = .ok (.iload_n 1, 1) := by decide +kernel
theorem dX12_mark_58 : decode cX12_mark 58 = .ok (.imul, 1) := by decide +kernel
theorem dX12_mark_59 : decode cX12_mark 59 = .ok (.iload_n 2, 1) := by decide +kernel
theorem dX12_mark_60 : decode cX12_mark 60 = .ok (.iadd, 1) := by decide +kernel
theorem dX12_mark_61 : decode cX12_mark 61 = .ok (.baload, 1) := by decide +kernel
theorem dX12_mark_62 : decode cX12_mark 62 = .ok (.istore 5, 2) := by decide +kernel
theorem dX12_mark_64 : decode cX12_mark 64 = .ok (.aload_n 0, 1) := by decide +kernel
theorem dX12_mark_65 : decode cX12_mark 65 = .ok (.getfield 34, 3) := by decide +kernel
theorem dX12_mark_68 : decode cX12_mark 68 = .ok (.bipush 24, 2) := by decide +kernel
theorem dX12_mark_70 : decode cX12_mark 70 = .ok (.iload_n 1, 1) := by decide +kernel
theorem dX12_mark_71 : decode cX12_mark 71 = .ok (.imul, 1) := by decide +kernel
theorem dX12_mark_72 : decode cX12_mark 72 = .ok (.iload_n 2, 1) := by decide +kernel
theorem dX12_mark_73 : decode cX12_mark 73 = .ok (.iadd, 1) := by decide +kernel
theorem dX12_mark_74 : decode cX12_mark 74 = .ok (.iconst 1, 1) := by decide +kernel
theorem dX12_mark_75 : decode cX12_mark 75 = .ok (.bastore, 1) := by decide +kernel
theorem dX12_mark_76 : decode cX12_mark 76 = .ok (.aload_n 0, 1) := by decide +kernel
theorem dX12_mark_77 : decode cX12_mark 77 = .ok (.getfield 38, 3) := by decide +kernel
theorem dX12_mark_80 : decode cX12_mark 80 = .ok (.bipush 24, 2) := by decide +kernel
theorem dX12_mark_82 : decode cX12_mark 82 = .ok (.iload_n 1, 1) := by decide +kernel
theorem dX12_mark_83 : decode cX12_mark 83 = .ok (.imul, 1) := by decide +kernel
theorem dX12_mark_84 : decode cX12_mark 84 = .ok (.iload_n 2, 1) := by decide +kernel
theorem dX12_mark_85 : decode cX12_mark 85 = .ok (.iadd, 1) := by decide +kernel
theorem dX12_mark_86 : decode cX12_mark 86 = .ok (.iload_n 3, 1) := by decide +kernel
theorem dX12_mark_87 : decode cX12_mark 87 = .ok (.iastore, 1) := by decide +kernel
theorem dX12_mark_88 : decode cX12_mark 88 = .ok (.aload_n 0, 1) := by decide +kernel
theorem dX12_mark_89 : decode cX12_mark 89 = .ok (.getfield 41, 3) := by decide +kernel
theorem dX12_mark_92 : decode cX12_mark 92 = .ok (.bipush 24, 2) := by decide +kernel
theorem dX12_mark_94 : decode cX12_mark 94 = .ok (.iload_n 1, 1) := by decide +kernel
theorem dX12_mark_95 : decode cX12_mark 95 = .ok (.imul, 1) := by decide +kernel
theorem dX12_mark_96 : decode cX12_mark 96 = .ok (.iload_n 2, 1) := by decide +kernel
theorem dX12_mark_97 : decode cX12_mark 97 = .ok (.iadd, 1) := by decide +kernel
theorem dX12_mark_98 : decode cX12_mark 98 = .ok (.iload 4, 2) := by decide +kernel
theorem dX12_mark_100 : decode cX12_mark 100 = .ok (.iastore, 1) := by decide +kernel
theorem dX12_mark_101 : decode cX12_mark 101 = .ok (.iload 5, 2) := by decide +kernel
theorem dX12_mark_103 : decode cX12_mark 103 = .ok (.ifCond .eq 7, 3) := by decide +kernel
theorem dX12_mark_106 : decode cX12_mark 106 = .ok (.iconst 0, 1) := by decide +kernel
theorem dX12_mark_107 : decode cX12_mark 107 = .ok (.goto 4, 3) := by decide +kernel
theorem dX12_mark_110 : decode cX12_mark 110 = .ok (.iconst 1, 1) := by decide +kernel
theorem dX12_mark_111 : decode cX12_mark 111 = .ok (.ireturn, 1) := by decide +kernel
theorem dX12_rub_0 : decode cX12_rub 0 = .ok (.aload_n 0, 1) := by decide +kernel
theorem dX12_rub_1 : decode cX12_rub 1 = .ok (.iconst 0, 1) := by decide +kernel
theorem dX12_rub_2 : decode cX12_rub 2 = .ok (.putfield 59, 3) := by decide +kernel
theorem dX12_rub_5 : decode cX12_rub 5 = .ok (.iload_n 1, 1) := by decide +kernel
theorem dX12_rub_6 : decode cX12_rub 6 = .ok (.invokestatic 140, 3) := by decide +kernel
theorem dX12_rub_9 : decode cX12_rub 9 = .ok (.ifCond .eq 10, 3) := by decide +kernel
theorem dX12_rub_12 : decode cX12_rub 12 = .ok (.iload_n 2, 1) := by decide +kernel
theorem dX12_rub_13 : decode cX12_rub 13 = .ok (.invokestatic 143, 3) := by decide +kernel
theorem dX12_rub_16 : decode cX12_rub 16 = .ok (.ifCond .ne 6, 3) := by decide +kernel
theorem dX12_rub_19 : decode cX12_rub 19 = .ok (.ldc 79, 2) := by decide +kernel
theorem dX12_rub_21 : decode cX12_rub 21 = .ok (.ireturn, 1) := by decide +kernel
theorem dX12_rub_22 : decode cX12_rub 22 = .ok (.aload_n 0, 1) := by decide +kernel
theorem dX12_rub_23 : decode cX12_rub 23 = .ok (.getfield 34, 3) := by decide +kernel
theorem dX12_rub_26 : decode cX12_rub 26 = .ok (.bipush 24, 2) := by decide +kernel
theorem dX12_rub_28 : decode cX12_rub 28 = .ok (.iload_n 1, 1) := by decide +kernel
theorem dX12_rub_29 : decode cX12_rub 29 = .ok (.imul, 1) := by decide +kernel
theorem dX12_rub_30 : decode cX12_rub 30 = .ok (.iload_n 2, 1) := by decide +kernel
theorem dX12_rub_31 : decode cX12_rub 31 = .ok (.iadd, 1) := by decide +kernel
theorem dX12_rub_32 : decode cX12_rub 32 = .ok (.baload, 1) := by decide +kernel
theorem dX12_rub_33 : decode cX12_rub 33 = .ok (.istore_n 3, 1) := by decide +kernel
theorem dX12_rub_34 : decode cX12_rub 34 = .ok (.aload_n 0, 1) := by decide +kernel
theorem dX12_rub_35 : decode cX12_rub 35 = .ok (.getfield 34, 3) := by decide +kernel
theorem dX12_rub_38 : decode cX12_rub 38 = .ok (.bipush 24, 2) := by decide +kernel
theorem dX12_rub_40 : decode cX12_rub 40 = .ok (.iload_n 1, 1) := by decide +kernel
theorem dX12_rub_41 : decode cX12_rub 41 = .ok (.imul, 1) := by decide +kernel
theorem dX12_rub_42 : decode cX12_rub 42 = .ok (.iload_n 2, 1) := by decide +kernel
theorem dX12_rub_43 : decode cX12_rub 43 = .ok (.iadd, 1) := by decide +kernel
theorem dX12_rub_44 : decode cX12_rub 44 = .ok (.iconst 0, 1) := by decide +kernel
theorem dX12_rub_45 : decode cX12_rub 45 = .ok (.bastore, 1) := by decide +kernel
theorem dX12_rub_46 : decode cX12_rub 46 = .ok (.iload_n 3, 1) := by decide +kernel
theorem dX12_rub_47 : decode cX12_rub 47 = .ok (.ifCond .eq 7, 3) := by decide +kernel
theorem dX12_rub_50 : decode cX12_rub 50 = .ok (.iconst 1, 1) := by decide +kernel
theorem dX12_rub_51 : decode cX12_rub 51 = .ok (.goto 4, 3) := by decide +kernel
theorem dX12_rub_54 : decode cX12_rub 54 = .ok (.iconst 0, 1) := by decide +kernel
theorem dX12_rub_55 : decode cX12_rub 55 = .ok (.ireturn, 1) := by decide +kernel
theorem dX12_isSeen_0 : decode cX12_isSeen 0 = .ok (.aload_n 0, 1) := by decide +kernel
theorem dX12_isSeen_1 : decode cX12_isSeen 1 = .ok (.iload_n 1, 1) := by decide +kernel
theorem dX12_isSeen_2 : decode cX12_isSeen 2 = .ok (.invokevirtual 129, 3) := by decide +kernel
theorem dX12_isSeen_5 : decode cX12_isSeen 5 = .ok (.invokestatic 123, 3) := by decide +kernel
theorem dX12_isSeen_8 : decode cX12_isSeen 8 = .ok (.aload_n 0, 1) := by decide +kernel
theorem dX12_isSeen_9 : decode cX12_isSeen 9 = .ok (.getfield 19, 3) := by decide +kernel
theorem dX12_isSeen_12 : decode cX12_isSeen 12 = .ok (.iconst 5, 1) := by decide +kernel
theorem dX12_isSeen_13 : decode cX12_isSeen 13 = .ok (.iaload, 1) := by decide +kernel
theorem dX12_isSeen_14 : decode cX12_isSeen 14 = .ok (.if_icmp .gt 25, 3) := by decide +kernel
theorem dX12_isSeen_17 : decode cX12_isSeen 17 = .ok (.aload_n 0, 1) := by decide +kernel
theorem dX12_isSeen_18 : decode cX12_isSeen 18 = .ok (.iload_n 1, 1) := by decide +kernel
theorem dX12_isSeen_19 : decode cX12_isSeen 19 = .ok (.invokevirtual 132, 3) := by decide +kernel
theorem dX12_isSeen_22 : decode cX12_isSeen 22 = .ok (.invokestatic 123, 3) := by decide +kernel
theorem dX12_isSeen_25 : decode cX12_isSeen 25 = .ok (.aload_n 0, 1) := by decide +kernel
theorem dX12_isSeen_26 : decode cX12_isSeen 26 = .ok (.getfield 19, 3) := by decide +kernel
theorem dX12_isSeen_29 : decode cX12_isSeen 29 = .ok (.bipush 6, 2) := by decide +kernel
theorem dX12_isSeen_31 : decode cX12_isSeen 31 = .ok (.iaload, 1) := by decide +kernel
theorem dX12_isSeen_32 : decode cX12_isSeen 32 = .ok (.if_icmp .gt 7, 3) := by decide +kernel
theorem dX12_isSeen_35 : decode cX12_isSeen 35 = .ok (.iconst 1, 1) := by decide +kernel
theorem dX12_isSeen_36 : decode cX12_isSeen 36 = .ok (.goto 4, 3) := by decide +kernel
theorem dX12_isSeen_39 : decode cX12_isSeen 39 = .ok (.iconst 0, 1) := by decide +kernel
theorem dX12_isSeen_40 : decode cX12_isSeen 40 = .ok (.ireturn, 1) := by decide +kernel
theorem dX12_draw_0 : decode cX12_draw 0 = .ok (.aload_n 0, 1) := by decide +kernel
theorem dX12_draw_1 : decode cX12_draw 1 = .ok (.iconst 0, 1) := by decide +kernel
theorem dX12_draw_2 : decode cX12_draw 2 = .ok (.putfield 59, 3) := by decide +kernel
theorem dX12_draw_5 : decode cX12_draw 5 = .ok (.iload_n 1, 1) := by decide +kernel
theorem dX12_draw_6 : decode cX12_draw 6 = .ok (.invokestatic 140, 3) := by decide +kernel
theorem dX12_draw_9 : decode cX12_draw 9 = .ok (.ifCond .ne 6, 3) := by decide +kernel
theorem dX12_draw_12 : decode cX12_draw 12 = .ok (.ldc 79, 2) := by decide +kernel
theorem dX12_draw_14 : decode cX12_draw 14 = .ok (.ireturn, 1) := by decide +kernel
theorem dX12_draw_15 : decode cX12_draw 15 = .ok (.iconst 0, 1) := by decide +kernel
theorem dX12_draw_16 : decode cX12_draw 16 = .ok (.istore_n 2, 1) := by decide +kernel
theorem dX12_draw_17 : decode cX12_draw 17 = .ok (.iconst 0, 1) := by decide +kernel
theorem dX12_draw_18 : decode cX12_draw 18 = .ok (.istore_n 3, 1) := by decide +kernel
theorem dX12_draw_19 : decode cX12_draw 19 = .ok (.iload_n 3, 1) := by decide +kernel
theorem dX12_draw_20 : decode cX12_draw 20 = .ok (.bipush 24, 2) := by decide +kernel
theorem dX12_draw_22 : decode cX12_draw 22 = .ok (.if_icmp .ge 90, 3) := by decide +kernel
theorem dX12_draw_25 : decode cX12_draw 25 = .ok (.aload_n 0, 1) := by decide +kernel
theorem dX12_draw_26 : decode cX12_draw 26 = .ok (.getfield 34, 3) := by decide +kernel
theorem dX12_draw_29 : decode cX12_draw 29 = .ok (.bipush 24, 2) := by decide +kernel
theorem dX12_draw_31 : decode cX12_draw 31 = .ok (.iload_n 1, 1) := by decide +kernel
theorem dX12_draw_32 : decode cX12_draw 32 = .ok (.imul, 1) := by decide +kernel
theorem dX12_draw_33 : decode cX12_draw 33 = .ok (.iload_n 3, 1) := by decide +kernel
theorem dX12_draw_34 : decode cX12_draw 34 = .ok (.iadd, 1) := by decide +kernel
theorem dX12_draw_35 : decode cX12_draw 35 = .ok (.iload_n 3, 1) := by decide +kernel
theorem dX12_draw_36 : decode cX12_draw 36 = .ok (.aload_n 0, 1) := by decide +kernel
theorem dX12_draw_37 : decode cX12_draw 37 = .ok (.getfield 102, 3) := by decide +kernel
theorem dX12_draw_40 : decode cX12_draw 40 = .ok (.if_icmp .ge 15, 3) := by decide +kernel
theorem dX12_draw_43 : decode cX12_draw 43 = .ok (.aload_n 0, 1) := by decide +kernel
theorem dX12_draw_44 : decode cX12_draw 44 = .ok (.iload_n 3, 1) := by decide +kernel
theorem dX12_draw_45 : decode cX12_draw 45 = .ok (.invokevirtual 146, 3) := by decide +kernel
theorem dX12_draw_48 : decode cX12_draw 48 = .ok (.ifCond .eq 7, 3) := by decide +kernel
theorem dX12_draw_51 : decode cX12_draw 51 = .ok (.iconst 1, 1) := by decide +kernel
theorem dX12_draw_52 : decode cX12_draw 52 = .ok (.goto 4, 3) := by decide +kernel
theorem dX12_draw_55 : decode cX12_draw 55 = .ok (.iconst 0, 1) := by decide +kernel
theorem dX12_draw_56 : decode cX12_draw 56 = .ok (.bastore, 1) := by decide +kernel
theorem dX12_draw_57 : decode cX12_draw 57 = .ok (.aload_n 0, 1) := by decide +kernel
theorem dX12_draw_58 : decode cX12_draw 58 = .ok (.getfield 34, 3) := by decide +kernel
theorem dX12_draw_61 : decode cX12_draw 61 = .ok (.bipush 24, 2) := by decide +kernel
theorem dX12_draw_63 : decode cX12_draw 63 = .ok (.iload_n 1, 1) := by decide +kernel
theorem dX12_draw_64 : decode cX12_draw 64 = .ok (.imul, 1) := by decide +kernel
theorem dX12_draw_65 : decode cX12_draw 65 = .ok (.iload_n 3, 1) := by decide +kernel
theorem dX12_draw_66 : decode cX12_draw 66 = .ok (.iadd, 1) := by decide +kernel
theorem dX12_draw_67 : decode cX12_draw 67 = .ok (.baload, 1) := by decide +kernel
theorem dX12_draw_68 : decode cX12_draw 68 = .ok (.ifCond .eq 38, 3) := by decide +kernel
theorem dX12_draw_71 : decode cX12_draw 71 = .ok (.aload_n 0, 1) := by decide +kernel
theorem dX12_draw_72 : decode cX12_draw 72 = .ok (.getfield 38, 3) := by decide +kernel
theorem dX12_draw_75 : decode cX12_draw 75 = .ok (.bipush 24, 2) := by decide +kernel
theorem dX12_draw_77 : decode cX12_draw 77 = .ok (.iload_n 1, 1) := by decide +kernel
theorem dX12_draw_78 : decode cX12_draw 78 = .ok (.imul, 1) := by decide +kernel
theorem dX12_draw_79 : decode cX12_draw 79 = .ok (.iload_n 3, 1) := by decide +kernel
theorem dX12_draw_80 : decode cX12_draw 80 = .ok (.iadd, 1) := by decide +kernel
theorem dX12_draw_81 : decode cX12_draw 81 = .ok (.aload_n 0, 1) := by decide +kernel
theorem dX12_draw_82 : decode cX12_draw 82 = .ok (.iload_n 3, 1) := by decide +kernel
theorem dX12_draw_83 : decode cX12_draw 83 = .ok (.invokevirtual 129, 3) := by decide +kernel
theorem dX12_draw_86 : decode cX12_draw 86 = .ok (.iastore, 1) := by decide +kernel
theorem dX12_draw_87 : decode cX12_draw 87 = .ok (.aload_n 0, 1) := by decide +kernel
theorem dX12_draw_88 : decode cX12_draw 88 = .ok (.getfield 41, 3) := by decide +kernel
theorem dX12_draw_91 : decode cX12_draw 91 = .ok (.bipush 24, 2) := by decide +kernel
theorem dX12_draw_93 : decode cX12_draw 93 = .ok (.iload_n 1, 1) := by decide +kernel
theorem dX12_draw_94 : decode cX12_draw 94 = .ok (.imul, 1) := by decide +kernel
theorem dX12_draw_95 : decode cX12_draw 95 = .ok (.iload_n 3, 1) := by decide +kernel
theorem dX12_draw_96 : decode cX12_draw 96 = .ok (.iadd, 1) := by decide +kernel
theorem dX12_draw_97 : decode cX12_draw 97 = .ok (.aload_n 0, 1) := by decide +kernel
theorem dX12_draw_98 : decode cX12_draw 98 = .ok (.iload_n 3, 1) := by decide +kernel
theorem dX12_draw_99 : decode cX12_draw 99 = .ok (.invokevirtual 132, 3) := by decide +kernel
theorem dX12_draw_102 : decode cX12_draw 102 = .ok (.iastore, 1) := by decide +kernel
theorem dX12_draw_103 : decode cX12_draw 103 = .ok (.iinc 2 1, 3) := by decide +kernel
theorem dX12_draw_106 : decode cX12_draw 106 = .ok (.iinc 3 1, 3) := by decide +kernel
theorem dX12_draw_109 : decode cX12_draw 109 = .ok (.goto (-90), 3) := by decide +kernel
theorem dX12_draw_112 : decode cX12_draw 112 = .ok (.iload_n 2, 1) := by decide +kernel
theorem dX12_draw_113 : decode cX12_draw 113 = .ok (.ireturn, 1) := by decide +kernel
theorem dX12_marked_0 : decode cX12_marked 0 = .ok (.aload_n 0, 1) := by decide +kernel
theorem dX12_marked_1 : decode cX12_marked 1 = .ok (.iconst 0, 1) := by decide +kernel
theorem dX12_marked_2 : decode cX12_marked 2 = .ok (.putfield 59, 3) := by decide +kernel
theorem dX12_marked_5 : decode cX12_marked 5 = .ok (.iload_n 1, 1) := by decide +kernel
theorem dX12_marked_6 : decode cX12_marked 6 = .ok (.invokestatic 140, 3) := by decide +kernel
theorem dX12_marked_9 : decode cX12_marked 9 = .ok (.ifCond .eq 20, 3) := by decide +kernel
theorem dX12_marked_12 : decode cX12_marked 12 = .ok (.iload_n 2, 1) := by decide +kernel
theorem dX12_marked_13 : decode cX12_marked 13 = .ok (.invokestatic 143, 3) := by decide +kernel
theorem dX12_marked_16 : decode cX12_marked 16 = .ok (.ifCond .eq 13, 3) := by decide +kernel
theorem dX12_marked_19 : decode cX12_marked 19 = .ok (.iload_n 3, 1) := by decide +kernel
theorem dX12_marked_20 : decode cX12_marked 20 = .ok (.i2l, 1) := by decide +kernel
theorem dX12_marked_21 : decode cX12_marked 21 = .ok (.lconst 0, 1) := by decide +kernel
theorem dX12_marked_22 : decode cX12_marked 22 = .ok (.lconst 1, 1) := by decide +kernel
theorem dX12_marked_23 : decode cX12_marked 23 = .ok (.invokestatic 69, 3) := by decide +kernel
theorem dX12_marked_26 : decode cX12_marked 26 = .ok (.ifCond .ne 6, 3) := by decide +kernel
theorem dX12_marked_29 : decode cX12_marked 29 = .ok (.ldc 79, 2) := by decide +kernel
theorem dX12_marked_31 : decode cX12_marked 31 = .ok (.ireturn, 1) := by decide +kernel
theorem dX12_marked_32 : decode cX12_marked 32 = .ok (.aload_n 0, 1) := by decide +kernel
theorem dX12_marked_33 : decode cX12_marked 33 = .ok (.getfield 34, 3) := by decide +kernel
theorem dX12_marked_36 : decode cX12_marked 36 = .ok (.bipush 24, 2) := by decide +kernel
theorem dX12_marked_38 : decode cX12_marked 38 = .ok (.iload_n 1, 1) := by decide +kernel
theorem dX12_marked_39 : decode cX12_marked 39 = .ok (.imul, 1) := by decide +kernel
theorem dX12_marked_40 : decode cX12_marked 40 = .ok (.iload_n 2, 1) := by decide +kernel
theorem dX12_marked_41 : decode cX12_marked 41 = .ok (.iadd, 1) := by decide +kernel
theorem dX12_marked_42 : decode cX12_marked 42 = .ok (.baload, 1) := by decide +kernel
theorem dX12_marked_43 : decode cX12_marked 43 = .ok (.ifCond .ne 8, 3) := by decide +kernel
theorem dX12_marked_46 : decode cX12_marked 46 = .ok (.ldc 149, 2) := by decide +kernel
theorem dX12_marked_48 : decode cX12_marked 48 = .ok (.goto 32, 3) := by decide +kernel
theorem dX12_marked_51 : decode cX12_marked 51 = .ok (.iload_n 3, 1) := by decide +kernel
theorem dX12_marked_52 : decode cX12_marked 52 = .ok (.ifCond .ne 17, 3) := by decide +kernel
theorem dX12_marked_55 : decode cX12_marked 55 = .ok (.aload_n 0, 1) := by decide +kernel
theorem dX12_marked_56 : decode cX12_marked 56 = .ok (.getfield 38, 3) := by decide +kernel
theorem dX12_marked_59 : decode cX12_marked 59 = .ok (.bipush 24, 2) := by decide +kernel
theorem dX12_marked_61 : decode cX12_marked 61 = .ok (.iload_n 1, 1) := by decide +kernel
theorem dX12_marked_62 : decode cX12_marked 62 = .ok (.imul, 1) := by decide +kernel
theorem dX12_marked_63 : decode cX12_marked 63 = .ok (.iload_n 2, 1) := by decide +kernel
theorem dX12_marked_64 : decode cX12_marked 64 = .ok (.iadd, 1) := by decide +kernel
theorem dX12_marked_65 : decode cX12_marked 65 = .ok (.iaload, 1) := by decide +kernel
theorem dX12_marked_66 : decode cX12_marked 66 = .ok (.goto 14, 3) := by decide +kernel
theorem dX12_marked_69 : decode cX12_marked 69 = .ok (.aload_n 0, 1) := by decide +kernel
theorem dX12_marked_70 : decode cX12_marked 70 = .ok (.getfield 41, 3) := by decide +kernel
theorem dX12_marked_73 : decode cX12_marked 73 = .ok (.bipush 24, 2) := by decide +kernel
theorem dX12_marked_75 : decode cX12_marked 75 = .ok (.iload_n 1, 1) := by decide +kernel
theorem dX12_marked_76 : decode cX12_marked 76 = .ok (.imul, 1) := by decide +kernel
theorem dX12_marked_77 : decode cX12_marked 77 = .ok (.iload_n 2, 1) := by decide +kernel
theorem dX12_marked_78 : decode cX12_marked 78 = .ok (.iadd, 1) := by decide +kernel
theorem dX12_marked_79 : decode cX12_marked 79 = .ok (.iaload, 1) := by decide +kernel
theorem dX12_marked_80 : decode cX12_marked 80 = .ok (.ireturn, 1) := by decide +kernel
theorem dX12_middle_0 : decode cX12_middle 0 = .ok (.iconst 1, 1) := by decide +kernel
theorem dX12_middle_1 : decode cX12_middle 1 = .ok (.istore_n 1, 1) := by decide +kernel
theorem dX12_middle_2 : decode cX12_middle 2 = .ok (.iload_n 1, 1) := by decide +kernel
theorem dX12_middle_3 : decode cX12_middle 3 = .ok (.aload_n 0, 1) := by decide +kernel
theorem dX12_middle_4 : decode cX12_middle 4 = .ok (.getfield 150, 3) := by decide +kernel
theorem dX12_middle_7 : decode cX12_middle 7 = .ok (.if_icmp .ge 61, 3) := by decide +kernel
theorem dX12_middle_10 : decode cX12_middle 10 = .ok (.aload_n 0, 1) := by decide +kernel
theorem dX12_middle_11 : decode cX12_middle 11 = .ok (.getfield 44, 3) := by decide +kernel
theorem dX12_middle_14 : decode cX12_middle 14 = .ok (.iload_n 1, 1) := by decide +kernel
theorem dX12_middle_15 : decode cX12_middle 15 = .ok (.iaload, 1) := by decide +kernel
theorem dX12_middle_16 : decode cX12_middle 16 = .ok (.istore_n 2, 1) := by decide +kernel
theorem dX12_middle_17 : decode cX12_middle 17 = .ok (.iload_n 1, 1) := by decide +kernel
theorem dX12_middle_18 : decode cX12_middle 18 = .ok (.istore_n 3, 1) := by decide +kernel
theorem dX12_middle_19 : decode cX12_middle 19 = .ok (.iload_n 3, 1) := by decide +kernel
theorem dX12_middle_20 : decode cX12_middle 20 = .ok (.ifCond .le 35, 3) := by decide +kernel
theorem dX12_middle_23 : decode cX12_middle 23 = .ok (.aload_n 0, 1) := by decide +kernel
theorem dX12_middle_24 : decode cX12_middle 24 = .ok (.getfield 44, 3) := by decide +kernel
theorem dX12_middle_27 : decode cX12_middle 27 = .ok (.iload_n 3, 1) := by decide +kernel
theorem dX12_middle_28 : decode cX12_middle 28 = .ok (.iconst 1, 1) := by decide +kernel
theorem dX12_middle_29 : decode cX12_middle 29 = .ok (.isub, 1) := by decide +kernel
theorem dX12_middle_30 : decode cX12_middle 30 = .ok (.iaload, 1) := by decide +kernel
theorem dX12_middle_31 : decode cX12_middle 31 = .ok (.iload_n 2, 1) := by decide +kernel
theorem dX12_middle_32 : decode cX12_middle 32 = .ok (.if_icmp .le 23, 3) := by decide +kernel
theorem dX12_middle_35 : decode cX12_middle 35 = .ok (.aload_n 0, 1) := by decide +kernel
theorem dX12_middle_36 : decode cX12_middle 36 = .ok (.getfield 44, 3) := by decide +kernel
theorem dX12_middle_39 : decode cX12_middle 39 = .ok (.iload_n 3, 1) := by decide +kernel
theorem dX12_middle_40 : decode cX12_middle 40 = .ok (.aload_n 0, 1) := by decide +kernel
theorem dX12_middle_41 : decode cX12_middle 41 = .ok (.getfield 44, 3) := by decide +kernel
theorem dX12_middle_44 : decode cX12_middle 44 = .ok (.iload_n 3, 1) := by decide +kernel
theorem dX12_middle_45 : decode cX12_middle 45 = .ok (.iconst 1, 1) := by decide +kernel
theorem dX12_middle_46 : decode cX12_middle 46 = .ok (.isub, 1) := by decide +kernel
theorem dX12_middle_47 : decode cX12_middle 47 = .ok (.iaload, 1) := by decide +kernel
theorem dX12_middle_48 : decode cX12_middle 48 = .ok (.iastore, 1) := by decide +kernel
theorem dX12_middle_49 : decode cX12_middle 49 = .ok (.iinc 3 (-1), 3) := by decide +kernel
theorem dX12_middle_52 : decode cX12_middle 52 = .ok (.goto (-33), 3) := by decide +kernel
theorem dX12_middle_55 : decode cX12_middle 55 = .ok (.aload_n 0, 1) := by decide +kernel
theorem dX12_middle_56 : decode cX12_middle 56 = .ok (.getfield 44, 3) := by decide +kernel
theorem dX12_middle_59 : decode cX12_middle 59 = .ok (.iload_n 3, 1) := by decide +kernel
theorem dX12_middle_60 : decode cX12_middle 60 = .ok (.iload_n 2, 1) := by decide +kernel
theorem dX12_middle_61 : decode cX12_middle 61 = .ok (.iastore, 1) := by decide +kernel
theorem dX12_middle_62 : decode cX12_middle 62 = .ok (.iinc 1 1, 3) := by decide +kernel
theorem dX12_middle_65 : decode cX12_middle 65 = .ok (.goto (-63), 3) := by decide +kernel
theorem dX12_middle_68 : decode cX12_middle 68 = .ok (.aload_n 0, 1) := by decide +kernel
theorem dX12_middle_69 : decode cX12_middle 69 = .ok (.getfield 44, 3) := by decide +kernel
theorem dX12_middle_72 : decode cX12_middle 72 = .ok (.aload_n 0, 1) := by decide +kernel
theorem dX12_middle_73 : decode cX12_middle 73 = .ok (.getfield 150, 3) := by decide +kernel
theorem dX12_middle_76 : decode cX12_middle 76 = .ok (.iconst 1, 1) := by decide +kernel
theorem dX12_middle_77 : decode cX12_middle 77 = .ok (.isub, 1) := by decide +kernel
theorem dX12_middle_78 : decode cX12_middle 78 = .ok (.iconst 2, 1) := by decide +kernel
theorem dX12_middle_79 : decode cX12_middle 79 = .ok (.idiv, 1) := by decide +kernel
theorem dX12_middle_80 : decode cX12_middle 80 = .ok (.iaload, 1) := by decide +kernel
theorem dX12_middle_81 : decode cX12_middle 81 = .ok (.ireturn, 1) := by decide +kernel
theorem dX12_sumFrom_0 : decode cX12_sumFrom 0 = .ok (.iconst 0, 1) := by decide +kernel
theorem dX12_sumFrom_1 : decode cX12_sumFrom 1 = .ok (.istore_n 2, 1) := by decide +kernel
theorem dX12_sumFrom_2 : decode cX12_sumFrom 2 = .ok (.iconst 0, 1) := by decide +kernel
theorem dX12_sumFrom_3 : decode cX12_sumFrom 3 = .ok (.istore_n 3, 1) := by decide +kernel
theorem dX12_sumFrom_4 : decode cX12_sumFrom 4 = .ok (.iload_n 3, 1) := by decide +kernel
theorem dX12_sumFrom_5 : decode cX12_sumFrom 5 = .ok (.aload_n 0, 1) := by decide +kernel
theorem dX12_sumFrom_6 : decode cX12_sumFrom 6 = .ok (.getfield 150, 3) := by decide +kernel
theorem dX12_sumFrom_9 : decode cX12_sumFrom 9 = .ok (.if_icmp .ge 23, 3) := by decide +kernel
theorem dX12_sumFrom_12 : decode cX12_sumFrom 12 = .ok (.iload_n 2, 1) := by decide +kernel
theorem dX12_sumFrom_13 : decode cX12_sumFrom 13 = .ok (.aload_n 0, 1) := by decide +kernel
theorem dX12_sumFrom_14 : decode cX12_sumFrom 14 = .ok (.getfield 44, 3) := by decide +kernel
theorem dX12_sumFrom_17 : decode cX12_sumFrom 17 = .ok (.iload_n 3, 1) := by decide +kernel
theorem dX12_sumFrom_18 : decode cX12_sumFrom 18 = .ok (.iaload, 1) := by decide +kernel
theorem dX12_sumFrom_19 : decode cX12_sumFrom 19 = .ok (.iload_n 1, 1) := by decide +kernel
theorem dX12_sumFrom_20 : decode cX12_sumFrom 20 = .ok (.isub, 1) := by decide +kernel
theorem dX12_sumFrom_21 : decode cX12_sumFrom 21 = .ok (.invokestatic 123, 3) := by decide +kernel
theorem dX12_sumFrom_24 : decode cX12_sumFrom 24 = .ok (.iadd, 1) := by decide +kernel
theorem dX12_sumFrom_25 : decode cX12_sumFrom 25 = .ok (.istore_n 2, 1) := by decide +kernel
theorem dX12_sumFrom_26 : decode cX12_sumFrom 26 = .ok (.iinc 3 1, 3) := by decide +kernel
theorem dX12_sumFrom_29 : decode cX12_sumFrom 29 = .ok (.goto (-25), 3) := by decide +kernel
theorem dX12_sumFrom_32 : decode cX12_sumFrom 32 = .ok (.iload_n 2, 1) := by decide +kernel
theorem dX12_sumFrom_33 : decode cX12_sumFrom 33 = .ok (.ireturn, 1) := by decide +kernel
theorem dX12_join_0 : decode cX12_join 0 = .ok (.aload_n 0, 1) := by decide +kernel
theorem dX12_join_1 : decode cX12_join 1 = .ok (.iconst 0, 1) := by decide +kernel
theorem dX12_join_2 : decode cX12_join 2 = .ok (.putfield 150, 3) := by decide +kernel
theorem dX12_join_5 : decode cX12_join 5 = .ok (.aload_n 0, 1) := by decide +kernel
theorem dX12_join_6 : decode cX12_join 6 = .ok (.iconst 0, 1) := by decide +kernel
theorem dX12_join_7 : decode cX12_join 7 = .ok (.putfield 153, 3) := by decide +kernel
theorem dX12_join_10 : decode cX12_join 10 = .ok (.iconst 0, 1) := by decide +kernel
theorem dX12_join_11 : decode cX12_join 11 = .ok (.istore_n 3, 1) := by decide +kernel
theorem dX12_join_12 : decode cX12_join 12 = .ok (.iload_n 3, 1) := by decide +kernel
theorem dX12_join_13 : decode cX12_join 13 = .ok (.iconst 2, 1) := by decide +kernel
theorem dX12_join_14 : decode cX12_join 14 = .ok (.if_icmp .ge 199, 3) := by decide +kernel
theorem dX12_join_17 : decode cX12_join 17 = .ok (.aload_n 0, 1) := by decide +kernel
theorem dX12_join_18 : decode cX12_join 18 = .ok (.iconst 0, 1) := by decide +kernel
theorem dX12_join_19 : decode cX12_join 19 = .ok (.putfield 150, 3) := by decide +kernel
theorem dX12_join_22 : decode cX12_join 22 = .ok (.iconst 0, 1) := by decide +kernel
theorem dX12_join_23 : decode cX12_join 23 = .ok (.istore 4, 2) := by decide +kernel
theorem dX12_join_25 : decode cX12_join 25 = .ok (.iload 4, 2) := by decide +kernel
theorem dX12_join_27 : decode cX12_join 27 = .ok (.bipush 24, 2) := by decide +kernel
theorem dX12_join_29 : decode cX12_join 29 = .ok (.if_icmp .ge 115, 3) := by decide +kernel
theorem dX12_join_32 : decode cX12_join 32 = .ok (.aload_n 0, 1) := by decide +kernel
theorem dX12_join_33 : decode cX12_join 33 = .ok (.getfield 34, 3) := by decide +kernel
theorem dX12_join_36 : decode cX12_join 36 = .ok (.bipush 24, 2) := by decide +kernel
theorem dX12_join_38 : decode cX12_join 38 = .ok (.iload_n 1, 1) := by decide +kernel
theorem dX12_join_39 : decode cX12_join 39 = .ok (.imul, 1) := by decide +kernel
theorem dX12_join_40 : decode cX12_join 40 = .ok (.iload 4, 2) := by decide +kernel
theorem dX12_join_42 : decode cX12_join 42 = .ok (.iadd, 1) := by decide +kernel
theorem dX12_join_43 : decode cX12_join 43 = .ok (.baload, 1) := by decide +kernel
theorem dX12_join_44 : decode cX12_join 44 = .ok (.ifCond .eq 94, 3) := by decide +kernel
theorem dX12_join_47 : decode cX12_join 47 = .ok (.aload_n 0, 1) := by decide +kernel
theorem dX12_join_48 : decode cX12_join 48 = .ok (.getfield 34, 3) := by decide +kernel
theorem dX12_join_51 : decode cX12_join 51 = .ok (.bipush 24, 2) := by decide +kernel
theorem dX12_join_53 : decode cX12_join 53 = .ok (.iload_n 2, 1) := by decide +kernel
theorem dX12_join_54 : decode cX12_join 54 = .ok (.imul, 1) := by decide +kernel
theorem dX12_join_55 : decode cX12_join 55 = .ok (.iload 4, 2) := by decide +kernel
theorem dX12_join_57 : decode cX12_join 57 = .ok (.iadd, 1) := by decide +kernel
theorem dX12_join_58 : decode cX12_join 58 = .ok (.baload, 1) := by decide +kernel
theorem dX12_join_59 : decode cX12_join 59 = .ok (.ifCond .eq 79, 3) := by decide +kernel
theorem dX12_join_62 : decode cX12_join 62 = .ok (.aload_n 0, 1) := by decide +kernel
theorem dX12_join_63 : decode cX12_join 63 = .ok (.getfield 44, 3) := by decide +kernel
theorem dX12_join_66 : decode cX12_join 66 = .ok (.aload_n 0, 1) := by decide +kernel
theorem dX12_join_67 : decode cX12_join 67 = .ok (.getfield 150, 3) := by decide +kernel
theorem dX12_join_70 : decode cX12_join 70 = .ok (.iload_n 3, 1) := by decide +kernel
theorem dX12_join_71 : decode cX12_join 71 = .ok (.ifCond .ne 31, 3) := by decide +kernel
theorem dX12_join_74 : decode cX12_join 74 = .ok (.aload_n 0, 1) := by decide +kernel
theorem dX12_join_75 : decode cX12_join 75 = .ok (.getfield 38, 3) := by decide +kernel
theorem dX12_join_78 : decode cX12_join 78 = .ok (.bipush 24, 2) := by decide +kernel
theorem dX12_join_80 : decode cX12_join 80 = .ok (.iload_n 1, 1) := by decide +kernel
theorem dX12_join_81 : decode cX12_join 81 = .ok (.imul, 1) := by decide +kernel
theorem dX12_join_82 : decode cX12_join 82 = .ok (.iload 4, 2) := by decide +kernel
theorem dX12_join_84 : decode cX12_join 84 = .ok (.iadd, 1) := by decide +kernel
theorem dX12_join_85 : decode cX12_join 85 = .ok (.iaload, 1) := by decide +kernel
theorem dX12_join_86 : decode cX12_join 86 = .ok (.aload_n 0, 1) := by decide +kernel
theorem dX12_join_87 : decode cX12_join 87 = .ok (.getfield 38, 3) := by decide +kernel
theorem dX12_join_90 : decode cX12_join 90 = .ok (.bipush 24, 2) := by decide +kernel
theorem dX12_join_92 : decode cX12_join 92 = .ok (.iload_n 2, 1) := by decide +kernel
theorem dX12_join_93 : decode cX12_join 93 = .ok (.imul, 1) := by decide +kernel
theorem dX12_join_94 : decode cX12_join 94 = .ok (.iload 4, 2) := by decide +kernel
theorem dX12_join_96 : decode cX12_join 96 = .ok (.iadd, 1) := by decide +kernel
theorem dX12_join_97 : decode cX12_join 97 = .ok (.iaload, 1) := by decide +kernel
theorem dX12_join_98 : decode cX12_join 98 = .ok (.isub, 1) := by decide +kernel
theorem dX12_join_99 : decode cX12_join 99 = .ok (.goto 28, 3) := by decide +kernel
theorem dX12_join_102 : decode cX12_join 102 = .ok (.aload_n 0, 1) := by decide +kernel
theorem dX12_join_103 : decode cX12_join 103 = .ok (.getfield 41, 3) := by decide +kernel
theorem dX12_join_106 : decode cX12_join 106 = .ok (.bipush 24, 2) := by decide +kernel
theorem dX12_join_108 : decode cX12_join 108 = .ok (.iload_n 1, 1) := by decide +kernel
theorem dX12_join_109 : decode cX12_join 109 = .ok (.imul, 1) := by decide +kernel
theorem dX12_join_110 : decode cX12_join 110 = .ok (.iload 4, 2) := by decide +kernel
theorem dX12_join_112 : decode cX12_join 112 = .ok (.iadd, 1) := by decide +kernel
theorem dX12_join_113 : decode cX12_join 113 = .ok (.iaload, 1) := by decide +kernel
theorem dX12_join_114 : decode cX12_join 114 = .ok (.aload_n 0, 1) := by decide +kernel
theorem dX12_join_115 : decode cX12_join 115 = .ok (.getfield 41, 3) := by decide +kernel
theorem dX12_join_118 : decode cX12_join 118 = .ok (.bipush 24, 2) := by decide +kernel
theorem dX12_join_120 : decode cX12_join 120 = .ok (.iload_n 2, 1) := by decide +kernel
theorem dX12_join_121 : decode cX12_join 121 = .ok (.imul, 1) := by decide +kernel
theorem dX12_join_122 : decode cX12_join 122 = .ok (.iload 4, 2) := by decide +kernel
theorem dX12_join_124 : decode cX12_join 124 = .ok (.iadd, 1) := by decide +kernel
theorem dX12_join_125 : decode cX12_join 125 = .ok (.iaload, 1) := by decide +kernel
theorem dX12_join_126 : decode cX12_join 126 = .ok (.isub, 1) := by decide +kernel
theorem dX12_join_127 : decode cX12_join 127 = .ok (.iastore, 1) := by decide +kernel
theorem dX12_join_128 : decode cX12_join 128 = .ok (.aload_n 0, 1) := by decide +kernel
theorem dX12_join_129 : decode cX12_join 129 = .ok (.dup, 1) := by decide +kernel
theorem dX12_join_130 : decode cX12_join 130 = .ok (.getfield 150, 3) := by decide +kernel
theorem dX12_join_133 : decode cX12_join 133 = .ok (.iconst 1, 1) := by decide +kernel
theorem dX12_join_134 : decode cX12_join 134 = .ok (.iadd, 1) := by decide +kernel
theorem dX12_join_135 : decode cX12_join 135 = .ok (.putfield 150, 3) := by decide +kernel
theorem dX12_join_138 : decode cX12_join 138 = .ok (.iinc 4 1, 3) := by decide +kernel
theorem dX12_join_141 : decode cX12_join 141 = .ok (.goto (-116), 3) := by decide +kernel
theorem dX12_join_144 : decode cX12_join 144 = .ok (.aload_n 0, 1) := by decide +kernel
theorem dX12_join_145 : decode cX12_join 145 = .ok (.getfield 150, 3) := by decide +kernel
theorem dX12_join_148 : decode cX12_join 148 = .ok (.ifCond .le 59, 3) := by decide +kernel
theorem dX12_join_151 : decode cX12_join 151 = .ok (.aload_n 0, 1) := by decide +kernel
theorem dX12_join_152 : decode cX12_join 152 = .ok (.invokevirtual 156, 3) := by decide +kernel
theorem dX12_join_155 : decode cX12_join 155 = .ok (.istore 4, 2) := by decide +kernel
theorem dX12_join_157 : decode cX12_join 157 = .ok (.aload_n 0, 1) := by decide +kernel
theorem dX12_join_158 : decode cX12_join 158 = .ok (.dup, 1) := by decide +kernel
theorem dX12_join_159 : decode cX12_join 159 = .ok (.getfield 153, 3) := by decide +kernel
theorem dX12_join_162 : decode cX12_join 162 = .ok (.aload_n 0, 1) := by decide +kernel
theorem dX12_join_163 : decode cX12_join 163 = .ok (.iload 4, 2) := by decide +kernel
theorem dX12_join_165 : decode cX12_join 165 = .ok (.invokevirtual 160, 3) := by decide +kernel
theorem dX12_join_168 : decode cX12_join 168 = .ok (.iadd, 1) := by decide +kernel
theorem dX12_join_169 : decode cX12_join 169 = .ok (.putfield 153, 3) := by decide +kernel
theorem dX12_join_172 : decode cX12_join 172 = .ok (.aload_n 0, 1) := by decide +kernel
theorem dX12_join_173 : decode cX12_join 173 = .ok (.iload_n 3, 1) := by decide +kernel
theorem dX12_join_174 : decode cX12_join 174 = .ok (.ifCond .ne 8, 3) := by decide +kernel
theorem dX12_join_177 : decode cX12_join 177 = .ok (.iload 4, 2) := by decide +kernel
theorem dX12_join_179 : decode cX12_join 179 = .ok (.goto 7, 3) := by decide +kernel
theorem dX12_join_182 : decode cX12_join 182 = .ok (.aload_n 0, 1) := by decide +kernel
theorem dX12_join_183 : decode cX12_join 183 = .ok (.getfield 163, 3) := by decide +kernel
theorem dX12_join_186 : decode cX12_join 186 = .ok (.putfield 163, 3) := by decide +kernel
theorem dX12_join_189 : decode cX12_join 189 = .ok (.aload_n 0, 1) := by decide +kernel
theorem dX12_join_190 : decode cX12_join 190 = .ok (.iload_n 3, 1) := by decide +kernel
theorem dX12_join_191 : decode cX12_join 191 = .ok (.iconst 1, 1) := by decide +kernel
theorem dX12_join_192 : decode cX12_join 192 = .ok (.if_icmp .ne 8, 3) := by decide +kernel
theorem dX12_join_195 : decode cX12_join 195 = .ok (.iload 4, 2) := by decide +kernel
theorem dX12_join_197 : decode cX12_join 197 = .ok (.goto 7, 3) := by decide +kernel
theorem dX12_join_200 : decode cX12_join 200 = .ok (.aload_n 0, 1) := by decide +kernel
theorem dX12_join_201 : decode cX12_join 201 = .ok (.getfield 166, 3) := by decide +kernel
theorem dX12_join_204 : decode cX12_join 204 = .ok (.putfield 166, 3) := by decide +kernel
theorem dX12_join_207 : decode cX12_join 207 = .ok (.iinc 3 1, 3) := by decide +kernel
theorem dX12_join_210 : decode cX12_join 210 = .ok (.goto (-198), 3) := by decide +kernel
theorem dX12_join_213 : decode cX12_join 213 = .ok (.return_, 1) := by decide +kernel
theorem dX12_joined_0 : decode cX12_joined 0 = .ok (.aload_n 0, 1) := by decide +kernel
theorem dX12_joined_1 : decode cX12_joined 1 = .ok (.iconst 0, 1) := by decide +kernel
theorem dX12_joined_2 : decode cX12_joined 2 = .ok (.putfield 59, 3) := by decide +kernel
theorem dX12_joined_5 : decode cX12_joined 5 = .ok (.iload_n 1, 1) := by decide +kernel
theorem dX12_joined_6 : decode cX12_joined 6 = .ok (.invokestatic 140, 3) := by decide +kernel
theorem dX12_joined_9 : decode cX12_joined 9 = .ok (.ifCond .eq 22, 3) := by decide +kernel
theorem dX12_joined_12 : decode cX12_joined 12 = .ok (.iload_n 2, 1) := by decide +kernel
theorem dX12_joined_13 : decode cX12_joined 13 = .ok (.invokestatic 140, 3) := by decide +kernel
theorem dX12_joined_16 : decode cX12_joined 16 = .ok (.ifCond .eq 15, 3) := by decide +kernel
theorem dX12_joined_19 : decode cX12_joined 19 = .ok (.iload_n 3, 1) := by decide +kernel
theorem dX12_joined_20 : decode cX12_joined 20 = .ok (.i2l, 1) := by decide +kernel
theorem dX12_joined_21 : decode cX12_joined 21 = .ok (.lconst 0, 1) := by decide +kernel
theorem dX12_joined_22 : decode cX12_joined 22 = .ok (.ldc2_w 169, 3) := by decide +kernel
theorem dX12_joined_25 : decode cX12_joined 25 = .ok (.invokestatic 69, 3) := by decide +kernel
theorem dX12_joined_28 : decode cX12_joined 28 = .ok (.ifCond .ne 6, 3) := by decide +kernel
theorem dX12_joined_31 : decode cX12_joined 31 = .ok (.ldc 79, 2) := by decide +kernel
theorem dX12_joined_33 : decode cX12_joined 33 = .ok (.ireturn, 1) := by decide +kernel
theorem dX12_joined_34 : decode cX12_joined 34 = .ok (.aload_n 0, 1) := by decide +kernel
theorem dX12_joined_35 : decode cX12_joined 35 = .ok (.iload_n 1, 1) := by decide +kernel
theorem dX12_joined_36 : decode cX12_joined 36 = .ok (.iload_n 2, 1) := by decide +kernel
theorem dX12_joined_37 : decode cX12_joined 37 = .ok (.invokevirtual 171, 3) := by decide +kernel
theorem dX12_joined_40 : decode cX12_joined 40 = .ok (.iload_n 3, 1) := by decide +kernel
theorem dX12_joined_41 : decode cX12_joined 41 = .ok (.ifCond .ne 10, 3) := by decide +kernel
theorem dX12_joined_44 : decode cX12_joined 44 = .ok (.aload_n 0, 1) := by decide +kernel
theorem dX12_joined_45 : decode cX12_joined 45 = .ok (.getfield 150, 3) := by decide +kernel
theorem dX12_joined_48 : decode cX12_joined 48 = .ok (.goto 43, 3) := by decide +kernel
theorem dX12_joined_51 : decode cX12_joined 51 = .ok (.aload_n 0, 1) := by decide +kernel
theorem dX12_joined_52 : decode cX12_joined 52 = .ok (.getfield 150, 3) := by decide +kernel
theorem dX12_joined_55 : decode cX12_joined 55 = .ok (.ifCond .ne 8, 3) := by decide +kernel
theorem dX12_joined_58 : decode cX12_joined 58 = .ok (.ldc 149, 2) := by decide +kernel
theorem dX12_joined_60 : decode cX12_joined 60 = .ok (.goto 31, 3) := by decide +kernel
theorem dX12_joined_63 : decode cX12_joined 63 = .ok (.iload_n 3, 1) := by decide +kernel
theorem dX12_joined_64 : decode cX12_joined 64 = .ok (.iconst 1, 1) := by decide +kernel
theorem dX12_joined_65 : decode cX12_joined 65 = .ok (.if_icmp .ne 10, 3) := by decide +kernel
theorem dX12_joined_68 : decode cX12_joined 68 = .ok (.aload_n 0, 1) := by decide +kernel
theorem dX12_joined_69 : decode cX12_joined 69 = .ok (.getfield 163, 3) := by decide +kernel
theorem dX12_joined_72 : decode cX12_joined 72 = .ok (.goto 19, 3) := by decide +kernel
theorem dX12_joined_75 : decode cX12_joined 75 = .ok (.iload_n 3, 1) := by decide +kernel
theorem dX12_joined_76 : decode cX12_joined 76 = .ok (.iconst 2, 1) := by decide +kernel
theorem dX12_joined_77 : decode cX12_joined 77 = .ok (.if_icmp .ne 10, 3) := by decide +kernel
theorem dX12_joined_80 : decode cX12_joined 80 = .ok (.aload_n 0, 1) := by decide +kernel
theorem dX12_joined_81 : decode cX12_joined 81 = .ok (.getfield 166, 3) := by decide +kernel
theorem dX12_joined_84 : decode cX12_joined 84 = .ok (.goto 7, 3) := by decide +kernel
theorem dX12_joined_87 : decode cX12_joined 87 = .ok (.aload_n 0, 1) := by decide +kernel
theorem dX12_joined_88 : decode cX12_joined 88 = .ok (.getfield 153, 3) := by decide +kernel
theorem dX12_joined_91 : decode cX12_joined 91 = .ok (.ireturn, 1) := by decide +kernel
theorem dX12_goRound_0 : decode cX12_goRound 0 = .ok (.aload_n 0, 1) := by decide +kernel
theorem dX12_goRound_1 : decode cX12_goRound 1 = .ok (.iconst 0, 1) := by decide +kernel
