theorem dX0_init_0 : decode cX0_init 0 = .ok (.aload_n 0, 1) := by decide +kernel
theorem dX0_init_1 : decode cX0_init 1 = .ok (.invokespecial 3, 3) := by decide +kernel
theorem dX0_init_4 : decode cX0_init 4 = .ok (.aload_n 0, 1) := by decide +kernel
theorem dX0_init_5 : decode cX0_init 5 = .ok (.bipush 16, 2) := by decide +kernel
theorem dX0_init_7 : decode cX0_init 7 = .ok (.newarray .int, 2) := by decide +kernel
theorem dX0_init_9 : decode cX0_init 9 = .ok (.putfield 9, 3) := by decide +kernel
theorem dX0_init_12 : decode cX0_init 12 = .ok (.aload_n 0, 1) := by decide +kernel
theorem dX0_init_13 : decode cX0_init 13 = .ok (.iconst 0, 1) := by decide +kernel
theorem dX0_init_14 : decode cX0_init 14 = .ok (.putfield 15, 3) := by decide +kernel
theorem dX0_init_17 : decode cX0_init 17 = .ok (.return_, 1) := by decide +kernel
theorem dX0_face_0 : decode cX0_face 0 = .ok (.aload_n 0, 1) := by decide +kernel
theorem dX0_face_1 : decode cX0_face 1 = .ok (.iconst 0, 1) := by decide +kernel
theorem dX0_face_2 : decode cX0_face 2 = .ok (.putfield 15, 3) := by decide +kernel
theorem dX0_face_5 : decode cX0_face 5 = .ok (.aload_n 0, 1) := by decide +kernel
theorem dX0_face_6 : decode cX0_face 6 = .ok (.iload_n 1, 1) := by decide +kernel
theorem dX0_face_7 : decode cX0_face 7 = .ok (.putfield 19, 3) := by decide +kernel
theorem dX0_face_10 : decode cX0_face 10 = .ok (.aload_n 0, 1) := by decide +kernel
theorem dX0_face_11 : decode cX0_face 11 = .ok (.iload_n 2, 1) := by decide +kernel
theorem dX0_face_12 : decode cX0_face 12 = .ok (.putfield 22, 3) := by decide +kernel
theorem dX0_face_15 : decode cX0_face 15 = .ok (.aload_n 0, 1) := by decide +kernel
theorem dX0_face_16 : decode cX0_face 16 = .ok (.iload_n 3, 1) := by decide +kernel
theorem dX0_face_17 : decode cX0_face 17 = .ok (.putfield 25, 3) := by decide +kernel
theorem dX0_face_20 : decode cX0_face 20 = .ok (.return_, 1) := by decide +kernel
theorem dX0_begin_0 : decode cX0_begin 0 = .ok (.aload_n 0, 1) := by decide +kernel
theorem dX0_begin_1 : decode cX0_begin 1 = .ok (.getfield 15, 3) := by decide +kernel
theorem dX0_begin_4 : decode cX0_begin 4 = .ok (.aload_n 0, 1) := by decide +kernel
theorem dX0_begin_5 : decode cX0_begin 5 = .ok (.getfield 9, 3) := by decide +kernel
theorem dX0_begin_8 : decode cX0_begin 8 = .ok (.arraylength, 1) := by decide +kernel
theorem dX0_begin_9 : decode cX0_begin 9 = .ok (.if_icmp .ge 23, 3) := by decide +kernel
theorem dX0_begin_12 : decode cX0_begin 12 = .ok (.aload_n 0, 1) := by decide +kernel
theorem dX0_begin_13 : decode cX0_begin 13 = .ok (.getfield 9, 3) := by decide +kernel
theorem dX0_begin_16 : decode cX0_begin 16 = .ok (.aload_n 0, 1) := by decide +kernel
theorem dX0_begin_17 : decode cX0_begin 17 = .ok (.getfield 15, 3) := by decide +kernel
theorem dX0_begin_20 : decode cX0_begin 20 = .ok (.iload_n 1, 1) := by decide +kernel
theorem dX0_begin_21 : decode cX0_begin 21 = .ok (.iastore, 1) := by decide +kernel
theorem dX0_begin_22 : decode cX0_begin 22 = .ok (.aload_n 0, 1) := by decide +kernel
theorem dX0_begin_23 : decode cX0_begin 23 = .ok (.dup, 1) := by decide +kernel
theorem dX0_begin_24 : decode cX0_begin 24 = .ok (.getfield 15, 3) := by decide +kernel
theorem dX0_begin_27 : decode cX0_begin 27 = .ok (.iconst 1, 1) := by decide +kernel
theorem dX0_begin_28 : decode cX0_begin 28 = .ok (.iadd, 1) := by decide +kernel
theorem dX0_begin_29 : decode cX0_begin 29 = .ok (.putfield 15, 3) := by decide +kernel
theorem dX0_begin_32 : decode cX0_begin 32 = .ok (.return_, 1) := by decide +kernel
theorem dX0_size_0 : decode cX0_size 0 = .ok (.iload_n 1, 1) := by decide +kernel
theorem dX0_size_1 : decode cX0_size 1 = .ok (.tableswitch 42 1 3 #[27, 32, 37], 27) := by decide +kernel
theorem dX0_size_28 : decode cX0_size 28 = .ok (.aload_n 0, 1) := by decide +kernel
theorem dX0_size_29 : decode cX0_size 29 = .ok (.invokevirtual 28, 3) := by decide +kernel
theorem dX0_size_32 : decode cX0_size 32 = .ok (.ireturn, 1) := by decide +kernel
theorem dX0_size_33 : decode cX0_size 33 = .ok (.aload_n 0, 1) := by decide +kernel
theorem dX0_size_34 : decode cX0_size 34 = .ok (.invokevirtual 32, 3) := by decide +kernel
theorem dX0_size_37 : decode cX0_size 37 = .ok (.ireturn, 1) := by decide +kernel
theorem dX0_size_38 : decode cX0_size 38 = .ok (.aload_n 0, 1) := by decide +kernel
theorem dX0_size_39 : decode cX0_size 39 = .ok (.invokevirtual 35, 3) := by decide +kernel
theorem dX0_size_42 : decode cX0_size 42 = .ok (.ireturn, 1) := by decide +kernel
theorem dX0_size_43 : decode cX0_size 43 = .ok (.aload_n 0, 1) := by decide +kernel
theorem dX0_size_44 : decode cX0_size 44 = .ok (.invokevirtual 38, 3) := by decide +kernel
theorem dX0_size_47 : decode cX0_size 47 = .ok (.ireturn, 1) := by decide +kernel
theorem dX0_sign_0 : decode cX0_sign 0 = .ok (.iload_n 1, 1) := by decide +kernel
theorem dX0_sign_1 : decode cX0_sign 1 = .ok (.tableswitch 42 1 3 #[27, 32, 37], 27) := by decide +kernel
theorem dX0_sign_28 : decode cX0_sign 28 = .ok (.aload_n 0, 1) := by decide +kernel
theorem dX0_sign_29 : decode cX0_sign 29 = .ok (.invokevirtual 41, 3) := by decide +kernel
theorem dX0_sign_32 : decode cX0_sign 32 = .ok (.ireturn, 1) := by decide +kernel
theorem dX0_sign_33 : decode cX0_sign 33 = .ok (.aload_n 0, 1) := by decide +kernel
theorem dX0_sign_34 : decode cX0_sign 34 = .ok (.invokevirtual 44, 3) := by decide +kernel
theorem dX0_sign_37 : decode cX0_sign 37 = .ok (.ireturn, 1) := by decide +kernel
theorem dX0_sign_38 : decode cX0_sign 38 = .ok (.aload_n 0, 1) := by decide +kernel
theorem dX0_sign_39 : decode cX0_sign 39 = .ok (.invokevirtual 47, 3) := by decide +kernel
theorem dX0_sign_42 : decode cX0_sign 42 = .ok (.ireturn, 1) := by decide +kernel
theorem dX0_sign_43 : decode cX0_sign 43 = .ok (.aload_n 0, 1) := by decide +kernel
theorem dX0_sign_44 : decode cX0_sign 44 = .ok (.invokevirtual 50, 3) := by decide +kernel
theorem dX0_sign_47 : decode cX0_sign 47 = .ok (.ireturn, 1) := by decide +kernel
theorem dX0_sizeLent_0 : decode cX0_sizeLent 0 = .ok (.aload_n 0, 1) := by decide +kernel
theorem dX0_sizeLent_1 : decode cX0_sizeLent 1 = .ok (.bipush 10, 2) := by decide +kernel
theorem dX0_sizeLent_3 : decode cX0_sizeLent 3 = .ok (.invokevirtual 53, 3) := by decide +kernel
theorem dX0_sizeLent_6 : decode cX0_sizeLent 6 = .ok (.aload_n 0, 1) := by decide +kernel
theorem dX0_sizeLent_7 : decode cX0_sizeLent 7 = .ok (.getfield 19, 3) := by decide +kernel
theorem dX0_sizeLent_10 : decode cX0_sizeLent 10 = .ok (.ireturn, 1) := by decide +kernel
theorem dX0_sizeOfSeen_0 : decode cX0_sizeOfSeen 0 = .ok (.aload_n 0, 1) := by decide +kernel
theorem dX0_sizeOfSeen_1 : decode cX0_sizeOfSeen 1 = .ok (.bipush 11, 2) := by decide +kernel
theorem dX0_sizeOfSeen_3 : decode cX0_sizeOfSeen 3 = .ok (.invokevirtual 53, 3) := by decide +kernel
theorem dX0_sizeOfSeen_6 : decode cX0_sizeOfSeen 6 = .ok (.aload_n 0, 1) := by decide +kernel
theorem dX0_sizeOfSeen_7 : decode cX0_sizeOfSeen 7 = .ok (.invokevirtual 38, 3) := by decide +kernel
theorem dX0_sizeOfSeen_10 : decode cX0_sizeOfSeen 10 = .ok (.aload_n 0, 1) := by decide +kernel
theorem dX0_sizeOfSeen_11 : decode cX0_sizeOfSeen 11 = .ok (.getfield 25, 3) := by decide +kernel
theorem dX0_sizeOfSeen_14 : decode cX0_sizeOfSeen 14 = .ok (.iadd, 1) := by decide +kernel
theorem dX0_sizeOfSeen_15 : decode cX0_sizeOfSeen 15 = .ok (.ireturn, 1) := by decide +kernel
theorem dX0_sizeOfSharp_0 : decode cX0_sizeOfSharp 0 = .ok (.aload_n 0, 1) := by decide +kernel
theorem dX0_sizeOfSharp_1 : decode cX0_sizeOfSharp 1 = .ok (.bipush 12, 2) := by decide +kernel
theorem dX0_sizeOfSharp_3 : decode cX0_sizeOfSharp 3 = .ok (.invokevirtual 53, 3) := by decide +kernel
theorem dX0_sizeOfSharp_6 : decode cX0_sizeOfSharp 6 = .ok (.iconst 2, 1) := by decide +kernel
theorem dX0_sizeOfSharp_7 : decode cX0_sizeOfSharp 7 = .ok (.aload_n 0, 1) := by decide +kernel
theorem dX0_sizeOfSharp_8 : decode cX0_sizeOfSharp 8 = .ok (.invokevirtual 28, 3) := by decide +kernel
theorem dX0_sizeOfSharp_11 : decode cX0_sizeOfSharp 11 = .ok (.imul, 1) := by decide +kernel
theorem dX0_sizeOfSharp_12 : decode cX0_sizeOfSharp 12 = .ok (.ireturn, 1) := by decide +kernel
theorem dX0_sizeOfLost_0 : decode cX0_sizeOfLost 0 = .ok (.aload_n 0, 1) := by decide +kernel
theorem dX0_sizeOfLost_1 : decode cX0_sizeOfLost 1 = .ok (.bipush 13, 2) := by decide +kernel
theorem dX0_sizeOfLost_3 : decode cX0_sizeOfLost 3 = .ok (.invokevirtual 53, 3) := by decide +kernel
theorem dX0_sizeOfLost_6 : decode cX0_sizeOfLost 6 = .ok (.aload_n 0, 1) := by decide +kernel
theorem dX0_sizeOfLost_7 : decode cX0_sizeOfLost 7 = .ok (.invokevirtual 38, 3) := by decide +kernel
theorem dX0_sizeOfLost_10 : decode cX0_sizeOfLost 10 = .ok (.istore_n 1, 1) := by decide +kernel
theorem dX0_sizeOfLost_11 : decode cX0_sizeOfLost 11 = .ok (.iload_n 1, 1) := by decide +kernel
theorem dX0_sizeOfLost_12 : decode cX0_sizeOfLost 12 = .ok (.aload_n 0, 1) := by decide +kernel
theorem dX0_sizeOfLost_13 : decode cX0_sizeOfLost 13 = .ok (.invokevirtual 47, 3) := by decide +kernel
theorem dX0_sizeOfLost_16 : decode cX0_sizeOfLost 16 = .ok (.isub, 1) := by decide +kernel
theorem dX0_sizeOfLost_17 : decode cX0_sizeOfLost 17 = .ok (.ireturn, 1) := by decide +kernel
theorem dX0_signLent_0 : decode cX0_signLent 0 = .ok (.aload_n 0, 1) := by decide +kernel
theorem dX0_signLent_1 : decode cX0_signLent 1 = .ok (.bipush 20, 2) := by decide +kernel
theorem dX0_signLent_3 : decode cX0_signLent 3 = .ok (.invokevirtual 53, 3) := by decide +kernel
theorem dX0_signLent_6 : decode cX0_signLent 6 = .ok (.aload_n 0, 1) := by decide +kernel
theorem dX0_signLent_7 : decode cX0_signLent 7 = .ok (.getfield 22, 3) := by decide +kernel
theorem dX0_signLent_10 : decode cX0_signLent 10 = .ok (.ireturn, 1) := by decide +kernel
theorem dX0_signOfSeen_0 : decode cX0_signOfSeen 0 = .ok (.aload_n 0, 1) := by decide +kernel
theorem dX0_signOfSeen_1 : decode cX0_signOfSeen 1 = .ok (.bipush 21, 2) := by decide +kernel
theorem dX0_signOfSeen_3 : decode cX0_signOfSeen 3 = .ok (.invokevirtual 53, 3) := by decide +kernel
theorem dX0_signOfSeen_6 : decode cX0_signOfSeen 6 = .ok (.aload_n 0, 1) := by decide +kernel
theorem dX0_signOfSeen_7 : decode cX0_signOfSeen 7 = .ok (.invokevirtual 50, 3) := by decide +kernel
theorem dX0_signOfSeen_10 : decode cX0_signOfSeen 10 = .ok (.bipush 100, 2) := by decide +kernel
theorem dX0_signOfSeen_12 : decode cX0_signOfSeen 12 = .ok (.iadd, 1) := by decide +kernel
theorem dX0_signOfSeen_13 : decode cX0_signOfSeen 13 = .ok (.ireturn, 1) := by decide +kernel
theorem dX0_signOfSharp_0 : decode cX0_signOfSharp 0 = .ok (.aload_n 0, 1) := by decide +kernel
theorem dX0_signOfSharp_1 : decode cX0_signOfSharp 1 = .ok (.bipush 22, 2) := by decide +kernel
theorem dX0_signOfSharp_3 : decode cX0_signOfSharp 3 = .ok (.invokevirtual 53, 3) := by decide +kernel
theorem dX0_signOfSharp_6 : decode cX0_signOfSharp 6 = .ok (.aload_n 0, 1) := by decide +kernel
theorem dX0_signOfSharp_7 : decode cX0_signOfSharp 7 = .ok (.invokevirtual 41, 3) := by decide +kernel
theorem dX0_signOfSharp_10 : decode cX0_signOfSharp 10 = .ok (.istore_n 1, 1) := by decide +kernel
theorem dX0_signOfSharp_11 : decode cX0_signOfSharp 11 = .ok (.iload_n 1, 1) := by decide +kernel
theorem dX0_signOfSharp_12 : decode cX0_signOfSharp 12 = .ok (.aload_n 0, 1) := by decide +kernel
theorem dX0_signOfSharp_13 : decode cX0_signOfSharp 13 = .ok (.invokevirtual 32, 3) := by decide +kernel
theorem dX0_signOfSharp_16 : decode cX0_signOfSharp 16 = .ok (.iadd, 1) := by decide +kernel
theorem dX0_signOfSharp_17 : decode cX0_signOfSharp 17 = .ok (.ireturn, 1) := by decide +kernel
theorem dX0_signOfLost_0 : decode cX0_signOfLost 0 = .ok (.aload_n 0, 1) := by decide +kernel
theorem dX0_signOfLost_1 : decode cX0_signOfLost 1 = .ok (.bipush 23, 2) := by decide +kernel
theorem dX0_signOfLost_3 : decode cX0_signOfLost 3 = .ok (.invokevirtual 53, 3) := by decide +kernel
theorem dX0_signOfLost_6 : decode cX0_signOfLost 6 = .ok (.aload_n 0, 1) := by decide +kernel
theorem dX0_signOfLost_7 : decode cX0_signOfLost 7 = .ok (.invokevirtual 50, 3) := by decide +kernel
theorem dX0_signOfLost_10 : decode cX0_signOfLost 10 = .ok (.sipush 1000, 3) := by decide +kernel
theorem dX0_signOfLost_13 : decode cX0_signOfLost 13 = .ok (.iadd, 1) := by decide +kernel
theorem dX0_signOfLost_14 : decode cX0_signOfLost 14 = .ok (.ireturn, 1) := by decide +kernel
theorem dX1_init_0 : decode cX1_init 0 = .ok (.aload_n 0, 1) := by decide +kernel
theorem dX1_init_1 : decode cX1_init 1 = .ok (.invokespecial 3, 3) := by decide +kernel
theorem dX1_init_4 : decode cX1_init 4 = .ok (.aload_n 0, 1) := by decide +kernel
theorem dX1_init_5 : decode cX1_init 5 = .ok (.new 9, 3) := by decide +kernel
theorem dX1_init_8 : decode cX1_init 8 = .ok (.dup, 1) := by decide +kernel
theorem dX1_init_9 : decode cX1_init 9 = .ok (.invokespecial 11, 3) := by decide +kernel
theorem dX1_init_12 : decode cX1_init 12 = .ok (.putfield 12, 3) := by decide +kernel
theorem dX1_init_15 : decode cX1_init 15 = .ok (.aload_n 0, 1) := by decide +kernel
theorem dX1_init_16 : decode cX1_init 16 = .ok (.new 9, 3) := by decide +kernel
theorem dX1_init_19 : decode cX1_init 19 = .ok (.dup, 1) := by decide +kernel
theorem dX1_init_20 : decode cX1_init 20 = .ok (.invokespecial 11, 3) := by decide +kernel
theorem dX1_init_23 : decode cX1_init 23 = .ok (.putfield 18, 3) := by decide +kernel
theorem dX1_init_26 : decode cX1_init 26 = .ok (.return_, 1) := by decide +kernel
theorem dX1_take_0 : decode cX1_take 0 = .ok (.aload_n 0, 1) := by decide +kernel
theorem dX1_take_1 : decode cX1_take 1 = .ok (.getfield 12, 3) := by decide +kernel
theorem dX1_take_4 : decode cX1_take 4 = .ok (.iconst 0, 1) := by decide +kernel
theorem dX1_take_5 : decode cX1_take 5 = .ok (.putfield 21, 3) := by decide +kernel
theorem dX1_take_8 : decode cX1_take 8 = .ok (.aload_n 0, 1) := by decide +kernel
theorem dX1_take_9 : decode cX1_take 9 = .ok (.getfield 18, 3) := by decide +kernel
theorem dX1_take_12 : decode cX1_take 12 = .ok (.iconst 0, 1) := by decide +kernel
theorem dX1_take_13 : decode cX1_take 13 = .ok (.putfield 21, 3) := by decide +kernel
theorem dX1_take_16 : decode cX1_take 16 = .ok (.iconst 0, 1) := by decide +kernel
theorem dX1_take_17 : decode cX1_take 17 = .ok (.istore_n 3, 1) := by decide +kernel
theorem dX1_take_18 : decode cX1_take 18 = .ok (.iload_n 3, 1) := by decide +kernel
theorem dX1_take_19 : decode cX1_take 19 = .ok (.bipush 24, 2) := by decide +kernel
theorem dX1_take_21 : decode cX1_take 21 = .ok (.if_icmp .ge 67, 3) := by decide +kernel
theorem dX1_take_24 : decode cX1_take 24 = .ok (.aload_n 1, 1) := by decide +kernel
theorem dX1_take_25 : decode cX1_take 25 = .ok (.getfield 25, 3) := by decide +kernel
theorem dX1_take_28 : decode cX1_take 28 = .ok (.iload_n 3, 1) := by decide +kernel
theorem dX1_take_29 : decode cX1_take 29 = .ok (.baload, 1) := by decide +kernel
theorem dX1_take_30 : decode cX1_take 30 = .ok (.ifCond .eq 52, 3) := by decide +kernel
theorem dX1_take_33 : decode cX1_take 33 = .ok (.aload_n 2, 1) := by decide +kernel
theorem dX1_take_34 : decode cX1_take 34 = .ok (.getfield 25, 3) := by decide +kernel
theorem dX1_take_37 : decode cX1_take 37 = .ok (.iload_n 3, 1) := by decide +kernel
theorem dX1_take_38 : decode cX1_take 38 = .ok (.baload, 1) := by decide +kernel
theorem dX1_take_39 : decode cX1_take 39 = .ok (.ifCond .eq 43, 3) := by decide +kernel
theorem dX1_take_42 : decode cX1_take 42 = .ok (.aload_n 0, 1) := by decide +kernel
theorem dX1_take_43 : decode cX1_take 43 = .ok (.getfield 12, 3) := by decide +kernel
theorem dX1_take_46 : decode cX1_take 46 = .ok (.aload_n 1, 1) := by decide +kernel
theorem dX1_take_47 : decode cX1_take 47 = .ok (.getfield 31, 3) := by decide +kernel
theorem dX1_take_50 : decode cX1_take 50 = .ok (.iload_n 3, 1) := by decide +kernel
theorem dX1_take_51 : decode cX1_take 51 = .ok (.iaload, 1) := by decide +kernel
theorem dX1_take_52 : decode cX1_take 52 = .ok (.aload_n 2, 1) := by decide +kernel
theorem dX1_take_53 : decode cX1_take 53 = .ok (.getfield 31, 3) := by decide +kernel
theorem dX1_take_56 : decode cX1_take 56 = .ok (.iload_n 3, 1) := by decide +kernel
theorem dX1_take_57 : decode cX1_take 57 = .ok (.iaload, 1) := by decide +kernel
theorem dX1_take_58 : decode cX1_take 58 = .ok (.isub, 1) := by decide +kernel
theorem dX1_take_59 : decode cX1_take 59 = .ok (.invokevirtual 35, 3) := by decide +kernel
theorem dX1_take_62 : decode cX1_take 62 = .ok (.aload_n 0, 1) := by decide +kernel
theorem dX1_take_63 : decode cX1_take 63 = .ok (.getfield 18, 3) := by decide +kernel
theorem dX1_take_66 : decode cX1_take 66 = .ok (.aload_n 1, 1) := by decide +kernel
theorem dX1_take_67 : decode cX1_take 67 = .ok (.getfield 39, 3) := by decide +kernel
theorem dX1_take_70 : decode cX1_take 70 = .ok (.iload_n 3, 1) := by decide +kernel
theorem dX1_take_71 : decode cX1_take 71 = .ok (.iaload, 1) := by decide +kernel
theorem dX1_take_72 : decode cX1_take 72 = .ok (.aload_n 2, 1) := by decide +kernel
theorem dX1_take_73 : decode cX1_take 73 = .ok (.getfield 39, 3) := by decide +kernel
theorem dX1_take_76 : decode cX1_take 76 = .ok (.iload_n 3, 1) := by decide +kernel
theorem dX1_take_77 : decode cX1_take 77 = .ok (.iaload, 1) := by decide +kernel
theorem dX1_take_78 : decode cX1_take 78 = .ok (.isub, 1) := by decide +kernel
theorem dX1_take_79 : decode cX1_take 79 = .ok (.invokevirtual 35, 3) := by decide +kernel
theorem dX1_take_82 : decode cX1_take 82 = .ok (.iinc 3 1, 3) := by decide +kernel
theorem dX1_take_85 : decode cX1_take 85 = .ok (.goto (-67), 3) := by decide +kernel
theorem dX1_take_88 : decode cX1_take 88 = .ok (.return_, 1) := by decide +kernel
theorem dX1_common_0 : decode cX1_common 0 = .ok (.aload_n 0, 1) := by decide +kernel
theorem dX1_common_1 : decode cX1_common 1 = .ok (.getfield 12, 3) := by decide +kernel
theorem dX1_common_4 : decode cX1_common 4 = .ok (.getfield 21, 3) := by decide +kernel
theorem dX1_common_7 : decode cX1_common 7 = .ok (.ireturn, 1) := by decide +kernel
theorem dX1_acrossShift_0 : decode cX1_acrossShift 0 = .ok (.aload_n 0, 1) := by decide +kernel
theorem dX1_acrossShift_1 : decode cX1_acrossShift 1 = .ok (.getfield 12, 3) := by decide +kernel
theorem dX1_acrossShift_4 : decode cX1_acrossShift 4 = .ok (.invokevirtual 42, 3) := by decide +kernel
theorem dX1_acrossShift_7 : decode cX1_acrossShift 7 = .ok (.ireturn, 1) := by decide +kernel
theorem dX1_upShift_0 : decode cX1_upShift 0 = .ok (.aload_n 0, 1) := by decide +kernel
theorem dX1_upShift_1 : decode cX1_upShift 1 = .ok (.getfield 18, 3) := by decide +kernel
theorem dX1_upShift_4 : decode cX1_upShift 4 = .ok (.invokevirtual 42, 3) := by decide +kernel
theorem dX1_upShift_7 : decode cX1_upShift 7 = .ok (.ireturn, 1) := by decide +kernel
theorem dX1_misfit_0 : decode cX1_misfit 0 = .ok (.aload_n 0, 1) := by decide +kernel
theorem dX1_misfit_1 : decode cX1_misfit 1 = .ok (.getfield 12, 3) := by decide +kernel
theorem dX1_misfit_4 : decode cX1_misfit 4 = .ok (.invokevirtual 46, 3) := by decide +kernel
theorem dX1_misfit_7 : decode cX1_misfit 7 = .ok (.aload_n 0, 1) := by decide +kernel
theorem dX1_misfit_8 : decode cX1_misfit 8 = .ok (.getfield 18, 3) := by decide +kernel
theorem dX1_misfit_11 : decode cX1_misfit 11 = .ok (.invokevirtual 46, 3) := by decide +kernel
theorem dX1_misfit_14 : decode cX1_misfit 14 = .ok (.iadd, 1) := by decide +kernel
theorem dX1_misfit_15 : decode cX1_misfit 15 = .ok (.ireturn, 1) := by decide +kernel
theorem dX2_init_0 : decode cX2_init 0 = .ok (.aload_n 0, 1) := by decide +kernel
theorem dX2_init_1 : decode cX2_init 1 = .ok (.invokespecial 3, 3) := by decide +kernel
theorem dX2_init_4 : decode cX2_init 4 = .ok (.return_, 1) := by decide +kernel
theorem dX2_take_0 : decode cX2_take 0 = .ok (.aload_n 1, 1) := by decide +kernel
theorem dX2_take_1 : decode cX2_take 1 = .ok (.getfield 9, 3) := by decide +kernel
theorem dX2_take_4 : decode cX2_take 4 = .ok (.iconst 2, 1) := by decide +kernel
theorem dX2_take_5 : decode cX2_take 5 = .ok (.iaload, 1) := by decide +kernel
theorem dX2_take_6 : decode cX2_take 6 = .ok (.istore_n 3, 1) := by decide +kernel
theorem dX2_take_7 : decode cX2_take 7 = .ok (.aload_n 0, 1) := by decide +kernel
theorem dX2_take_8 : decode cX2_take 8 = .ok (.iload_n 3, 1) := by decide +kernel
theorem dX2_take_9 : decode cX2_take 9 = .ok (.aload_n 2, 1) := by decide +kernel
theorem dX2_take_10 : decode cX2_take 10 = .ok (.invokestatic 15, 3) := by decide +kernel
theorem dX2_take_13 : decode cX2_take 13 = .ok (.putfield 19, 3) := by decide +kernel
theorem dX2_take_16 : decode cX2_take 16 = .ok (.aload_n 0, 1) := by decide +kernel
theorem dX2_take_17 : decode cX2_take 17 = .ok (.aload_n 0, 1) := by decide +kernel
theorem dX2_take_18 : decode cX2_take 18 = .ok (.getfield 19, 3) := by decide +kernel
theorem dX2_take_21 : decode cX2_take 21 = .ok (.invokestatic 25, 3) := by decide +kernel
theorem dX2_take_24 : decode cX2_take 24 = .ok (.putfield 29, 3) := by decide +kernel
theorem dX2_take_27 : decode cX2_take 27 = .ok (.aload_n 0, 1) := by decide +kernel
theorem dX2_take_28 : decode cX2_take 28 = .ok (.aload_n 1, 1) := by decide +kernel
theorem dX2_take_29 : decode cX2_take 29 = .ok (.iload_n 3, 1) := by decide +kernel
theorem dX2_take_30 : decode cX2_take 30 = .ok (.aload_n 0, 1) := by decide +kernel
theorem dX2_take_31 : decode cX2_take 31 = .ok (.getfield 29, 3) := by decide +kernel
theorem dX2_take_34 : decode cX2_take 34 = .ok (.invokevirtual 32, 3) := by decide +kernel
theorem dX2_take_37 : decode cX2_take 37 = .ok (.putfield 36, 3) := by decide +kernel
theorem dX2_take_40 : decode cX2_take 40 = .ok (.aload_n 0, 1) := by decide +kernel
theorem dX2_take_41 : decode cX2_take 41 = .ok (.aload_n 2, 1) := by decide +kernel
theorem dX2_take_42 : decode cX2_take 42 = .ok (.getfield 39, 3) := by decide +kernel
theorem dX2_take_45 : decode cX2_take 45 = .ok (.ineg, 1) := by decide +kernel
theorem dX2_take_46 : decode cX2_take 46 = .ok (.aload_n 0, 1) := by decide +kernel
theorem dX2_take_47 : decode cX2_take 47 = .ok (.getfield 36, 3) := by decide +kernel
theorem dX2_take_50 : decode cX2_take 50 = .ok (.imul, 1) := by decide +kernel
theorem dX2_take_51 : decode cX2_take 51 = .ok (.aload_n 2, 1) := by decide +kernel
theorem dX2_take_52 : decode cX2_take 52 = .ok (.getfield 44, 3) := by decide +kernel
theorem dX2_take_55 : decode cX2_take 55 = .ok (.invokestatic 47, 3) := by decide +kernel
theorem dX2_take_58 : decode cX2_take 58 = .ok (.putfield 50, 3) := by decide +kernel
theorem dX2_take_61 : decode cX2_take 61 = .ok (.aload_n 0, 1) := by decide +kernel
theorem dX2_take_62 : decode cX2_take 62 = .ok (.aload_n 1, 1) := by decide +kernel
theorem dX2_take_63 : decode cX2_take 63 = .ok (.getfield 9, 3) := by decide +kernel
theorem dX2_take_66 : decode cX2_take 66 = .ok (.iconst 3, 1) := by decide +kernel
theorem dX2_take_67 : decode cX2_take 67 = .ok (.iaload, 1) := by decide +kernel
theorem dX2_take_68 : decode cX2_take 68 = .ok (.iconst 1, 1) := by decide +kernel
theorem dX2_take_69 : decode cX2_take 69 = .ok (.if_icmp .ne 10, 3) := by decide +kernel
theorem dX2_take_72 : decode cX2_take 72 = .ok (.aload_n 2, 1) := by decide +kernel
theorem dX2_take_73 : decode cX2_take 73 = .ok (.getfield 51, 3) := by decide +kernel
theorem dX2_take_76 : decode cX2_take 76 = .ok (.goto 8, 3) := by decide +kernel
theorem dX2_take_79 : decode cX2_take 79 = .ok (.aload_n 2, 1) := by decide +kernel
theorem dX2_take_80 : decode cX2_take 80 = .ok (.getfield 51, 3) := by decide +kernel
theorem dX2_take_83 : decode cX2_take 83 = .ok (.ineg, 1) := by decide +kernel
theorem dX2_take_84 : decode cX2_take 84 = .ok (.aload_n 0, 1) := by decide +kernel
theorem dX2_take_85 : decode cX2_take 85 = .ok (.getfield 36, 3) := by decide +kernel
theorem dX2_take_88 : decode cX2_take 88 = .ok (.imul, 1) := by decide +kernel
theorem dX2_take_89 : decode cX2_take 89 = .ok (.aload_n 2, 1) := by decide +kernel
theorem dX2_take_90 : decode cX2_take 90 = .ok (.getfield 44, 3) := by decide +kernel
theorem dX2_take_93 : decode cX2_take 93 = .ok (.invokestatic 47, 3) := by decide +kernel
theorem dX2_take_96 : decode cX2_take 96 = .ok (.putfield 54, 3) := by decide +kernel
theorem dX2_take_99 : decode cX2_take 99 = .ok (.aload_n 0, 1) := by decide +kernel
theorem dX2_take_100 : decode cX2_take 100 = .ok (.aload_n 1, 1) := by decide +kernel
theorem dX2_take_101 : decode cX2_take 101 = .ok (.aload_n 0, 1) := by decide +kernel
theorem dX2_take_102 : decode cX2_take 102 = .ok (.getfield 36, 3) := by decide +kernel
theorem dX2_take_105 : decode cX2_take 105 = .ok (.aload_n 2, 1) := by decide +kernel
theorem dX2_take_106 : decode cX2_take 106 = .ok (.getfield 44, 3) := by decide +kernel
theorem dX2_take_109 : decode cX2_take 109 = .ok (.invokevirtual 55, 3) := by decide +kernel
theorem dX2_take_112 : decode cX2_take 112 = .ok (.putfield 58, 3) := by decide +kernel
theorem dX2_take_115 : decode cX2_take 115 = .ok (.return_, 1) := by decide +kernel
theorem dX3_init_0 : decode cX3_init 0 = .ok (.aload_n 0, 1) := by decide +kernel
theorem dX3_init_1 : decode cX3_init 1 = .ok (.invokespecial 3, 3) := by decide +kernel
theorem dX3_init_4 : decode cX3_init 4 = .ok (.aload_n 0, 1) := by decide +kernel
theorem dX3_init_5 : decode cX3_init 5 = .ok (.bipush 9, 2) := by decide +kernel
theorem dX3_init_7 : decode cX3_init 7 = .ok (.newarray .int, 2) := by decide +kernel
theorem dX3_init_9 : decode cX3_init 9 = .ok (.putfield 9, 3) := by decide +kernel
theorem dX3_init_12 : decode cX3_init 12 = .ok (.aload_n 0, 1) := by decide +kernel
theorem dX3_init_13 : decode cX3_init 13 = .ok (.bipush 9, 2) := by decide +kernel
theorem dX3_init_15 : decode cX3_init 15 = .ok (.newarray .int, 2) := by decide +kernel
theorem dX3_init_17 : decode cX3_init 17 = .ok (.putfield 15, 3) := by decide +kernel
theorem dX3_init_20 : decode cX3_init 20 = .ok (.aload_n 0, 1) := by decide +kernel
theorem dX3_init_21 : decode cX3_init 21 = .ok (.iconst 0, 1) := by decide +kernel
theorem dX3_init_22 : decode cX3_init 22 = .ok (.putfield 18, 3) := by decide +kernel
theorem dX3_init_25 : decode cX3_init 25 = .ok (.return_, 1) := by decide +kernel
theorem dX3_take_0 : decode cX3_take 0 = .ok (.aload_n 0, 1) := by decide +kernel
theorem dX3_take_1 : decode cX3_take 1 = .ok (.iconst 0, 1) := by decide +kernel
theorem dX3_take_2 : decode cX3_take 2 = .ok (.putfield 18, 3) := by decide +kernel
theorem dX3_take_5 : decode cX3_take 5 = .ok (.iconst 0, 1) := by decide +kernel
theorem dX3_take_6 : decode cX3_take 6 = .ok (.istore 4, 2) := by decide +kernel
theorem dX3_take_8 : decode cX3_take 8 = .ok (.iload 4, 2) := by decide +kernel
theorem dX3_take_10 : decode cX3_take 10 = .ok (.iload_n 2, 1) := by decide +kernel
theorem dX3_take_11 : decode cX3_take 11 = .ok (.if_icmp .ge 99, 3) := by decide +kernel
theorem dX3_take_14 : decode cX3_take 14 = .ok (.aload_n 3, 1) := by decide +kernel
theorem dX3_take_15 : decode cX3_take 15 = .ok (.aload_n 1, 1) := by decide +kernel
theorem dX3_take_16 : decode cX3_take 16 = .ok (.iload 4, 2) := by decide +kernel
theorem dX3_take_18 : decode cX3_take 18 = .ok (.aaload, 1) := by decide +kernel
theorem dX3_take_19 : decode cX3_take 19 = .ok (.aload_n 1, 1) := by decide +kernel
theorem dX3_take_20 : decode cX3_take 20 = .ok (.iload 4, 2) := by decide +kernel
theorem dX3_take_22 : decode cX3_take 22 = .ok (.iconst 1, 1) := by decide +kernel
theorem dX3_take_23 : decode cX3_take 23 = .ok (.iadd, 1) := by decide +kernel
theorem dX3_take_24 : decode cX3_take 24 = .ok (.iload_n 2, 1) := by decide +kernel
theorem dX3_take_25 : decode cX3_take 25 = .ok (.if_icmp .ge 10, 3) := by decide +kernel
theorem dX3_take_28 : decode cX3_take 28 = .ok (.iload 4, 2) := by decide +kernel
theorem dX3_take_30 : decode cX3_take 30 = .ok (.iconst 1, 1) := by decide +kernel
theorem dX3_take_31 : decode cX3_take 31 = .ok (.iadd, 1) := by decide +kernel
theorem dX3_take_32 : decode cX3_take 32 = .ok (.goto 4, 3) := by decide +kernel
theorem dX3_take_35 : decode cX3_take 35 = .ok (.iconst 0, 1) := by decide +kernel
theorem dX3_take_36 : decode cX3_take 36 = .ok (.aaload, 1) := by decide +kernel
theorem dX3_take_37 : decode cX3_take 37 = .ok (.invokevirtual 22, 3) := by decide +kernel
theorem dX3_take_40 : decode cX3_take 40 = .ok (.aload_n 3, 1) := by decide +kernel
theorem dX3_take_41 : decode cX3_take 41 = .ok (.invokevirtual 28, 3) := by decide +kernel
theorem dX3_take_44 : decode cX3_take 44 = .ok (.ifCond .ne 5, 3) := by decide +kernel
theorem dX3_take_47 : decode cX3_take 47 = .ok (.iconst 0, 1) := by decide +kernel
theorem dX3_take_48 : decode cX3_take 48 = .ok (.ireturn, 1) := by decide +kernel
theorem dX3_take_49 : decode cX3_take 49 = .ok (.aload_n 0, 1) := by decide +kernel
theorem dX3_take_50 : decode cX3_take 50 = .ok (.getfield 9, 3) := by decide +kernel
theorem dX3_take_53 : decode cX3_take 53 = .ok (.iload 4, 2) := by decide +kernel
theorem dX3_take_55 : decode cX3_take 55 = .ok (.iconst 1, 1) := by decide +kernel
theorem dX3_take_56 : decode cX3_take 56 = .ok (.iadd, 1) := by decide +kernel
theorem dX3_take_57 : decode cX3_take 57 = .ok (.aload_n 0, 1) := by decide +kernel
theorem dX3_take_58 : decode cX3_take 58 = .ok (.getfield 9, 3) := by decide +kernel
theorem dX3_take_61 : decode cX3_take 61 = .ok (.iload 4, 2) := by decide +kernel
theorem dX3_take_63 : decode cX3_take 63 = .ok (.iaload, 1) := by decide +kernel
theorem dX3_take_64 : decode cX3_take 64 = .ok (.aload_n 3, 1) := by decide +kernel
theorem dX3_take_65 : decode cX3_take 65 = .ok (.invokevirtual 32, 3) := by decide +kernel
theorem dX3_take_68 : decode cX3_take 68 = .ok (.iadd, 1) := by decide +kernel
theorem dX3_take_69 : decode cX3_take 69 = .ok (.iastore, 1) := by decide +kernel
theorem dX3_take_70 : decode cX3_take 70 = .ok (.aload_n 0, 1) := by decide +kernel
theorem dX3_take_71 : decode cX3_take 71 = .ok (.getfield 15, 3) := by decide +kernel
theorem dX3_take_74 : decode cX3_take 74 = .ok (.iload 4, 2) := by decide +kernel
theorem dX3_take_76 : decode cX3_take 76 = .ok (.iconst 1, 1) := by decide +kernel
theorem dX3_take_77 : decode cX3_take 77 = .ok (.iadd, 1) := by decide +kernel
theorem dX3_take_78 : decode cX3_take 78 = .ok (.aload_n 0, 1) := by decide +kernel
theorem dX3_take_79 : decode cX3_take 79 = .ok (.getfield 15, 3) := by decide +kernel
theorem dX3_take_82 : decode cX3_take 82 = .ok (.iload 4, 2) := by decide +kernel
theorem dX3_take_84 : decode cX3_take 84 = .ok (.iaload, 1) := by decide +kernel
theorem dX3_take_85 : decode cX3_take 85 = .ok (.aload_n 3, 1) := by decide +kernel
theorem dX3_take_86 : decode cX3_take 86 = .ok (.invokevirtual 35, 3) := by decide +kernel
theorem dX3_take_89 : decode cX3_take 89 = .ok (.iadd, 1) := by decide +kernel
theorem dX3_take_90 : decode cX3_take 90 = .ok (.iastore, 1) := by decide +kernel
theorem dX3_take_91 : decode cX3_take 91 = .ok (.aload_n 0, 1) := by decide +kernel
theorem dX3_take_92 : decode cX3_take 92 = .ok (.dup, 1) := by decide +kernel
theorem dX3_take_93 : decode cX3_take 93 = .ok (.getfield 18, 3) := by decide +kernel
theorem dX3_take_96 : decode cX3_take 96 = .ok (.aload_n 3, 1) := by decide +kernel
theorem dX3_take_97 : decode cX3_take 97 = .ok (.invokevirtual 38, 3) := by decide +kernel
theorem dX3_take_100 : decode cX3_take 100 = .ok (.iadd, 1) := by decide +kernel
theorem dX3_take_101 : decode cX3_take 101 = .ok (.putfield 18, 3) := by decide +kernel
theorem dX3_take_104 : decode cX3_take 104 = .ok (.iinc 4 1, 3) := by decide +kernel
theorem dX3_take_107 : decode cX3_take 107 = .ok (.goto (-99), 3) := by decide +kernel
theorem dX3_take_110 : decode cX3_take 110 = .ok (.iconst 1, 1) := by decide +kernel
theorem dX3_take_111 : decode cX3_take 111 = .ok (.ireturn, 1) := by decide +kernel
theorem dX4_init_0 : decode cX4_init 0 = .ok (.aload_n 0, 1) := by decide +kernel
theorem dX4_init_1 : decode cX4_init 1 = .ok (.invokespecial 3, 3) := by decide +kernel
theorem dX4_init_4 : decode cX4_init 4 = .ok (.aload_n 0, 1) := by decide +kernel
theorem dX4_init_5 : decode cX4_init 5 = .ok (.bipush 7, 2) := by decide +kernel
theorem dX4_init_7 : decode cX4_init 7 = .ok (.newarray .int, 2) := by decide +kernel
theorem dX4_init_9 : decode cX4_init 9 = .ok (.dup, 1) := by decide +kernel
theorem dX4_init_10 : decode cX4_init 10 = .ok (.iconst 0, 1) := by decide +kernel
theorem dX4_init_11 : decode cX4_init 11 = .ok (.iconst 0, 1) := by decide +kernel
theorem dX4_init_12 : decode cX4_init 12 = .ok (.iastore, 1) := by decide +kernel
theorem dX4_init_13 : decode cX4_init 13 = .ok (.dup, 1) := by decide +kernel
theorem dX4_init_14 : decode cX4_init 14 = .ok (.iconst 1, 1) := by decide +kernel
theorem dX4_init_15 : decode cX4_init 15 = .ok (.bipush 10, 2) := by decide +kernel
theorem dX4_init_17 : decode cX4_init 17 = .ok (.iastore, 1) := by decide +kernel
theorem dX4_init_18 : decode cX4_init 18 = .ok (.dup, 1) := by decide +kernel
theorem dX4_init_19 : decode cX4_init 19 = .ok (.iconst 2, 1) := by decide +kernel
theorem dX4_init_20 : decode cX4_init 20 = .ok (.bipush 100, 2) := by decide +kernel
theorem dX4_init_22 : decode cX4_init 22 = .ok (.iastore, 1) := by decide +kernel
theorem dX4_init_23 : decode cX4_init 23 = .ok (.dup, 1) := by decide +kernel
theorem dX4_init_24 : decode cX4_init 24 = .ok (.iconst 3, 1) := by decide +kernel
theorem dX4_init_25 : decode cX4_init 25 = .ok (.iconst 0, 1) := by decide +kernel
theorem dX4_init_26 : decode cX4_init 26 = .ok (.iastore, 1) := by decide +kernel
theorem dX4_init_27 : decode cX4_init 27 = .ok (.dup, 1) := by decide +kernel
theorem dX4_init_28 : decode cX4_init 28 = .ok (.iconst 4, 1) := by decide +kernel
theorem dX4_init_29 : decode cX4_init 29 = .ok (.iconst 5, 1) := by decide +kernel
theorem dX4_init_30 : decode cX4_init 30 = .ok (.iastore, 1) := by decide +kernel
theorem dX4_init_31 : decode cX4_init 31 = .ok (.dup, 1) := by decide +kernel
theorem dX4_init_32 : decode cX4_init 32 = .ok (.iconst 5, 1) := by decide +kernel
theorem dX4_init_33 : decode cX4_init 33 = .ok (.sipush 160, 3) := by decide +kernel
theorem dX4_init_36 : decode cX4_init 36 = .ok (.iastore, 1) := by decide +kernel
theorem dX4_init_37 : decode cX4_init 37 = .ok (.dup, 1) := by decide +kernel
theorem dX4_init_38 : decode cX4_init 38 = .ok (.bipush 6, 2) := by decide +kernel
theorem dX4_init_40 : decode cX4_init 40 = .ok (.bipush 100, 2) := by decide +kernel
theorem dX4_init_42 : decode cX4_init 42 = .ok (.iastore, 1) := by decide +kernel
theorem dX4_init_43 : decode cX4_init 43 = .ok (.putfield 9, 3) := by decide +kernel
theorem dX4_init_46 : decode cX4_init 46 = .ok (.aload_n 0, 1) := by decide +kernel
theorem dX4_init_47 : decode cX4_init 47 = .ok (.bipush 17, 2) := by decide +kernel
theorem dX4_init_49 : decode cX4_init 49 = .ok (.newarray .int, 2) := by decide +kernel
theorem dX4_init_51 : decode cX4_init 51 = .ok (.putfield 15, 3) := by decide +kernel
theorem dX4_init_54 : decode cX4_init 54 = .ok (.aload_n 0, 1) := by decide +kernel
theorem dX4_init_55 : decode cX4_init 55 = .ok (.bipush 101, 2) := by decide +kernel
theorem dX4_init_57 : decode cX4_init 57 = .ok (.newarray .int, 2) := by decide +kernel
theorem dX4_init_59 : decode cX4_init 59 = .ok (.putfield 18, 3) := by decide +kernel
theorem dX4_init_62 : decode cX4_init 62 = .ok (.return_, 1) := by decide +kernel
theorem dX4_firstAt_0 : decode cX4_firstAt 0 = .ok (.aload_n 1, 1) := by decide +kernel
theorem dX4_firstAt_1 : decode cX4_firstAt 1 = .ok (.getfield 21, 3) := by decide +kernel
theorem dX4_firstAt_4 : decode cX4_firstAt 4 = .ok (.ineg, 1) := by decide +kernel
theorem dX4_firstAt_5 : decode cX4_firstAt 5 = .ok (.iload_n 0, 1) := by decide +kernel
theorem dX4_firstAt_6 : decode cX4_firstAt 6 = .ok (.imul, 1) := by decide +kernel
theorem dX4_firstAt_7 : decode cX4_firstAt 7 = .ok (.aload_n 1, 1) := by decide +kernel
theorem dX4_firstAt_8 : decode cX4_firstAt 8 = .ok (.getfield 27, 3) := by decide +kernel
theorem dX4_firstAt_11 : decode cX4_firstAt 11 = .ok (.invokestatic 30, 3) := by decide +kernel
theorem dX4_firstAt_14 : decode cX4_firstAt 14 = .ok (.ireturn, 1) := by decide +kernel
theorem dX4_columnOf_0 : decode cX4_columnOf 0 = .ok (.iload_n 0, 1) := by decide +kernel
theorem dX4_columnOf_1 : decode cX4_columnOf 1 = .ok (.bipush 10, 2) := by decide +kernel
theorem dX4_columnOf_3 : decode cX4_columnOf 3 = .ok (.iadd, 1) := by decide +kernel
theorem dX4_columnOf_4 : decode cX4_columnOf 4 = .ok (.bipush 20, 2) := by decide +kernel
theorem dX4_columnOf_6 : decode cX4_columnOf 6 = .ok (.invokestatic 34, 3) := by decide +kernel
theorem dX4_columnOf_9 : decode cX4_columnOf 9 = .ok (.istore_n 1, 1) := by decide +kernel
theorem dX4_columnOf_10 : decode cX4_columnOf 10 = .ok (.bipush (-8), 2) := by decide +kernel
theorem dX4_columnOf_12 : decode cX4_columnOf 12 = .ok (.bipush 8, 2) := by decide +kernel
theorem dX4_columnOf_14 : decode cX4_columnOf 14 = .ok (.iload_n 1, 1) := by decide +kernel
theorem dX4_columnOf_15 : decode cX4_columnOf 15 = .ok (.invokestatic 39, 3) := by decide +kernel
theorem dX4_columnOf_18 : decode cX4_columnOf 18 = .ok (.invokestatic 42, 3) := by decide +kernel
theorem dX4_columnOf_21 : decode cX4_columnOf 21 = .ok (.ireturn, 1) := by decide +kernel
theorem dX4_columnAt_0 : decode cX4_columnAt 0 = .ok (.iload_n 0, 1) := by decide +kernel
theorem dX4_columnAt_1 : decode cX4_columnAt 1 = .ok (.aload_n 1, 1) := by decide +kernel
theorem dX4_columnAt_2 : decode cX4_columnAt 2 = .ok (.invokestatic 45, 3) := by decide +kernel
theorem dX4_columnAt_5 : decode cX4_columnAt 5 = .ok (.invokestatic 49, 3) := by decide +kernel
theorem dX4_columnAt_8 : decode cX4_columnAt 8 = .ok (.ireturn, 1) := by decide +kernel
theorem dX4_reach_0 : decode cX4_reach 0 = .ok (.iconst 1, 1) := by decide +kernel
theorem dX4_reach_1 : decode cX4_reach 1 = .ok (.iload_n 1, 1) := by decide +kernel
theorem dX4_reach_2 : decode cX4_reach 2 = .ok (.aload_n 0, 1) := by decide +kernel
theorem dX4_reach_3 : decode cX4_reach 3 = .ok (.getfield 15, 3) := by decide +kernel
theorem dX4_reach_6 : decode cX4_reach 6 = .ok (.iload_n 2, 1) := by decide +kernel
theorem dX4_reach_7 : decode cX4_reach 7 = .ok (.bipush 8, 2) := by decide +kernel
theorem dX4_reach_9 : decode cX4_reach 9 = .ok (.iadd, 1) := by decide +kernel
theorem dX4_reach_10 : decode cX4_reach 10 = .ok (.iaload, 1) := by decide +kernel
theorem dX4_reach_11 : decode cX4_reach 11 = .ok (.iadd, 1) := by decide +kernel
theorem dX4_reach_12 : decode cX4_reach 12 = .ok (.invokestatic 42, 3) := by decide +kernel
theorem dX4_reach_15 : decode cX4_reach 15 = .ok (.ireturn, 1) := by decide +kernel
theorem dX4_blurBy_0 : decode cX4_blurBy 0 = .ok (.aload_n 0, 1) := by decide +kernel
theorem dX4_blurBy_1 : decode cX4_blurBy 1 = .ok (.getfield 9, 3) := by decide +kernel
theorem dX4_blurBy_4 : decode cX4_blurBy 4 = .ok (.iconst 0, 1) := by decide +kernel
theorem dX4_blurBy_5 : decode cX4_blurBy 5 = .ok (.iaload, 1) := by decide +kernel
theorem dX4_blurBy_6 : decode cX4_blurBy 6 = .ok (.istore_n 3, 1) := by decide +kernel
theorem dX4_blurBy_7 : decode cX4_blurBy 7 = .ok (.iload_n 3, 1) := by decide +kernel
theorem dX4_blurBy_8 : decode cX4_blurBy 8 = .ok (.ifCond .ne 18, 3) := by decide +kernel
theorem dX4_blurBy_11 : decode cX4_blurBy 11 = .ok (.aload_n 0, 1) := by decide +kernel
theorem dX4_blurBy_12 : decode cX4_blurBy 12 = .ok (.getfield 9, 3) := by decide +kernel
theorem dX4_blurBy_15 : decode cX4_blurBy 15 = .ok (.iconst 1, 1) := by decide +kernel
theorem dX4_blurBy_16 : decode cX4_blurBy 16 = .ok (.iaload, 1) := by decide +kernel
theorem dX4_blurBy_17 : decode cX4_blurBy 17 = .ok (.iload_n 2, 1) := by decide +kernel
theorem dX4_blurBy_18 : decode cX4_blurBy 18 = .ok (.iload_n 1, 1) := by decide +kernel
theorem dX4_blurBy_19 : decode cX4_blurBy 19 = .ok (.iadd, 1) := by decide +kernel
theorem dX4_blurBy_20 : decode cX4_blurBy 20 = .ok (.imul, 1) := by decide +kernel
theorem dX4_blurBy_21 : decode cX4_blurBy 21 = .ok (.iload_n 2, 1) := by decide +kernel
theorem dX4_blurBy_22 : decode cX4_blurBy 22 = .ok (.invokestatic 30, 3) := by decide +kernel
theorem dX4_blurBy_25 : decode cX4_blurBy 25 = .ok (.ireturn, 1) := by decide +kernel
theorem dX4_blurBy_26 : decode cX4_blurBy 26 = .ok (.aload_n 0, 1) := by decide +kernel
theorem dX4_blurBy_27 : decode cX4_blurBy 27 = .ok (.getfield 9, 3) := by decide +kernel
theorem dX4_blurBy_30 : decode cX4_blurBy 30 = .ok (.iconst 1, 1) := by decide +kernel
theorem dX4_blurBy_31 : decode cX4_blurBy 31 = .ok (.iaload, 1) := by decide +kernel
theorem dX4_blurBy_32 : decode cX4_blurBy 32 = .ok (.iload_n 1, 1) := by decide +kernel
theorem dX4_blurBy_33 : decode cX4_blurBy 33 = .ok (.iload_n 2, 1) := by decide +kernel
theorem dX4_blurBy_34 : decode cX4_blurBy 34 = .ok (.iload_n 3, 1) := by decide +kernel
theorem dX4_blurBy_35 : decode cX4_blurBy 35 = .ok (.isub, 1) := by decide +kernel
theorem dX4_blurBy_36 : decode cX4_blurBy 36 = .ok (.imul, 1) := by decide +kernel
theorem dX4_blurBy_37 : decode cX4_blurBy 37 = .ok (.iload_n 3, 1) := by decide +kernel
theorem dX4_blurBy_38 : decode cX4_blurBy 38 = .ok (.iload_n 2, 1) := by decide +kernel
theorem dX4_blurBy_39 : decode cX4_blurBy 39 = .ok (.imul, 1) := by decide +kernel
theorem dX4_blurBy_40 : decode cX4_blurBy 40 = .ok (.isub, 1) := by decide +kernel
theorem dX4_blurBy_41 : decode cX4_blurBy 41 = .ok (.invokestatic 53, 3) := by decide +kernel
theorem dX4_blurBy_44 : decode cX4_blurBy 44 = .ok (.imul, 1) := by decide +kernel
theorem dX4_blurBy_45 : decode cX4_blurBy 45 = .ok (.iload_n 3, 1) := by decide +kernel
theorem dX4_blurBy_46 : decode cX4_blurBy 46 = .ok (.iload_n 2, 1) := by decide +kernel
theorem dX4_blurBy_47 : decode cX4_blurBy 47 = .ok (.imul, 1) := by decide +kernel
theorem dX4_blurBy_48 : decode cX4_blurBy 48 = .ok (.invokestatic 30, 3) := by decide +kernel
theorem dX4_blurBy_51 : decode cX4_blurBy 51 = .ok (.ireturn, 1) := by decide +kernel
theorem dX4_blurAt_0 : decode cX4_blurAt 0 = .ok (.aload_n 0, 1) := by decide +kernel
theorem dX4_blurAt_1 : decode cX4_blurAt 1 = .ok (.aload_n 0, 1) := by decide +kernel
theorem dX4_blurAt_2 : decode cX4_blurAt 2 = .ok (.iload_n 1, 1) := by decide +kernel
theorem dX4_blurAt_3 : decode cX4_blurAt 3 = .ok (.iload_n 1, 1) := by decide +kernel
theorem dX4_blurAt_4 : decode cX4_blurAt 4 = .ok (.aload_n 2, 1) := by decide +kernel
theorem dX4_blurAt_5 : decode cX4_blurAt 5 = .ok (.invokestatic 56, 3) := by decide +kernel
theorem dX4_blurAt_8 : decode cX4_blurAt 8 = .ok (.invokevirtual 59, 3) := by decide +kernel
theorem dX4_blurAt_11 : decode cX4_blurAt 11 = .ok (.aload_n 2, 1) := by decide +kernel
theorem dX4_blurAt_12 : decode cX4_blurAt 12 = .ok (.getfield 27, 3) := by decide +kernel
theorem dX4_blurAt_15 : decode cX4_blurAt 15 = .ok (.invokevirtual 62, 3) := by decide +kernel
theorem dX4_blurAt_18 : decode cX4_blurAt 18 = .ok (.ireturn, 1) := by decide +kernel
theorem dX4_sharpestDepth_0 : decode cX4_sharpestDepth 0 = .ok (.iconst 1, 1) := by decide +kernel
theorem dX4_sharpestDepth_1 : decode cX4_sharpestDepth 1 = .ok (.istore_n 2, 1) := by decide +kernel
theorem dX4_sharpestDepth_2 : decode cX4_sharpestDepth 2 = .ok (.aload_n 0, 1) := by decide +kernel
theorem dX4_sharpestDepth_3 : decode cX4_sharpestDepth 3 = .ok (.iconst 1, 1) := by decide +kernel
theorem dX4_sharpestDepth_4 : decode cX4_sharpestDepth 4 = .ok (.aload_n 1, 1) := by decide +kernel
theorem dX4_sharpestDepth_5 : decode cX4_sharpestDepth 5 = .ok (.invokevirtual 65, 3) := by decide +kernel
theorem dX4_sharpestDepth_8 : decode cX4_sharpestDepth 8 = .ok (.istore_n 3, 1) := by decide +kernel
theorem dX4_sharpestDepth_9 : decode cX4_sharpestDepth 9 = .ok (.iconst 2, 1) := by decide +kernel
theorem dX4_sharpestDepth_10 : decode cX4_sharpestDepth 10 = .ok (.istore 4, 2) := by decide +kernel
theorem dX4_sharpestDepth_12 : decode cX4_sharpestDepth 12 = .ok (.iload 4, 2) := by decide +kernel
theorem dX4_sharpestDepth_14 : decode cX4_sharpestDepth 14 = .ok (.sipush 1000, 3) := by decide +kernel
theorem dX4_sharpestDepth_17 : decode cX4_sharpestDepth 17 = .ok (.if_icmp .gt 34, 3) := by decide +kernel
theorem dX4_sharpestDepth_20 : decode cX4_sharpestDepth 20 = .ok (.iload_n 3, 1) := by decide +kernel
theorem dX4_sharpestDepth_21 : decode cX4_sharpestDepth 21 = .ok (.ifCond .le 30, 3) := by decide +kernel
theorem dX4_sharpestDepth_24 : decode cX4_sharpestDepth 24 = .ok (.aload_n 0, 1) := by decide +kernel
theorem dX4_sharpestDepth_25 : decode cX4_sharpestDepth 25 = .ok (.iload 4, 2) := by decide +kernel
theorem dX4_sharpestDepth_27 : decode cX4_sharpestDepth 27 = .ok (.aload_n 1, 1) := by decide +kernel
theorem dX4_sharpestDepth_28 : decode cX4_sharpestDepth 28 = .ok (.invokevirtual 65, 3) := by decide +kernel
theorem dX4_sharpestDepth_31 : decode cX4_sharpestDepth 31 = .ok (.istore 5, 2) := by decide +kernel
theorem dX4_sharpestDepth_33 : decode cX4_sharpestDepth 33 = .ok (.iload 5, 2) := by decide +kernel
theorem dX4_sharpestDepth_35 : decode cX4_sharpestDepth 35 = .ok (.iload_n 3, 1) := by decide +kernel
theorem dX4_sharpestDepth_36 : decode cX4_sharpestDepth 36 = .ok (.if_icmp .ge 9, 3) := by decide +kernel
theorem dX4_sharpestDepth_39 : decode cX4_sharpestDepth 39 = .ok (.iload 5, 2) := by decide +kernel
theorem dX4_sharpestDepth_41 : decode cX4_sharpestDepth 41 = .ok (.istore_n 3, 1) := by decide +kernel
theorem dX4_sharpestDepth_42 : decode cX4_sharpestDepth 42 = .ok (.iload 4, 2) := by decide +kernel
theorem dX4_sharpestDepth_44 : decode cX4_sharpestDepth 44 = .ok (.istore_n 2, 1) := by decide +kernel
theorem dX4_sharpestDepth_45 : decode cX4_sharpestDepth 45 = .ok (.iinc 4 1, 3) := by decide +kernel
theorem dX4_sharpestDepth_48 : decode cX4_sharpestDepth 48 = .ok (.goto (-36), 3) := by decide +kernel
theorem dX4_sharpestDepth_51 : decode cX4_sharpestDepth 51 = .ok (.iload_n 2, 1) := by decide +kernel
theorem dX4_sharpestDepth_52 : decode cX4_sharpestDepth 52 = .ok (.ireturn, 1) := by decide +kernel
theorem dX4_clearBlurs_0 : decode cX4_clearBlurs 0 = .ok (.iconst 0, 1) := by decide +kernel
theorem dX4_clearBlurs_1 : decode cX4_clearBlurs 1 = .ok (.istore_n 1, 1) := by decide +kernel
theorem dX4_clearBlurs_2 : decode cX4_clearBlurs 2 = .ok (.iload_n 1, 1) := by decide +kernel
theorem dX4_clearBlurs_3 : decode cX4_clearBlurs 3 = .ok (.aload_n 0, 1) := by decide +kernel
theorem dX4_clearBlurs_4 : decode cX4_clearBlurs 4 = .ok (.getfield 18, 3) := by decide +kernel
theorem dX4_clearBlurs_7 : decode cX4_clearBlurs 7 = .ok (.arraylength, 1) := by decide +kernel
theorem dX4_clearBlurs_8 : decode cX4_clearBlurs 8 = .ok (.if_icmp .ge 16, 3) := by decide +kernel
theorem dX4_clearBlurs_11 : decode cX4_clearBlurs 11 = .ok (.aload_n 0, 1) := by decide +kernel
theorem dX4_clearBlurs_12 : decode cX4_clearBlurs 12 = .ok (.getfield 18, 3) := by decide +kernel
theorem dX4_clearBlurs_15 : decode cX4_clearBlurs 15 = .ok (.iload_n 1, 1) := by decide +kernel
theorem dX4_clearBlurs_16 : decode cX4_clearBlurs 16 = .ok (.iconst 0, 1) := by decide +kernel
theorem dX4_clearBlurs_17 : decode cX4_clearBlurs 17 = .ok (.iastore, 1) := by decide +kernel
theorem dX4_clearBlurs_18 : decode cX4_clearBlurs 18 = .ok (.iinc 1 1, 3) := by decide +kernel
theorem dX4_clearBlurs_21 : decode cX4_clearBlurs 21 = .ok (.goto (-19), 3) := by decide +kernel
theorem dX4_clearBlurs_24 : decode cX4_clearBlurs 24 = .ok (.return_, 1) := by decide +kernel
theorem dX4_addBlurs_0 : decode cX4_addBlurs 0 = .ok (.bipush (-50), 2) := by decide +kernel
theorem dX4_addBlurs_2 : decode cX4_addBlurs 2 = .ok (.istore_n 2, 1) := by decide +kernel
theorem dX4_addBlurs_3 : decode cX4_addBlurs 3 = .ok (.iload_n 2, 1) := by decide +kernel
theorem dX4_addBlurs_4 : decode cX4_addBlurs 4 = .ok (.bipush 50, 2) := by decide +kernel
theorem dX4_addBlurs_6 : decode cX4_addBlurs 6 = .ok (.if_icmp .gt 40, 3) := by decide +kernel
theorem dX4_addBlurs_9 : decode cX4_addBlurs 9 = .ok (.iconst 1, 1) := by decide +kernel
theorem dX4_addBlurs_10 : decode cX4_addBlurs 10 = .ok (.aload_n 0, 1) := by decide +kernel
theorem dX4_addBlurs_11 : decode cX4_addBlurs 11 = .ok (.getfield 9, 3) := by decide +kernel
theorem dX4_addBlurs_14 : decode cX4_addBlurs 14 = .ok (.iconst 2, 1) := by decide +kernel
theorem dX4_addBlurs_15 : decode cX4_addBlurs 15 = .ok (.iaload, 1) := by decide +kernel
theorem dX4_addBlurs_16 : decode cX4_addBlurs 16 = .ok (.iload_n 2, 1) := by decide +kernel
theorem dX4_addBlurs_17 : decode cX4_addBlurs 17 = .ok (.iadd, 1) := by decide +kernel
theorem dX4_addBlurs_18 : decode cX4_addBlurs 18 = .ok (.invokestatic 42, 3) := by decide +kernel
theorem dX4_addBlurs_21 : decode cX4_addBlurs 21 = .ok (.istore_n 3, 1) := by decide +kernel
theorem dX4_addBlurs_22 : decode cX4_addBlurs 22 = .ok (.aload_n 0, 1) := by decide +kernel
theorem dX4_addBlurs_23 : decode cX4_addBlurs 23 = .ok (.getfield 18, 3) := by decide +kernel
theorem dX4_addBlurs_26 : decode cX4_addBlurs 26 = .ok (.iload_n 2, 1) := by decide +kernel
theorem dX4_addBlurs_27 : decode cX4_addBlurs 27 = .ok (.bipush 50, 2) := by decide +kernel
theorem dX4_addBlurs_29 : decode cX4_addBlurs 29 = .ok (.iadd, 1) := by decide +kernel
theorem dX4_addBlurs_30 : decode cX4_addBlurs 30 = .ok (.dup2, 1) := by decide +kernel
theorem dX4_addBlurs_31 : decode cX4_addBlurs 31 = .ok (.iaload, 1) := by decide +kernel
theorem dX4_addBlurs_32 : decode cX4_addBlurs 32 = .ok (.aload_n 0, 1) := by decide +kernel
theorem dX4_addBlurs_33 : decode cX4_addBlurs 33 = .ok (.iload_n 3, 1) := by decide +kernel
theorem dX4_addBlurs_34 : decode cX4_addBlurs 34 = .ok (.iload_n 1, 1) := by decide +kernel
theorem dX4_addBlurs_35 : decode cX4_addBlurs 35 = .ok (.invokevirtual 62, 3) := by decide +kernel
theorem dX4_addBlurs_38 : decode cX4_addBlurs 38 = .ok (.iadd, 1) := by decide +kernel
theorem dX4_addBlurs_39 : decode cX4_addBlurs 39 = .ok (.iastore, 1) := by decide +kernel
theorem dX4_addBlurs_40 : decode cX4_addBlurs 40 = .ok (.iinc 2 1, 3) := by decide +kernel
theorem dX4_addBlurs_43 : decode cX4_addBlurs 43 = .ok (.goto (-40), 3) := by decide +kernel
theorem dX4_addBlurs_46 : decode cX4_addBlurs 46 = .ok (.return_, 1) := by decide +kernel
theorem dX4_bestBend_0 : decode cX4_bestBend 0 = .ok (.iconst 0, 1) := by decide +kernel
theorem dX4_bestBend_1 : decode cX4_bestBend 1 = .ok (.istore_n 1, 1) := by decide +kernel
theorem dX4_bestBend_2 : decode cX4_bestBend 2 = .ok (.iconst 1, 1) := by decide +kernel
theorem dX4_bestBend_3 : decode cX4_bestBend 3 = .ok (.istore_n 2, 1) := by decide +kernel
theorem dX4_bestBend_4 : decode cX4_bestBend 4 = .ok (.iload_n 2, 1) := by decide +kernel
theorem dX4_bestBend_5 : decode cX4_bestBend 5 = .ok (.bipush 50, 2) := by decide +kernel
theorem dX4_bestBend_7 : decode cX4_bestBend 7 = .ok (.if_icmp .gt 56, 3) := by decide +kernel
theorem dX4_bestBend_10 : decode cX4_bestBend 10 = .ok (.aload_n 0, 1) := by decide +kernel
theorem dX4_bestBend_11 : decode cX4_bestBend 11 = .ok (.getfield 18, 3) := by decide +kernel
theorem dX4_bestBend_14 : decode cX4_bestBend 14 = .ok (.bipush 50, 2) := by decide +kernel
theorem dX4_bestBend_16 : decode cX4_bestBend 16 = .ok (.iload_n 2, 1) := by decide +kernel
theorem dX4_bestBend_17 : decode cX4_bestBend 17 = .ok (.isub, 1) := by decide +kernel
theorem dX4_bestBend_18 : decode cX4_bestBend 18 = .ok (.iaload, 1) := by decide +kernel
theorem dX4_bestBend_19 : decode cX4_bestBend 19 = .ok (.aload_n 0, 1) := by decide +kernel
theorem dX4_bestBend_20 : decode cX4_bestBend 20 = .ok (.getfield 18, 3) := by decide +kernel
theorem dX4_bestBend_23 : decode cX4_bestBend 23 = .ok (.bipush 50, 2) := by decide +kernel
theorem dX4_bestBend_25 : decode cX4_bestBend 25 = .ok (.iload_n 1, 1) := by decide +kernel
theorem dX4_bestBend_26 : decode cX4_bestBend 26 = .ok (.iadd, 1) := by decide +kernel
theorem dX4_bestBend_27 : decode cX4_bestBend 27 = .ok (.iaload, 1) := by decide +kernel
theorem dX4_bestBend_28 : decode cX4_bestBend 28 = .ok (.if_icmp .ge 6, 3) := by decide +kernel
theorem dX4_bestBend_31 : decode cX4_bestBend 31 = .ok (.iload_n 2, 1) := by decide +kernel
theorem dX4_bestBend_32 : decode cX4_bestBend 32 = .ok (.ineg, 1) := by decide +kernel
theorem dX4_bestBend_33 : decode cX4_bestBend 33 = .ok (.istore_n 1, 1) := by decide +kernel
theorem dX4_bestBend_34 : decode cX4_bestBend 34 = .ok (.aload_n 0, 1) := by decide +kernel
theorem dX4_bestBend_35 : decode cX4_bestBend 35 = .ok (.getfield 18, 3) := by decide +kernel
theorem dX4_bestBend_38 : decode cX4_bestBend 38 = .ok (.bipush 50, 2) := by decide +kernel
theorem dX4_bestBend_40 : decode cX4_bestBend 40 = .ok (.iload_n 2, 1) := by decide +kernel
theorem dX4_bestBend_41 : decode cX4_bestBend 41 = .ok (.iadd, 1) := by decide +kernel
theorem dX4_bestBend_42 : decode cX4_bestBend 42 = .ok (.iaload, 1) := by decide +kernel
theorem dX4_bestBend_43 : decode cX4_bestBend 43 = .ok (.aload_n 0, 1) := by decide +kernel
theorem dX4_bestBend_44 : decode cX4_bestBend 44 = .ok (.getfield 18, 3) := by decide +kernel
theorem dX4_bestBend_47 : decode cX4_bestBend 47 = .ok (.bipush 50, 2) := by decide +kernel
theorem dX4_bestBend_49 : decode cX4_bestBend 49 = .ok (.iload_n 1, 1) := by decide +kernel
theorem dX4_bestBend_50 : decode cX4_bestBend 50 = .ok (.iadd, 1) := by decide +kernel
theorem dX4_bestBend_51 : decode cX4_bestBend 51 = .ok (.iaload, 1) := by decide +kernel
theorem dX4_bestBend_52 : decode cX4_bestBend 52 = .ok (.if_icmp .ge 5, 3) := by decide +kernel
theorem dX4_bestBend_55 : decode cX4_bestBend 55 = .ok (.iload_n 2, 1) := by decide +kernel
theorem dX4_bestBend_56 : decode cX4_bestBend 56 = .ok (.istore_n 1, 1) := by decide +kernel
theorem dX4_bestBend_57 : decode cX4_bestBend 57 = .ok (.iinc 2 1, 3) := by decide +kernel
theorem dX4_bestBend_60 : decode cX4_bestBend 60 = .ok (.goto (-56), 3) := by decide +kernel
theorem dX4_bestBend_63 : decode cX4_bestBend 63 = .ok (.iload_n 1, 1) := by decide +kernel
theorem dX4_bestBend_64 : decode cX4_bestBend 64 = .ok (.ireturn, 1) := by decide +kernel
theorem dX4_shows_0 : decode cX4_shows 0 = .ok (.aload_n 1, 1) := by decide +kernel
theorem dX4_shows_1 : decode cX4_shows 1 = .ok (.getfield 68, 3) := by decide +kernel
theorem dX4_shows_4 : decode cX4_shows 4 = .ok (.aload_n 0, 1) := by decide +kernel
theorem dX4_shows_5 : decode cX4_shows 5 = .ok (.getfield 9, 3) := by decide +kernel
theorem dX4_shows_8 : decode cX4_shows 8 = .ok (.iconst 5, 1) := by decide +kernel
theorem dX4_shows_9 : decode cX4_shows 9 = .ok (.iaload, 1) := by decide +kernel
theorem dX4_shows_10 : decode cX4_shows 10 = .ok (.ineg, 1) := by decide +kernel
theorem dX4_shows_11 : decode cX4_shows 11 = .ok (.aload_n 0, 1) := by decide +kernel
theorem dX4_shows_12 : decode cX4_shows 12 = .ok (.getfield 9, 3) := by decide +kernel
theorem dX4_shows_15 : decode cX4_shows 15 = .ok (.iconst 5, 1) := by decide +kernel
theorem dX4_shows_16 : decode cX4_shows 16 = .ok (.iaload, 1) := by decide +kernel
theorem dX4_shows_17 : decode cX4_shows 17 = .ok (.invokestatic 71, 3) := by decide +kernel
theorem dX4_shows_20 : decode cX4_shows 20 = .ok (.ifCond .eq 32, 3) := by decide +kernel
theorem dX4_shows_23 : decode cX4_shows 23 = .ok (.aload_n 1, 1) := by decide +kernel
theorem dX4_shows_24 : decode cX4_shows 24 = .ok (.getfield 75, 3) := by decide +kernel
theorem dX4_shows_27 : decode cX4_shows 27 = .ok (.aload_n 0, 1) := by decide +kernel
theorem dX4_shows_28 : decode cX4_shows 28 = .ok (.getfield 9, 3) := by decide +kernel
theorem dX4_shows_31 : decode cX4_shows 31 = .ok (.bipush 6, 2) := by decide +kernel
theorem dX4_shows_33 : decode cX4_shows 33 = .ok (.iaload, 1) := by decide +kernel
theorem dX4_shows_34 : decode cX4_shows 34 = .ok (.ineg, 1) := by decide +kernel
theorem dX4_shows_35 : decode cX4_shows 35 = .ok (.aload_n 0, 1) := by decide +kernel
theorem dX4_shows_36 : decode cX4_shows 36 = .ok (.getfield 9, 3) := by decide +kernel
theorem dX4_shows_39 : decode cX4_shows 39 = .ok (.bipush 6, 2) := by decide +kernel
theorem dX4_shows_41 : decode cX4_shows 41 = .ok (.iaload, 1) := by decide +kernel
theorem dX4_shows_42 : decode cX4_shows 42 = .ok (.invokestatic 71, 3) := by decide +kernel
theorem dX4_shows_45 : decode cX4_shows 45 = .ok (.ifCond .eq 7, 3) := by decide +kernel
theorem dX4_shows_48 : decode cX4_shows 48 = .ok (.iconst 1, 1) := by decide +kernel
theorem dX4_shows_49 : decode cX4_shows 49 = .ok (.goto 4, 3) := by decide +kernel
theorem dX4_shows_52 : decode cX4_shows 52 = .ok (.iconst 0, 1) := by decide +kernel
theorem dX4_shows_53 : decode cX4_shows 53 = .ok (.ireturn, 1) := by decide +kernel
theorem dX4_bendsMade_0 : decode cX4_bendsMade 0 = .ok (.iconst 0, 1) := by decide +kernel
theorem dX4_bendsMade_1 : decode cX4_bendsMade 1 = .ok (.istore_n 1, 1) := by decide +kernel
theorem dX4_bendsMade_2 : decode cX4_bendsMade 2 = .ok (.iconst 0, 1) := by decide +kernel
theorem dX4_bendsMade_3 : decode cX4_bendsMade 3 = .ok (.istore_n 2, 1) := by decide +kernel
theorem dX4_bendsMade_4 : decode cX4_bendsMade 4 = .ok (.iload_n 2, 1) := by decide +kernel
theorem dX4_bendsMade_5 : decode cX4_bendsMade 5 = .ok (.bipush 17, 2) := by decide +kernel
theorem dX4_bendsMade_7 : decode cX4_bendsMade 7 = .ok (.if_icmp .ge 21, 3) := by decide +kernel
theorem dX4_bendsMade_10 : decode cX4_bendsMade 10 = .ok (.aload_n 0, 1) := by decide +kernel
theorem dX4_bendsMade_11 : decode cX4_bendsMade 11 = .ok (.getfield 15, 3) := by decide +kernel
theorem dX4_bendsMade_14 : decode cX4_bendsMade 14 = .ok (.iload_n 2, 1) := by decide +kernel
theorem dX4_bendsMade_15 : decode cX4_bendsMade 15 = .ok (.iaload, 1) := by decide +kernel
theorem dX4_bendsMade_16 : decode cX4_bendsMade 16 = .ok (.ifCond .eq 6, 3) := by decide +kernel
theorem dX4_bendsMade_19 : decode cX4_bendsMade 19 = .ok (.iinc 1 1, 3) := by decide +kernel
theorem dX4_bendsMade_22 : decode cX4_bendsMade 22 = .ok (.iinc 2 1, 3) := by decide +kernel
theorem dX4_bendsMade_25 : decode cX4_bendsMade 25 = .ok (.goto (-21), 3) := by decide +kernel
theorem dX4_bendsMade_28 : decode cX4_bendsMade 28 = .ok (.iload_n 1, 1) := by decide +kernel
theorem dX4_bendsMade_29 : decode cX4_bendsMade 29 = .ok (.ireturn, 1) := by decide +kernel
theorem dX5_init_0 : decode cX5_init 0 = .ok (.aload_n 0, 1) := by decide +kernel
theorem dX5_init_1 : decode cX5_init 1 = .ok (.invokespecial 3, 3) := by decide +kernel
theorem dX5_init_4 : decode cX5_init 4 = .ok (.aload_n 0, 1) := by decide +kernel
theorem dX5_init_5 : decode cX5_init 5 = .ok (.bipush 24, 2) := by decide +kernel
theorem dX5_init_7 : decode cX5_init 7 = .ok (.newarray .int, 2) := by decide +kernel
theorem dX5_init_9 : decode cX5_init 9 = .ok (.putfield 9, 3) := by decide +kernel
theorem dX5_init_12 : decode cX5_init 12 = .ok (.aload_n 0, 1) := by decide +kernel
theorem dX5_init_13 : decode cX5_init 13 = .ok (.iconst 0, 1) := by decide +kernel
theorem dX5_init_14 : decode cX5_init 14 = .ok (.putfield 15, 3) := by decide +kernel
theorem dX5_init_17 : decode cX5_init 17 = .ok (.return_, 1) := by decide +kernel
theorem dX5_insert_0 : decode cX5_insert 0 = .ok (.aload_n 0, 1) := by decide +kernel
theorem dX5_insert_1 : decode cX5_insert 1 = .ok (.getfield 15, 3) := by decide +kernel
theorem dX5_insert_4 : decode cX5_insert 4 = .ok (.bipush 24, 2) := by decide +kernel
theorem dX5_insert_6 : decode cX5_insert 6 = .ok (.if_icmp .lt 4, 3) := by decide +kernel
theorem dX5_insert_9 : decode cX5_insert 9 = .ok (.return_, 1) := by decide +kernel
theorem dX5_insert_10 : decode cX5_insert 10 = .ok (.aload_n 0, 1) := by decide +kernel
theorem dX5_insert_11 : decode cX5_insert 11 = .ok (.getfield 15, 3) := by decide +kernel
theorem dX5_insert_14 : decode cX5_insert 14 = .ok (.istore_n 2, 1) := by decide +kernel
theorem dX5_insert_15 : decode cX5_insert 15 = .ok (.iload_n 2, 1) := by decide +kernel
theorem dX5_insert_16 : decode cX5_insert 16 = .ok (.ifCond .le 35, 3) := by decide +kernel
theorem dX5_insert_19 : decode cX5_insert 19 = .ok (.aload_n 0, 1) := by decide +kernel
theorem dX5_insert_20 : decode cX5_insert 20 = .ok (.getfield 9, 3) := by decide +kernel
theorem dX5_insert_23 : decode cX5_insert 23 = .ok (.iload_n 2, 1) := by decide +kernel
theorem dX5_insert_24 : decode cX5_insert 24 = .ok (.iconst 1, 1) := by decide +kernel
theorem dX5_insert_25 : decode cX5_insert 25 = .ok (.isub, 1) := by decide +kernel
theorem dX5_insert_26 : decode cX5_insert 26 = .ok (.iaload, 1) := by decide +kernel
theorem dX5_insert_27 : decode cX5_insert 27 = .ok (.iload_n 1, 1) := by decide +kernel
theorem dX5_insert_28 : decode cX5_insert 28 = .ok (.if_icmp .le 23, 3) := by decide +kernel
theorem dX5_insert_31 : decode cX5_insert 31 = .ok (.aload_n 0, 1) := by decide +kernel
theorem dX5_insert_32 : decode cX5_insert 32 = .ok (.getfield 9, 3) := by decide +kernel
theorem dX5_insert_35 : decode cX5_insert 35 = .ok (.iload_n 2, 1) := by decide +kernel
theorem dX5_insert_36 : decode cX5_insert 36 = .ok (.aload_n 0, 1) := by decide +kernel
theorem dX5_insert_37 : decode cX5_insert 37 = .ok (.getfield 9, 3) := by decide +kernel
theorem dX5_insert_40 : decode cX5_insert 40 = .ok (.iload_n 2, 1) := by decide +kernel
theorem dX5_insert_41 : decode cX5_insert 41 = .ok (.iconst 1, 1) := by decide +kernel
theorem dX5_insert_42 : decode cX5_insert 42 = .ok (.isub, 1) := by decide +kernel
theorem dX5_insert_43 : decode cX5_insert 43 = .ok (.iaload, 1) := by decide +kernel
theorem dX5_insert_44 : decode cX5_insert 44 = .ok (.iastore, 1) := by decide +kernel
theorem dX5_insert_45 : decode cX5_insert 45 = .ok (.iinc 2 (-1), 3) := by decide +kernel
theorem dX5_insert_48 : decode cX5_insert 48 = .ok (.goto (-33), 3) := by decide +kernel
theorem dX5_insert_51 : decode cX5_insert 51 = .ok (.aload_n 0, 1) := by decide +kernel
theorem dX5_insert_52 : decode cX5_insert 52 = .ok (.getfield 9, 3) := by decide +kernel
theorem dX5_insert_55 : decode cX5_insert 55 = .ok (.iload_n 2, 1) := by decide +kernel
theorem dX5_insert_56 : decode cX5_insert 56 = .ok (.iload_n 1, 1) := by decide +kernel
theorem dX5_insert_57 : decode cX5_insert 57 = .ok (.iastore, 1) := by decide +kernel
theorem dX5_insert_58 : decode cX5_insert 58 = .ok (.aload_n 0, 1) := by decide +kernel
theorem dX5_insert_59 : decode cX5_insert 59 = .ok (.dup, 1) := by decide +kernel
theorem dX5_insert_60 : decode cX5_insert 60 = .ok (.getfield 15, 3) := by decide +kernel
theorem dX5_insert_63 : decode cX5_insert 63 = .ok (.iconst 1, 1) := by decide +kernel
theorem dX5_insert_64 : decode cX5_insert 64 = .ok (.iadd, 1) := by decide +kernel
theorem dX5_insert_65 : decode cX5_insert 65 = .ok (.putfield 15, 3) := by decide +kernel
theorem dX5_insert_68 : decode cX5_insert 68 = .ok (.return_, 1) := by decide +kernel
theorem dX5_middle_0 : decode cX5_middle 0 = .ok (.aload_n 0, 1) := by decide +kernel
theorem dX5_middle_1 : decode cX5_middle 1 = .ok (.getfield 15, 3) := by decide +kernel
theorem dX5_middle_4 : decode cX5_middle 4 = .ok (.ifCond .ne 7, 3) := by decide +kernel
theorem dX5_middle_7 : decode cX5_middle 7 = .ok (.iconst 0, 1) := by decide +kernel
theorem dX5_middle_8 : decode cX5_middle 8 = .ok (.goto 16, 3) := by decide +kernel
theorem dX5_middle_11 : decode cX5_middle 11 = .ok (.aload_n 0, 1) := by decide +kernel
theorem dX5_middle_12 : decode cX5_middle 12 = .ok (.getfield 9, 3) := by decide +kernel
theorem dX5_middle_15 : decode cX5_middle 15 = .ok (.aload_n 0, 1) := by decide +kernel
theorem dX5_middle_16 : decode cX5_middle 16 = .ok (.getfield 15, 3) := by decide +kernel
theorem dX5_middle_19 : decode cX5_middle 19 = .ok (.iconst 1, 1) := by decide +kernel
theorem dX5_middle_20 : decode cX5_middle 20 = .ok (.isub, 1) := by decide +kernel
theorem dX5_middle_21 : decode cX5_middle 21 = .ok (.iconst 2, 1) := by decide +kernel
theorem dX5_middle_22 : decode cX5_middle 22 = .ok (.idiv, 1) := by decide +kernel
theorem dX5_middle_23 : decode cX5_middle 23 = .ok (.iaload, 1) := by decide +kernel
theorem dX5_middle_24 : decode cX5_middle 24 = .ok (.ireturn, 1) := by decide +kernel
theorem dX5_misfit_0 : decode cX5_misfit 0 = .ok (.iconst 0, 1) := by decide +kernel
theorem dX5_misfit_1 : decode cX5_misfit 1 = .ok (.istore_n 1, 1) := by decide +kernel
theorem dX5_misfit_2 : decode cX5_misfit 2 = .ok (.iconst 0, 1) := by decide +kernel
theorem dX5_misfit_3 : decode cX5_misfit 3 = .ok (.istore_n 2, 1) := by decide +kernel
theorem dX5_misfit_4 : decode cX5_misfit 4 = .ok (.iload_n 2, 1) := by decide +kernel
theorem dX5_misfit_5 : decode cX5_misfit 5 = .ok (.aload_n 0, 1) := by decide +kernel
theorem dX5_misfit_6 : decode cX5_misfit 6 = .ok (.getfield 15, 3) := by decide +kernel
theorem dX5_misfit_9 : decode cX5_misfit 9 = .ok (.if_icmp .ge 26, 3) := by decide +kernel
theorem dX5_misfit_12 : decode cX5_misfit 12 = .ok (.iload_n 1, 1) := by decide +kernel
theorem dX5_misfit_13 : decode cX5_misfit 13 = .ok (.aload_n 0, 1) := by decide +kernel
theorem dX5_misfit_14 : decode cX5_misfit 14 = .ok (.getfield 9, 3) := by decide +kernel
theorem dX5_misfit_17 : decode cX5_misfit 17 = .ok (.iload_n 2, 1) := by decide +kernel
theorem dX5_misfit_18 : decode cX5_misfit 18 = .ok (.iaload, 1) := by decide +kernel
theorem dX5_misfit_19 : decode cX5_misfit 19 = .ok (.aload_n 0, 1) := by decide +kernel
theorem dX5_misfit_20 : decode cX5_misfit 20 = .ok (.invokevirtual 19, 3) := by decide +kernel
theorem dX5_misfit_23 : decode cX5_misfit 23 = .ok (.isub, 1) := by decide +kernel
theorem dX5_misfit_24 : decode cX5_misfit 24 = .ok (.invokestatic 23, 3) := by decide +kernel
theorem dX5_misfit_27 : decode cX5_misfit 27 = .ok (.iadd, 1) := by decide +kernel
theorem dX5_misfit_28 : decode cX5_misfit 28 = .ok (.istore_n 1, 1) := by decide +kernel
theorem dX5_misfit_29 : decode cX5_misfit 29 = .ok (.iinc 2 1, 3) := by decide +kernel
theorem dX5_misfit_32 : decode cX5_misfit 32 = .ok (.goto (-28), 3) := by decide +kernel
theorem dX5_misfit_35 : decode cX5_misfit 35 = .ok (.iload_n 1, 1) := by decide +kernel
theorem dX5_misfit_36 : decode cX5_misfit 36 = .ok (.ireturn, 1) := by decide +kernel
theorem dX6_init_0 : decode cX6_init 0 = .ok (.aload_n 0, 1) := by decide +kernel
theorem dX6_init_1 : decode cX6_init 1 = .ok (.invokespecial 3, 3) := by decide +kernel
theorem dX6_init_4 : decode cX6_init 4 = .ok (.aload_n 0, 1) := by decide +kernel
theorem dX6_init_5 : decode cX6_init 5 = .ok (.bipush 80, 2) := by decide +kernel
theorem dX6_init_7 : decode cX6_init 7 = .ok (.newarray .int, 2) := by decide +kernel
theorem dX6_init_9 : decode cX6_init 9 = .ok (.putfield 9, 3) := by decide +kernel
theorem dX6_init_12 : decode cX6_init 12 = .ok (.aload_n 0, 1) := by decide +kernel
theorem dX6_init_13 : decode cX6_init 13 = .ok (.iconst (-1), 1) := by decide +kernel
theorem dX6_init_14 : decode cX6_init 14 = .ok (.putfield 15, 3) := by decide +kernel
theorem dX6_init_17 : decode cX6_init 17 = .ok (.aload_n 0, 1) := by decide +kernel
theorem dX6_init_18 : decode cX6_init 18 = .ok (.iconst 0, 1) := by decide +kernel
theorem dX6_init_19 : decode cX6_init 19 = .ok (.putfield 19, 3) := by decide +kernel
theorem dX6_init_22 : decode cX6_init 22 = .ok (.return_, 1) := by decide +kernel
theorem dX6_isMissing_0 : decode cX6_isMissing 0 = .ok (.aload_n 0, 1) := by decide +kernel
theorem dX6_isMissing_1 : decode cX6_isMissing 1 = .ok (.getfield 15, 3) := by decide +kernel
theorem dX6_isMissing_4 : decode cX6_isMissing 4 = .ok (.iconst (-1), 1) := by decide +kernel
theorem dX6_isMissing_5 : decode cX6_isMissing 5 = .ok (.if_icmp .ne 7, 3) := by decide +kernel
theorem dX6_isMissing_8 : decode cX6_isMissing 8 = .ok (.iconst 1, 1) := by decide +kernel
theorem dX6_isMissing_9 : decode cX6_isMissing 9 = .ok (.goto 4, 3) := by decide +kernel
theorem dX6_isMissing_12 : decode cX6_isMissing 12 = .ok (.iconst 0, 1) := by decide +kernel
theorem dX6_isMissing_13 : decode cX6_isMissing 13 = .ok (.ireturn, 1) := by decide +kernel
theorem dX6_lay_0 : decode cX6_lay 0 = .ok (.aload_n 0, 1) := by decide +kernel
theorem dX6_lay_1 : decode cX6_lay 1 = .ok (.iload_n 1, 1) := by decide +kernel
theorem dX6_lay_2 : decode cX6_lay 2 = .ok (.putfield 15, 3) := by decide +kernel
theorem dX6_lay_5 : decode cX6_lay 5 = .ok (.aload_n 0, 1) := by decide +kernel
theorem dX6_lay_6 : decode cX6_lay 6 = .ok (.iload_n 2, 1) := by decide +kernel
theorem dX6_lay_7 : decode cX6_lay 7 = .ok (.putfield 19, 3) := by decide +kernel
theorem dX6_lay_10 : decode cX6_lay 10 = .ok (.iconst 0, 1) := by decide +kernel
theorem dX6_lay_11 : decode cX6_lay 11 = .ok (.istore_n 3, 1) := by decide +kernel
theorem dX6_lay_12 : decode cX6_lay 12 = .ok (.iload_n 3, 1) := by decide +kernel
theorem dX6_lay_13 : decode cX6_lay 13 = .ok (.bipush 80, 2) := by decide +kernel
theorem dX6_lay_15 : decode cX6_lay 15 = .ok (.if_icmp .ge 16, 3) := by decide +kernel
theorem dX6_lay_18 : decode cX6_lay 18 = .ok (.aload_n 0, 1) := by decide +kernel
theorem dX6_lay_19 : decode cX6_lay 19 = .ok (.getfield 9, 3) := by decide +kernel
theorem dX6_lay_22 : decode cX6_lay 22 = .ok (.iload_n 3, 1) := by decide +kernel
theorem dX6_lay_23 : decode cX6_lay 23 = .ok (.iconst 0, 1) := by decide +kernel
theorem dX6_lay_24 : decode cX6_lay 24 = .ok (.iastore, 1) := by decide +kernel
theorem dX6_lay_25 : decode cX6_lay 25 = .ok (.iinc 3 1, 3) := by decide +kernel
theorem dX6_lay_28 : decode cX6_lay 28 = .ok (.goto (-16), 3) := by decide +kernel
theorem dX6_lay_31 : decode cX6_lay 31 = .ok (.return_, 1) := by decide +kernel
theorem dX6_lose_0 : decode cX6_lose 0 = .ok (.aload_n 0, 1) := by decide +kernel
theorem dX6_lose_1 : decode cX6_lose 1 = .ok (.getfield 19, 3) := by decide +kernel
theorem dX6_lose_4 : decode cX6_lose 4 = .ok (.istore_n 1, 1) := by decide +kernel
theorem dX6_lose_5 : decode cX6_lose 5 = .ok (.aload_n 0, 1) := by decide +kernel
theorem dX6_lose_6 : decode cX6_lose 6 = .ok (.iconst (-1), 1) := by decide +kernel
theorem dX6_lose_7 : decode cX6_lose 7 = .ok (.putfield 15, 3) := by decide +kernel
theorem dX6_lose_10 : decode cX6_lose 10 = .ok (.aload_n 0, 1) := by decide +kernel
theorem dX6_lose_11 : decode cX6_lose 11 = .ok (.iconst 0, 1) := by decide +kernel
theorem dX6_lose_12 : decode cX6_lose 12 = .ok (.putfield 19, 3) := by decide +kernel
theorem dX6_lose_15 : decode cX6_lose 15 = .ok (.iload_n 1, 1) := by decide +kernel
theorem dX6_lose_16 : decode cX6_lose 16 = .ok (.ireturn, 1) := by decide +kernel
theorem dX6_write_0 : decode cX6_write 0 = .ok (.aload_n 0, 1) := by decide +kernel
theorem dX6_write_1 : decode cX6_write 1 = .ok (.getfield 9, 3) := by decide +kernel
theorem dX6_write_4 : decode cX6_write 4 = .ok (.iload_n 1, 1) := by decide +kernel
theorem dX6_write_5 : decode cX6_write 5 = .ok (.aload_n 0, 1) := by decide +kernel
theorem dX6_write_6 : decode cX6_write 6 = .ok (.getfield 15, 3) := by decide +kernel
theorem dX6_write_9 : decode cX6_write 9 = .ok (.ifCond .ne 8, 3) := by decide +kernel
theorem dX6_write_12 : decode cX6_write 12 = .ok (.iload_n 2, 1) := by decide +kernel
theorem dX6_write_13 : decode cX6_write 13 = .ok (.i2b, 1) := by decide +kernel
theorem dX6_write_14 : decode cX6_write 14 = .ok (.goto 17, 3) := by decide +kernel
theorem dX6_write_17 : decode cX6_write 17 = .ok (.aload_n 0, 1) := by decide +kernel
theorem dX6_write_18 : decode cX6_write 18 = .ok (.getfield 15, 3) := by decide +kernel
theorem dX6_write_21 : decode cX6_write 21 = .ok (.iconst 1, 1) := by decide +kernel
theorem dX6_write_22 : decode cX6_write 22 = .ok (.if_icmp .ne 8, 3) := by decide +kernel
theorem dX6_write_25 : decode cX6_write 25 = .ok (.iload_n 2, 1) := by decide +kernel
theorem dX6_write_26 : decode cX6_write 26 = .ok (.i2s, 1) := by decide +kernel
theorem dX6_write_27 : decode cX6_write 27 = .ok (.goto 4, 3) := by decide +kernel
theorem dX6_write_30 : decode cX6_write 30 = .ok (.iload_n 2, 1) := by decide +kernel
theorem dX6_write_31 : decode cX6_write 31 = .ok (.iastore, 1) := by decide +kernel
theorem dX6_write_32 : decode cX6_write 32 = .ok (.aload_n 0, 1) := by decide +kernel
theorem dX6_write_33 : decode cX6_write 33 = .ok (.getfield 9, 3) := by decide +kernel
theorem dX6_write_36 : decode cX6_write 36 = .ok (.iload_n 1, 1) := by decide +kernel
theorem dX6_write_37 : decode cX6_write 37 = .ok (.iaload, 1) := by decide +kernel
theorem dX6_write_38 : decode cX6_write 38 = .ok (.ireturn, 1) := by decide +kernel
theorem dX6_holds_0 : decode cX6_holds 0 = .ok (.iload_n 1, 1) := by decide +kernel
theorem dX6_holds_1 : decode cX6_holds 1 = .ok (.ifCond .lt 29, 3) := by decide +kernel
theorem dX6_holds_4 : decode cX6_holds 4 = .ok (.iload_n 2, 1) := by decide +kernel
theorem dX6_holds_5 : decode cX6_holds 5 = .ok (.ifCond .lt 25, 3) := by decide +kernel
theorem dX6_holds_8 : decode cX6_holds 8 = .ok (.iload_n 2, 1) := by decide +kernel
theorem dX6_holds_9 : decode cX6_holds 9 = .ok (.aload_n 0, 1) := by decide +kernel
theorem dX6_holds_10 : decode cX6_holds 10 = .ok (.getfield 19, 3) := by decide +kernel
theorem dX6_holds_13 : decode cX6_holds 13 = .ok (.if_icmp .gt 17, 3) := by decide +kernel
theorem dX6_holds_16 : decode cX6_holds 16 = .ok (.iload_n 1, 1) := by decide +kernel
theorem dX6_holds_17 : decode cX6_holds 17 = .ok (.aload_n 0, 1) := by decide +kernel
theorem dX6_holds_18 : decode cX6_holds 18 = .ok (.getfield 19, 3) := by decide +kernel
theorem dX6_holds_21 : decode cX6_holds 21 = .ok (.iload_n 2, 1) := by decide +kernel
theorem dX6_holds_22 : decode cX6_holds 22 = .ok (.isub, 1) := by decide +kernel
theorem dX6_holds_23 : decode cX6_holds 23 = .ok (.if_icmp .gt 7, 3) := by decide +kernel
theorem dX6_holds_26 : decode cX6_holds 26 = .ok (.iconst 1, 1) := by decide +kernel
theorem dX6_holds_27 : decode cX6_holds 27 = .ok (.goto 4, 3) := by decide +kernel
theorem dX6_holds_30 : decode cX6_holds 30 = .ok (.iconst 0, 1) := by decide +kernel
theorem dX6_holds_31 : decode cX6_holds 31 = .ok (.ireturn, 1) := by decide +kernel
theorem dX7_init_0 : decode cX7_init 0 = .ok (.aload_n 0, 1) := by decide +kernel
theorem dX7_init_1 : decode cX7_init 1 = .ok (.invokespecial 1, 3) := by decide +kernel
theorem dX7_init_4 : decode cX7_init 4 = .ok (.return_, 1) := by decide +kernel
theorem dX7_take_0 : decode cX7_take 0 = .ok (.aload_n 0, 1) := by decide +kernel
theorem dX7_take_1 : decode cX7_take 1 = .ok (.lload 5, 2) := by decide +kernel
theorem dX7_take_3 : decode cX7_take 3 = .ok (.aload_n 1, 1) := by decide +kernel
theorem dX7_take_4 : decode cX7_take 4 = .ok (.getfield 7, 3) := by decide +kernel
theorem dX7_take_7 : decode cX7_take 7 = .ok (.i2l, 1) := by decide +kernel
theorem dX7_take_8 : decode cX7_take 8 = .ok (.lmul, 1) := by decide +kernel
theorem dX7_take_9 : decode cX7_take 9 = .ok (.lload_n 3, 1) := by decide +kernel
theorem dX7_take_10 : decode cX7_take 10 = .ok (.aload_n 2, 1) := by decide +kernel
theorem dX7_take_11 : decode cX7_take 11 = .ok (.getfield 7, 3) := by decide +kernel
theorem dX7_take_14 : decode cX7_take 14 = .ok (.i2l, 1) := by decide +kernel
theorem dX7_take_15 : decode cX7_take 15 = .ok (.lmul, 1) := by decide +kernel
theorem dX7_take_16 : decode cX7_take 16 = .ok (.lsub, 1) := by decide +kernel
theorem dX7_take_17 : decode cX7_take 17 = .ok (.putfield 13, 3) := by decide +kernel
theorem dX7_take_20 : decode cX7_take 20 = .ok (.aload_n 0, 1) := by decide +kernel
theorem dX7_take_21 : decode cX7_take 21 = .ok (.aload_n 2, 1) := by decide +kernel
theorem dX7_take_22 : decode cX7_take 22 = .ok (.getfield 19, 3) := by decide +kernel
theorem dX7_take_25 : decode cX7_take 25 = .ok (.aload_n 1, 1) := by decide +kernel
theorem dX7_take_26 : decode cX7_take 26 = .ok (.getfield 19, 3) := by decide +kernel
theorem dX7_take_29 : decode cX7_take 29 = .ok (.isub, 1) := by decide +kernel
theorem dX7_take_30 : decode cX7_take 30 = .ok (.i2l, 1) := by decide +kernel
theorem dX7_take_31 : decode cX7_take 31 = .ok (.aload_n 1, 1) := by decide +kernel
theorem dX7_take_32 : decode cX7_take 32 = .ok (.getfield 7, 3) := by decide +kernel
theorem dX7_take_35 : decode cX7_take 35 = .ok (.i2l, 1) := by decide +kernel
theorem dX7_take_36 : decode cX7_take 36 = .ok (.lmul, 1) := by decide +kernel
theorem dX7_take_37 : decode cX7_take 37 = .ok (.aload_n 2, 1) := by decide +kernel
theorem dX7_take_38 : decode cX7_take 38 = .ok (.getfield 7, 3) := by decide +kernel
theorem dX7_take_41 : decode cX7_take 41 = .ok (.i2l, 1) := by decide +kernel
theorem dX7_take_42 : decode cX7_take 42 = .ok (.lmul, 1) := by decide +kernel
theorem dX7_take_43 : decode cX7_take 43 = .ok (.lload_n 3, 1) := by decide +kernel
theorem dX7_take_44 : decode cX7_take 44 = .ok (.aload_n 1, 1) := by decide +kernel
theorem dX7_take_45 : decode cX7_take 45 = .ok (.getfield 22, 3) := by decide +kernel
theorem dX7_take_48 : decode cX7_take 48 = .ok (.i2l, 1) := by decide +kernel
theorem dX7_take_49 : decode cX7_take 49 = .ok (.lmul, 1) := by decide +kernel
theorem dX7_take_50 : decode cX7_take 50 = .ok (.aload_n 2, 1) := by decide +kernel
theorem dX7_take_51 : decode cX7_take 51 = .ok (.getfield 7, 3) := by decide +kernel
theorem dX7_take_54 : decode cX7_take 54 = .ok (.i2l, 1) := by decide +kernel
theorem dX7_take_55 : decode cX7_take 55 = .ok (.lmul, 1) := by decide +kernel
theorem dX7_take_56 : decode cX7_take 56 = .ok (.lsub, 1) := by decide +kernel
theorem dX7_take_57 : decode cX7_take 57 = .ok (.lload 5, 2) := by decide +kernel
theorem dX7_take_59 : decode cX7_take 59 = .ok (.aload_n 2, 1) := by decide +kernel
theorem dX7_take_60 : decode cX7_take 60 = .ok (.getfield 22, 3) := by decide +kernel
theorem dX7_take_63 : decode cX7_take 63 = .ok (.i2l, 1) := by decide +kernel
theorem dX7_take_64 : decode cX7_take 64 = .ok (.lmul, 1) := by decide +kernel
theorem dX7_take_65 : decode cX7_take 65 = .ok (.aload_n 1, 1) := by decide +kernel
theorem dX7_take_66 : decode cX7_take 66 = .ok (.getfield 7, 3) := by decide +kernel
theorem dX7_take_69 : decode cX7_take 69 = .ok (.i2l, 1) := by decide +kernel
theorem dX7_take_70 : decode cX7_take 70 = .ok (.lmul, 1) := by decide +kernel
theorem dX7_take_71 : decode cX7_take 71 = .ok (.ladd, 1) := by decide +kernel
theorem dX7_take_72 : decode cX7_take 72 = .ok (.putfield 25, 3) := by decide +kernel
theorem dX7_take_75 : decode cX7_take 75 = .ok (.aload_n 0, 1) := by decide +kernel
theorem dX7_take_76 : decode cX7_take 76 = .ok (.getfield 13, 3) := by decide +kernel
theorem dX7_take_79 : decode cX7_take 79 = .ok (.lconst 0, 1) := by decide +kernel
theorem dX7_take_80 : decode cX7_take 80 = .ok (.lcmp, 1) := by decide +kernel
theorem dX7_take_81 : decode cX7_take 81 = .ok (.ifCond .ge 21, 3) := by decide +kernel
theorem dX7_take_84 : decode cX7_take 84 = .ok (.aload_n 0, 1) := by decide +kernel
theorem dX7_take_85 : decode cX7_take 85 = .ok (.aload_n 0, 1) := by decide +kernel
theorem dX7_take_86 : decode cX7_take 86 = .ok (.getfield 13, 3) := by decide +kernel
theorem dX7_take_89 : decode cX7_take 89 = .ok (.lneg, 1) := by decide +kernel
theorem dX7_take_90 : decode cX7_take 90 = .ok (.putfield 13, 3) := by decide +kernel
theorem dX7_take_93 : decode cX7_take 93 = .ok (.aload_n 0, 1) := by decide +kernel
theorem dX7_take_94 : decode cX7_take 94 = .ok (.aload_n 0, 1) := by decide +kernel
theorem dX7_take_95 : decode cX7_take 95 = .ok (.getfield 25, 3) := by decide +kernel
theorem dX7_take_98 : decode cX7_take 98 = .ok (.lneg, 1) := by decide +kernel
theorem dX7_take_99 : decode cX7_take 99 = .ok (.putfield 25, 3) := by decide +kernel
theorem dX7_take_102 : decode cX7_take 102 = .ok (.aload_n 0, 1) := by decide +kernel
theorem dX7_take_103 : decode cX7_take 103 = .ok (.getfield 13, 3) := by decide +kernel
theorem dX7_take_106 : decode cX7_take 106 = .ok (.lconst 0, 1) := by decide +kernel
theorem dX7_take_107 : decode cX7_take 107 = .ok (.lcmp, 1) := by decide +kernel
theorem dX7_take_108 : decode cX7_take 108 = .ok (.ifCond .eq 32, 3) := by decide +kernel
theorem dX7_take_111 : decode cX7_take 111 = .ok (.aload_n 0, 1) := by decide +kernel
theorem dX7_take_112 : decode cX7_take 112 = .ok (.getfield 25, 3) := by decide +kernel
theorem dX7_take_115 : decode cX7_take 115 = .ok (.aload_n 0, 1) := by decide +kernel
theorem dX7_take_116 : decode cX7_take 116 = .ok (.getfield 13, 3) := by decide +kernel
theorem dX7_take_119 : decode cX7_take 119 = .ok (.aload_n 1, 1) := by decide +kernel
theorem dX7_take_120 : decode cX7_take 120 = .ok (.getfield 22, 3) := by decide +kernel
theorem dX7_take_123 : decode cX7_take 123 = .ok (.aload_n 2, 1) := by decide +kernel
theorem dX7_take_124 : decode cX7_take 124 = .ok (.getfield 22, 3) := by decide +kernel
theorem dX7_take_127 : decode cX7_take 127 = .ok (.invokestatic 28, 3) := by decide +kernel
theorem dX7_take_130 : decode cX7_take 130 = .ok (.i2l, 1) := by decide +kernel
theorem dX7_take_131 : decode cX7_take 131 = .ok (.lmul, 1) := by decide +kernel
theorem dX7_take_132 : decode cX7_take 132 = .ok (.lcmp, 1) := by decide +kernel
theorem dX7_take_133 : decode cX7_take 133 = .ok (.ifCond .le 7, 3) := by decide +kernel
theorem dX7_take_136 : decode cX7_take 136 = .ok (.iconst 1, 1) := by decide +kernel
theorem dX7_take_137 : decode cX7_take 137 = .ok (.goto 4, 3) := by decide +kernel
theorem dX7_take_140 : decode cX7_take 140 = .ok (.iconst 0, 1) := by decide +kernel
theorem dX7_take_141 : decode cX7_take 141 = .ok (.ireturn, 1) := by decide +kernel
theorem dX7_highOf_0 : decode cX7_highOf 0 = .ok (.aload_n 1, 1) := by decide +kernel
theorem dX7_highOf_1 : decode cX7_highOf 1 = .ok (.getfield 34, 3) := by decide +kernel
theorem dX7_highOf_4 : decode cX7_highOf 4 = .ok (.i2l, 1) := by decide +kernel
theorem dX7_highOf_5 : decode cX7_highOf 5 = .ok (.aload_n 0, 1) := by decide +kernel
theorem dX7_highOf_6 : decode cX7_highOf 6 = .ok (.getfield 13, 3) := by decide +kernel
theorem dX7_highOf_9 : decode cX7_highOf 9 = .ok (.lmul, 1) := by decide +kernel
theorem dX7_highOf_10 : decode cX7_highOf 10 = .ok (.aload_n 1, 1) := by decide +kernel
theorem dX7_highOf_11 : decode cX7_highOf 11 = .ok (.getfield 7, 3) := by decide +kernel
theorem dX7_highOf_14 : decode cX7_highOf 14 = .ok (.i2l, 1) := by decide +kernel
theorem dX7_highOf_15 : decode cX7_highOf 15 = .ok (.lmul, 1) := by decide +kernel
theorem dX7_highOf_16 : decode cX7_highOf 16 = .ok (.lload_n 2, 1) := by decide +kernel
theorem dX7_highOf_17 : decode cX7_highOf 17 = .ok (.aload_n 0, 1) := by decide +kernel
theorem dX7_highOf_18 : decode cX7_highOf 18 = .ok (.getfield 25, 3) := by decide +kernel
theorem dX7_highOf_21 : decode cX7_highOf 21 = .ok (.aload_n 1, 1) := by decide +kernel
theorem dX7_highOf_22 : decode cX7_highOf 22 = .ok (.getfield 22, 3) := by decide +kernel
theorem dX7_highOf_25 : decode cX7_highOf 25 = .ok (.i2l, 1) := by decide +kernel
theorem dX7_highOf_26 : decode cX7_highOf 26 = .ok (.aload_n 0, 1) := by decide +kernel
theorem dX7_highOf_27 : decode cX7_highOf 27 = .ok (.getfield 13, 3) := by decide +kernel
theorem dX7_highOf_30 : decode cX7_highOf 30 = .ok (.lmul, 1) := by decide +kernel
theorem dX7_highOf_31 : decode cX7_highOf 31 = .ok (.lsub, 1) := by decide +kernel
theorem dX7_highOf_32 : decode cX7_highOf 32 = .ok (.lmul, 1) := by decide +kernel
theorem dX7_highOf_33 : decode cX7_highOf 33 = .ok (.lsub, 1) := by decide +kernel
theorem dX7_highOf_34 : decode cX7_highOf 34 = .ok (.aload_n 0, 1) := by decide +kernel
theorem dX7_highOf_35 : decode cX7_highOf 35 = .ok (.getfield 13, 3) := by decide +kernel
theorem dX7_highOf_38 : decode cX7_highOf 38 = .ok (.aload_n 1, 1) := by decide +kernel
theorem dX7_highOf_39 : decode cX7_highOf 39 = .ok (.getfield 7, 3) := by decide +kernel
theorem dX7_highOf_42 : decode cX7_highOf 42 = .ok (.i2l, 1) := by decide +kernel
theorem dX7_highOf_43 : decode cX7_highOf 43 = .ok (.lmul, 1) := by decide +kernel
theorem dX7_highOf_44 : decode cX7_highOf 44 = .ok (.invokestatic 37, 3) := by decide +kernel
theorem dX7_highOf_47 : decode cX7_highOf 47 = .ok (.lreturn, 1) := by decide +kernel
theorem dX8_init_0 : decode cX8_init 0 = .ok (.aload_n 0, 1) := by decide +kernel
theorem dX8_init_1 : decode cX8_init 1 = .ok (.invokespecial 1, 3) := by decide +kernel
theorem dX8_init_4 : decode cX8_init 4 = .ok (.aload_n 0, 1) := by decide +kernel
theorem dX8_init_5 : decode cX8_init 5 = .ok (.bipush 100, 2) := by decide +kernel
theorem dX8_init_7 : decode cX8_init 7 = .ok (.putfield 7, 3) := by decide +kernel
theorem dX8_init_10 : decode cX8_init 10 = .ok (.return_, 1) := by decide +kernel
theorem dX8_put_0 : decode cX8_put 0 = .ok (.aload_n 0, 1) := by decide +kernel
theorem dX8_put_1 : decode cX8_put 1 = .ok (.iload_n 1, 1) := by decide +kernel
theorem dX8_put_2 : decode cX8_put 2 = .ok (.putfield 13, 3) := by decide +kernel
theorem dX8_put_5 : decode cX8_put 5 = .ok (.aload_n 0, 1) := by decide +kernel
theorem dX8_put_6 : decode cX8_put 6 = .ok (.iload_n 2, 1) := by decide +kernel
theorem dX8_put_7 : decode cX8_put 7 = .ok (.putfield 16, 3) := by decide +kernel
theorem dX8_put_10 : decode cX8_put 10 = .ok (.aload_n 0, 1) := by decide +kernel
theorem dX8_put_11 : decode cX8_put 11 = .ok (.iload_n 3, 1) := by decide +kernel
theorem dX8_put_12 : decode cX8_put 12 = .ok (.putfield 19, 3) := by decide +kernel
theorem dX8_put_15 : decode cX8_put 15 = .ok (.aload_n 0, 1) := by decide +kernel
theorem dX8_put_16 : decode cX8_put 16 = .ok (.iload 4, 2) := by decide +kernel
theorem dX8_put_18 : decode cX8_put 18 = .ok (.putfield 7, 3) := by decide +kernel
theorem dX8_put_21 : decode cX8_put 21 = .ok (.return_, 1) := by decide +kernel
theorem dX8_sees_0 : decode cX8_sees 0 = .ok (.aload_n 1, 1) := by decide +kernel
theorem dX8_sees_1 : decode cX8_sees 1 = .ok (.getfield 22, 3) := by decide +kernel
theorem dX8_sees_4 : decode cX8_sees 4 = .ok (.aload_n 0, 1) := by decide +kernel
theorem dX8_sees_5 : decode cX8_sees 5 = .ok (.getfield 19, 3) := by decide +kernel
theorem dX8_sees_8 : decode cX8_sees 8 = .ok (.if_icmp .le 7, 3) := by decide +kernel
theorem dX8_sees_11 : decode cX8_sees 11 = .ok (.iconst 1, 1) := by decide +kernel
theorem dX8_sees_12 : decode cX8_sees 12 = .ok (.goto 4, 3) := by decide +kernel
theorem dX8_sees_15 : decode cX8_sees 15 = .ok (.iconst 0, 1) := by decide +kernel
theorem dX8_sees_16 : decode cX8_sees 16 = .ok (.ireturn, 1) := by decide +kernel
theorem dX8_across_0 : decode cX8_across 0 = .ok (.aload_n 1, 1) := by decide +kernel
theorem dX8_across_1 : decode cX8_across 1 = .ok (.getfield 27, 3) := by decide +kernel
theorem dX8_across_4 : decode cX8_across 4 = .ok (.aload_n 0, 1) := by decide +kernel
theorem dX8_across_5 : decode cX8_across 5 = .ok (.getfield 13, 3) := by decide +kernel
theorem dX8_across_8 : decode cX8_across 8 = .ok (.isub, 1) := by decide +kernel
theorem dX8_across_9 : decode cX8_across 9 = .ok (.ineg, 1) := by decide +kernel
theorem dX8_across_10 : decode cX8_across 10 = .ok (.aload_n 0, 1) := by decide +kernel
theorem dX8_across_11 : decode cX8_across 11 = .ok (.getfield 7, 3) := by decide +kernel
theorem dX8_across_14 : decode cX8_across 14 = .ok (.imul, 1) := by decide +kernel
theorem dX8_across_15 : decode cX8_across 15 = .ok (.aload_n 1, 1) := by decide +kernel
theorem dX8_across_16 : decode cX8_across 16 = .ok (.getfield 22, 3) := by decide +kernel
theorem dX8_across_19 : decode cX8_across 19 = .ok (.aload_n 0, 1) := by decide +kernel
theorem dX8_across_20 : decode cX8_across 20 = .ok (.getfield 19, 3) := by decide +kernel
theorem dX8_across_23 : decode cX8_across 23 = .ok (.isub, 1) := by decide +kernel
theorem dX8_across_24 : decode cX8_across 24 = .ok (.invokestatic 30, 3) := by decide +kernel
theorem dX8_across_27 : decode cX8_across 27 = .ok (.ireturn, 1) := by decide +kernel
theorem dX8_up_0 : decode cX8_up 0 = .ok (.aload_n 1, 1) := by decide +kernel
theorem dX8_up_1 : decode cX8_up 1 = .ok (.getfield 36, 3) := by decide +kernel
theorem dX8_up_4 : decode cX8_up 4 = .ok (.aload_n 0, 1) := by decide +kernel
theorem dX8_up_5 : decode cX8_up 5 = .ok (.getfield 16, 3) := by decide +kernel
theorem dX8_up_8 : decode cX8_up 8 = .ok (.isub, 1) := by decide +kernel
theorem dX8_up_9 : decode cX8_up 9 = .ok (.ineg, 1) := by decide +kernel
theorem dX8_up_10 : decode cX8_up 10 = .ok (.aload_n 0, 1) := by decide +kernel
theorem dX8_up_11 : decode cX8_up 11 = .ok (.getfield 7, 3) := by decide +kernel
theorem dX8_up_14 : decode cX8_up 14 = .ok (.imul, 1) := by decide +kernel
theorem dX8_up_15 : decode cX8_up 15 = .ok (.aload_n 1, 1) := by decide +kernel
theorem dX8_up_16 : decode cX8_up 16 = .ok (.getfield 22, 3) := by decide +kernel
theorem dX8_up_19 : decode cX8_up 19 = .ok (.aload_n 0, 1) := by decide +kernel
theorem dX8_up_20 : decode cX8_up 20 = .ok (.getfield 19, 3) := by decide +kernel
theorem dX8_up_23 : decode cX8_up 23 = .ok (.isub, 1) := by decide +kernel
theorem dX8_up_24 : decode cX8_up 24 = .ok (.invokestatic 30, 3) := by decide +kernel
theorem dX8_up_27 : decode cX8_up 27 = .ok (.ireturn, 1) := by decide +kernel
theorem dX9_init_0 : decode cX9_init 0 = .ok (.aload_n 0, 1) := by decide +kernel
theorem dX9_init_1 : decode cX9_init 1 = .ok (.invokespecial 1, 3) := by decide +kernel
theorem dX9_init_4 : decode cX9_init 4 = .ok (.aload_n 0, 1) := by decide +kernel
theorem dX9_init_5 : decode cX9_init 5 = .ok (.iconst 1, 1) := by decide +kernel
theorem dX9_init_6 : decode cX9_init 6 = .ok (.putfield 7, 3) := by decide +kernel
theorem dX9_init_9 : decode cX9_init 9 = .ok (.return_, 1) := by decide +kernel
theorem dX9_put_0 : decode cX9_put 0 = .ok (.aload_n 0, 1) := by decide +kernel
theorem dX9_put_1 : decode cX9_put 1 = .ok (.iload_n 1, 1) := by decide +kernel
theorem dX9_put_2 : decode cX9_put 2 = .ok (.putfield 13, 3) := by decide +kernel
theorem dX9_put_5 : decode cX9_put 5 = .ok (.aload_n 0, 1) := by decide +kernel
theorem dX9_put_6 : decode cX9_put 6 = .ok (.iload_n 2, 1) := by decide +kernel
theorem dX9_put_7 : decode cX9_put 7 = .ok (.putfield 16, 3) := by decide +kernel
theorem dX9_put_10 : decode cX9_put 10 = .ok (.aload_n 0, 1) := by decide +kernel
theorem dX9_put_11 : decode cX9_put 11 = .ok (.iload_n 3, 1) := by decide +kernel
theorem dX9_put_12 : decode cX9_put 12 = .ok (.putfield 7, 3) := by decide +kernel
theorem dX9_put_15 : decode cX9_put 15 = .ok (.return_, 1) := by decide +kernel
theorem dX10_init_0 : decode cX10_init 0 = .ok (.aload_n 0, 1) := by decide +kernel
theorem dX10_init_1 : decode cX10_init 1 = .ok (.invokespecial 3, 3) := by decide +kernel
theorem dX10_init_4 : decode cX10_init 4 = .ok (.aload_n 0, 1) := by decide +kernel
theorem dX10_init_5 : decode cX10_init 5 = .ok (.bipush 24, 2) := by decide +kernel
theorem dX10_init_7 : decode cX10_init 7 = .ok (.newarray .boolean, 2) := by decide +kernel
theorem dX10_init_9 : decode cX10_init 9 = .ok (.putfield 9, 3) := by decide +kernel
theorem dX10_init_12 : decode cX10_init 12 = .ok (.aload_n 0, 1) := by decide +kernel
theorem dX10_init_13 : decode cX10_init 13 = .ok (.bipush 24, 2) := by decide +kernel
theorem dX10_init_15 : decode cX10_init 15 = .ok (.newarray .int, 2) := by decide +kernel
theorem dX10_init_17 : decode cX10_init 17 = .ok (.putfield 15, 3) := by decide +kernel
theorem dX10_init_20 : decode cX10_init 20 = .ok (.aload_n 0, 1) := by decide +kernel
theorem dX10_init_21 : decode cX10_init 21 = .ok (.bipush 24, 2) := by decide +kernel
theorem dX10_init_23 : decode cX10_init 23 = .ok (.newarray .int, 2) := by decide +kernel
theorem dX10_init_25 : decode cX10_init 25 = .ok (.putfield 19, 3) := by decide +kernel
theorem dX10_init_28 : decode cX10_init 28 = .ok (.return_, 1) := by decide +kernel
theorem dX10_put_0 : decode cX10_put 0 = .ok (.aload_n 0, 1) := by decide +kernel
theorem dX10_put_1 : decode cX10_put 1 = .ok (.getfield 9, 3) := by decide +kernel
theorem dX10_put_4 : decode cX10_put 4 = .ok (.iload_n 1, 1) := by decide +kernel
theorem dX10_put_5 : decode cX10_put 5 = .ok (.iconst 1, 1) := by decide +kernel
theorem dX10_put_6 : decode cX10_put 6 = .ok (.bastore, 1) := by decide +kernel
theorem dX10_put_7 : decode cX10_put 7 = .ok (.aload_n 0, 1) := by decide +kernel
theorem dX10_put_8 : decode cX10_put 8 = .ok (.getfield 15, 3) := by decide +kernel
theorem dX10_put_11 : decode cX10_put 11 = .ok (.iload_n 1, 1) := by decide +kernel
theorem dX10_put_12 : decode cX10_put 12 = .ok (.iload_n 2, 1) := by decide +kernel
theorem dX10_put_13 : decode cX10_put 13 = .ok (.iastore, 1) := by decide +kernel
theorem dX10_put_14 : decode cX10_put 14 = .ok (.aload_n 0, 1) := by decide +kernel
theorem dX10_put_15 : decode cX10_put 15 = .ok (.getfield 19, 3) := by decide +kernel
theorem dX10_put_18 : decode cX10_put 18 = .ok (.iload_n 1, 1) := by decide +kernel
theorem dX10_put_19 : decode cX10_put 19 = .ok (.iload_n 3, 1) := by decide +kernel
theorem dX10_put_20 : decode cX10_put 20 = .ok (.iastore, 1) := by decide +kernel
theorem dX10_put_21 : decode cX10_put 21 = .ok (.return_, 1) := by decide +kernel
theorem dX10_clear_0 : decode cX10_clear 0 = .ok (.iconst 0, 1) := by decide +kernel
theorem dX10_clear_1 : decode cX10_clear 1 = .ok (.istore_n 1, 1) := by decide +kernel
theorem dX10_clear_2 : decode cX10_clear 2 = .ok (.iload_n 1, 1) := by decide +kernel
theorem dX10_clear_3 : decode cX10_clear 3 = .ok (.bipush 24, 2) := by decide +kernel
theorem dX10_clear_5 : decode cX10_clear 5 = .ok (.if_icmp .ge 16, 3) := by decide +kernel
theorem dX10_clear_8 : decode cX10_clear 8 = .ok (.aload_n 0, 1) := by decide +kernel
theorem dX10_clear_9 : decode cX10_clear 9 = .ok (.getfield 9, 3) := by decide +kernel
theorem dX10_clear_12 : decode cX10_clear 12 = .ok (.iload_n 1, 1) := by decide +kernel
theorem dX10_clear_13 : decode cX10_clear 13 = .ok (.iconst 0, 1) := by decide +kernel
theorem dX10_clear_14 : decode cX10_clear 14 = .ok (.bastore, 1) := by decide +kernel
theorem dX10_clear_15 : decode cX10_clear 15 = .ok (.iinc 1 1, 3) := by decide +kernel
theorem dX10_clear_18 : decode cX10_clear 18 = .ok (.goto (-16), 3) := by decide +kernel
theorem dX10_clear_21 : decode cX10_clear 21 = .ok (.return_, 1) := by decide +kernel
theorem dX10_marksMade_0 : decode cX10_marksMade 0 = .ok (.iconst 0, 1) := by decide +kernel
theorem dX10_marksMade_1 : decode cX10_marksMade 1 = .ok (.istore_n 1, 1) := by decide +kernel
theorem dX10_marksMade_2 : decode cX10_marksMade 2 = .ok (.iconst 0, 1) := by decide +kernel
theorem dX10_marksMade_3 : decode cX10_marksMade 3 = .ok (.istore_n 2, 1) := by decide +kernel
theorem dX10_marksMade_4 : decode cX10_marksMade 4 = .ok (.iload_n 2, 1) := by decide +kernel
theorem dX10_marksMade_5 : decode cX10_marksMade 5 = .ok (.bipush 24, 2) := by decide +kernel
theorem dX10_marksMade_7 : decode cX10_marksMade 7 = .ok (.if_icmp .ge 21, 3) := by decide +kernel
theorem dX10_marksMade_10 : decode cX10_marksMade 10 = .ok (.aload_n 0, 1) := by decide +kernel
theorem dX10_marksMade_11 : decode cX10_marksMade 11 = .ok (.getfield 9, 3) := by decide +kernel
theorem dX10_marksMade_14 : decode cX10_marksMade 14 = .ok (.iload_n 2, 1) := by decide +kernel
theorem dX10_marksMade_15 : decode cX10_marksMade 15 = .ok (.baload, 1) := by decide +kernel
theorem dX10_marksMade_16 : decode cX10_marksMade 16 = .ok (.ifCond .eq 6, 3) := by decide +kernel
theorem dX10_marksMade_19 : decode cX10_marksMade 19 = .ok (.iinc 1 1, 3) := by decide +kernel
theorem dX10_marksMade_22 : decode cX10_marksMade 22 = .ok (.iinc 2 1, 3) := by decide +kernel
theorem dX10_marksMade_25 : decode cX10_marksMade 25 = .ok (.goto (-21), 3) := by decide +kernel
theorem dX10_marksMade_28 : decode cX10_marksMade 28 = .ok (.iload_n 1, 1) := by decide +kernel
theorem dX10_marksMade_29 : decode cX10_marksMade 29 = .ok (.ireturn, 1) := by decide +kernel
theorem dJ9_floorDiv_7cf53_0 : decode cJ9_floorDiv_7cf53 0 = .ok (.iload_n 0, 1) := by decide +kernel
theorem dJ9_floorDiv_7cf53_1 : decode cJ9_floorDiv_7cf53 1 = .ok (.iload_n 1, 1) := by decide +kernel
theorem dJ9_floorDiv_7cf53_2 : decode cJ9_floorDiv_7cf53 2 = .ok (.idiv, 1) := by decide +kernel
theorem dJ9_floorDiv_7cf53_3 : decode cJ9_floorDiv_7cf53 3 = .ok (.istore_n 2, 1) := by decide +kernel
theorem dJ9_floorDiv_7cf53_4 : decode cJ9_floorDiv_7cf53 4 = .ok (.iload_n 0, 1) := by decide +kernel
theorem dJ9_floorDiv_7cf53_5 : decode cJ9_floorDiv_7cf53 5 = .ok (.iload_n 1, 1) := by decide +kernel
theorem dJ9_floorDiv_7cf53_6 : decode cJ9_floorDiv_7cf53 6 = .ok (.ixor, 1) := by decide +kernel
theorem dJ9_floorDiv_7cf53_7 : decode cJ9_floorDiv_7cf53 7 = .ok (.ifCond .ge 14, 3) := by decide +kernel
theorem dJ9_floorDiv_7cf53_10 : decode cJ9_floorDiv_7cf53 10 = .ok (.iload_n 2, 1) := by decide +kernel
theorem dJ9_floorDiv_7cf53_11 : decode cJ9_floorDiv_7cf53 11 = .ok (.iload_n 1, 1) := by decide +kernel
theorem dJ9_floorDiv_7cf53_12 : decode cJ9_floorDiv_7cf53 12 = .ok (.imul, 1) := by decide +kernel
theorem dJ9_floorDiv_7cf53_13 : decode cJ9_floorDiv_7cf53 13 = .ok (.iload_n 0, 1) := by decide +kernel
theorem dJ9_floorDiv_7cf53_14 : decode cJ9_floorDiv_7cf53 14 = .ok (.if_icmp .eq 7, 3) := by decide +kernel
theorem dJ9_floorDiv_7cf53_17 : decode cJ9_floorDiv_7cf53 17 = .ok (.iload_n 2, 1) := by decide +kernel
theorem dJ9_floorDiv_7cf53_18 : decode cJ9_floorDiv_7cf53 18 = .ok (.iconst 1, 1) := by decide +kernel
theorem dJ9_floorDiv_7cf53_19 : decode cJ9_floorDiv_7cf53 19 = .ok (.isub, 1) := by decide +kernel
theorem dJ9_floorDiv_7cf53_20 : decode cJ9_floorDiv_7cf53 20 = .ok (.ireturn, 1) := by decide +kernel
theorem dJ9_floorDiv_7cf53_21 : decode cJ9_floorDiv_7cf53 21 = .ok (.iload_n 2, 1) := by decide +kernel
theorem dJ9_floorDiv_7cf53_22 : decode cJ9_floorDiv_7cf53 22 = .ok (.ireturn, 1) := by decide +kernel
theorem dJ9_abs_0f7a4_0 : decode cJ9_abs_0f7a4 0 = .ok (.iload_n 0, 1) := by decide +kernel
theorem dJ9_abs_0f7a4_1 : decode cJ9_abs_0f7a4 1 = .ok (.ifCond .ge 8, 3) := by decide +kernel
theorem dJ9_abs_0f7a4_4 : decode cJ9_abs_0f7a4 4 = .ok (.iload_n 0, 1) := by decide +kernel
theorem dJ9_abs_0f7a4_5 : decode cJ9_abs_0f7a4 5 = .ok (.ineg, 1) := by decide +kernel
theorem dJ9_abs_0f7a4_6 : decode cJ9_abs_0f7a4 6 = .ok (.goto 4, 3) := by decide +kernel
theorem dJ9_abs_0f7a4_9 : decode cJ9_abs_0f7a4 9 = .ok (.iload_n 0, 1) := by decide +kernel
theorem dJ9_abs_0f7a4_10 : decode cJ9_abs_0f7a4 10 = .ok (.ireturn, 1) := by decide +kernel
theorem dJ9_max_7cf53_0 : decode cJ9_max_7cf53 0 = .ok (.iload_n 0, 1) := by decide +kernel
theorem dJ9_max_7cf53_1 : decode cJ9_max_7cf53 1 = .ok (.iload_n 1, 1) := by decide +kernel
theorem dJ9_max_7cf53_2 : decode cJ9_max_7cf53 2 = .ok (.if_icmp .lt 7, 3) := by decide +kernel
theorem dJ9_max_7cf53_5 : decode cJ9_max_7cf53 5 = .ok (.iload_n 0, 1) := by decide +kernel
theorem dJ9_max_7cf53_6 : decode cJ9_max_7cf53 6 = .ok (.goto 4, 3) := by decide +kernel
theorem dJ9_max_7cf53_9 : decode cJ9_max_7cf53 9 = .ok (.iload_n 1, 1) := by decide +kernel
theorem dJ9_max_7cf53_10 : decode cJ9_max_7cf53 10 = .ok (.ireturn, 1) := by decide +kernel
theorem dJ9_max_f86c9_0 : decode cJ9_max_f86c9 0 = .ok (.lload_n 0, 1) := by decide +kernel
theorem dJ9_max_f86c9_1 : decode cJ9_max_f86c9 1 = .ok (.lload_n 2, 1) := by decide +kernel
theorem dJ9_max_f86c9_2 : decode cJ9_max_f86c9 2 = .ok (.lcmp, 1) := by decide +kernel
theorem dJ9_max_f86c9_3 : decode cJ9_max_f86c9 3 = .ok (.ifCond .lt 7, 3) := by decide +kernel
theorem dJ9_max_f86c9_6 : decode cJ9_max_f86c9 6 = .ok (.lload_n 0, 1) := by decide +kernel
theorem dJ9_max_f86c9_7 : decode cJ9_max_f86c9 7 = .ok (.goto 4, 3) := by decide +kernel
theorem dJ9_max_f86c9_10 : decode cJ9_max_f86c9 10 = .ok (.lload_n 2, 1) := by decide +kernel
theorem dJ9_max_f86c9_11 : decode cJ9_max_f86c9 11 = .ok (.lreturn, 1) := by decide +kernel
theorem dJ9_min_7cf53_0 : decode cJ9_min_7cf53 0 = .ok (.iload_n 0, 1) := by decide +kernel
theorem dJ9_min_7cf53_1 : decode cJ9_min_7cf53 1 = .ok (.iload_n 1, 1) := by decide +kernel
theorem dJ9_min_7cf53_2 : decode cJ9_min_7cf53 2 = .ok (.if_icmp .gt 7, 3) := by decide +kernel
theorem dJ9_min_7cf53_5 : decode cJ9_min_7cf53 5 = .ok (.iload_n 0, 1) := by decide +kernel
theorem dJ9_min_7cf53_6 : decode cJ9_min_7cf53 6 = .ok (.goto 4, 3) := by decide +kernel
theorem dJ9_min_7cf53_9 : decode cJ9_min_7cf53 9 = .ok (.iload_n 1, 1) := by decide +kernel
theorem dJ9_min_7cf53_10 : decode cJ9_min_7cf53 10 = .ok (.ireturn, 1) := by decide +kernel
theorem dJ9_min_f86c9_0 : decode cJ9_min_f86c9 0 = .ok (.lload_n 0, 1) := by decide +kernel
theorem dJ9_min_f86c9_1 : decode cJ9_min_f86c9 1 = .ok (.lload_n 2, 1) := by decide +kernel
theorem dJ9_min_f86c9_2 : decode cJ9_min_f86c9 2 = .ok (.lcmp, 1) := by decide +kernel
theorem dJ9_min_f86c9_3 : decode cJ9_min_f86c9 3 = .ok (.ifCond .gt 7, 3) := by decide +kernel
theorem dJ9_min_f86c9_6 : decode cJ9_min_f86c9 6 = .ok (.lload_n 0, 1) := by decide +kernel
theorem dJ9_min_f86c9_7 : decode cJ9_min_f86c9 7 = .ok (.goto 4, 3) := by decide +kernel
theorem dJ9_min_f86c9_10 : decode cJ9_min_f86c9 10 = .ok (.lload_n 2, 1) := by decide +kernel
theorem dJ9_min_f86c9_11 : decode cJ9_min_f86c9 11 = .ok (.lreturn, 1) := by decide +kernel
