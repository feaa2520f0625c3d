theorem dX11_trace_0 : decode cX11_trace 0 = .ok (.iload_n 1, 1) := by decide +kernel
theorem dX11_trace_1 : decode cX11_trace 1 = .ok (.iconst 0, 1) := by decide +kernel
theorem dX11_trace_2 : decode cX11_trace 2 = .ok (.aload_n 0, 1) := by decide +kernel
theorem dX11_trace_3 : decode cX11_trace 3 = .ok (.getfield 80, 3) := by decide +kernel
theorem dX11_trace_6 : decode cX11_trace 6 = .ok (.getfield 361, 3) := by decide +kernel
theorem dX11_trace_9 : decode cX11_trace 9 = .ok (.iconst 1, 1) := by decide +kernel
theorem dX11_trace_10 : decode cX11_trace 10 = .ok (.isub, 1) := by decide +kernel
theorem dX11_trace_11 : decode cX11_trace 11 = .ok (.invokestatic 94, 3) := by decide +kernel
theorem dX11_trace_14 : decode cX11_trace 14 = .ok (.ifCond .eq 15, 3) := by decide +kernel
theorem dX11_trace_17 : decode cX11_trace 17 = .ok (.aload_n 0, 1) := by decide +kernel
theorem dX11_trace_18 : decode cX11_trace 18 = .ok (.getfield 80, 3) := by decide +kernel
theorem dX11_trace_21 : decode cX11_trace 21 = .ok (.getfield 364, 3) := by decide +kernel
theorem dX11_trace_24 : decode cX11_trace 24 = .ok (.iload_n 1, 1) := by decide +kernel
theorem dX11_trace_25 : decode cX11_trace 25 = .ok (.iaload, 1) := by decide +kernel
theorem dX11_trace_26 : decode cX11_trace 26 = .ok (.goto 5, 3) := by decide +kernel
theorem dX11_trace_29 : decode cX11_trace 29 = .ok (.ldc 237, 2) := by decide +kernel
theorem dX11_trace_31 : decode cX11_trace 31 = .ok (.ireturn, 1) := by decide +kernel
theorem dX11_count_0 : decode cX11_count 0 = .ok (.iload_n 1, 1) := by decide +kernel
theorem dX11_count_1 : decode cX11_count 1 = .ok (.tableswitch 99 0 7 #[47, 52, 57, 69, 75, 81, 86, 91], 47) := by decide +kernel
theorem dX11_count_48 : decode cX11_count 48 = .ok (.aload_n 0, 1) := by decide +kernel
theorem dX11_count_49 : decode cX11_count 49 = .ok (.invokevirtual 367, 3) := by decide +kernel
theorem dX11_count_52 : decode cX11_count 52 = .ok (.ireturn, 1) := by decide +kernel
theorem dX11_count_53 : decode cX11_count 53 = .ok (.aload_n 0, 1) := by decide +kernel
theorem dX11_count_54 : decode cX11_count 54 = .ok (.getfield 28, 3) := by decide +kernel
theorem dX11_count_57 : decode cX11_count 57 = .ok (.ireturn, 1) := by decide +kernel
theorem dX11_count_58 : decode cX11_count 58 = .ok (.aload_n 0, 1) := by decide +kernel
theorem dX11_count_59 : decode cX11_count 59 = .ok (.iconst 1, 1) := by decide +kernel
theorem dX11_count_60 : decode cX11_count 60 = .ok (.invokevirtual 370, 3) := by decide +kernel
theorem dX11_count_63 : decode cX11_count 63 = .ok (.aload_n 0, 1) := by decide +kernel
theorem dX11_count_64 : decode cX11_count 64 = .ok (.iconst 2, 1) := by decide +kernel
theorem dX11_count_65 : decode cX11_count 65 = .ok (.invokevirtual 370, 3) := by decide +kernel
theorem dX11_count_68 : decode cX11_count 68 = .ok (.iadd, 1) := by decide +kernel
theorem dX11_count_69 : decode cX11_count 69 = .ok (.ireturn, 1) := by decide +kernel
theorem dX11_count_70 : decode cX11_count 70 = .ok (.aload_n 0, 1) := by decide +kernel
theorem dX11_count_71 : decode cX11_count 71 = .ok (.iconst 2, 1) := by decide +kernel
theorem dX11_count_72 : decode cX11_count 72 = .ok (.invokevirtual 370, 3) := by decide +kernel
theorem dX11_count_75 : decode cX11_count 75 = .ok (.ireturn, 1) := by decide +kernel
theorem dX11_count_76 : decode cX11_count 76 = .ok (.aload_n 0, 1) := by decide +kernel
theorem dX11_count_77 : decode cX11_count 77 = .ok (.iconst 3, 1) := by decide +kernel
theorem dX11_count_78 : decode cX11_count 78 = .ok (.invokevirtual 370, 3) := by decide +kernel
theorem dX11_count_81 : decode cX11_count 81 = .ok (.ireturn, 1) := by decide +kernel
theorem dX11_count_82 : decode cX11_count 82 = .ok (.aload_n 0, 1) := by decide +kernel
theorem dX11_count_83 : decode cX11_count 83 = .ok (.invokevirtual 373, 3) := by decide +kernel
theorem dX11_count_86 : decode cX11_count 86 = .ok (.ireturn, 1) := by decide +kernel
theorem dX11_count_87 : decode cX11_count 87 = .ok (.aload_n 0, 1) := by decide +kernel
theorem dX11_count_88 : decode cX11_count 88 = .ok (.invokevirtual 376, 3) := by decide +kernel
theorem dX11_count_91 : decode cX11_count 91 = .ok (.ireturn, 1) := by decide +kernel
theorem dX11_count_92 : decode cX11_count 92 = .ok (.aload_n 0, 1) := by decide +kernel
theorem dX11_count_93 : decode cX11_count 93 = .ok (.getfield 18, 3) := by decide +kernel
theorem dX11_count_96 : decode cX11_count 96 = .ok (.invokevirtual 210, 3) := by decide +kernel
theorem dX11_count_99 : decode cX11_count 99 = .ok (.ireturn, 1) := by decide +kernel
theorem dX11_count_100 : decode cX11_count 100 = .ok (.ldc 98, 2) := by decide +kernel
theorem dX11_count_102 : decode cX11_count 102 = .ok (.ireturn, 1) := by decide +kernel
theorem dX11_status_0 : decode cX11_status 0 = .ok (.aload_n 0, 1) := by decide +kernel
theorem dX11_status_1 : decode cX11_status 1 = .ok (.getfield 84, 3) := by decide +kernel
theorem dX11_status_4 : decode cX11_status 4 = .ok (.ireturn, 1) := by decide +kernel
theorem dX11_found_0 : decode cX11_found 0 = .ok (.aload_n 0, 1) := by decide +kernel
theorem dX11_found_1 : decode cX11_found 1 = .ok (.iload_n 1, 1) := by decide +kernel
theorem dX11_found_2 : decode cX11_found 2 = .ok (.putfield 84, 3) := by decide +kernel
theorem dX11_found_5 : decode cX11_found 5 = .ok (.ldc_w 379, 3) := by decide +kernel
theorem dX11_found_8 : decode cX11_found 8 = .ok (.iload_n 1, 1) := by decide +kernel
theorem dX11_found_9 : decode cX11_found 9 = .ok (.isub, 1) := by decide +kernel
theorem dX11_found_10 : decode cX11_found 10 = .ok (.ireturn, 1) := by decide +kernel
theorem dX11_clean_0 : decode cX11_clean 0 = .ok (.aload_n 0, 1) := by decide +kernel
theorem dX11_clean_1 : decode cX11_clean 1 = .ok (.iconst 0, 1) := by decide +kernel
theorem dX11_clean_2 : decode cX11_clean 2 = .ok (.putfield 84, 3) := by decide +kernel
theorem dX11_clean_5 : decode cX11_clean 5 = .ok (.iload_n 1, 1) := by decide +kernel
theorem dX11_clean_6 : decode cX11_clean 6 = .ok (.ireturn, 1) := by decide +kernel
theorem dX11_within_0 : decode cX11_within 0 = .ok (.iload_n 0, 1) := by decide +kernel
theorem dX11_within_1 : decode cX11_within 1 = .ok (.iload_n 1, 1) := by decide +kernel
theorem dX11_within_2 : decode cX11_within 2 = .ok (.if_icmp .lt 12, 3) := by decide +kernel
theorem dX11_within_5 : decode cX11_within 5 = .ok (.iload_n 0, 1) := by decide +kernel
theorem dX11_within_6 : decode cX11_within 6 = .ok (.iload_n 2, 1) := by decide +kernel
theorem dX11_within_7 : decode cX11_within 7 = .ok (.if_icmp .gt 7, 3) := by decide +kernel
theorem dX11_within_10 : decode cX11_within 10 = .ok (.iconst 1, 1) := by decide +kernel
theorem dX11_within_11 : decode cX11_within 11 = .ok (.goto 4, 3) := by decide +kernel
theorem dX11_within_14 : decode cX11_within 14 = .ok (.iconst 0, 1) := by decide +kernel
theorem dX11_within_15 : decode cX11_within 15 = .ok (.ireturn, 1) := by decide +kernel
theorem dX11_isSheet_0 : decode cX11_isSheet 0 = .ok (.iload_n 0, 1) := by decide +kernel
theorem dX11_isSheet_1 : decode cX11_isSheet 1 = .ok (.iconst 0, 1) := by decide +kernel
theorem dX11_isSheet_2 : decode cX11_isSheet 2 = .ok (.bipush 7, 2) := by decide +kernel
theorem dX11_isSheet_4 : decode cX11_isSheet 4 = .ok (.invokestatic 94, 3) := by decide +kernel
theorem dX11_isSheet_7 : decode cX11_isSheet 7 = .ok (.ireturn, 1) := by decide +kernel
theorem dX11_isTrace_0 : decode cX11_isTrace 0 = .ok (.iload_n 0, 1) := by decide +kernel
theorem dX11_isTrace_1 : decode cX11_isTrace 1 = .ok (.iconst 0, 1) := by decide +kernel
theorem dX11_isTrace_2 : decode cX11_isTrace 2 = .ok (.bipush 7, 2) := by decide +kernel
theorem dX11_isTrace_4 : decode cX11_isTrace 4 = .ok (.invokestatic 94, 3) := by decide +kernel
theorem dX11_isTrace_7 : decode cX11_isTrace 7 = .ok (.ireturn, 1) := by decide +kernel
theorem dX11_isNumber_0 : decode cX11_isNumber 0 = .ok (.iload_n 0, 1) := by decide +kernel
theorem dX11_isNumber_1 : decode cX11_isNumber 1 = .ok (.iconst 0, 1) := by decide +kernel
theorem dX11_isNumber_2 : decode cX11_isNumber 2 = .ok (.bipush 23, 2) := by decide +kernel
theorem dX11_isNumber_4 : decode cX11_isNumber 4 = .ok (.invokestatic 94, 3) := by decide +kernel
theorem dX11_isNumber_7 : decode cX11_isNumber 7 = .ok (.ireturn, 1) := by decide +kernel
theorem dX11_isThing_0 : decode cX11_isThing 0 = .ok (.iload_n 1, 1) := by decide +kernel
theorem dX11_isThing_1 : decode cX11_isThing 1 = .ok (.iconst 0, 1) := by decide +kernel
theorem dX11_isThing_2 : decode cX11_isThing 2 = .ok (.aload_n 0, 1) := by decide +kernel
theorem dX11_isThing_3 : decode cX11_isThing 3 = .ok (.getfield 28, 3) := by decide +kernel
theorem dX11_isThing_6 : decode cX11_isThing 6 = .ok (.iconst 1, 1) := by decide +kernel
theorem dX11_isThing_7 : decode cX11_isThing 7 = .ok (.isub, 1) := by decide +kernel
theorem dX11_isThing_8 : decode cX11_isThing 8 = .ok (.invokestatic 94, 3) := by decide +kernel
theorem dX11_isThing_11 : decode cX11_isThing 11 = .ok (.ireturn, 1) := by decide +kernel
theorem dX11_isFlatPlace_0 : decode cX11_isFlatPlace 0 = .ok (.iload_n 0, 1) := by decide +kernel
theorem dX11_isFlatPlace_1 : decode cX11_isFlatPlace 1 = .ok (.sipush (-1000), 3) := by decide +kernel
theorem dX11_isFlatPlace_4 : decode cX11_isFlatPlace 4 = .ok (.sipush 1000, 3) := by decide +kernel
theorem dX11_isFlatPlace_7 : decode cX11_isFlatPlace 7 = .ok (.invokestatic 94, 3) := by decide +kernel
theorem dX11_isFlatPlace_10 : decode cX11_isFlatPlace 10 = .ok (.ireturn, 1) := by decide +kernel
theorem dX11_isPlace_0 : decode cX11_isPlace 0 = .ok (.iload_n 0, 1) := by decide +kernel
theorem dX11_isPlace_1 : decode cX11_isPlace 1 = .ok (.invokestatic 219, 3) := by decide +kernel
theorem dX11_isPlace_4 : decode cX11_isPlace 4 = .ok (.ifCond .eq 25, 3) := by decide +kernel
theorem dX11_isPlace_7 : decode cX11_isPlace 7 = .ok (.iload_n 1, 1) := by decide +kernel
theorem dX11_isPlace_8 : decode cX11_isPlace 8 = .ok (.invokestatic 219, 3) := by decide +kernel
theorem dX11_isPlace_11 : decode cX11_isPlace 11 = .ok (.ifCond .eq 18, 3) := by decide +kernel
theorem dX11_isPlace_14 : decode cX11_isPlace 14 = .ok (.iload_n 2, 1) := by decide +kernel
theorem dX11_isPlace_15 : decode cX11_isPlace 15 = .ok (.iconst 1, 1) := by decide +kernel
theorem dX11_isPlace_16 : decode cX11_isPlace 16 = .ok (.sipush 5000, 3) := by decide +kernel
theorem dX11_isPlace_19 : decode cX11_isPlace 19 = .ok (.invokestatic 94, 3) := by decide +kernel
theorem dX11_isPlace_22 : decode cX11_isPlace 22 = .ok (.ifCond .eq 7, 3) := by decide +kernel
theorem dX11_isPlace_25 : decode cX11_isPlace 25 = .ok (.iconst 1, 1) := by decide +kernel
theorem dX11_isPlace_26 : decode cX11_isPlace 26 = .ok (.goto 4, 3) := by decide +kernel
theorem dX11_isPlace_29 : decode cX11_isPlace 29 = .ok (.iconst 0, 1) := by decide +kernel
theorem dX11_isPlace_30 : decode cX11_isPlace 30 = .ok (.ireturn, 1) := by decide +kernel
theorem dX11_isStand_0 : decode cX11_isStand 0 = .ok (.iload_n 0, 1) := by decide +kernel
theorem dX11_isStand_1 : decode cX11_isStand 1 = .ok (.invokestatic 219, 3) := by decide +kernel
theorem dX11_isStand_4 : decode cX11_isStand 4 = .ok (.ifCond .eq 32, 3) := by decide +kernel
theorem dX11_isStand_7 : decode cX11_isStand 7 = .ok (.iload_n 1, 1) := by decide +kernel
theorem dX11_isStand_8 : decode cX11_isStand 8 = .ok (.invokestatic 219, 3) := by decide +kernel
theorem dX11_isStand_11 : decode cX11_isStand 11 = .ok (.ifCond .eq 25, 3) := by decide +kernel
theorem dX11_isStand_14 : decode cX11_isStand 14 = .ok (.iload_n 2, 1) := by decide +kernel
theorem dX11_isStand_15 : decode cX11_isStand 15 = .ok (.invokestatic 219, 3) := by decide +kernel
theorem dX11_isStand_18 : decode cX11_isStand 18 = .ok (.ifCond .eq 18, 3) := by decide +kernel
theorem dX11_isStand_21 : decode cX11_isStand 21 = .ok (.iload_n 3, 1) := by decide +kernel
theorem dX11_isStand_22 : decode cX11_isStand 22 = .ok (.iconst 1, 1) := by decide +kernel
theorem dX11_isStand_23 : decode cX11_isStand 23 = .ok (.sipush 1000, 3) := by decide +kernel
theorem dX11_isStand_26 : decode cX11_isStand 26 = .ok (.invokestatic 94, 3) := by decide +kernel
theorem dX11_isStand_29 : decode cX11_isStand 29 = .ok (.ifCond .eq 7, 3) := by decide +kernel
theorem dX11_isStand_32 : decode cX11_isStand 32 = .ok (.iconst 1, 1) := by decide +kernel
theorem dX11_isStand_33 : decode cX11_isStand 33 = .ok (.goto 4, 3) := by decide +kernel
theorem dX11_isStand_36 : decode cX11_isStand 36 = .ok (.iconst 0, 1) := by decide +kernel
theorem dX11_isStand_37 : decode cX11_isStand 37 = .ok (.ireturn, 1) := by decide +kernel
theorem dX11_by_0 : decode cX11_by 0 = .ok (.iload_n 1, 1) := by decide +kernel
theorem dX11_by_1 : decode cX11_by 1 = .ok (.ifCond .ne 7, 3) := by decide +kernel
theorem dX11_by_4 : decode cX11_by 4 = .ok (.iconst 0, 1) := by decide +kernel
theorem dX11_by_5 : decode cX11_by 5 = .ok (.goto 6, 3) := by decide +kernel
theorem dX11_by_8 : decode cX11_by 8 = .ok (.iload_n 0, 1) := by decide +kernel
theorem dX11_by_9 : decode cX11_by 9 = .ok (.iload_n 1, 1) := by decide +kernel
theorem dX11_by_10 : decode cX11_by 10 = .ok (.idiv, 1) := by decide +kernel
theorem dX11_by_11 : decode cX11_by 11 = .ok (.ireturn, 1) := by decide +kernel
theorem dX11_by__0 : decode cX11_by_ 0 = .ok (.lload_n 2, 1) := by decide +kernel
theorem dX11_by__1 : decode cX11_by_ 1 = .ok (.lconst 0, 1) := by decide +kernel
theorem dX11_by__2 : decode cX11_by_ 2 = .ok (.lcmp, 1) := by decide +kernel
theorem dX11_by__3 : decode cX11_by_ 3 = .ok (.ifCond .ne 7, 3) := by decide +kernel
theorem dX11_by__6 : decode cX11_by_ 6 = .ok (.lconst 0, 1) := by decide +kernel
theorem dX11_by__7 : decode cX11_by_ 7 = .ok (.goto 6, 3) := by decide +kernel
theorem dX11_by__10 : decode cX11_by_ 10 = .ok (.lload_n 0, 1) := by decide +kernel
theorem dX11_by__11 : decode cX11_by_ 11 = .ok (.lload_n 2, 1) := by decide +kernel
theorem dX11_by__12 : decode cX11_by_ 12 = .ok (.ldiv, 1) := by decide +kernel
theorem dX11_by__13 : decode cX11_by_ 13 = .ok (.lreturn, 1) := by decide +kernel
theorem dX11_kindOf_0 : decode cX11_kindOf 0 = .ok (.aload_n 0, 1) := by decide +kernel
theorem dX11_kindOf_1 : decode cX11_kindOf 1 = .ok (.getfield 35, 3) := by decide +kernel
theorem dX11_kindOf_4 : decode cX11_kindOf 4 = .ok (.aload_n 0, 1) := by decide +kernel
theorem dX11_kindOf_5 : decode cX11_kindOf 5 = .ok (.getfield 18, 3) := by decide +kernel
theorem dX11_kindOf_8 : decode cX11_kindOf 8 = .ok (.aload_n 0, 1) := by decide +kernel
theorem dX11_kindOf_9 : decode cX11_kindOf 9 = .ok (.getfield 24, 3) := by decide +kernel
theorem dX11_kindOf_12 : decode cX11_kindOf 12 = .ok (.iload_n 1, 1) := by decide +kernel
theorem dX11_kindOf_13 : decode cX11_kindOf 13 = .ok (.aaload, 1) := by decide +kernel
theorem dX11_kindOf_14 : decode cX11_kindOf 14 = .ok (.invokevirtual 162, 3) := by decide +kernel
theorem dX11_kindOf_17 : decode cX11_kindOf 17 = .ok (.aload_n 0, 1) := by decide +kernel
theorem dX11_kindOf_18 : decode cX11_kindOf 18 = .ok (.getfield 18, 3) := by decide +kernel
theorem dX11_kindOf_21 : decode cX11_kindOf 21 = .ok (.aload_n 0, 1) := by decide +kernel
theorem dX11_kindOf_22 : decode cX11_kindOf 22 = .ok (.getfield 35, 3) := by decide +kernel
theorem dX11_kindOf_25 : decode cX11_kindOf 25 = .ok (.invokevirtual 230, 3) := by decide +kernel
theorem dX11_kindOf_28 : decode cX11_kindOf 28 = .ok (.ifCond .ne 5, 3) := by decide +kernel
theorem dX11_kindOf_31 : decode cX11_kindOf 31 = .ok (.iconst 3, 1) := by decide +kernel
theorem dX11_kindOf_32 : decode cX11_kindOf 32 = .ok (.ireturn, 1) := by decide +kernel
theorem dX11_kindOf_33 : decode cX11_kindOf 33 = .ok (.aload_n 0, 1) := by decide +kernel
theorem dX11_kindOf_34 : decode cX11_kindOf 34 = .ok (.getfield 35, 3) := by decide +kernel
theorem dX11_kindOf_37 : decode cX11_kindOf 37 = .ok (.getfield 186, 3) := by decide +kernel
theorem dX11_kindOf_40 : decode cX11_kindOf 40 = .ok (.aload_n 0, 1) := by decide +kernel
theorem dX11_kindOf_41 : decode cX11_kindOf 41 = .ok (.getfield 18, 3) := by decide +kernel
theorem dX11_kindOf_44 : decode cX11_kindOf 44 = .ok (.getfield 145, 3) := by decide +kernel
theorem dX11_kindOf_47 : decode cX11_kindOf 47 = .ok (.iconst 4, 1) := by decide +kernel
theorem dX11_kindOf_48 : decode cX11_kindOf 48 = .ok (.iaload, 1) := by decide +kernel
theorem dX11_kindOf_49 : decode cX11_kindOf 49 = .ok (.if_icmp .gt 7, 3) := by decide +kernel
theorem dX11_kindOf_52 : decode cX11_kindOf 52 = .ok (.iconst 2, 1) := by decide +kernel
theorem dX11_kindOf_53 : decode cX11_kindOf 53 = .ok (.goto 4, 3) := by decide +kernel
theorem dX11_kindOf_56 : decode cX11_kindOf 56 = .ok (.iconst 1, 1) := by decide +kernel
theorem dX11_kindOf_57 : decode cX11_kindOf 57 = .ok (.ireturn, 1) := by decide +kernel
theorem dX11_thingsToldAs_0 : decode cX11_thingsToldAs 0 = .ok (.iconst 0, 1) := by decide +kernel
theorem dX11_thingsToldAs_1 : decode cX11_thingsToldAs 1 = .ok (.istore_n 2, 1) := by decide +kernel
theorem dX11_thingsToldAs_2 : decode cX11_thingsToldAs 2 = .ok (.iconst 0, 1) := by decide +kernel
theorem dX11_thingsToldAs_3 : decode cX11_thingsToldAs 3 = .ok (.istore_n 3, 1) := by decide +kernel
theorem dX11_thingsToldAs_4 : decode cX11_thingsToldAs 4 = .ok (.iload_n 3, 1) := by decide +kernel
theorem dX11_thingsToldAs_5 : decode cX11_thingsToldAs 5 = .ok (.aload_n 0, 1) := by decide +kernel
theorem dX11_thingsToldAs_6 : decode cX11_thingsToldAs 6 = .ok (.getfield 28, 3) := by decide +kernel
theorem dX11_thingsToldAs_9 : decode cX11_thingsToldAs 9 = .ok (.if_icmp .ge 21, 3) := by decide +kernel
theorem dX11_thingsToldAs_12 : decode cX11_thingsToldAs 12 = .ok (.aload_n 0, 1) := by decide +kernel
theorem dX11_thingsToldAs_13 : decode cX11_thingsToldAs 13 = .ok (.iload_n 3, 1) := by decide +kernel
theorem dX11_thingsToldAs_14 : decode cX11_thingsToldAs 14 = .ok (.invokevirtual 349, 3) := by decide +kernel
theorem dX11_thingsToldAs_17 : decode cX11_thingsToldAs 17 = .ok (.iload_n 1, 1) := by decide +kernel
theorem dX11_thingsToldAs_18 : decode cX11_thingsToldAs 18 = .ok (.if_icmp .ne 6, 3) := by decide +kernel
theorem dX11_thingsToldAs_21 : decode cX11_thingsToldAs 21 = .ok (.iinc 2 1, 3) := by decide +kernel
theorem dX11_thingsToldAs_24 : decode cX11_thingsToldAs 24 = .ok (.iinc 3 1, 3) := by decide +kernel
theorem dX11_thingsToldAs_27 : decode cX11_thingsToldAs 27 = .ok (.goto (-23), 3) := by decide +kernel
theorem dX11_thingsToldAs_30 : decode cX11_thingsToldAs 30 = .ok (.iload_n 2, 1) := by decide +kernel
theorem dX11_thingsToldAs_31 : decode cX11_thingsToldAs 31 = .ok (.ireturn, 1) := by decide +kernel
theorem dX11_sheetsLaid_0 : decode cX11_sheetsLaid 0 = .ok (.iconst 0, 1) := by decide +kernel
theorem dX11_sheetsLaid_1 : decode cX11_sheetsLaid 1 = .ok (.istore_n 1, 1) := by decide +kernel
theorem dX11_sheetsLaid_2 : decode cX11_sheetsLaid 2 = .ok (.iconst 0, 1) := by decide +kernel
theorem dX11_sheetsLaid_3 : decode cX11_sheetsLaid 3 = .ok (.istore_n 2, 1) := by decide +kernel
theorem dX11_sheetsLaid_4 : decode cX11_sheetsLaid 4 = .ok (.iload_n 2, 1) := by decide +kernel
theorem dX11_sheetsLaid_5 : decode cX11_sheetsLaid 5 = .ok (.bipush 8, 2) := by decide +kernel
theorem dX11_sheetsLaid_7 : decode cX11_sheetsLaid 7 = .ok (.if_icmp .ge 24, 3) := by decide +kernel
theorem dX11_sheetsLaid_10 : decode cX11_sheetsLaid 10 = .ok (.aload_n 0, 1) := by decide +kernel
theorem dX11_sheetsLaid_11 : decode cX11_sheetsLaid 11 = .ok (.getfield 11, 3) := by decide +kernel
theorem dX11_sheetsLaid_14 : decode cX11_sheetsLaid 14 = .ok (.iload_n 2, 1) := by decide +kernel
theorem dX11_sheetsLaid_15 : decode cX11_sheetsLaid 15 = .ok (.aaload, 1) := by decide +kernel
theorem dX11_sheetsLaid_16 : decode cX11_sheetsLaid 16 = .ok (.invokevirtual 110, 3) := by decide +kernel
theorem dX11_sheetsLaid_19 : decode cX11_sheetsLaid 19 = .ok (.ifCond .ne 6, 3) := by decide +kernel
theorem dX11_sheetsLaid_22 : decode cX11_sheetsLaid 22 = .ok (.iinc 1 1, 3) := by decide +kernel
theorem dX11_sheetsLaid_25 : decode cX11_sheetsLaid 25 = .ok (.iinc 2 1, 3) := by decide +kernel
theorem dX11_sheetsLaid_28 : decode cX11_sheetsLaid 28 = .ok (.goto (-24), 3) := by decide +kernel
theorem dX11_sheetsLaid_31 : decode cX11_sheetsLaid 31 = .ok (.iload_n 1, 1) := by decide +kernel
theorem dX11_sheetsLaid_32 : decode cX11_sheetsLaid 32 = .ok (.ireturn, 1) := by decide +kernel
theorem dX11_marksOnPaper_0 : decode cX11_marksOnPaper 0 = .ok (.iconst 0, 1) := by decide +kernel
theorem dX11_marksOnPaper_1 : decode cX11_marksOnPaper 1 = .ok (.istore_n 1, 1) := by decide +kernel
theorem dX11_marksOnPaper_2 : decode cX11_marksOnPaper 2 = .ok (.iconst 0, 1) := by decide +kernel
theorem dX11_marksOnPaper_3 : decode cX11_marksOnPaper 3 = .ok (.istore_n 2, 1) := by decide +kernel
theorem dX11_marksOnPaper_4 : decode cX11_marksOnPaper 4 = .ok (.iload_n 2, 1) := by decide +kernel
theorem dX11_marksOnPaper_5 : decode cX11_marksOnPaper 5 = .ok (.bipush 8, 2) := by decide +kernel
theorem dX11_marksOnPaper_7 : decode cX11_marksOnPaper 7 = .ok (.if_icmp .ge 21, 3) := by decide +kernel
theorem dX11_marksOnPaper_10 : decode cX11_marksOnPaper 10 = .ok (.iload_n 1, 1) := by decide +kernel
theorem dX11_marksOnPaper_11 : decode cX11_marksOnPaper 11 = .ok (.aload_n 0, 1) := by decide +kernel
theorem dX11_marksOnPaper_12 : decode cX11_marksOnPaper 12 = .ok (.getfield 41, 3) := by decide +kernel
theorem dX11_marksOnPaper_15 : decode cX11_marksOnPaper 15 = .ok (.iload_n 2, 1) := by decide +kernel
theorem dX11_marksOnPaper_16 : decode cX11_marksOnPaper 16 = .ok (.aaload, 1) := by decide +kernel
theorem dX11_marksOnPaper_17 : decode cX11_marksOnPaper 17 = .ok (.invokevirtual 234, 3) := by decide +kernel
theorem dX11_marksOnPaper_20 : decode cX11_marksOnPaper 20 = .ok (.iadd, 1) := by decide +kernel
theorem dX11_marksOnPaper_21 : decode cX11_marksOnPaper 21 = .ok (.istore_n 1, 1) := by decide +kernel
theorem dX11_marksOnPaper_22 : decode cX11_marksOnPaper 22 = .ok (.iinc 2 1, 3) := by decide +kernel
theorem dX11_marksOnPaper_25 : decode cX11_marksOnPaper 25 = .ok (.goto (-21), 3) := by decide +kernel
theorem dX11_marksOnPaper_28 : decode cX11_marksOnPaper 28 = .ok (.iload_n 1, 1) := by decide +kernel
theorem dX11_marksOnPaper_29 : decode cX11_marksOnPaper 29 = .ok (.ireturn, 1) := by decide +kernel
theorem dX11_tracesMarked_0 : decode cX11_tracesMarked 0 = .ok (.iconst 0, 1) := by decide +kernel
theorem dX11_tracesMarked_1 : decode cX11_tracesMarked 1 = .ok (.istore_n 1, 1) := by decide +kernel
theorem dX11_tracesMarked_2 : decode cX11_tracesMarked 2 = .ok (.iconst 0, 1) := by decide +kernel
theorem dX11_tracesMarked_3 : decode cX11_tracesMarked 3 = .ok (.istore_n 2, 1) := by decide +kernel
theorem dX11_tracesMarked_4 : decode cX11_tracesMarked 4 = .ok (.iload_n 2, 1) := by decide +kernel
theorem dX11_tracesMarked_5 : decode cX11_tracesMarked 5 = .ok (.bipush 8, 2) := by decide +kernel
theorem dX11_tracesMarked_7 : decode cX11_tracesMarked 7 = .ok (.if_icmp .ge 24, 3) := by decide +kernel
theorem dX11_tracesMarked_10 : decode cX11_tracesMarked 10 = .ok (.aload_n 0, 1) := by decide +kernel
theorem dX11_tracesMarked_11 : decode cX11_tracesMarked 11 = .ok (.getfield 41, 3) := by decide +kernel
theorem dX11_tracesMarked_14 : decode cX11_tracesMarked 14 = .ok (.iload_n 2, 1) := by decide +kernel
theorem dX11_tracesMarked_15 : decode cX11_tracesMarked 15 = .ok (.aaload, 1) := by decide +kernel
theorem dX11_tracesMarked_16 : decode cX11_tracesMarked 16 = .ok (.invokevirtual 234, 3) := by decide +kernel
theorem dX11_tracesMarked_19 : decode cX11_tracesMarked 19 = .ok (.ifCond .le 6, 3) := by decide +kernel
theorem dX11_tracesMarked_22 : decode cX11_tracesMarked 22 = .ok (.iinc 1 1, 3) := by decide +kernel
theorem dX11_tracesMarked_25 : decode cX11_tracesMarked 25 = .ok (.iinc 2 1, 3) := by decide +kernel
theorem dX11_tracesMarked_28 : decode cX11_tracesMarked 28 = .ok (.goto (-24), 3) := by decide +kernel
theorem dX11_tracesMarked_31 : decode cX11_tracesMarked 31 = .ok (.iload_n 1, 1) := by decide +kernel
theorem dX11_tracesMarked_32 : decode cX11_tracesMarked 32 = .ok (.ireturn, 1) := by decide +kernel
theorem dX11_closed_0 : decode cX11_closed 0 = .ok (.aload_n 0, 1) := by decide +kernel
theorem dX11_closed_1 : decode cX11_closed 1 = .ok (.iload_n 1, 1) := by decide +kernel
theorem dX11_closed_2 : decode cX11_closed 2 = .ok (.iaload, 1) := by decide +kernel
theorem dX11_closed_3 : decode cX11_closed 3 = .ok (.aload_n 0, 1) := by decide +kernel
theorem dX11_closed_4 : decode cX11_closed 4 = .ok (.iload_n 2, 1) := by decide +kernel
theorem dX11_closed_5 : decode cX11_closed 5 = .ok (.iaload, 1) := by decide +kernel
theorem dX11_closed_6 : decode cX11_closed 6 = .ok (.iload_n 1, 1) := by decide +kernel
theorem dX11_closed_7 : decode cX11_closed 7 = .ok (.imul, 1) := by decide +kernel
theorem dX11_closed_8 : decode cX11_closed 8 = .ok (.iload_n 2, 1) := by decide +kernel
theorem dX11_closed_9 : decode cX11_closed 9 = .ok (.invokestatic 272, 3) := by decide +kernel
theorem dX11_closed_12 : decode cX11_closed 12 = .ok (.isub, 1) := by decide +kernel
theorem dX11_closed_13 : decode cX11_closed 13 = .ok (.ireturn, 1) := by decide +kernel
theorem dX11_areStudiosTold_0 : decode cX11_areStudiosTold 0 = .ok (.iload_n 0, 1) := by decide +kernel
theorem dX11_areStudiosTold_1 : decode cX11_areStudiosTold 1 = .ok (.invokestatic 213, 3) := by decide +kernel
theorem dX11_areStudiosTold_4 : decode cX11_areStudiosTold 4 = .ok (.ifCond .eq 34, 3) := by decide +kernel
theorem dX11_areStudiosTold_7 : decode cX11_areStudiosTold 7 = .ok (.iload_n 1, 1) := by decide +kernel
theorem dX11_areStudiosTold_8 : decode cX11_areStudiosTold 8 = .ok (.invokestatic 90, 3) := by decide +kernel
theorem dX11_areStudiosTold_11 : decode cX11_areStudiosTold 11 = .ok (.ifCond .eq 27, 3) := by decide +kernel
theorem dX11_areStudiosTold_14 : decode cX11_areStudiosTold 14 = .ok (.iload_n 2, 1) := by decide +kernel
theorem dX11_areStudiosTold_15 : decode cX11_areStudiosTold 15 = .ok (.iconst 1, 1) := by decide +kernel
theorem dX11_areStudiosTold_16 : decode cX11_areStudiosTold 16 = .ok (.bipush 20, 2) := by decide +kernel
theorem dX11_areStudiosTold_18 : decode cX11_areStudiosTold 18 = .ok (.invokestatic 94, 3) := by decide +kernel
theorem dX11_areStudiosTold_21 : decode cX11_areStudiosTold 21 = .ok (.ifCond .eq 17, 3) := by decide +kernel
theorem dX11_areStudiosTold_24 : decode cX11_areStudiosTold 24 = .ok (.iload_n 3, 1) := by decide +kernel
theorem dX11_areStudiosTold_25 : decode cX11_areStudiosTold 25 = .ok (.iconst 0, 1) := by decide +kernel
theorem dX11_areStudiosTold_26 : decode cX11_areStudiosTold 26 = .ok (.bipush 20, 2) := by decide +kernel
theorem dX11_areStudiosTold_28 : decode cX11_areStudiosTold 28 = .ok (.invokestatic 94, 3) := by decide +kernel
theorem dX11_areStudiosTold_31 : decode cX11_areStudiosTold 31 = .ok (.ifCond .eq 7, 3) := by decide +kernel
theorem dX11_areStudiosTold_34 : decode cX11_areStudiosTold 34 = .ok (.iconst 1, 1) := by decide +kernel
theorem dX11_areStudiosTold_35 : decode cX11_areStudiosTold 35 = .ok (.goto 4, 3) := by decide +kernel
theorem dX11_areStudiosTold_38 : decode cX11_areStudiosTold 38 = .ok (.iconst 0, 1) := by decide +kernel
theorem dX11_areStudiosTold_39 : decode cX11_areStudiosTold 39 = .ok (.ireturn, 1) := by decide +kernel
theorem dX11_studiosRefusal_0 : decode cX11_studiosRefusal 0 = .ok (.aload_n 0, 1) := by decide +kernel
theorem dX11_studiosRefusal_1 : decode cX11_studiosRefusal 1 = .ok (.getfield 11, 3) := by decide +kernel
theorem dX11_studiosRefusal_4 : decode cX11_studiosRefusal 4 = .ok (.iload_n 1, 1) := by decide +kernel
theorem dX11_studiosRefusal_5 : decode cX11_studiosRefusal 5 = .ok (.aaload, 1) := by decide +kernel
theorem dX11_studiosRefusal_6 : decode cX11_studiosRefusal 6 = .ok (.invokevirtual 110, 3) := by decide +kernel
theorem dX11_studiosRefusal_9 : decode cX11_studiosRefusal 9 = .ok (.ifCond .eq 9, 3) := by decide +kernel
theorem dX11_studiosRefusal_12 : decode cX11_studiosRefusal 12 = .ok (.aload_n 0, 1) := by decide +kernel
theorem dX11_studiosRefusal_13 : decode cX11_studiosRefusal 13 = .ok (.iconst 1, 1) := by decide +kernel
theorem dX11_studiosRefusal_14 : decode cX11_studiosRefusal 14 = .ok (.invokevirtual 99, 3) := by decide +kernel
theorem dX11_studiosRefusal_17 : decode cX11_studiosRefusal 17 = .ok (.ireturn, 1) := by decide +kernel
theorem dX11_studiosRefusal_18 : decode cX11_studiosRefusal 18 = .ok (.aload_n 0, 1) := by decide +kernel
theorem dX11_studiosRefusal_19 : decode cX11_studiosRefusal 19 = .ok (.getfield 11, 3) := by decide +kernel
theorem dX11_studiosRefusal_22 : decode cX11_studiosRefusal 22 = .ok (.iload_n 1, 1) := by decide +kernel
theorem dX11_studiosRefusal_23 : decode cX11_studiosRefusal 23 = .ok (.aaload, 1) := by decide +kernel
theorem dX11_studiosRefusal_24 : decode cX11_studiosRefusal 24 = .ok (.iload_n 2, 1) := by decide +kernel
theorem dX11_studiosRefusal_25 : decode cX11_studiosRefusal 25 = .ok (.iload_n 3, 1) := by decide +kernel
theorem dX11_studiosRefusal_26 : decode cX11_studiosRefusal 26 = .ok (.iconst 4, 1) := by decide +kernel
theorem dX11_studiosRefusal_27 : decode cX11_studiosRefusal 27 = .ok (.imul, 1) := by decide +kernel
theorem dX11_studiosRefusal_28 : decode cX11_studiosRefusal 28 = .ok (.invokevirtual 114, 3) := by decide +kernel
theorem dX11_studiosRefusal_31 : decode cX11_studiosRefusal 31 = .ok (.ifCond .ne 9, 3) := by decide +kernel
theorem dX11_studiosRefusal_34 : decode cX11_studiosRefusal 34 = .ok (.aload_n 0, 1) := by decide +kernel
theorem dX11_studiosRefusal_35 : decode cX11_studiosRefusal 35 = .ok (.iconst 2, 1) := by decide +kernel
theorem dX11_studiosRefusal_36 : decode cX11_studiosRefusal 36 = .ok (.invokevirtual 99, 3) := by decide +kernel
theorem dX11_studiosRefusal_39 : decode cX11_studiosRefusal 39 = .ok (.ireturn, 1) := by decide +kernel
theorem dX11_studiosRefusal_40 : decode cX11_studiosRefusal 40 = .ok (.aload_n 0, 1) := by decide +kernel
theorem dX11_studiosRefusal_41 : decode cX11_studiosRefusal 41 = .ok (.iload_n 1, 1) := by decide +kernel
theorem dX11_studiosRefusal_42 : decode cX11_studiosRefusal 42 = .ok (.iload_n 2, 1) := by decide +kernel
theorem dX11_studiosRefusal_43 : decode cX11_studiosRefusal 43 = .ok (.iload_n 3, 1) := by decide +kernel
theorem dX11_studiosRefusal_44 : decode cX11_studiosRefusal 44 = .ok (.invokevirtual 380, 3) := by decide +kernel
theorem dX11_studiosRefusal_47 : decode cX11_studiosRefusal 47 = .ok (.ifCond .eq 7, 3) := by decide +kernel
theorem dX11_studiosRefusal_50 : decode cX11_studiosRefusal 50 = .ok (.iconst 0, 1) := by decide +kernel
theorem dX11_studiosRefusal_51 : decode cX11_studiosRefusal 51 = .ok (.goto 5, 3) := by decide +kernel
theorem dX11_studiosRefusal_54 : decode cX11_studiosRefusal 54 = .ok (.ldc 98, 2) := by decide +kernel
theorem dX11_studiosRefusal_56 : decode cX11_studiosRefusal 56 = .ok (.ireturn, 1) := by decide +kernel
theorem dX11_areStudios_0 : decode cX11_areStudios 0 = .ok (.iconst 0, 1) := by decide +kernel
theorem dX11_areStudios_1 : decode cX11_areStudios 1 = .ok (.istore 4, 2) := by decide +kernel
theorem dX11_areStudios_3 : decode cX11_areStudios 3 = .ok (.iload 4, 2) := by decide +kernel
theorem dX11_areStudios_5 : decode cX11_areStudios 5 = .ok (.iload_n 3, 1) := by decide +kernel
theorem dX11_areStudios_6 : decode cX11_areStudios 6 = .ok (.if_icmp .ge 53, 3) := by decide +kernel
theorem dX11_areStudios_9 : decode cX11_areStudios 9 = .ok (.aload_n 0, 1) := by decide +kernel
theorem dX11_areStudios_10 : decode cX11_areStudios 10 = .ok (.iload_n 1, 1) := by decide +kernel
theorem dX11_areStudios_11 : decode cX11_areStudios 11 = .ok (.iload_n 2, 1) := by decide +kernel
theorem dX11_areStudios_12 : decode cX11_areStudios 12 = .ok (.iload 4, 2) := by decide +kernel
theorem dX11_areStudios_14 : decode cX11_areStudios 14 = .ok (.invokevirtual 318, 3) := by decide +kernel
theorem dX11_areStudios_17 : decode cX11_areStudios 17 = .ok (.aload_n 0, 1) := by decide +kernel
theorem dX11_areStudios_18 : decode cX11_areStudios 18 = .ok (.getfield 73, 3) := by decide +kernel
theorem dX11_areStudios_21 : decode cX11_areStudios 21 = .ok (.getfield 383, 3) := by decide +kernel
theorem dX11_areStudios_24 : decode cX11_areStudios 24 = .ok (.aload_n 0, 1) := by decide +kernel
theorem dX11_areStudios_25 : decode cX11_areStudios 25 = .ok (.getfield 73, 3) := by decide +kernel
theorem dX11_areStudios_28 : decode cX11_areStudios 28 = .ok (.getfield 386, 3) := by decide +kernel
theorem dX11_areStudios_31 : decode cX11_areStudios 31 = .ok (.aload_n 0, 1) := by decide +kernel
theorem dX11_areStudios_32 : decode cX11_areStudios 32 = .ok (.getfield 73, 3) := by decide +kernel
theorem dX11_areStudios_35 : decode cX11_areStudios 35 = .ok (.getfield 389, 3) := by decide +kernel
theorem dX11_areStudios_38 : decode cX11_areStudios 38 = .ok (.aload_n 0, 1) := by decide +kernel
theorem dX11_areStudios_39 : decode cX11_areStudios 39 = .ok (.getfield 73, 3) := by decide +kernel
theorem dX11_areStudios_42 : decode cX11_areStudios 42 = .ok (.getfield 392, 3) := by decide +kernel
theorem dX11_areStudios_45 : decode cX11_areStudios 45 = .ok (.invokestatic 275, 3) := by decide +kernel
theorem dX11_areStudios_48 : decode cX11_areStudios 48 = .ok (.ifCond .ne 5, 3) := by decide +kernel
theorem dX11_areStudios_51 : decode cX11_areStudios 51 = .ok (.iconst 0, 1) := by decide +kernel
theorem dX11_areStudios_52 : decode cX11_areStudios 52 = .ok (.ireturn, 1) := by decide +kernel
theorem dX11_areStudios_53 : decode cX11_areStudios 53 = .ok (.iinc 4 1, 3) := by decide +kernel
theorem dX11_areStudios_56 : decode cX11_areStudios 56 = .ok (.goto (-53), 3) := by decide +kernel
theorem dX11_areStudios_59 : decode cX11_areStudios 59 = .ok (.iconst 1, 1) := by decide +kernel
theorem dX11_areStudios_60 : decode cX11_areStudios 60 = .ok (.ireturn, 1) := by decide +kernel
theorem dX11_readStudio_0 : decode cX11_readStudio 0 = .ok (.aload_n 0, 1) := by decide +kernel
theorem dX11_readStudio_1 : decode cX11_readStudio 1 = .ok (.getfield 11, 3) := by decide +kernel
theorem dX11_readStudio_4 : decode cX11_readStudio 4 = .ok (.iload_n 1, 1) := by decide +kernel
theorem dX11_readStudio_5 : decode cX11_readStudio 5 = .ok (.aaload, 1) := by decide +kernel
theorem dX11_readStudio_6 : decode cX11_readStudio 6 = .ok (.getfield 125, 3) := by decide +kernel
theorem dX11_readStudio_9 : decode cX11_readStudio 9 = .ok (.astore 4, 2) := by decide +kernel
theorem dX11_readStudio_11 : decode cX11_readStudio 11 = .ok (.iload_n 2, 1) := by decide +kernel
theorem dX11_readStudio_12 : decode cX11_readStudio 12 = .ok (.iload_n 3, 1) := by decide +kernel
theorem dX11_readStudio_13 : decode cX11_readStudio 13 = .ok (.iconst 4, 1) := by decide +kernel
theorem dX11_readStudio_14 : decode cX11_readStudio 14 = .ok (.imul, 1) := by decide +kernel
theorem dX11_readStudio_15 : decode cX11_readStudio 15 = .ok (.iadd, 1) := by decide +kernel
theorem dX11_readStudio_16 : decode cX11_readStudio 16 = .ok (.istore 5, 2) := by decide +kernel
theorem dX11_readStudio_18 : decode cX11_readStudio 18 = .ok (.aload_n 0, 1) := by decide +kernel
theorem dX11_readStudio_19 : decode cX11_readStudio 19 = .ok (.getfield 73, 3) := by decide +kernel
theorem dX11_readStudio_22 : decode cX11_readStudio 22 = .ok (.aload 4, 2) := by decide +kernel
theorem dX11_readStudio_24 : decode cX11_readStudio 24 = .ok (.iload 5, 2) := by decide +kernel
theorem dX11_readStudio_26 : decode cX11_readStudio 26 = .ok (.iaload, 1) := by decide +kernel
theorem dX11_readStudio_27 : decode cX11_readStudio 27 = .ok (.aload 4, 2) := by decide +kernel
theorem dX11_readStudio_29 : decode cX11_readStudio 29 = .ok (.iload 5, 2) := by decide +kernel
theorem dX11_readStudio_31 : decode cX11_readStudio 31 = .ok (.iconst 1, 1) := by decide +kernel
theorem dX11_readStudio_32 : decode cX11_readStudio 32 = .ok (.iadd, 1) := by decide +kernel
theorem dX11_readStudio_33 : decode cX11_readStudio 33 = .ok (.iaload, 1) := by decide +kernel
theorem dX11_readStudio_34 : decode cX11_readStudio 34 = .ok (.aload 4, 2) := by decide +kernel
theorem dX11_readStudio_36 : decode cX11_readStudio 36 = .ok (.iload 5, 2) := by decide +kernel
theorem dX11_readStudio_38 : decode cX11_readStudio 38 = .ok (.iconst 2, 1) := by decide +kernel
theorem dX11_readStudio_39 : decode cX11_readStudio 39 = .ok (.iadd, 1) := by decide +kernel
theorem dX11_readStudio_40 : decode cX11_readStudio 40 = .ok (.iaload, 1) := by decide +kernel
theorem dX11_readStudio_41 : decode cX11_readStudio 41 = .ok (.aload 4, 2) := by decide +kernel
theorem dX11_readStudio_43 : decode cX11_readStudio 43 = .ok (.iload 5, 2) := by decide +kernel
theorem dX11_readStudio_45 : decode cX11_readStudio 45 = .ok (.iconst 3, 1) := by decide +kernel
theorem dX11_readStudio_46 : decode cX11_readStudio 46 = .ok (.iadd, 1) := by decide +kernel
theorem dX11_readStudio_47 : decode cX11_readStudio 47 = .ok (.iaload, 1) := by decide +kernel
theorem dX11_readStudio_48 : decode cX11_readStudio 48 = .ok (.invokevirtual 279, 3) := by decide +kernel
theorem dX11_readStudio_51 : decode cX11_readStudio 51 = .ok (.return_, 1) := by decide +kernel
theorem dX11_painterMisfit_0 : decode cX11_painterMisfit 0 = .ok (.iconst 0, 1) := by decide +kernel
theorem dX11_painterMisfit_1 : decode cX11_painterMisfit 1 = .ok (.istore_n 2, 1) := by decide +kernel
theorem dX11_painterMisfit_2 : decode cX11_painterMisfit 2 = .ok (.iconst 0, 1) := by decide +kernel
theorem dX11_painterMisfit_3 : decode cX11_painterMisfit 3 = .ok (.istore_n 3, 1) := by decide +kernel
theorem dX11_painterMisfit_4 : decode cX11_painterMisfit 4 = .ok (.iload_n 3, 1) := by decide +kernel
theorem dX11_painterMisfit_5 : decode cX11_painterMisfit 5 = .ok (.aload_n 0, 1) := by decide +kernel
theorem dX11_painterMisfit_6 : decode cX11_painterMisfit 6 = .ok (.getfield 28, 3) := by decide +kernel
theorem dX11_painterMisfit_9 : decode cX11_painterMisfit 9 = .ok (.if_icmp .ge 49, 3) := by decide +kernel
theorem dX11_painterMisfit_12 : decode cX11_painterMisfit 12 = .ok (.aload_n 1, 1) := by decide +kernel
theorem dX11_painterMisfit_13 : decode cX11_painterMisfit 13 = .ok (.getfield 222, 3) := by decide +kernel
theorem dX11_painterMisfit_16 : decode cX11_painterMisfit 16 = .ok (.iload_n 3, 1) := by decide +kernel
theorem dX11_painterMisfit_17 : decode cX11_painterMisfit 17 = .ok (.baload, 1) := by decide +kernel
theorem dX11_painterMisfit_18 : decode cX11_painterMisfit 18 = .ok (.ifCond .eq 34, 3) := by decide +kernel
theorem dX11_painterMisfit_21 : decode cX11_painterMisfit 21 = .ok (.iload_n 2, 1) := by decide +kernel
theorem dX11_painterMisfit_22 : decode cX11_painterMisfit 22 = .ok (.aload_n 0, 1) := by decide +kernel
theorem dX11_painterMisfit_23 : decode cX11_painterMisfit 23 = .ok (.getfield 73, 3) := by decide +kernel
theorem dX11_painterMisfit_26 : decode cX11_painterMisfit 26 = .ok (.aload_n 0, 1) := by decide +kernel
theorem dX11_painterMisfit_27 : decode cX11_painterMisfit 27 = .ok (.getfield 24, 3) := by decide +kernel
theorem dX11_painterMisfit_30 : decode cX11_painterMisfit 30 = .ok (.iload_n 3, 1) := by decide +kernel
theorem dX11_painterMisfit_31 : decode cX11_painterMisfit 31 = .ok (.aaload, 1) := by decide +kernel
theorem dX11_painterMisfit_32 : decode cX11_painterMisfit 32 = .ok (.invokevirtual 395, 3) := by decide +kernel
theorem dX11_painterMisfit_35 : decode cX11_painterMisfit 35 = .ok (.ifCond .eq 12, 3) := by decide +kernel
theorem dX11_painterMisfit_38 : decode cX11_painterMisfit 38 = .ok (.aload_n 0, 1) := by decide +kernel
theorem dX11_painterMisfit_39 : decode cX11_painterMisfit 39 = .ok (.aload_n 1, 1) := by decide +kernel
theorem dX11_painterMisfit_40 : decode cX11_painterMisfit 40 = .ok (.iload_n 3, 1) := by decide +kernel
theorem dX11_painterMisfit_41 : decode cX11_painterMisfit 41 = .ok (.invokevirtual 399, 3) := by decide +kernel
theorem dX11_painterMisfit_44 : decode cX11_painterMisfit 44 = .ok (.goto 6, 3) := by decide +kernel
theorem dX11_painterMisfit_47 : decode cX11_painterMisfit 47 = .ok (.sipush 1000, 3) := by decide +kernel
theorem dX11_painterMisfit_50 : decode cX11_painterMisfit 50 = .ok (.iadd, 1) := by decide +kernel
theorem dX11_painterMisfit_51 : decode cX11_painterMisfit 51 = .ok (.istore_n 2, 1) := by decide +kernel
theorem dX11_painterMisfit_52 : decode cX11_painterMisfit 52 = .ok (.iinc 3 1, 3) := by decide +kernel
theorem dX11_painterMisfit_55 : decode cX11_painterMisfit 55 = .ok (.goto (-51), 3) := by decide +kernel
theorem dX11_painterMisfit_58 : decode cX11_painterMisfit 58 = .ok (.iload_n 2, 1) := by decide +kernel
theorem dX11_painterMisfit_59 : decode cX11_painterMisfit 59 = .ok (.ireturn, 1) := by decide +kernel
theorem dX11_painterApart_0 : decode cX11_painterApart 0 = .ok (.aload_n 1, 1) := by decide +kernel
theorem dX11_painterApart_1 : decode cX11_painterApart 1 = .ok (.getfield 238, 3) := by decide +kernel
theorem dX11_painterApart_4 : decode cX11_painterApart 4 = .ok (.iload_n 2, 1) := by decide +kernel
theorem dX11_painterApart_5 : decode cX11_painterApart 5 = .ok (.iaload, 1) := by decide +kernel
theorem dX11_painterApart_6 : decode cX11_painterApart 6 = .ok (.aload_n 0, 1) := by decide +kernel
theorem dX11_painterApart_7 : decode cX11_painterApart 7 = .ok (.getfield 73, 3) := by decide +kernel
theorem dX11_painterApart_10 : decode cX11_painterApart 10 = .ok (.aload_n 0, 1) := by decide +kernel
theorem dX11_painterApart_11 : decode cX11_painterApart 11 = .ok (.getfield 24, 3) := by decide +kernel
theorem dX11_painterApart_14 : decode cX11_painterApart 14 = .ok (.iload_n 2, 1) := by decide +kernel
theorem dX11_painterApart_15 : decode cX11_painterApart 15 = .ok (.aaload, 1) := by decide +kernel
theorem dX11_painterApart_16 : decode cX11_painterApart 16 = .ok (.invokevirtual 403, 3) := by decide +kernel
theorem dX11_painterApart_19 : decode cX11_painterApart 19 = .ok (.isub, 1) := by decide +kernel
theorem dX11_painterApart_20 : decode cX11_painterApart 20 = .ok (.invokestatic 405, 3) := by decide +kernel
theorem dX11_painterApart_23 : decode cX11_painterApart 23 = .ok (.istore_n 3, 1) := by decide +kernel
theorem dX11_painterApart_24 : decode cX11_painterApart 24 = .ok (.aload_n 1, 1) := by decide +kernel
theorem dX11_painterApart_25 : decode cX11_painterApart 25 = .ok (.getfield 240, 3) := by decide +kernel
theorem dX11_painterApart_28 : decode cX11_painterApart 28 = .ok (.iload_n 2, 1) := by decide +kernel
theorem dX11_painterApart_29 : decode cX11_painterApart 29 = .ok (.iaload, 1) := by decide +kernel
theorem dX11_painterApart_30 : decode cX11_painterApart 30 = .ok (.aload_n 0, 1) := by decide +kernel
theorem dX11_painterApart_31 : decode cX11_painterApart 31 = .ok (.getfield 73, 3) := by decide +kernel
theorem dX11_painterApart_34 : decode cX11_painterApart 34 = .ok (.aload_n 0, 1) := by decide +kernel
theorem dX11_painterApart_35 : decode cX11_painterApart 35 = .ok (.getfield 24, 3) := by decide +kernel
theorem dX11_painterApart_38 : decode cX11_painterApart 38 = .ok (.iload_n 2, 1) := by decide +kernel
theorem dX11_painterApart_39 : decode cX11_painterApart 39 = .ok (.aaload, 1) := by decide +kernel
theorem dX11_painterApart_40 : decode cX11_painterApart 40 = .ok (.invokevirtual 408, 3) := by decide +kernel
theorem dX11_painterApart_43 : decode cX11_painterApart 43 = .ok (.isub, 1) := by decide +kernel
theorem dX11_painterApart_44 : decode cX11_painterApart 44 = .ok (.invokestatic 405, 3) := by decide +kernel
theorem dX11_painterApart_47 : decode cX11_painterApart 47 = .ok (.istore 4, 2) := by decide +kernel
theorem dX11_painterApart_49 : decode cX11_painterApart 49 = .ok (.iload_n 3, 1) := by decide +kernel
theorem dX11_painterApart_50 : decode cX11_painterApart 50 = .ok (.sipush 500, 3) := by decide +kernel
theorem dX11_painterApart_53 : decode cX11_painterApart 53 = .ok (.invokestatic 410, 3) := by decide +kernel
theorem dX11_painterApart_56 : decode cX11_painterApart 56 = .ok (.iload 4, 2) := by decide +kernel
theorem dX11_painterApart_58 : decode cX11_painterApart 58 = .ok (.sipush 500, 3) := by decide +kernel
theorem dX11_painterApart_61 : decode cX11_painterApart 61 = .ok (.invokestatic 410, 3) := by decide +kernel
theorem dX11_painterApart_64 : decode cX11_painterApart 64 = .ok (.iadd, 1) := by decide +kernel
theorem dX11_painterApart_65 : decode cX11_painterApart 65 = .ok (.ireturn, 1) := by decide +kernel
theorem dX11_isPainterNear_0 : decode cX11_isPainterNear 0 = .ok (.aload_n 0, 1) := by decide +kernel
theorem dX11_isPainterNear_1 : decode cX11_isPainterNear 1 = .ok (.getfield 73, 3) := by decide +kernel
theorem dX11_isPainterNear_4 : decode cX11_isPainterNear 4 = .ok (.aload_n 0, 1) := by decide +kernel
theorem dX11_isPainterNear_5 : decode cX11_isPainterNear 5 = .ok (.getfield 24, 3) := by decide +kernel
theorem dX11_isPainterNear_8 : decode cX11_isPainterNear 8 = .ok (.iload_n 2, 1) := by decide +kernel
theorem dX11_isPainterNear_9 : decode cX11_isPainterNear 9 = .ok (.aaload, 1) := by decide +kernel
theorem dX11_isPainterNear_10 : decode cX11_isPainterNear 10 = .ok (.invokevirtual 395, 3) := by decide +kernel
theorem dX11_isPainterNear_13 : decode cX11_isPainterNear 13 = .ok (.ifCond .eq 61, 3) := by decide +kernel
theorem dX11_isPainterNear_16 : decode cX11_isPainterNear 16 = .ok (.aload_n 1, 1) := by decide +kernel
theorem dX11_isPainterNear_17 : decode cX11_isPainterNear 17 = .ok (.getfield 238, 3) := by decide +kernel
theorem dX11_isPainterNear_20 : decode cX11_isPainterNear 20 = .ok (.iload_n 2, 1) := by decide +kernel
theorem dX11_isPainterNear_21 : decode cX11_isPainterNear 21 = .ok (.iaload, 1) := by decide +kernel
theorem dX11_isPainterNear_22 : decode cX11_isPainterNear 22 = .ok (.aload_n 0, 1) := by decide +kernel
theorem dX11_isPainterNear_23 : decode cX11_isPainterNear 23 = .ok (.getfield 73, 3) := by decide +kernel
theorem dX11_isPainterNear_26 : decode cX11_isPainterNear 26 = .ok (.aload_n 0, 1) := by decide +kernel
theorem dX11_isPainterNear_27 : decode cX11_isPainterNear 27 = .ok (.getfield 24, 3) := by decide +kernel
theorem dX11_isPainterNear_30 : decode cX11_isPainterNear 30 = .ok (.iload_n 2, 1) := by decide +kernel
theorem dX11_isPainterNear_31 : decode cX11_isPainterNear 31 = .ok (.aaload, 1) := by decide +kernel
theorem dX11_isPainterNear_32 : decode cX11_isPainterNear 32 = .ok (.invokevirtual 403, 3) := by decide +kernel
theorem dX11_isPainterNear_35 : decode cX11_isPainterNear 35 = .ok (.isub, 1) := by decide +kernel
theorem dX11_isPainterNear_36 : decode cX11_isPainterNear 36 = .ok (.invokestatic 405, 3) := by decide +kernel
theorem dX11_isPainterNear_39 : decode cX11_isPainterNear 39 = .ok (.iload_n 3, 1) := by decide +kernel
theorem dX11_isPainterNear_40 : decode cX11_isPainterNear 40 = .ok (.if_icmp .gt 34, 3) := by decide +kernel
theorem dX11_isPainterNear_43 : decode cX11_isPainterNear 43 = .ok (.aload_n 1, 1) := by decide +kernel
theorem dX11_isPainterNear_44 : decode cX11_isPainterNear 44 = .ok (.getfield 240, 3) := by decide +kernel
theorem dX11_isPainterNear_47 : decode cX11_isPainterNear 47 = .ok (.iload_n 2, 1) := by decide +kernel
theorem dX11_isPainterNear_48 : decode cX11_isPainterNear 48 = .ok (.iaload, 1) := by decide +kernel
theorem dX11_isPainterNear_49 : decode cX11_isPainterNear 49 = .ok (.aload_n 0, 1) := by decide +kernel
theorem dX11_isPainterNear_50 : decode cX11_isPainterNear 50 = .ok (.getfield 73, 3) := by decide +kernel
theorem dX11_isPainterNear_53 : decode cX11_isPainterNear 53 = .ok (.aload_n 0, 1) := by decide +kernel
theorem dX11_isPainterNear_54 : decode cX11_isPainterNear 54 = .ok (.getfield 24, 3) := by decide +kernel
theorem dX11_isPainterNear_57 : decode cX11_isPainterNear 57 = .ok (.iload_n 2, 1) := by decide +kernel
theorem dX11_isPainterNear_58 : decode cX11_isPainterNear 58 = .ok (.aaload, 1) := by decide +kernel
theorem dX11_isPainterNear_59 : decode cX11_isPainterNear 59 = .ok (.invokevirtual 408, 3) := by decide +kernel
theorem dX11_isPainterNear_62 : decode cX11_isPainterNear 62 = .ok (.isub, 1) := by decide +kernel
theorem dX11_isPainterNear_63 : decode cX11_isPainterNear 63 = .ok (.invokestatic 405, 3) := by decide +kernel
theorem dX11_isPainterNear_66 : decode cX11_isPainterNear 66 = .ok (.iload_n 3, 1) := by decide +kernel
theorem dX11_isPainterNear_67 : decode cX11_isPainterNear 67 = .ok (.if_icmp .gt 7, 3) := by decide +kernel
theorem dX11_isPainterNear_70 : decode cX11_isPainterNear 70 = .ok (.iconst 1, 1) := by decide +kernel
theorem dX11_isPainterNear_71 : decode cX11_isPainterNear 71 = .ok (.goto 4, 3) := by decide +kernel
theorem dX11_isPainterNear_74 : decode cX11_isPainterNear 74 = .ok (.iconst 0, 1) := by decide +kernel
theorem dX11_isPainterNear_75 : decode cX11_isPainterNear 75 = .ok (.ireturn, 1) := by decide +kernel
theorem dX11_hasPainterMade_0 : decode cX11_hasPainterMade 0 = .ok (.iconst 0, 1) := by decide +kernel
theorem dX11_hasPainterMade_1 : decode cX11_hasPainterMade 1 = .ok (.istore_n 3, 1) := by decide +kernel
theorem dX11_hasPainterMade_2 : decode cX11_hasPainterMade 2 = .ok (.iload_n 3, 1) := by decide +kernel
theorem dX11_hasPainterMade_3 : decode cX11_hasPainterMade 3 = .ok (.aload_n 0, 1) := by decide +kernel
theorem dX11_hasPainterMade_4 : decode cX11_hasPainterMade 4 = .ok (.getfield 28, 3) := by decide +kernel
theorem dX11_hasPainterMade_7 : decode cX11_hasPainterMade 7 = .ok (.if_icmp .ge 30, 3) := by decide +kernel
theorem dX11_hasPainterMade_10 : decode cX11_hasPainterMade 10 = .ok (.aload_n 1, 1) := by decide +kernel
theorem dX11_hasPainterMade_11 : decode cX11_hasPainterMade 11 = .ok (.getfield 222, 3) := by decide +kernel
theorem dX11_hasPainterMade_14 : decode cX11_hasPainterMade 14 = .ok (.iload_n 3, 1) := by decide +kernel
theorem dX11_hasPainterMade_15 : decode cX11_hasPainterMade 15 = .ok (.baload, 1) := by decide +kernel
theorem dX11_hasPainterMade_16 : decode cX11_hasPainterMade 16 = .ok (.ifCond .eq 15, 3) := by decide +kernel
theorem dX11_hasPainterMade_19 : decode cX11_hasPainterMade 19 = .ok (.aload_n 0, 1) := by decide +kernel
theorem dX11_hasPainterMade_20 : decode cX11_hasPainterMade 20 = .ok (.aload_n 1, 1) := by decide +kernel
theorem dX11_hasPainterMade_21 : decode cX11_hasPainterMade 21 = .ok (.iload_n 3, 1) := by decide +kernel
theorem dX11_hasPainterMade_22 : decode cX11_hasPainterMade 22 = .ok (.iload_n 2, 1) := by decide +kernel
theorem dX11_hasPainterMade_23 : decode cX11_hasPainterMade 23 = .ok (.invokevirtual 412, 3) := by decide +kernel
theorem dX11_hasPainterMade_26 : decode cX11_hasPainterMade 26 = .ok (.ifCond .ne 5, 3) := by decide +kernel
theorem dX11_hasPainterMade_29 : decode cX11_hasPainterMade 29 = .ok (.iconst 0, 1) := by decide +kernel
theorem dX11_hasPainterMade_30 : decode cX11_hasPainterMade 30 = .ok (.ireturn, 1) := by decide +kernel
theorem dX11_hasPainterMade_31 : decode cX11_hasPainterMade 31 = .ok (.iinc 3 1, 3) := by decide +kernel
theorem dX11_hasPainterMade_34 : decode cX11_hasPainterMade 34 = .ok (.goto (-32), 3) := by decide +kernel
theorem dX11_hasPainterMade_37 : decode cX11_hasPainterMade 37 = .ok (.iconst 1, 1) := by decide +kernel
theorem dX11_hasPainterMade_38 : decode cX11_hasPainterMade 38 = .ok (.ireturn, 1) := by decide +kernel
theorem dX11_bestStudio_0 : decode cX11_bestStudio 0 = .ok (.aload_n 0, 1) := by decide +kernel
theorem dX11_bestStudio_1 : decode cX11_bestStudio 1 = .ok (.iload_n 2, 1) := by decide +kernel
theorem dX11_bestStudio_2 : decode cX11_bestStudio 2 = .ok (.iload_n 3, 1) := by decide +kernel
theorem dX11_bestStudio_3 : decode cX11_bestStudio 3 = .ok (.iconst 0, 1) := by decide +kernel
theorem dX11_bestStudio_4 : decode cX11_bestStudio 4 = .ok (.invokevirtual 318, 3) := by decide +kernel
theorem dX11_bestStudio_7 : decode cX11_bestStudio 7 = .ok (.iconst 0, 1) := by decide +kernel
theorem dX11_bestStudio_8 : decode cX11_bestStudio 8 = .ok (.istore 5, 2) := by decide +kernel
theorem dX11_bestStudio_10 : decode cX11_bestStudio 10 = .ok (.aload_n 0, 1) := by decide +kernel
theorem dX11_bestStudio_11 : decode cX11_bestStudio 11 = .ok (.aload_n 1, 1) := by decide +kernel
theorem dX11_bestStudio_12 : decode cX11_bestStudio 12 = .ok (.invokevirtual 321, 3) := by decide +kernel
theorem dX11_bestStudio_15 : decode cX11_bestStudio 15 = .ok (.istore 6, 2) := by decide +kernel
theorem dX11_bestStudio_17 : decode cX11_bestStudio 17 = .ok (.iconst 1, 1) := by decide +kernel
theorem dX11_bestStudio_18 : decode cX11_bestStudio 18 = .ok (.istore 7, 2) := by decide +kernel
theorem dX11_bestStudio_20 : decode cX11_bestStudio 20 = .ok (.iload 7, 2) := by decide +kernel
theorem dX11_bestStudio_22 : decode cX11_bestStudio 22 = .ok (.iload 4, 2) := by decide +kernel
theorem dX11_bestStudio_24 : decode cX11_bestStudio 24 = .ok (.if_icmp .ge 39, 3) := by decide +kernel
theorem dX11_bestStudio_27 : decode cX11_bestStudio 27 = .ok (.aload_n 0, 1) := by decide +kernel
theorem dX11_bestStudio_28 : decode cX11_bestStudio 28 = .ok (.iload_n 2, 1) := by decide +kernel
theorem dX11_bestStudio_29 : decode cX11_bestStudio 29 = .ok (.iload_n 3, 1) := by decide +kernel
theorem dX11_bestStudio_30 : decode cX11_bestStudio 30 = .ok (.iload 7, 2) := by decide +kernel
theorem dX11_bestStudio_32 : decode cX11_bestStudio 32 = .ok (.invokevirtual 318, 3) := by decide +kernel
theorem dX11_bestStudio_35 : decode cX11_bestStudio 35 = .ok (.aload_n 0, 1) := by decide +kernel
theorem dX11_bestStudio_36 : decode cX11_bestStudio 36 = .ok (.aload_n 1, 1) := by decide +kernel
theorem dX11_bestStudio_37 : decode cX11_bestStudio 37 = .ok (.invokevirtual 321, 3) := by decide +kernel
theorem dX11_bestStudio_40 : decode cX11_bestStudio 40 = .ok (.istore 8, 2) := by decide +kernel
theorem dX11_bestStudio_42 : decode cX11_bestStudio 42 = .ok (.iload 8, 2) := by decide +kernel
theorem dX11_bestStudio_44 : decode cX11_bestStudio 44 = .ok (.iload 6, 2) := by decide +kernel
theorem dX11_bestStudio_46 : decode cX11_bestStudio 46 = .ok (.if_icmp .ge 11, 3) := by decide +kernel
theorem dX11_bestStudio_49 : decode cX11_bestStudio 49 = .ok (.iload 8, 2) := by decide +kernel
theorem dX11_bestStudio_51 : decode cX11_bestStudio 51 = .ok (.istore 6, 2) := by decide +kernel
theorem dX11_bestStudio_53 : decode cX11_bestStudio 53 = .ok (.iload 7, 2) := by decide +kernel
theorem dX11_bestStudio_55 : decode cX11_bestStudio 55 = .ok (.istore 5, 2) := by decide +kernel
theorem dX11_bestStudio_57 : decode cX11_bestStudio 57 = .ok (.iinc 7 1, 3) := by decide +kernel
theorem dX11_bestStudio_60 : decode cX11_bestStudio 60 = .ok (.goto (-40), 3) := by decide +kernel
theorem dX11_bestStudio_63 : decode cX11_bestStudio 63 = .ok (.iload 5, 2) := by decide +kernel
theorem dX11_bestStudio_65 : decode cX11_bestStudio 65 = .ok (.ireturn, 1) := by decide +kernel
theorem dX11_studiosThatMade_0 : decode cX11_studiosThatMade 0 = .ok (.iconst 0, 1) := by decide +kernel
theorem dX11_studiosThatMade_1 : decode cX11_studiosThatMade 1 = .ok (.istore 6, 2) := by decide +kernel
theorem dX11_studiosThatMade_3 : decode cX11_studiosThatMade 3 = .ok (.iconst 0, 1) := by decide +kernel
theorem dX11_studiosThatMade_4 : decode cX11_studiosThatMade 4 = .ok (.istore 7, 2) := by decide +kernel
theorem dX11_studiosThatMade_6 : decode cX11_studiosThatMade 6 = .ok (.iload 7, 2) := by decide +kernel
theorem dX11_studiosThatMade_8 : decode cX11_studiosThatMade 8 = .ok (.iload 4, 2) := by decide +kernel
theorem dX11_studiosThatMade_10 : decode cX11_studiosThatMade 10 = .ok (.if_icmp .ge 30, 3) := by decide +kernel
theorem dX11_studiosThatMade_13 : decode cX11_studiosThatMade 13 = .ok (.aload_n 0, 1) := by decide +kernel
theorem dX11_studiosThatMade_14 : decode cX11_studiosThatMade 14 = .ok (.iload_n 2, 1) := by decide +kernel
theorem dX11_studiosThatMade_15 : decode cX11_studiosThatMade 15 = .ok (.iload_n 3, 1) := by decide +kernel
theorem dX11_studiosThatMade_16 : decode cX11_studiosThatMade 16 = .ok (.iload 7, 2) := by decide +kernel
theorem dX11_studiosThatMade_18 : decode cX11_studiosThatMade 18 = .ok (.invokevirtual 318, 3) := by decide +kernel
theorem dX11_studiosThatMade_21 : decode cX11_studiosThatMade 21 = .ok (.aload_n 0, 1) := by decide +kernel
theorem dX11_studiosThatMade_22 : decode cX11_studiosThatMade 22 = .ok (.aload_n 1, 1) := by decide +kernel
theorem dX11_studiosThatMade_23 : decode cX11_studiosThatMade 23 = .ok (.iload 5, 2) := by decide +kernel
theorem dX11_studiosThatMade_25 : decode cX11_studiosThatMade 25 = .ok (.invokevirtual 325, 3) := by decide +kernel
theorem dX11_studiosThatMade_28 : decode cX11_studiosThatMade 28 = .ok (.ifCond .eq 6, 3) := by decide +kernel
theorem dX11_studiosThatMade_31 : decode cX11_studiosThatMade 31 = .ok (.iinc 6 1, 3) := by decide +kernel
theorem dX11_studiosThatMade_34 : decode cX11_studiosThatMade 34 = .ok (.iinc 7 1, 3) := by decide +kernel
theorem dX11_studiosThatMade_37 : decode cX11_studiosThatMade 37 = .ok (.goto (-31), 3) := by decide +kernel
theorem dX11_studiosThatMade_40 : decode cX11_studiosThatMade 40 = .ok (.iload 6, 2) := by decide +kernel
theorem dX11_studiosThatMade_42 : decode cX11_studiosThatMade 42 = .ok (.ireturn, 1) := by decide +kernel
theorem dX11_marksOfNoStudio_0 : decode cX11_marksOfNoStudio 0 = .ok (.iconst 0, 1) := by decide +kernel
theorem dX11_marksOfNoStudio_1 : decode cX11_marksOfNoStudio 1 = .ok (.istore 6, 2) := by decide +kernel
theorem dX11_marksOfNoStudio_3 : decode cX11_marksOfNoStudio 3 = .ok (.iconst 0, 1) := by decide +kernel
theorem dX11_marksOfNoStudio_4 : decode cX11_marksOfNoStudio 4 = .ok (.istore 7, 2) := by decide +kernel
theorem dX11_marksOfNoStudio_6 : decode cX11_marksOfNoStudio 6 = .ok (.iload 7, 2) := by decide +kernel
theorem dX11_marksOfNoStudio_8 : decode cX11_marksOfNoStudio 8 = .ok (.aload_n 0, 1) := by decide +kernel
theorem dX11_marksOfNoStudio_9 : decode cX11_marksOfNoStudio 9 = .ok (.getfield 28, 3) := by decide +kernel
theorem dX11_marksOfNoStudio_12 : decode cX11_marksOfNoStudio 12 = .ok (.if_icmp .ge 74, 3) := by decide +kernel
theorem dX11_marksOfNoStudio_15 : decode cX11_marksOfNoStudio 15 = .ok (.aload_n 1, 1) := by decide +kernel
theorem dX11_marksOfNoStudio_16 : decode cX11_marksOfNoStudio 16 = .ok (.getfield 222, 3) := by decide +kernel
theorem dX11_marksOfNoStudio_19 : decode cX11_marksOfNoStudio 19 = .ok (.iload 7, 2) := by decide +kernel
theorem dX11_marksOfNoStudio_21 : decode cX11_marksOfNoStudio 21 = .ok (.baload, 1) := by decide +kernel
theorem dX11_marksOfNoStudio_22 : decode cX11_marksOfNoStudio 22 = .ok (.ifCond .ne 7, 3) := by decide +kernel
theorem dX11_marksOfNoStudio_25 : decode cX11_marksOfNoStudio 25 = .ok (.iconst 1, 1) := by decide +kernel
theorem dX11_marksOfNoStudio_26 : decode cX11_marksOfNoStudio 26 = .ok (.goto 4, 3) := by decide +kernel
theorem dX11_marksOfNoStudio_29 : decode cX11_marksOfNoStudio 29 = .ok (.iconst 0, 1) := by decide +kernel
theorem dX11_marksOfNoStudio_30 : decode cX11_marksOfNoStudio 30 = .ok (.istore 8, 2) := by decide +kernel
theorem dX11_marksOfNoStudio_32 : decode cX11_marksOfNoStudio 32 = .ok (.iconst 0, 1) := by decide +kernel
theorem dX11_marksOfNoStudio_33 : decode cX11_marksOfNoStudio 33 = .ok (.istore 9, 2) := by decide +kernel
theorem dX11_marksOfNoStudio_35 : decode cX11_marksOfNoStudio 35 = .ok (.iload 9, 2) := by decide +kernel
theorem dX11_marksOfNoStudio_37 : decode cX11_marksOfNoStudio 37 = .ok (.iload 4, 2) := by decide +kernel
theorem dX11_marksOfNoStudio_39 : decode cX11_marksOfNoStudio 39 = .ok (.if_icmp .ge 33, 3) := by decide +kernel
theorem dX11_marksOfNoStudio_42 : decode cX11_marksOfNoStudio 42 = .ok (.iload 8, 2) := by decide +kernel
theorem dX11_marksOfNoStudio_44 : decode cX11_marksOfNoStudio 44 = .ok (.ifCond .ne 28, 3) := by decide +kernel
theorem dX11_marksOfNoStudio_47 : decode cX11_marksOfNoStudio 47 = .ok (.aload_n 0, 1) := by decide +kernel
theorem dX11_marksOfNoStudio_48 : decode cX11_marksOfNoStudio 48 = .ok (.iload_n 2, 1) := by decide +kernel
theorem dX11_marksOfNoStudio_49 : decode cX11_marksOfNoStudio 49 = .ok (.iload_n 3, 1) := by decide +kernel
theorem dX11_marksOfNoStudio_50 : decode cX11_marksOfNoStudio 50 = .ok (.iload 9, 2) := by decide +kernel
theorem dX11_marksOfNoStudio_52 : decode cX11_marksOfNoStudio 52 = .ok (.invokevirtual 318, 3) := by decide +kernel
theorem dX11_marksOfNoStudio_55 : decode cX11_marksOfNoStudio 55 = .ok (.aload_n 0, 1) := by decide +kernel
theorem dX11_marksOfNoStudio_56 : decode cX11_marksOfNoStudio 56 = .ok (.aload_n 1, 1) := by decide +kernel
theorem dX11_marksOfNoStudio_57 : decode cX11_marksOfNoStudio 57 = .ok (.iload 7, 2) := by decide +kernel
theorem dX11_marksOfNoStudio_59 : decode cX11_marksOfNoStudio 59 = .ok (.iload 5, 2) := by decide +kernel
theorem dX11_marksOfNoStudio_61 : decode cX11_marksOfNoStudio 61 = .ok (.invokevirtual 412, 3) := by decide +kernel
theorem dX11_marksOfNoStudio_64 : decode cX11_marksOfNoStudio 64 = .ok (.istore 8, 2) := by decide +kernel
theorem dX11_marksOfNoStudio_66 : decode cX11_marksOfNoStudio 66 = .ok (.iinc 9 1, 3) := by decide +kernel
theorem dX11_marksOfNoStudio_69 : decode cX11_marksOfNoStudio 69 = .ok (.goto (-34), 3) := by decide +kernel
theorem dX11_marksOfNoStudio_72 : decode cX11_marksOfNoStudio 72 = .ok (.iload 8, 2) := by decide +kernel
theorem dX11_marksOfNoStudio_74 : decode cX11_marksOfNoStudio 74 = .ok (.ifCond .ne 6, 3) := by decide +kernel
theorem dX11_marksOfNoStudio_77 : decode cX11_marksOfNoStudio 77 = .ok (.iinc 6 1, 3) := by decide +kernel
theorem dX11_marksOfNoStudio_80 : decode cX11_marksOfNoStudio 80 = .ok (.iinc 7 1, 3) := by decide +kernel
theorem dX11_marksOfNoStudio_83 : decode cX11_marksOfNoStudio 83 = .ok (.goto (-77), 3) := by decide +kernel
theorem dX11_marksOfNoStudio_86 : decode cX11_marksOfNoStudio 86 = .ok (.iload 6, 2) := by decide +kernel
theorem dX11_marksOfNoStudio_88 : decode cX11_marksOfNoStudio 88 = .ok (.ireturn, 1) := by decide +kernel
theorem dX11_noonOf_0 : decode cX11_noonOf 0 = .ok (.iload_n 0, 1) := by decide +kernel
theorem dX11_noonOf_1 : decode cX11_noonOf 1 = .ok (.sipush 172, 3) := by decide +kernel
theorem dX11_noonOf_4 : decode cX11_noonOf 4 = .ok (.isub, 1) := by decide +kernel
theorem dX11_noonOf_5 : decode cX11_noonOf 5 = .ok (.invokestatic 405, 3) := by decide +kernel
theorem dX11_noonOf_8 : decode cX11_noonOf 8 = .ok (.istore_n 1, 1) := by decide +kernel
theorem dX11_noonOf_9 : decode cX11_noonOf 9 = .ok (.iload_n 1, 1) := by decide +kernel
theorem dX11_noonOf_10 : decode cX11_noonOf 10 = .ok (.sipush 365, 3) := by decide +kernel
theorem dX11_noonOf_13 : decode cX11_noonOf 13 = .ok (.iload_n 1, 1) := by decide +kernel
theorem dX11_noonOf_14 : decode cX11_noonOf 14 = .ok (.isub, 1) := by decide +kernel
theorem dX11_noonOf_15 : decode cX11_noonOf 15 = .ok (.invokestatic 410, 3) := by decide +kernel
theorem dX11_noonOf_18 : decode cX11_noonOf 18 = .ok (.istore_n 2, 1) := by decide +kernel
theorem dX11_noonOf_19 : decode cX11_noonOf 19 = .ok (.sipush 500, 3) := by decide +kernel
theorem dX11_noonOf_22 : decode cX11_noonOf 22 = .ok (.sipush 1500, 3) := by decide +kernel
theorem dX11_noonOf_25 : decode cX11_noonOf 25 = .ok (.iload_n 2, 1) := by decide +kernel
theorem dX11_noonOf_26 : decode cX11_noonOf 26 = .ok (.imul, 1) := by decide +kernel
theorem dX11_noonOf_27 : decode cX11_noonOf 27 = .ok (.sipush 182, 3) := by decide +kernel
theorem dX11_noonOf_30 : decode cX11_noonOf 30 = .ok (.invokestatic 272, 3) := by decide +kernel
theorem dX11_noonOf_33 : decode cX11_noonOf 33 = .ok (.iadd, 1) := by decide +kernel
theorem dX11_noonOf_34 : decode cX11_noonOf 34 = .ok (.ireturn, 1) := by decide +kernel
theorem dX11_spotAside_0 : decode cX11_spotAside 0 = .ok (.iload_n 1, 1) := by decide +kernel
theorem dX11_spotAside_1 : decode cX11_spotAside 1 = .ok (.iload_n 0, 1) := by decide +kernel
theorem dX11_spotAside_2 : decode cX11_spotAside 2 = .ok (.imul, 1) := by decide +kernel
theorem dX11_spotAside_3 : decode cX11_spotAside 3 = .ok (.sipush 200, 3) := by decide +kernel
theorem dX11_spotAside_6 : decode cX11_spotAside 6 = .ok (.imul, 1) := by decide +kernel
theorem dX11_spotAside_7 : decode cX11_spotAside 7 = .ok (.sipush 1000, 3) := by decide +kernel
theorem dX11_spotAside_10 : decode cX11_spotAside 10 = .ok (.invokestatic 272, 3) := by decide +kernel
theorem dX11_spotAside_13 : decode cX11_spotAside 13 = .ok (.ireturn, 1) := by decide +kernel
theorem dX11_spotAhead_0 : decode cX11_spotAhead 0 = .ok (.iload_n 2, 1) := by decide +kernel
theorem dX11_spotAhead_1 : decode cX11_spotAhead 1 = .ok (.iload_n 0, 1) := by decide +kernel
theorem dX11_spotAhead_2 : decode cX11_spotAhead 2 = .ok (.bipush 30, 2) := by decide +kernel
theorem dX11_spotAhead_4 : decode cX11_spotAhead 4 = .ok (.iload_n 1, 1) := by decide +kernel
theorem dX11_spotAhead_5 : decode cX11_spotAhead 5 = .ok (.imul, 1) := by decide +kernel
theorem dX11_spotAhead_6 : decode cX11_spotAhead 6 = .ok (.iload_n 1, 1) := by decide +kernel
theorem dX11_spotAhead_7 : decode cX11_spotAhead 7 = .ok (.imul, 1) := by decide +kernel
theorem dX11_spotAhead_8 : decode cX11_spotAhead 8 = .ok (.iadd, 1) := by decide +kernel
theorem dX11_spotAhead_9 : decode cX11_spotAhead 9 = .ok (.imul, 1) := by decide +kernel
theorem dX11_spotAhead_10 : decode cX11_spotAhead 10 = .ok (.sipush 1000, 3) := by decide +kernel
theorem dX11_spotAhead_13 : decode cX11_spotAhead 13 = .ok (.invokestatic 272, 3) := by decide +kernel
theorem dX11_spotAhead_16 : decode cX11_spotAhead 16 = .ok (.ireturn, 1) := by decide +kernel
