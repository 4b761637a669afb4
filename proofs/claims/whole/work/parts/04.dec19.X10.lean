theorem dX10_askLeaves_23 : decode cX10_askLeaves 23 = .ok (.ifCond .ge 8, 3) := by decide +kernel
theorem dX10_askLeaves_26 : decode cX10_askLeaves 26 = .ok (.bipush (-2), 2) := by decide +kernel
theorem dX10_askLeaves_28 : decode cX10_askLeaves 28 = .ok (.goto 8, 3) := by decide +kernel
theorem dX10_askLeaves_31 : decode cX10_askLeaves 31 = .ok (.aload_n 0, 1) := by decide +kernel
theorem dX10_askLeaves_32 : decode cX10_askLeaves 32 = .ok (.iload_n 1, 1) := by decide +kernel
theorem dX10_askLeaves_33 : decode cX10_askLeaves 33 = .ok (.invokevirtual 406, 3) := by decide +kernel
theorem dX10_askLeaves_36 : decode cX10_askLeaves 36 = .ok (.ireturn, 1) := by decide +kernel
theorem dX10_judge_0 : decode cX10_judge 0 = .ok (.aload_n 0, 1) := by decide +kernel
theorem dX10_judge_1 : decode cX10_judge 1 = .ok (.invokevirtual 247, 3) := by decide +kernel
theorem dX10_judge_4 : decode cX10_judge 4 = .ok (.aload_n 0, 1) := by decide +kernel
theorem dX10_judge_5 : decode cX10_judge 5 = .ok (.getfield 260, 3) := by decide +kernel
theorem dX10_judge_8 : decode cX10_judge 8 = .ok (.ifCond .eq 11, 3) := by decide +kernel
theorem dX10_judge_11 : decode cX10_judge 11 = .ok (.aload_n 0, 1) := by decide +kernel
theorem dX10_judge_12 : decode cX10_judge 12 = .ok (.iconst 0, 1) := by decide +kernel
theorem dX10_judge_13 : decode cX10_judge 13 = .ok (.invokevirtual 400, 3) := by decide +kernel
theorem dX10_judge_16 : decode cX10_judge 16 = .ok (.goto 8, 3) := by decide +kernel
theorem dX10_judge_19 : decode cX10_judge 19 = .ok (.aload_n 0, 1) := by decide +kernel
theorem dX10_judge_20 : decode cX10_judge 20 = .ok (.iconst 1, 1) := by decide +kernel
theorem dX10_judge_21 : decode cX10_judge 21 = .ok (.invokevirtual 250, 3) := by decide +kernel
theorem dX10_judge_24 : decode cX10_judge 24 = .ok (.ireturn, 1) := by decide +kernel
theorem dX10_waitsOf_0 : decode cX10_waitsOf 0 = .ok (.iload_n 1, 1) := by decide +kernel
theorem dX10_waitsOf_1 : decode cX10_waitsOf 1 = .ok (.ifCond .eq 16, 3) := by decide +kernel
theorem dX10_waitsOf_4 : decode cX10_waitsOf 4 = .ok (.iload_n 2, 1) := by decide +kernel
theorem dX10_waitsOf_5 : decode cX10_waitsOf 5 = .ok (.ifCond .eq 8, 3) := by decide +kernel
theorem dX10_waitsOf_8 : decode cX10_waitsOf 8 = .ok (.iload_n 0, 1) := by decide +kernel
theorem dX10_waitsOf_9 : decode cX10_waitsOf 9 = .ok (.ineg, 1) := by decide +kernel
theorem dX10_waitsOf_10 : decode cX10_waitsOf 10 = .ok (.goto 16, 3) := by decide +kernel
theorem dX10_waitsOf_13 : decode cX10_waitsOf 13 = .ok (.iconst 4, 1) := by decide +kernel
theorem dX10_waitsOf_14 : decode cX10_waitsOf 14 = .ok (.goto 12, 3) := by decide +kernel
theorem dX10_waitsOf_17 : decode cX10_waitsOf 17 = .ok (.iload_n 2, 1) := by decide +kernel
theorem dX10_waitsOf_18 : decode cX10_waitsOf 18 = .ok (.ifCond .eq 7, 3) := by decide +kernel
theorem dX10_waitsOf_21 : decode cX10_waitsOf 21 = .ok (.iconst 1, 1) := by decide +kernel
theorem dX10_waitsOf_22 : decode cX10_waitsOf 22 = .ok (.goto 4, 3) := by decide +kernel
theorem dX10_waitsOf_25 : decode cX10_waitsOf 25 = .ok (.iconst 2, 1) := by decide +kernel
theorem dX10_waitsOf_26 : decode cX10_waitsOf 26 = .ok (.ireturn, 1) := by decide +kernel
theorem dX10_waits_0 : decode cX10_waits 0 = .ok (.aload_n 0, 1) := by decide +kernel
theorem dX10_waits_1 : decode cX10_waits 1 = .ok (.invokevirtual 247, 3) := by decide +kernel
theorem dX10_waits_4 : decode cX10_waits 4 = .ok (.aload_n 0, 1) := by decide +kernel
theorem dX10_waits_5 : decode cX10_waits 5 = .ok (.aload_n 0, 1) := by decide +kernel
theorem dX10_waits_6 : decode cX10_waits 6 = .ok (.getfield 260, 3) := by decide +kernel
theorem dX10_waits_9 : decode cX10_waits 9 = .ok (.iload_n 1, 1) := by decide +kernel
theorem dX10_waits_10 : decode cX10_waits 10 = .ok (.iconst 0, 1) := by decide +kernel
theorem dX10_waits_11 : decode cX10_waits 11 = .ok (.bipush 9, 2) := by decide +kernel
theorem dX10_waits_13 : decode cX10_waits 13 = .ok (.invokestatic 81, 3) := by decide +kernel
theorem dX10_waits_16 : decode cX10_waits 16 = .ok (.invokevirtual 348, 3) := by decide +kernel
theorem dX10_waits_19 : decode cX10_waits 19 = .ok (.istore 5, 2) := by decide +kernel
theorem dX10_waits_21 : decode cX10_waits 21 = .ok (.iload 5, 2) := by decide +kernel
theorem dX10_waits_23 : decode cX10_waits 23 = .ok (.ifCond .ne 24, 3) := by decide +kernel
theorem dX10_waits_26 : decode cX10_waits 26 = .ok (.iload 4, 2) := by decide +kernel
theorem dX10_waits_28 : decode cX10_waits 28 = .ok (.ifCond .eq 12, 3) := by decide +kernel
theorem dX10_waits_31 : decode cX10_waits 31 = .ok (.iload_n 1, 1) := by decide +kernel
theorem dX10_waits_32 : decode cX10_waits 32 = .ok (.iload_n 3, 1) := by decide +kernel
theorem dX10_waits_33 : decode cX10_waits 33 = .ok (.iload_n 2, 1) := by decide +kernel
theorem dX10_waits_34 : decode cX10_waits 34 = .ok (.invokestatic 412, 3) := by decide +kernel
theorem dX10_waits_37 : decode cX10_waits 37 = .ok (.goto 9, 3) := by decide +kernel
theorem dX10_waits_40 : decode cX10_waits 40 = .ok (.iload_n 1, 1) := by decide +kernel
theorem dX10_waits_41 : decode cX10_waits 41 = .ok (.iload_n 2, 1) := by decide +kernel
theorem dX10_waits_42 : decode cX10_waits 42 = .ok (.iload_n 3, 1) := by decide +kernel
theorem dX10_waits_43 : decode cX10_waits 43 = .ok (.invokestatic 412, 3) := by decide +kernel
theorem dX10_waits_46 : decode cX10_waits 46 = .ok (.ireturn, 1) := by decide +kernel
theorem dX10_waits_47 : decode cX10_waits 47 = .ok (.aload_n 0, 1) := by decide +kernel
theorem dX10_waits_48 : decode cX10_waits 48 = .ok (.iload 5, 2) := by decide +kernel
theorem dX10_waits_50 : decode cX10_waits 50 = .ok (.putfield 68, 3) := by decide +kernel
theorem dX10_waits_53 : decode cX10_waits 53 = .ok (.bipush (-100), 2) := by decide +kernel
theorem dX10_waits_55 : decode cX10_waits 55 = .ok (.ireturn, 1) := by decide +kernel
theorem dX10_seekRests_0 : decode cX10_seekRests 0 = .ok (.iconst 0, 1) := by decide +kernel
theorem dX10_seekRests_1 : decode cX10_seekRests 1 = .ok (.istore_n 2, 1) := by decide +kernel
theorem dX10_seekRests_2 : decode cX10_seekRests 2 = .ok (.aload_n 0, 1) := by decide +kernel
theorem dX10_seekRests_3 : decode cX10_seekRests 3 = .ok (.bipush (-2), 2) := by decide +kernel
theorem dX10_seekRests_5 : decode cX10_seekRests 5 = .ok (.putfield 416, 3) := by decide +kernel
theorem dX10_seekRests_8 : decode cX10_seekRests 8 = .ok (.iconst 0, 1) := by decide +kernel
theorem dX10_seekRests_9 : decode cX10_seekRests 9 = .ok (.istore_n 3, 1) := by decide +kernel
theorem dX10_seekRests_10 : decode cX10_seekRests 10 = .ok (.iload_n 3, 1) := by decide +kernel
theorem dX10_seekRests_11 : decode cX10_seekRests 11 = .ok (.iconst 4, 1) := by decide +kernel
theorem dX10_seekRests_12 : decode cX10_seekRests 12 = .ok (.if_icmp .ge 113, 3) := by decide +kernel
theorem dX10_seekRests_15 : decode cX10_seekRests 15 = .ok (.iload_n 3, 1) := by decide +kernel
theorem dX10_seekRests_16 : decode cX10_seekRests 16 = .ok (.iconst 1, 1) := by decide +kernel
theorem dX10_seekRests_17 : decode cX10_seekRests 17 = .ok (.if_icmp .le 7, 3) := by decide +kernel
theorem dX10_seekRests_20 : decode cX10_seekRests 20 = .ok (.iconst 1, 1) := by decide +kernel
theorem dX10_seekRests_21 : decode cX10_seekRests 21 = .ok (.goto 4, 3) := by decide +kernel
theorem dX10_seekRests_24 : decode cX10_seekRests 24 = .ok (.iconst 0, 1) := by decide +kernel
theorem dX10_seekRests_25 : decode cX10_seekRests 25 = .ok (.istore 4, 2) := by decide +kernel
theorem dX10_seekRests_27 : decode cX10_seekRests 27 = .ok (.iload_n 3, 1) := by decide +kernel
theorem dX10_seekRests_28 : decode cX10_seekRests 28 = .ok (.iconst 2, 1) := by decide +kernel
theorem dX10_seekRests_29 : decode cX10_seekRests 29 = .ok (.irem, 1) := by decide +kernel
theorem dX10_seekRests_30 : decode cX10_seekRests 30 = .ok (.iconst 1, 1) := by decide +kernel
theorem dX10_seekRests_31 : decode cX10_seekRests 31 = .ok (.if_icmp .ne 7, 3) := by decide +kernel
theorem dX10_seekRests_34 : decode cX10_seekRests 34 = .ok (.iconst 1, 1) := by decide +kernel
theorem dX10_seekRests_35 : decode cX10_seekRests 35 = .ok (.goto 4, 3) := by decide +kernel
theorem dX10_seekRests_38 : decode cX10_seekRests 38 = .ok (.iconst 0, 1) := by decide +kernel
theorem dX10_seekRests_39 : decode cX10_seekRests 39 = .ok (.istore 5, 2) := by decide +kernel
theorem dX10_seekRests_41 : decode cX10_seekRests 41 = .ok (.iload_n 1, 1) := by decide +kernel
theorem dX10_seekRests_42 : decode cX10_seekRests 42 = .ok (.iload 4, 2) := by decide +kernel
theorem dX10_seekRests_44 : decode cX10_seekRests 44 = .ok (.ifCond .ne 7, 3) := by decide +kernel
theorem dX10_seekRests_47 : decode cX10_seekRests 47 = .ok (.iconst 1, 1) := by decide +kernel
theorem dX10_seekRests_48 : decode cX10_seekRests 48 = .ok (.goto 4, 3) := by decide +kernel
theorem dX10_seekRests_51 : decode cX10_seekRests 51 = .ok (.iconst 0, 1) := by decide +kernel
theorem dX10_seekRests_52 : decode cX10_seekRests 52 = .ok (.iload 5, 2) := by decide +kernel
theorem dX10_seekRests_54 : decode cX10_seekRests 54 = .ok (.invokestatic 412, 3) := by decide +kernel
theorem dX10_seekRests_57 : decode cX10_seekRests 57 = .ok (.iload_n 1, 1) := by decide +kernel
theorem dX10_seekRests_58 : decode cX10_seekRests 58 = .ok (.iload 4, 2) := by decide +kernel
theorem dX10_seekRests_60 : decode cX10_seekRests 60 = .ok (.iload 5, 2) := by decide +kernel
theorem dX10_seekRests_62 : decode cX10_seekRests 62 = .ok (.invokestatic 412, 3) := by decide +kernel
theorem dX10_seekRests_65 : decode cX10_seekRests 65 = .ok (.if_icmp .gt 54, 3) := by decide +kernel
theorem dX10_seekRests_68 : decode cX10_seekRests 68 = .ok (.iload_n 1, 1) := by decide +kernel
theorem dX10_seekRests_69 : decode cX10_seekRests 69 = .ok (.iload 5, 2) := by decide +kernel
theorem dX10_seekRests_71 : decode cX10_seekRests 71 = .ok (.ifCond .ne 7, 3) := by decide +kernel
theorem dX10_seekRests_74 : decode cX10_seekRests 74 = .ok (.iconst 1, 1) := by decide +kernel
theorem dX10_seekRests_75 : decode cX10_seekRests 75 = .ok (.goto 4, 3) := by decide +kernel
theorem dX10_seekRests_78 : decode cX10_seekRests 78 = .ok (.iconst 0, 1) := by decide +kernel
theorem dX10_seekRests_79 : decode cX10_seekRests 79 = .ok (.iload 4, 2) := by decide +kernel
theorem dX10_seekRests_81 : decode cX10_seekRests 81 = .ok (.invokestatic 412, 3) := by decide +kernel
theorem dX10_seekRests_84 : decode cX10_seekRests 84 = .ok (.iload_n 1, 1) := by decide +kernel
theorem dX10_seekRests_85 : decode cX10_seekRests 85 = .ok (.iload 5, 2) := by decide +kernel
theorem dX10_seekRests_87 : decode cX10_seekRests 87 = .ok (.iload 4, 2) := by decide +kernel
theorem dX10_seekRests_89 : decode cX10_seekRests 89 = .ok (.invokestatic 412, 3) := by decide +kernel
theorem dX10_seekRests_92 : decode cX10_seekRests 92 = .ok (.if_icmp .le 6, 3) := by decide +kernel
theorem dX10_seekRests_95 : decode cX10_seekRests 95 = .ok (.goto 24, 3) := by decide +kernel
theorem dX10_seekRests_98 : decode cX10_seekRests 98 = .ok (.iload_n 2, 1) := by decide +kernel
theorem dX10_seekRests_99 : decode cX10_seekRests 99 = .ok (.ifCond .ne 17, 3) := by decide +kernel
theorem dX10_seekRests_102 : decode cX10_seekRests 102 = .ok (.aload_n 0, 1) := by decide +kernel
theorem dX10_seekRests_103 : decode cX10_seekRests 103 = .ok (.bipush 10, 2) := by decide +kernel
theorem dX10_seekRests_105 : decode cX10_seekRests 105 = .ok (.iload_n 3, 1) := by decide +kernel
theorem dX10_seekRests_106 : decode cX10_seekRests 106 = .ok (.iconst 2, 1) := by decide +kernel
theorem dX10_seekRests_107 : decode cX10_seekRests 107 = .ok (.idiv, 1) := by decide +kernel
theorem dX10_seekRests_108 : decode cX10_seekRests 108 = .ok (.imul, 1) := by decide +kernel
theorem dX10_seekRests_109 : decode cX10_seekRests 109 = .ok (.iload_n 3, 1) := by decide +kernel
theorem dX10_seekRests_110 : decode cX10_seekRests 110 = .ok (.iconst 2, 1) := by decide +kernel
theorem dX10_seekRests_111 : decode cX10_seekRests 111 = .ok (.irem, 1) := by decide +kernel
theorem dX10_seekRests_112 : decode cX10_seekRests 112 = .ok (.iadd, 1) := by decide +kernel
theorem dX10_seekRests_113 : decode cX10_seekRests 113 = .ok (.putfield 416, 3) := by decide +kernel
theorem dX10_seekRests_116 : decode cX10_seekRests 116 = .ok (.iinc 2 1, 3) := by decide +kernel
theorem dX10_seekRests_119 : decode cX10_seekRests 119 = .ok (.iinc 3 1, 3) := by decide +kernel
theorem dX10_seekRests_122 : decode cX10_seekRests 122 = .ok (.goto (-112), 3) := by decide +kernel
theorem dX10_seekRests_125 : decode cX10_seekRests 125 = .ok (.iload_n 2, 1) := by decide +kernel
theorem dX10_seekRests_126 : decode cX10_seekRests 126 = .ok (.ireturn, 1) := by decide +kernel
theorem dX10_rests_0 : decode cX10_rests 0 = .ok (.aload_n 0, 1) := by decide +kernel
theorem dX10_rests_1 : decode cX10_rests 1 = .ok (.invokevirtual 247, 3) := by decide +kernel
theorem dX10_rests_4 : decode cX10_rests 4 = .ok (.aload_n 0, 1) := by decide +kernel
theorem dX10_rests_5 : decode cX10_rests 5 = .ok (.aload_n 0, 1) := by decide +kernel
theorem dX10_rests_6 : decode cX10_rests 6 = .ok (.getfield 260, 3) := by decide +kernel
theorem dX10_rests_9 : decode cX10_rests 9 = .ok (.iload_n 1, 1) := by decide +kernel
theorem dX10_rests_10 : decode cX10_rests 10 = .ok (.iconst 0, 1) := by decide +kernel
theorem dX10_rests_11 : decode cX10_rests 11 = .ok (.bipush 9, 2) := by decide +kernel
theorem dX10_rests_13 : decode cX10_rests 13 = .ok (.invokestatic 81, 3) := by decide +kernel
theorem dX10_rests_16 : decode cX10_rests 16 = .ok (.invokevirtual 348, 3) := by decide +kernel
theorem dX10_rests_19 : decode cX10_rests 19 = .ok (.istore_n 2, 1) := by decide +kernel
theorem dX10_rests_20 : decode cX10_rests 20 = .ok (.iload_n 2, 1) := by decide +kernel
theorem dX10_rests_21 : decode cX10_rests 21 = .ok (.ifCond .eq 11, 3) := by decide +kernel
theorem dX10_rests_24 : decode cX10_rests 24 = .ok (.aload_n 0, 1) := by decide +kernel
theorem dX10_rests_25 : decode cX10_rests 25 = .ok (.iload_n 2, 1) := by decide +kernel
theorem dX10_rests_26 : decode cX10_rests 26 = .ok (.invokevirtual 250, 3) := by decide +kernel
theorem dX10_rests_29 : decode cX10_rests 29 = .ok (.goto 8, 3) := by decide +kernel
theorem dX10_rests_32 : decode cX10_rests 32 = .ok (.aload_n 0, 1) := by decide +kernel
theorem dX10_rests_33 : decode cX10_rests 33 = .ok (.iload_n 1, 1) := by decide +kernel
theorem dX10_rests_34 : decode cX10_rests 34 = .ok (.invokevirtual 419, 3) := by decide +kernel
theorem dX10_rests_37 : decode cX10_rests 37 = .ok (.ireturn, 1) := by decide +kernel
theorem dX10_rest_0 : decode cX10_rest 0 = .ok (.aload_n 0, 1) := by decide +kernel
theorem dX10_rest_1 : decode cX10_rest 1 = .ok (.invokevirtual 247, 3) := by decide +kernel
theorem dX10_rest_4 : decode cX10_rest 4 = .ok (.aload_n 0, 1) := by decide +kernel
theorem dX10_rest_5 : decode cX10_rest 5 = .ok (.aload_n 0, 1) := by decide +kernel
theorem dX10_rest_6 : decode cX10_rest 6 = .ok (.getfield 260, 3) := by decide +kernel
theorem dX10_rest_9 : decode cX10_rest 9 = .ok (.iload_n 1, 1) := by decide +kernel
theorem dX10_rest_10 : decode cX10_rest 10 = .ok (.iconst 0, 1) := by decide +kernel
theorem dX10_rest_11 : decode cX10_rest 11 = .ok (.bipush 9, 2) := by decide +kernel
theorem dX10_rest_13 : decode cX10_rest 13 = .ok (.invokestatic 81, 3) := by decide +kernel
theorem dX10_rest_16 : decode cX10_rest 16 = .ok (.invokevirtual 348, 3) := by decide +kernel
theorem dX10_rest_19 : decode cX10_rest 19 = .ok (.istore_n 2, 1) := by decide +kernel
theorem dX10_rest_20 : decode cX10_rest 20 = .ok (.iload_n 2, 1) := by decide +kernel
theorem dX10_rest_21 : decode cX10_rest 21 = .ok (.ifCond .eq 9, 3) := by decide +kernel
theorem dX10_rest_24 : decode cX10_rest 24 = .ok (.aload_n 0, 1) := by decide +kernel
theorem dX10_rest_25 : decode cX10_rest 25 = .ok (.iload_n 2, 1) := by decide +kernel
theorem dX10_rest_26 : decode cX10_rest 26 = .ok (.invokevirtual 250, 3) := by decide +kernel
theorem dX10_rest_29 : decode cX10_rest 29 = .ok (.ireturn, 1) := by decide +kernel
theorem dX10_rest_30 : decode cX10_rest 30 = .ok (.aload_n 0, 1) := by decide +kernel
theorem dX10_rest_31 : decode cX10_rest 31 = .ok (.iload_n 1, 1) := by decide +kernel
theorem dX10_rest_32 : decode cX10_rest 32 = .ok (.invokevirtual 419, 3) := by decide +kernel
theorem dX10_rest_35 : decode cX10_rest 35 = .ok (.pop, 1) := by decide +kernel
theorem dX10_rest_36 : decode cX10_rest 36 = .ok (.aload_n 0, 1) := by decide +kernel
theorem dX10_rest_37 : decode cX10_rest 37 = .ok (.getfield 416, 3) := by decide +kernel
theorem dX10_rest_40 : decode cX10_rest 40 = .ok (.ireturn, 1) := by decide +kernel
theorem dX10_crashOn_0 : decode cX10_crashOn 0 = .ok (.aload_n 0, 1) := by decide +kernel
theorem dX10_crashOn_1 : decode cX10_crashOn 1 = .ok (.getfield 38, 3) := by decide +kernel
theorem dX10_crashOn_4 : decode cX10_crashOn 4 = .ok (.iconst 0, 1) := by decide +kernel
theorem dX10_crashOn_5 : decode cX10_crashOn 5 = .ok (.aload_n 0, 1) := by decide +kernel
theorem dX10_crashOn_6 : decode cX10_crashOn 6 = .ok (.getfield 41, 3) := by decide +kernel
theorem dX10_crashOn_9 : decode cX10_crashOn 9 = .ok (.iconst 0, 1) := by decide +kernel
theorem dX10_crashOn_10 : decode cX10_crashOn 10 = .ok (.sipush 325, 3) := by decide +kernel
theorem dX10_crashOn_13 : decode cX10_crashOn 13 = .ok (.invokestatic 256, 3) := by decide +kernel
theorem dX10_crashOn_16 : decode cX10_crashOn 16 = .ok (.iconst 0, 1) := by decide +kernel
theorem dX10_crashOn_17 : decode cX10_crashOn 17 = .ok (.istore_n 2, 1) := by decide +kernel
theorem dX10_crashOn_18 : decode cX10_crashOn 18 = .ok (.iload_n 2, 1) := by decide +kernel
theorem dX10_crashOn_19 : decode cX10_crashOn 19 = .ok (.bipush 6, 2) := by decide +kernel
theorem dX10_crashOn_21 : decode cX10_crashOn 21 = .ok (.if_icmp .ge 53, 3) := by decide +kernel
theorem dX10_crashOn_24 : decode cX10_crashOn 24 = .ok (.aload_n 0, 1) := by decide +kernel
theorem dX10_crashOn_25 : decode cX10_crashOn 25 = .ok (.aload_n 0, 1) := by decide +kernel
theorem dX10_crashOn_26 : decode cX10_crashOn 26 = .ok (.getfield 38, 3) := by decide +kernel
theorem dX10_crashOn_29 : decode cX10_crashOn 29 = .ok (.iload_n 2, 1) := by decide +kernel
theorem dX10_crashOn_30 : decode cX10_crashOn 30 = .ok (.invokevirtual 116, 3) := by decide +kernel
theorem dX10_crashOn_33 : decode cX10_crashOn 33 = .ok (.ifCond .eq 35, 3) := by decide +kernel
theorem dX10_crashOn_36 : decode cX10_crashOn 36 = .ok (.aload_n 0, 1) := by decide +kernel
theorem dX10_crashOn_37 : decode cX10_crashOn 37 = .ok (.aload_n 0, 1) := by decide +kernel
theorem dX10_crashOn_38 : decode cX10_crashOn 38 = .ok (.getfield 41, 3) := by decide +kernel
theorem dX10_crashOn_41 : decode cX10_crashOn 41 = .ok (.iload_n 2, 1) := by decide +kernel
theorem dX10_crashOn_42 : decode cX10_crashOn 42 = .ok (.iload_n 1, 1) := by decide +kernel
theorem dX10_crashOn_43 : decode cX10_crashOn 43 = .ok (.aload_n 0, 1) := by decide +kernel
theorem dX10_crashOn_44 : decode cX10_crashOn 44 = .ok (.getfield 38, 3) := by decide +kernel
theorem dX10_crashOn_47 : decode cX10_crashOn 47 = .ok (.sipush 310, 3) := by decide +kernel
theorem dX10_crashOn_50 : decode cX10_crashOn 50 = .ok (.iaload, 1) := by decide +kernel
theorem dX10_crashOn_51 : decode cX10_crashOn 51 = .ok (.ior, 1) := by decide +kernel
theorem dX10_crashOn_52 : decode cX10_crashOn 52 = .ok (.iload_n 2, 1) := by decide +kernel
theorem dX10_crashOn_53 : decode cX10_crashOn 53 = .ok (.invokestatic 85, 3) := by decide +kernel
theorem dX10_crashOn_56 : decode cX10_crashOn 56 = .ok (.ifCond .eq 7, 3) := by decide +kernel
theorem dX10_crashOn_59 : decode cX10_crashOn 59 = .ok (.iconst 3, 1) := by decide +kernel
theorem dX10_crashOn_60 : decode cX10_crashOn 60 = .ok (.goto 4, 3) := by decide +kernel
theorem dX10_crashOn_63 : decode cX10_crashOn 63 = .ok (.iconst 2, 1) := by decide +kernel
theorem dX10_crashOn_64 : decode cX10_crashOn 64 = .ok (.invokevirtual 336, 3) := by decide +kernel
theorem dX10_crashOn_67 : decode cX10_crashOn 67 = .ok (.pop, 1) := by decide +kernel
theorem dX10_crashOn_68 : decode cX10_crashOn 68 = .ok (.iinc 2 1, 3) := by decide +kernel
theorem dX10_crashOn_71 : decode cX10_crashOn 71 = .ok (.goto (-53), 3) := by decide +kernel
theorem dX10_crashOn_74 : decode cX10_crashOn 74 = .ok (.return_, 1) := by decide +kernel
theorem dX10_tryCrash_0 : decode cX10_tryCrash 0 = .ok (.aload_n 0, 1) := by decide +kernel
theorem dX10_tryCrash_1 : decode cX10_tryCrash 1 = .ok (.lconst 0, 1) := by decide +kernel
theorem dX10_tryCrash_2 : decode cX10_tryCrash 2 = .ok (.putfield 422, 3) := by decide +kernel
theorem dX10_tryCrash_5 : decode cX10_tryCrash 5 = .ok (.aload_n 0, 1) := by decide +kernel
theorem dX10_tryCrash_6 : decode cX10_tryCrash 6 = .ok (.lconst 0, 1) := by decide +kernel
theorem dX10_tryCrash_7 : decode cX10_tryCrash 7 = .ok (.putfield 426, 3) := by decide +kernel
theorem dX10_tryCrash_10 : decode cX10_tryCrash 10 = .ok (.aload_n 0, 1) := by decide +kernel
theorem dX10_tryCrash_11 : decode cX10_tryCrash 11 = .ok (.lconst 0, 1) := by decide +kernel
theorem dX10_tryCrash_12 : decode cX10_tryCrash 12 = .ok (.putfield 429, 3) := by decide +kernel
theorem dX10_tryCrash_15 : decode cX10_tryCrash 15 = .ok (.iconst 0, 1) := by decide +kernel
theorem dX10_tryCrash_16 : decode cX10_tryCrash 16 = .ok (.istore_n 3, 1) := by decide +kernel
theorem dX10_tryCrash_17 : decode cX10_tryCrash 17 = .ok (.iload_n 3, 1) := by decide +kernel
theorem dX10_tryCrash_18 : decode cX10_tryCrash 18 = .ok (.bipush 64, 2) := by decide +kernel
theorem dX10_tryCrash_20 : decode cX10_tryCrash 20 = .ok (.if_icmp .ge 211, 3) := by decide +kernel
theorem dX10_tryCrash_23 : decode cX10_tryCrash 23 = .ok (.lconst 1, 1) := by decide +kernel
theorem dX10_tryCrash_24 : decode cX10_tryCrash 24 = .ok (.lstore 4, 2) := by decide +kernel
theorem dX10_tryCrash_26 : decode cX10_tryCrash 26 = .ok (.iconst 1, 1) := by decide +kernel
theorem dX10_tryCrash_27 : decode cX10_tryCrash 27 = .ok (.istore 6, 2) := by decide +kernel
theorem dX10_tryCrash_29 : decode cX10_tryCrash 29 = .ok (.iconst 0, 1) := by decide +kernel
theorem dX10_tryCrash_30 : decode cX10_tryCrash 30 = .ok (.istore 7, 2) := by decide +kernel
theorem dX10_tryCrash_32 : decode cX10_tryCrash 32 = .ok (.iload 7, 2) := by decide +kernel
theorem dX10_tryCrash_34 : decode cX10_tryCrash 34 = .ok (.bipush 6, 2) := by decide +kernel
theorem dX10_tryCrash_36 : decode cX10_tryCrash 36 = .ok (.if_icmp .ge 110, 3) := by decide +kernel
theorem dX10_tryCrash_39 : decode cX10_tryCrash 39 = .ok (.aload_n 0, 1) := by decide +kernel
theorem dX10_tryCrash_40 : decode cX10_tryCrash 40 = .ok (.aload_n 0, 1) := by decide +kernel
theorem dX10_tryCrash_41 : decode cX10_tryCrash 41 = .ok (.getfield 38, 3) := by decide +kernel
theorem dX10_tryCrash_44 : decode cX10_tryCrash 44 = .ok (.iload 7, 2) := by decide +kernel
theorem dX10_tryCrash_46 : decode cX10_tryCrash 46 = .ok (.invokevirtual 116, 3) := by decide +kernel
theorem dX10_tryCrash_49 : decode cX10_tryCrash 49 = .ok (.ifCond .eq 23, 3) := by decide +kernel
theorem dX10_tryCrash_52 : decode cX10_tryCrash 52 = .ok (.aload_n 0, 1) := by decide +kernel
theorem dX10_tryCrash_53 : decode cX10_tryCrash 53 = .ok (.getfield 38, 3) := by decide +kernel
theorem dX10_tryCrash_56 : decode cX10_tryCrash 56 = .ok (.sipush 310, 3) := by decide +kernel
theorem dX10_tryCrash_59 : decode cX10_tryCrash 59 = .ok (.iaload, 1) := by decide +kernel
theorem dX10_tryCrash_60 : decode cX10_tryCrash 60 = .ok (.iload 7, 2) := by decide +kernel
theorem dX10_tryCrash_62 : decode cX10_tryCrash 62 = .ok (.invokestatic 85, 3) := by decide +kernel
theorem dX10_tryCrash_65 : decode cX10_tryCrash 65 = .ok (.ifCond .ne 7, 3) := by decide +kernel
theorem dX10_tryCrash_68 : decode cX10_tryCrash 68 = .ok (.iconst 1, 1) := by decide +kernel
theorem dX10_tryCrash_69 : decode cX10_tryCrash 69 = .ok (.goto 4, 3) := by decide +kernel
theorem dX10_tryCrash_72 : decode cX10_tryCrash 72 = .ok (.iconst 0, 1) := by decide +kernel
theorem dX10_tryCrash_73 : decode cX10_tryCrash 73 = .ok (.istore 8, 2) := by decide +kernel
theorem dX10_tryCrash_75 : decode cX10_tryCrash 75 = .ok (.iload 6, 2) := by decide +kernel
theorem dX10_tryCrash_77 : decode cX10_tryCrash 77 = .ok (.ifCond .eq 21, 3) := by decide +kernel
theorem dX10_tryCrash_80 : decode cX10_tryCrash 80 = .ok (.iload 8, 2) := by decide +kernel
theorem dX10_tryCrash_82 : decode cX10_tryCrash 82 = .ok (.ifCond .ne 12, 3) := by decide +kernel
theorem dX10_tryCrash_85 : decode cX10_tryCrash 85 = .ok (.iload_n 3, 1) := by decide +kernel
theorem dX10_tryCrash_86 : decode cX10_tryCrash 86 = .ok (.iload 7, 2) := by decide +kernel
theorem dX10_tryCrash_88 : decode cX10_tryCrash 88 = .ok (.invokestatic 85, 3) := by decide +kernel
theorem dX10_tryCrash_91 : decode cX10_tryCrash 91 = .ok (.ifCond .ne 7, 3) := by decide +kernel
theorem dX10_tryCrash_94 : decode cX10_tryCrash 94 = .ok (.iconst 1, 1) := by decide +kernel
theorem dX10_tryCrash_95 : decode cX10_tryCrash 95 = .ok (.goto 4, 3) := by decide +kernel
theorem dX10_tryCrash_98 : decode cX10_tryCrash 98 = .ok (.iconst 0, 1) := by decide +kernel
theorem dX10_tryCrash_99 : decode cX10_tryCrash 99 = .ok (.istore 6, 2) := by decide +kernel
theorem dX10_tryCrash_101 : decode cX10_tryCrash 101 = .ok (.iload 8, 2) := by decide +kernel
theorem dX10_tryCrash_103 : decode cX10_tryCrash 103 = .ok (.ifCond .eq 37, 3) := by decide +kernel
theorem dX10_tryCrash_106 : decode cX10_tryCrash 106 = .ok (.lload 4, 2) := by decide +kernel
theorem dX10_tryCrash_108 : decode cX10_tryCrash 108 = .ok (.iload_n 3, 1) := by decide +kernel
theorem dX10_tryCrash_109 : decode cX10_tryCrash 109 = .ok (.iload 7, 2) := by decide +kernel
theorem dX10_tryCrash_111 : decode cX10_tryCrash 111 = .ok (.invokestatic 85, 3) := by decide +kernel
theorem dX10_tryCrash_114 : decode cX10_tryCrash 114 = .ok (.ifCond .eq 13, 3) := by decide +kernel
theorem dX10_tryCrash_117 : decode cX10_tryCrash 117 = .ok (.aload_n 0, 1) := by decide +kernel
theorem dX10_tryCrash_118 : decode cX10_tryCrash 118 = .ok (.getfield 20, 3) := by decide +kernel
theorem dX10_tryCrash_121 : decode cX10_tryCrash 121 = .ok (.iconst 3, 1) := by decide +kernel
theorem dX10_tryCrash_122 : decode cX10_tryCrash 122 = .ok (.iaload, 1) := by decide +kernel
theorem dX10_tryCrash_123 : decode cX10_tryCrash 123 = .ok (.i2l, 1) := by decide +kernel
theorem dX10_tryCrash_124 : decode cX10_tryCrash 124 = .ok (.goto 13, 3) := by decide +kernel
theorem dX10_tryCrash_127 : decode cX10_tryCrash 127 = .ok (.bipush 100, 2) := by decide +kernel
theorem dX10_tryCrash_129 : decode cX10_tryCrash 129 = .ok (.aload_n 0, 1) := by decide +kernel
theorem dX10_tryCrash_130 : decode cX10_tryCrash 130 = .ok (.getfield 20, 3) := by decide +kernel
theorem dX10_tryCrash_133 : decode cX10_tryCrash 133 = .ok (.iconst 3, 1) := by decide +kernel
theorem dX10_tryCrash_134 : decode cX10_tryCrash 134 = .ok (.iaload, 1) := by decide +kernel
theorem dX10_tryCrash_135 : decode cX10_tryCrash 135 = .ok (.isub, 1) := by decide +kernel
theorem dX10_tryCrash_136 : decode cX10_tryCrash 136 = .ok (.i2l, 1) := by decide +kernel
theorem dX10_tryCrash_137 : decode cX10_tryCrash 137 = .ok (.lmul, 1) := by decide +kernel
theorem dX10_tryCrash_138 : decode cX10_tryCrash 138 = .ok (.lstore 4, 2) := by decide +kernel
theorem dX10_tryCrash_140 : decode cX10_tryCrash 140 = .ok (.iinc 7 1, 3) := by decide +kernel
theorem dX10_tryCrash_143 : decode cX10_tryCrash 143 = .ok (.goto (-111), 3) := by decide +kernel
theorem dX10_tryCrash_146 : decode cX10_tryCrash 146 = .ok (.iload 6, 2) := by decide +kernel
theorem dX10_tryCrash_148 : decode cX10_tryCrash 148 = .ok (.ifCond .ne 6, 3) := by decide +kernel
theorem dX10_tryCrash_151 : decode cX10_tryCrash 151 = .ok (.goto 74, 3) := by decide +kernel
theorem dX10_tryCrash_154 : decode cX10_tryCrash 154 = .ok (.aload_n 0, 1) := by decide +kernel
theorem dX10_tryCrash_155 : decode cX10_tryCrash 155 = .ok (.iload_n 3, 1) := by decide +kernel
theorem dX10_tryCrash_156 : decode cX10_tryCrash 156 = .ok (.invokevirtual 432, 3) := by decide +kernel
theorem dX10_tryCrash_159 : decode cX10_tryCrash 159 = .ok (.aload_n 0, 1) := by decide +kernel
theorem dX10_tryCrash_160 : decode cX10_tryCrash 160 = .ok (.dup, 1) := by decide +kernel
theorem dX10_tryCrash_161 : decode cX10_tryCrash 161 = .ok (.getfield 422, 3) := by decide +kernel
theorem dX10_tryCrash_164 : decode cX10_tryCrash 164 = .ok (.lload 4, 2) := by decide +kernel
theorem dX10_tryCrash_166 : decode cX10_tryCrash 166 = .ok (.ladd, 1) := by decide +kernel
theorem dX10_tryCrash_167 : decode cX10_tryCrash 167 = .ok (.putfield 422, 3) := by decide +kernel
theorem dX10_tryCrash_170 : decode cX10_tryCrash 170 = .ok (.aload_n 0, 1) := by decide +kernel
theorem dX10_tryCrash_171 : decode cX10_tryCrash 171 = .ok (.dup, 1) := by decide +kernel
theorem dX10_tryCrash_172 : decode cX10_tryCrash 172 = .ok (.getfield 426, 3) := by decide +kernel
theorem dX10_tryCrash_175 : decode cX10_tryCrash 175 = .ok (.iload_n 1, 1) := by decide +kernel
theorem dX10_tryCrash_176 : decode cX10_tryCrash 176 = .ok (.ifCond .lt 22, 3) := by decide +kernel
theorem dX10_tryCrash_179 : decode cX10_tryCrash 179 = .ok (.aload_n 0, 1) := by decide +kernel
theorem dX10_tryCrash_180 : decode cX10_tryCrash 180 = .ok (.aload_n 0, 1) := by decide +kernel
theorem dX10_tryCrash_181 : decode cX10_tryCrash 181 = .ok (.getfield 41, 3) := by decide +kernel
theorem dX10_tryCrash_184 : decode cX10_tryCrash 184 = .ok (.iconst (-1), 1) := by decide +kernel
theorem dX10_tryCrash_185 : decode cX10_tryCrash 185 = .ok (.iload_n 1, 1) := by decide +kernel
theorem dX10_tryCrash_186 : decode cX10_tryCrash 186 = .ok (.invokevirtual 376, 3) := by decide +kernel
theorem dX10_tryCrash_189 : decode cX10_tryCrash 189 = .ok (.iload_n 2, 1) := by decide +kernel
theorem dX10_tryCrash_190 : decode cX10_tryCrash 190 = .ok (.if_icmp .ne 8, 3) := by decide +kernel
theorem dX10_tryCrash_193 : decode cX10_tryCrash 193 = .ok (.lload 4, 2) := by decide +kernel
theorem dX10_tryCrash_195 : decode cX10_tryCrash 195 = .ok (.goto 4, 3) := by decide +kernel
theorem dX10_tryCrash_198 : decode cX10_tryCrash 198 = .ok (.lconst 0, 1) := by decide +kernel
theorem dX10_tryCrash_199 : decode cX10_tryCrash 199 = .ok (.ladd, 1) := by decide +kernel
theorem dX10_tryCrash_200 : decode cX10_tryCrash 200 = .ok (.putfield 426, 3) := by decide +kernel
theorem dX10_tryCrash_203 : decode cX10_tryCrash 203 = .ok (.aload_n 0, 1) := by decide +kernel
theorem dX10_tryCrash_204 : decode cX10_tryCrash 204 = .ok (.dup, 1) := by decide +kernel
theorem dX10_tryCrash_205 : decode cX10_tryCrash 205 = .ok (.getfield 429, 3) := by decide +kernel
theorem dX10_tryCrash_208 : decode cX10_tryCrash 208 = .ok (.lload 4, 2) := by decide +kernel
theorem dX10_tryCrash_210 : decode cX10_tryCrash 210 = .ok (.aload_n 0, 1) := by decide +kernel
theorem dX10_tryCrash_211 : decode cX10_tryCrash 211 = .ok (.aload_n 0, 1) := by decide +kernel
theorem dX10_tryCrash_212 : decode cX10_tryCrash 212 = .ok (.getfield 41, 3) := by decide +kernel
theorem dX10_tryCrash_215 : decode cX10_tryCrash 215 = .ok (.iconst (-1), 1) := by decide +kernel
theorem dX10_tryCrash_216 : decode cX10_tryCrash 216 = .ok (.invokevirtual 379, 3) := by decide +kernel
theorem dX10_tryCrash_219 : decode cX10_tryCrash 219 = .ok (.i2l, 1) := by decide +kernel
theorem dX10_tryCrash_220 : decode cX10_tryCrash 220 = .ok (.lmul, 1) := by decide +kernel
theorem dX10_tryCrash_221 : decode cX10_tryCrash 221 = .ok (.ladd, 1) := by decide +kernel
theorem dX10_tryCrash_222 : decode cX10_tryCrash 222 = .ok (.putfield 429, 3) := by decide +kernel
theorem dX10_tryCrash_225 : decode cX10_tryCrash 225 = .ok (.iinc 3 1, 3) := by decide +kernel
theorem dX10_tryCrash_228 : decode cX10_tryCrash 228 = .ok (.goto (-211), 3) := by decide +kernel
theorem dX10_tryCrash_231 : decode cX10_tryCrash 231 = .ok (.return_, 1) := by decide +kernel
theorem dX10_odds_0 : decode cX10_odds 0 = .ok (.aload_n 0, 1) := by decide +kernel
theorem dX10_odds_1 : decode cX10_odds 1 = .ok (.invokevirtual 247, 3) := by decide +kernel
theorem dX10_odds_4 : decode cX10_odds 4 = .ok (.aload_n 0, 1) := by decide +kernel
theorem dX10_odds_5 : decode cX10_odds 5 = .ok (.aload_n 0, 1) := by decide +kernel
theorem dX10_odds_6 : decode cX10_odds 6 = .ok (.iload_n 1, 1) := by decide +kernel
theorem dX10_odds_7 : decode cX10_odds 7 = .ok (.invokevirtual 370, 3) := by decide +kernel
theorem dX10_odds_10 : decode cX10_odds 10 = .ok (.iload_n 2, 1) := by decide +kernel
theorem dX10_odds_11 : decode cX10_odds 11 = .ok (.iconst 0, 1) := by decide +kernel
theorem dX10_odds_12 : decode cX10_odds 12 = .ok (.sipush 999, 3) := by decide +kernel
theorem dX10_odds_15 : decode cX10_odds 15 = .ok (.invokestatic 81, 3) := by decide +kernel
theorem dX10_odds_18 : decode cX10_odds 18 = .ok (.invokevirtual 348, 3) := by decide +kernel
theorem dX10_odds_21 : decode cX10_odds 21 = .ok (.istore 4, 2) := by decide +kernel
theorem dX10_odds_23 : decode cX10_odds 23 = .ok (.iload 4, 2) := by decide +kernel
theorem dX10_odds_25 : decode cX10_odds 25 = .ok (.ifCond .eq 11, 3) := by decide +kernel
theorem dX10_odds_28 : decode cX10_odds 28 = .ok (.aload_n 0, 1) := by decide +kernel
theorem dX10_odds_29 : decode cX10_odds 29 = .ok (.iload 4, 2) := by decide +kernel
theorem dX10_odds_31 : decode cX10_odds 31 = .ok (.invokevirtual 250, 3) := by decide +kernel
theorem dX10_odds_34 : decode cX10_odds 34 = .ok (.i2l, 1) := by decide +kernel
theorem dX10_odds_35 : decode cX10_odds 35 = .ok (.lreturn, 1) := by decide +kernel
theorem dX10_odds_36 : decode cX10_odds 36 = .ok (.aload_n 0, 1) := by decide +kernel
theorem dX10_odds_37 : decode cX10_odds 37 = .ok (.iload_n 1, 1) := by decide +kernel
theorem dX10_odds_38 : decode cX10_odds 38 = .ok (.iload_n 2, 1) := by decide +kernel
theorem dX10_odds_39 : decode cX10_odds 39 = .ok (.invokevirtual 435, 3) := by decide +kernel
theorem dX10_odds_42 : decode cX10_odds 42 = .ok (.aload_n 0, 1) := by decide +kernel
theorem dX10_odds_43 : decode cX10_odds 43 = .ok (.getfield 426, 3) := by decide +kernel
theorem dX10_odds_46 : decode cX10_odds 46 = .ok (.aload_n 0, 1) := by decide +kernel
theorem dX10_odds_47 : decode cX10_odds 47 = .ok (.getfield 422, 3) := by decide +kernel
theorem dX10_odds_50 : decode cX10_odds 50 = .ok (.iload_n 3, 1) := by decide +kernel
theorem dX10_odds_51 : decode cX10_odds 51 = .ok (.invokestatic 438, 3) := by decide +kernel
theorem dX10_odds_54 : decode cX10_odds 54 = .ok (.lreturn, 1) := by decide +kernel
theorem dX10_mean_0 : decode cX10_mean 0 = .ok (.aload_n 0, 1) := by decide +kernel
theorem dX10_mean_1 : decode cX10_mean 1 = .ok (.invokevirtual 247, 3) := by decide +kernel
theorem dX10_mean_4 : decode cX10_mean 4 = .ok (.aload_n 0, 1) := by decide +kernel
theorem dX10_mean_5 : decode cX10_mean 5 = .ok (.getfield 260, 3) := by decide +kernel
theorem dX10_mean_8 : decode cX10_mean 8 = .ok (.ifCond .ne 10, 3) := by decide +kernel
theorem dX10_mean_11 : decode cX10_mean 11 = .ok (.aload_n 0, 1) := by decide +kernel
theorem dX10_mean_12 : decode cX10_mean 12 = .ok (.iconst 1, 1) := by decide +kernel
theorem dX10_mean_13 : decode cX10_mean 13 = .ok (.invokevirtual 250, 3) := by decide +kernel
theorem dX10_mean_16 : decode cX10_mean 16 = .ok (.i2l, 1) := by decide +kernel
theorem dX10_mean_17 : decode cX10_mean 17 = .ok (.lreturn, 1) := by decide +kernel
theorem dX10_mean_18 : decode cX10_mean 18 = .ok (.aload_n 0, 1) := by decide +kernel
theorem dX10_mean_19 : decode cX10_mean 19 = .ok (.iconst (-1), 1) := by decide +kernel
theorem dX10_mean_20 : decode cX10_mean 20 = .ok (.iconst 0, 1) := by decide +kernel
theorem dX10_mean_21 : decode cX10_mean 21 = .ok (.invokevirtual 435, 3) := by decide +kernel
theorem dX10_mean_24 : decode cX10_mean 24 = .ok (.aload_n 0, 1) := by decide +kernel
theorem dX10_mean_25 : decode cX10_mean 25 = .ok (.getfield 429, 3) := by decide +kernel
theorem dX10_mean_28 : decode cX10_mean 28 = .ok (.aload_n 0, 1) := by decide +kernel
theorem dX10_mean_29 : decode cX10_mean 29 = .ok (.getfield 422, 3) := by decide +kernel
theorem dX10_mean_32 : decode cX10_mean 32 = .ok (.iload_n 1, 1) := by decide +kernel
theorem dX10_mean_33 : decode cX10_mean 33 = .ok (.invokestatic 438, 3) := by decide +kernel
theorem dX10_mean_36 : decode cX10_mean 36 = .ok (.lreturn, 1) := by decide +kernel
theorem dX10_drawn_0 : decode cX10_drawn 0 = .ok (.aload_n 0, 1) := by decide +kernel
theorem dX10_drawn_1 : decode cX10_drawn 1 = .ok (.invokevirtual 247, 3) := by decide +kernel
theorem dX10_drawn_4 : decode cX10_drawn 4 = .ok (.aload_n 0, 1) := by decide +kernel
theorem dX10_drawn_5 : decode cX10_drawn 5 = .ok (.aload_n 0, 1) := by decide +kernel
theorem dX10_drawn_6 : decode cX10_drawn 6 = .ok (.getfield 260, 3) := by decide +kernel
theorem dX10_drawn_9 : decode cX10_drawn 9 = .ok (.iload_n 1, 1) := by decide +kernel
theorem dX10_drawn_10 : decode cX10_drawn 10 = .ok (.iconst 0, 1) := by decide +kernel
theorem dX10_drawn_11 : decode cX10_drawn 11 = .ok (.ldc_w 442, 3) := by decide +kernel
theorem dX10_drawn_14 : decode cX10_drawn 14 = .ok (.invokestatic 81, 3) := by decide +kernel
theorem dX10_drawn_17 : decode cX10_drawn 17 = .ok (.invokevirtual 348, 3) := by decide +kernel
theorem dX10_drawn_20 : decode cX10_drawn 20 = .ok (.istore_n 2, 1) := by decide +kernel
theorem dX10_drawn_21 : decode cX10_drawn 21 = .ok (.iload_n 2, 1) := by decide +kernel
theorem dX10_drawn_22 : decode cX10_drawn 22 = .ok (.ifCond .eq 9, 3) := by decide +kernel
theorem dX10_drawn_25 : decode cX10_drawn 25 = .ok (.aload_n 0, 1) := by decide +kernel
theorem dX10_drawn_26 : decode cX10_drawn 26 = .ok (.iload_n 2, 1) := by decide +kernel
theorem dX10_drawn_27 : decode cX10_drawn 27 = .ok (.invokevirtual 250, 3) := by decide +kernel
theorem dX10_drawn_30 : decode cX10_drawn 30 = .ok (.ireturn, 1) := by decide +kernel
theorem dX10_drawn_31 : decode cX10_drawn 31 = .ok (.iload_n 1, 1) := by decide +kernel
theorem dX10_drawn_32 : decode cX10_drawn 32 = .ok (.istore_n 3, 1) := by decide +kernel
theorem dX10_drawn_33 : decode cX10_drawn 33 = .ok (.iconst 0, 1) := by decide +kernel
theorem dX10_drawn_34 : decode cX10_drawn 34 = .ok (.istore 4, 2) := by decide +kernel
theorem dX10_drawn_36 : decode cX10_drawn 36 = .ok (.iconst 0, 1) := by decide +kernel
theorem dX10_drawn_37 : decode cX10_drawn 37 = .ok (.istore 5, 2) := by decide +kernel
theorem dX10_drawn_39 : decode cX10_drawn 39 = .ok (.iload 5, 2) := by decide +kernel
theorem dX10_drawn_41 : decode cX10_drawn 41 = .ok (.bipush 6, 2) := by decide +kernel
theorem dX10_drawn_43 : decode cX10_drawn 43 = .ok (.if_icmp .ge 63, 3) := by decide +kernel
theorem dX10_drawn_46 : decode cX10_drawn 46 = .ok (.aload_n 0, 1) := by decide +kernel
theorem dX10_drawn_47 : decode cX10_drawn 47 = .ok (.aload_n 0, 1) := by decide +kernel
theorem dX10_drawn_48 : decode cX10_drawn 48 = .ok (.getfield 38, 3) := by decide +kernel
theorem dX10_drawn_51 : decode cX10_drawn 51 = .ok (.iload 5, 2) := by decide +kernel
theorem dX10_drawn_53 : decode cX10_drawn 53 = .ok (.invokevirtual 116, 3) := by decide +kernel
theorem dX10_drawn_56 : decode cX10_drawn 56 = .ok (.ifCond .ne 6, 3) := by decide +kernel
theorem dX10_drawn_59 : decode cX10_drawn 59 = .ok (.goto 41, 3) := by decide +kernel
theorem dX10_drawn_62 : decode cX10_drawn 62 = .ok (.bipush 75, 2) := by decide +kernel
theorem dX10_drawn_64 : decode cX10_drawn 64 = .ok (.iload_n 3, 1) := by decide +kernel
theorem dX10_drawn_65 : decode cX10_drawn 65 = .ok (.imul, 1) := by decide +kernel
theorem dX10_drawn_66 : decode cX10_drawn 66 = .ok (.bipush 74, 2) := by decide +kernel
theorem dX10_drawn_68 : decode cX10_drawn 68 = .ok (.iadd, 1) := by decide +kernel
theorem dX10_drawn_69 : decode cX10_drawn 69 = .ok (.ldc_w 443, 3) := by decide +kernel
theorem dX10_drawn_72 : decode cX10_drawn 72 = .ok (.irem, 1) := by decide +kernel
theorem dX10_drawn_73 : decode cX10_drawn 73 = .ok (.istore_n 3, 1) := by decide +kernel
theorem dX10_drawn_74 : decode cX10_drawn 74 = .ok (.iload 4, 2) := by decide +kernel
theorem dX10_drawn_76 : decode cX10_drawn 76 = .ok (.iload_n 3, 1) := by decide +kernel
theorem dX10_drawn_77 : decode cX10_drawn 77 = .ok (.bipush 100, 2) := by decide +kernel
theorem dX10_drawn_79 : decode cX10_drawn 79 = .ok (.irem, 1) := by decide +kernel
theorem dX10_drawn_80 : decode cX10_drawn 80 = .ok (.aload_n 0, 1) := by decide +kernel
theorem dX10_drawn_81 : decode cX10_drawn 81 = .ok (.getfield 20, 3) := by decide +kernel
theorem dX10_drawn_84 : decode cX10_drawn 84 = .ok (.iconst 3, 1) := by decide +kernel
theorem dX10_drawn_85 : decode cX10_drawn 85 = .ok (.iaload, 1) := by decide +kernel
theorem dX10_drawn_86 : decode cX10_drawn 86 = .ok (.if_icmp .ge 10, 3) := by decide +kernel
theorem dX10_drawn_89 : decode cX10_drawn 89 = .ok (.iconst 1, 1) := by decide +kernel
theorem dX10_drawn_90 : decode cX10_drawn 90 = .ok (.iload 5, 2) := by decide +kernel
theorem dX10_drawn_92 : decode cX10_drawn 92 = .ok (.ishl, 1) := by decide +kernel
theorem dX10_drawn_93 : decode cX10_drawn 93 = .ok (.goto 4, 3) := by decide +kernel
theorem dX10_drawn_96 : decode cX10_drawn 96 = .ok (.iconst 0, 1) := by decide +kernel
theorem dX10_drawn_97 : decode cX10_drawn 97 = .ok (.ior, 1) := by decide +kernel
theorem dX10_drawn_98 : decode cX10_drawn 98 = .ok (.istore 4, 2) := by decide +kernel
theorem dX10_drawn_100 : decode cX10_drawn 100 = .ok (.iinc 5 1, 3) := by decide +kernel
theorem dX10_drawn_103 : decode cX10_drawn 103 = .ok (.goto (-64), 3) := by decide +kernel
theorem dX10_drawn_106 : decode cX10_drawn 106 = .ok (.aload_n 0, 1) := by decide +kernel
theorem dX10_drawn_107 : decode cX10_drawn 107 = .ok (.iload 4, 2) := by decide +kernel
theorem dX10_drawn_109 : decode cX10_drawn 109 = .ok (.invokevirtual 432, 3) := by decide +kernel
theorem dX10_drawn_112 : decode cX10_drawn 112 = .ok (.aload_n 0, 1) := by decide +kernel
theorem dX10_drawn_113 : decode cX10_drawn 113 = .ok (.aload_n 0, 1) := by decide +kernel
theorem dX10_drawn_114 : decode cX10_drawn 114 = .ok (.getfield 41, 3) := by decide +kernel
theorem dX10_drawn_117 : decode cX10_drawn 117 = .ok (.iconst (-1), 1) := by decide +kernel
theorem dX10_drawn_118 : decode cX10_drawn 118 = .ok (.invokevirtual 379, 3) := by decide +kernel
theorem dX10_drawn_121 : decode cX10_drawn 121 = .ok (.ireturn, 1) := by decide +kernel
theorem dX10_become_0 : decode cX10_become 0 = .ok (.aload_n 0, 1) := by decide +kernel
theorem dX10_become_1 : decode cX10_become 1 = .ok (.getfield 263, 3) := by decide +kernel
theorem dX10_become_4 : decode cX10_become 4 = .ok (.bipush 16, 2) := by decide +kernel
theorem dX10_become_6 : decode cX10_become 6 = .ok (.if_icmp .ne 44, 3) := by decide +kernel
theorem dX10_become_9 : decode cX10_become 9 = .ok (.iconst 0, 1) := by decide +kernel
theorem dX10_become_10 : decode cX10_become 10 = .ok (.istore_n 1, 1) := by decide +kernel
theorem dX10_become_11 : decode cX10_become 11 = .ok (.iload_n 1, 1) := by decide +kernel
theorem dX10_become_12 : decode cX10_become 12 = .ok (.sipush 4875, 3) := by decide +kernel
theorem dX10_become_15 : decode cX10_become 15 = .ok (.if_icmp .ge 25, 3) := by decide +kernel
theorem dX10_become_18 : decode cX10_become 18 = .ok (.aload_n 0, 1) := by decide +kernel
theorem dX10_become_19 : decode cX10_become 19 = .ok (.getfield 44, 3) := by decide +kernel
theorem dX10_become_22 : decode cX10_become 22 = .ok (.iload_n 1, 1) := by decide +kernel
theorem dX10_become_23 : decode cX10_become 23 = .ok (.aload_n 0, 1) := by decide +kernel
theorem dX10_become_24 : decode cX10_become 24 = .ok (.getfield 44, 3) := by decide +kernel
theorem dX10_become_27 : decode cX10_become 27 = .ok (.iload_n 1, 1) := by decide +kernel
theorem dX10_become_28 : decode cX10_become 28 = .ok (.sipush 325, 3) := by decide +kernel
theorem dX10_become_31 : decode cX10_become 31 = .ok (.iadd, 1) := by decide +kernel
theorem dX10_become_32 : decode cX10_become 32 = .ok (.iaload, 1) := by decide +kernel
theorem dX10_become_33 : decode cX10_become 33 = .ok (.iastore, 1) := by decide +kernel
theorem dX10_become_34 : decode cX10_become 34 = .ok (.iinc 1 1, 3) := by decide +kernel
theorem dX10_become_37 : decode cX10_become 37 = .ok (.goto (-26), 3) := by decide +kernel
theorem dX10_become_40 : decode cX10_become 40 = .ok (.aload_n 0, 1) := by decide +kernel
theorem dX10_become_41 : decode cX10_become 41 = .ok (.dup, 1) := by decide +kernel
theorem dX10_become_42 : decode cX10_become 42 = .ok (.getfield 263, 3) := by decide +kernel
theorem dX10_become_45 : decode cX10_become 45 = .ok (.iconst 1, 1) := by decide +kernel
theorem dX10_become_46 : decode cX10_become 46 = .ok (.isub, 1) := by decide +kernel
theorem dX10_become_47 : decode cX10_become 47 = .ok (.putfield 263, 3) := by decide +kernel
theorem dX10_become_50 : decode cX10_become 50 = .ok (.aload_n 0, 1) := by decide +kernel
theorem dX10_become_51 : decode cX10_become 51 = .ok (.getfield 38, 3) := by decide +kernel
theorem dX10_become_54 : decode cX10_become 54 = .ok (.iconst 0, 1) := by decide +kernel
theorem dX10_become_55 : decode cX10_become 55 = .ok (.aload_n 0, 1) := by decide +kernel
theorem dX10_become_56 : decode cX10_become 56 = .ok (.getfield 44, 3) := by decide +kernel
theorem dX10_become_59 : decode cX10_become 59 = .ok (.sipush 325, 3) := by decide +kernel
theorem dX10_become_62 : decode cX10_become 62 = .ok (.aload_n 0, 1) := by decide +kernel
theorem dX10_become_63 : decode cX10_become 63 = .ok (.getfield 263, 3) := by decide +kernel
theorem dX10_become_66 : decode cX10_become 66 = .ok (.imul, 1) := by decide +kernel
theorem dX10_become_67 : decode cX10_become 67 = .ok (.sipush 325, 3) := by decide +kernel
theorem dX10_become_70 : decode cX10_become 70 = .ok (.invokestatic 256, 3) := by decide +kernel
theorem dX10_become_73 : decode cX10_become 73 = .ok (.aload_n 0, 1) := by decide +kernel
theorem dX10_become_74 : decode cX10_become 74 = .ok (.dup, 1) := by decide +kernel
theorem dX10_become_75 : decode cX10_become 75 = .ok (.getfield 263, 3) := by decide +kernel
theorem dX10_become_78 : decode cX10_become 78 = .ok (.iconst 1, 1) := by decide +kernel
theorem dX10_become_79 : decode cX10_become 79 = .ok (.iadd, 1) := by decide +kernel
theorem dX10_become_80 : decode cX10_become 80 = .ok (.putfield 263, 3) := by decide +kernel
theorem dX10_become_83 : decode cX10_become 83 = .ok (.aload_n 0, 1) := by decide +kernel
theorem dX10_become_84 : decode cX10_become 84 = .ok (.getfield 41, 3) := by decide +kernel
theorem dX10_become_87 : decode cX10_become 87 = .ok (.iconst 0, 1) := by decide +kernel
theorem dX10_become_88 : decode cX10_become 88 = .ok (.aload_n 0, 1) := by decide +kernel
theorem dX10_become_89 : decode cX10_become 89 = .ok (.getfield 38, 3) := by decide +kernel
theorem dX10_become_92 : decode cX10_become 92 = .ok (.iconst 0, 1) := by decide +kernel
theorem dX10_become_93 : decode cX10_become 93 = .ok (.sipush 325, 3) := by decide +kernel
theorem dX10_become_96 : decode cX10_become 96 = .ok (.invokestatic 256, 3) := by decide +kernel
theorem dX10_become_99 : decode cX10_become 99 = .ok (.return_, 1) := by decide +kernel
theorem dX10_tryOn_0 : decode cX10_tryOn 0 = .ok (.aload_n 0, 1) := by decide +kernel
theorem dX10_tryOn_1 : decode cX10_tryOn 1 = .ok (.getfield 38, 3) := by decide +kernel
theorem dX10_tryOn_4 : decode cX10_tryOn 4 = .ok (.iconst 0, 1) := by decide +kernel
theorem dX10_tryOn_5 : decode cX10_tryOn 5 = .ok (.aload_n 0, 1) := by decide +kernel
theorem dX10_tryOn_6 : decode cX10_tryOn 6 = .ok (.getfield 41, 3) := by decide +kernel
theorem dX10_tryOn_9 : decode cX10_tryOn 9 = .ok (.iconst 0, 1) := by decide +kernel
theorem dX10_tryOn_10 : decode cX10_tryOn 10 = .ok (.sipush 325, 3) := by decide +kernel
theorem dX10_tryOn_13 : decode cX10_tryOn 13 = .ok (.invokestatic 256, 3) := by decide +kernel
theorem dX10_tryOn_16 : decode cX10_tryOn 16 = .ok (.return_, 1) := by decide +kernel
theorem dX10_begin_0 : decode cX10_begin 0 = .ok (.aload_n 0, 1) := by decide +kernel
theorem dX10_begin_1 : decode cX10_begin 1 = .ok (.invokevirtual 247, 3) := by decide +kernel
theorem dX10_begin_4 : decode cX10_begin 4 = .ok (.aload_n 0, 1) := by decide +kernel
theorem dX10_begin_5 : decode cX10_begin 5 = .ok (.getfield 260, 3) := by decide +kernel
theorem dX10_begin_8 : decode cX10_begin 8 = .ok (.ifCond .ne 9, 3) := by decide +kernel
theorem dX10_begin_11 : decode cX10_begin 11 = .ok (.aload_n 0, 1) := by decide +kernel
theorem dX10_begin_12 : decode cX10_begin 12 = .ok (.iconst 1, 1) := by decide +kernel
theorem dX10_begin_13 : decode cX10_begin 13 = .ok (.invokevirtual 250, 3) := by decide +kernel
theorem dX10_begin_16 : decode cX10_begin 16 = .ok (.ireturn, 1) := by decide +kernel
theorem dX10_begin_17 : decode cX10_begin 17 = .ok (.aload_n 0, 1) := by decide +kernel
theorem dX10_begin_18 : decode cX10_begin 18 = .ok (.aload_n 0, 1) := by decide +kernel
theorem dX10_begin_19 : decode cX10_begin 19 = .ok (.getfield 38, 3) := by decide +kernel
theorem dX10_begin_22 : decode cX10_begin 22 = .ok (.invokevirtual 315, 3) := by decide +kernel
theorem dX10_begin_25 : decode cX10_begin 25 = .ok (.ifCond .ne 9, 3) := by decide +kernel
theorem dX10_begin_28 : decode cX10_begin 28 = .ok (.aload_n 0, 1) := by decide +kernel
theorem dX10_begin_29 : decode cX10_begin 29 = .ok (.iconst 3, 1) := by decide +kernel
theorem dX10_begin_30 : decode cX10_begin 30 = .ok (.invokevirtual 250, 3) := by decide +kernel
theorem dX10_begin_33 : decode cX10_begin 33 = .ok (.ireturn, 1) := by decide +kernel
theorem dX10_begin_34 : decode cX10_begin 34 = .ok (.aload_n 0, 1) := by decide +kernel
theorem dX10_begin_35 : decode cX10_begin 35 = .ok (.invokevirtual 444, 3) := by decide +kernel
theorem dX10_begin_38 : decode cX10_begin 38 = .ok (.aload_n 0, 1) := by decide +kernel
theorem dX10_begin_39 : decode cX10_begin 39 = .ok (.aload_n 0, 1) := by decide +kernel
theorem dX10_begin_40 : decode cX10_begin 40 = .ok (.getfield 41, 3) := by decide +kernel
theorem dX10_begin_43 : decode cX10_begin 43 = .ok (.invokevirtual 322, 3) := by decide +kernel
theorem dX10_begin_46 : decode cX10_begin 46 = .ok (.istore_n 1, 1) := by decide +kernel
theorem dX10_begin_47 : decode cX10_begin 47 = .ok (.aload_n 0, 1) := by decide +kernel
theorem dX10_begin_48 : decode cX10_begin 48 = .ok (.invokevirtual 447, 3) := by decide +kernel
theorem dX10_begin_51 : decode cX10_begin 51 = .ok (.iload_n 1, 1) := by decide +kernel
theorem dX10_begin_52 : decode cX10_begin 52 = .ok (.ireturn, 1) := by decide +kernel
theorem dX10_put_0 : decode cX10_put 0 = .ok (.aload_n 0, 1) := by decide +kernel
theorem dX10_put_1 : decode cX10_put 1 = .ok (.invokevirtual 247, 3) := by decide +kernel
theorem dX10_put_4 : decode cX10_put 4 = .ok (.aload_n 0, 1) := by decide +kernel
theorem dX10_put_5 : decode cX10_put 5 = .ok (.aload_n 0, 1) := by decide +kernel
theorem dX10_put_6 : decode cX10_put 6 = .ok (.iload_n 1, 1) := by decide +kernel
theorem dX10_put_7 : decode cX10_put 7 = .ok (.invokevirtual 355, 3) := by decide +kernel
theorem dX10_put_10 : decode cX10_put 10 = .ok (.ifCond .eq 15, 3) := by decide +kernel
theorem dX10_put_13 : decode cX10_put 13 = .ok (.aload_n 0, 1) := by decide +kernel
theorem dX10_put_14 : decode cX10_put 14 = .ok (.iload_n 2, 1) := by decide +kernel
theorem dX10_put_15 : decode cX10_put 15 = .ok (.invokevirtual 370, 3) := by decide +kernel
theorem dX10_put_18 : decode cX10_put 18 = .ok (.ifCond .eq 7, 3) := by decide +kernel
theorem dX10_put_21 : decode cX10_put 21 = .ok (.iconst 1, 1) := by decide +kernel
theorem dX10_put_22 : decode cX10_put 22 = .ok (.goto 4, 3) := by decide +kernel
theorem dX10_put_25 : decode cX10_put 25 = .ok (.iconst 0, 1) := by decide +kernel
theorem dX10_put_26 : decode cX10_put 26 = .ok (.iload_n 3, 1) := by decide +kernel
theorem dX10_put_27 : decode cX10_put 27 = .ok (.iconst 0, 1) := by decide +kernel
theorem dX10_put_28 : decode cX10_put 28 = .ok (.sipush 999, 3) := by decide +kernel
theorem dX10_put_31 : decode cX10_put 31 = .ok (.invokestatic 81, 3) := by decide +kernel
theorem dX10_put_34 : decode cX10_put 34 = .ok (.invokevirtual 348, 3) := by decide +kernel
theorem dX10_put_37 : decode cX10_put 37 = .ok (.istore 4, 2) := by decide +kernel
theorem dX10_put_39 : decode cX10_put 39 = .ok (.iload 4, 2) := by decide +kernel
theorem dX10_put_41 : decode cX10_put 41 = .ok (.ifCond .eq 10, 3) := by decide +kernel
theorem dX10_put_44 : decode cX10_put 44 = .ok (.aload_n 0, 1) := by decide +kernel
theorem dX10_put_45 : decode cX10_put 45 = .ok (.iload 4, 2) := by decide +kernel
theorem dX10_put_47 : decode cX10_put 47 = .ok (.invokevirtual 250, 3) := by decide +kernel
theorem dX10_put_50 : decode cX10_put 50 = .ok (.ireturn, 1) := by decide +kernel
theorem dX10_put_51 : decode cX10_put 51 = .ok (.aload_n 0, 1) := by decide +kernel
theorem dX10_put_52 : decode cX10_put 52 = .ok (.invokevirtual 444, 3) := by decide +kernel
theorem dX10_put_55 : decode cX10_put 55 = .ok (.aload_n 0, 1) := by decide +kernel
theorem dX10_put_56 : decode cX10_put 56 = .ok (.aload_n 0, 1) := by decide +kernel
theorem dX10_put_57 : decode cX10_put 57 = .ok (.getfield 41, 3) := by decide +kernel
theorem dX10_put_60 : decode cX10_put 60 = .ok (.iload_n 1, 1) := by decide +kernel
theorem dX10_put_61 : decode cX10_put 61 = .ok (.iload_n 2, 1) := by decide +kernel
theorem dX10_put_62 : decode cX10_put 62 = .ok (.iload_n 3, 1) := by decide +kernel
theorem dX10_put_63 : decode cX10_put 63 = .ok (.invokevirtual 329, 3) := by decide +kernel
theorem dX10_put_66 : decode cX10_put 66 = .ok (.istore 5, 2) := by decide +kernel
theorem dX10_put_68 : decode cX10_put 68 = .ok (.aload_n 0, 1) := by decide +kernel
theorem dX10_put_69 : decode cX10_put 69 = .ok (.getfield 133, 3) := by decide +kernel
theorem dX10_put_72 : decode cX10_put 72 = .ok (.ifCond .eq 12, 3) := by decide +kernel
theorem dX10_put_75 : decode cX10_put 75 = .ok (.aload_n 0, 1) := by decide +kernel
theorem dX10_put_76 : decode cX10_put 76 = .ok (.aload_n 0, 1) := by decide +kernel
theorem dX10_put_77 : decode cX10_put 77 = .ok (.getfield 133, 3) := by decide +kernel
theorem dX10_put_80 : decode cX10_put 80 = .ok (.invokevirtual 250, 3) := by decide +kernel
theorem dX10_put_83 : decode cX10_put 83 = .ok (.ireturn, 1) := by decide +kernel
theorem dX10_put_84 : decode cX10_put 84 = .ok (.aload_n 0, 1) := by decide +kernel
theorem dX10_put_85 : decode cX10_put 85 = .ok (.invokevirtual 447, 3) := by decide +kernel
theorem dX10_put_88 : decode cX10_put 88 = .ok (.iload 5, 2) := by decide +kernel
theorem dX10_put_90 : decode cX10_put 90 = .ok (.ireturn, 1) := by decide +kernel
theorem dX10_drop_0 : decode cX10_drop 0 = .ok (.aload_n 0, 1) := by decide +kernel
theorem dX10_drop_1 : decode cX10_drop 1 = .ok (.invokevirtual 247, 3) := by decide +kernel
theorem dX10_drop_4 : decode cX10_drop 4 = .ok (.aload_n 0, 1) := by decide +kernel
theorem dX10_drop_5 : decode cX10_drop 5 = .ok (.iload_n 1, 1) := by decide +kernel
theorem dX10_drop_6 : decode cX10_drop 6 = .ok (.invokevirtual 355, 3) := by decide +kernel
theorem dX10_drop_9 : decode cX10_drop 9 = .ok (.ifCond .eq 11, 3) := by decide +kernel
theorem dX10_drop_12 : decode cX10_drop 12 = .ok (.aload_n 0, 1) := by decide +kernel
theorem dX10_drop_13 : decode cX10_drop 13 = .ok (.iload_n 2, 1) := by decide +kernel
theorem dX10_drop_14 : decode cX10_drop 14 = .ok (.invokevirtual 370, 3) := by decide +kernel
theorem dX10_drop_17 : decode cX10_drop 17 = .ok (.ifCond .ne 9, 3) := by decide +kernel
theorem dX10_drop_20 : decode cX10_drop 20 = .ok (.aload_n 0, 1) := by decide +kernel
theorem dX10_drop_21 : decode cX10_drop 21 = .ok (.iconst 1, 1) := by decide +kernel
theorem dX10_drop_22 : decode cX10_drop 22 = .ok (.invokevirtual 250, 3) := by decide +kernel
theorem dX10_drop_25 : decode cX10_drop 25 = .ok (.ireturn, 1) := by decide +kernel
theorem dX10_drop_26 : decode cX10_drop 26 = .ok (.aload_n 0, 1) := by decide +kernel
theorem dX10_drop_27 : decode cX10_drop 27 = .ok (.invokevirtual 444, 3) := by decide +kernel
theorem dX10_drop_30 : decode cX10_drop 30 = .ok (.aload_n 0, 1) := by decide +kernel
theorem dX10_drop_31 : decode cX10_drop 31 = .ok (.aload_n 0, 1) := by decide +kernel
theorem dX10_drop_32 : decode cX10_drop 32 = .ok (.getfield 41, 3) := by decide +kernel
theorem dX10_drop_35 : decode cX10_drop 35 = .ok (.iload_n 1, 1) := by decide +kernel
theorem dX10_drop_36 : decode cX10_drop 36 = .ok (.iload_n 2, 1) := by decide +kernel
theorem dX10_drop_37 : decode cX10_drop 37 = .ok (.invokevirtual 333, 3) := by decide +kernel
theorem dX10_drop_40 : decode cX10_drop 40 = .ok (.istore_n 3, 1) := by decide +kernel
theorem dX10_drop_41 : decode cX10_drop 41 = .ok (.aload_n 0, 1) := by decide +kernel
theorem dX10_drop_42 : decode cX10_drop 42 = .ok (.getfield 133, 3) := by decide +kernel
theorem dX10_drop_45 : decode cX10_drop 45 = .ok (.ifCond .eq 12, 3) := by decide +kernel
theorem dX10_drop_48 : decode cX10_drop 48 = .ok (.aload_n 0, 1) := by decide +kernel
theorem dX10_drop_49 : decode cX10_drop 49 = .ok (.aload_n 0, 1) := by decide +kernel
theorem dX10_drop_50 : decode cX10_drop 50 = .ok (.getfield 133, 3) := by decide +kernel
theorem dX10_drop_53 : decode cX10_drop 53 = .ok (.invokevirtual 250, 3) := by decide +kernel
theorem dX10_drop_56 : decode cX10_drop 56 = .ok (.ireturn, 1) := by decide +kernel
theorem dX10_drop_57 : decode cX10_drop 57 = .ok (.aload_n 0, 1) := by decide +kernel
theorem dX10_drop_58 : decode cX10_drop 58 = .ok (.invokevirtual 447, 3) := by decide +kernel
theorem dX10_drop_61 : decode cX10_drop 61 = .ok (.iload_n 3, 1) := by decide +kernel
theorem dX10_drop_62 : decode cX10_drop 62 = .ok (.ireturn, 1) := by decide +kernel
theorem dX10_ended_0 : decode cX10_ended 0 = .ok (.aload_n 0, 1) := by decide +kernel
theorem dX10_ended_1 : decode cX10_ended 1 = .ok (.invokevirtual 444, 3) := by decide +kernel
theorem dX10_ended_4 : decode cX10_ended 4 = .ok (.aload_n 0, 1) := by decide +kernel
theorem dX10_ended_5 : decode cX10_ended 5 = .ok (.aload_n 0, 1) := by decide +kernel
theorem dX10_ended_6 : decode cX10_ended 6 = .ok (.getfield 41, 3) := by decide +kernel
theorem dX10_ended_9 : decode cX10_ended 9 = .ok (.iload_n 1, 1) := by decide +kernel
theorem dX10_ended_10 : decode cX10_ended 10 = .ok (.iload_n 2, 1) := by decide +kernel
theorem dX10_ended_11 : decode cX10_ended 11 = .ok (.invokevirtual 336, 3) := by decide +kernel
theorem dX10_ended_14 : decode cX10_ended 14 = .ok (.istore_n 3, 1) := by decide +kernel
theorem dX10_ended_15 : decode cX10_ended 15 = .ok (.aload_n 0, 1) := by decide +kernel
theorem dX10_ended_16 : decode cX10_ended 16 = .ok (.invokevirtual 447, 3) := by decide +kernel
theorem dX10_ended_19 : decode cX10_ended 19 = .ok (.iload_n 3, 1) := by decide +kernel
theorem dX10_ended_20 : decode cX10_ended 20 = .ok (.ireturn, 1) := by decide +kernel
theorem dX10_done_0 : decode cX10_done 0 = .ok (.aload_n 0, 1) := by decide +kernel
theorem dX10_done_1 : decode cX10_done 1 = .ok (.invokevirtual 247, 3) := by decide +kernel
theorem dX10_done_4 : decode cX10_done 4 = .ok (.aload_n 0, 1) := by decide +kernel
theorem dX10_done_5 : decode cX10_done 5 = .ok (.iload_n 1, 1) := by decide +kernel
theorem dX10_done_6 : decode cX10_done 6 = .ok (.invokevirtual 355, 3) := by decide +kernel
theorem dX10_done_9 : decode cX10_done 9 = .ok (.ifCond .ne 9, 3) := by decide +kernel
theorem dX10_done_12 : decode cX10_done 12 = .ok (.aload_n 0, 1) := by decide +kernel
theorem dX10_done_13 : decode cX10_done 13 = .ok (.iconst 1, 1) := by decide +kernel
theorem dX10_done_14 : decode cX10_done 14 = .ok (.invokevirtual 250, 3) := by decide +kernel
theorem dX10_done_17 : decode cX10_done 17 = .ok (.ireturn, 1) := by decide +kernel
theorem dX10_done_18 : decode cX10_done 18 = .ok (.aload_n 0, 1) := by decide +kernel
theorem dX10_done_19 : decode cX10_done 19 = .ok (.getfield 38, 3) := by decide +kernel
theorem dX10_done_22 : decode cX10_done 22 = .ok (.sipush 310, 3) := by decide +kernel
theorem dX10_done_25 : decode cX10_done 25 = .ok (.iaload, 1) := by decide +kernel
theorem dX10_done_26 : decode cX10_done 26 = .ok (.iload_n 1, 1) := by decide +kernel
theorem dX10_done_27 : decode cX10_done 27 = .ok (.invokestatic 85, 3) := by decide +kernel
theorem dX10_done_30 : decode cX10_done 30 = .ok (.ifCond .eq 11, 3) := by decide +kernel
theorem dX10_done_33 : decode cX10_done 33 = .ok (.aload_n 0, 1) := by decide +kernel
theorem dX10_done_34 : decode cX10_done 34 = .ok (.iconst 5, 1) := by decide +kernel
theorem dX10_done_35 : decode cX10_done 35 = .ok (.invokevirtual 250, 3) := by decide +kernel
theorem dX10_done_38 : decode cX10_done 38 = .ok (.goto 9, 3) := by decide +kernel
theorem dX10_done_41 : decode cX10_done 41 = .ok (.aload_n 0, 1) := by decide +kernel
theorem dX10_done_42 : decode cX10_done 42 = .ok (.iload_n 1, 1) := by decide +kernel
theorem dX10_done_43 : decode cX10_done 43 = .ok (.iconst 2, 1) := by decide +kernel
theorem dX10_done_44 : decode cX10_done 44 = .ok (.invokevirtual 450, 3) := by decide +kernel
theorem dX10_done_47 : decode cX10_done 47 = .ok (.ireturn, 1) := by decide +kernel
theorem dX10_gone_0 : decode cX10_gone 0 = .ok (.aload_n 0, 1) := by decide +kernel
theorem dX10_gone_1 : decode cX10_gone 1 = .ok (.invokevirtual 247, 3) := by decide +kernel
theorem dX10_gone_4 : decode cX10_gone 4 = .ok (.aload_n 0, 1) := by decide +kernel
theorem dX10_gone_5 : decode cX10_gone 5 = .ok (.iload_n 1, 1) := by decide +kernel
theorem dX10_gone_6 : decode cX10_gone 6 = .ok (.invokevirtual 355, 3) := by decide +kernel
theorem dX10_gone_9 : decode cX10_gone 9 = .ok (.ifCond .eq 12, 3) := by decide +kernel
theorem dX10_gone_12 : decode cX10_gone 12 = .ok (.aload_n 0, 1) := by decide +kernel
theorem dX10_gone_13 : decode cX10_gone 13 = .ok (.iload_n 1, 1) := by decide +kernel
theorem dX10_gone_14 : decode cX10_gone 14 = .ok (.iconst 3, 1) := by decide +kernel
theorem dX10_gone_15 : decode cX10_gone 15 = .ok (.invokevirtual 450, 3) := by decide +kernel
theorem dX10_gone_18 : decode cX10_gone 18 = .ok (.goto 8, 3) := by decide +kernel
theorem dX10_gone_21 : decode cX10_gone 21 = .ok (.aload_n 0, 1) := by decide +kernel
theorem dX10_gone_22 : decode cX10_gone 22 = .ok (.iconst 1, 1) := by decide +kernel
theorem dX10_gone_23 : decode cX10_gone 23 = .ok (.invokevirtual 250, 3) := by decide +kernel
theorem dX10_gone_26 : decode cX10_gone 26 = .ok (.ireturn, 1) := by decide +kernel
theorem dX10_clear_0 : decode cX10_clear 0 = .ok (.aload_n 0, 1) := by decide +kernel
theorem dX10_clear_1 : decode cX10_clear 1 = .ok (.invokevirtual 247, 3) := by decide +kernel
theorem dX10_clear_4 : decode cX10_clear 4 = .ok (.aload_n 0, 1) := by decide +kernel
theorem dX10_clear_5 : decode cX10_clear 5 = .ok (.getfield 260, 3) := by decide +kernel
theorem dX10_clear_8 : decode cX10_clear 8 = .ok (.ifCond .ne 9, 3) := by decide +kernel
theorem dX10_clear_11 : decode cX10_clear 11 = .ok (.aload_n 0, 1) := by decide +kernel
theorem dX10_clear_12 : decode cX10_clear 12 = .ok (.iconst 1, 1) := by decide +kernel
theorem dX10_clear_13 : decode cX10_clear 13 = .ok (.invokevirtual 250, 3) := by decide +kernel
theorem dX10_clear_16 : decode cX10_clear 16 = .ok (.ireturn, 1) := by decide +kernel
theorem dX10_clear_17 : decode cX10_clear 17 = .ok (.aload_n 0, 1) := by decide +kernel
