theorem dX10_sumOf_13 : decode cX10_sumOf 13 = .ok (.if_icmp .ge 33, 3) := by decide +kernel
theorem dX10_sumOf_16 : decode cX10_sumOf 16 = .ok (.aload_n 0, 1) := by decide +kernel
theorem dX10_sumOf_17 : decode cX10_sumOf 17 = .ok (.aload_n 1, 1) := by decide +kernel
theorem dX10_sumOf_18 : decode cX10_sumOf 18 = .ok (.iload_n 2, 1) := by decide +kernel
theorem dX10_sumOf_19 : decode cX10_sumOf 19 = .ok (.iload 4, 2) := by decide +kernel
theorem dX10_sumOf_21 : decode cX10_sumOf 21 = .ok (.invokevirtual 376, 3) := by decide +kernel
theorem dX10_sumOf_24 : decode cX10_sumOf 24 = .ok (.istore 5, 2) := by decide +kernel
theorem dX10_sumOf_26 : decode cX10_sumOf 26 = .ok (.iload_n 3, 1) := by decide +kernel
theorem dX10_sumOf_27 : decode cX10_sumOf 27 = .ok (.iload 5, 2) := by decide +kernel
theorem dX10_sumOf_29 : decode cX10_sumOf 29 = .ok (.ifCond .ge 7, 3) := by decide +kernel
theorem dX10_sumOf_32 : decode cX10_sumOf 32 = .ok (.iconst 0, 1) := by decide +kernel
theorem dX10_sumOf_33 : decode cX10_sumOf 33 = .ok (.goto 5, 3) := by decide +kernel
theorem dX10_sumOf_36 : decode cX10_sumOf 36 = .ok (.iload 5, 2) := by decide +kernel
theorem dX10_sumOf_38 : decode cX10_sumOf 38 = .ok (.iadd, 1) := by decide +kernel
theorem dX10_sumOf_39 : decode cX10_sumOf 39 = .ok (.istore_n 3, 1) := by decide +kernel
theorem dX10_sumOf_40 : decode cX10_sumOf 40 = .ok (.iinc 4 1, 3) := by decide +kernel
theorem dX10_sumOf_43 : decode cX10_sumOf 43 = .ok (.goto (-38), 3) := by decide +kernel
theorem dX10_sumOf_46 : decode cX10_sumOf 46 = .ok (.iload_n 3, 1) := by decide +kernel
theorem dX10_sumOf_47 : decode cX10_sumOf 47 = .ok (.ireturn, 1) := by decide +kernel
theorem dX10_sum_0 : decode cX10_sum 0 = .ok (.aload_n 0, 1) := by decide +kernel
theorem dX10_sum_1 : decode cX10_sum 1 = .ok (.invokevirtual 247, 3) := by decide +kernel
theorem dX10_sum_4 : decode cX10_sum 4 = .ok (.aload_n 0, 1) := by decide +kernel
theorem dX10_sum_5 : decode cX10_sum 5 = .ok (.iload_n 1, 1) := by decide +kernel
theorem dX10_sum_6 : decode cX10_sum 6 = .ok (.invokevirtual 355, 3) := by decide +kernel
theorem dX10_sum_9 : decode cX10_sum 9 = .ok (.ifCond .eq 15, 3) := by decide +kernel
theorem dX10_sum_12 : decode cX10_sum 12 = .ok (.aload_n 0, 1) := by decide +kernel
theorem dX10_sum_13 : decode cX10_sum 13 = .ok (.aload_n 0, 1) := by decide +kernel
theorem dX10_sum_14 : decode cX10_sum 14 = .ok (.getfield 38, 3) := by decide +kernel
theorem dX10_sum_17 : decode cX10_sum 17 = .ok (.iload_n 1, 1) := by decide +kernel
theorem dX10_sum_18 : decode cX10_sum 18 = .ok (.invokevirtual 379, 3) := by decide +kernel
theorem dX10_sum_21 : decode cX10_sum 21 = .ok (.goto 8, 3) := by decide +kernel
theorem dX10_sum_24 : decode cX10_sum 24 = .ok (.aload_n 0, 1) := by decide +kernel
theorem dX10_sum_25 : decode cX10_sum 25 = .ok (.iconst 1, 1) := by decide +kernel
theorem dX10_sum_26 : decode cX10_sum 26 = .ok (.invokevirtual 250, 3) := by decide +kernel
theorem dX10_sum_29 : decode cX10_sum 29 = .ok (.ireturn, 1) := by decide +kernel
theorem dX10_differ_0 : decode cX10_differ 0 = .ok (.aload_n 0, 1) := by decide +kernel
theorem dX10_differ_1 : decode cX10_differ 1 = .ok (.invokevirtual 247, 3) := by decide +kernel
theorem dX10_differ_4 : decode cX10_differ 4 = .ok (.aload_n 0, 1) := by decide +kernel
theorem dX10_differ_5 : decode cX10_differ 5 = .ok (.iload_n 1, 1) := by decide +kernel
theorem dX10_differ_6 : decode cX10_differ 6 = .ok (.invokevirtual 355, 3) := by decide +kernel
theorem dX10_differ_9 : decode cX10_differ 9 = .ok (.ifCond .eq 11, 3) := by decide +kernel
theorem dX10_differ_12 : decode cX10_differ 12 = .ok (.aload_n 0, 1) := by decide +kernel
theorem dX10_differ_13 : decode cX10_differ 13 = .ok (.iload_n 2, 1) := by decide +kernel
theorem dX10_differ_14 : decode cX10_differ 14 = .ok (.invokevirtual 355, 3) := by decide +kernel
theorem dX10_differ_17 : decode cX10_differ 17 = .ok (.ifCond .ne 9, 3) := by decide +kernel
theorem dX10_differ_20 : decode cX10_differ 20 = .ok (.aload_n 0, 1) := by decide +kernel
theorem dX10_differ_21 : decode cX10_differ 21 = .ok (.iconst 1, 1) := by decide +kernel
theorem dX10_differ_22 : decode cX10_differ 22 = .ok (.invokevirtual 250, 3) := by decide +kernel
theorem dX10_differ_25 : decode cX10_differ 25 = .ok (.ireturn, 1) := by decide +kernel
theorem dX10_differ_26 : decode cX10_differ 26 = .ok (.iconst 0, 1) := by decide +kernel
theorem dX10_differ_27 : decode cX10_differ 27 = .ok (.istore_n 3, 1) := by decide +kernel
theorem dX10_differ_28 : decode cX10_differ 28 = .ok (.iconst 0, 1) := by decide +kernel
theorem dX10_differ_29 : decode cX10_differ 29 = .ok (.istore 4, 2) := by decide +kernel
theorem dX10_differ_31 : decode cX10_differ 31 = .ok (.iload 4, 2) := by decide +kernel
theorem dX10_differ_33 : decode cX10_differ 33 = .ok (.aload_n 0, 1) := by decide +kernel
theorem dX10_differ_34 : decode cX10_differ 34 = .ok (.getfield 20, 3) := by decide +kernel
theorem dX10_differ_37 : decode cX10_differ 37 = .ok (.iconst 1, 1) := by decide +kernel
theorem dX10_differ_38 : decode cX10_differ 38 = .ok (.iaload, 1) := by decide +kernel
theorem dX10_differ_39 : decode cX10_differ 39 = .ok (.if_icmp .ge 45, 3) := by decide +kernel
theorem dX10_differ_42 : decode cX10_differ 42 = .ok (.iload_n 3, 1) := by decide +kernel
theorem dX10_differ_43 : decode cX10_differ 43 = .ok (.aload_n 0, 1) := by decide +kernel
theorem dX10_differ_44 : decode cX10_differ 44 = .ok (.aload_n 0, 1) := by decide +kernel
theorem dX10_differ_45 : decode cX10_differ 45 = .ok (.getfield 38, 3) := by decide +kernel
theorem dX10_differ_48 : decode cX10_differ 48 = .ok (.iload_n 1, 1) := by decide +kernel
theorem dX10_differ_49 : decode cX10_differ 49 = .ok (.iload 4, 2) := by decide +kernel
theorem dX10_differ_51 : decode cX10_differ 51 = .ok (.invokevirtual 102, 3) := by decide +kernel
theorem dX10_differ_54 : decode cX10_differ 54 = .ok (.aload_n 0, 1) := by decide +kernel
theorem dX10_differ_55 : decode cX10_differ 55 = .ok (.aload_n 0, 1) := by decide +kernel
theorem dX10_differ_56 : decode cX10_differ 56 = .ok (.getfield 38, 3) := by decide +kernel
theorem dX10_differ_59 : decode cX10_differ 59 = .ok (.iload_n 2, 1) := by decide +kernel
theorem dX10_differ_60 : decode cX10_differ 60 = .ok (.iload 4, 2) := by decide +kernel
theorem dX10_differ_62 : decode cX10_differ 62 = .ok (.invokevirtual 102, 3) := by decide +kernel
theorem dX10_differ_65 : decode cX10_differ 65 = .ok (.if_icmp .eq 10, 3) := by decide +kernel
theorem dX10_differ_68 : decode cX10_differ 68 = .ok (.iconst 1, 1) := by decide +kernel
theorem dX10_differ_69 : decode cX10_differ 69 = .ok (.iload 4, 2) := by decide +kernel
theorem dX10_differ_71 : decode cX10_differ 71 = .ok (.ishl, 1) := by decide +kernel
theorem dX10_differ_72 : decode cX10_differ 72 = .ok (.goto 4, 3) := by decide +kernel
theorem dX10_differ_75 : decode cX10_differ 75 = .ok (.iconst 0, 1) := by decide +kernel
theorem dX10_differ_76 : decode cX10_differ 76 = .ok (.ior, 1) := by decide +kernel
theorem dX10_differ_77 : decode cX10_differ 77 = .ok (.istore_n 3, 1) := by decide +kernel
theorem dX10_differ_78 : decode cX10_differ 78 = .ok (.iinc 4 1, 3) := by decide +kernel
theorem dX10_differ_81 : decode cX10_differ 81 = .ok (.goto (-50), 3) := by decide +kernel
theorem dX10_differ_84 : decode cX10_differ 84 = .ok (.iload_n 3, 1) := by decide +kernel
theorem dX10_differ_85 : decode cX10_differ 85 = .ok (.ireturn, 1) := by decide +kernel
theorem dX10_fresh_0 : decode cX10_fresh 0 = .ok (.aload_n 0, 1) := by decide +kernel
theorem dX10_fresh_1 : decode cX10_fresh 1 = .ok (.invokevirtual 247, 3) := by decide +kernel
theorem dX10_fresh_4 : decode cX10_fresh 4 = .ok (.aload_n 0, 1) := by decide +kernel
theorem dX10_fresh_5 : decode cX10_fresh 5 = .ok (.iload_n 1, 1) := by decide +kernel
theorem dX10_fresh_6 : decode cX10_fresh 6 = .ok (.invokevirtual 370, 3) := by decide +kernel
theorem dX10_fresh_9 : decode cX10_fresh 9 = .ok (.ifCond .eq 16, 3) := by decide +kernel
theorem dX10_fresh_12 : decode cX10_fresh 12 = .ok (.aload_n 0, 1) := by decide +kernel
theorem dX10_fresh_13 : decode cX10_fresh 13 = .ok (.aload_n 0, 1) := by decide +kernel
theorem dX10_fresh_14 : decode cX10_fresh 14 = .ok (.getfield 38, 3) := by decide +kernel
theorem dX10_fresh_17 : decode cX10_fresh 17 = .ok (.iconst (-1), 1) := by decide +kernel
theorem dX10_fresh_18 : decode cX10_fresh 18 = .ok (.iload_n 1, 1) := by decide +kernel
theorem dX10_fresh_19 : decode cX10_fresh 19 = .ok (.invokevirtual 376, 3) := by decide +kernel
theorem dX10_fresh_22 : decode cX10_fresh 22 = .ok (.goto 8, 3) := by decide +kernel
theorem dX10_fresh_25 : decode cX10_fresh 25 = .ok (.aload_n 0, 1) := by decide +kernel
theorem dX10_fresh_26 : decode cX10_fresh 26 = .ok (.iconst 1, 1) := by decide +kernel
theorem dX10_fresh_27 : decode cX10_fresh 27 = .ok (.invokevirtual 250, 3) := by decide +kernel
theorem dX10_fresh_30 : decode cX10_fresh 30 = .ok (.ireturn, 1) := by decide +kernel
theorem dX10_freshSum_0 : decode cX10_freshSum 0 = .ok (.aload_n 0, 1) := by decide +kernel
theorem dX10_freshSum_1 : decode cX10_freshSum 1 = .ok (.invokevirtual 247, 3) := by decide +kernel
theorem dX10_freshSum_4 : decode cX10_freshSum 4 = .ok (.aload_n 0, 1) := by decide +kernel
theorem dX10_freshSum_5 : decode cX10_freshSum 5 = .ok (.getfield 260, 3) := by decide +kernel
theorem dX10_freshSum_8 : decode cX10_freshSum 8 = .ok (.ifCond .eq 15, 3) := by decide +kernel
theorem dX10_freshSum_11 : decode cX10_freshSum 11 = .ok (.aload_n 0, 1) := by decide +kernel
theorem dX10_freshSum_12 : decode cX10_freshSum 12 = .ok (.aload_n 0, 1) := by decide +kernel
theorem dX10_freshSum_13 : decode cX10_freshSum 13 = .ok (.getfield 38, 3) := by decide +kernel
theorem dX10_freshSum_16 : decode cX10_freshSum 16 = .ok (.iconst (-1), 1) := by decide +kernel
theorem dX10_freshSum_17 : decode cX10_freshSum 17 = .ok (.invokevirtual 379, 3) := by decide +kernel
theorem dX10_freshSum_20 : decode cX10_freshSum 20 = .ok (.goto 8, 3) := by decide +kernel
theorem dX10_freshSum_23 : decode cX10_freshSum 23 = .ok (.aload_n 0, 1) := by decide +kernel
theorem dX10_freshSum_24 : decode cX10_freshSum 24 = .ok (.iconst 1, 1) := by decide +kernel
theorem dX10_freshSum_25 : decode cX10_freshSum 25 = .ok (.invokevirtual 250, 3) := by decide +kernel
theorem dX10_freshSum_28 : decode cX10_freshSum 28 = .ok (.ireturn, 1) := by decide +kernel
theorem dX10_asOf_0 : decode cX10_asOf 0 = .ok (.aload_n 0, 1) := by decide +kernel
theorem dX10_asOf_1 : decode cX10_asOf 1 = .ok (.invokevirtual 247, 3) := by decide +kernel
theorem dX10_asOf_4 : decode cX10_asOf 4 = .ok (.aload_n 0, 1) := by decide +kernel
theorem dX10_asOf_5 : decode cX10_asOf 5 = .ok (.aload_n 0, 1) := by decide +kernel
theorem dX10_asOf_6 : decode cX10_asOf 6 = .ok (.iload_n 2, 1) := by decide +kernel
theorem dX10_asOf_7 : decode cX10_asOf 7 = .ok (.invokevirtual 370, 3) := by decide +kernel
theorem dX10_asOf_10 : decode cX10_asOf 10 = .ok (.aload_n 0, 1) := by decide +kernel
theorem dX10_asOf_11 : decode cX10_asOf 11 = .ok (.iload_n 1, 1) := by decide +kernel
theorem dX10_asOf_12 : decode cX10_asOf 12 = .ok (.invokevirtual 345, 3) := by decide +kernel
theorem dX10_asOf_15 : decode cX10_asOf 15 = .ok (.invokevirtual 348, 3) := by decide +kernel
theorem dX10_asOf_18 : decode cX10_asOf 18 = .ok (.istore_n 3, 1) := by decide +kernel
theorem dX10_asOf_19 : decode cX10_asOf 19 = .ok (.iload_n 3, 1) := by decide +kernel
theorem dX10_asOf_20 : decode cX10_asOf 20 = .ok (.ifCond .eq 11, 3) := by decide +kernel
theorem dX10_asOf_23 : decode cX10_asOf 23 = .ok (.aload_n 0, 1) := by decide +kernel
theorem dX10_asOf_24 : decode cX10_asOf 24 = .ok (.iload_n 3, 1) := by decide +kernel
theorem dX10_asOf_25 : decode cX10_asOf 25 = .ok (.invokevirtual 250, 3) := by decide +kernel
theorem dX10_asOf_28 : decode cX10_asOf 28 = .ok (.goto 16, 3) := by decide +kernel
theorem dX10_asOf_31 : decode cX10_asOf 31 = .ok (.aload_n 0, 1) := by decide +kernel
theorem dX10_asOf_32 : decode cX10_asOf 32 = .ok (.aload_n 0, 1) := by decide +kernel
theorem dX10_asOf_33 : decode cX10_asOf 33 = .ok (.getfield 38, 3) := by decide +kernel
theorem dX10_asOf_36 : decode cX10_asOf 36 = .ok (.bipush (-2), 2) := by decide +kernel
theorem dX10_asOf_38 : decode cX10_asOf 38 = .ok (.iload_n 1, 1) := by decide +kernel
theorem dX10_asOf_39 : decode cX10_asOf 39 = .ok (.isub, 1) := by decide +kernel
theorem dX10_asOf_40 : decode cX10_asOf 40 = .ok (.iload_n 2, 1) := by decide +kernel
theorem dX10_asOf_41 : decode cX10_asOf 41 = .ok (.invokevirtual 376, 3) := by decide +kernel
theorem dX10_asOf_44 : decode cX10_asOf 44 = .ok (.ireturn, 1) := by decide +kernel
theorem dX10_changed_0 : decode cX10_changed 0 = .ok (.aload_n 0, 1) := by decide +kernel
theorem dX10_changed_1 : decode cX10_changed 1 = .ok (.invokevirtual 247, 3) := by decide +kernel
theorem dX10_changed_4 : decode cX10_changed 4 = .ok (.aload_n 0, 1) := by decide +kernel
theorem dX10_changed_5 : decode cX10_changed 5 = .ok (.aload_n 0, 1) := by decide +kernel
theorem dX10_changed_6 : decode cX10_changed 6 = .ok (.getfield 260, 3) := by decide +kernel
theorem dX10_changed_9 : decode cX10_changed 9 = .ok (.aload_n 0, 1) := by decide +kernel
theorem dX10_changed_10 : decode cX10_changed 10 = .ok (.iload_n 1, 1) := by decide +kernel
theorem dX10_changed_11 : decode cX10_changed 11 = .ok (.invokevirtual 345, 3) := by decide +kernel
theorem dX10_changed_14 : decode cX10_changed 14 = .ok (.ifCond .eq 15, 3) := by decide +kernel
theorem dX10_changed_17 : decode cX10_changed 17 = .ok (.aload_n 0, 1) := by decide +kernel
theorem dX10_changed_18 : decode cX10_changed 18 = .ok (.iload_n 2, 1) := by decide +kernel
theorem dX10_changed_19 : decode cX10_changed 19 = .ok (.invokevirtual 345, 3) := by decide +kernel
theorem dX10_changed_22 : decode cX10_changed 22 = .ok (.ifCond .eq 7, 3) := by decide +kernel
theorem dX10_changed_25 : decode cX10_changed 25 = .ok (.iconst 1, 1) := by decide +kernel
theorem dX10_changed_26 : decode cX10_changed 26 = .ok (.goto 4, 3) := by decide +kernel
theorem dX10_changed_29 : decode cX10_changed 29 = .ok (.iconst 0, 1) := by decide +kernel
theorem dX10_changed_30 : decode cX10_changed 30 = .ok (.invokevirtual 348, 3) := by decide +kernel
theorem dX10_changed_33 : decode cX10_changed 33 = .ok (.istore_n 3, 1) := by decide +kernel
theorem dX10_changed_34 : decode cX10_changed 34 = .ok (.iload_n 3, 1) := by decide +kernel
theorem dX10_changed_35 : decode cX10_changed 35 = .ok (.ifCond .eq 9, 3) := by decide +kernel
theorem dX10_changed_38 : decode cX10_changed 38 = .ok (.aload_n 0, 1) := by decide +kernel
theorem dX10_changed_39 : decode cX10_changed 39 = .ok (.iload_n 3, 1) := by decide +kernel
theorem dX10_changed_40 : decode cX10_changed 40 = .ok (.invokevirtual 250, 3) := by decide +kernel
theorem dX10_changed_43 : decode cX10_changed 43 = .ok (.ireturn, 1) := by decide +kernel
theorem dX10_changed_44 : decode cX10_changed 44 = .ok (.iconst 0, 1) := by decide +kernel
theorem dX10_changed_45 : decode cX10_changed 45 = .ok (.istore 4, 2) := by decide +kernel
theorem dX10_changed_47 : decode cX10_changed 47 = .ok (.iconst 0, 1) := by decide +kernel
theorem dX10_changed_48 : decode cX10_changed 48 = .ok (.istore 5, 2) := by decide +kernel
theorem dX10_changed_50 : decode cX10_changed 50 = .ok (.iload 5, 2) := by decide +kernel
theorem dX10_changed_52 : decode cX10_changed 52 = .ok (.aload_n 0, 1) := by decide +kernel
theorem dX10_changed_53 : decode cX10_changed 53 = .ok (.getfield 20, 3) := by decide +kernel
theorem dX10_changed_56 : decode cX10_changed 56 = .ok (.iconst 1, 1) := by decide +kernel
theorem dX10_changed_57 : decode cX10_changed 57 = .ok (.iaload, 1) := by decide +kernel
theorem dX10_changed_58 : decode cX10_changed 58 = .ok (.if_icmp .ge 53, 3) := by decide +kernel
theorem dX10_changed_61 : decode cX10_changed 61 = .ok (.iload 4, 2) := by decide +kernel
theorem dX10_changed_63 : decode cX10_changed 63 = .ok (.aload_n 0, 1) := by decide +kernel
theorem dX10_changed_64 : decode cX10_changed 64 = .ok (.aload_n 0, 1) := by decide +kernel
theorem dX10_changed_65 : decode cX10_changed 65 = .ok (.getfield 38, 3) := by decide +kernel
theorem dX10_changed_68 : decode cX10_changed 68 = .ok (.bipush (-2), 2) := by decide +kernel
theorem dX10_changed_70 : decode cX10_changed 70 = .ok (.iload_n 1, 1) := by decide +kernel
theorem dX10_changed_71 : decode cX10_changed 71 = .ok (.isub, 1) := by decide +kernel
theorem dX10_changed_72 : decode cX10_changed 72 = .ok (.iload 5, 2) := by decide +kernel
theorem dX10_changed_74 : decode cX10_changed 74 = .ok (.invokevirtual 376, 3) := by decide +kernel
theorem dX10_changed_77 : decode cX10_changed 77 = .ok (.aload_n 0, 1) := by decide +kernel
theorem dX10_changed_78 : decode cX10_changed 78 = .ok (.aload_n 0, 1) := by decide +kernel
theorem dX10_changed_79 : decode cX10_changed 79 = .ok (.getfield 38, 3) := by decide +kernel
theorem dX10_changed_82 : decode cX10_changed 82 = .ok (.bipush (-2), 2) := by decide +kernel
theorem dX10_changed_84 : decode cX10_changed 84 = .ok (.iload_n 2, 1) := by decide +kernel
theorem dX10_changed_85 : decode cX10_changed 85 = .ok (.isub, 1) := by decide +kernel
theorem dX10_changed_86 : decode cX10_changed 86 = .ok (.iload 5, 2) := by decide +kernel
theorem dX10_changed_88 : decode cX10_changed 88 = .ok (.invokevirtual 376, 3) := by decide +kernel
theorem dX10_changed_91 : decode cX10_changed 91 = .ok (.if_icmp .eq 10, 3) := by decide +kernel
theorem dX10_changed_94 : decode cX10_changed 94 = .ok (.iconst 1, 1) := by decide +kernel
theorem dX10_changed_95 : decode cX10_changed 95 = .ok (.iload 5, 2) := by decide +kernel
theorem dX10_changed_97 : decode cX10_changed 97 = .ok (.ishl, 1) := by decide +kernel
theorem dX10_changed_98 : decode cX10_changed 98 = .ok (.goto 4, 3) := by decide +kernel
theorem dX10_changed_101 : decode cX10_changed 101 = .ok (.iconst 0, 1) := by decide +kernel
theorem dX10_changed_102 : decode cX10_changed 102 = .ok (.ior, 1) := by decide +kernel
theorem dX10_changed_103 : decode cX10_changed 103 = .ok (.istore 4, 2) := by decide +kernel
theorem dX10_changed_105 : decode cX10_changed 105 = .ok (.iinc 5 1, 3) := by decide +kernel
theorem dX10_changed_108 : decode cX10_changed 108 = .ok (.goto (-58), 3) := by decide +kernel
theorem dX10_changed_111 : decode cX10_changed 111 = .ok (.iload 4, 2) := by decide +kernel
theorem dX10_changed_113 : decode cX10_changed 113 = .ok (.ireturn, 1) := by decide +kernel
theorem dX10_mayOf_0 : decode cX10_mayOf 0 = .ok (.aload_n 0, 1) := by decide +kernel
theorem dX10_mayOf_1 : decode cX10_mayOf 1 = .ok (.getfield 38, 3) := by decide +kernel
theorem dX10_mayOf_4 : decode cX10_mayOf 4 = .ok (.sipush 310, 3) := by decide +kernel
theorem dX10_mayOf_7 : decode cX10_mayOf 7 = .ok (.iaload, 1) := by decide +kernel
theorem dX10_mayOf_8 : decode cX10_mayOf 8 = .ok (.iload_n 1, 1) := by decide +kernel
theorem dX10_mayOf_9 : decode cX10_mayOf 9 = .ok (.invokestatic 85, 3) := by decide +kernel
theorem dX10_mayOf_12 : decode cX10_mayOf 12 = .ok (.ifCond .eq 5, 3) := by decide +kernel
theorem dX10_mayOf_15 : decode cX10_mayOf 15 = .ok (.iconst 3, 1) := by decide +kernel
theorem dX10_mayOf_16 : decode cX10_mayOf 16 = .ok (.ireturn, 1) := by decide +kernel
theorem dX10_mayOf_17 : decode cX10_mayOf 17 = .ok (.aload_n 0, 1) := by decide +kernel
theorem dX10_mayOf_18 : decode cX10_mayOf 18 = .ok (.aload_n 0, 1) := by decide +kernel
theorem dX10_mayOf_19 : decode cX10_mayOf 19 = .ok (.getfield 38, 3) := by decide +kernel
theorem dX10_mayOf_22 : decode cX10_mayOf 22 = .ok (.iload_n 1, 1) := by decide +kernel
theorem dX10_mayOf_23 : decode cX10_mayOf 23 = .ok (.iload_n 2, 1) := by decide +kernel
theorem dX10_mayOf_24 : decode cX10_mayOf 24 = .ok (.invokevirtual 130, 3) := by decide +kernel
theorem dX10_mayOf_27 : decode cX10_mayOf 27 = .ok (.ifCond .lt 7, 3) := by decide +kernel
theorem dX10_mayOf_30 : decode cX10_mayOf 30 = .ok (.iconst 1, 1) := by decide +kernel
theorem dX10_mayOf_31 : decode cX10_mayOf 31 = .ok (.goto 21, 3) := by decide +kernel
theorem dX10_mayOf_34 : decode cX10_mayOf 34 = .ok (.aload_n 0, 1) := by decide +kernel
theorem dX10_mayOf_35 : decode cX10_mayOf 35 = .ok (.aload_n 0, 1) := by decide +kernel
theorem dX10_mayOf_36 : decode cX10_mayOf 36 = .ok (.getfield 38, 3) := by decide +kernel
theorem dX10_mayOf_39 : decode cX10_mayOf 39 = .ok (.iload_n 1, 1) := by decide +kernel
theorem dX10_mayOf_40 : decode cX10_mayOf 40 = .ok (.iload_n 2, 1) := by decide +kernel
theorem dX10_mayOf_41 : decode cX10_mayOf 41 = .ok (.invokevirtual 136, 3) := by decide +kernel
theorem dX10_mayOf_44 : decode cX10_mayOf 44 = .ok (.ifCond .eq 7, 3) := by decide +kernel
theorem dX10_mayOf_47 : decode cX10_mayOf 47 = .ok (.iconst 2, 1) := by decide +kernel
theorem dX10_mayOf_48 : decode cX10_mayOf 48 = .ok (.goto 4, 3) := by decide +kernel
theorem dX10_mayOf_51 : decode cX10_mayOf 51 = .ok (.iconst 0, 1) := by decide +kernel
theorem dX10_mayOf_52 : decode cX10_mayOf 52 = .ok (.ireturn, 1) := by decide +kernel
theorem dX10_may_0 : decode cX10_may 0 = .ok (.aload_n 0, 1) := by decide +kernel
theorem dX10_may_1 : decode cX10_may 1 = .ok (.invokevirtual 247, 3) := by decide +kernel
theorem dX10_may_4 : decode cX10_may 4 = .ok (.aload_n 0, 1) := by decide +kernel
theorem dX10_may_5 : decode cX10_may 5 = .ok (.iload_n 1, 1) := by decide +kernel
theorem dX10_may_6 : decode cX10_may 6 = .ok (.invokevirtual 355, 3) := by decide +kernel
theorem dX10_may_9 : decode cX10_may 9 = .ok (.ifCond .eq 20, 3) := by decide +kernel
theorem dX10_may_12 : decode cX10_may 12 = .ok (.aload_n 0, 1) := by decide +kernel
theorem dX10_may_13 : decode cX10_may 13 = .ok (.iload_n 2, 1) := by decide +kernel
theorem dX10_may_14 : decode cX10_may 14 = .ok (.invokevirtual 370, 3) := by decide +kernel
theorem dX10_may_17 : decode cX10_may 17 = .ok (.ifCond .eq 12, 3) := by decide +kernel
theorem dX10_may_20 : decode cX10_may 20 = .ok (.aload_n 0, 1) := by decide +kernel
theorem dX10_may_21 : decode cX10_may 21 = .ok (.iload_n 1, 1) := by decide +kernel
theorem dX10_may_22 : decode cX10_may 22 = .ok (.iload_n 2, 1) := by decide +kernel
theorem dX10_may_23 : decode cX10_may 23 = .ok (.invokevirtual 382, 3) := by decide +kernel
theorem dX10_may_26 : decode cX10_may 26 = .ok (.goto 8, 3) := by decide +kernel
theorem dX10_may_29 : decode cX10_may 29 = .ok (.aload_n 0, 1) := by decide +kernel
theorem dX10_may_30 : decode cX10_may 30 = .ok (.iconst 1, 1) := by decide +kernel
theorem dX10_may_31 : decode cX10_may 31 = .ok (.invokevirtual 250, 3) := by decide +kernel
theorem dX10_may_34 : decode cX10_may 34 = .ok (.ireturn, 1) := by decide +kernel
theorem dX10_waitsFor_0 : decode cX10_waitsFor 0 = .ok (.aload_n 0, 1) := by decide +kernel
theorem dX10_waitsFor_1 : decode cX10_waitsFor 1 = .ok (.invokevirtual 247, 3) := by decide +kernel
theorem dX10_waitsFor_4 : decode cX10_waitsFor 4 = .ok (.aload_n 0, 1) := by decide +kernel
theorem dX10_waitsFor_5 : decode cX10_waitsFor 5 = .ok (.iload_n 1, 1) := by decide +kernel
theorem dX10_waitsFor_6 : decode cX10_waitsFor 6 = .ok (.invokevirtual 355, 3) := by decide +kernel
theorem dX10_waitsFor_9 : decode cX10_waitsFor 9 = .ok (.ifCond .eq 11, 3) := by decide +kernel
theorem dX10_waitsFor_12 : decode cX10_waitsFor 12 = .ok (.aload_n 0, 1) := by decide +kernel
theorem dX10_waitsFor_13 : decode cX10_waitsFor 13 = .ok (.iload_n 2, 1) := by decide +kernel
theorem dX10_waitsFor_14 : decode cX10_waitsFor 14 = .ok (.invokevirtual 370, 3) := by decide +kernel
theorem dX10_waitsFor_17 : decode cX10_waitsFor 17 = .ok (.ifCond .ne 9, 3) := by decide +kernel
theorem dX10_waitsFor_20 : decode cX10_waitsFor 20 = .ok (.aload_n 0, 1) := by decide +kernel
theorem dX10_waitsFor_21 : decode cX10_waitsFor 21 = .ok (.iconst 1, 1) := by decide +kernel
theorem dX10_waitsFor_22 : decode cX10_waitsFor 22 = .ok (.invokevirtual 250, 3) := by decide +kernel
theorem dX10_waitsFor_25 : decode cX10_waitsFor 25 = .ok (.ireturn, 1) := by decide +kernel
theorem dX10_waitsFor_26 : decode cX10_waitsFor 26 = .ok (.aload_n 0, 1) := by decide +kernel
theorem dX10_waitsFor_27 : decode cX10_waitsFor 27 = .ok (.getfield 38, 3) := by decide +kernel
theorem dX10_waitsFor_30 : decode cX10_waitsFor 30 = .ok (.sipush 310, 3) := by decide +kernel
theorem dX10_waitsFor_33 : decode cX10_waitsFor 33 = .ok (.iaload, 1) := by decide +kernel
theorem dX10_waitsFor_34 : decode cX10_waitsFor 34 = .ok (.iload_n 1, 1) := by decide +kernel
theorem dX10_waitsFor_35 : decode cX10_waitsFor 35 = .ok (.invokestatic 85, 3) := by decide +kernel
theorem dX10_waitsFor_38 : decode cX10_waitsFor 38 = .ok (.ifCond .eq 8, 3) := by decide +kernel
theorem dX10_waitsFor_41 : decode cX10_waitsFor 41 = .ok (.bipush (-2), 2) := by decide +kernel
theorem dX10_waitsFor_43 : decode cX10_waitsFor 43 = .ok (.goto 13, 3) := by decide +kernel
theorem dX10_waitsFor_46 : decode cX10_waitsFor 46 = .ok (.aload_n 0, 1) := by decide +kernel
theorem dX10_waitsFor_47 : decode cX10_waitsFor 47 = .ok (.aload_n 0, 1) := by decide +kernel
theorem dX10_waitsFor_48 : decode cX10_waitsFor 48 = .ok (.getfield 38, 3) := by decide +kernel
theorem dX10_waitsFor_51 : decode cX10_waitsFor 51 = .ok (.iload_n 1, 1) := by decide +kernel
theorem dX10_waitsFor_52 : decode cX10_waitsFor 52 = .ok (.iload_n 2, 1) := by decide +kernel
theorem dX10_waitsFor_53 : decode cX10_waitsFor 53 = .ok (.invokevirtual 130, 3) := by decide +kernel
theorem dX10_waitsFor_56 : decode cX10_waitsFor 56 = .ok (.ireturn, 1) := by decide +kernel
theorem dX10_rowsBy_0 : decode cX10_rowsBy 0 = .ok (.iconst 0, 1) := by decide +kernel
theorem dX10_rowsBy_1 : decode cX10_rowsBy 1 = .ok (.istore_n 3, 1) := by decide +kernel
theorem dX10_rowsBy_2 : decode cX10_rowsBy 2 = .ok (.iconst 0, 1) := by decide +kernel
theorem dX10_rowsBy_3 : decode cX10_rowsBy 3 = .ok (.istore 4, 2) := by decide +kernel
theorem dX10_rowsBy_5 : decode cX10_rowsBy 5 = .ok (.iload 4, 2) := by decide +kernel
theorem dX10_rowsBy_7 : decode cX10_rowsBy 7 = .ok (.aload_n 0, 1) := by decide +kernel
theorem dX10_rowsBy_8 : decode cX10_rowsBy 8 = .ok (.getfield 20, 3) := by decide +kernel
theorem dX10_rowsBy_11 : decode cX10_rowsBy 11 = .ok (.iconst 1, 1) := by decide +kernel
theorem dX10_rowsBy_12 : decode cX10_rowsBy 12 = .ok (.iaload, 1) := by decide +kernel
theorem dX10_rowsBy_13 : decode cX10_rowsBy 13 = .ok (.if_icmp .ge 31, 3) := by decide +kernel
theorem dX10_rowsBy_16 : decode cX10_rowsBy 16 = .ok (.iload_n 3, 1) := by decide +kernel
theorem dX10_rowsBy_17 : decode cX10_rowsBy 17 = .ok (.aload_n 0, 1) := by decide +kernel
theorem dX10_rowsBy_18 : decode cX10_rowsBy 18 = .ok (.iload_n 1, 1) := by decide +kernel
theorem dX10_rowsBy_19 : decode cX10_rowsBy 19 = .ok (.iload 4, 2) := by decide +kernel
theorem dX10_rowsBy_21 : decode cX10_rowsBy 21 = .ok (.invokevirtual 382, 3) := by decide +kernel
theorem dX10_rowsBy_24 : decode cX10_rowsBy 24 = .ok (.iload_n 2, 1) := by decide +kernel
theorem dX10_rowsBy_25 : decode cX10_rowsBy 25 = .ok (.if_icmp .ne 10, 3) := by decide +kernel
theorem dX10_rowsBy_28 : decode cX10_rowsBy 28 = .ok (.iconst 1, 1) := by decide +kernel
theorem dX10_rowsBy_29 : decode cX10_rowsBy 29 = .ok (.iload 4, 2) := by decide +kernel
theorem dX10_rowsBy_31 : decode cX10_rowsBy 31 = .ok (.ishl, 1) := by decide +kernel
theorem dX10_rowsBy_32 : decode cX10_rowsBy 32 = .ok (.goto 4, 3) := by decide +kernel
theorem dX10_rowsBy_35 : decode cX10_rowsBy 35 = .ok (.iconst 0, 1) := by decide +kernel
theorem dX10_rowsBy_36 : decode cX10_rowsBy 36 = .ok (.ior, 1) := by decide +kernel
theorem dX10_rowsBy_37 : decode cX10_rowsBy 37 = .ok (.istore_n 3, 1) := by decide +kernel
theorem dX10_rowsBy_38 : decode cX10_rowsBy 38 = .ok (.iinc 4 1, 3) := by decide +kernel
theorem dX10_rowsBy_41 : decode cX10_rowsBy 41 = .ok (.goto (-36), 3) := by decide +kernel
theorem dX10_rowsBy_44 : decode cX10_rowsBy 44 = .ok (.iload_n 3, 1) := by decide +kernel
theorem dX10_rowsBy_45 : decode cX10_rowsBy 45 = .ok (.ireturn, 1) := by decide +kernel
theorem dX10_open_0 : decode cX10_open 0 = .ok (.aload_n 0, 1) := by decide +kernel
theorem dX10_open_1 : decode cX10_open 1 = .ok (.invokevirtual 247, 3) := by decide +kernel
theorem dX10_open_4 : decode cX10_open 4 = .ok (.aload_n 0, 1) := by decide +kernel
theorem dX10_open_5 : decode cX10_open 5 = .ok (.iload_n 1, 1) := by decide +kernel
theorem dX10_open_6 : decode cX10_open 6 = .ok (.invokevirtual 355, 3) := by decide +kernel
theorem dX10_open_9 : decode cX10_open 9 = .ok (.ifCond .eq 12, 3) := by decide +kernel
theorem dX10_open_12 : decode cX10_open 12 = .ok (.aload_n 0, 1) := by decide +kernel
theorem dX10_open_13 : decode cX10_open 13 = .ok (.iload_n 1, 1) := by decide +kernel
theorem dX10_open_14 : decode cX10_open 14 = .ok (.iconst 0, 1) := by decide +kernel
theorem dX10_open_15 : decode cX10_open 15 = .ok (.invokevirtual 385, 3) := by decide +kernel
theorem dX10_open_18 : decode cX10_open 18 = .ok (.goto 8, 3) := by decide +kernel
theorem dX10_open_21 : decode cX10_open 21 = .ok (.aload_n 0, 1) := by decide +kernel
theorem dX10_open_22 : decode cX10_open 22 = .ok (.iconst 1, 1) := by decide +kernel
theorem dX10_open_23 : decode cX10_open 23 = .ok (.invokevirtual 250, 3) := by decide +kernel
theorem dX10_open_26 : decode cX10_open 26 = .ok (.ireturn, 1) := by decide +kernel
theorem dX10_loses_0 : decode cX10_loses 0 = .ok (.aload_n 0, 1) := by decide +kernel
theorem dX10_loses_1 : decode cX10_loses 1 = .ok (.invokevirtual 247, 3) := by decide +kernel
theorem dX10_loses_4 : decode cX10_loses 4 = .ok (.aload_n 0, 1) := by decide +kernel
theorem dX10_loses_5 : decode cX10_loses 5 = .ok (.iload_n 1, 1) := by decide +kernel
theorem dX10_loses_6 : decode cX10_loses 6 = .ok (.invokevirtual 355, 3) := by decide +kernel
theorem dX10_loses_9 : decode cX10_loses 9 = .ok (.ifCond .eq 12, 3) := by decide +kernel
theorem dX10_loses_12 : decode cX10_loses 12 = .ok (.aload_n 0, 1) := by decide +kernel
theorem dX10_loses_13 : decode cX10_loses 13 = .ok (.iload_n 1, 1) := by decide +kernel
theorem dX10_loses_14 : decode cX10_loses 14 = .ok (.iconst 2, 1) := by decide +kernel
theorem dX10_loses_15 : decode cX10_loses 15 = .ok (.invokevirtual 385, 3) := by decide +kernel
theorem dX10_loses_18 : decode cX10_loses 18 = .ok (.goto 8, 3) := by decide +kernel
theorem dX10_loses_21 : decode cX10_loses 21 = .ok (.aload_n 0, 1) := by decide +kernel
theorem dX10_loses_22 : decode cX10_loses 22 = .ok (.iconst 1, 1) := by decide +kernel
theorem dX10_loses_23 : decode cX10_loses 23 = .ok (.invokevirtual 250, 3) := by decide +kernel
theorem dX10_loses_26 : decode cX10_loses 26 = .ok (.ireturn, 1) := by decide +kernel
theorem dX10_wrongBy_0 : decode cX10_wrongBy 0 = .ok (.aload_n 0, 1) := by decide +kernel
theorem dX10_wrongBy_1 : decode cX10_wrongBy 1 = .ok (.getfield 26, 3) := by decide +kernel
theorem dX10_wrongBy_4 : decode cX10_wrongBy 4 = .ok (.iconst 0, 1) := by decide +kernel
theorem dX10_wrongBy_5 : decode cX10_wrongBy 5 = .ok (.aload_n 0, 1) := by decide +kernel
theorem dX10_wrongBy_6 : decode cX10_wrongBy 6 = .ok (.getfield 41, 3) := by decide +kernel
theorem dX10_wrongBy_9 : decode cX10_wrongBy 9 = .ok (.iconst 0, 1) := by decide +kernel
theorem dX10_wrongBy_10 : decode cX10_wrongBy 10 = .ok (.sipush 325, 3) := by decide +kernel
theorem dX10_wrongBy_13 : decode cX10_wrongBy 13 = .ok (.invokestatic 256, 3) := by decide +kernel
theorem dX10_wrongBy_16 : decode cX10_wrongBy 16 = .ok (.iconst 0, 1) := by decide +kernel
theorem dX10_wrongBy_17 : decode cX10_wrongBy 17 = .ok (.istore_n 2, 1) := by decide +kernel
theorem dX10_wrongBy_18 : decode cX10_wrongBy 18 = .ok (.iload_n 2, 1) := by decide +kernel
theorem dX10_wrongBy_19 : decode cX10_wrongBy 19 = .ok (.aload_n 0, 1) := by decide +kernel
theorem dX10_wrongBy_20 : decode cX10_wrongBy 20 = .ok (.getfield 20, 3) := by decide +kernel
theorem dX10_wrongBy_23 : decode cX10_wrongBy 23 = .ok (.iconst 4, 1) := by decide +kernel
theorem dX10_wrongBy_24 : decode cX10_wrongBy 24 = .ok (.iaload, 1) := by decide +kernel
theorem dX10_wrongBy_25 : decode cX10_wrongBy 25 = .ok (.if_icmp .ge 82, 3) := by decide +kernel
theorem dX10_wrongBy_28 : decode cX10_wrongBy 28 = .ok (.aload_n 0, 1) := by decide +kernel
theorem dX10_wrongBy_29 : decode cX10_wrongBy 29 = .ok (.getfield 20, 3) := by decide +kernel
theorem dX10_wrongBy_32 : decode cX10_wrongBy 32 = .ok (.bipush 8, 2) := by decide +kernel
theorem dX10_wrongBy_34 : decode cX10_wrongBy 34 = .ok (.iload_n 2, 1) := by decide +kernel
theorem dX10_wrongBy_35 : decode cX10_wrongBy 35 = .ok (.iadd, 1) := by decide +kernel
theorem dX10_wrongBy_36 : decode cX10_wrongBy 36 = .ok (.iaload, 1) := by decide +kernel
theorem dX10_wrongBy_37 : decode cX10_wrongBy 37 = .ok (.istore_n 3, 1) := by decide +kernel
theorem dX10_wrongBy_38 : decode cX10_wrongBy 38 = .ok (.aload_n 0, 1) := by decide +kernel
theorem dX10_wrongBy_39 : decode cX10_wrongBy 39 = .ok (.getfield 20, 3) := by decide +kernel
theorem dX10_wrongBy_42 : decode cX10_wrongBy 42 = .ok (.bipush 20, 2) := by decide +kernel
theorem dX10_wrongBy_44 : decode cX10_wrongBy 44 = .ok (.iload_n 3, 1) := by decide +kernel
theorem dX10_wrongBy_45 : decode cX10_wrongBy 45 = .ok (.iadd, 1) := by decide +kernel
theorem dX10_wrongBy_46 : decode cX10_wrongBy 46 = .ok (.iaload, 1) := by decide +kernel
theorem dX10_wrongBy_47 : decode cX10_wrongBy 47 = .ok (.istore 4, 2) := by decide +kernel
theorem dX10_wrongBy_49 : decode cX10_wrongBy 49 = .ok (.iload_n 1, 1) := by decide +kernel
theorem dX10_wrongBy_50 : decode cX10_wrongBy 50 = .ok (.iload_n 2, 1) := by decide +kernel
theorem dX10_wrongBy_51 : decode cX10_wrongBy 51 = .ok (.invokestatic 85, 3) := by decide +kernel
theorem dX10_wrongBy_54 : decode cX10_wrongBy 54 = .ok (.ifCond .eq 47, 3) := by decide +kernel
theorem dX10_wrongBy_57 : decode cX10_wrongBy 57 = .ok (.aload_n 0, 1) := by decide +kernel
theorem dX10_wrongBy_58 : decode cX10_wrongBy 58 = .ok (.getfield 35, 3) := by decide +kernel
theorem dX10_wrongBy_61 : decode cX10_wrongBy 61 = .ok (.iload 4, 2) := by decide +kernel
theorem dX10_wrongBy_63 : decode cX10_wrongBy 63 = .ok (.iaload, 1) := by decide +kernel
theorem dX10_wrongBy_64 : decode cX10_wrongBy 64 = .ok (.iload_n 3, 1) := by decide +kernel
theorem dX10_wrongBy_65 : decode cX10_wrongBy 65 = .ok (.iconst 1, 1) := by decide +kernel
theorem dX10_wrongBy_66 : decode cX10_wrongBy 66 = .ok (.iadd, 1) := by decide +kernel
theorem dX10_wrongBy_67 : decode cX10_wrongBy 67 = .ok (.if_icmp .ne 34, 3) := by decide +kernel
theorem dX10_wrongBy_70 : decode cX10_wrongBy 70 = .ok (.aload_n 0, 1) := by decide +kernel
theorem dX10_wrongBy_71 : decode cX10_wrongBy 71 = .ok (.getfield 41, 3) := by decide +kernel
theorem dX10_wrongBy_74 : decode cX10_wrongBy 74 = .ok (.sipush 240, 3) := by decide +kernel
theorem dX10_wrongBy_77 : decode cX10_wrongBy 77 = .ok (.iload 4, 2) := by decide +kernel
theorem dX10_wrongBy_79 : decode cX10_wrongBy 79 = .ok (.iadd, 1) := by decide +kernel
theorem dX10_wrongBy_80 : decode cX10_wrongBy 80 = .ok (.aload_n 0, 1) := by decide +kernel
theorem dX10_wrongBy_81 : decode cX10_wrongBy 81 = .ok (.getfield 41, 3) := by decide +kernel
theorem dX10_wrongBy_84 : decode cX10_wrongBy 84 = .ok (.sipush 240, 3) := by decide +kernel
theorem dX10_wrongBy_87 : decode cX10_wrongBy 87 = .ok (.iload 4, 2) := by decide +kernel
theorem dX10_wrongBy_89 : decode cX10_wrongBy 89 = .ok (.iadd, 1) := by decide +kernel
theorem dX10_wrongBy_90 : decode cX10_wrongBy 90 = .ok (.iaload, 1) := by decide +kernel
theorem dX10_wrongBy_91 : decode cX10_wrongBy 91 = .ok (.iconst 2, 1) := by decide +kernel
theorem dX10_wrongBy_92 : decode cX10_wrongBy 92 = .ok (.if_icmp .ne 7, 3) := by decide +kernel
theorem dX10_wrongBy_95 : decode cX10_wrongBy 95 = .ok (.iconst 3, 1) := by decide +kernel
theorem dX10_wrongBy_96 : decode cX10_wrongBy 96 = .ok (.goto 4, 3) := by decide +kernel
theorem dX10_wrongBy_99 : decode cX10_wrongBy 99 = .ok (.iconst 2, 1) := by decide +kernel
theorem dX10_wrongBy_100 : decode cX10_wrongBy 100 = .ok (.iastore, 1) := by decide +kernel
theorem dX10_wrongBy_101 : decode cX10_wrongBy 101 = .ok (.iinc 2 1, 3) := by decide +kernel
theorem dX10_wrongBy_104 : decode cX10_wrongBy 104 = .ok (.goto (-86), 3) := by decide +kernel
theorem dX10_wrongBy_107 : decode cX10_wrongBy 107 = .ok (.aload_n 0, 1) := by decide +kernel
theorem dX10_wrongBy_108 : decode cX10_wrongBy 108 = .ok (.invokevirtual 388, 3) := by decide +kernel
theorem dX10_wrongBy_111 : decode cX10_wrongBy 111 = .ok (.ireturn, 1) := by decide +kernel
theorem dX10_firstWrong_0 : decode cX10_firstWrong 0 = .ok (.iconst 0, 1) := by decide +kernel
theorem dX10_firstWrong_1 : decode cX10_firstWrong 1 = .ok (.istore_n 1, 1) := by decide +kernel
theorem dX10_firstWrong_2 : decode cX10_firstWrong 2 = .ok (.iload_n 1, 1) := by decide +kernel
theorem dX10_firstWrong_3 : decode cX10_firstWrong 3 = .ok (.aload_n 0, 1) := by decide +kernel
theorem dX10_firstWrong_4 : decode cX10_firstWrong 4 = .ok (.getfield 20, 3) := by decide +kernel
theorem dX10_firstWrong_7 : decode cX10_firstWrong 7 = .ok (.iconst 5, 1) := by decide +kernel
theorem dX10_firstWrong_8 : decode cX10_firstWrong 8 = .ok (.iaload, 1) := by decide +kernel
theorem dX10_firstWrong_9 : decode cX10_firstWrong 9 = .ok (.if_icmp .ge 52, 3) := by decide +kernel
theorem dX10_firstWrong_12 : decode cX10_firstWrong 12 = .ok (.aload_n 0, 1) := by decide +kernel
theorem dX10_firstWrong_13 : decode cX10_firstWrong 13 = .ok (.getfield 56, 3) := by decide +kernel
theorem dX10_firstWrong_16 : decode cX10_firstWrong 16 = .ok (.iload_n 1, 1) := by decide +kernel
theorem dX10_firstWrong_17 : decode cX10_firstWrong 17 = .ok (.iaload, 1) := by decide +kernel
theorem dX10_firstWrong_18 : decode cX10_firstWrong 18 = .ok (.istore_n 2, 1) := by decide +kernel
theorem dX10_firstWrong_19 : decode cX10_firstWrong 19 = .ok (.aload_n 0, 1) := by decide +kernel
theorem dX10_firstWrong_20 : decode cX10_firstWrong 20 = .ok (.aload_n 0, 1) := by decide +kernel
theorem dX10_firstWrong_21 : decode cX10_firstWrong 21 = .ok (.getfield 41, 3) := by decide +kernel
theorem dX10_firstWrong_24 : decode cX10_firstWrong 24 = .ok (.iconst (-1), 1) := by decide +kernel
theorem dX10_firstWrong_25 : decode cX10_firstWrong 25 = .ok (.iload_n 2, 1) := by decide +kernel
theorem dX10_firstWrong_26 : decode cX10_firstWrong 26 = .ok (.invokevirtual 376, 3) := by decide +kernel
theorem dX10_firstWrong_29 : decode cX10_firstWrong 29 = .ok (.istore_n 3, 1) := by decide +kernel
theorem dX10_firstWrong_30 : decode cX10_firstWrong 30 = .ok (.iload_n 3, 1) := by decide +kernel
theorem dX10_firstWrong_31 : decode cX10_firstWrong 31 = .ok (.ifCond .ge 7, 3) := by decide +kernel
theorem dX10_firstWrong_34 : decode cX10_firstWrong 34 = .ok (.iconst (-1), 1) := by decide +kernel
theorem dX10_firstWrong_35 : decode cX10_firstWrong 35 = .ok (.goto 4, 3) := by decide +kernel
theorem dX10_firstWrong_38 : decode cX10_firstWrong 38 = .ok (.iload_n 3, 1) := by decide +kernel
theorem dX10_firstWrong_39 : decode cX10_firstWrong 39 = .ok (.iconst 2, 1) := by decide +kernel
theorem dX10_firstWrong_40 : decode cX10_firstWrong 40 = .ok (.iadd, 1) := by decide +kernel
theorem dX10_firstWrong_41 : decode cX10_firstWrong 41 = .ok (.aload_n 0, 1) := by decide +kernel
theorem dX10_firstWrong_42 : decode cX10_firstWrong 42 = .ok (.getfield 20, 3) := by decide +kernel
theorem dX10_firstWrong_45 : decode cX10_firstWrong 45 = .ok (.bipush 12, 2) := by decide +kernel
theorem dX10_firstWrong_47 : decode cX10_firstWrong 47 = .ok (.iload_n 2, 1) := by decide +kernel
theorem dX10_firstWrong_48 : decode cX10_firstWrong 48 = .ok (.iadd, 1) := by decide +kernel
theorem dX10_firstWrong_49 : decode cX10_firstWrong 49 = .ok (.iaload, 1) := by decide +kernel
theorem dX10_firstWrong_50 : decode cX10_firstWrong 50 = .ok (.if_icmp .eq 5, 3) := by decide +kernel
theorem dX10_firstWrong_53 : decode cX10_firstWrong 53 = .ok (.iload_n 1, 1) := by decide +kernel
theorem dX10_firstWrong_54 : decode cX10_firstWrong 54 = .ok (.ireturn, 1) := by decide +kernel
theorem dX10_firstWrong_55 : decode cX10_firstWrong 55 = .ok (.iinc 1 1, 3) := by decide +kernel
theorem dX10_firstWrong_58 : decode cX10_firstWrong 58 = .ok (.goto (-56), 3) := by decide +kernel
theorem dX10_firstWrong_61 : decode cX10_firstWrong 61 = .ok (.bipush (-2), 2) := by decide +kernel
theorem dX10_firstWrong_63 : decode cX10_firstWrong 63 = .ok (.ireturn, 1) := by decide +kernel
theorem dX10_seekSets_0 : decode cX10_seekSets 0 = .ok (.iconst (-1), 1) := by decide +kernel
theorem dX10_seekSets_1 : decode cX10_seekSets 1 = .ok (.istore_n 2, 1) := by decide +kernel
theorem dX10_seekSets_2 : decode cX10_seekSets 2 = .ok (.aload_n 0, 1) := by decide +kernel
theorem dX10_seekSets_3 : decode cX10_seekSets 3 = .ok (.iconst 0, 1) := by decide +kernel
theorem dX10_seekSets_4 : decode cX10_seekSets 4 = .ok (.putfield 391, 3) := by decide +kernel
theorem dX10_seekSets_7 : decode cX10_seekSets 7 = .ok (.aload_n 0, 1) := by decide +kernel
theorem dX10_seekSets_8 : decode cX10_seekSets 8 = .ok (.iconst 0, 1) := by decide +kernel
theorem dX10_seekSets_9 : decode cX10_seekSets 9 = .ok (.putfield 394, 3) := by decide +kernel
theorem dX10_seekSets_12 : decode cX10_seekSets 12 = .ok (.aload_n 0, 1) := by decide +kernel
theorem dX10_seekSets_13 : decode cX10_seekSets 13 = .ok (.iconst 1, 1) := by decide +kernel
theorem dX10_seekSets_14 : decode cX10_seekSets 14 = .ok (.aload_n 0, 1) := by decide +kernel
theorem dX10_seekSets_15 : decode cX10_seekSets 15 = .ok (.getfield 20, 3) := by decide +kernel
theorem dX10_seekSets_18 : decode cX10_seekSets 18 = .ok (.iconst 4, 1) := by decide +kernel
theorem dX10_seekSets_19 : decode cX10_seekSets 19 = .ok (.iaload, 1) := by decide +kernel
theorem dX10_seekSets_20 : decode cX10_seekSets 20 = .ok (.ishl, 1) := by decide +kernel
theorem dX10_seekSets_21 : decode cX10_seekSets 21 = .ok (.iconst 1, 1) := by decide +kernel
theorem dX10_seekSets_22 : decode cX10_seekSets 22 = .ok (.isub, 1) := by decide +kernel
theorem dX10_seekSets_23 : decode cX10_seekSets 23 = .ok (.putfield 397, 3) := by decide +kernel
theorem dX10_seekSets_26 : decode cX10_seekSets 26 = .ok (.iconst 0, 1) := by decide +kernel
theorem dX10_seekSets_27 : decode cX10_seekSets 27 = .ok (.istore_n 3, 1) := by decide +kernel
theorem dX10_seekSets_28 : decode cX10_seekSets 28 = .ok (.iload_n 3, 1) := by decide +kernel
theorem dX10_seekSets_29 : decode cX10_seekSets 29 = .ok (.iconst 4, 1) := by decide +kernel
theorem dX10_seekSets_30 : decode cX10_seekSets 30 = .ok (.if_icmp .ge 16, 3) := by decide +kernel
theorem dX10_seekSets_33 : decode cX10_seekSets 33 = .ok (.aload_n 0, 1) := by decide +kernel
theorem dX10_seekSets_34 : decode cX10_seekSets 34 = .ok (.getfield 62, 3) := by decide +kernel
theorem dX10_seekSets_37 : decode cX10_seekSets 37 = .ok (.iload_n 3, 1) := by decide +kernel
theorem dX10_seekSets_38 : decode cX10_seekSets 38 = .ok (.iconst 0, 1) := by decide +kernel
theorem dX10_seekSets_39 : decode cX10_seekSets 39 = .ok (.iastore, 1) := by decide +kernel
theorem dX10_seekSets_40 : decode cX10_seekSets 40 = .ok (.iinc 3 1, 3) := by decide +kernel
theorem dX10_seekSets_43 : decode cX10_seekSets 43 = .ok (.goto (-15), 3) := by decide +kernel
theorem dX10_seekSets_46 : decode cX10_seekSets 46 = .ok (.iconst 0, 1) := by decide +kernel
theorem dX10_seekSets_47 : decode cX10_seekSets 47 = .ok (.istore_n 3, 1) := by decide +kernel
theorem dX10_seekSets_48 : decode cX10_seekSets 48 = .ok (.iload_n 3, 1) := by decide +kernel
theorem dX10_seekSets_49 : decode cX10_seekSets 49 = .ok (.iconst 1, 1) := by decide +kernel
theorem dX10_seekSets_50 : decode cX10_seekSets 50 = .ok (.aload_n 0, 1) := by decide +kernel
theorem dX10_seekSets_51 : decode cX10_seekSets 51 = .ok (.getfield 20, 3) := by decide +kernel
theorem dX10_seekSets_54 : decode cX10_seekSets 54 = .ok (.iconst 4, 1) := by decide +kernel
theorem dX10_seekSets_55 : decode cX10_seekSets 55 = .ok (.iaload, 1) := by decide +kernel
theorem dX10_seekSets_56 : decode cX10_seekSets 56 = .ok (.ishl, 1) := by decide +kernel
theorem dX10_seekSets_57 : decode cX10_seekSets 57 = .ok (.if_icmp .ge 98, 3) := by decide +kernel
theorem dX10_seekSets_60 : decode cX10_seekSets 60 = .ok (.aload_n 0, 1) := by decide +kernel
theorem dX10_seekSets_61 : decode cX10_seekSets 61 = .ok (.iload_n 3, 1) := by decide +kernel
theorem dX10_seekSets_62 : decode cX10_seekSets 62 = .ok (.invokevirtual 400, 3) := by decide +kernel
theorem dX10_seekSets_65 : decode cX10_seekSets 65 = .ok (.bipush (-2), 2) := by decide +kernel
theorem dX10_seekSets_67 : decode cX10_seekSets 67 = .ok (.if_icmp .eq 6, 3) := by decide +kernel
theorem dX10_seekSets_70 : decode cX10_seekSets 70 = .ok (.goto 79, 3) := by decide +kernel
theorem dX10_seekSets_73 : decode cX10_seekSets 73 = .ok (.aload_n 0, 1) := by decide +kernel
theorem dX10_seekSets_74 : decode cX10_seekSets 74 = .ok (.getfield 391, 3) := by decide +kernel
theorem dX10_seekSets_77 : decode cX10_seekSets 77 = .ok (.iload_n 1, 1) := by decide +kernel
theorem dX10_seekSets_78 : decode cX10_seekSets 78 = .ok (.if_icmp .ne 5, 3) := by decide +kernel
theorem dX10_seekSets_81 : decode cX10_seekSets 81 = .ok (.iload_n 3, 1) := by decide +kernel
theorem dX10_seekSets_82 : decode cX10_seekSets 82 = .ok (.istore_n 2, 1) := by decide +kernel
theorem dX10_seekSets_83 : decode cX10_seekSets 83 = .ok (.aload_n 0, 1) := by decide +kernel
theorem dX10_seekSets_84 : decode cX10_seekSets 84 = .ok (.dup, 1) := by decide +kernel
theorem dX10_seekSets_85 : decode cX10_seekSets 85 = .ok (.getfield 391, 3) := by decide +kernel
theorem dX10_seekSets_88 : decode cX10_seekSets 88 = .ok (.iconst 1, 1) := by decide +kernel
theorem dX10_seekSets_89 : decode cX10_seekSets 89 = .ok (.iadd, 1) := by decide +kernel
theorem dX10_seekSets_90 : decode cX10_seekSets 90 = .ok (.putfield 391, 3) := by decide +kernel
theorem dX10_seekSets_93 : decode cX10_seekSets 93 = .ok (.aload_n 0, 1) := by decide +kernel
theorem dX10_seekSets_94 : decode cX10_seekSets 94 = .ok (.dup, 1) := by decide +kernel
theorem dX10_seekSets_95 : decode cX10_seekSets 95 = .ok (.getfield 394, 3) := by decide +kernel
theorem dX10_seekSets_98 : decode cX10_seekSets 98 = .ok (.iload_n 3, 1) := by decide +kernel
theorem dX10_seekSets_99 : decode cX10_seekSets 99 = .ok (.ior, 1) := by decide +kernel
theorem dX10_seekSets_100 : decode cX10_seekSets 100 = .ok (.putfield 394, 3) := by decide +kernel
theorem dX10_seekSets_103 : decode cX10_seekSets 103 = .ok (.aload_n 0, 1) := by decide +kernel
theorem dX10_seekSets_104 : decode cX10_seekSets 104 = .ok (.dup, 1) := by decide +kernel
theorem dX10_seekSets_105 : decode cX10_seekSets 105 = .ok (.getfield 397, 3) := by decide +kernel
theorem dX10_seekSets_108 : decode cX10_seekSets 108 = .ok (.iload_n 3, 1) := by decide +kernel
theorem dX10_seekSets_109 : decode cX10_seekSets 109 = .ok (.iand, 1) := by decide +kernel
theorem dX10_seekSets_110 : decode cX10_seekSets 110 = .ok (.putfield 397, 3) := by decide +kernel
theorem dX10_seekSets_113 : decode cX10_seekSets 113 = .ok (.iconst 0, 1) := by decide +kernel
theorem dX10_seekSets_114 : decode cX10_seekSets 114 = .ok (.istore 4, 2) := by decide +kernel
theorem dX10_seekSets_116 : decode cX10_seekSets 116 = .ok (.iload 4, 2) := by decide +kernel
theorem dX10_seekSets_118 : decode cX10_seekSets 118 = .ok (.aload_n 0, 1) := by decide +kernel
theorem dX10_seekSets_119 : decode cX10_seekSets 119 = .ok (.getfield 20, 3) := by decide +kernel
theorem dX10_seekSets_122 : decode cX10_seekSets 122 = .ok (.iconst 4, 1) := by decide +kernel
theorem dX10_seekSets_123 : decode cX10_seekSets 123 = .ok (.iaload, 1) := by decide +kernel
theorem dX10_seekSets_124 : decode cX10_seekSets 124 = .ok (.if_icmp .ge 25, 3) := by decide +kernel
theorem dX10_seekSets_127 : decode cX10_seekSets 127 = .ok (.aload_n 0, 1) := by decide +kernel
theorem dX10_seekSets_128 : decode cX10_seekSets 128 = .ok (.getfield 62, 3) := by decide +kernel
theorem dX10_seekSets_131 : decode cX10_seekSets 131 = .ok (.iload 4, 2) := by decide +kernel
theorem dX10_seekSets_133 : decode cX10_seekSets 133 = .ok (.dup2, 1) := by decide +kernel
theorem dX10_seekSets_134 : decode cX10_seekSets 134 = .ok (.iaload, 1) := by decide +kernel
theorem dX10_seekSets_135 : decode cX10_seekSets 135 = .ok (.iload_n 3, 1) := by decide +kernel
theorem dX10_seekSets_136 : decode cX10_seekSets 136 = .ok (.iload 4, 2) := by decide +kernel
theorem dX10_seekSets_138 : decode cX10_seekSets 138 = .ok (.ishr, 1) := by decide +kernel
theorem dX10_seekSets_139 : decode cX10_seekSets 139 = .ok (.iconst 1, 1) := by decide +kernel
theorem dX10_seekSets_140 : decode cX10_seekSets 140 = .ok (.iand, 1) := by decide +kernel
theorem dX10_seekSets_141 : decode cX10_seekSets 141 = .ok (.iadd, 1) := by decide +kernel
theorem dX10_seekSets_142 : decode cX10_seekSets 142 = .ok (.iastore, 1) := by decide +kernel
theorem dX10_seekSets_143 : decode cX10_seekSets 143 = .ok (.iinc 4 1, 3) := by decide +kernel
theorem dX10_seekSets_146 : decode cX10_seekSets 146 = .ok (.goto (-30), 3) := by decide +kernel
theorem dX10_seekSets_149 : decode cX10_seekSets 149 = .ok (.iinc 3 1, 3) := by decide +kernel
theorem dX10_seekSets_152 : decode cX10_seekSets 152 = .ok (.goto (-104), 3) := by decide +kernel
theorem dX10_seekSets_155 : decode cX10_seekSets 155 = .ok (.aload_n 0, 1) := by decide +kernel
theorem dX10_seekSets_156 : decode cX10_seekSets 156 = .ok (.getfield 391, 3) := by decide +kernel
theorem dX10_seekSets_159 : decode cX10_seekSets 159 = .ok (.ifCond .ne 8, 3) := by decide +kernel
theorem dX10_seekSets_162 : decode cX10_seekSets 162 = .ok (.aload_n 0, 1) := by decide +kernel
theorem dX10_seekSets_163 : decode cX10_seekSets 163 = .ok (.iconst 0, 1) := by decide +kernel
theorem dX10_seekSets_164 : decode cX10_seekSets 164 = .ok (.putfield 397, 3) := by decide +kernel
theorem dX10_seekSets_167 : decode cX10_seekSets 167 = .ok (.iload_n 2, 1) := by decide +kernel
theorem dX10_seekSets_168 : decode cX10_seekSets 168 = .ok (.ireturn, 1) := by decide +kernel
theorem dX10_fits_0 : decode cX10_fits 0 = .ok (.aload_n 0, 1) := by decide +kernel
theorem dX10_fits_1 : decode cX10_fits 1 = .ok (.invokevirtual 247, 3) := by decide +kernel
theorem dX10_fits_4 : decode cX10_fits 4 = .ok (.aload_n 0, 1) := by decide +kernel
theorem dX10_fits_5 : decode cX10_fits 5 = .ok (.getfield 260, 3) := by decide +kernel
theorem dX10_fits_8 : decode cX10_fits 8 = .ok (.ifCond .ne 9, 3) := by decide +kernel
theorem dX10_fits_11 : decode cX10_fits 11 = .ok (.aload_n 0, 1) := by decide +kernel
theorem dX10_fits_12 : decode cX10_fits 12 = .ok (.iconst 1, 1) := by decide +kernel
theorem dX10_fits_13 : decode cX10_fits 13 = .ok (.invokevirtual 250, 3) := by decide +kernel
theorem dX10_fits_16 : decode cX10_fits 16 = .ok (.ireturn, 1) := by decide +kernel
theorem dX10_fits_17 : decode cX10_fits 17 = .ok (.aload_n 0, 1) := by decide +kernel
theorem dX10_fits_18 : decode cX10_fits 18 = .ok (.iconst (-1), 1) := by decide +kernel
theorem dX10_fits_19 : decode cX10_fits 19 = .ok (.invokevirtual 403, 3) := by decide +kernel
theorem dX10_fits_22 : decode cX10_fits 22 = .ok (.pop, 1) := by decide +kernel
theorem dX10_fits_23 : decode cX10_fits 23 = .ok (.aload_n 0, 1) := by decide +kernel
theorem dX10_fits_24 : decode cX10_fits 24 = .ok (.getfield 391, 3) := by decide +kernel
theorem dX10_fits_27 : decode cX10_fits 27 = .ok (.ireturn, 1) := by decide +kernel
theorem dX10_fitAt_0 : decode cX10_fitAt 0 = .ok (.aload_n 0, 1) := by decide +kernel
theorem dX10_fitAt_1 : decode cX10_fitAt 1 = .ok (.invokevirtual 247, 3) := by decide +kernel
theorem dX10_fitAt_4 : decode cX10_fitAt 4 = .ok (.aload_n 0, 1) := by decide +kernel
theorem dX10_fitAt_5 : decode cX10_fitAt 5 = .ok (.getfield 260, 3) := by decide +kernel
theorem dX10_fitAt_8 : decode cX10_fitAt 8 = .ok (.ifCond .eq 7, 3) := by decide +kernel
theorem dX10_fitAt_11 : decode cX10_fitAt 11 = .ok (.iload_n 1, 1) := by decide +kernel
theorem dX10_fitAt_12 : decode cX10_fitAt 12 = .ok (.ifCond .ge 9, 3) := by decide +kernel
theorem dX10_fitAt_15 : decode cX10_fitAt 15 = .ok (.aload_n 0, 1) := by decide +kernel
theorem dX10_fitAt_16 : decode cX10_fitAt 16 = .ok (.iconst 1, 1) := by decide +kernel
theorem dX10_fitAt_17 : decode cX10_fitAt 17 = .ok (.invokevirtual 250, 3) := by decide +kernel
theorem dX10_fitAt_20 : decode cX10_fitAt 20 = .ok (.ireturn, 1) := by decide +kernel
theorem dX10_fitAt_21 : decode cX10_fitAt 21 = .ok (.aload_n 0, 1) := by decide +kernel
theorem dX10_fitAt_22 : decode cX10_fitAt 22 = .ok (.iload_n 1, 1) := by decide +kernel
theorem dX10_fitAt_23 : decode cX10_fitAt 23 = .ok (.invokevirtual 403, 3) := by decide +kernel
theorem dX10_fitAt_26 : decode cX10_fitAt 26 = .ok (.istore_n 2, 1) := by decide +kernel
theorem dX10_fitAt_27 : decode cX10_fitAt 27 = .ok (.iload_n 2, 1) := by decide +kernel
theorem dX10_fitAt_28 : decode cX10_fitAt 28 = .ok (.ifCond .ge 11, 3) := by decide +kernel
theorem dX10_fitAt_31 : decode cX10_fitAt 31 = .ok (.aload_n 0, 1) := by decide +kernel
theorem dX10_fitAt_32 : decode cX10_fitAt 32 = .ok (.iconst 1, 1) := by decide +kernel
theorem dX10_fitAt_33 : decode cX10_fitAt 33 = .ok (.invokevirtual 250, 3) := by decide +kernel
theorem dX10_fitAt_36 : decode cX10_fitAt 36 = .ok (.goto 4, 3) := by decide +kernel
theorem dX10_fitAt_39 : decode cX10_fitAt 39 = .ok (.iload_n 2, 1) := by decide +kernel
theorem dX10_fitAt_40 : decode cX10_fitAt 40 = .ok (.ireturn, 1) := by decide +kernel
theorem dX10_could_0 : decode cX10_could 0 = .ok (.aload_n 0, 1) := by decide +kernel
theorem dX10_could_1 : decode cX10_could 1 = .ok (.invokevirtual 247, 3) := by decide +kernel
theorem dX10_could_4 : decode cX10_could 4 = .ok (.aload_n 0, 1) := by decide +kernel
theorem dX10_could_5 : decode cX10_could 5 = .ok (.getfield 260, 3) := by decide +kernel
theorem dX10_could_8 : decode cX10_could 8 = .ok (.ifCond .ne 9, 3) := by decide +kernel
theorem dX10_could_11 : decode cX10_could 11 = .ok (.aload_n 0, 1) := by decide +kernel
theorem dX10_could_12 : decode cX10_could 12 = .ok (.iconst 1, 1) := by decide +kernel
theorem dX10_could_13 : decode cX10_could 13 = .ok (.invokevirtual 250, 3) := by decide +kernel
theorem dX10_could_16 : decode cX10_could 16 = .ok (.ireturn, 1) := by decide +kernel
theorem dX10_could_17 : decode cX10_could 17 = .ok (.aload_n 0, 1) := by decide +kernel
theorem dX10_could_18 : decode cX10_could 18 = .ok (.iconst (-1), 1) := by decide +kernel
theorem dX10_could_19 : decode cX10_could 19 = .ok (.invokevirtual 403, 3) := by decide +kernel
theorem dX10_could_22 : decode cX10_could 22 = .ok (.pop, 1) := by decide +kernel
theorem dX10_could_23 : decode cX10_could 23 = .ok (.aload_n 0, 1) := by decide +kernel
theorem dX10_could_24 : decode cX10_could 24 = .ok (.getfield 394, 3) := by decide +kernel
theorem dX10_could_27 : decode cX10_could 27 = .ok (.ireturn, 1) := by decide +kernel
theorem dX10_surely_0 : decode cX10_surely 0 = .ok (.aload_n 0, 1) := by decide +kernel
theorem dX10_surely_1 : decode cX10_surely 1 = .ok (.invokevirtual 247, 3) := by decide +kernel
theorem dX10_surely_4 : decode cX10_surely 4 = .ok (.aload_n 0, 1) := by decide +kernel
theorem dX10_surely_5 : decode cX10_surely 5 = .ok (.getfield 260, 3) := by decide +kernel
theorem dX10_surely_8 : decode cX10_surely 8 = .ok (.ifCond .ne 9, 3) := by decide +kernel
theorem dX10_surely_11 : decode cX10_surely 11 = .ok (.aload_n 0, 1) := by decide +kernel
theorem dX10_surely_12 : decode cX10_surely 12 = .ok (.iconst 1, 1) := by decide +kernel
theorem dX10_surely_13 : decode cX10_surely 13 = .ok (.invokevirtual 250, 3) := by decide +kernel
theorem dX10_surely_16 : decode cX10_surely 16 = .ok (.ireturn, 1) := by decide +kernel
theorem dX10_surely_17 : decode cX10_surely 17 = .ok (.aload_n 0, 1) := by decide +kernel
theorem dX10_surely_18 : decode cX10_surely 18 = .ok (.iconst (-1), 1) := by decide +kernel
theorem dX10_surely_19 : decode cX10_surely 19 = .ok (.invokevirtual 403, 3) := by decide +kernel
theorem dX10_surely_22 : decode cX10_surely 22 = .ok (.pop, 1) := by decide +kernel
theorem dX10_surely_23 : decode cX10_surely 23 = .ok (.aload_n 0, 1) := by decide +kernel
theorem dX10_surely_24 : decode cX10_surely 24 = .ok (.getfield 397, 3) := by decide +kernel
theorem dX10_surely_27 : decode cX10_surely 27 = .ok (.ireturn, 1) := by decide +kernel
theorem dX10_leavesOf_0 : decode cX10_leavesOf 0 = .ok (.aload_n 0, 1) := by decide +kernel
theorem dX10_leavesOf_1 : decode cX10_leavesOf 1 = .ok (.getfield 62, 3) := by decide +kernel
theorem dX10_leavesOf_4 : decode cX10_leavesOf 4 = .ok (.iload_n 1, 1) := by decide +kernel
theorem dX10_leavesOf_5 : decode cX10_leavesOf 5 = .ok (.iaload, 1) := by decide +kernel
theorem dX10_leavesOf_6 : decode cX10_leavesOf 6 = .ok (.aload_n 0, 1) := by decide +kernel
theorem dX10_leavesOf_7 : decode cX10_leavesOf 7 = .ok (.getfield 391, 3) := by decide +kernel
theorem dX10_leavesOf_10 : decode cX10_leavesOf 10 = .ok (.aload_n 0, 1) := by decide +kernel
theorem dX10_leavesOf_11 : decode cX10_leavesOf 11 = .ok (.getfield 62, 3) := by decide +kernel
theorem dX10_leavesOf_14 : decode cX10_leavesOf 14 = .ok (.iload_n 1, 1) := by decide +kernel
theorem dX10_leavesOf_15 : decode cX10_leavesOf 15 = .ok (.iaload, 1) := by decide +kernel
theorem dX10_leavesOf_16 : decode cX10_leavesOf 16 = .ok (.isub, 1) := by decide +kernel
theorem dX10_leavesOf_17 : decode cX10_leavesOf 17 = .ok (.if_icmp .le 12, 3) := by decide +kernel
theorem dX10_leavesOf_20 : decode cX10_leavesOf 20 = .ok (.aload_n 0, 1) := by decide +kernel
theorem dX10_leavesOf_21 : decode cX10_leavesOf 21 = .ok (.getfield 62, 3) := by decide +kernel
theorem dX10_leavesOf_24 : decode cX10_leavesOf 24 = .ok (.iload_n 1, 1) := by decide +kernel
theorem dX10_leavesOf_25 : decode cX10_leavesOf 25 = .ok (.iaload, 1) := by decide +kernel
theorem dX10_leavesOf_26 : decode cX10_leavesOf 26 = .ok (.goto 14, 3) := by decide +kernel
theorem dX10_leavesOf_29 : decode cX10_leavesOf 29 = .ok (.aload_n 0, 1) := by decide +kernel
theorem dX10_leavesOf_30 : decode cX10_leavesOf 30 = .ok (.getfield 391, 3) := by decide +kernel
theorem dX10_leavesOf_33 : decode cX10_leavesOf 33 = .ok (.aload_n 0, 1) := by decide +kernel
theorem dX10_leavesOf_34 : decode cX10_leavesOf 34 = .ok (.getfield 62, 3) := by decide +kernel
theorem dX10_leavesOf_37 : decode cX10_leavesOf 37 = .ok (.iload_n 1, 1) := by decide +kernel
theorem dX10_leavesOf_38 : decode cX10_leavesOf 38 = .ok (.iaload, 1) := by decide +kernel
theorem dX10_leavesOf_39 : decode cX10_leavesOf 39 = .ok (.isub, 1) := by decide +kernel
theorem dX10_leavesOf_40 : decode cX10_leavesOf 40 = .ok (.ireturn, 1) := by decide +kernel
theorem dX10_askOf_0 : decode cX10_askOf 0 = .ok (.aload_n 0, 1) := by decide +kernel
theorem dX10_askOf_1 : decode cX10_askOf 1 = .ok (.iconst (-1), 1) := by decide +kernel
theorem dX10_askOf_2 : decode cX10_askOf 2 = .ok (.invokevirtual 403, 3) := by decide +kernel
theorem dX10_askOf_5 : decode cX10_askOf 5 = .ok (.pop, 1) := by decide +kernel
theorem dX10_askOf_6 : decode cX10_askOf 6 = .ok (.bipush (-2), 2) := by decide +kernel
theorem dX10_askOf_8 : decode cX10_askOf 8 = .ok (.istore_n 1, 1) := by decide +kernel
theorem dX10_askOf_9 : decode cX10_askOf 9 = .ok (.iconst 0, 1) := by decide +kernel
theorem dX10_askOf_10 : decode cX10_askOf 10 = .ok (.istore_n 2, 1) := by decide +kernel
theorem dX10_askOf_11 : decode cX10_askOf 11 = .ok (.iload_n 2, 1) := by decide +kernel
theorem dX10_askOf_12 : decode cX10_askOf 12 = .ok (.aload_n 0, 1) := by decide +kernel
theorem dX10_askOf_13 : decode cX10_askOf 13 = .ok (.getfield 20, 3) := by decide +kernel
theorem dX10_askOf_16 : decode cX10_askOf 16 = .ok (.iconst 4, 1) := by decide +kernel
theorem dX10_askOf_17 : decode cX10_askOf 17 = .ok (.iaload, 1) := by decide +kernel
theorem dX10_askOf_18 : decode cX10_askOf 18 = .ok (.if_icmp .ge 35, 3) := by decide +kernel
theorem dX10_askOf_21 : decode cX10_askOf 21 = .ok (.aload_n 0, 1) := by decide +kernel
theorem dX10_askOf_22 : decode cX10_askOf 22 = .ok (.getfield 391, 3) := by decide +kernel
theorem dX10_askOf_25 : decode cX10_askOf 25 = .ok (.ifCond .le 28, 3) := by decide +kernel
theorem dX10_askOf_28 : decode cX10_askOf 28 = .ok (.iload_n 1, 1) := by decide +kernel
theorem dX10_askOf_29 : decode cX10_askOf 29 = .ok (.ifCond .lt 16, 3) := by decide +kernel
theorem dX10_askOf_32 : decode cX10_askOf 32 = .ok (.aload_n 0, 1) := by decide +kernel
theorem dX10_askOf_33 : decode cX10_askOf 33 = .ok (.iload_n 2, 1) := by decide +kernel
theorem dX10_askOf_34 : decode cX10_askOf 34 = .ok (.invokevirtual 406, 3) := by decide +kernel
theorem dX10_askOf_37 : decode cX10_askOf 37 = .ok (.aload_n 0, 1) := by decide +kernel
theorem dX10_askOf_38 : decode cX10_askOf 38 = .ok (.iload_n 1, 1) := by decide +kernel
theorem dX10_askOf_39 : decode cX10_askOf 39 = .ok (.invokevirtual 406, 3) := by decide +kernel
theorem dX10_askOf_42 : decode cX10_askOf 42 = .ok (.if_icmp .ge 5, 3) := by decide +kernel
theorem dX10_askOf_45 : decode cX10_askOf 45 = .ok (.iload_n 2, 1) := by decide +kernel
theorem dX10_askOf_46 : decode cX10_askOf 46 = .ok (.istore_n 1, 1) := by decide +kernel
theorem dX10_askOf_47 : decode cX10_askOf 47 = .ok (.iinc 2 1, 3) := by decide +kernel
theorem dX10_askOf_50 : decode cX10_askOf 50 = .ok (.goto (-39), 3) := by decide +kernel
theorem dX10_askOf_53 : decode cX10_askOf 53 = .ok (.iload_n 1, 1) := by decide +kernel
theorem dX10_askOf_54 : decode cX10_askOf 54 = .ok (.ireturn, 1) := by decide +kernel
theorem dX10_ask_0 : decode cX10_ask 0 = .ok (.aload_n 0, 1) := by decide +kernel
theorem dX10_ask_1 : decode cX10_ask 1 = .ok (.invokevirtual 247, 3) := by decide +kernel
theorem dX10_ask_4 : decode cX10_ask 4 = .ok (.aload_n 0, 1) := by decide +kernel
theorem dX10_ask_5 : decode cX10_ask 5 = .ok (.getfield 260, 3) := by decide +kernel
theorem dX10_ask_8 : decode cX10_ask 8 = .ok (.ifCond .eq 10, 3) := by decide +kernel
theorem dX10_ask_11 : decode cX10_ask 11 = .ok (.aload_n 0, 1) := by decide +kernel
theorem dX10_ask_12 : decode cX10_ask 12 = .ok (.invokevirtual 409, 3) := by decide +kernel
theorem dX10_ask_15 : decode cX10_ask 15 = .ok (.goto 8, 3) := by decide +kernel
theorem dX10_ask_18 : decode cX10_ask 18 = .ok (.aload_n 0, 1) := by decide +kernel
theorem dX10_ask_19 : decode cX10_ask 19 = .ok (.iconst 1, 1) := by decide +kernel
theorem dX10_ask_20 : decode cX10_ask 20 = .ok (.invokevirtual 250, 3) := by decide +kernel
theorem dX10_ask_23 : decode cX10_ask 23 = .ok (.ireturn, 1) := by decide +kernel
theorem dX10_askLeaves_0 : decode cX10_askLeaves 0 = .ok (.aload_n 0, 1) := by decide +kernel
theorem dX10_askLeaves_1 : decode cX10_askLeaves 1 = .ok (.invokevirtual 247, 3) := by decide +kernel
theorem dX10_askLeaves_4 : decode cX10_askLeaves 4 = .ok (.aload_n 0, 1) := by decide +kernel
theorem dX10_askLeaves_5 : decode cX10_askLeaves 5 = .ok (.getfield 260, 3) := by decide +kernel
theorem dX10_askLeaves_8 : decode cX10_askLeaves 8 = .ok (.ifCond .ne 9, 3) := by decide +kernel
theorem dX10_askLeaves_11 : decode cX10_askLeaves 11 = .ok (.aload_n 0, 1) := by decide +kernel
theorem dX10_askLeaves_12 : decode cX10_askLeaves 12 = .ok (.iconst 1, 1) := by decide +kernel
theorem dX10_askLeaves_13 : decode cX10_askLeaves 13 = .ok (.invokevirtual 250, 3) := by decide +kernel
theorem dX10_askLeaves_16 : decode cX10_askLeaves 16 = .ok (.ireturn, 1) := by decide +kernel
theorem dX10_askLeaves_17 : decode cX10_askLeaves 17 = .ok (.aload_n 0, 1) := by decide +kernel
theorem dX10_askLeaves_18 : decode cX10_askLeaves 18 = .ok (.invokevirtual 409, 3) := by decide +kernel
theorem dX10_askLeaves_21 : decode cX10_askLeaves 21 = .ok (.istore_n 1, 1) := by decide +kernel
theorem dX10_askLeaves_22 : decode cX10_askLeaves 22 = .ok (.iload_n 1, 1) := by decide +kernel
