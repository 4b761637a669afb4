theorem dX9_size_84 : decode cX9_size 84 = .ok (.getfield 86, 3) := by decide +kernel
theorem dX9_size_87 : decode cX9_size 87 = .ok (.ireturn, 1) := by decide +kernel
theorem dX9_size_88 : decode cX9_size 88 = .ok (.aload_n 0, 1) := by decide +kernel
theorem dX9_size_89 : decode cX9_size 89 = .ok (.getfield 19, 3) := by decide +kernel
theorem dX9_size_92 : decode cX9_size 92 = .ok (.invokevirtual 159, 3) := by decide +kernel
theorem dX9_size_95 : decode cX9_size 95 = .ok (.invokestatic 357, 3) := by decide +kernel
theorem dX9_size_98 : decode cX9_size 98 = .ok (.ireturn, 1) := by decide +kernel
theorem dX9_size_99 : decode cX9_size 99 = .ok (.aload_n 0, 1) := by decide +kernel
theorem dX9_size_100 : decode cX9_size 100 = .ok (.getfield 26, 3) := by decide +kernel
theorem dX9_size_103 : decode cX9_size 103 = .ok (.getfield 362, 3) := by decide +kernel
theorem dX9_size_106 : decode cX9_size 106 = .ok (.ireturn, 1) := by decide +kernel
theorem dX9_size_107 : decode cX9_size 107 = .ok (.aload_n 0, 1) := by decide +kernel
theorem dX9_size_108 : decode cX9_size 108 = .ok (.getfield 26, 3) := by decide +kernel
theorem dX9_size_111 : decode cX9_size 111 = .ok (.getfield 365, 3) := by decide +kernel
theorem dX9_size_114 : decode cX9_size 114 = .ok (.ireturn, 1) := by decide +kernel
theorem dX9_size_115 : decode cX9_size 115 = .ok (.aload_n 0, 1) := by decide +kernel
theorem dX9_size_116 : decode cX9_size 116 = .ok (.getfield 33, 3) := by decide +kernel
theorem dX9_size_119 : decode cX9_size 119 = .ok (.getfield 368, 3) := by decide +kernel
theorem dX9_size_122 : decode cX9_size 122 = .ok (.ireturn, 1) := by decide +kernel
theorem dX9_size_123 : decode cX9_size 123 = .ok (.aload_n 0, 1) := by decide +kernel
theorem dX9_size_124 : decode cX9_size 124 = .ok (.getfield 33, 3) := by decide +kernel
theorem dX9_size_127 : decode cX9_size 127 = .ok (.getfield 371, 3) := by decide +kernel
theorem dX9_size_130 : decode cX9_size 130 = .ok (.ireturn, 1) := by decide +kernel
theorem dX9_size_131 : decode cX9_size 131 = .ok (.aload_n 0, 1) := by decide +kernel
theorem dX9_size_132 : decode cX9_size 132 = .ok (.getfield 10, 3) := by decide +kernel
theorem dX9_size_135 : decode cX9_size 135 = .ok (.getfield 37, 3) := by decide +kernel
theorem dX9_size_138 : decode cX9_size 138 = .ok (.getfield 41, 3) := by decide +kernel
theorem dX9_size_141 : decode cX9_size 141 = .ok (.ireturn, 1) := by decide +kernel
theorem dX9_size_142 : decode cX9_size 142 = .ok (.iconst (-1), 1) := by decide +kernel
theorem dX9_size_143 : decode cX9_size 143 = .ok (.ireturn, 1) := by decide +kernel
theorem dX9_trouble_0 : decode cX9_trouble 0 = .ok (.aload_n 0, 1) := by decide +kernel
theorem dX9_trouble_1 : decode cX9_trouble 1 = .ok (.getfield 92, 3) := by decide +kernel
theorem dX9_trouble_4 : decode cX9_trouble 4 = .ok (.ireturn, 1) := by decide +kernel
theorem dX9_hasStore_0 : decode cX9_hasStore 0 = .ok (.aload_n 0, 1) := by decide +kernel
theorem dX9_hasStore_1 : decode cX9_hasStore 1 = .ok (.getfield 19, 3) := by decide +kernel
theorem dX9_hasStore_4 : decode cX9_hasStore 4 = .ok (.getfield 351, 3) := by decide +kernel
theorem dX9_hasStore_7 : decode cX9_hasStore 7 = .ok (.ifCond .eq 7, 3) := by decide +kernel
theorem dX9_hasStore_10 : decode cX9_hasStore 10 = .ok (.iconst 1, 1) := by decide +kernel
theorem dX9_hasStore_11 : decode cX9_hasStore 11 = .ok (.goto 4, 3) := by decide +kernel
theorem dX9_hasStore_14 : decode cX9_hasStore 14 = .ok (.iconst 0, 1) := by decide +kernel
theorem dX9_hasStore_15 : decode cX9_hasStore 15 = .ok (.ireturn, 1) := by decide +kernel
theorem dX9_answer_0 : decode cX9_answer 0 = .ok (.aload_n 0, 1) := by decide +kernel
theorem dX9_answer_1 : decode cX9_answer 1 = .ok (.iconst 0, 1) := by decide +kernel
theorem dX9_answer_2 : decode cX9_answer 2 = .ok (.putfield 92, 3) := by decide +kernel
theorem dX9_answer_5 : decode cX9_answer 5 = .ok (.iload_n 1, 1) := by decide +kernel
theorem dX9_answer_6 : decode cX9_answer 6 = .ok (.ireturn, 1) := by decide +kernel
theorem dX9_refuse_0 : decode cX9_refuse 0 = .ok (.aload_n 0, 1) := by decide +kernel
theorem dX9_refuse_1 : decode cX9_refuse 1 = .ok (.iload_n 1, 1) := by decide +kernel
theorem dX9_refuse_2 : decode cX9_refuse 2 = .ok (.putfield 92, 3) := by decide +kernel
theorem dX9_refuse_5 : decode cX9_refuse 5 = .ok (.iconst (-1), 1) := by decide +kernel
theorem dX9_refuse_6 : decode cX9_refuse 6 = .ok (.ireturn, 1) := by decide +kernel
theorem dX9_stampTrouble_0 : decode cX9_stampTrouble 0 = .ok (.aload_n 0, 1) := by decide +kernel
theorem dX9_stampTrouble_1 : decode cX9_stampTrouble 1 = .ok (.invokevirtual 95, 3) := by decide +kernel
theorem dX9_stampTrouble_4 : decode cX9_stampTrouble 4 = .ok (.ifCond .ne 5, 3) := by decide +kernel
theorem dX9_stampTrouble_7 : decode cX9_stampTrouble 7 = .ok (.iconst 1, 1) := by decide +kernel
theorem dX9_stampTrouble_8 : decode cX9_stampTrouble 8 = .ok (.ireturn, 1) := by decide +kernel
theorem dX9_stampTrouble_9 : decode cX9_stampTrouble 9 = .ok (.aload_n 0, 1) := by decide +kernel
theorem dX9_stampTrouble_10 : decode cX9_stampTrouble 10 = .ok (.getfield 19, 3) := by decide +kernel
theorem dX9_stampTrouble_13 : decode cX9_stampTrouble 13 = .ok (.iload_n 1, 1) := by decide +kernel
theorem dX9_stampTrouble_14 : decode cX9_stampTrouble 14 = .ok (.invokevirtual 163, 3) := by decide +kernel
theorem dX9_stampTrouble_17 : decode cX9_stampTrouble 17 = .ok (.ifCond .eq 7, 3) := by decide +kernel
theorem dX9_stampTrouble_20 : decode cX9_stampTrouble 20 = .ok (.iconst 0, 1) := by decide +kernel
theorem dX9_stampTrouble_21 : decode cX9_stampTrouble 21 = .ok (.goto 4, 3) := by decide +kernel
theorem dX9_stampTrouble_24 : decode cX9_stampTrouble 24 = .ok (.iconst 2, 1) := by decide +kernel
theorem dX9_stampTrouble_25 : decode cX9_stampTrouble 25 = .ok (.ireturn, 1) := by decide +kernel
theorem dX9_stampsTrouble_0 : decode cX9_stampsTrouble 0 = .ok (.aload_n 0, 1) := by decide +kernel
theorem dX9_stampsTrouble_1 : decode cX9_stampsTrouble 1 = .ok (.iload_n 1, 1) := by decide +kernel
theorem dX9_stampsTrouble_2 : decode cX9_stampsTrouble 2 = .ok (.invokevirtual 102, 3) := by decide +kernel
theorem dX9_stampsTrouble_5 : decode cX9_stampsTrouble 5 = .ok (.istore_n 3, 1) := by decide +kernel
theorem dX9_stampsTrouble_6 : decode cX9_stampsTrouble 6 = .ok (.iload_n 3, 1) := by decide +kernel
theorem dX9_stampsTrouble_7 : decode cX9_stampsTrouble 7 = .ok (.ifCond .eq 7, 3) := by decide +kernel
theorem dX9_stampsTrouble_10 : decode cX9_stampsTrouble 10 = .ok (.iload_n 3, 1) := by decide +kernel
theorem dX9_stampsTrouble_11 : decode cX9_stampsTrouble 11 = .ok (.goto 8, 3) := by decide +kernel
theorem dX9_stampsTrouble_14 : decode cX9_stampsTrouble 14 = .ok (.aload_n 0, 1) := by decide +kernel
theorem dX9_stampsTrouble_15 : decode cX9_stampsTrouble 15 = .ok (.iload_n 2, 1) := by decide +kernel
theorem dX9_stampsTrouble_16 : decode cX9_stampsTrouble 16 = .ok (.invokevirtual 102, 3) := by decide +kernel
theorem dX9_stampsTrouble_19 : decode cX9_stampsTrouble 19 = .ok (.ireturn, 1) := by decide +kernel
theorem dX9_costTrouble_0 : decode cX9_costTrouble 0 = .ok (.aload_n 0, 1) := by decide +kernel
theorem dX9_costTrouble_1 : decode cX9_costTrouble 1 = .ok (.invokevirtual 95, 3) := by decide +kernel
theorem dX9_costTrouble_4 : decode cX9_costTrouble 4 = .ok (.ifCond .ne 5, 3) := by decide +kernel
theorem dX9_costTrouble_7 : decode cX9_costTrouble 7 = .ok (.iconst 1, 1) := by decide +kernel
theorem dX9_costTrouble_8 : decode cX9_costTrouble 8 = .ok (.ireturn, 1) := by decide +kernel
theorem dX9_costTrouble_9 : decode cX9_costTrouble 9 = .ok (.iload_n 1, 1) := by decide +kernel
theorem dX9_costTrouble_10 : decode cX9_costTrouble 10 = .ok (.ifCond .lt 13, 3) := by decide +kernel
theorem dX9_costTrouble_13 : decode cX9_costTrouble 13 = .ok (.iload_n 1, 1) := by decide +kernel
theorem dX9_costTrouble_14 : decode cX9_costTrouble 14 = .ok (.bipush 9, 2) := by decide +kernel
theorem dX9_costTrouble_16 : decode cX9_costTrouble 16 = .ok (.if_icmp .gt 7, 3) := by decide +kernel
theorem dX9_costTrouble_19 : decode cX9_costTrouble 19 = .ok (.iconst 0, 1) := by decide +kernel
theorem dX9_costTrouble_20 : decode cX9_costTrouble 20 = .ok (.goto 4, 3) := by decide +kernel
theorem dX9_costTrouble_23 : decode cX9_costTrouble 23 = .ok (.iconst 2, 1) := by decide +kernel
theorem dX9_costTrouble_24 : decode cX9_costTrouble 24 = .ok (.ireturn, 1) := by decide +kernel
theorem dX9_isValue_0 : decode cX9_isValue 0 = .ok (.iload_n 0, 1) := by decide +kernel
theorem dX9_isValue_1 : decode cX9_isValue 1 = .ok (.ifCond .lt 14, 3) := by decide +kernel
theorem dX9_isValue_4 : decode cX9_isValue 4 = .ok (.iload_n 0, 1) := by decide +kernel
theorem dX9_isValue_5 : decode cX9_isValue 5 = .ok (.sipush 999, 3) := by decide +kernel
theorem dX9_isValue_8 : decode cX9_isValue 8 = .ok (.if_icmp .gt 7, 3) := by decide +kernel
theorem dX9_isValue_11 : decode cX9_isValue 11 = .ok (.iconst 1, 1) := by decide +kernel
theorem dX9_isValue_12 : decode cX9_isValue 12 = .ok (.goto 4, 3) := by decide +kernel
theorem dX9_isValue_15 : decode cX9_isValue 15 = .ok (.iconst 0, 1) := by decide +kernel
theorem dX9_isValue_16 : decode cX9_isValue 16 = .ok (.ireturn, 1) := by decide +kernel
theorem dX9_oneIf_0 : decode cX9_oneIf 0 = .ok (.iload_n 0, 1) := by decide +kernel
theorem dX9_oneIf_1 : decode cX9_oneIf 1 = .ok (.ifCond .eq 7, 3) := by decide +kernel
theorem dX9_oneIf_4 : decode cX9_oneIf 4 = .ok (.iconst 1, 1) := by decide +kernel
theorem dX9_oneIf_5 : decode cX9_oneIf 5 = .ok (.goto 4, 3) := by decide +kernel
theorem dX9_oneIf_8 : decode cX9_oneIf 8 = .ok (.iconst 0, 1) := by decide +kernel
theorem dX9_oneIf_9 : decode cX9_oneIf 9 = .ok (.ireturn, 1) := by decide +kernel
