theorem dX10_init_0 : decode cX10_init 0 = .ok (.aload_n 0, 1) := by decide +kernel
theorem dX10_init_1 : decode cX10_init 1 = .ok (.invokespecial 1, 3) := by decide +kernel
theorem dX10_init_4 : decode cX10_init 4 = .ok (.aload_n 0, 1) := by decide +kernel
theorem dX10_init_5 : decode cX10_init 5 = .ok (.sipush 900, 3) := by decide +kernel
theorem dX10_init_8 : decode cX10_init 8 = .ok (.newarray .int, 2) := by decide +kernel
theorem dX10_init_10 : decode cX10_init 10 = .ok (.putfield 7, 3) := by decide +kernel
theorem dX10_init_13 : decode cX10_init 13 = .ok (.aload_n 0, 1) := by decide +kernel
theorem dX10_init_14 : decode cX10_init 14 = .ok (.iconst (-1), 1) := by decide +kernel
theorem dX10_init_15 : decode cX10_init 15 = .ok (.putfield 13, 3) := by decide +kernel
theorem dX10_init_18 : decode cX10_init 18 = .ok (.aload_n 0, 1) := by decide +kernel
theorem dX10_init_19 : decode cX10_init 19 = .ok (.bipush 8, 2) := by decide +kernel
theorem dX10_init_21 : decode cX10_init 21 = .ok (.newarray .int, 2) := by decide +kernel
theorem dX10_init_23 : decode cX10_init 23 = .ok (.putfield 17, 3) := by decide +kernel
theorem dX10_init_26 : decode cX10_init 26 = .ok (.aload_n 0, 1) := by decide +kernel
theorem dX10_init_27 : decode cX10_init 27 = .ok (.sipush 140, 3) := by decide +kernel
theorem dX10_init_30 : decode cX10_init 30 = .ok (.newarray .int, 2) := by decide +kernel
theorem dX10_init_32 : decode cX10_init 32 = .ok (.putfield 20, 3) := by decide +kernel
theorem dX10_init_35 : decode cX10_init 35 = .ok (.aload_n 0, 1) := by decide +kernel
theorem dX10_init_36 : decode cX10_init 36 = .ok (.sipush 140, 3) := by decide +kernel
theorem dX10_init_39 : decode cX10_init 39 = .ok (.newarray .int, 2) := by decide +kernel
theorem dX10_init_41 : decode cX10_init 41 = .ok (.putfield 23, 3) := by decide +kernel
theorem dX10_init_44 : decode cX10_init 44 = .ok (.aload_n 0, 1) := by decide +kernel
theorem dX10_init_45 : decode cX10_init 45 = .ok (.sipush 325, 3) := by decide +kernel
theorem dX10_init_48 : decode cX10_init 48 = .ok (.newarray .int, 2) := by decide +kernel
theorem dX10_init_50 : decode cX10_init 50 = .ok (.putfield 26, 3) := by decide +kernel
theorem dX10_init_53 : decode cX10_init 53 = .ok (.aload_n 0, 1) := by decide +kernel
theorem dX10_init_54 : decode cX10_init 54 = .ok (.sipush 325, 3) := by decide +kernel
theorem dX10_init_57 : decode cX10_init 57 = .ok (.newarray .int, 2) := by decide +kernel
theorem dX10_init_59 : decode cX10_init 59 = .ok (.putfield 29, 3) := by decide +kernel
theorem dX10_init_62 : decode cX10_init 62 = .ok (.aload_n 0, 1) := by decide +kernel
theorem dX10_init_63 : decode cX10_init 63 = .ok (.bipush 64, 2) := by decide +kernel
theorem dX10_init_65 : decode cX10_init 65 = .ok (.newarray .int, 2) := by decide +kernel
theorem dX10_init_67 : decode cX10_init 67 = .ok (.putfield 32, 3) := by decide +kernel
theorem dX10_init_70 : decode cX10_init 70 = .ok (.aload_n 0, 1) := by decide +kernel
theorem dX10_init_71 : decode cX10_init 71 = .ok (.bipush 64, 2) := by decide +kernel
theorem dX10_init_73 : decode cX10_init 73 = .ok (.newarray .int, 2) := by decide +kernel
theorem dX10_init_75 : decode cX10_init 75 = .ok (.putfield 35, 3) := by decide +kernel
theorem dX10_init_78 : decode cX10_init 78 = .ok (.aload_n 0, 1) := by decide +kernel
theorem dX10_init_79 : decode cX10_init 79 = .ok (.sipush 325, 3) := by decide +kernel
theorem dX10_init_82 : decode cX10_init 82 = .ok (.newarray .int, 2) := by decide +kernel
theorem dX10_init_84 : decode cX10_init 84 = .ok (.putfield 38, 3) := by decide +kernel
theorem dX10_init_87 : decode cX10_init 87 = .ok (.aload_n 0, 1) := by decide +kernel
theorem dX10_init_88 : decode cX10_init 88 = .ok (.sipush 325, 3) := by decide +kernel
theorem dX10_init_91 : decode cX10_init 91 = .ok (.newarray .int, 2) := by decide +kernel
theorem dX10_init_93 : decode cX10_init 93 = .ok (.putfield 41, 3) := by decide +kernel
theorem dX10_init_96 : decode cX10_init 96 = .ok (.aload_n 0, 1) := by decide +kernel
theorem dX10_init_97 : decode cX10_init 97 = .ok (.sipush 5200, 3) := by decide +kernel
theorem dX10_init_100 : decode cX10_init 100 = .ok (.newarray .int, 2) := by decide +kernel
theorem dX10_init_102 : decode cX10_init 102 = .ok (.putfield 44, 3) := by decide +kernel
theorem dX10_init_105 : decode cX10_init 105 = .ok (.aload_n 0, 1) := by decide +kernel
theorem dX10_init_106 : decode cX10_init 106 = .ok (.sipush 975, 3) := by decide +kernel
theorem dX10_init_109 : decode cX10_init 109 = .ok (.newarray .int, 2) := by decide +kernel
theorem dX10_init_111 : decode cX10_init 111 = .ok (.putfield 47, 3) := by decide +kernel
theorem dX10_init_114 : decode cX10_init 114 = .ok (.aload_n 0, 1) := by decide +kernel
theorem dX10_init_115 : decode cX10_init 115 = .ok (.bipush 48, 2) := by decide +kernel
theorem dX10_init_117 : decode cX10_init 117 = .ok (.newarray .int, 2) := by decide +kernel
theorem dX10_init_119 : decode cX10_init 119 = .ok (.putfield 50, 3) := by decide +kernel
theorem dX10_init_122 : decode cX10_init 122 = .ok (.aload_n 0, 1) := by decide +kernel
theorem dX10_init_123 : decode cX10_init 123 = .ok (.bipush 12, 2) := by decide +kernel
theorem dX10_init_125 : decode cX10_init 125 = .ok (.newarray .int, 2) := by decide +kernel
theorem dX10_init_127 : decode cX10_init 127 = .ok (.putfield 53, 3) := by decide +kernel
theorem dX10_init_130 : decode cX10_init 130 = .ok (.aload_n 0, 1) := by decide +kernel
theorem dX10_init_131 : decode cX10_init 131 = .ok (.bipush 8, 2) := by decide +kernel
theorem dX10_init_133 : decode cX10_init 133 = .ok (.newarray .int, 2) := by decide +kernel
theorem dX10_init_135 : decode cX10_init 135 = .ok (.putfield 56, 3) := by decide +kernel
theorem dX10_init_138 : decode cX10_init 138 = .ok (.aload_n 0, 1) := by decide +kernel
theorem dX10_init_139 : decode cX10_init 139 = .ok (.bipush 8, 2) := by decide +kernel
theorem dX10_init_141 : decode cX10_init 141 = .ok (.newarray .int, 2) := by decide +kernel
theorem dX10_init_143 : decode cX10_init 143 = .ok (.putfield 59, 3) := by decide +kernel
theorem dX10_init_146 : decode cX10_init 146 = .ok (.aload_n 0, 1) := by decide +kernel
theorem dX10_init_147 : decode cX10_init 147 = .ok (.iconst 4, 1) := by decide +kernel
theorem dX10_init_148 : decode cX10_init 148 = .ok (.newarray .int, 2) := by decide +kernel
theorem dX10_init_150 : decode cX10_init 150 = .ok (.putfield 62, 3) := by decide +kernel
theorem dX10_init_153 : decode cX10_init 153 = .ok (.return_, 1) := by decide +kernel
theorem dX10_thrown_0 : decode cX10_thrown 0 = .ok (.aload_n 0, 1) := by decide +kernel
theorem dX10_thrown_1 : decode cX10_thrown 1 = .ok (.getfield 65, 3) := by decide +kernel
theorem dX10_thrown_4 : decode cX10_thrown 4 = .ok (.ireturn, 1) := by decide +kernel
theorem dX10_anew_0 : decode cX10_anew 0 = .ok (.aload_n 0, 1) := by decide +kernel
theorem dX10_anew_1 : decode cX10_anew 1 = .ok (.iconst 0, 1) := by decide +kernel
theorem dX10_anew_2 : decode cX10_anew 2 = .ok (.putfield 65, 3) := by decide +kernel
theorem dX10_anew_5 : decode cX10_anew 5 = .ok (.aload_n 0, 1) := by decide +kernel
theorem dX10_anew_6 : decode cX10_anew 6 = .ok (.iconst 0, 1) := by decide +kernel
theorem dX10_anew_7 : decode cX10_anew 7 = .ok (.putfield 68, 3) := by decide +kernel
theorem dX10_anew_10 : decode cX10_anew 10 = .ok (.return_, 1) := by decide +kernel
theorem dX10_no_0 : decode cX10_no 0 = .ok (.aload_n 0, 1) := by decide +kernel
theorem dX10_no_1 : decode cX10_no 1 = .ok (.iload_n 1, 1) := by decide +kernel
theorem dX10_no_2 : decode cX10_no 2 = .ok (.putfield 68, 3) := by decide +kernel
theorem dX10_no_5 : decode cX10_no 5 = .ok (.iconst (-1), 1) := by decide +kernel
theorem dX10_no_6 : decode cX10_no 6 = .ok (.ireturn, 1) := by decide +kernel
theorem dX10_isNot_0 : decode cX10_isNot 0 = .ok (.aload_n 0, 1) := by decide +kernel
theorem dX10_isNot_1 : decode cX10_isNot 1 = .ok (.iload_n 1, 1) := by decide +kernel
theorem dX10_isNot_2 : decode cX10_isNot 2 = .ok (.putfield 68, 3) := by decide +kernel
theorem dX10_isNot_5 : decode cX10_isNot 5 = .ok (.iconst 0, 1) := by decide +kernel
theorem dX10_isNot_6 : decode cX10_isNot 6 = .ok (.ireturn, 1) := by decide +kernel
theorem dX10_in_0 : decode cX10_in 0 = .ok (.iload_n 0, 1) := by decide +kernel
theorem dX10_in_1 : decode cX10_in 1 = .ok (.iload_n 1, 1) := by decide +kernel
theorem dX10_in_2 : decode cX10_in 2 = .ok (.if_icmp .lt 12, 3) := by decide +kernel
theorem dX10_in_5 : decode cX10_in 5 = .ok (.iload_n 0, 1) := by decide +kernel
theorem dX10_in_6 : decode cX10_in 6 = .ok (.iload_n 2, 1) := by decide +kernel
theorem dX10_in_7 : decode cX10_in 7 = .ok (.if_icmp .gt 7, 3) := by decide +kernel
theorem dX10_in_10 : decode cX10_in 10 = .ok (.iconst 1, 1) := by decide +kernel
theorem dX10_in_11 : decode cX10_in 11 = .ok (.goto 4, 3) := by decide +kernel
theorem dX10_in_14 : decode cX10_in 14 = .ok (.iconst 0, 1) := by decide +kernel
theorem dX10_in_15 : decode cX10_in 15 = .ok (.ireturn, 1) := by decide +kernel
theorem dX10_hasBit_0 : decode cX10_hasBit 0 = .ok (.iload_n 0, 1) := by decide +kernel
theorem dX10_hasBit_1 : decode cX10_hasBit 1 = .ok (.iload_n 1, 1) := by decide +kernel
theorem dX10_hasBit_2 : decode cX10_hasBit 2 = .ok (.ishr, 1) := by decide +kernel
theorem dX10_hasBit_3 : decode cX10_hasBit 3 = .ok (.iconst 1, 1) := by decide +kernel
theorem dX10_hasBit_4 : decode cX10_hasBit 4 = .ok (.iand, 1) := by decide +kernel
theorem dX10_hasBit_5 : decode cX10_hasBit 5 = .ok (.iconst 1, 1) := by decide +kernel
theorem dX10_hasBit_6 : decode cX10_hasBit 6 = .ok (.if_icmp .ne 7, 3) := by decide +kernel
theorem dX10_hasBit_9 : decode cX10_hasBit 9 = .ok (.iconst 1, 1) := by decide +kernel
theorem dX10_hasBit_10 : decode cX10_hasBit 10 = .ok (.goto 4, 3) := by decide +kernel
theorem dX10_hasBit_13 : decode cX10_hasBit 13 = .ok (.iconst 0, 1) := by decide +kernel
theorem dX10_hasBit_14 : decode cX10_hasBit 14 = .ok (.ireturn, 1) := by decide +kernel
theorem dX10_copy_0 : decode cX10_copy 0 = .ok (.iconst 0, 1) := by decide +kernel
theorem dX10_copy_1 : decode cX10_copy 1 = .ok (.istore 5, 2) := by decide +kernel
theorem dX10_copy_3 : decode cX10_copy 3 = .ok (.iload 5, 2) := by decide +kernel
theorem dX10_copy_5 : decode cX10_copy 5 = .ok (.iload 4, 2) := by decide +kernel
theorem dX10_copy_7 : decode cX10_copy 7 = .ok (.if_icmp .ge 21, 3) := by decide +kernel
theorem dX10_copy_10 : decode cX10_copy 10 = .ok (.aload_n 2, 1) := by decide +kernel
theorem dX10_copy_11 : decode cX10_copy 11 = .ok (.iload_n 3, 1) := by decide +kernel
theorem dX10_copy_12 : decode cX10_copy 12 = .ok (.iload 5, 2) := by decide +kernel
theorem dX10_copy_14 : decode cX10_copy 14 = .ok (.iadd, 1) := by decide +kernel
theorem dX10_copy_15 : decode cX10_copy 15 = .ok (.aload_n 0, 1) := by decide +kernel
theorem dX10_copy_16 : decode cX10_copy 16 = .ok (.iload_n 1, 1) := by decide +kernel
theorem dX10_copy_17 : decode cX10_copy 17 = .ok (.iload 5, 2) := by decide +kernel
theorem dX10_copy_19 : decode cX10_copy 19 = .ok (.iadd, 1) := by decide +kernel
theorem dX10_copy_20 : decode cX10_copy 20 = .ok (.iaload, 1) := by decide +kernel
theorem dX10_copy_21 : decode cX10_copy 21 = .ok (.iastore, 1) := by decide +kernel
theorem dX10_copy_22 : decode cX10_copy 22 = .ok (.iinc 5 1, 3) := by decide +kernel
theorem dX10_copy_25 : decode cX10_copy 25 = .ok (.goto (-22), 3) := by decide +kernel
theorem dX10_copy_28 : decode cX10_copy 28 = .ok (.return_, 1) := by decide +kernel
theorem dX10_lowest_0 : decode cX10_lowest 0 = .ok (.lload_n 2, 1) := by decide +kernel
theorem dX10_lowest_1 : decode cX10_lowest 1 = .ok (.lstore 5, 2) := by decide +kernel
theorem dX10_lowest_3 : decode cX10_lowest 3 = .ok (.lload_n 0, 1) := by decide +kernel
theorem dX10_lowest_4 : decode cX10_lowest 4 = .ok (.lstore 7, 2) := by decide +kernel
theorem dX10_lowest_6 : decode cX10_lowest 6 = .ok (.lload 7, 2) := by decide +kernel
theorem dX10_lowest_8 : decode cX10_lowest 8 = .ok (.lconst 0, 1) := by decide +kernel
theorem dX10_lowest_9 : decode cX10_lowest 9 = .ok (.lcmp, 1) := by decide +kernel
theorem dX10_lowest_10 : decode cX10_lowest 10 = .ok (.ifCond .eq 21, 3) := by decide +kernel
theorem dX10_lowest_13 : decode cX10_lowest 13 = .ok (.lload 5, 2) := by decide +kernel
theorem dX10_lowest_15 : decode cX10_lowest 15 = .ok (.lload 7, 2) := by decide +kernel
theorem dX10_lowest_17 : decode cX10_lowest 17 = .ok (.lrem, 1) := by decide +kernel
theorem dX10_lowest_18 : decode cX10_lowest 18 = .ok (.lstore 9, 2) := by decide +kernel
theorem dX10_lowest_20 : decode cX10_lowest 20 = .ok (.lload 7, 2) := by decide +kernel
theorem dX10_lowest_22 : decode cX10_lowest 22 = .ok (.lstore 5, 2) := by decide +kernel
theorem dX10_lowest_24 : decode cX10_lowest 24 = .ok (.lload 9, 2) := by decide +kernel
theorem dX10_lowest_26 : decode cX10_lowest 26 = .ok (.lstore 7, 2) := by decide +kernel
theorem dX10_lowest_28 : decode cX10_lowest 28 = .ok (.goto (-22), 3) := by decide +kernel
theorem dX10_lowest_31 : decode cX10_lowest 31 = .ok (.iload 4, 2) := by decide +kernel
theorem dX10_lowest_33 : decode cX10_lowest 33 = .ok (.ifCond .eq 7, 3) := by decide +kernel
theorem dX10_lowest_36 : decode cX10_lowest 36 = .ok (.lload_n 2, 1) := by decide +kernel
theorem dX10_lowest_37 : decode cX10_lowest 37 = .ok (.goto 4, 3) := by decide +kernel
theorem dX10_lowest_40 : decode cX10_lowest 40 = .ok (.lload_n 0, 1) := by decide +kernel
theorem dX10_lowest_41 : decode cX10_lowest 41 = .ok (.lload 5, 2) := by decide +kernel
theorem dX10_lowest_43 : decode cX10_lowest 43 = .ok (.ldiv, 1) := by decide +kernel
theorem dX10_lowest_44 : decode cX10_lowest 44 = .ok (.lreturn, 1) := by decide +kernel
theorem dX10_feed_0 : decode cX10_feed 0 = .ok (.aload_n 0, 1) := by decide +kernel
theorem dX10_feed_1 : decode cX10_feed 1 = .ok (.iconst 0, 1) := by decide +kernel
theorem dX10_feed_2 : decode cX10_feed 2 = .ok (.putfield 65, 3) := by decide +kernel
theorem dX10_feed_5 : decode cX10_feed 5 = .ok (.aload_n 0, 1) := by decide +kernel
theorem dX10_feed_6 : decode cX10_feed 6 = .ok (.getfield 71, 3) := by decide +kernel
theorem dX10_feed_9 : decode cX10_feed 9 = .ok (.bipush 20, 2) := by decide +kernel
theorem dX10_feed_11 : decode cX10_feed 11 = .ok (.iadd, 1) := by decide +kernel
theorem dX10_feed_12 : decode cX10_feed 12 = .ok (.sipush 900, 3) := by decide +kernel
theorem dX10_feed_15 : decode cX10_feed 15 = .ok (.if_icmp .le 5, 3) := by decide +kernel
theorem dX10_feed_18 : decode cX10_feed 18 = .ok (.iconst (-1), 1) := by decide +kernel
theorem dX10_feed_19 : decode cX10_feed 19 = .ok (.ireturn, 1) := by decide +kernel
theorem dX10_feed_20 : decode cX10_feed 20 = .ok (.iconst 0, 1) := by decide +kernel
theorem dX10_feed_21 : decode cX10_feed 21 = .ok (.istore 6, 2) := by decide +kernel
theorem dX10_feed_23 : decode cX10_feed 23 = .ok (.iload 6, 2) := by decide +kernel
theorem dX10_feed_25 : decode cX10_feed 25 = .ok (.bipush 20, 2) := by decide +kernel
theorem dX10_feed_27 : decode cX10_feed 27 = .ok (.if_icmp .ge 93, 3) := by decide +kernel
theorem dX10_feed_30 : decode cX10_feed 30 = .ok (.iload 6, 2) := by decide +kernel
theorem dX10_feed_32 : decode cX10_feed 32 = .ok (.iconst 4, 1) := by decide +kernel
theorem dX10_feed_33 : decode cX10_feed 33 = .ok (.if_icmp .ge 7, 3) := by decide +kernel
theorem dX10_feed_36 : decode cX10_feed 36 = .ok (.iload_n 1, 1) := by decide +kernel
theorem dX10_feed_37 : decode cX10_feed 37 = .ok (.goto 39, 3) := by decide +kernel
theorem dX10_feed_40 : decode cX10_feed 40 = .ok (.iload 6, 2) := by decide +kernel
theorem dX10_feed_42 : decode cX10_feed 42 = .ok (.bipush 8, 2) := by decide +kernel
theorem dX10_feed_44 : decode cX10_feed 44 = .ok (.if_icmp .ge 7, 3) := by decide +kernel
theorem dX10_feed_47 : decode cX10_feed 47 = .ok (.iload_n 2, 1) := by decide +kernel
theorem dX10_feed_48 : decode cX10_feed 48 = .ok (.goto 28, 3) := by decide +kernel
theorem dX10_feed_51 : decode cX10_feed 51 = .ok (.iload 6, 2) := by decide +kernel
theorem dX10_feed_53 : decode cX10_feed 53 = .ok (.bipush 12, 2) := by decide +kernel
theorem dX10_feed_55 : decode cX10_feed 55 = .ok (.if_icmp .ge 7, 3) := by decide +kernel
theorem dX10_feed_58 : decode cX10_feed 58 = .ok (.iload_n 3, 1) := by decide +kernel
theorem dX10_feed_59 : decode cX10_feed 59 = .ok (.goto 17, 3) := by decide +kernel
theorem dX10_feed_62 : decode cX10_feed 62 = .ok (.iload 6, 2) := by decide +kernel
theorem dX10_feed_64 : decode cX10_feed 64 = .ok (.bipush 16, 2) := by decide +kernel
theorem dX10_feed_66 : decode cX10_feed 66 = .ok (.if_icmp .ge 8, 3) := by decide +kernel
theorem dX10_feed_69 : decode cX10_feed 69 = .ok (.iload 4, 2) := by decide +kernel
theorem dX10_feed_71 : decode cX10_feed 71 = .ok (.goto 5, 3) := by decide +kernel
theorem dX10_feed_74 : decode cX10_feed 74 = .ok (.iload 5, 2) := by decide +kernel
theorem dX10_feed_76 : decode cX10_feed 76 = .ok (.istore 7, 2) := by decide +kernel
theorem dX10_feed_78 : decode cX10_feed 78 = .ok (.aload_n 0, 1) := by decide +kernel
theorem dX10_feed_79 : decode cX10_feed 79 = .ok (.getfield 7, 3) := by decide +kernel
theorem dX10_feed_82 : decode cX10_feed 82 = .ok (.aload_n 0, 1) := by decide +kernel
theorem dX10_feed_83 : decode cX10_feed 83 = .ok (.getfield 71, 3) := by decide +kernel
theorem dX10_feed_86 : decode cX10_feed 86 = .ok (.iload 7, 2) := by decide +kernel
theorem dX10_feed_88 : decode cX10_feed 88 = .ok (.bipush 24, 2) := by decide +kernel
theorem dX10_feed_90 : decode cX10_feed 90 = .ok (.bipush 8, 2) := by decide +kernel
theorem dX10_feed_92 : decode cX10_feed 92 = .ok (.iload 6, 2) := by decide +kernel
theorem dX10_feed_94 : decode cX10_feed 94 = .ok (.iconst 4, 1) := by decide +kernel
theorem dX10_feed_95 : decode cX10_feed 95 = .ok (.irem, 1) := by decide +kernel
theorem dX10_feed_96 : decode cX10_feed 96 = .ok (.imul, 1) := by decide +kernel
theorem dX10_feed_97 : decode cX10_feed 97 = .ok (.isub, 1) := by decide +kernel
theorem dX10_feed_98 : decode cX10_feed 98 = .ok (.ishr, 1) := by decide +kernel
theorem dX10_feed_99 : decode cX10_feed 99 = .ok (.sipush 255, 3) := by decide +kernel
theorem dX10_feed_102 : decode cX10_feed 102 = .ok (.iand, 1) := by decide +kernel
theorem dX10_feed_103 : decode cX10_feed 103 = .ok (.iastore, 1) := by decide +kernel
theorem dX10_feed_104 : decode cX10_feed 104 = .ok (.aload_n 0, 1) := by decide +kernel
theorem dX10_feed_105 : decode cX10_feed 105 = .ok (.dup, 1) := by decide +kernel
theorem dX10_feed_106 : decode cX10_feed 106 = .ok (.getfield 71, 3) := by decide +kernel
theorem dX10_feed_109 : decode cX10_feed 109 = .ok (.iconst 1, 1) := by decide +kernel
theorem dX10_feed_110 : decode cX10_feed 110 = .ok (.iadd, 1) := by decide +kernel
theorem dX10_feed_111 : decode cX10_feed 111 = .ok (.putfield 71, 3) := by decide +kernel
theorem dX10_feed_114 : decode cX10_feed 114 = .ok (.iinc 6 1, 3) := by decide +kernel
theorem dX10_feed_117 : decode cX10_feed 117 = .ok (.goto (-94), 3) := by decide +kernel
theorem dX10_feed_120 : decode cX10_feed 120 = .ok (.aload_n 0, 1) := by decide +kernel
theorem dX10_feed_121 : decode cX10_feed 121 = .ok (.getfield 71, 3) := by decide +kernel
theorem dX10_feed_124 : decode cX10_feed 124 = .ok (.ireturn, 1) := by decide +kernel
theorem dX10_goesOn_0 : decode cX10_goesOn 0 = .ok (.iload_n 2, 1) := by decide +kernel
theorem dX10_goesOn_1 : decode cX10_goesOn 1 = .ok (.iload_n 1, 1) := by decide +kernel
theorem dX10_goesOn_2 : decode cX10_goesOn 2 = .ok (.isub, 1) := by decide +kernel
theorem dX10_goesOn_3 : decode cX10_goesOn 3 = .ok (.aload_n 0, 1) := by decide +kernel
theorem dX10_goesOn_4 : decode cX10_goesOn 4 = .ok (.getfield 74, 3) := by decide +kernel
theorem dX10_goesOn_7 : decode cX10_goesOn 7 = .ok (.iadd, 1) := by decide +kernel
theorem dX10_goesOn_8 : decode cX10_goesOn 8 = .ok (.aload_n 0, 1) := by decide +kernel
theorem dX10_goesOn_9 : decode cX10_goesOn 9 = .ok (.getfield 74, 3) := by decide +kernel
theorem dX10_goesOn_12 : decode cX10_goesOn 12 = .ok (.irem, 1) := by decide +kernel
theorem dX10_goesOn_13 : decode cX10_goesOn 13 = .ok (.ireturn, 1) := by decide +kernel
theorem dX10_ageOf_0 : decode cX10_ageOf 0 = .ok (.aload_n 0, 1) := by decide +kernel
theorem dX10_ageOf_1 : decode cX10_ageOf 1 = .ok (.iload_n 2, 1) := by decide +kernel
theorem dX10_ageOf_2 : decode cX10_ageOf 2 = .ok (.aload_n 1, 1) := by decide +kernel
theorem dX10_ageOf_3 : decode cX10_ageOf 3 = .ok (.sipush 323, 3) := by decide +kernel
theorem dX10_ageOf_6 : decode cX10_ageOf 6 = .ok (.iaload, 1) := by decide +kernel
theorem dX10_ageOf_7 : decode cX10_ageOf 7 = .ok (.invokevirtual 77, 3) := by decide +kernel
theorem dX10_ageOf_10 : decode cX10_ageOf 10 = .ok (.ireturn, 1) := by decide +kernel
theorem dX10_isOlder_0 : decode cX10_isOlder 0 = .ok (.aload_n 0, 1) := by decide +kernel
theorem dX10_isOlder_1 : decode cX10_isOlder 1 = .ok (.iload_n 1, 1) := by decide +kernel
theorem dX10_isOlder_2 : decode cX10_isOlder 2 = .ok (.iload_n 2, 1) := by decide +kernel
theorem dX10_isOlder_3 : decode cX10_isOlder 3 = .ok (.invokevirtual 77, 3) := by decide +kernel
theorem dX10_isOlder_6 : decode cX10_isOlder 6 = .ok (.iconst 1, 1) := by decide +kernel
theorem dX10_isOlder_7 : decode cX10_isOlder 7 = .ok (.aload_n 0, 1) := by decide +kernel
theorem dX10_isOlder_8 : decode cX10_isOlder 8 = .ok (.getfield 74, 3) := by decide +kernel
theorem dX10_isOlder_11 : decode cX10_isOlder 11 = .ok (.iconst 2, 1) := by decide +kernel
theorem dX10_isOlder_12 : decode cX10_isOlder 12 = .ok (.idiv, 1) := by decide +kernel
theorem dX10_isOlder_13 : decode cX10_isOlder 13 = .ok (.invokestatic 81, 3) := by decide +kernel
theorem dX10_isOlder_16 : decode cX10_isOlder 16 = .ok (.ireturn, 1) := by decide +kernel
theorem dX10_isIn_0 : decode cX10_isIn 0 = .ok (.aload_n 1, 1) := by decide +kernel
theorem dX10_isIn_1 : decode cX10_isIn 1 = .ok (.sipush 311, 3) := by decide +kernel
theorem dX10_isIn_4 : decode cX10_isIn 4 = .ok (.iconst 2, 1) := by decide +kernel
theorem dX10_isIn_5 : decode cX10_isIn 5 = .ok (.iload_n 2, 1) := by decide +kernel
theorem dX10_isIn_6 : decode cX10_isIn 6 = .ok (.imul, 1) := by decide +kernel
theorem dX10_isIn_7 : decode cX10_isIn 7 = .ok (.iadd, 1) := by decide +kernel
theorem dX10_isIn_8 : decode cX10_isIn 8 = .ok (.iload_n 3, 1) := by decide +kernel
theorem dX10_isIn_9 : decode cX10_isIn 9 = .ok (.bipush 32, 2) := by decide +kernel
theorem dX10_isIn_11 : decode cX10_isIn 11 = .ok (.idiv, 1) := by decide +kernel
theorem dX10_isIn_12 : decode cX10_isIn 12 = .ok (.iadd, 1) := by decide +kernel
theorem dX10_isIn_13 : decode cX10_isIn 13 = .ok (.iaload, 1) := by decide +kernel
theorem dX10_isIn_14 : decode cX10_isIn 14 = .ok (.iload_n 3, 1) := by decide +kernel
theorem dX10_isIn_15 : decode cX10_isIn 15 = .ok (.bipush 32, 2) := by decide +kernel
theorem dX10_isIn_17 : decode cX10_isIn 17 = .ok (.irem, 1) := by decide +kernel
theorem dX10_isIn_18 : decode cX10_isIn 18 = .ok (.invokestatic 85, 3) := by decide +kernel
theorem dX10_isIn_21 : decode cX10_isIn 21 = .ok (.ireturn, 1) := by decide +kernel
theorem dX10_doesCount_0 : decode cX10_doesCount 0 = .ok (.aload_n 1, 1) := by decide +kernel
theorem dX10_doesCount_1 : decode cX10_doesCount 1 = .ok (.sipush 240, 3) := by decide +kernel
theorem dX10_doesCount_4 : decode cX10_doesCount 4 = .ok (.iload_n 3, 1) := by decide +kernel
theorem dX10_doesCount_5 : decode cX10_doesCount 5 = .ok (.iadd, 1) := by decide +kernel
theorem dX10_doesCount_6 : decode cX10_doesCount 6 = .ok (.iaload, 1) := by decide +kernel
theorem dX10_doesCount_7 : decode cX10_doesCount 7 = .ok (.iconst 2, 1) := by decide +kernel
theorem dX10_doesCount_8 : decode cX10_doesCount 8 = .ok (.if_icmp .ne 7, 3) := by decide +kernel
theorem dX10_doesCount_11 : decode cX10_doesCount 11 = .ok (.iconst 1, 1) := by decide +kernel
theorem dX10_doesCount_12 : decode cX10_doesCount 12 = .ok (.goto 4, 3) := by decide +kernel
theorem dX10_doesCount_15 : decode cX10_doesCount 15 = .ok (.iconst 0, 1) := by decide +kernel
theorem dX10_doesCount_16 : decode cX10_doesCount 16 = .ok (.istore 4, 2) := by decide +kernel
theorem dX10_doesCount_18 : decode cX10_doesCount 18 = .ok (.iload_n 2, 1) := by decide +kernel
theorem dX10_doesCount_19 : decode cX10_doesCount 19 = .ok (.iconst (-1), 1) := by decide +kernel
theorem dX10_doesCount_20 : decode cX10_doesCount 20 = .ok (.if_icmp .ne 6, 3) := by decide +kernel
theorem dX10_doesCount_23 : decode cX10_doesCount 23 = .ok (.iload 4, 2) := by decide +kernel
theorem dX10_doesCount_25 : decode cX10_doesCount 25 = .ok (.ireturn, 1) := by decide +kernel
theorem dX10_doesCount_26 : decode cX10_doesCount 26 = .ok (.iload_n 2, 1) := by decide +kernel
theorem dX10_doesCount_27 : decode cX10_doesCount 27 = .ok (.bipush (-2), 2) := by decide +kernel
theorem dX10_doesCount_29 : decode cX10_doesCount 29 = .ok (.if_icmp .gt 26, 3) := by decide +kernel
theorem dX10_doesCount_32 : decode cX10_doesCount 32 = .ok (.iload 4, 2) := by decide +kernel
theorem dX10_doesCount_34 : decode cX10_doesCount 34 = .ok (.ifCond .eq 19, 3) := by decide +kernel
theorem dX10_doesCount_37 : decode cX10_doesCount 37 = .ok (.aload_n 0, 1) := by decide +kernel
theorem dX10_doesCount_38 : decode cX10_doesCount 38 = .ok (.iload_n 3, 1) := by decide +kernel
theorem dX10_doesCount_39 : decode cX10_doesCount 39 = .ok (.bipush (-2), 2) := by decide +kernel
theorem dX10_doesCount_41 : decode cX10_doesCount 41 = .ok (.iload_n 2, 1) := by decide +kernel
theorem dX10_doesCount_42 : decode cX10_doesCount 42 = .ok (.isub, 1) := by decide +kernel
theorem dX10_doesCount_43 : decode cX10_doesCount 43 = .ok (.invokevirtual 89, 3) := by decide +kernel
theorem dX10_doesCount_46 : decode cX10_doesCount 46 = .ok (.ifCond .eq 7, 3) := by decide +kernel
theorem dX10_doesCount_49 : decode cX10_doesCount 49 = .ok (.iconst 1, 1) := by decide +kernel
theorem dX10_doesCount_50 : decode cX10_doesCount 50 = .ok (.goto 4, 3) := by decide +kernel
theorem dX10_doesCount_53 : decode cX10_doesCount 53 = .ok (.iconst 0, 1) := by decide +kernel
theorem dX10_doesCount_54 : decode cX10_doesCount 54 = .ok (.ireturn, 1) := by decide +kernel
theorem dX10_doesCount_55 : decode cX10_doesCount 55 = .ok (.aload_n 1, 1) := by decide +kernel
theorem dX10_doesCount_56 : decode cX10_doesCount 56 = .ok (.sipush 304, 3) := by decide +kernel
theorem dX10_doesCount_59 : decode cX10_doesCount 59 = .ok (.iload_n 2, 1) := by decide +kernel
theorem dX10_doesCount_60 : decode cX10_doesCount 60 = .ok (.iadd, 1) := by decide +kernel
theorem dX10_doesCount_61 : decode cX10_doesCount 61 = .ok (.iaload, 1) := by decide +kernel
theorem dX10_doesCount_62 : decode cX10_doesCount 62 = .ok (.istore 5, 2) := by decide +kernel
theorem dX10_doesCount_64 : decode cX10_doesCount 64 = .ok (.iload_n 3, 1) := by decide +kernel
theorem dX10_doesCount_65 : decode cX10_doesCount 65 = .ok (.iload 5, 2) := by decide +kernel
theorem dX10_doesCount_67 : decode cX10_doesCount 67 = .ok (.if_icmp .eq 28, 3) := by decide +kernel
theorem dX10_doesCount_70 : decode cX10_doesCount 70 = .ok (.iload 4, 2) := by decide +kernel
theorem dX10_doesCount_72 : decode cX10_doesCount 72 = .ok (.ifCond .eq 27, 3) := by decide +kernel
theorem dX10_doesCount_75 : decode cX10_doesCount 75 = .ok (.aload_n 0, 1) := by decide +kernel
theorem dX10_doesCount_76 : decode cX10_doesCount 76 = .ok (.aload_n 1, 1) := by decide +kernel
theorem dX10_doesCount_77 : decode cX10_doesCount 77 = .ok (.iload_n 2, 1) := by decide +kernel
theorem dX10_doesCount_78 : decode cX10_doesCount 78 = .ok (.iload_n 3, 1) := by decide +kernel
theorem dX10_doesCount_79 : decode cX10_doesCount 79 = .ok (.invokevirtual 92, 3) := by decide +kernel
theorem dX10_doesCount_82 : decode cX10_doesCount 82 = .ok (.ifCond .ne 17, 3) := by decide +kernel
theorem dX10_doesCount_85 : decode cX10_doesCount 85 = .ok (.aload_n 0, 1) := by decide +kernel
theorem dX10_doesCount_86 : decode cX10_doesCount 86 = .ok (.iload_n 3, 1) := by decide +kernel
theorem dX10_doesCount_87 : decode cX10_doesCount 87 = .ok (.iload 5, 2) := by decide +kernel
theorem dX10_doesCount_89 : decode cX10_doesCount 89 = .ok (.invokevirtual 89, 3) := by decide +kernel
theorem dX10_doesCount_92 : decode cX10_doesCount 92 = .ok (.ifCond .eq 7, 3) := by decide +kernel
theorem dX10_doesCount_95 : decode cX10_doesCount 95 = .ok (.iconst 1, 1) := by decide +kernel
theorem dX10_doesCount_96 : decode cX10_doesCount 96 = .ok (.goto 4, 3) := by decide +kernel
theorem dX10_doesCount_99 : decode cX10_doesCount 99 = .ok (.iconst 0, 1) := by decide +kernel
theorem dX10_doesCount_100 : decode cX10_doesCount 100 = .ok (.ireturn, 1) := by decide +kernel
theorem dX10_doesSee_0 : decode cX10_doesSee 0 = .ok (.aload_n 1, 1) := by decide +kernel
theorem dX10_doesSee_1 : decode cX10_doesSee 1 = .ok (.bipush 96, 2) := by decide +kernel
theorem dX10_doesSee_3 : decode cX10_doesSee 3 = .ok (.iload_n 3, 1) := by decide +kernel
theorem dX10_doesSee_4 : decode cX10_doesSee 4 = .ok (.iadd, 1) := by decide +kernel
theorem dX10_doesSee_5 : decode cX10_doesSee 5 = .ok (.iaload, 1) := by decide +kernel
theorem dX10_doesSee_6 : decode cX10_doesSee 6 = .ok (.istore 4, 2) := by decide +kernel
theorem dX10_doesSee_8 : decode cX10_doesSee 8 = .ok (.aload_n 1, 1) := by decide +kernel
theorem dX10_doesSee_9 : decode cX10_doesSee 9 = .ok (.sipush 144, 3) := by decide +kernel
theorem dX10_doesSee_12 : decode cX10_doesSee 12 = .ok (.iload_n 3, 1) := by decide +kernel
theorem dX10_doesSee_13 : decode cX10_doesSee 13 = .ok (.iadd, 1) := by decide +kernel
theorem dX10_doesSee_14 : decode cX10_doesSee 14 = .ok (.iaload, 1) := by decide +kernel
theorem dX10_doesSee_15 : decode cX10_doesSee 15 = .ok (.istore 5, 2) := by decide +kernel
theorem dX10_doesSee_17 : decode cX10_doesSee 17 = .ok (.aload_n 1, 1) := by decide +kernel
theorem dX10_doesSee_18 : decode cX10_doesSee 18 = .ok (.iconst 0, 1) := by decide +kernel
theorem dX10_doesSee_19 : decode cX10_doesSee 19 = .ok (.iload_n 3, 1) := by decide +kernel
theorem dX10_doesSee_20 : decode cX10_doesSee 20 = .ok (.iadd, 1) := by decide +kernel
theorem dX10_doesSee_21 : decode cX10_doesSee 21 = .ok (.iaload, 1) := by decide +kernel
theorem dX10_doesSee_22 : decode cX10_doesSee 22 = .ok (.ifCond .eq 19, 3) := by decide +kernel
theorem dX10_doesSee_25 : decode cX10_doesSee 25 = .ok (.iload 4, 2) := by decide +kernel
theorem dX10_doesSee_27 : decode cX10_doesSee 27 = .ok (.ifCond .lt 16, 3) := by decide +kernel
theorem dX10_doesSee_30 : decode cX10_doesSee 30 = .ok (.aload_n 0, 1) := by decide +kernel
theorem dX10_doesSee_31 : decode cX10_doesSee 31 = .ok (.aload_n 1, 1) := by decide +kernel
theorem dX10_doesSee_32 : decode cX10_doesSee 32 = .ok (.iload_n 2, 1) := by decide +kernel
theorem dX10_doesSee_33 : decode cX10_doesSee 33 = .ok (.iload 4, 2) := by decide +kernel
theorem dX10_doesSee_35 : decode cX10_doesSee 35 = .ok (.invokevirtual 96, 3) := by decide +kernel
theorem dX10_doesSee_38 : decode cX10_doesSee 38 = .ok (.ifCond .ne 5, 3) := by decide +kernel
theorem dX10_doesSee_41 : decode cX10_doesSee 41 = .ok (.iconst 0, 1) := by decide +kernel
theorem dX10_doesSee_42 : decode cX10_doesSee 42 = .ok (.ireturn, 1) := by decide +kernel
theorem dX10_doesSee_43 : decode cX10_doesSee 43 = .ok (.iload 5, 2) := by decide +kernel
theorem dX10_doesSee_45 : decode cX10_doesSee 45 = .ok (.ifCond .lt 14, 3) := by decide +kernel
theorem dX10_doesSee_48 : decode cX10_doesSee 48 = .ok (.aload_n 0, 1) := by decide +kernel
theorem dX10_doesSee_49 : decode cX10_doesSee 49 = .ok (.aload_n 1, 1) := by decide +kernel
theorem dX10_doesSee_50 : decode cX10_doesSee 50 = .ok (.iload_n 2, 1) := by decide +kernel
theorem dX10_doesSee_51 : decode cX10_doesSee 51 = .ok (.iload 5, 2) := by decide +kernel
theorem dX10_doesSee_53 : decode cX10_doesSee 53 = .ok (.invokevirtual 96, 3) := by decide +kernel
theorem dX10_doesSee_56 : decode cX10_doesSee 56 = .ok (.ifCond .ne 7, 3) := by decide +kernel
theorem dX10_doesSee_59 : decode cX10_doesSee 59 = .ok (.iconst 1, 1) := by decide +kernel
theorem dX10_doesSee_60 : decode cX10_doesSee 60 = .ok (.goto 4, 3) := by decide +kernel
theorem dX10_doesSee_63 : decode cX10_doesSee 63 = .ok (.iconst 0, 1) := by decide +kernel
theorem dX10_doesSee_64 : decode cX10_doesSee 64 = .ok (.ireturn, 1) := by decide +kernel
theorem dX10_seenIn_0 : decode cX10_seenIn 0 = .ok (.bipush (-2), 2) := by decide +kernel
theorem dX10_seenIn_2 : decode cX10_seenIn 2 = .ok (.istore 4, 2) := by decide +kernel
theorem dX10_seenIn_4 : decode cX10_seenIn 4 = .ok (.iconst 0, 1) := by decide +kernel
theorem dX10_seenIn_5 : decode cX10_seenIn 5 = .ok (.istore 5, 2) := by decide +kernel
theorem dX10_seenIn_7 : decode cX10_seenIn 7 = .ok (.iload 5, 2) := by decide +kernel
theorem dX10_seenIn_9 : decode cX10_seenIn 9 = .ok (.bipush 48, 2) := by decide +kernel
theorem dX10_seenIn_11 : decode cX10_seenIn 11 = .ok (.if_icmp .ge 60, 3) := by decide +kernel
theorem dX10_seenIn_14 : decode cX10_seenIn 14 = .ok (.aload_n 1, 1) := by decide +kernel
theorem dX10_seenIn_15 : decode cX10_seenIn 15 = .ok (.iconst 0, 1) := by decide +kernel
theorem dX10_seenIn_16 : decode cX10_seenIn 16 = .ok (.iload 5, 2) := by decide +kernel
theorem dX10_seenIn_18 : decode cX10_seenIn 18 = .ok (.iadd, 1) := by decide +kernel
theorem dX10_seenIn_19 : decode cX10_seenIn 19 = .ok (.iaload, 1) := by decide +kernel
theorem dX10_seenIn_20 : decode cX10_seenIn 20 = .ok (.iload_n 3, 1) := by decide +kernel
theorem dX10_seenIn_21 : decode cX10_seenIn 21 = .ok (.iconst 1, 1) := by decide +kernel
theorem dX10_seenIn_22 : decode cX10_seenIn 22 = .ok (.iadd, 1) := by decide +kernel
theorem dX10_seenIn_23 : decode cX10_seenIn 23 = .ok (.if_icmp .ne 42, 3) := by decide +kernel
theorem dX10_seenIn_26 : decode cX10_seenIn 26 = .ok (.aload_n 0, 1) := by decide +kernel
theorem dX10_seenIn_27 : decode cX10_seenIn 27 = .ok (.aload_n 1, 1) := by decide +kernel
theorem dX10_seenIn_28 : decode cX10_seenIn 28 = .ok (.iload_n 2, 1) := by decide +kernel
theorem dX10_seenIn_29 : decode cX10_seenIn 29 = .ok (.iload 5, 2) := by decide +kernel
theorem dX10_seenIn_31 : decode cX10_seenIn 31 = .ok (.invokevirtual 99, 3) := by decide +kernel
theorem dX10_seenIn_34 : decode cX10_seenIn 34 = .ok (.ifCond .eq 31, 3) := by decide +kernel
theorem dX10_seenIn_37 : decode cX10_seenIn 37 = .ok (.iload 4, 2) := by decide +kernel
theorem dX10_seenIn_39 : decode cX10_seenIn 39 = .ok (.ifCond .lt 22, 3) := by decide +kernel
theorem dX10_seenIn_42 : decode cX10_seenIn 42 = .ok (.aload_n 1, 1) := by decide +kernel
theorem dX10_seenIn_43 : decode cX10_seenIn 43 = .ok (.sipush 192, 3) := by decide +kernel
theorem dX10_seenIn_46 : decode cX10_seenIn 46 = .ok (.iload 5, 2) := by decide +kernel
theorem dX10_seenIn_48 : decode cX10_seenIn 48 = .ok (.iadd, 1) := by decide +kernel
theorem dX10_seenIn_49 : decode cX10_seenIn 49 = .ok (.iaload, 1) := by decide +kernel
theorem dX10_seenIn_50 : decode cX10_seenIn 50 = .ok (.aload_n 1, 1) := by decide +kernel
theorem dX10_seenIn_51 : decode cX10_seenIn 51 = .ok (.sipush 192, 3) := by decide +kernel
theorem dX10_seenIn_54 : decode cX10_seenIn 54 = .ok (.iload 4, 2) := by decide +kernel
theorem dX10_seenIn_56 : decode cX10_seenIn 56 = .ok (.iadd, 1) := by decide +kernel
theorem dX10_seenIn_57 : decode cX10_seenIn 57 = .ok (.iaload, 1) := by decide +kernel
theorem dX10_seenIn_58 : decode cX10_seenIn 58 = .ok (.if_icmp .le 7, 3) := by decide +kernel
theorem dX10_seenIn_61 : decode cX10_seenIn 61 = .ok (.iload 5, 2) := by decide +kernel
theorem dX10_seenIn_63 : decode cX10_seenIn 63 = .ok (.istore 4, 2) := by decide +kernel
theorem dX10_seenIn_65 : decode cX10_seenIn 65 = .ok (.iinc 5 1, 3) := by decide +kernel
theorem dX10_seenIn_68 : decode cX10_seenIn 68 = .ok (.goto (-61), 3) := by decide +kernel
theorem dX10_seenIn_71 : decode cX10_seenIn 71 = .ok (.iload 4, 2) := by decide +kernel
theorem dX10_seenIn_73 : decode cX10_seenIn 73 = .ok (.ireturn, 1) := by decide +kernel
theorem dX10_lastOf_0 : decode cX10_lastOf 0 = .ok (.bipush (-2), 2) := by decide +kernel
theorem dX10_lastOf_2 : decode cX10_lastOf 2 = .ok (.istore_n 3, 1) := by decide +kernel
theorem dX10_lastOf_3 : decode cX10_lastOf 3 = .ok (.iconst 0, 1) := by decide +kernel
theorem dX10_lastOf_4 : decode cX10_lastOf 4 = .ok (.istore 4, 2) := by decide +kernel
theorem dX10_lastOf_6 : decode cX10_lastOf 6 = .ok (.iload 4, 2) := by decide +kernel
theorem dX10_lastOf_8 : decode cX10_lastOf 8 = .ok (.bipush 48, 2) := by decide +kernel
theorem dX10_lastOf_10 : decode cX10_lastOf 10 = .ok (.if_icmp .ge 78, 3) := by decide +kernel
theorem dX10_lastOf_13 : decode cX10_lastOf 13 = .ok (.aload_n 1, 1) := by decide +kernel
theorem dX10_lastOf_14 : decode cX10_lastOf 14 = .ok (.iconst 0, 1) := by decide +kernel
theorem dX10_lastOf_15 : decode cX10_lastOf 15 = .ok (.iload 4, 2) := by decide +kernel
theorem dX10_lastOf_17 : decode cX10_lastOf 17 = .ok (.iadd, 1) := by decide +kernel
theorem dX10_lastOf_18 : decode cX10_lastOf 18 = .ok (.iaload, 1) := by decide +kernel
theorem dX10_lastOf_19 : decode cX10_lastOf 19 = .ok (.iload_n 2, 1) := by decide +kernel
theorem dX10_lastOf_20 : decode cX10_lastOf 20 = .ok (.iconst 1, 1) := by decide +kernel
theorem dX10_lastOf_21 : decode cX10_lastOf 21 = .ok (.iadd, 1) := by decide +kernel
theorem dX10_lastOf_22 : decode cX10_lastOf 22 = .ok (.if_icmp .eq 6, 3) := by decide +kernel
theorem dX10_lastOf_25 : decode cX10_lastOf 25 = .ok (.goto 57, 3) := by decide +kernel
theorem dX10_lastOf_28 : decode cX10_lastOf 28 = .ok (.aload_n 1, 1) := by decide +kernel
theorem dX10_lastOf_29 : decode cX10_lastOf 29 = .ok (.bipush 96, 2) := by decide +kernel
theorem dX10_lastOf_31 : decode cX10_lastOf 31 = .ok (.iload 4, 2) := by decide +kernel
theorem dX10_lastOf_33 : decode cX10_lastOf 33 = .ok (.iadd, 1) := by decide +kernel
theorem dX10_lastOf_34 : decode cX10_lastOf 34 = .ok (.iaload, 1) := by decide +kernel
theorem dX10_lastOf_35 : decode cX10_lastOf 35 = .ok (.istore 5, 2) := by decide +kernel
theorem dX10_lastOf_37 : decode cX10_lastOf 37 = .ok (.iload 5, 2) := by decide +kernel
theorem dX10_lastOf_39 : decode cX10_lastOf 39 = .ok (.ifCond .lt 18, 3) := by decide +kernel
theorem dX10_lastOf_42 : decode cX10_lastOf 42 = .ok (.aload_n 1, 1) := by decide +kernel
theorem dX10_lastOf_43 : decode cX10_lastOf 43 = .ok (.sipush 240, 3) := by decide +kernel
theorem dX10_lastOf_46 : decode cX10_lastOf 46 = .ok (.iload 5, 2) := by decide +kernel
theorem dX10_lastOf_48 : decode cX10_lastOf 48 = .ok (.iadd, 1) := by decide +kernel
theorem dX10_lastOf_49 : decode cX10_lastOf 49 = .ok (.iaload, 1) := by decide +kernel
theorem dX10_lastOf_50 : decode cX10_lastOf 50 = .ok (.iconst 3, 1) := by decide +kernel
theorem dX10_lastOf_51 : decode cX10_lastOf 51 = .ok (.if_icmp .ne 6, 3) := by decide +kernel
theorem dX10_lastOf_54 : decode cX10_lastOf 54 = .ok (.goto 28, 3) := by decide +kernel
theorem dX10_lastOf_57 : decode cX10_lastOf 57 = .ok (.iload_n 3, 1) := by decide +kernel
theorem dX10_lastOf_58 : decode cX10_lastOf 58 = .ok (.ifCond .lt 21, 3) := by decide +kernel
theorem dX10_lastOf_61 : decode cX10_lastOf 61 = .ok (.aload_n 1, 1) := by decide +kernel
theorem dX10_lastOf_62 : decode cX10_lastOf 62 = .ok (.sipush 192, 3) := by decide +kernel
theorem dX10_lastOf_65 : decode cX10_lastOf 65 = .ok (.iload 4, 2) := by decide +kernel
theorem dX10_lastOf_67 : decode cX10_lastOf 67 = .ok (.iadd, 1) := by decide +kernel
theorem dX10_lastOf_68 : decode cX10_lastOf 68 = .ok (.iaload, 1) := by decide +kernel
theorem dX10_lastOf_69 : decode cX10_lastOf 69 = .ok (.aload_n 1, 1) := by decide +kernel
theorem dX10_lastOf_70 : decode cX10_lastOf 70 = .ok (.sipush 192, 3) := by decide +kernel
theorem dX10_lastOf_73 : decode cX10_lastOf 73 = .ok (.iload_n 3, 1) := by decide +kernel
theorem dX10_lastOf_74 : decode cX10_lastOf 74 = .ok (.iadd, 1) := by decide +kernel
theorem dX10_lastOf_75 : decode cX10_lastOf 75 = .ok (.iaload, 1) := by decide +kernel
theorem dX10_lastOf_76 : decode cX10_lastOf 76 = .ok (.if_icmp .le 6, 3) := by decide +kernel
theorem dX10_lastOf_79 : decode cX10_lastOf 79 = .ok (.iload 4, 2) := by decide +kernel
theorem dX10_lastOf_81 : decode cX10_lastOf 81 = .ok (.istore_n 3, 1) := by decide +kernel
theorem dX10_lastOf_82 : decode cX10_lastOf 82 = .ok (.iinc 4 1, 3) := by decide +kernel
theorem dX10_lastOf_85 : decode cX10_lastOf 85 = .ok (.goto (-79), 3) := by decide +kernel
theorem dX10_lastOf_88 : decode cX10_lastOf 88 = .ok (.iload_n 3, 1) := by decide +kernel
theorem dX10_lastOf_89 : decode cX10_lastOf 89 = .ok (.ireturn, 1) := by decide +kernel
theorem dX10_slotOf_0 : decode cX10_slotOf 0 = .ok (.iconst 0, 1) := by decide +kernel
theorem dX10_slotOf_1 : decode cX10_slotOf 1 = .ok (.istore_n 3, 1) := by decide +kernel
theorem dX10_slotOf_2 : decode cX10_slotOf 2 = .ok (.iload_n 3, 1) := by decide +kernel
theorem dX10_slotOf_3 : decode cX10_slotOf 3 = .ok (.bipush 6, 2) := by decide +kernel
theorem dX10_slotOf_5 : decode cX10_slotOf 5 = .ok (.if_icmp .ge 22, 3) := by decide +kernel
theorem dX10_slotOf_8 : decode cX10_slotOf 8 = .ok (.aload_n 1, 1) := by decide +kernel
theorem dX10_slotOf_9 : decode cX10_slotOf 9 = .ok (.sipush 304, 3) := by decide +kernel
theorem dX10_slotOf_12 : decode cX10_slotOf 12 = .ok (.iload_n 3, 1) := by decide +kernel
theorem dX10_slotOf_13 : decode cX10_slotOf 13 = .ok (.iadd, 1) := by decide +kernel
theorem dX10_slotOf_14 : decode cX10_slotOf 14 = .ok (.iaload, 1) := by decide +kernel
theorem dX10_slotOf_15 : decode cX10_slotOf 15 = .ok (.iload_n 2, 1) := by decide +kernel
theorem dX10_slotOf_16 : decode cX10_slotOf 16 = .ok (.if_icmp .ne 5, 3) := by decide +kernel
theorem dX10_slotOf_19 : decode cX10_slotOf 19 = .ok (.iload_n 3, 1) := by decide +kernel
theorem dX10_slotOf_20 : decode cX10_slotOf 20 = .ok (.ireturn, 1) := by decide +kernel
theorem dX10_slotOf_21 : decode cX10_slotOf 21 = .ok (.iinc 3 1, 3) := by decide +kernel
theorem dX10_slotOf_24 : decode cX10_slotOf 24 = .ok (.goto (-22), 3) := by decide +kernel
theorem dX10_slotOf_27 : decode cX10_slotOf 27 = .ok (.bipush (-2), 2) := by decide +kernel
theorem dX10_slotOf_29 : decode cX10_slotOf 29 = .ok (.ireturn, 1) := by decide +kernel
theorem dX10_heldBy_0 : decode cX10_heldBy 0 = .ok (.aload_n 0, 1) := by decide +kernel
theorem dX10_heldBy_1 : decode cX10_heldBy 1 = .ok (.aload_n 1, 1) := by decide +kernel
theorem dX10_heldBy_2 : decode cX10_heldBy 2 = .ok (.iload_n 2, 1) := by decide +kernel
theorem dX10_heldBy_3 : decode cX10_heldBy 3 = .ok (.iload_n 3, 1) := by decide +kernel
theorem dX10_heldBy_4 : decode cX10_heldBy 4 = .ok (.invokevirtual 102, 3) := by decide +kernel
theorem dX10_heldBy_7 : decode cX10_heldBy 7 = .ok (.istore 4, 2) := by decide +kernel
theorem dX10_heldBy_9 : decode cX10_heldBy 9 = .ok (.iload 4, 2) := by decide +kernel
theorem dX10_heldBy_11 : decode cX10_heldBy 11 = .ok (.ifCond .lt 43, 3) := by decide +kernel
theorem dX10_heldBy_14 : decode cX10_heldBy 14 = .ok (.aload_n 1, 1) := by decide +kernel
theorem dX10_heldBy_15 : decode cX10_heldBy 15 = .ok (.sipush 144, 3) := by decide +kernel
theorem dX10_heldBy_18 : decode cX10_heldBy 18 = .ok (.iload 4, 2) := by decide +kernel
theorem dX10_heldBy_20 : decode cX10_heldBy 20 = .ok (.iadd, 1) := by decide +kernel
theorem dX10_heldBy_21 : decode cX10_heldBy 21 = .ok (.iaload, 1) := by decide +kernel
theorem dX10_heldBy_22 : decode cX10_heldBy 22 = .ok (.istore 5, 2) := by decide +kernel
theorem dX10_heldBy_24 : decode cX10_heldBy 24 = .ok (.iload 5, 2) := by decide +kernel
theorem dX10_heldBy_26 : decode cX10_heldBy 26 = .ok (.ifCond .lt 25, 3) := by decide +kernel
theorem dX10_heldBy_29 : decode cX10_heldBy 29 = .ok (.aload_n 1, 1) := by decide +kernel
theorem dX10_heldBy_30 : decode cX10_heldBy 30 = .ok (.sipush 240, 3) := by decide +kernel
theorem dX10_heldBy_33 : decode cX10_heldBy 33 = .ok (.iload 5, 2) := by decide +kernel
theorem dX10_heldBy_35 : decode cX10_heldBy 35 = .ok (.iadd, 1) := by decide +kernel
theorem dX10_heldBy_36 : decode cX10_heldBy 36 = .ok (.iaload, 1) := by decide +kernel
theorem dX10_heldBy_37 : decode cX10_heldBy 37 = .ok (.iconst 1, 1) := by decide +kernel
theorem dX10_heldBy_38 : decode cX10_heldBy 38 = .ok (.if_icmp .ne 13, 3) := by decide +kernel
theorem dX10_heldBy_41 : decode cX10_heldBy 41 = .ok (.aload_n 0, 1) := by decide +kernel
theorem dX10_heldBy_42 : decode cX10_heldBy 42 = .ok (.aload_n 1, 1) := by decide +kernel
theorem dX10_heldBy_43 : decode cX10_heldBy 43 = .ok (.iload 5, 2) := by decide +kernel
theorem dX10_heldBy_45 : decode cX10_heldBy 45 = .ok (.invokevirtual 106, 3) := by decide +kernel
theorem dX10_heldBy_48 : decode cX10_heldBy 48 = .ok (.goto 5, 3) := by decide +kernel
theorem dX10_heldBy_51 : decode cX10_heldBy 51 = .ok (.bipush (-2), 2) := by decide +kernel
theorem dX10_heldBy_53 : decode cX10_heldBy 53 = .ok (.ireturn, 1) := by decide +kernel
theorem dX10_heldBy_54 : decode cX10_heldBy 54 = .ok (.aload_n 0, 1) := by decide +kernel
theorem dX10_heldBy_55 : decode cX10_heldBy 55 = .ok (.aload_n 1, 1) := by decide +kernel
theorem dX10_heldBy_56 : decode cX10_heldBy 56 = .ok (.iload_n 3, 1) := by decide +kernel
theorem dX10_heldBy_57 : decode cX10_heldBy 57 = .ok (.invokevirtual 110, 3) := by decide +kernel
theorem dX10_heldBy_60 : decode cX10_heldBy 60 = .ok (.istore 5, 2) := by decide +kernel
theorem dX10_heldBy_62 : decode cX10_heldBy 62 = .ok (.iload 5, 2) := by decide +kernel
theorem dX10_heldBy_64 : decode cX10_heldBy 64 = .ok (.ifCond .ge 8, 3) := by decide +kernel
theorem dX10_heldBy_67 : decode cX10_heldBy 67 = .ok (.bipush (-2), 2) := by decide +kernel
theorem dX10_heldBy_69 : decode cX10_heldBy 69 = .ok (.goto 10, 3) := by decide +kernel
theorem dX10_heldBy_72 : decode cX10_heldBy 72 = .ok (.aload_n 1, 1) := by decide +kernel
theorem dX10_heldBy_73 : decode cX10_heldBy 73 = .ok (.bipush 96, 2) := by decide +kernel
theorem dX10_heldBy_75 : decode cX10_heldBy 75 = .ok (.iload 5, 2) := by decide +kernel
theorem dX10_heldBy_77 : decode cX10_heldBy 77 = .ok (.iadd, 1) := by decide +kernel
theorem dX10_heldBy_78 : decode cX10_heldBy 78 = .ok (.iaload, 1) := by decide +kernel
theorem dX10_heldBy_79 : decode cX10_heldBy 79 = .ok (.istore 6, 2) := by decide +kernel
theorem dX10_heldBy_81 : decode cX10_heldBy 81 = .ok (.iload 6, 2) := by decide +kernel
theorem dX10_heldBy_83 : decode cX10_heldBy 83 = .ok (.ifCond .lt 37, 3) := by decide +kernel
theorem dX10_heldBy_86 : decode cX10_heldBy 86 = .ok (.aload_n 1, 1) := by decide +kernel
theorem dX10_heldBy_87 : decode cX10_heldBy 87 = .ok (.sipush 240, 3) := by decide +kernel
theorem dX10_heldBy_90 : decode cX10_heldBy 90 = .ok (.iload 6, 2) := by decide +kernel
theorem dX10_heldBy_92 : decode cX10_heldBy 92 = .ok (.iadd, 1) := by decide +kernel
theorem dX10_heldBy_93 : decode cX10_heldBy 93 = .ok (.iaload, 1) := by decide +kernel
theorem dX10_heldBy_94 : decode cX10_heldBy 94 = .ok (.iconst 1, 1) := by decide +kernel
theorem dX10_heldBy_95 : decode cX10_heldBy 95 = .ok (.if_icmp .ne 25, 3) := by decide +kernel
theorem dX10_heldBy_98 : decode cX10_heldBy 98 = .ok (.iload 6, 2) := by decide +kernel
theorem dX10_heldBy_100 : decode cX10_heldBy 100 = .ok (.aload_n 1, 1) := by decide +kernel
theorem dX10_heldBy_101 : decode cX10_heldBy 101 = .ok (.sipush 304, 3) := by decide +kernel
theorem dX10_heldBy_104 : decode cX10_heldBy 104 = .ok (.iload_n 2, 1) := by decide +kernel
theorem dX10_heldBy_105 : decode cX10_heldBy 105 = .ok (.iadd, 1) := by decide +kernel
theorem dX10_heldBy_106 : decode cX10_heldBy 106 = .ok (.iaload, 1) := by decide +kernel
theorem dX10_heldBy_107 : decode cX10_heldBy 107 = .ok (.if_icmp .eq 13, 3) := by decide +kernel
theorem dX10_heldBy_110 : decode cX10_heldBy 110 = .ok (.aload_n 0, 1) := by decide +kernel
theorem dX10_heldBy_111 : decode cX10_heldBy 111 = .ok (.aload_n 1, 1) := by decide +kernel
theorem dX10_heldBy_112 : decode cX10_heldBy 112 = .ok (.iload 6, 2) := by decide +kernel
theorem dX10_heldBy_114 : decode cX10_heldBy 114 = .ok (.invokevirtual 106, 3) := by decide +kernel
theorem dX10_heldBy_117 : decode cX10_heldBy 117 = .ok (.goto 5, 3) := by decide +kernel
theorem dX10_heldBy_120 : decode cX10_heldBy 120 = .ok (.bipush (-2), 2) := by decide +kernel
theorem dX10_heldBy_122 : decode cX10_heldBy 122 = .ok (.ireturn, 1) := by decide +kernel
theorem dX10_wouldLose_0 : decode cX10_wouldLose 0 = .ok (.aload_n 0, 1) := by decide +kernel
theorem dX10_wouldLose_1 : decode cX10_wouldLose 1 = .ok (.aload_n 1, 1) := by decide +kernel
theorem dX10_wouldLose_2 : decode cX10_wouldLose 2 = .ok (.iload_n 2, 1) := by decide +kernel
theorem dX10_wouldLose_3 : decode cX10_wouldLose 3 = .ok (.iload_n 3, 1) := by decide +kernel
theorem dX10_wouldLose_4 : decode cX10_wouldLose 4 = .ok (.invokevirtual 102, 3) := by decide +kernel
theorem dX10_wouldLose_7 : decode cX10_wouldLose 7 = .ok (.istore 4, 2) := by decide +kernel
theorem dX10_wouldLose_9 : decode cX10_wouldLose 9 = .ok (.iload 4, 2) := by decide +kernel
theorem dX10_wouldLose_11 : decode cX10_wouldLose 11 = .ok (.ifCond .lt 36, 3) := by decide +kernel
theorem dX10_wouldLose_14 : decode cX10_wouldLose 14 = .ok (.aload_n 1, 1) := by decide +kernel
theorem dX10_wouldLose_15 : decode cX10_wouldLose 15 = .ok (.sipush 144, 3) := by decide +kernel
theorem dX10_wouldLose_18 : decode cX10_wouldLose 18 = .ok (.iload 4, 2) := by decide +kernel
theorem dX10_wouldLose_20 : decode cX10_wouldLose 20 = .ok (.iadd, 1) := by decide +kernel
theorem dX10_wouldLose_21 : decode cX10_wouldLose 21 = .ok (.iaload, 1) := by decide +kernel
theorem dX10_wouldLose_22 : decode cX10_wouldLose 22 = .ok (.istore 5, 2) := by decide +kernel
theorem dX10_wouldLose_24 : decode cX10_wouldLose 24 = .ok (.iload 5, 2) := by decide +kernel
theorem dX10_wouldLose_26 : decode cX10_wouldLose 26 = .ok (.ifCond .lt 19, 3) := by decide +kernel
theorem dX10_wouldLose_29 : decode cX10_wouldLose 29 = .ok (.aload_n 1, 1) := by decide +kernel
theorem dX10_wouldLose_30 : decode cX10_wouldLose 30 = .ok (.sipush 240, 3) := by decide +kernel
theorem dX10_wouldLose_33 : decode cX10_wouldLose 33 = .ok (.iload 5, 2) := by decide +kernel
theorem dX10_wouldLose_35 : decode cX10_wouldLose 35 = .ok (.iadd, 1) := by decide +kernel
theorem dX10_wouldLose_36 : decode cX10_wouldLose 36 = .ok (.iaload, 1) := by decide +kernel
theorem dX10_wouldLose_37 : decode cX10_wouldLose 37 = .ok (.iconst 2, 1) := by decide +kernel
theorem dX10_wouldLose_38 : decode cX10_wouldLose 38 = .ok (.if_icmp .ne 7, 3) := by decide +kernel
theorem dX10_wouldLose_41 : decode cX10_wouldLose 41 = .ok (.iconst 1, 1) := by decide +kernel
theorem dX10_wouldLose_42 : decode cX10_wouldLose 42 = .ok (.goto 4, 3) := by decide +kernel
theorem dX10_wouldLose_45 : decode cX10_wouldLose 45 = .ok (.iconst 0, 1) := by decide +kernel
theorem dX10_wouldLose_46 : decode cX10_wouldLose 46 = .ok (.ireturn, 1) := by decide +kernel
theorem dX10_wouldLose_47 : decode cX10_wouldLose 47 = .ok (.aload_n 0, 1) := by decide +kernel
theorem dX10_wouldLose_48 : decode cX10_wouldLose 48 = .ok (.aload_n 1, 1) := by decide +kernel
theorem dX10_wouldLose_49 : decode cX10_wouldLose 49 = .ok (.iload_n 3, 1) := by decide +kernel
theorem dX10_wouldLose_50 : decode cX10_wouldLose 50 = .ok (.invokevirtual 110, 3) := by decide +kernel
theorem dX10_wouldLose_53 : decode cX10_wouldLose 53 = .ok (.istore 5, 2) := by decide +kernel
theorem dX10_wouldLose_55 : decode cX10_wouldLose 55 = .ok (.iload 5, 2) := by decide +kernel
theorem dX10_wouldLose_57 : decode cX10_wouldLose 57 = .ok (.ifCond .ge 8, 3) := by decide +kernel
theorem dX10_wouldLose_60 : decode cX10_wouldLose 60 = .ok (.bipush (-2), 2) := by decide +kernel
theorem dX10_wouldLose_62 : decode cX10_wouldLose 62 = .ok (.goto 10, 3) := by decide +kernel
theorem dX10_wouldLose_65 : decode cX10_wouldLose 65 = .ok (.aload_n 1, 1) := by decide +kernel
theorem dX10_wouldLose_66 : decode cX10_wouldLose 66 = .ok (.bipush 96, 2) := by decide +kernel
theorem dX10_wouldLose_68 : decode cX10_wouldLose 68 = .ok (.iload 5, 2) := by decide +kernel
theorem dX10_wouldLose_70 : decode cX10_wouldLose 70 = .ok (.iadd, 1) := by decide +kernel
theorem dX10_wouldLose_71 : decode cX10_wouldLose 71 = .ok (.iaload, 1) := by decide +kernel
theorem dX10_wouldLose_72 : decode cX10_wouldLose 72 = .ok (.istore 6, 2) := by decide +kernel
theorem dX10_wouldLose_74 : decode cX10_wouldLose 74 = .ok (.iload 6, 2) := by decide +kernel
theorem dX10_wouldLose_76 : decode cX10_wouldLose 76 = .ok (.ifCond .lt 18, 3) := by decide +kernel
theorem dX10_wouldLose_79 : decode cX10_wouldLose 79 = .ok (.aload_n 0, 1) := by decide +kernel
theorem dX10_wouldLose_80 : decode cX10_wouldLose 80 = .ok (.aload_n 1, 1) := by decide +kernel
theorem dX10_wouldLose_81 : decode cX10_wouldLose 81 = .ok (.iload_n 2, 1) := by decide +kernel
theorem dX10_wouldLose_82 : decode cX10_wouldLose 82 = .ok (.iload 6, 2) := by decide +kernel
theorem dX10_wouldLose_84 : decode cX10_wouldLose 84 = .ok (.invokevirtual 96, 3) := by decide +kernel
theorem dX10_wouldLose_87 : decode cX10_wouldLose 87 = .ok (.ifCond .ne 7, 3) := by decide +kernel
theorem dX10_wouldLose_90 : decode cX10_wouldLose 90 = .ok (.iconst 1, 1) := by decide +kernel
theorem dX10_wouldLose_91 : decode cX10_wouldLose 91 = .ok (.goto 4, 3) := by decide +kernel
theorem dX10_wouldLose_94 : decode cX10_wouldLose 94 = .ok (.iconst 0, 1) := by decide +kernel
theorem dX10_wouldLose_95 : decode cX10_wouldLose 95 = .ok (.ireturn, 1) := by decide +kernel
theorem dX10_doesRun_0 : decode cX10_doesRun 0 = .ok (.aload_n 1, 1) := by decide +kernel
theorem dX10_doesRun_1 : decode cX10_doesRun 1 = .ok (.sipush 304, 3) := by decide +kernel
theorem dX10_doesRun_4 : decode cX10_doesRun 4 = .ok (.iload_n 2, 1) := by decide +kernel
theorem dX10_doesRun_5 : decode cX10_doesRun 5 = .ok (.iadd, 1) := by decide +kernel
theorem dX10_doesRun_6 : decode cX10_doesRun 6 = .ok (.iaload, 1) := by decide +kernel
theorem dX10_doesRun_7 : decode cX10_doesRun 7 = .ok (.ifCond .lt 7, 3) := by decide +kernel
theorem dX10_doesRun_10 : decode cX10_doesRun 10 = .ok (.iconst 1, 1) := by decide +kernel
theorem dX10_doesRun_11 : decode cX10_doesRun 11 = .ok (.goto 4, 3) := by decide +kernel
theorem dX10_doesRun_14 : decode cX10_doesRun 14 = .ok (.iconst 0, 1) := by decide +kernel
theorem dX10_doesRun_15 : decode cX10_doesRun 15 = .ok (.ireturn, 1) := by decide +kernel
theorem dX10_ageBack_0 : decode cX10_ageBack 0 = .ok (.aload_n 0, 1) := by decide +kernel
theorem dX10_ageBack_1 : decode cX10_ageBack 1 = .ok (.aload_n 1, 1) := by decide +kernel
theorem dX10_ageBack_2 : decode cX10_ageBack 2 = .ok (.aload_n 1, 1) := by decide +kernel
theorem dX10_ageBack_3 : decode cX10_ageBack 3 = .ok (.sipush 304, 3) := by decide +kernel
theorem dX10_ageBack_6 : decode cX10_ageBack 6 = .ok (.iload_n 2, 1) := by decide +kernel
theorem dX10_ageBack_7 : decode cX10_ageBack 7 = .ok (.iadd, 1) := by decide +kernel
theorem dX10_ageBack_8 : decode cX10_ageBack 8 = .ok (.iaload, 1) := by decide +kernel
theorem dX10_ageBack_9 : decode cX10_ageBack 9 = .ok (.invokevirtual 113, 3) := by decide +kernel
theorem dX10_ageBack_12 : decode cX10_ageBack 12 = .ok (.istore_n 3, 1) := by decide +kernel
theorem dX10_ageBack_13 : decode cX10_ageBack 13 = .ok (.iconst 0, 1) := by decide +kernel
theorem dX10_ageBack_14 : decode cX10_ageBack 14 = .ok (.istore 4, 2) := by decide +kernel
theorem dX10_ageBack_16 : decode cX10_ageBack 16 = .ok (.iload 4, 2) := by decide +kernel
theorem dX10_ageBack_18 : decode cX10_ageBack 18 = .ok (.aload_n 0, 1) := by decide +kernel
theorem dX10_ageBack_19 : decode cX10_ageBack 19 = .ok (.getfield 74, 3) := by decide +kernel
theorem dX10_ageBack_22 : decode cX10_ageBack 22 = .ok (.if_icmp .ge 39, 3) := by decide +kernel
theorem dX10_ageBack_25 : decode cX10_ageBack 25 = .ok (.aload_n 0, 1) := by decide +kernel
theorem dX10_ageBack_26 : decode cX10_ageBack 26 = .ok (.aload_n 1, 1) := by decide +kernel
theorem dX10_ageBack_27 : decode cX10_ageBack 27 = .ok (.iload_n 2, 1) := by decide +kernel
theorem dX10_ageBack_28 : decode cX10_ageBack 28 = .ok (.iload 4, 2) := by decide +kernel
theorem dX10_ageBack_30 : decode cX10_ageBack 30 = .ok (.invokevirtual 92, 3) := by decide +kernel
theorem dX10_ageBack_33 : decode cX10_ageBack 33 = .ok (.ifCond .eq 22, 3) := by decide +kernel
theorem dX10_ageBack_36 : decode cX10_ageBack 36 = .ok (.aload_n 0, 1) := by decide +kernel
theorem dX10_ageBack_37 : decode cX10_ageBack 37 = .ok (.aload_n 1, 1) := by decide +kernel
theorem dX10_ageBack_38 : decode cX10_ageBack 38 = .ok (.iload 4, 2) := by decide +kernel
theorem dX10_ageBack_40 : decode cX10_ageBack 40 = .ok (.invokevirtual 113, 3) := by decide +kernel
theorem dX10_ageBack_43 : decode cX10_ageBack 43 = .ok (.iload_n 3, 1) := by decide +kernel
theorem dX10_ageBack_44 : decode cX10_ageBack 44 = .ok (.if_icmp .le 11, 3) := by decide +kernel
theorem dX10_ageBack_47 : decode cX10_ageBack 47 = .ok (.aload_n 0, 1) := by decide +kernel
theorem dX10_ageBack_48 : decode cX10_ageBack 48 = .ok (.aload_n 1, 1) := by decide +kernel
theorem dX10_ageBack_49 : decode cX10_ageBack 49 = .ok (.iload 4, 2) := by decide +kernel
theorem dX10_ageBack_51 : decode cX10_ageBack 51 = .ok (.invokevirtual 113, 3) := by decide +kernel
theorem dX10_ageBack_54 : decode cX10_ageBack 54 = .ok (.istore_n 3, 1) := by decide +kernel
theorem dX10_ageBack_55 : decode cX10_ageBack 55 = .ok (.iinc 4 1, 3) := by decide +kernel
theorem dX10_ageBack_58 : decode cX10_ageBack 58 = .ok (.goto (-42), 3) := by decide +kernel
theorem dX10_ageBack_61 : decode cX10_ageBack 61 = .ok (.iload_n 3, 1) := by decide +kernel
theorem dX10_ageBack_62 : decode cX10_ageBack 62 = .ok (.ireturn, 1) := by decide +kernel
theorem dX10_horizonOf_0 : decode cX10_horizonOf 0 = .ok (.iconst 0, 1) := by decide +kernel
theorem dX10_horizonOf_1 : decode cX10_horizonOf 1 = .ok (.istore_n 2, 1) := by decide +kernel
theorem dX10_horizonOf_2 : decode cX10_horizonOf 2 = .ok (.iconst 0, 1) := by decide +kernel
theorem dX10_horizonOf_3 : decode cX10_horizonOf 3 = .ok (.istore_n 3, 1) := by decide +kernel
theorem dX10_horizonOf_4 : decode cX10_horizonOf 4 = .ok (.iload_n 3, 1) := by decide +kernel
theorem dX10_horizonOf_5 : decode cX10_horizonOf 5 = .ok (.bipush 6, 2) := by decide +kernel
theorem dX10_horizonOf_7 : decode cX10_horizonOf 7 = .ok (.if_icmp .ge 35, 3) := by decide +kernel
theorem dX10_horizonOf_10 : decode cX10_horizonOf 10 = .ok (.aload_n 0, 1) := by decide +kernel
theorem dX10_horizonOf_11 : decode cX10_horizonOf 11 = .ok (.aload_n 1, 1) := by decide +kernel
theorem dX10_horizonOf_12 : decode cX10_horizonOf 12 = .ok (.iload_n 3, 1) := by decide +kernel
theorem dX10_horizonOf_13 : decode cX10_horizonOf 13 = .ok (.invokevirtual 116, 3) := by decide +kernel
theorem dX10_horizonOf_16 : decode cX10_horizonOf 16 = .ok (.ifCond .eq 20, 3) := by decide +kernel
theorem dX10_horizonOf_19 : decode cX10_horizonOf 19 = .ok (.aload_n 0, 1) := by decide +kernel
theorem dX10_horizonOf_20 : decode cX10_horizonOf 20 = .ok (.aload_n 1, 1) := by decide +kernel
theorem dX10_horizonOf_21 : decode cX10_horizonOf 21 = .ok (.iload_n 3, 1) := by decide +kernel
theorem dX10_horizonOf_22 : decode cX10_horizonOf 22 = .ok (.invokevirtual 120, 3) := by decide +kernel
theorem dX10_horizonOf_25 : decode cX10_horizonOf 25 = .ok (.iload_n 2, 1) := by decide +kernel
theorem dX10_horizonOf_26 : decode cX10_horizonOf 26 = .ok (.if_icmp .le 10, 3) := by decide +kernel
theorem dX10_horizonOf_29 : decode cX10_horizonOf 29 = .ok (.aload_n 0, 1) := by decide +kernel
theorem dX10_horizonOf_30 : decode cX10_horizonOf 30 = .ok (.aload_n 1, 1) := by decide +kernel
theorem dX10_horizonOf_31 : decode cX10_horizonOf 31 = .ok (.iload_n 3, 1) := by decide +kernel
theorem dX10_horizonOf_32 : decode cX10_horizonOf 32 = .ok (.invokevirtual 120, 3) := by decide +kernel
theorem dX10_horizonOf_35 : decode cX10_horizonOf 35 = .ok (.istore_n 2, 1) := by decide +kernel
theorem dX10_horizonOf_36 : decode cX10_horizonOf 36 = .ok (.iinc 3 1, 3) := by decide +kernel
theorem dX10_horizonOf_39 : decode cX10_horizonOf 39 = .ok (.goto (-35), 3) := by decide +kernel
theorem dX10_horizonOf_42 : decode cX10_horizonOf 42 = .ok (.aload_n 1, 1) := by decide +kernel
theorem dX10_horizonOf_43 : decode cX10_horizonOf 43 = .ok (.sipush 323, 3) := by decide +kernel
theorem dX10_horizonOf_46 : decode cX10_horizonOf 46 = .ok (.iaload, 1) := by decide +kernel
theorem dX10_horizonOf_47 : decode cX10_horizonOf 47 = .ok (.iload_n 2, 1) := by decide +kernel
theorem dX10_horizonOf_48 : decode cX10_horizonOf 48 = .ok (.isub, 1) := by decide +kernel
theorem dX10_horizonOf_49 : decode cX10_horizonOf 49 = .ok (.aload_n 0, 1) := by decide +kernel
theorem dX10_horizonOf_50 : decode cX10_horizonOf 50 = .ok (.getfield 74, 3) := by decide +kernel
theorem dX10_horizonOf_53 : decode cX10_horizonOf 53 = .ok (.iadd, 1) := by decide +kernel
theorem dX10_horizonOf_54 : decode cX10_horizonOf 54 = .ok (.aload_n 0, 1) := by decide +kernel
theorem dX10_horizonOf_55 : decode cX10_horizonOf 55 = .ok (.getfield 74, 3) := by decide +kernel
theorem dX10_horizonOf_58 : decode cX10_horizonOf 58 = .ok (.irem, 1) := by decide +kernel
theorem dX10_horizonOf_59 : decode cX10_horizonOf 59 = .ok (.ireturn, 1) := by decide +kernel
theorem dX10_usedAge_0 : decode cX10_usedAge 0 = .ok (.bipush (-2), 2) := by decide +kernel
theorem dX10_usedAge_2 : decode cX10_usedAge 2 = .ok (.istore_n 2, 1) := by decide +kernel
theorem dX10_usedAge_3 : decode cX10_usedAge 3 = .ok (.iconst 0, 1) := by decide +kernel
theorem dX10_usedAge_4 : decode cX10_usedAge 4 = .ok (.istore_n 3, 1) := by decide +kernel
theorem dX10_usedAge_5 : decode cX10_usedAge 5 = .ok (.iload_n 3, 1) := by decide +kernel
theorem dX10_usedAge_6 : decode cX10_usedAge 6 = .ok (.bipush 6, 2) := by decide +kernel
theorem dX10_usedAge_8 : decode cX10_usedAge 8 = .ok (.if_icmp .ge 35, 3) := by decide +kernel
theorem dX10_usedAge_11 : decode cX10_usedAge 11 = .ok (.aload_n 0, 1) := by decide +kernel
theorem dX10_usedAge_12 : decode cX10_usedAge 12 = .ok (.aload_n 1, 1) := by decide +kernel
theorem dX10_usedAge_13 : decode cX10_usedAge 13 = .ok (.iload_n 3, 1) := by decide +kernel
theorem dX10_usedAge_14 : decode cX10_usedAge 14 = .ok (.invokevirtual 116, 3) := by decide +kernel
theorem dX10_usedAge_17 : decode cX10_usedAge 17 = .ok (.ifCond .eq 20, 3) := by decide +kernel
theorem dX10_usedAge_20 : decode cX10_usedAge 20 = .ok (.aload_n 0, 1) := by decide +kernel
theorem dX10_usedAge_21 : decode cX10_usedAge 21 = .ok (.aload_n 1, 1) := by decide +kernel
theorem dX10_usedAge_22 : decode cX10_usedAge 22 = .ok (.iload_n 3, 1) := by decide +kernel
theorem dX10_usedAge_23 : decode cX10_usedAge 23 = .ok (.invokevirtual 120, 3) := by decide +kernel
theorem dX10_usedAge_26 : decode cX10_usedAge 26 = .ok (.iload_n 2, 1) := by decide +kernel
theorem dX10_usedAge_27 : decode cX10_usedAge 27 = .ok (.if_icmp .le 10, 3) := by decide +kernel
theorem dX10_usedAge_30 : decode cX10_usedAge 30 = .ok (.aload_n 0, 1) := by decide +kernel
