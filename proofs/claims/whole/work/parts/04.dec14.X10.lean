theorem dX10_usedAge_31 : decode cX10_usedAge 31 = .ok (.aload_n 1, 1) := by decide +kernel
theorem dX10_usedAge_32 : decode cX10_usedAge 32 = .ok (.iload_n 3, 1) := by decide +kernel
theorem dX10_usedAge_33 : decode cX10_usedAge 33 = .ok (.invokevirtual 120, 3) := by decide +kernel
theorem dX10_usedAge_36 : decode cX10_usedAge 36 = .ok (.istore_n 2, 1) := by decide +kernel
theorem dX10_usedAge_37 : decode cX10_usedAge 37 = .ok (.iinc 3 1, 3) := by decide +kernel
theorem dX10_usedAge_40 : decode cX10_usedAge 40 = .ok (.goto (-35), 3) := by decide +kernel
theorem dX10_usedAge_43 : decode cX10_usedAge 43 = .ok (.iconst 0, 1) := by decide +kernel
theorem dX10_usedAge_44 : decode cX10_usedAge 44 = .ok (.istore_n 3, 1) := by decide +kernel
theorem dX10_usedAge_45 : decode cX10_usedAge 45 = .ok (.iload_n 3, 1) := by decide +kernel
theorem dX10_usedAge_46 : decode cX10_usedAge 46 = .ok (.bipush 48, 2) := by decide +kernel
theorem dX10_usedAge_48 : decode cX10_usedAge 48 = .ok (.if_icmp .ge 85, 3) := by decide +kernel
theorem dX10_usedAge_51 : decode cX10_usedAge 51 = .ok (.aload_n 1, 1) := by decide +kernel
theorem dX10_usedAge_52 : decode cX10_usedAge 52 = .ok (.iconst 0, 1) := by decide +kernel
theorem dX10_usedAge_53 : decode cX10_usedAge 53 = .ok (.iload_n 3, 1) := by decide +kernel
theorem dX10_usedAge_54 : decode cX10_usedAge 54 = .ok (.iadd, 1) := by decide +kernel
theorem dX10_usedAge_55 : decode cX10_usedAge 55 = .ok (.iaload, 1) := by decide +kernel
theorem dX10_usedAge_56 : decode cX10_usedAge 56 = .ok (.ifCond .ne 6, 3) := by decide +kernel
theorem dX10_usedAge_59 : decode cX10_usedAge 59 = .ok (.goto 68, 3) := by decide +kernel
theorem dX10_usedAge_62 : decode cX10_usedAge 62 = .ok (.aload_n 1, 1) := by decide +kernel
theorem dX10_usedAge_63 : decode cX10_usedAge 63 = .ok (.bipush 96, 2) := by decide +kernel
theorem dX10_usedAge_65 : decode cX10_usedAge 65 = .ok (.iload_n 3, 1) := by decide +kernel
theorem dX10_usedAge_66 : decode cX10_usedAge 66 = .ok (.iadd, 1) := by decide +kernel
theorem dX10_usedAge_67 : decode cX10_usedAge 67 = .ok (.iaload, 1) := by decide +kernel
theorem dX10_usedAge_68 : decode cX10_usedAge 68 = .ok (.istore 4, 2) := by decide +kernel
theorem dX10_usedAge_70 : decode cX10_usedAge 70 = .ok (.aload_n 1, 1) := by decide +kernel
theorem dX10_usedAge_71 : decode cX10_usedAge 71 = .ok (.sipush 144, 3) := by decide +kernel
theorem dX10_usedAge_74 : decode cX10_usedAge 74 = .ok (.iload_n 3, 1) := by decide +kernel
theorem dX10_usedAge_75 : decode cX10_usedAge 75 = .ok (.iadd, 1) := by decide +kernel
theorem dX10_usedAge_76 : decode cX10_usedAge 76 = .ok (.iaload, 1) := by decide +kernel
theorem dX10_usedAge_77 : decode cX10_usedAge 77 = .ok (.istore 5, 2) := by decide +kernel
theorem dX10_usedAge_79 : decode cX10_usedAge 79 = .ok (.iload 4, 2) := by decide +kernel
theorem dX10_usedAge_81 : decode cX10_usedAge 81 = .ok (.ifCond .lt 22, 3) := by decide +kernel
theorem dX10_usedAge_84 : decode cX10_usedAge 84 = .ok (.aload_n 0, 1) := by decide +kernel
theorem dX10_usedAge_85 : decode cX10_usedAge 85 = .ok (.aload_n 1, 1) := by decide +kernel
theorem dX10_usedAge_86 : decode cX10_usedAge 86 = .ok (.iload 4, 2) := by decide +kernel
theorem dX10_usedAge_88 : decode cX10_usedAge 88 = .ok (.invokevirtual 113, 3) := by decide +kernel
theorem dX10_usedAge_91 : decode cX10_usedAge 91 = .ok (.iload_n 2, 1) := by decide +kernel
theorem dX10_usedAge_92 : decode cX10_usedAge 92 = .ok (.if_icmp .le 11, 3) := by decide +kernel
theorem dX10_usedAge_95 : decode cX10_usedAge 95 = .ok (.aload_n 0, 1) := by decide +kernel
theorem dX10_usedAge_96 : decode cX10_usedAge 96 = .ok (.aload_n 1, 1) := by decide +kernel
theorem dX10_usedAge_97 : decode cX10_usedAge 97 = .ok (.iload 4, 2) := by decide +kernel
theorem dX10_usedAge_99 : decode cX10_usedAge 99 = .ok (.invokevirtual 113, 3) := by decide +kernel
theorem dX10_usedAge_102 : decode cX10_usedAge 102 = .ok (.istore_n 2, 1) := by decide +kernel
theorem dX10_usedAge_103 : decode cX10_usedAge 103 = .ok (.iload 5, 2) := by decide +kernel
theorem dX10_usedAge_105 : decode cX10_usedAge 105 = .ok (.ifCond .lt 22, 3) := by decide +kernel
theorem dX10_usedAge_108 : decode cX10_usedAge 108 = .ok (.aload_n 0, 1) := by decide +kernel
theorem dX10_usedAge_109 : decode cX10_usedAge 109 = .ok (.aload_n 1, 1) := by decide +kernel
theorem dX10_usedAge_110 : decode cX10_usedAge 110 = .ok (.iload 5, 2) := by decide +kernel
theorem dX10_usedAge_112 : decode cX10_usedAge 112 = .ok (.invokevirtual 113, 3) := by decide +kernel
theorem dX10_usedAge_115 : decode cX10_usedAge 115 = .ok (.iload_n 2, 1) := by decide +kernel
theorem dX10_usedAge_116 : decode cX10_usedAge 116 = .ok (.if_icmp .le 11, 3) := by decide +kernel
theorem dX10_usedAge_119 : decode cX10_usedAge 119 = .ok (.aload_n 0, 1) := by decide +kernel
theorem dX10_usedAge_120 : decode cX10_usedAge 120 = .ok (.aload_n 1, 1) := by decide +kernel
theorem dX10_usedAge_121 : decode cX10_usedAge 121 = .ok (.iload 5, 2) := by decide +kernel
theorem dX10_usedAge_123 : decode cX10_usedAge 123 = .ok (.invokevirtual 113, 3) := by decide +kernel
theorem dX10_usedAge_126 : decode cX10_usedAge 126 = .ok (.istore_n 2, 1) := by decide +kernel
theorem dX10_usedAge_127 : decode cX10_usedAge 127 = .ok (.iinc 3 1, 3) := by decide +kernel
theorem dX10_usedAge_130 : decode cX10_usedAge 130 = .ok (.goto (-85), 3) := by decide +kernel
theorem dX10_usedAge_133 : decode cX10_usedAge 133 = .ok (.iload_n 2, 1) := by decide +kernel
theorem dX10_usedAge_134 : decode cX10_usedAge 134 = .ok (.ireturn, 1) := by decide +kernel
theorem dX10_isDead_0 : decode cX10_isDead 0 = .ok (.aload_n 1, 1) := by decide +kernel
theorem dX10_isDead_1 : decode cX10_isDead 1 = .ok (.bipush 96, 2) := by decide +kernel
theorem dX10_isDead_3 : decode cX10_isDead 3 = .ok (.iload_n 2, 1) := by decide +kernel
theorem dX10_isDead_4 : decode cX10_isDead 4 = .ok (.iadd, 1) := by decide +kernel
theorem dX10_isDead_5 : decode cX10_isDead 5 = .ok (.iaload, 1) := by decide +kernel
theorem dX10_isDead_6 : decode cX10_isDead 6 = .ok (.istore_n 3, 1) := by decide +kernel
theorem dX10_isDead_7 : decode cX10_isDead 7 = .ok (.aload_n 1, 1) := by decide +kernel
theorem dX10_isDead_8 : decode cX10_isDead 8 = .ok (.sipush 144, 3) := by decide +kernel
theorem dX10_isDead_11 : decode cX10_isDead 11 = .ok (.iload_n 2, 1) := by decide +kernel
theorem dX10_isDead_12 : decode cX10_isDead 12 = .ok (.iadd, 1) := by decide +kernel
theorem dX10_isDead_13 : decode cX10_isDead 13 = .ok (.iaload, 1) := by decide +kernel
theorem dX10_isDead_14 : decode cX10_isDead 14 = .ok (.istore 4, 2) := by decide +kernel
theorem dX10_isDead_16 : decode cX10_isDead 16 = .ok (.aload_n 1, 1) := by decide +kernel
theorem dX10_isDead_17 : decode cX10_isDead 17 = .ok (.iconst 0, 1) := by decide +kernel
theorem dX10_isDead_18 : decode cX10_isDead 18 = .ok (.iload_n 2, 1) := by decide +kernel
theorem dX10_isDead_19 : decode cX10_isDead 19 = .ok (.iadd, 1) := by decide +kernel
theorem dX10_isDead_20 : decode cX10_isDead 20 = .ok (.iaload, 1) := by decide +kernel
theorem dX10_isDead_21 : decode cX10_isDead 21 = .ok (.ifCond .ne 5, 3) := by decide +kernel
theorem dX10_isDead_24 : decode cX10_isDead 24 = .ok (.iconst 0, 1) := by decide +kernel
theorem dX10_isDead_25 : decode cX10_isDead 25 = .ok (.ireturn, 1) := by decide +kernel
theorem dX10_isDead_26 : decode cX10_isDead 26 = .ok (.iload_n 3, 1) := by decide +kernel
theorem dX10_isDead_27 : decode cX10_isDead 27 = .ok (.ifCond .lt 14, 3) := by decide +kernel
theorem dX10_isDead_30 : decode cX10_isDead 30 = .ok (.aload_n 1, 1) := by decide +kernel
theorem dX10_isDead_31 : decode cX10_isDead 31 = .ok (.sipush 240, 3) := by decide +kernel
theorem dX10_isDead_34 : decode cX10_isDead 34 = .ok (.iload_n 3, 1) := by decide +kernel
theorem dX10_isDead_35 : decode cX10_isDead 35 = .ok (.iadd, 1) := by decide +kernel
theorem dX10_isDead_36 : decode cX10_isDead 36 = .ok (.iaload, 1) := by decide +kernel
theorem dX10_isDead_37 : decode cX10_isDead 37 = .ok (.iconst 3, 1) := by decide +kernel
theorem dX10_isDead_38 : decode cX10_isDead 38 = .ok (.if_icmp .eq 34, 3) := by decide +kernel
theorem dX10_isDead_41 : decode cX10_isDead 41 = .ok (.iload 4, 2) := by decide +kernel
theorem dX10_isDead_43 : decode cX10_isDead 43 = .ok (.ifCond .lt 33, 3) := by decide +kernel
theorem dX10_isDead_46 : decode cX10_isDead 46 = .ok (.aload_n 1, 1) := by decide +kernel
theorem dX10_isDead_47 : decode cX10_isDead 47 = .ok (.sipush 240, 3) := by decide +kernel
theorem dX10_isDead_50 : decode cX10_isDead 50 = .ok (.iload 4, 2) := by decide +kernel
theorem dX10_isDead_52 : decode cX10_isDead 52 = .ok (.iadd, 1) := by decide +kernel
theorem dX10_isDead_53 : decode cX10_isDead 53 = .ok (.iaload, 1) := by decide +kernel
theorem dX10_isDead_54 : decode cX10_isDead 54 = .ok (.iconst 2, 1) := by decide +kernel
theorem dX10_isDead_55 : decode cX10_isDead 55 = .ok (.if_icmp .ne 21, 3) := by decide +kernel
theorem dX10_isDead_58 : decode cX10_isDead 58 = .ok (.aload_n 0, 1) := by decide +kernel
theorem dX10_isDead_59 : decode cX10_isDead 59 = .ok (.iload 4, 2) := by decide +kernel
theorem dX10_isDead_61 : decode cX10_isDead 61 = .ok (.aload_n 0, 1) := by decide +kernel
theorem dX10_isDead_62 : decode cX10_isDead 62 = .ok (.aload_n 1, 1) := by decide +kernel
theorem dX10_isDead_63 : decode cX10_isDead 63 = .ok (.invokevirtual 123, 3) := by decide +kernel
theorem dX10_isDead_66 : decode cX10_isDead 66 = .ok (.invokevirtual 89, 3) := by decide +kernel
theorem dX10_isDead_69 : decode cX10_isDead 69 = .ok (.ifCond .eq 7, 3) := by decide +kernel
theorem dX10_isDead_72 : decode cX10_isDead 72 = .ok (.iconst 1, 1) := by decide +kernel
theorem dX10_isDead_73 : decode cX10_isDead 73 = .ok (.goto 4, 3) := by decide +kernel
theorem dX10_isDead_76 : decode cX10_isDead 76 = .ok (.iconst 0, 1) := by decide +kernel
theorem dX10_isDead_77 : decode cX10_isDead 77 = .ok (.ireturn, 1) := by decide +kernel
theorem dX10_isFrozenThen_0 : decode cX10_isFrozenThen 0 = .ok (.aload_n 1, 1) := by decide +kernel
theorem dX10_isFrozenThen_1 : decode cX10_isFrozenThen 1 = .ok (.bipush 96, 2) := by decide +kernel
theorem dX10_isFrozenThen_3 : decode cX10_isFrozenThen 3 = .ok (.iload_n 2, 1) := by decide +kernel
theorem dX10_isFrozenThen_4 : decode cX10_isFrozenThen 4 = .ok (.iadd, 1) := by decide +kernel
theorem dX10_isFrozenThen_5 : decode cX10_isFrozenThen 5 = .ok (.iaload, 1) := by decide +kernel
theorem dX10_isFrozenThen_6 : decode cX10_isFrozenThen 6 = .ok (.istore_n 3, 1) := by decide +kernel
theorem dX10_isFrozenThen_7 : decode cX10_isFrozenThen 7 = .ok (.aload_n 1, 1) := by decide +kernel
theorem dX10_isFrozenThen_8 : decode cX10_isFrozenThen 8 = .ok (.iconst 0, 1) := by decide +kernel
theorem dX10_isFrozenThen_9 : decode cX10_isFrozenThen 9 = .ok (.iload_n 2, 1) := by decide +kernel
theorem dX10_isFrozenThen_10 : decode cX10_isFrozenThen 10 = .ok (.iadd, 1) := by decide +kernel
theorem dX10_isFrozenThen_11 : decode cX10_isFrozenThen 11 = .ok (.iaload, 1) := by decide +kernel
theorem dX10_isFrozenThen_12 : decode cX10_isFrozenThen 12 = .ok (.ifCond .le 35, 3) := by decide +kernel
theorem dX10_isFrozenThen_15 : decode cX10_isFrozenThen 15 = .ok (.iload_n 3, 1) := by decide +kernel
theorem dX10_isFrozenThen_16 : decode cX10_isFrozenThen 16 = .ok (.ifCond .lt 31, 3) := by decide +kernel
theorem dX10_isFrozenThen_19 : decode cX10_isFrozenThen 19 = .ok (.aload_n 1, 1) := by decide +kernel
theorem dX10_isFrozenThen_20 : decode cX10_isFrozenThen 20 = .ok (.sipush 240, 3) := by decide +kernel
theorem dX10_isFrozenThen_23 : decode cX10_isFrozenThen 23 = .ok (.iload_n 3, 1) := by decide +kernel
theorem dX10_isFrozenThen_24 : decode cX10_isFrozenThen 24 = .ok (.iadd, 1) := by decide +kernel
theorem dX10_isFrozenThen_25 : decode cX10_isFrozenThen 25 = .ok (.iaload, 1) := by decide +kernel
theorem dX10_isFrozenThen_26 : decode cX10_isFrozenThen 26 = .ok (.iconst 2, 1) := by decide +kernel
theorem dX10_isFrozenThen_27 : decode cX10_isFrozenThen 27 = .ok (.if_icmp .ne 20, 3) := by decide +kernel
theorem dX10_isFrozenThen_30 : decode cX10_isFrozenThen 30 = .ok (.aload_n 0, 1) := by decide +kernel
theorem dX10_isFrozenThen_31 : decode cX10_isFrozenThen 31 = .ok (.iload_n 3, 1) := by decide +kernel
theorem dX10_isFrozenThen_32 : decode cX10_isFrozenThen 32 = .ok (.aload_n 0, 1) := by decide +kernel
theorem dX10_isFrozenThen_33 : decode cX10_isFrozenThen 33 = .ok (.aload_n 1, 1) := by decide +kernel
theorem dX10_isFrozenThen_34 : decode cX10_isFrozenThen 34 = .ok (.invokevirtual 123, 3) := by decide +kernel
theorem dX10_isFrozenThen_37 : decode cX10_isFrozenThen 37 = .ok (.invokevirtual 89, 3) := by decide +kernel
theorem dX10_isFrozenThen_40 : decode cX10_isFrozenThen 40 = .ok (.ifCond .eq 7, 3) := by decide +kernel
theorem dX10_isFrozenThen_43 : decode cX10_isFrozenThen 43 = .ok (.iconst 1, 1) := by decide +kernel
theorem dX10_isFrozenThen_44 : decode cX10_isFrozenThen 44 = .ok (.goto 4, 3) := by decide +kernel
theorem dX10_isFrozenThen_47 : decode cX10_isFrozenThen 47 = .ok (.iconst 0, 1) := by decide +kernel
theorem dX10_isFrozenThen_48 : decode cX10_isFrozenThen 48 = .ok (.ireturn, 1) := by decide +kernel
theorem dX10_isLetGo_0 : decode cX10_isLetGo 0 = .ok (.aload_n 1, 1) := by decide +kernel
theorem dX10_isLetGo_1 : decode cX10_isLetGo 1 = .ok (.sipush 144, 3) := by decide +kernel
theorem dX10_isLetGo_4 : decode cX10_isLetGo 4 = .ok (.iload_n 2, 1) := by decide +kernel
theorem dX10_isLetGo_5 : decode cX10_isLetGo 5 = .ok (.iadd, 1) := by decide +kernel
theorem dX10_isLetGo_6 : decode cX10_isLetGo 6 = .ok (.iaload, 1) := by decide +kernel
theorem dX10_isLetGo_7 : decode cX10_isLetGo 7 = .ok (.istore_n 3, 1) := by decide +kernel
theorem dX10_isLetGo_8 : decode cX10_isLetGo 8 = .ok (.aload_n 1, 1) := by decide +kernel
theorem dX10_isLetGo_9 : decode cX10_isLetGo 9 = .ok (.iconst 0, 1) := by decide +kernel
theorem dX10_isLetGo_10 : decode cX10_isLetGo 10 = .ok (.iload_n 2, 1) := by decide +kernel
theorem dX10_isLetGo_11 : decode cX10_isLetGo 11 = .ok (.iadd, 1) := by decide +kernel
theorem dX10_isLetGo_12 : decode cX10_isLetGo 12 = .ok (.iaload, 1) := by decide +kernel
theorem dX10_isLetGo_13 : decode cX10_isLetGo 13 = .ok (.ifCond .le 22, 3) := by decide +kernel
theorem dX10_isLetGo_16 : decode cX10_isLetGo 16 = .ok (.iload_n 3, 1) := by decide +kernel
theorem dX10_isLetGo_17 : decode cX10_isLetGo 17 = .ok (.ifCond .lt 18, 3) := by decide +kernel
theorem dX10_isLetGo_20 : decode cX10_isLetGo 20 = .ok (.aload_n 1, 1) := by decide +kernel
theorem dX10_isLetGo_21 : decode cX10_isLetGo 21 = .ok (.sipush 240, 3) := by decide +kernel
theorem dX10_isLetGo_24 : decode cX10_isLetGo 24 = .ok (.iload_n 3, 1) := by decide +kernel
theorem dX10_isLetGo_25 : decode cX10_isLetGo 25 = .ok (.iadd, 1) := by decide +kernel
theorem dX10_isLetGo_26 : decode cX10_isLetGo 26 = .ok (.iaload, 1) := by decide +kernel
theorem dX10_isLetGo_27 : decode cX10_isLetGo 27 = .ok (.iconst 3, 1) := by decide +kernel
theorem dX10_isLetGo_28 : decode cX10_isLetGo 28 = .ok (.if_icmp .ne 7, 3) := by decide +kernel
theorem dX10_isLetGo_31 : decode cX10_isLetGo 31 = .ok (.iconst 1, 1) := by decide +kernel
theorem dX10_isLetGo_32 : decode cX10_isLetGo 32 = .ok (.goto 4, 3) := by decide +kernel
theorem dX10_isLetGo_35 : decode cX10_isLetGo 35 = .ok (.iconst 0, 1) := by decide +kernel
theorem dX10_isLetGo_36 : decode cX10_isLetGo 36 = .ok (.ireturn, 1) := by decide +kernel
theorem dX10_canBegin_0 : decode cX10_canBegin 0 = .ok (.aload_n 0, 1) := by decide +kernel
theorem dX10_canBegin_1 : decode cX10_canBegin 1 = .ok (.aload_n 1, 1) := by decide +kernel
theorem dX10_canBegin_2 : decode cX10_canBegin 2 = .ok (.iconst (-1), 1) := by decide +kernel
theorem dX10_canBegin_3 : decode cX10_canBegin 3 = .ok (.invokevirtual 106, 3) := by decide +kernel
theorem dX10_canBegin_6 : decode cX10_canBegin 6 = .ok (.ifCond .lt 21, 3) := by decide +kernel
theorem dX10_canBegin_9 : decode cX10_canBegin 9 = .ok (.aload_n 0, 1) := by decide +kernel
theorem dX10_canBegin_10 : decode cX10_canBegin 10 = .ok (.aload_n 1, 1) := by decide +kernel
theorem dX10_canBegin_11 : decode cX10_canBegin 11 = .ok (.invokevirtual 127, 3) := by decide +kernel
theorem dX10_canBegin_14 : decode cX10_canBegin 14 = .ok (.aload_n 0, 1) := by decide +kernel
theorem dX10_canBegin_15 : decode cX10_canBegin 15 = .ok (.getfield 74, 3) := by decide +kernel
theorem dX10_canBegin_18 : decode cX10_canBegin 18 = .ok (.iconst 2, 1) := by decide +kernel
theorem dX10_canBegin_19 : decode cX10_canBegin 19 = .ok (.idiv, 1) := by decide +kernel
theorem dX10_canBegin_20 : decode cX10_canBegin 20 = .ok (.if_icmp .ge 7, 3) := by decide +kernel
theorem dX10_canBegin_23 : decode cX10_canBegin 23 = .ok (.iconst 1, 1) := by decide +kernel
theorem dX10_canBegin_24 : decode cX10_canBegin 24 = .ok (.goto 4, 3) := by decide +kernel
theorem dX10_canBegin_27 : decode cX10_canBegin 27 = .ok (.iconst 0, 1) := by decide +kernel
theorem dX10_canBegin_28 : decode cX10_canBegin 28 = .ok (.ireturn, 1) := by decide +kernel
theorem dX10_beginOn_0 : decode cX10_beginOn 0 = .ok (.aload_n 0, 1) := by decide +kernel
theorem dX10_beginOn_1 : decode cX10_beginOn 1 = .ok (.aload_n 1, 1) := by decide +kernel
theorem dX10_beginOn_2 : decode cX10_beginOn 2 = .ok (.iconst (-1), 1) := by decide +kernel
theorem dX10_beginOn_3 : decode cX10_beginOn 3 = .ok (.invokevirtual 106, 3) := by decide +kernel
theorem dX10_beginOn_6 : decode cX10_beginOn 6 = .ok (.istore_n 2, 1) := by decide +kernel
theorem dX10_beginOn_7 : decode cX10_beginOn 7 = .ok (.aload_n 1, 1) := by decide +kernel
theorem dX10_beginOn_8 : decode cX10_beginOn 8 = .ok (.sipush 323, 3) := by decide +kernel
theorem dX10_beginOn_11 : decode cX10_beginOn 11 = .ok (.iaload, 1) := by decide +kernel
theorem dX10_beginOn_12 : decode cX10_beginOn 12 = .ok (.istore_n 3, 1) := by decide +kernel
theorem dX10_beginOn_13 : decode cX10_beginOn 13 = .ok (.iconst 0, 1) := by decide +kernel
theorem dX10_beginOn_14 : decode cX10_beginOn 14 = .ok (.istore 4, 2) := by decide +kernel
theorem dX10_beginOn_16 : decode cX10_beginOn 16 = .ok (.iload 4, 2) := by decide +kernel
theorem dX10_beginOn_18 : decode cX10_beginOn 18 = .ok (.bipush 6, 2) := by decide +kernel
theorem dX10_beginOn_20 : decode cX10_beginOn 20 = .ok (.if_icmp .ge 56, 3) := by decide +kernel
theorem dX10_beginOn_23 : decode cX10_beginOn 23 = .ok (.aload_n 0, 1) := by decide +kernel
theorem dX10_beginOn_24 : decode cX10_beginOn 24 = .ok (.aload_n 1, 1) := by decide +kernel
theorem dX10_beginOn_25 : decode cX10_beginOn 25 = .ok (.iload 4, 2) := by decide +kernel
theorem dX10_beginOn_27 : decode cX10_beginOn 27 = .ok (.invokevirtual 116, 3) := by decide +kernel
theorem dX10_beginOn_30 : decode cX10_beginOn 30 = .ok (.ifCond .eq 40, 3) := by decide +kernel
theorem dX10_beginOn_33 : decode cX10_beginOn 33 = .ok (.aload_n 1, 1) := by decide +kernel
theorem dX10_beginOn_34 : decode cX10_beginOn 34 = .ok (.sipush 311, 3) := by decide +kernel
theorem dX10_beginOn_37 : decode cX10_beginOn 37 = .ok (.iconst 2, 1) := by decide +kernel
theorem dX10_beginOn_38 : decode cX10_beginOn 38 = .ok (.iload_n 2, 1) := by decide +kernel
theorem dX10_beginOn_39 : decode cX10_beginOn 39 = .ok (.imul, 1) := by decide +kernel
theorem dX10_beginOn_40 : decode cX10_beginOn 40 = .ok (.iadd, 1) := by decide +kernel
theorem dX10_beginOn_41 : decode cX10_beginOn 41 = .ok (.aload_n 1, 1) := by decide +kernel
theorem dX10_beginOn_42 : decode cX10_beginOn 42 = .ok (.sipush 304, 3) := by decide +kernel
theorem dX10_beginOn_45 : decode cX10_beginOn 45 = .ok (.iload 4, 2) := by decide +kernel
theorem dX10_beginOn_47 : decode cX10_beginOn 47 = .ok (.iadd, 1) := by decide +kernel
theorem dX10_beginOn_48 : decode cX10_beginOn 48 = .ok (.iaload, 1) := by decide +kernel
theorem dX10_beginOn_49 : decode cX10_beginOn 49 = .ok (.bipush 32, 2) := by decide +kernel
theorem dX10_beginOn_51 : decode cX10_beginOn 51 = .ok (.idiv, 1) := by decide +kernel
theorem dX10_beginOn_52 : decode cX10_beginOn 52 = .ok (.iadd, 1) := by decide +kernel
theorem dX10_beginOn_53 : decode cX10_beginOn 53 = .ok (.dup2, 1) := by decide +kernel
theorem dX10_beginOn_54 : decode cX10_beginOn 54 = .ok (.iaload, 1) := by decide +kernel
theorem dX10_beginOn_55 : decode cX10_beginOn 55 = .ok (.iconst 1, 1) := by decide +kernel
theorem dX10_beginOn_56 : decode cX10_beginOn 56 = .ok (.aload_n 1, 1) := by decide +kernel
theorem dX10_beginOn_57 : decode cX10_beginOn 57 = .ok (.sipush 304, 3) := by decide +kernel
theorem dX10_beginOn_60 : decode cX10_beginOn 60 = .ok (.iload 4, 2) := by decide +kernel
theorem dX10_beginOn_62 : decode cX10_beginOn 62 = .ok (.iadd, 1) := by decide +kernel
theorem dX10_beginOn_63 : decode cX10_beginOn 63 = .ok (.iaload, 1) := by decide +kernel
theorem dX10_beginOn_64 : decode cX10_beginOn 64 = .ok (.bipush 32, 2) := by decide +kernel
theorem dX10_beginOn_66 : decode cX10_beginOn 66 = .ok (.irem, 1) := by decide +kernel
theorem dX10_beginOn_67 : decode cX10_beginOn 67 = .ok (.ishl, 1) := by decide +kernel
theorem dX10_beginOn_68 : decode cX10_beginOn 68 = .ok (.ior, 1) := by decide +kernel
theorem dX10_beginOn_69 : decode cX10_beginOn 69 = .ok (.iastore, 1) := by decide +kernel
theorem dX10_beginOn_70 : decode cX10_beginOn 70 = .ok (.iinc 4 1, 3) := by decide +kernel
theorem dX10_beginOn_73 : decode cX10_beginOn 73 = .ok (.goto (-57), 3) := by decide +kernel
theorem dX10_beginOn_76 : decode cX10_beginOn 76 = .ok (.aload_n 1, 1) := by decide +kernel
theorem dX10_beginOn_77 : decode cX10_beginOn 77 = .ok (.sipush 304, 3) := by decide +kernel
theorem dX10_beginOn_80 : decode cX10_beginOn 80 = .ok (.iload_n 2, 1) := by decide +kernel
theorem dX10_beginOn_81 : decode cX10_beginOn 81 = .ok (.iadd, 1) := by decide +kernel
theorem dX10_beginOn_82 : decode cX10_beginOn 82 = .ok (.iload_n 3, 1) := by decide +kernel
theorem dX10_beginOn_83 : decode cX10_beginOn 83 = .ok (.iastore, 1) := by decide +kernel
theorem dX10_beginOn_84 : decode cX10_beginOn 84 = .ok (.aload_n 1, 1) := by decide +kernel
theorem dX10_beginOn_85 : decode cX10_beginOn 85 = .ok (.sipush 240, 3) := by decide +kernel
theorem dX10_beginOn_88 : decode cX10_beginOn 88 = .ok (.iload_n 3, 1) := by decide +kernel
theorem dX10_beginOn_89 : decode cX10_beginOn 89 = .ok (.iadd, 1) := by decide +kernel
theorem dX10_beginOn_90 : decode cX10_beginOn 90 = .ok (.iconst 1, 1) := by decide +kernel
theorem dX10_beginOn_91 : decode cX10_beginOn 91 = .ok (.iastore, 1) := by decide +kernel
theorem dX10_beginOn_92 : decode cX10_beginOn 92 = .ok (.aload_n 1, 1) := by decide +kernel
theorem dX10_beginOn_93 : decode cX10_beginOn 93 = .ok (.sipush 323, 3) := by decide +kernel
theorem dX10_beginOn_96 : decode cX10_beginOn 96 = .ok (.iload_n 3, 1) := by decide +kernel
theorem dX10_beginOn_97 : decode cX10_beginOn 97 = .ok (.iconst 1, 1) := by decide +kernel
theorem dX10_beginOn_98 : decode cX10_beginOn 98 = .ok (.iadd, 1) := by decide +kernel
theorem dX10_beginOn_99 : decode cX10_beginOn 99 = .ok (.aload_n 0, 1) := by decide +kernel
theorem dX10_beginOn_100 : decode cX10_beginOn 100 = .ok (.getfield 74, 3) := by decide +kernel
theorem dX10_beginOn_103 : decode cX10_beginOn 103 = .ok (.irem, 1) := by decide +kernel
theorem dX10_beginOn_104 : decode cX10_beginOn 104 = .ok (.iastore, 1) := by decide +kernel
theorem dX10_beginOn_105 : decode cX10_beginOn 105 = .ok (.iload_n 2, 1) := by decide +kernel
theorem dX10_beginOn_106 : decode cX10_beginOn 106 = .ok (.ireturn, 1) := by decide +kernel
theorem dX10_endOn_0 : decode cX10_endOn 0 = .ok (.aload_n 1, 1) := by decide +kernel
theorem dX10_endOn_1 : decode cX10_endOn 1 = .ok (.sipush 304, 3) := by decide +kernel
theorem dX10_endOn_4 : decode cX10_endOn 4 = .ok (.iload_n 2, 1) := by decide +kernel
theorem dX10_endOn_5 : decode cX10_endOn 5 = .ok (.iadd, 1) := by decide +kernel
theorem dX10_endOn_6 : decode cX10_endOn 6 = .ok (.iaload, 1) := by decide +kernel
theorem dX10_endOn_7 : decode cX10_endOn 7 = .ok (.istore 4, 2) := by decide +kernel
theorem dX10_endOn_9 : decode cX10_endOn 9 = .ok (.aload_n 1, 1) := by decide +kernel
theorem dX10_endOn_10 : decode cX10_endOn 10 = .ok (.sipush 240, 3) := by decide +kernel
theorem dX10_endOn_13 : decode cX10_endOn 13 = .ok (.iload 4, 2) := by decide +kernel
theorem dX10_endOn_15 : decode cX10_endOn 15 = .ok (.iadd, 1) := by decide +kernel
theorem dX10_endOn_16 : decode cX10_endOn 16 = .ok (.iload_n 3, 1) := by decide +kernel
theorem dX10_endOn_17 : decode cX10_endOn 17 = .ok (.iastore, 1) := by decide +kernel
theorem dX10_endOn_18 : decode cX10_endOn 18 = .ok (.aload_n 1, 1) := by decide +kernel
theorem dX10_endOn_19 : decode cX10_endOn 19 = .ok (.sipush 304, 3) := by decide +kernel
theorem dX10_endOn_22 : decode cX10_endOn 22 = .ok (.iload_n 2, 1) := by decide +kernel
theorem dX10_endOn_23 : decode cX10_endOn 23 = .ok (.iadd, 1) := by decide +kernel
theorem dX10_endOn_24 : decode cX10_endOn 24 = .ok (.iconst (-1), 1) := by decide +kernel
theorem dX10_endOn_25 : decode cX10_endOn 25 = .ok (.iastore, 1) := by decide +kernel
theorem dX10_endOn_26 : decode cX10_endOn 26 = .ok (.aload_n 1, 1) := by decide +kernel
theorem dX10_endOn_27 : decode cX10_endOn 27 = .ok (.sipush 311, 3) := by decide +kernel
theorem dX10_endOn_30 : decode cX10_endOn 30 = .ok (.iconst 2, 1) := by decide +kernel
theorem dX10_endOn_31 : decode cX10_endOn 31 = .ok (.iload_n 2, 1) := by decide +kernel
theorem dX10_endOn_32 : decode cX10_endOn 32 = .ok (.imul, 1) := by decide +kernel
theorem dX10_endOn_33 : decode cX10_endOn 33 = .ok (.iadd, 1) := by decide +kernel
theorem dX10_endOn_34 : decode cX10_endOn 34 = .ok (.iconst 0, 1) := by decide +kernel
theorem dX10_endOn_35 : decode cX10_endOn 35 = .ok (.iastore, 1) := by decide +kernel
theorem dX10_endOn_36 : decode cX10_endOn 36 = .ok (.aload_n 1, 1) := by decide +kernel
theorem dX10_endOn_37 : decode cX10_endOn 37 = .ok (.sipush 311, 3) := by decide +kernel
theorem dX10_endOn_40 : decode cX10_endOn 40 = .ok (.iconst 2, 1) := by decide +kernel
theorem dX10_endOn_41 : decode cX10_endOn 41 = .ok (.iload_n 2, 1) := by decide +kernel
theorem dX10_endOn_42 : decode cX10_endOn 42 = .ok (.imul, 1) := by decide +kernel
theorem dX10_endOn_43 : decode cX10_endOn 43 = .ok (.iadd, 1) := by decide +kernel
theorem dX10_endOn_44 : decode cX10_endOn 44 = .ok (.iconst 1, 1) := by decide +kernel
theorem dX10_endOn_45 : decode cX10_endOn 45 = .ok (.iadd, 1) := by decide +kernel
theorem dX10_endOn_46 : decode cX10_endOn 46 = .ok (.iconst 0, 1) := by decide +kernel
theorem dX10_endOn_47 : decode cX10_endOn 47 = .ok (.iastore, 1) := by decide +kernel
theorem dX10_endOn_48 : decode cX10_endOn 48 = .ok (.aload_n 1, 1) := by decide +kernel
theorem dX10_endOn_49 : decode cX10_endOn 49 = .ok (.sipush 310, 3) := by decide +kernel
theorem dX10_endOn_52 : decode cX10_endOn 52 = .ok (.dup2, 1) := by decide +kernel
theorem dX10_endOn_53 : decode cX10_endOn 53 = .ok (.iaload, 1) := by decide +kernel
theorem dX10_endOn_54 : decode cX10_endOn 54 = .ok (.iconst 1, 1) := by decide +kernel
theorem dX10_endOn_55 : decode cX10_endOn 55 = .ok (.iload_n 2, 1) := by decide +kernel
theorem dX10_endOn_56 : decode cX10_endOn 56 = .ok (.ishl, 1) := by decide +kernel
theorem dX10_endOn_57 : decode cX10_endOn 57 = .ok (.iconst (-1), 1) := by decide +kernel
theorem dX10_endOn_58 : decode cX10_endOn 58 = .ok (.ixor, 1) := by decide +kernel
theorem dX10_endOn_59 : decode cX10_endOn 59 = .ok (.iand, 1) := by decide +kernel
theorem dX10_endOn_60 : decode cX10_endOn 60 = .ok (.iastore, 1) := by decide +kernel
theorem dX10_endOn_61 : decode cX10_endOn 61 = .ok (.iload 4, 2) := by decide +kernel
theorem dX10_endOn_63 : decode cX10_endOn 63 = .ok (.ireturn, 1) := by decide +kernel
theorem dX10_freeVersion_0 : decode cX10_freeVersion 0 = .ok (.iconst 0, 1) := by decide +kernel
theorem dX10_freeVersion_1 : decode cX10_freeVersion 1 = .ok (.istore_n 2, 1) := by decide +kernel
theorem dX10_freeVersion_2 : decode cX10_freeVersion 2 = .ok (.iload_n 2, 1) := by decide +kernel
theorem dX10_freeVersion_3 : decode cX10_freeVersion 3 = .ok (.bipush 48, 2) := by decide +kernel
theorem dX10_freeVersion_5 : decode cX10_freeVersion 5 = .ok (.if_icmp .ge 19, 3) := by decide +kernel
theorem dX10_freeVersion_8 : decode cX10_freeVersion 8 = .ok (.aload_n 1, 1) := by decide +kernel
theorem dX10_freeVersion_9 : decode cX10_freeVersion 9 = .ok (.iconst 0, 1) := by decide +kernel
theorem dX10_freeVersion_10 : decode cX10_freeVersion 10 = .ok (.iload_n 2, 1) := by decide +kernel
theorem dX10_freeVersion_11 : decode cX10_freeVersion 11 = .ok (.iadd, 1) := by decide +kernel
theorem dX10_freeVersion_12 : decode cX10_freeVersion 12 = .ok (.iaload, 1) := by decide +kernel
theorem dX10_freeVersion_13 : decode cX10_freeVersion 13 = .ok (.ifCond .ne 5, 3) := by decide +kernel
theorem dX10_freeVersion_16 : decode cX10_freeVersion 16 = .ok (.iload_n 2, 1) := by decide +kernel
theorem dX10_freeVersion_17 : decode cX10_freeVersion 17 = .ok (.ireturn, 1) := by decide +kernel
theorem dX10_freeVersion_18 : decode cX10_freeVersion 18 = .ok (.iinc 2 1, 3) := by decide +kernel
theorem dX10_freeVersion_21 : decode cX10_freeVersion 21 = .ok (.goto (-19), 3) := by decide +kernel
theorem dX10_freeVersion_24 : decode cX10_freeVersion 24 = .ok (.bipush (-2), 2) := by decide +kernel
theorem dX10_freeVersion_26 : decode cX10_freeVersion 26 = .ok (.ireturn, 1) := by decide +kernel
theorem dX10_isBarred_0 : decode cX10_isBarred 0 = .ok (.aload_n 0, 1) := by decide +kernel
theorem dX10_isBarred_1 : decode cX10_isBarred 1 = .ok (.aload_n 1, 1) := by decide +kernel
theorem dX10_isBarred_2 : decode cX10_isBarred 2 = .ok (.sipush 310, 3) := by decide +kernel
theorem dX10_isBarred_5 : decode cX10_isBarred 5 = .ok (.iaload, 1) := by decide +kernel
theorem dX10_isBarred_6 : decode cX10_isBarred 6 = .ok (.iload_n 2, 1) := by decide +kernel
theorem dX10_isBarred_7 : decode cX10_isBarred 7 = .ok (.invokestatic 85, 3) := by decide +kernel
theorem dX10_isBarred_10 : decode cX10_isBarred 10 = .ok (.ifCond .ne 13, 3) := by decide +kernel
theorem dX10_isBarred_13 : decode cX10_isBarred 13 = .ok (.aload_n 0, 1) := by decide +kernel
theorem dX10_isBarred_14 : decode cX10_isBarred 14 = .ok (.aload_n 1, 1) := by decide +kernel
theorem dX10_isBarred_15 : decode cX10_isBarred 15 = .ok (.iload_n 2, 1) := by decide +kernel
theorem dX10_isBarred_16 : decode cX10_isBarred 16 = .ok (.iload_n 3, 1) := by decide +kernel
theorem dX10_isBarred_17 : decode cX10_isBarred 17 = .ok (.invokevirtual 130, 3) := by decide +kernel
theorem dX10_isBarred_20 : decode cX10_isBarred 20 = .ok (.ifCond .lt 7, 3) := by decide +kernel
theorem dX10_isBarred_23 : decode cX10_isBarred 23 = .ok (.iconst 5, 1) := by decide +kernel
theorem dX10_isBarred_24 : decode cX10_isBarred 24 = .ok (.goto 4, 3) := by decide +kernel
theorem dX10_isBarred_27 : decode cX10_isBarred 27 = .ok (.iconst 0, 1) := by decide +kernel
theorem dX10_isBarred_28 : decode cX10_isBarred 28 = .ok (.putfield 133, 3) := by decide +kernel
theorem dX10_isBarred_31 : decode cX10_isBarred 31 = .ok (.aload_n 0, 1) := by decide +kernel
theorem dX10_isBarred_32 : decode cX10_isBarred 32 = .ok (.getfield 133, 3) := by decide +kernel
theorem dX10_isBarred_35 : decode cX10_isBarred 35 = .ok (.ifCond .eq 5, 3) := by decide +kernel
theorem dX10_isBarred_38 : decode cX10_isBarred 38 = .ok (.iconst 1, 1) := by decide +kernel
theorem dX10_isBarred_39 : decode cX10_isBarred 39 = .ok (.ireturn, 1) := by decide +kernel
theorem dX10_isBarred_40 : decode cX10_isBarred 40 = .ok (.aload_n 0, 1) := by decide +kernel
theorem dX10_isBarred_41 : decode cX10_isBarred 41 = .ok (.aload_n 1, 1) := by decide +kernel
theorem dX10_isBarred_42 : decode cX10_isBarred 42 = .ok (.iload_n 2, 1) := by decide +kernel
theorem dX10_isBarred_43 : decode cX10_isBarred 43 = .ok (.iload_n 3, 1) := by decide +kernel
theorem dX10_isBarred_44 : decode cX10_isBarred 44 = .ok (.invokevirtual 136, 3) := by decide +kernel
theorem dX10_isBarred_47 : decode cX10_isBarred 47 = .ok (.ifCond .ne 5, 3) := by decide +kernel
theorem dX10_isBarred_50 : decode cX10_isBarred 50 = .ok (.iconst 0, 1) := by decide +kernel
theorem dX10_isBarred_51 : decode cX10_isBarred 51 = .ok (.ireturn, 1) := by decide +kernel
theorem dX10_isBarred_52 : decode cX10_isBarred 52 = .ok (.aload_n 1, 1) := by decide +kernel
theorem dX10_isBarred_53 : decode cX10_isBarred 53 = .ok (.sipush 310, 3) := by decide +kernel
theorem dX10_isBarred_56 : decode cX10_isBarred 56 = .ok (.dup2, 1) := by decide +kernel
theorem dX10_isBarred_57 : decode cX10_isBarred 57 = .ok (.iaload, 1) := by decide +kernel
theorem dX10_isBarred_58 : decode cX10_isBarred 58 = .ok (.iconst 1, 1) := by decide +kernel
theorem dX10_isBarred_59 : decode cX10_isBarred 59 = .ok (.iload_n 2, 1) := by decide +kernel
theorem dX10_isBarred_60 : decode cX10_isBarred 60 = .ok (.ishl, 1) := by decide +kernel
theorem dX10_isBarred_61 : decode cX10_isBarred 61 = .ok (.ior, 1) := by decide +kernel
theorem dX10_isBarred_62 : decode cX10_isBarred 62 = .ok (.iastore, 1) := by decide +kernel
theorem dX10_isBarred_63 : decode cX10_isBarred 63 = .ok (.iconst 1, 1) := by decide +kernel
theorem dX10_isBarred_64 : decode cX10_isBarred 64 = .ok (.ireturn, 1) := by decide +kernel
theorem dX10_putOn_0 : decode cX10_putOn 0 = .ok (.aload_n 0, 1) := by decide +kernel
theorem dX10_putOn_1 : decode cX10_putOn 1 = .ok (.aload_n 1, 1) := by decide +kernel
theorem dX10_putOn_2 : decode cX10_putOn 2 = .ok (.iload_n 2, 1) := by decide +kernel
theorem dX10_putOn_3 : decode cX10_putOn 3 = .ok (.iload_n 3, 1) := by decide +kernel
theorem dX10_putOn_4 : decode cX10_putOn 4 = .ok (.invokevirtual 139, 3) := by decide +kernel
theorem dX10_putOn_7 : decode cX10_putOn 7 = .ok (.ifCond .eq 6, 3) := by decide +kernel
theorem dX10_putOn_10 : decode cX10_putOn 10 = .ok (.bipush (-2), 2) := by decide +kernel
theorem dX10_putOn_12 : decode cX10_putOn 12 = .ok (.ireturn, 1) := by decide +kernel
theorem dX10_putOn_13 : decode cX10_putOn 13 = .ok (.aload_n 0, 1) := by decide +kernel
theorem dX10_putOn_14 : decode cX10_putOn 14 = .ok (.aload_n 1, 1) := by decide +kernel
theorem dX10_putOn_15 : decode cX10_putOn 15 = .ok (.iload_n 2, 1) := by decide +kernel
theorem dX10_putOn_16 : decode cX10_putOn 16 = .ok (.iload_n 3, 1) := by decide +kernel
theorem dX10_putOn_17 : decode cX10_putOn 17 = .ok (.invokevirtual 102, 3) := by decide +kernel
theorem dX10_putOn_20 : decode cX10_putOn 20 = .ok (.istore 5, 2) := by decide +kernel
theorem dX10_putOn_22 : decode cX10_putOn 22 = .ok (.aload_n 1, 1) := by decide +kernel
theorem dX10_putOn_23 : decode cX10_putOn 23 = .ok (.sipush 304, 3) := by decide +kernel
theorem dX10_putOn_26 : decode cX10_putOn 26 = .ok (.iload_n 2, 1) := by decide +kernel
theorem dX10_putOn_27 : decode cX10_putOn 27 = .ok (.iadd, 1) := by decide +kernel
theorem dX10_putOn_28 : decode cX10_putOn 28 = .ok (.iaload, 1) := by decide +kernel
theorem dX10_putOn_29 : decode cX10_putOn 29 = .ok (.istore 6, 2) := by decide +kernel
theorem dX10_putOn_31 : decode cX10_putOn 31 = .ok (.iload 5, 2) := by decide +kernel
theorem dX10_putOn_33 : decode cX10_putOn 33 = .ok (.ifCond .lt 27, 3) := by decide +kernel
theorem dX10_putOn_36 : decode cX10_putOn 36 = .ok (.aload_n 1, 1) := by decide +kernel
theorem dX10_putOn_37 : decode cX10_putOn 37 = .ok (.bipush 96, 2) := by decide +kernel
theorem dX10_putOn_39 : decode cX10_putOn 39 = .ok (.iload 5, 2) := by decide +kernel
theorem dX10_putOn_41 : decode cX10_putOn 41 = .ok (.iadd, 1) := by decide +kernel
theorem dX10_putOn_42 : decode cX10_putOn 42 = .ok (.iaload, 1) := by decide +kernel
theorem dX10_putOn_43 : decode cX10_putOn 43 = .ok (.iload 6, 2) := by decide +kernel
theorem dX10_putOn_45 : decode cX10_putOn 45 = .ok (.if_icmp .ne 15, 3) := by decide +kernel
theorem dX10_putOn_48 : decode cX10_putOn 48 = .ok (.aload_n 1, 1) := by decide +kernel
theorem dX10_putOn_49 : decode cX10_putOn 49 = .ok (.bipush 48, 2) := by decide +kernel
theorem dX10_putOn_51 : decode cX10_putOn 51 = .ok (.iload 5, 2) := by decide +kernel
theorem dX10_putOn_53 : decode cX10_putOn 53 = .ok (.iadd, 1) := by decide +kernel
theorem dX10_putOn_54 : decode cX10_putOn 54 = .ok (.iload 4, 2) := by decide +kernel
theorem dX10_putOn_56 : decode cX10_putOn 56 = .ok (.iastore, 1) := by decide +kernel
theorem dX10_putOn_57 : decode cX10_putOn 57 = .ok (.iload 5, 2) := by decide +kernel
theorem dX10_putOn_59 : decode cX10_putOn 59 = .ok (.ireturn, 1) := by decide +kernel
theorem dX10_putOn_60 : decode cX10_putOn 60 = .ok (.aload_n 0, 1) := by decide +kernel
theorem dX10_putOn_61 : decode cX10_putOn 61 = .ok (.aload_n 1, 1) := by decide +kernel
theorem dX10_putOn_62 : decode cX10_putOn 62 = .ok (.invokevirtual 142, 3) := by decide +kernel
theorem dX10_putOn_65 : decode cX10_putOn 65 = .ok (.istore 7, 2) := by decide +kernel
theorem dX10_putOn_67 : decode cX10_putOn 67 = .ok (.iload 7, 2) := by decide +kernel
theorem dX10_putOn_69 : decode cX10_putOn 69 = .ok (.ifCond .ge 11, 3) := by decide +kernel
theorem dX10_putOn_72 : decode cX10_putOn 72 = .ok (.aload_n 0, 1) := by decide +kernel
theorem dX10_putOn_73 : decode cX10_putOn 73 = .ok (.iconst 3, 1) := by decide +kernel
theorem dX10_putOn_74 : decode cX10_putOn 74 = .ok (.putfield 133, 3) := by decide +kernel
theorem dX10_putOn_77 : decode cX10_putOn 77 = .ok (.bipush (-2), 2) := by decide +kernel
theorem dX10_putOn_79 : decode cX10_putOn 79 = .ok (.ireturn, 1) := by decide +kernel
theorem dX10_putOn_80 : decode cX10_putOn 80 = .ok (.iload 5, 2) := by decide +kernel
theorem dX10_putOn_82 : decode cX10_putOn 82 = .ok (.ifCond .lt 13, 3) := by decide +kernel
theorem dX10_putOn_85 : decode cX10_putOn 85 = .ok (.aload_n 1, 1) := by decide +kernel
theorem dX10_putOn_86 : decode cX10_putOn 86 = .ok (.sipush 144, 3) := by decide +kernel
theorem dX10_putOn_89 : decode cX10_putOn 89 = .ok (.iload 5, 2) := by decide +kernel
theorem dX10_putOn_91 : decode cX10_putOn 91 = .ok (.iadd, 1) := by decide +kernel
theorem dX10_putOn_92 : decode cX10_putOn 92 = .ok (.iload 6, 2) := by decide +kernel
theorem dX10_putOn_94 : decode cX10_putOn 94 = .ok (.iastore, 1) := by decide +kernel
theorem dX10_putOn_95 : decode cX10_putOn 95 = .ok (.aload_n 1, 1) := by decide +kernel
theorem dX10_putOn_96 : decode cX10_putOn 96 = .ok (.iconst 0, 1) := by decide +kernel
theorem dX10_putOn_97 : decode cX10_putOn 97 = .ok (.iload 7, 2) := by decide +kernel
theorem dX10_putOn_99 : decode cX10_putOn 99 = .ok (.iadd, 1) := by decide +kernel
theorem dX10_putOn_100 : decode cX10_putOn 100 = .ok (.iload_n 3, 1) := by decide +kernel
theorem dX10_putOn_101 : decode cX10_putOn 101 = .ok (.iconst 1, 1) := by decide +kernel
theorem dX10_putOn_102 : decode cX10_putOn 102 = .ok (.iadd, 1) := by decide +kernel
theorem dX10_putOn_103 : decode cX10_putOn 103 = .ok (.iastore, 1) := by decide +kernel
theorem dX10_putOn_104 : decode cX10_putOn 104 = .ok (.aload_n 1, 1) := by decide +kernel
theorem dX10_putOn_105 : decode cX10_putOn 105 = .ok (.bipush 48, 2) := by decide +kernel
theorem dX10_putOn_107 : decode cX10_putOn 107 = .ok (.iload 7, 2) := by decide +kernel
theorem dX10_putOn_109 : decode cX10_putOn 109 = .ok (.iadd, 1) := by decide +kernel
theorem dX10_putOn_110 : decode cX10_putOn 110 = .ok (.iload 4, 2) := by decide +kernel
theorem dX10_putOn_112 : decode cX10_putOn 112 = .ok (.iastore, 1) := by decide +kernel
theorem dX10_putOn_113 : decode cX10_putOn 113 = .ok (.aload_n 1, 1) := by decide +kernel
theorem dX10_putOn_114 : decode cX10_putOn 114 = .ok (.bipush 96, 2) := by decide +kernel
theorem dX10_putOn_116 : decode cX10_putOn 116 = .ok (.iload 7, 2) := by decide +kernel
theorem dX10_putOn_118 : decode cX10_putOn 118 = .ok (.iadd, 1) := by decide +kernel
theorem dX10_putOn_119 : decode cX10_putOn 119 = .ok (.iload 6, 2) := by decide +kernel
theorem dX10_putOn_121 : decode cX10_putOn 121 = .ok (.iastore, 1) := by decide +kernel
theorem dX10_putOn_122 : decode cX10_putOn 122 = .ok (.aload_n 1, 1) := by decide +kernel
theorem dX10_putOn_123 : decode cX10_putOn 123 = .ok (.sipush 144, 3) := by decide +kernel
theorem dX10_putOn_126 : decode cX10_putOn 126 = .ok (.iload 7, 2) := by decide +kernel
theorem dX10_putOn_128 : decode cX10_putOn 128 = .ok (.iadd, 1) := by decide +kernel
theorem dX10_putOn_129 : decode cX10_putOn 129 = .ok (.bipush (-2), 2) := by decide +kernel
theorem dX10_putOn_131 : decode cX10_putOn 131 = .ok (.iastore, 1) := by decide +kernel
theorem dX10_putOn_132 : decode cX10_putOn 132 = .ok (.aload_n 1, 1) := by decide +kernel
theorem dX10_putOn_133 : decode cX10_putOn 133 = .ok (.sipush 192, 3) := by decide +kernel
theorem dX10_putOn_136 : decode cX10_putOn 136 = .ok (.iload 7, 2) := by decide +kernel
theorem dX10_putOn_138 : decode cX10_putOn 138 = .ok (.iadd, 1) := by decide +kernel
theorem dX10_putOn_139 : decode cX10_putOn 139 = .ok (.aload_n 1, 1) := by decide +kernel
theorem dX10_putOn_140 : decode cX10_putOn 140 = .ok (.sipush 324, 3) := by decide +kernel
theorem dX10_putOn_143 : decode cX10_putOn 143 = .ok (.iaload, 1) := by decide +kernel
theorem dX10_putOn_144 : decode cX10_putOn 144 = .ok (.iastore, 1) := by decide +kernel
theorem dX10_putOn_145 : decode cX10_putOn 145 = .ok (.aload_n 1, 1) := by decide +kernel
theorem dX10_putOn_146 : decode cX10_putOn 146 = .ok (.sipush 324, 3) := by decide +kernel
theorem dX10_putOn_149 : decode cX10_putOn 149 = .ok (.dup2, 1) := by decide +kernel
theorem dX10_putOn_150 : decode cX10_putOn 150 = .ok (.iaload, 1) := by decide +kernel
theorem dX10_putOn_151 : decode cX10_putOn 151 = .ok (.iconst 1, 1) := by decide +kernel
theorem dX10_putOn_152 : decode cX10_putOn 152 = .ok (.iadd, 1) := by decide +kernel
theorem dX10_putOn_153 : decode cX10_putOn 153 = .ok (.iastore, 1) := by decide +kernel
theorem dX10_putOn_154 : decode cX10_putOn 154 = .ok (.iload 7, 2) := by decide +kernel
theorem dX10_putOn_156 : decode cX10_putOn 156 = .ok (.ireturn, 1) := by decide +kernel
theorem dX10_dropOn_0 : decode cX10_dropOn 0 = .ok (.aload_n 0, 1) := by decide +kernel
theorem dX10_dropOn_1 : decode cX10_dropOn 1 = .ok (.aload_n 1, 1) := by decide +kernel
theorem dX10_dropOn_2 : decode cX10_dropOn 2 = .ok (.iload_n 2, 1) := by decide +kernel
theorem dX10_dropOn_3 : decode cX10_dropOn 3 = .ok (.iload_n 3, 1) := by decide +kernel
theorem dX10_dropOn_4 : decode cX10_dropOn 4 = .ok (.invokevirtual 139, 3) := by decide +kernel
theorem dX10_dropOn_7 : decode cX10_dropOn 7 = .ok (.ifCond .eq 6, 3) := by decide +kernel
theorem dX10_dropOn_10 : decode cX10_dropOn 10 = .ok (.bipush (-2), 2) := by decide +kernel
theorem dX10_dropOn_12 : decode cX10_dropOn 12 = .ok (.ireturn, 1) := by decide +kernel
theorem dX10_dropOn_13 : decode cX10_dropOn 13 = .ok (.aload_n 0, 1) := by decide +kernel
theorem dX10_dropOn_14 : decode cX10_dropOn 14 = .ok (.aload_n 1, 1) := by decide +kernel
theorem dX10_dropOn_15 : decode cX10_dropOn 15 = .ok (.iload_n 2, 1) := by decide +kernel
theorem dX10_dropOn_16 : decode cX10_dropOn 16 = .ok (.iload_n 3, 1) := by decide +kernel
theorem dX10_dropOn_17 : decode cX10_dropOn 17 = .ok (.invokevirtual 102, 3) := by decide +kernel
theorem dX10_dropOn_20 : decode cX10_dropOn 20 = .ok (.istore 4, 2) := by decide +kernel
theorem dX10_dropOn_22 : decode cX10_dropOn 22 = .ok (.iload 4, 2) := by decide +kernel
theorem dX10_dropOn_24 : decode cX10_dropOn 24 = .ok (.ifCond .ge 12, 3) := by decide +kernel
theorem dX10_dropOn_27 : decode cX10_dropOn 27 = .ok (.aload_n 0, 1) := by decide +kernel
theorem dX10_dropOn_28 : decode cX10_dropOn 28 = .ok (.bipush 6, 2) := by decide +kernel
theorem dX10_dropOn_30 : decode cX10_dropOn 30 = .ok (.putfield 133, 3) := by decide +kernel
theorem dX10_dropOn_33 : decode cX10_dropOn 33 = .ok (.bipush (-2), 2) := by decide +kernel
theorem dX10_dropOn_35 : decode cX10_dropOn 35 = .ok (.ireturn, 1) := by decide +kernel
theorem dX10_dropOn_36 : decode cX10_dropOn 36 = .ok (.aload_n 1, 1) := by decide +kernel
theorem dX10_dropOn_37 : decode cX10_dropOn 37 = .ok (.sipush 144, 3) := by decide +kernel
theorem dX10_dropOn_40 : decode cX10_dropOn 40 = .ok (.iload 4, 2) := by decide +kernel
theorem dX10_dropOn_42 : decode cX10_dropOn 42 = .ok (.iadd, 1) := by decide +kernel
theorem dX10_dropOn_43 : decode cX10_dropOn 43 = .ok (.aload_n 1, 1) := by decide +kernel
theorem dX10_dropOn_44 : decode cX10_dropOn 44 = .ok (.sipush 304, 3) := by decide +kernel
theorem dX10_dropOn_47 : decode cX10_dropOn 47 = .ok (.iload_n 2, 1) := by decide +kernel
theorem dX10_dropOn_48 : decode cX10_dropOn 48 = .ok (.iadd, 1) := by decide +kernel
theorem dX10_dropOn_49 : decode cX10_dropOn 49 = .ok (.iaload, 1) := by decide +kernel
theorem dX10_dropOn_50 : decode cX10_dropOn 50 = .ok (.iastore, 1) := by decide +kernel
theorem dX10_dropOn_51 : decode cX10_dropOn 51 = .ok (.iload 4, 2) := by decide +kernel
theorem dX10_dropOn_53 : decode cX10_dropOn 53 = .ok (.ireturn, 1) := by decide +kernel
theorem dX10_clearOn_0 : decode cX10_clearOn 0 = .ok (.iconst 0, 1) := by decide +kernel
theorem dX10_clearOn_1 : decode cX10_clearOn 1 = .ok (.istore_n 2, 1) := by decide +kernel
theorem dX10_clearOn_2 : decode cX10_clearOn 2 = .ok (.iconst 0, 1) := by decide +kernel
theorem dX10_clearOn_3 : decode cX10_clearOn 3 = .ok (.istore_n 3, 1) := by decide +kernel
theorem dX10_clearOn_4 : decode cX10_clearOn 4 = .ok (.iload_n 3, 1) := by decide +kernel
theorem dX10_clearOn_5 : decode cX10_clearOn 5 = .ok (.bipush 48, 2) := by decide +kernel
theorem dX10_clearOn_7 : decode cX10_clearOn 7 = .ok (.if_icmp .ge 29, 3) := by decide +kernel
theorem dX10_clearOn_10 : decode cX10_clearOn 10 = .ok (.aload_n 0, 1) := by decide +kernel
theorem dX10_clearOn_11 : decode cX10_clearOn 11 = .ok (.getfield 50, 3) := by decide +kernel
theorem dX10_clearOn_14 : decode cX10_clearOn 14 = .ok (.iload_n 3, 1) := by decide +kernel
theorem dX10_clearOn_15 : decode cX10_clearOn 15 = .ok (.aload_n 0, 1) := by decide +kernel
theorem dX10_clearOn_16 : decode cX10_clearOn 16 = .ok (.aload_n 1, 1) := by decide +kernel
theorem dX10_clearOn_17 : decode cX10_clearOn 17 = .ok (.iload_n 3, 1) := by decide +kernel
theorem dX10_clearOn_18 : decode cX10_clearOn 18 = .ok (.invokevirtual 145, 3) := by decide +kernel
theorem dX10_clearOn_21 : decode cX10_clearOn 21 = .ok (.ifCond .eq 7, 3) := by decide +kernel
theorem dX10_clearOn_24 : decode cX10_clearOn 24 = .ok (.iconst 1, 1) := by decide +kernel
theorem dX10_clearOn_25 : decode cX10_clearOn 25 = .ok (.goto 4, 3) := by decide +kernel
theorem dX10_clearOn_28 : decode cX10_clearOn 28 = .ok (.iconst 0, 1) := by decide +kernel
theorem dX10_clearOn_29 : decode cX10_clearOn 29 = .ok (.iastore, 1) := by decide +kernel
theorem dX10_clearOn_30 : decode cX10_clearOn 30 = .ok (.iinc 3 1, 3) := by decide +kernel
theorem dX10_clearOn_33 : decode cX10_clearOn 33 = .ok (.goto (-29), 3) := by decide +kernel
theorem dX10_clearOn_36 : decode cX10_clearOn 36 = .ok (.iconst 0, 1) := by decide +kernel
theorem dX10_clearOn_37 : decode cX10_clearOn 37 = .ok (.istore_n 3, 1) := by decide +kernel
theorem dX10_clearOn_38 : decode cX10_clearOn 38 = .ok (.iload_n 3, 1) := by decide +kernel
theorem dX10_clearOn_39 : decode cX10_clearOn 39 = .ok (.bipush 48, 2) := by decide +kernel
theorem dX10_clearOn_41 : decode cX10_clearOn 41 = .ok (.if_icmp .ge 30, 3) := by decide +kernel
theorem dX10_clearOn_44 : decode cX10_clearOn 44 = .ok (.aload_n 0, 1) := by decide +kernel
theorem dX10_clearOn_45 : decode cX10_clearOn 45 = .ok (.getfield 50, 3) := by decide +kernel
theorem dX10_clearOn_48 : decode cX10_clearOn 48 = .ok (.iload_n 3, 1) := by decide +kernel
theorem dX10_clearOn_49 : decode cX10_clearOn 49 = .ok (.iaload, 1) := by decide +kernel
theorem dX10_clearOn_50 : decode cX10_clearOn 50 = .ok (.ifCond .ne 6, 3) := by decide +kernel
theorem dX10_clearOn_53 : decode cX10_clearOn 53 = .ok (.goto 12, 3) := by decide +kernel
theorem dX10_clearOn_56 : decode cX10_clearOn 56 = .ok (.aload_n 1, 1) := by decide +kernel
theorem dX10_clearOn_57 : decode cX10_clearOn 57 = .ok (.iconst 0, 1) := by decide +kernel
theorem dX10_clearOn_58 : decode cX10_clearOn 58 = .ok (.iload_n 3, 1) := by decide +kernel
theorem dX10_clearOn_59 : decode cX10_clearOn 59 = .ok (.iadd, 1) := by decide +kernel
theorem dX10_clearOn_60 : decode cX10_clearOn 60 = .ok (.iconst 0, 1) := by decide +kernel
theorem dX10_clearOn_61 : decode cX10_clearOn 61 = .ok (.iastore, 1) := by decide +kernel
theorem dX10_clearOn_62 : decode cX10_clearOn 62 = .ok (.iinc 2 1, 3) := by decide +kernel
theorem dX10_clearOn_65 : decode cX10_clearOn 65 = .ok (.iinc 3 1, 3) := by decide +kernel
theorem dX10_clearOn_68 : decode cX10_clearOn 68 = .ok (.goto (-30), 3) := by decide +kernel
theorem dX10_clearOn_71 : decode cX10_clearOn 71 = .ok (.iload_n 2, 1) := by decide +kernel
theorem dX10_clearOn_72 : decode cX10_clearOn 72 = .ok (.ireturn, 1) := by decide +kernel
theorem dX10_freezeOn_0 : decode cX10_freezeOn 0 = .ok (.iconst 0, 1) := by decide +kernel
theorem dX10_freezeOn_1 : decode cX10_freezeOn 1 = .ok (.istore_n 2, 1) := by decide +kernel
theorem dX10_freezeOn_2 : decode cX10_freezeOn 2 = .ok (.iconst 0, 1) := by decide +kernel
theorem dX10_freezeOn_3 : decode cX10_freezeOn 3 = .ok (.istore_n 3, 1) := by decide +kernel
theorem dX10_freezeOn_4 : decode cX10_freezeOn 4 = .ok (.iload_n 3, 1) := by decide +kernel
theorem dX10_freezeOn_5 : decode cX10_freezeOn 5 = .ok (.bipush 48, 2) := by decide +kernel
theorem dX10_freezeOn_7 : decode cX10_freezeOn 7 = .ok (.if_icmp .ge 44, 3) := by decide +kernel
theorem dX10_freezeOn_10 : decode cX10_freezeOn 10 = .ok (.aload_n 0, 1) := by decide +kernel
theorem dX10_freezeOn_11 : decode cX10_freezeOn 11 = .ok (.getfield 50, 3) := by decide +kernel
theorem dX10_freezeOn_14 : decode cX10_freezeOn 14 = .ok (.iload_n 3, 1) := by decide +kernel
theorem dX10_freezeOn_15 : decode cX10_freezeOn 15 = .ok (.aload_n 0, 1) := by decide +kernel
theorem dX10_freezeOn_16 : decode cX10_freezeOn 16 = .ok (.aload_n 1, 1) := by decide +kernel
theorem dX10_freezeOn_17 : decode cX10_freezeOn 17 = .ok (.iload_n 3, 1) := by decide +kernel
theorem dX10_freezeOn_18 : decode cX10_freezeOn 18 = .ok (.invokevirtual 148, 3) := by decide +kernel
theorem dX10_freezeOn_21 : decode cX10_freezeOn 21 = .ok (.ifCond .eq 7, 3) := by decide +kernel
theorem dX10_freezeOn_24 : decode cX10_freezeOn 24 = .ok (.iconst 1, 1) := by decide +kernel
theorem dX10_freezeOn_25 : decode cX10_freezeOn 25 = .ok (.goto 4, 3) := by decide +kernel
theorem dX10_freezeOn_28 : decode cX10_freezeOn 28 = .ok (.iconst 0, 1) := by decide +kernel
theorem dX10_freezeOn_29 : decode cX10_freezeOn 29 = .ok (.aload_n 0, 1) := by decide +kernel
theorem dX10_freezeOn_30 : decode cX10_freezeOn 30 = .ok (.aload_n 1, 1) := by decide +kernel
theorem dX10_freezeOn_31 : decode cX10_freezeOn 31 = .ok (.iload_n 3, 1) := by decide +kernel
theorem dX10_freezeOn_32 : decode cX10_freezeOn 32 = .ok (.invokevirtual 151, 3) := by decide +kernel
theorem dX10_freezeOn_35 : decode cX10_freezeOn 35 = .ok (.ifCond .eq 7, 3) := by decide +kernel
theorem dX10_freezeOn_38 : decode cX10_freezeOn 38 = .ok (.iconst 2, 1) := by decide +kernel
theorem dX10_freezeOn_39 : decode cX10_freezeOn 39 = .ok (.goto 4, 3) := by decide +kernel
theorem dX10_freezeOn_42 : decode cX10_freezeOn 42 = .ok (.iconst 0, 1) := by decide +kernel
theorem dX10_freezeOn_43 : decode cX10_freezeOn 43 = .ok (.iadd, 1) := by decide +kernel
theorem dX10_freezeOn_44 : decode cX10_freezeOn 44 = .ok (.iastore, 1) := by decide +kernel
theorem dX10_freezeOn_45 : decode cX10_freezeOn 45 = .ok (.iinc 3 1, 3) := by decide +kernel
theorem dX10_freezeOn_48 : decode cX10_freezeOn 48 = .ok (.goto (-44), 3) := by decide +kernel
theorem dX10_freezeOn_51 : decode cX10_freezeOn 51 = .ok (.iconst 0, 1) := by decide +kernel
theorem dX10_freezeOn_52 : decode cX10_freezeOn 52 = .ok (.istore_n 3, 1) := by decide +kernel
theorem dX10_freezeOn_53 : decode cX10_freezeOn 53 = .ok (.iload_n 3, 1) := by decide +kernel
theorem dX10_freezeOn_54 : decode cX10_freezeOn 54 = .ok (.bipush 48, 2) := by decide +kernel
theorem dX10_freezeOn_56 : decode cX10_freezeOn 56 = .ok (.if_icmp .ge 65, 3) := by decide +kernel
theorem dX10_freezeOn_59 : decode cX10_freezeOn 59 = .ok (.aload_n 0, 1) := by decide +kernel
theorem dX10_freezeOn_60 : decode cX10_freezeOn 60 = .ok (.getfield 50, 3) := by decide +kernel
theorem dX10_freezeOn_63 : decode cX10_freezeOn 63 = .ok (.iload_n 3, 1) := by decide +kernel
theorem dX10_freezeOn_64 : decode cX10_freezeOn 64 = .ok (.iaload, 1) := by decide +kernel
theorem dX10_freezeOn_65 : decode cX10_freezeOn 65 = .ok (.iconst 2, 1) := by decide +kernel
theorem dX10_freezeOn_66 : decode cX10_freezeOn 66 = .ok (.irem, 1) := by decide +kernel
theorem dX10_freezeOn_67 : decode cX10_freezeOn 67 = .ok (.iconst 1, 1) := by decide +kernel
theorem dX10_freezeOn_68 : decode cX10_freezeOn 68 = .ok (.if_icmp .ne 11, 3) := by decide +kernel
theorem dX10_freezeOn_71 : decode cX10_freezeOn 71 = .ok (.aload_n 1, 1) := by decide +kernel
theorem dX10_freezeOn_72 : decode cX10_freezeOn 72 = .ok (.bipush 96, 2) := by decide +kernel
theorem dX10_freezeOn_74 : decode cX10_freezeOn 74 = .ok (.iload_n 3, 1) := by decide +kernel
theorem dX10_freezeOn_75 : decode cX10_freezeOn 75 = .ok (.iadd, 1) := by decide +kernel
theorem dX10_freezeOn_76 : decode cX10_freezeOn 76 = .ok (.bipush (-2), 2) := by decide +kernel
theorem dX10_freezeOn_78 : decode cX10_freezeOn 78 = .ok (.iastore, 1) := by decide +kernel
theorem dX10_freezeOn_79 : decode cX10_freezeOn 79 = .ok (.aload_n 0, 1) := by decide +kernel
theorem dX10_freezeOn_80 : decode cX10_freezeOn 80 = .ok (.getfield 50, 3) := by decide +kernel
theorem dX10_freezeOn_83 : decode cX10_freezeOn 83 = .ok (.iload_n 3, 1) := by decide +kernel
theorem dX10_freezeOn_84 : decode cX10_freezeOn 84 = .ok (.iaload, 1) := by decide +kernel
theorem dX10_freezeOn_85 : decode cX10_freezeOn 85 = .ok (.iconst 1, 1) := by decide +kernel
theorem dX10_freezeOn_86 : decode cX10_freezeOn 86 = .ok (.if_icmp .le 12, 3) := by decide +kernel
theorem dX10_freezeOn_89 : decode cX10_freezeOn 89 = .ok (.aload_n 1, 1) := by decide +kernel
theorem dX10_freezeOn_90 : decode cX10_freezeOn 90 = .ok (.sipush 144, 3) := by decide +kernel
theorem dX10_freezeOn_93 : decode cX10_freezeOn 93 = .ok (.iload_n 3, 1) := by decide +kernel
theorem dX10_freezeOn_94 : decode cX10_freezeOn 94 = .ok (.iadd, 1) := by decide +kernel
theorem dX10_freezeOn_95 : decode cX10_freezeOn 95 = .ok (.bipush (-2), 2) := by decide +kernel
theorem dX10_freezeOn_97 : decode cX10_freezeOn 97 = .ok (.iastore, 1) := by decide +kernel
theorem dX10_freezeOn_98 : decode cX10_freezeOn 98 = .ok (.iload_n 2, 1) := by decide +kernel
theorem dX10_freezeOn_99 : decode cX10_freezeOn 99 = .ok (.aload_n 0, 1) := by decide +kernel
theorem dX10_freezeOn_100 : decode cX10_freezeOn 100 = .ok (.getfield 50, 3) := by decide +kernel
theorem dX10_freezeOn_103 : decode cX10_freezeOn 103 = .ok (.iload_n 3, 1) := by decide +kernel
theorem dX10_freezeOn_104 : decode cX10_freezeOn 104 = .ok (.iaload, 1) := by decide +kernel
theorem dX10_freezeOn_105 : decode cX10_freezeOn 105 = .ok (.ifCond .le 7, 3) := by decide +kernel
theorem dX10_freezeOn_108 : decode cX10_freezeOn 108 = .ok (.iconst 1, 1) := by decide +kernel
theorem dX10_freezeOn_109 : decode cX10_freezeOn 109 = .ok (.goto 4, 3) := by decide +kernel
theorem dX10_freezeOn_112 : decode cX10_freezeOn 112 = .ok (.iconst 0, 1) := by decide +kernel
theorem dX10_freezeOn_113 : decode cX10_freezeOn 113 = .ok (.iadd, 1) := by decide +kernel
theorem dX10_freezeOn_114 : decode cX10_freezeOn 114 = .ok (.istore_n 2, 1) := by decide +kernel
theorem dX10_freezeOn_115 : decode cX10_freezeOn 115 = .ok (.iinc 3 1, 3) := by decide +kernel
theorem dX10_freezeOn_118 : decode cX10_freezeOn 118 = .ok (.goto (-65), 3) := by decide +kernel
theorem dX10_freezeOn_121 : decode cX10_freezeOn 121 = .ok (.iload_n 2, 1) := by decide +kernel
theorem dX10_freezeOn_122 : decode cX10_freezeOn 122 = .ok (.ireturn, 1) := by decide +kernel
theorem dX10_see_0 : decode cX10_see 0 = .ok (.iload_n 1, 1) := by decide +kernel
theorem dX10_see_1 : decode cX10_see 1 = .ok (.aload_n 0, 1) := by decide +kernel
theorem dX10_see_2 : decode cX10_see 2 = .ok (.getfield 154, 3) := by decide +kernel
theorem dX10_see_5 : decode cX10_see 5 = .ok (.if_icmp .ge 12, 3) := by decide +kernel
theorem dX10_see_8 : decode cX10_see 8 = .ok (.aload_n 0, 1) := by decide +kernel
theorem dX10_see_9 : decode cX10_see 9 = .ok (.getfield 7, 3) := by decide +kernel
theorem dX10_see_12 : decode cX10_see 12 = .ok (.iload_n 1, 1) := by decide +kernel
theorem dX10_see_13 : decode cX10_see 13 = .ok (.iaload, 1) := by decide +kernel
theorem dX10_see_14 : decode cX10_see 14 = .ok (.goto 4, 3) := by decide +kernel
theorem dX10_see_17 : decode cX10_see 17 = .ok (.iconst (-1), 1) := by decide +kernel
theorem dX10_see_18 : decode cX10_see 18 = .ok (.ireturn, 1) := by decide +kernel
theorem dX10_isSmall_0 : decode cX10_isSmall 0 = .ok (.iload_n 0, 1) := by decide +kernel
theorem dX10_isSmall_1 : decode cX10_isSmall 1 = .ok (.bipush 97, 2) := by decide +kernel
theorem dX10_isSmall_3 : decode cX10_isSmall 3 = .ok (.if_icmp .lt 13, 3) := by decide +kernel
theorem dX10_isSmall_6 : decode cX10_isSmall 6 = .ok (.iload_n 0, 1) := by decide +kernel
theorem dX10_isSmall_7 : decode cX10_isSmall 7 = .ok (.bipush 122, 2) := by decide +kernel
theorem dX10_isSmall_9 : decode cX10_isSmall 9 = .ok (.if_icmp .gt 7, 3) := by decide +kernel
theorem dX10_isSmall_12 : decode cX10_isSmall 12 = .ok (.iconst 1, 1) := by decide +kernel
theorem dX10_isSmall_13 : decode cX10_isSmall 13 = .ok (.goto 4, 3) := by decide +kernel
theorem dX10_isSmall_16 : decode cX10_isSmall 16 = .ok (.iconst 0, 1) := by decide +kernel
theorem dX10_isSmall_17 : decode cX10_isSmall 17 = .ok (.ireturn, 1) := by decide +kernel
theorem dX10_isDigit_0 : decode cX10_isDigit 0 = .ok (.iload_n 0, 1) := by decide +kernel
theorem dX10_isDigit_1 : decode cX10_isDigit 1 = .ok (.bipush 48, 2) := by decide +kernel
theorem dX10_isDigit_3 : decode cX10_isDigit 3 = .ok (.if_icmp .lt 13, 3) := by decide +kernel
theorem dX10_isDigit_6 : decode cX10_isDigit 6 = .ok (.iload_n 0, 1) := by decide +kernel
theorem dX10_isDigit_7 : decode cX10_isDigit 7 = .ok (.bipush 57, 2) := by decide +kernel
theorem dX10_isDigit_9 : decode cX10_isDigit 9 = .ok (.if_icmp .gt 7, 3) := by decide +kernel
theorem dX10_isDigit_12 : decode cX10_isDigit 12 = .ok (.iconst 1, 1) := by decide +kernel
theorem dX10_isDigit_13 : decode cX10_isDigit 13 = .ok (.goto 4, 3) := by decide +kernel
theorem dX10_isDigit_16 : decode cX10_isDigit 16 = .ok (.iconst 0, 1) := by decide +kernel
theorem dX10_isDigit_17 : decode cX10_isDigit 17 = .ok (.ireturn, 1) := by decide +kernel
theorem dX10_step_0 : decode cX10_step 0 = .ok (.aload_n 0, 1) := by decide +kernel
theorem dX10_step_1 : decode cX10_step 1 = .ok (.getfield 157, 3) := by decide +kernel
theorem dX10_step_4 : decode cX10_step 4 = .ok (.istore_n 1, 1) := by decide +kernel
theorem dX10_step_5 : decode cX10_step 5 = .ok (.aload_n 0, 1) := by decide +kernel
theorem dX10_step_6 : decode cX10_step 6 = .ok (.iload_n 1, 1) := by decide +kernel
theorem dX10_step_7 : decode cX10_step 7 = .ok (.invokevirtual 160, 3) := by decide +kernel
theorem dX10_step_10 : decode cX10_step 10 = .ok (.bipush 32, 2) := by decide +kernel
theorem dX10_step_12 : decode cX10_step 12 = .ok (.if_icmp .ne 9, 3) := by decide +kernel
theorem dX10_step_15 : decode cX10_step 15 = .ok (.iinc 1 1, 3) := by decide +kernel
theorem dX10_step_18 : decode cX10_step 18 = .ok (.goto (-13), 3) := by decide +kernel
theorem dX10_step_21 : decode cX10_step 21 = .ok (.aload_n 0, 1) := by decide +kernel
theorem dX10_step_22 : decode cX10_step 22 = .ok (.iload_n 1, 1) := by decide +kernel
theorem dX10_step_23 : decode cX10_step 23 = .ok (.putfield 164, 3) := by decide +kernel
theorem dX10_step_26 : decode cX10_step 26 = .ok (.aload_n 0, 1) := by decide +kernel
theorem dX10_step_27 : decode cX10_step 27 = .ok (.iload_n 1, 1) := by decide +kernel
theorem dX10_step_28 : decode cX10_step 28 = .ok (.invokevirtual 160, 3) := by decide +kernel
theorem dX10_step_31 : decode cX10_step 31 = .ok (.istore_n 2, 1) := by decide +kernel
theorem dX10_step_32 : decode cX10_step 32 = .ok (.aload_n 0, 1) := by decide +kernel
theorem dX10_step_33 : decode cX10_step 33 = .ok (.iconst 0, 1) := by decide +kernel
theorem dX10_step_34 : decode cX10_step 34 = .ok (.putfield 167, 3) := by decide +kernel
theorem dX10_step_37 : decode cX10_step 37 = .ok (.aload_n 0, 1) := by decide +kernel
theorem dX10_step_38 : decode cX10_step 38 = .ok (.iconst 0, 1) := by decide +kernel
theorem dX10_step_39 : decode cX10_step 39 = .ok (.putfield 170, 3) := by decide +kernel
theorem dX10_step_42 : decode cX10_step 42 = .ok (.iload_n 2, 1) := by decide +kernel
theorem dX10_step_43 : decode cX10_step 43 = .ok (.iconst (-1), 1) := by decide +kernel
theorem dX10_step_44 : decode cX10_step 44 = .ok (.if_icmp .ne 16, 3) := by decide +kernel
theorem dX10_step_47 : decode cX10_step 47 = .ok (.aload_n 0, 1) := by decide +kernel
theorem dX10_step_48 : decode cX10_step 48 = .ok (.iconst 0, 1) := by decide +kernel
theorem dX10_step_49 : decode cX10_step 49 = .ok (.putfield 173, 3) := by decide +kernel
theorem dX10_step_52 : decode cX10_step 52 = .ok (.aload_n 0, 1) := by decide +kernel
theorem dX10_step_53 : decode cX10_step 53 = .ok (.iload_n 1, 1) := by decide +kernel
theorem dX10_step_54 : decode cX10_step 54 = .ok (.putfield 157, 3) := by decide +kernel
theorem dX10_step_57 : decode cX10_step 57 = .ok (.goto 184, 3) := by decide +kernel
theorem dX10_step_60 : decode cX10_step 60 = .ok (.iload_n 2, 1) := by decide +kernel
theorem dX10_step_61 : decode cX10_step 61 = .ok (.invokestatic 176, 3) := by decide +kernel
theorem dX10_step_64 : decode cX10_step 64 = .ok (.ifCond .eq 79, 3) := by decide +kernel
theorem dX10_step_67 : decode cX10_step 67 = .ok (.aload_n 0, 1) := by decide +kernel
theorem dX10_step_68 : decode cX10_step 68 = .ok (.iload_n 1, 1) := by decide +kernel
theorem dX10_step_69 : decode cX10_step 69 = .ok (.invokevirtual 160, 3) := by decide +kernel
theorem dX10_step_72 : decode cX10_step 72 = .ok (.invokestatic 176, 3) := by decide +kernel
theorem dX10_step_75 : decode cX10_step 75 = .ok (.ifCond .eq 42, 3) := by decide +kernel
theorem dX10_step_78 : decode cX10_step 78 = .ok (.aload_n 0, 1) := by decide +kernel
theorem dX10_step_79 : decode cX10_step 79 = .ok (.getfield 167, 3) := by decide +kernel
theorem dX10_step_82 : decode cX10_step 82 = .ok (.bipush 8, 2) := by decide +kernel
theorem dX10_step_84 : decode cX10_step 84 = .ok (.if_icmp .ge 17, 3) := by decide +kernel
theorem dX10_step_87 : decode cX10_step 87 = .ok (.aload_n 0, 1) := by decide +kernel
theorem dX10_step_88 : decode cX10_step 88 = .ok (.getfield 17, 3) := by decide +kernel
theorem dX10_step_91 : decode cX10_step 91 = .ok (.aload_n 0, 1) := by decide +kernel
theorem dX10_step_92 : decode cX10_step 92 = .ok (.getfield 167, 3) := by decide +kernel
theorem dX10_step_95 : decode cX10_step 95 = .ok (.aload_n 0, 1) := by decide +kernel
theorem dX10_step_96 : decode cX10_step 96 = .ok (.iload_n 1, 1) := by decide +kernel
theorem dX10_step_97 : decode cX10_step 97 = .ok (.invokevirtual 160, 3) := by decide +kernel
theorem dX10_step_100 : decode cX10_step 100 = .ok (.iastore, 1) := by decide +kernel
theorem dX10_step_101 : decode cX10_step 101 = .ok (.aload_n 0, 1) := by decide +kernel
theorem dX10_step_102 : decode cX10_step 102 = .ok (.dup, 1) := by decide +kernel
theorem dX10_step_103 : decode cX10_step 103 = .ok (.getfield 167, 3) := by decide +kernel
theorem dX10_step_106 : decode cX10_step 106 = .ok (.iconst 1, 1) := by decide +kernel
