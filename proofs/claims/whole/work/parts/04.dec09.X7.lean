theorem dX7_init_0 : decode cX7_init 0 = .ok (.aload_n 0, 1) := by decide +kernel
theorem dX7_init_1 : decode cX7_init 1 = .ok (.invokespecial 3, 3) := by decide +kernel
theorem dX7_init_4 : decode cX7_init 4 = .ok (.aload_n 0, 1) := by decide +kernel
theorem dX7_init_5 : decode cX7_init 5 = .ok (.sipush 900, 3) := by decide +kernel
theorem dX7_init_8 : decode cX7_init 8 = .ok (.newarray .byte, 2) := by decide +kernel
theorem dX7_init_10 : decode cX7_init 10 = .ok (.putfield 9, 3) := by decide +kernel
theorem dX7_init_13 : decode cX7_init 13 = .ok (.return_, 1) := by decide +kernel
theorem dX7_addFour_0 : decode cX7_addFour 0 = .ok (.bipush 24, 2) := by decide +kernel
theorem dX7_addFour_2 : decode cX7_addFour 2 = .ok (.istore_n 2, 1) := by decide +kernel
theorem dX7_addFour_3 : decode cX7_addFour 3 = .ok (.iload_n 2, 1) := by decide +kernel
theorem dX7_addFour_4 : decode cX7_addFour 4 = .ok (.ifCond .lt 42, 3) := by decide +kernel
theorem dX7_addFour_7 : decode cX7_addFour 7 = .ok (.aload_n 0, 1) := by decide +kernel
theorem dX7_addFour_8 : decode cX7_addFour 8 = .ok (.getfield 15, 3) := by decide +kernel
theorem dX7_addFour_11 : decode cX7_addFour 11 = .ok (.sipush 900, 3) := by decide +kernel
theorem dX7_addFour_14 : decode cX7_addFour 14 = .ok (.if_icmp .ge 32, 3) := by decide +kernel
theorem dX7_addFour_17 : decode cX7_addFour 17 = .ok (.aload_n 0, 1) := by decide +kernel
theorem dX7_addFour_18 : decode cX7_addFour 18 = .ok (.getfield 9, 3) := by decide +kernel
theorem dX7_addFour_21 : decode cX7_addFour 21 = .ok (.aload_n 0, 1) := by decide +kernel
theorem dX7_addFour_22 : decode cX7_addFour 22 = .ok (.getfield 15, 3) := by decide +kernel
theorem dX7_addFour_25 : decode cX7_addFour 25 = .ok (.iload_n 1, 1) := by decide +kernel
theorem dX7_addFour_26 : decode cX7_addFour 26 = .ok (.iload_n 2, 1) := by decide +kernel
theorem dX7_addFour_27 : decode cX7_addFour 27 = .ok (.iushr, 1) := by decide +kernel
theorem dX7_addFour_28 : decode cX7_addFour 28 = .ok (.i2b, 1) := by decide +kernel
theorem dX7_addFour_29 : decode cX7_addFour 29 = .ok (.bastore, 1) := by decide +kernel
theorem dX7_addFour_30 : decode cX7_addFour 30 = .ok (.aload_n 0, 1) := by decide +kernel
theorem dX7_addFour_31 : decode cX7_addFour 31 = .ok (.dup, 1) := by decide +kernel
theorem dX7_addFour_32 : decode cX7_addFour 32 = .ok (.getfield 15, 3) := by decide +kernel
theorem dX7_addFour_35 : decode cX7_addFour 35 = .ok (.iconst 1, 1) := by decide +kernel
theorem dX7_addFour_36 : decode cX7_addFour 36 = .ok (.iadd, 1) := by decide +kernel
theorem dX7_addFour_37 : decode cX7_addFour 37 = .ok (.putfield 15, 3) := by decide +kernel
theorem dX7_addFour_40 : decode cX7_addFour 40 = .ok (.iinc 2 (-8), 3) := by decide +kernel
theorem dX7_addFour_43 : decode cX7_addFour 43 = .ok (.goto (-40), 3) := by decide +kernel
theorem dX7_addFour_46 : decode cX7_addFour 46 = .ok (.return_, 1) := by decide +kernel
theorem dX7_startText_0 : decode cX7_startText 0 = .ok (.aload_n 0, 1) := by decide +kernel
theorem dX7_startText_1 : decode cX7_startText 1 = .ok (.iload_n 1, 1) := by decide +kernel
theorem dX7_startText_2 : decode cX7_startText 2 = .ok (.aload_n 0, 1) := by decide +kernel
theorem dX7_startText_3 : decode cX7_startText 3 = .ok (.getfield 15, 3) := by decide +kernel
theorem dX7_startText_6 : decode cX7_startText 6 = .ok (.invokestatic 19, 3) := by decide +kernel
theorem dX7_startText_9 : decode cX7_startText 9 = .ok (.putfield 25, 3) := by decide +kernel
theorem dX7_startText_12 : decode cX7_startText 12 = .ok (.aload_n 0, 1) := by decide +kernel
theorem dX7_startText_13 : decode cX7_startText 13 = .ok (.iconst 0, 1) := by decide +kernel
theorem dX7_startText_14 : decode cX7_startText 14 = .ok (.putfield 15, 3) := by decide +kernel
theorem dX7_startText_17 : decode cX7_startText 17 = .ok (.aload_n 0, 1) := by decide +kernel
theorem dX7_startText_18 : decode cX7_startText 18 = .ok (.iconst 0, 1) := by decide +kernel
theorem dX7_startText_19 : decode cX7_startText 19 = .ok (.putfield 28, 3) := by decide +kernel
theorem dX7_startText_22 : decode cX7_startText 22 = .ok (.aload_n 0, 1) := by decide +kernel
theorem dX7_startText_23 : decode cX7_startText 23 = .ok (.invokevirtual 31, 3) := by decide +kernel
theorem dX7_startText_26 : decode cX7_startText 26 = .ok (.return_, 1) := by decide +kernel
theorem dX7_advance_0 : decode cX7_advance 0 = .ok (.aload_n 0, 1) := by decide +kernel
theorem dX7_advance_1 : decode cX7_advance 1 = .ok (.aload_n 0, 1) := by decide +kernel
theorem dX7_advance_2 : decode cX7_advance 2 = .ok (.getfield 28, 3) := by decide +kernel
theorem dX7_advance_5 : decode cX7_advance 5 = .ok (.putfield 34, 3) := by decide +kernel
theorem dX7_advance_8 : decode cX7_advance 8 = .ok (.aload_n 0, 1) := by decide +kernel
theorem dX7_advance_9 : decode cX7_advance 9 = .ok (.getfield 34, 3) := by decide +kernel
theorem dX7_advance_12 : decode cX7_advance 12 = .ok (.aload_n 0, 1) := by decide +kernel
theorem dX7_advance_13 : decode cX7_advance 13 = .ok (.getfield 25, 3) := by decide +kernel
theorem dX7_advance_16 : decode cX7_advance 16 = .ok (.if_icmp .ge 30, 3) := by decide +kernel
theorem dX7_advance_19 : decode cX7_advance 19 = .ok (.aload_n 0, 1) := by decide +kernel
theorem dX7_advance_20 : decode cX7_advance 20 = .ok (.getfield 9, 3) := by decide +kernel
theorem dX7_advance_23 : decode cX7_advance 23 = .ok (.aload_n 0, 1) := by decide +kernel
theorem dX7_advance_24 : decode cX7_advance 24 = .ok (.getfield 34, 3) := by decide +kernel
theorem dX7_advance_27 : decode cX7_advance 27 = .ok (.baload, 1) := by decide +kernel
theorem dX7_advance_28 : decode cX7_advance 28 = .ok (.bipush 32, 2) := by decide +kernel
theorem dX7_advance_30 : decode cX7_advance 30 = .ok (.if_icmp .ne 16, 3) := by decide +kernel
theorem dX7_advance_33 : decode cX7_advance 33 = .ok (.aload_n 0, 1) := by decide +kernel
theorem dX7_advance_34 : decode cX7_advance 34 = .ok (.dup, 1) := by decide +kernel
theorem dX7_advance_35 : decode cX7_advance 35 = .ok (.getfield 34, 3) := by decide +kernel
theorem dX7_advance_38 : decode cX7_advance 38 = .ok (.iconst 1, 1) := by decide +kernel
theorem dX7_advance_39 : decode cX7_advance 39 = .ok (.iadd, 1) := by decide +kernel
theorem dX7_advance_40 : decode cX7_advance 40 = .ok (.putfield 34, 3) := by decide +kernel
theorem dX7_advance_43 : decode cX7_advance 43 = .ok (.goto (-35), 3) := by decide +kernel
theorem dX7_advance_46 : decode cX7_advance 46 = .ok (.aload_n 0, 1) := by decide +kernel
theorem dX7_advance_47 : decode cX7_advance 47 = .ok (.aload_n 0, 1) := by decide +kernel
theorem dX7_advance_48 : decode cX7_advance 48 = .ok (.getfield 34, 3) := by decide +kernel
theorem dX7_advance_51 : decode cX7_advance 51 = .ok (.putfield 28, 3) := by decide +kernel
theorem dX7_advance_54 : decode cX7_advance 54 = .ok (.aload_n 0, 1) := by decide +kernel
theorem dX7_advance_55 : decode cX7_advance 55 = .ok (.getfield 34, 3) := by decide +kernel
theorem dX7_advance_58 : decode cX7_advance 58 = .ok (.aload_n 0, 1) := by decide +kernel
theorem dX7_advance_59 : decode cX7_advance 59 = .ok (.getfield 25, 3) := by decide +kernel
theorem dX7_advance_62 : decode cX7_advance 62 = .ok (.if_icmp .lt 9, 3) := by decide +kernel
theorem dX7_advance_65 : decode cX7_advance 65 = .ok (.aload_n 0, 1) := by decide +kernel
theorem dX7_advance_66 : decode cX7_advance 66 = .ok (.iconst 0, 1) := by decide +kernel
theorem dX7_advance_67 : decode cX7_advance 67 = .ok (.putfield 37, 3) := by decide +kernel
theorem dX7_advance_70 : decode cX7_advance 70 = .ok (.return_, 1) := by decide +kernel
theorem dX7_advance_71 : decode cX7_advance 71 = .ok (.aload_n 0, 1) := by decide +kernel
theorem dX7_advance_72 : decode cX7_advance 72 = .ok (.getfield 9, 3) := by decide +kernel
theorem dX7_advance_75 : decode cX7_advance 75 = .ok (.aload_n 0, 1) := by decide +kernel
theorem dX7_advance_76 : decode cX7_advance 76 = .ok (.getfield 34, 3) := by decide +kernel
theorem dX7_advance_79 : decode cX7_advance 79 = .ok (.baload, 1) := by decide +kernel
theorem dX7_advance_80 : decode cX7_advance 80 = .ok (.istore_n 1, 1) := by decide +kernel
theorem dX7_advance_81 : decode cX7_advance 81 = .ok (.iload_n 1, 1) := by decide +kernel
theorem dX7_advance_82 : decode cX7_advance 82 = .ok (.bipush 59, 2) := by decide +kernel
theorem dX7_advance_84 : decode cX7_advance 84 = .ok (.if_icmp .ne 21, 3) := by decide +kernel
theorem dX7_advance_87 : decode cX7_advance 87 = .ok (.aload_n 0, 1) := by decide +kernel
theorem dX7_advance_88 : decode cX7_advance 88 = .ok (.iconst 3, 1) := by decide +kernel
theorem dX7_advance_89 : decode cX7_advance 89 = .ok (.putfield 37, 3) := by decide +kernel
theorem dX7_advance_92 : decode cX7_advance 92 = .ok (.aload_n 0, 1) := by decide +kernel
theorem dX7_advance_93 : decode cX7_advance 93 = .ok (.aload_n 0, 1) := by decide +kernel
theorem dX7_advance_94 : decode cX7_advance 94 = .ok (.getfield 34, 3) := by decide +kernel
theorem dX7_advance_97 : decode cX7_advance 97 = .ok (.iconst 1, 1) := by decide +kernel
theorem dX7_advance_98 : decode cX7_advance 98 = .ok (.iadd, 1) := by decide +kernel
theorem dX7_advance_99 : decode cX7_advance 99 = .ok (.putfield 28, 3) := by decide +kernel
theorem dX7_advance_102 : decode cX7_advance 102 = .ok (.goto 46, 3) := by decide +kernel
theorem dX7_advance_105 : decode cX7_advance 105 = .ok (.iload_n 1, 1) := by decide +kernel
theorem dX7_advance_106 : decode cX7_advance 106 = .ok (.bipush 97, 2) := by decide +kernel
theorem dX7_advance_108 : decode cX7_advance 108 = .ok (.if_icmp .lt 16, 3) := by decide +kernel
theorem dX7_advance_111 : decode cX7_advance 111 = .ok (.iload_n 1, 1) := by decide +kernel
theorem dX7_advance_112 : decode cX7_advance 112 = .ok (.bipush 122, 2) := by decide +kernel
theorem dX7_advance_114 : decode cX7_advance 114 = .ok (.if_icmp .gt 10, 3) := by decide +kernel
theorem dX7_advance_117 : decode cX7_advance 117 = .ok (.aload_n 0, 1) := by decide +kernel
theorem dX7_advance_118 : decode cX7_advance 118 = .ok (.invokevirtual 40, 3) := by decide +kernel
theorem dX7_advance_121 : decode cX7_advance 121 = .ok (.goto 27, 3) := by decide +kernel
theorem dX7_advance_124 : decode cX7_advance 124 = .ok (.iload_n 1, 1) := by decide +kernel
theorem dX7_advance_125 : decode cX7_advance 125 = .ok (.bipush 48, 2) := by decide +kernel
theorem dX7_advance_127 : decode cX7_advance 127 = .ok (.if_icmp .lt 16, 3) := by decide +kernel
theorem dX7_advance_130 : decode cX7_advance 130 = .ok (.iload_n 1, 1) := by decide +kernel
theorem dX7_advance_131 : decode cX7_advance 131 = .ok (.bipush 57, 2) := by decide +kernel
theorem dX7_advance_133 : decode cX7_advance 133 = .ok (.if_icmp .gt 10, 3) := by decide +kernel
theorem dX7_advance_136 : decode cX7_advance 136 = .ok (.aload_n 0, 1) := by decide +kernel
theorem dX7_advance_137 : decode cX7_advance 137 = .ok (.invokevirtual 43, 3) := by decide +kernel
theorem dX7_advance_140 : decode cX7_advance 140 = .ok (.goto 8, 3) := by decide +kernel
theorem dX7_advance_143 : decode cX7_advance 143 = .ok (.aload_n 0, 1) := by decide +kernel
theorem dX7_advance_144 : decode cX7_advance 144 = .ok (.iconst 4, 1) := by decide +kernel
theorem dX7_advance_145 : decode cX7_advance 145 = .ok (.putfield 37, 3) := by decide +kernel
theorem dX7_advance_148 : decode cX7_advance 148 = .ok (.return_, 1) := by decide +kernel
theorem dX7_scanWord_0 : decode cX7_scanWord 0 = .ok (.aload_n 0, 1) := by decide +kernel
theorem dX7_scanWord_1 : decode cX7_scanWord 1 = .ok (.lconst 0, 1) := by decide +kernel
theorem dX7_scanWord_2 : decode cX7_scanWord 2 = .ok (.putfield 46, 3) := by decide +kernel
theorem dX7_scanWord_5 : decode cX7_scanWord 5 = .ok (.aload_n 0, 1) := by decide +kernel
theorem dX7_scanWord_6 : decode cX7_scanWord 6 = .ok (.getfield 28, 3) := by decide +kernel
theorem dX7_scanWord_9 : decode cX7_scanWord 9 = .ok (.aload_n 0, 1) := by decide +kernel
theorem dX7_scanWord_10 : decode cX7_scanWord 10 = .ok (.getfield 25, 3) := by decide +kernel
theorem dX7_scanWord_13 : decode cX7_scanWord 13 = .ok (.if_icmp .ge 72, 3) := by decide +kernel
theorem dX7_scanWord_16 : decode cX7_scanWord 16 = .ok (.aload_n 0, 1) := by decide +kernel
theorem dX7_scanWord_17 : decode cX7_scanWord 17 = .ok (.getfield 9, 3) := by decide +kernel
theorem dX7_scanWord_20 : decode cX7_scanWord 20 = .ok (.aload_n 0, 1) := by decide +kernel
theorem dX7_scanWord_21 : decode cX7_scanWord 21 = .ok (.getfield 28, 3) := by decide +kernel
theorem dX7_scanWord_24 : decode cX7_scanWord 24 = .ok (.baload, 1) := by decide +kernel
theorem dX7_scanWord_25 : decode cX7_scanWord 25 = .ok (.bipush 97, 2) := by decide +kernel
theorem dX7_scanWord_27 : decode cX7_scanWord 27 = .ok (.if_icmp .lt 58, 3) := by decide +kernel
theorem dX7_scanWord_30 : decode cX7_scanWord 30 = .ok (.aload_n 0, 1) := by decide +kernel
theorem dX7_scanWord_31 : decode cX7_scanWord 31 = .ok (.getfield 9, 3) := by decide +kernel
theorem dX7_scanWord_34 : decode cX7_scanWord 34 = .ok (.aload_n 0, 1) := by decide +kernel
theorem dX7_scanWord_35 : decode cX7_scanWord 35 = .ok (.getfield 28, 3) := by decide +kernel
theorem dX7_scanWord_38 : decode cX7_scanWord 38 = .ok (.baload, 1) := by decide +kernel
theorem dX7_scanWord_39 : decode cX7_scanWord 39 = .ok (.bipush 122, 2) := by decide +kernel
theorem dX7_scanWord_41 : decode cX7_scanWord 41 = .ok (.if_icmp .gt 44, 3) := by decide +kernel
theorem dX7_scanWord_44 : decode cX7_scanWord 44 = .ok (.aload_n 0, 1) := by decide +kernel
theorem dX7_scanWord_45 : decode cX7_scanWord 45 = .ok (.aload_n 0, 1) := by decide +kernel
theorem dX7_scanWord_46 : decode cX7_scanWord 46 = .ok (.getfield 46, 3) := by decide +kernel
theorem dX7_scanWord_49 : decode cX7_scanWord 49 = .ok (.ldc2_w 50, 3) := by decide +kernel
theorem dX7_scanWord_52 : decode cX7_scanWord 52 = .ok (.lmul, 1) := by decide +kernel
theorem dX7_scanWord_53 : decode cX7_scanWord 53 = .ok (.aload_n 0, 1) := by decide +kernel
theorem dX7_scanWord_54 : decode cX7_scanWord 54 = .ok (.getfield 9, 3) := by decide +kernel
theorem dX7_scanWord_57 : decode cX7_scanWord 57 = .ok (.aload_n 0, 1) := by decide +kernel
theorem dX7_scanWord_58 : decode cX7_scanWord 58 = .ok (.getfield 28, 3) := by decide +kernel
theorem dX7_scanWord_61 : decode cX7_scanWord 61 = .ok (.baload, 1) := by decide +kernel
theorem dX7_scanWord_62 : decode cX7_scanWord 62 = .ok (.bipush 97, 2) := by decide +kernel
theorem dX7_scanWord_64 : decode cX7_scanWord 64 = .ok (.isub, 1) := by decide +kernel
theorem dX7_scanWord_65 : decode cX7_scanWord 65 = .ok (.iconst 1, 1) := by decide +kernel
theorem dX7_scanWord_66 : decode cX7_scanWord 66 = .ok (.iadd, 1) := by decide +kernel
theorem dX7_scanWord_67 : decode cX7_scanWord 67 = .ok (.i2l, 1) := by decide +kernel
theorem dX7_scanWord_68 : decode cX7_scanWord 68 = .ok (.ladd, 1) := by decide +kernel
theorem dX7_scanWord_69 : decode cX7_scanWord 69 = .ok (.putfield 46, 3) := by decide +kernel
theorem dX7_scanWord_72 : decode cX7_scanWord 72 = .ok (.aload_n 0, 1) := by decide +kernel
theorem dX7_scanWord_73 : decode cX7_scanWord 73 = .ok (.dup, 1) := by decide +kernel
theorem dX7_scanWord_74 : decode cX7_scanWord 74 = .ok (.getfield 28, 3) := by decide +kernel
theorem dX7_scanWord_77 : decode cX7_scanWord 77 = .ok (.iconst 1, 1) := by decide +kernel
theorem dX7_scanWord_78 : decode cX7_scanWord 78 = .ok (.iadd, 1) := by decide +kernel
theorem dX7_scanWord_79 : decode cX7_scanWord 79 = .ok (.putfield 28, 3) := by decide +kernel
theorem dX7_scanWord_82 : decode cX7_scanWord 82 = .ok (.goto (-77), 3) := by decide +kernel
theorem dX7_scanWord_85 : decode cX7_scanWord 85 = .ok (.aload_n 0, 1) := by decide +kernel
theorem dX7_scanWord_86 : decode cX7_scanWord 86 = .ok (.aload_n 0, 1) := by decide +kernel
theorem dX7_scanWord_87 : decode cX7_scanWord 87 = .ok (.getfield 28, 3) := by decide +kernel
theorem dX7_scanWord_90 : decode cX7_scanWord 90 = .ok (.aload_n 0, 1) := by decide +kernel
theorem dX7_scanWord_91 : decode cX7_scanWord 91 = .ok (.getfield 34, 3) := by decide +kernel
theorem dX7_scanWord_94 : decode cX7_scanWord 94 = .ok (.isub, 1) := by decide +kernel
theorem dX7_scanWord_95 : decode cX7_scanWord 95 = .ok (.bipush 8, 2) := by decide +kernel
theorem dX7_scanWord_97 : decode cX7_scanWord 97 = .ok (.if_icmp .gt 7, 3) := by decide +kernel
theorem dX7_scanWord_100 : decode cX7_scanWord 100 = .ok (.iconst 1, 1) := by decide +kernel
theorem dX7_scanWord_101 : decode cX7_scanWord 101 = .ok (.goto 4, 3) := by decide +kernel
theorem dX7_scanWord_104 : decode cX7_scanWord 104 = .ok (.iconst 4, 1) := by decide +kernel
theorem dX7_scanWord_105 : decode cX7_scanWord 105 = .ok (.putfield 37, 3) := by decide +kernel
theorem dX7_scanWord_108 : decode cX7_scanWord 108 = .ok (.return_, 1) := by decide +kernel
theorem dX7_scanWhole_0 : decode cX7_scanWhole 0 = .ok (.aload_n 0, 1) := by decide +kernel
theorem dX7_scanWhole_1 : decode cX7_scanWhole 1 = .ok (.lconst 0, 1) := by decide +kernel
theorem dX7_scanWhole_2 : decode cX7_scanWhole 2 = .ok (.putfield 46, 3) := by decide +kernel
theorem dX7_scanWhole_5 : decode cX7_scanWhole 5 = .ok (.aload_n 0, 1) := by decide +kernel
theorem dX7_scanWhole_6 : decode cX7_scanWhole 6 = .ok (.getfield 28, 3) := by decide +kernel
theorem dX7_scanWhole_9 : decode cX7_scanWhole 9 = .ok (.aload_n 0, 1) := by decide +kernel
theorem dX7_scanWhole_10 : decode cX7_scanWhole 10 = .ok (.getfield 25, 3) := by decide +kernel
theorem dX7_scanWhole_13 : decode cX7_scanWhole 13 = .ok (.if_icmp .ge 70, 3) := by decide +kernel
theorem dX7_scanWhole_16 : decode cX7_scanWhole 16 = .ok (.aload_n 0, 1) := by decide +kernel
theorem dX7_scanWhole_17 : decode cX7_scanWhole 17 = .ok (.getfield 9, 3) := by decide +kernel
theorem dX7_scanWhole_20 : decode cX7_scanWhole 20 = .ok (.aload_n 0, 1) := by decide +kernel
theorem dX7_scanWhole_21 : decode cX7_scanWhole 21 = .ok (.getfield 28, 3) := by decide +kernel
theorem dX7_scanWhole_24 : decode cX7_scanWhole 24 = .ok (.baload, 1) := by decide +kernel
theorem dX7_scanWhole_25 : decode cX7_scanWhole 25 = .ok (.bipush 48, 2) := by decide +kernel
theorem dX7_scanWhole_27 : decode cX7_scanWhole 27 = .ok (.if_icmp .lt 56, 3) := by decide +kernel
theorem dX7_scanWhole_30 : decode cX7_scanWhole 30 = .ok (.aload_n 0, 1) := by decide +kernel
theorem dX7_scanWhole_31 : decode cX7_scanWhole 31 = .ok (.getfield 9, 3) := by decide +kernel
theorem dX7_scanWhole_34 : decode cX7_scanWhole 34 = .ok (.aload_n 0, 1) := by decide +kernel
theorem dX7_scanWhole_35 : decode cX7_scanWhole 35 = .ok (.getfield 28, 3) := by decide +kernel
theorem dX7_scanWhole_38 : decode cX7_scanWhole 38 = .ok (.baload, 1) := by decide +kernel
theorem dX7_scanWhole_39 : decode cX7_scanWhole 39 = .ok (.bipush 57, 2) := by decide +kernel
theorem dX7_scanWhole_41 : decode cX7_scanWhole 41 = .ok (.if_icmp .gt 42, 3) := by decide +kernel
theorem dX7_scanWhole_44 : decode cX7_scanWhole 44 = .ok (.aload_n 0, 1) := by decide +kernel
theorem dX7_scanWhole_45 : decode cX7_scanWhole 45 = .ok (.aload_n 0, 1) := by decide +kernel
theorem dX7_scanWhole_46 : decode cX7_scanWhole 46 = .ok (.getfield 46, 3) := by decide +kernel
theorem dX7_scanWhole_49 : decode cX7_scanWhole 49 = .ok (.ldc2_w 52, 3) := by decide +kernel
theorem dX7_scanWhole_52 : decode cX7_scanWhole 52 = .ok (.lmul, 1) := by decide +kernel
theorem dX7_scanWhole_53 : decode cX7_scanWhole 53 = .ok (.aload_n 0, 1) := by decide +kernel
theorem dX7_scanWhole_54 : decode cX7_scanWhole 54 = .ok (.getfield 9, 3) := by decide +kernel
theorem dX7_scanWhole_57 : decode cX7_scanWhole 57 = .ok (.aload_n 0, 1) := by decide +kernel
theorem dX7_scanWhole_58 : decode cX7_scanWhole 58 = .ok (.getfield 28, 3) := by decide +kernel
theorem dX7_scanWhole_61 : decode cX7_scanWhole 61 = .ok (.baload, 1) := by decide +kernel
theorem dX7_scanWhole_62 : decode cX7_scanWhole 62 = .ok (.bipush 48, 2) := by decide +kernel
theorem dX7_scanWhole_64 : decode cX7_scanWhole 64 = .ok (.isub, 1) := by decide +kernel
theorem dX7_scanWhole_65 : decode cX7_scanWhole 65 = .ok (.i2l, 1) := by decide +kernel
theorem dX7_scanWhole_66 : decode cX7_scanWhole 66 = .ok (.ladd, 1) := by decide +kernel
theorem dX7_scanWhole_67 : decode cX7_scanWhole 67 = .ok (.putfield 46, 3) := by decide +kernel
theorem dX7_scanWhole_70 : decode cX7_scanWhole 70 = .ok (.aload_n 0, 1) := by decide +kernel
theorem dX7_scanWhole_71 : decode cX7_scanWhole 71 = .ok (.dup, 1) := by decide +kernel
theorem dX7_scanWhole_72 : decode cX7_scanWhole 72 = .ok (.getfield 28, 3) := by decide +kernel
theorem dX7_scanWhole_75 : decode cX7_scanWhole 75 = .ok (.iconst 1, 1) := by decide +kernel
theorem dX7_scanWhole_76 : decode cX7_scanWhole 76 = .ok (.iadd, 1) := by decide +kernel
theorem dX7_scanWhole_77 : decode cX7_scanWhole 77 = .ok (.putfield 28, 3) := by decide +kernel
theorem dX7_scanWhole_80 : decode cX7_scanWhole 80 = .ok (.goto (-75), 3) := by decide +kernel
theorem dX7_scanWhole_83 : decode cX7_scanWhole 83 = .ok (.aload_n 0, 1) := by decide +kernel
theorem dX7_scanWhole_84 : decode cX7_scanWhole 84 = .ok (.aload_n 0, 1) := by decide +kernel
theorem dX7_scanWhole_85 : decode cX7_scanWhole 85 = .ok (.getfield 28, 3) := by decide +kernel
theorem dX7_scanWhole_88 : decode cX7_scanWhole 88 = .ok (.aload_n 0, 1) := by decide +kernel
theorem dX7_scanWhole_89 : decode cX7_scanWhole 89 = .ok (.getfield 34, 3) := by decide +kernel
theorem dX7_scanWhole_92 : decode cX7_scanWhole 92 = .ok (.isub, 1) := by decide +kernel
theorem dX7_scanWhole_93 : decode cX7_scanWhole 93 = .ok (.iconst 3, 1) := by decide +kernel
theorem dX7_scanWhole_94 : decode cX7_scanWhole 94 = .ok (.if_icmp .gt 7, 3) := by decide +kernel
theorem dX7_scanWhole_97 : decode cX7_scanWhole 97 = .ok (.iconst 2, 1) := by decide +kernel
theorem dX7_scanWhole_98 : decode cX7_scanWhole 98 = .ok (.goto 4, 3) := by decide +kernel
theorem dX7_scanWhole_101 : decode cX7_scanWhole 101 = .ok (.iconst 4, 1) := by decide +kernel
theorem dX7_scanWhole_102 : decode cX7_scanWhole 102 = .ok (.putfield 37, 3) := by decide +kernel
theorem dX7_scanWhole_105 : decode cX7_scanWhole 105 = .ok (.return_, 1) := by decide +kernel
theorem dX7_isText_0 : decode cX7_isText 0 = .ok (.aload_n 0, 1) := by decide +kernel
theorem dX7_isText_1 : decode cX7_isText 1 = .ok (.getfield 37, 3) := by decide +kernel
theorem dX7_isText_4 : decode cX7_isText 4 = .ok (.iconst 1, 1) := by decide +kernel
theorem dX7_isText_5 : decode cX7_isText 5 = .ok (.if_icmp .ne 19, 3) := by decide +kernel
theorem dX7_isText_8 : decode cX7_isText 8 = .ok (.aload_n 1, 1) := by decide +kernel
theorem dX7_isText_9 : decode cX7_isText 9 = .ok (.invokevirtual 54, 3) := by decide +kernel
theorem dX7_isText_12 : decode cX7_isText 12 = .ok (.aload_n 0, 1) := by decide +kernel
theorem dX7_isText_13 : decode cX7_isText 13 = .ok (.getfield 28, 3) := by decide +kernel
theorem dX7_isText_16 : decode cX7_isText 16 = .ok (.aload_n 0, 1) := by decide +kernel
theorem dX7_isText_17 : decode cX7_isText 17 = .ok (.getfield 34, 3) := by decide +kernel
theorem dX7_isText_20 : decode cX7_isText 20 = .ok (.isub, 1) := by decide +kernel
theorem dX7_isText_21 : decode cX7_isText 21 = .ok (.if_icmp .eq 5, 3) := by decide +kernel
theorem dX7_isText_24 : decode cX7_isText 24 = .ok (.iconst 0, 1) := by decide +kernel
theorem dX7_isText_25 : decode cX7_isText 25 = .ok (.ireturn, 1) := by decide +kernel
theorem dX7_isText_26 : decode cX7_isText 26 = .ok (.iconst 0, 1) := by decide +kernel
theorem dX7_isText_27 : decode cX7_isText 27 = .ok (.istore_n 2, 1) := by decide +kernel
theorem dX7_isText_28 : decode cX7_isText 28 = .ok (.iload_n 2, 1) := by decide +kernel
theorem dX7_isText_29 : decode cX7_isText 29 = .ok (.aload_n 1, 1) := by decide +kernel
theorem dX7_isText_30 : decode cX7_isText 30 = .ok (.invokevirtual 54, 3) := by decide +kernel
theorem dX7_isText_33 : decode cX7_isText 33 = .ok (.if_icmp .ge 43, 3) := by decide +kernel
theorem dX7_isText_36 : decode cX7_isText 36 = .ok (.aload_n 0, 1) := by decide +kernel
theorem dX7_isText_37 : decode cX7_isText 37 = .ok (.getfield 34, 3) := by decide +kernel
theorem dX7_isText_40 : decode cX7_isText 40 = .ok (.iload_n 2, 1) := by decide +kernel
theorem dX7_isText_41 : decode cX7_isText 41 = .ok (.iadd, 1) := by decide +kernel
theorem dX7_isText_42 : decode cX7_isText 42 = .ok (.aload_n 0, 1) := by decide +kernel
theorem dX7_isText_43 : decode cX7_isText 43 = .ok (.getfield 25, 3) := by decide +kernel
theorem dX7_isText_46 : decode cX7_isText 46 = .ok (.if_icmp .ge 30, 3) := by decide +kernel
theorem dX7_isText_49 : decode cX7_isText 49 = .ok (.aload_n 1, 1) := by decide +kernel
theorem dX7_isText_50 : decode cX7_isText 50 = .ok (.iload_n 2, 1) := by decide +kernel
theorem dX7_isText_51 : decode cX7_isText 51 = .ok (.invokevirtual 59, 3) := by decide +kernel
theorem dX7_isText_54 : decode cX7_isText 54 = .ok (.aload_n 0, 1) := by decide +kernel
theorem dX7_isText_55 : decode cX7_isText 55 = .ok (.getfield 9, 3) := by decide +kernel
theorem dX7_isText_58 : decode cX7_isText 58 = .ok (.aload_n 0, 1) := by decide +kernel
theorem dX7_isText_59 : decode cX7_isText 59 = .ok (.getfield 34, 3) := by decide +kernel
theorem dX7_isText_62 : decode cX7_isText 62 = .ok (.iload_n 2, 1) := by decide +kernel
theorem dX7_isText_63 : decode cX7_isText 63 = .ok (.iadd, 1) := by decide +kernel
theorem dX7_isText_64 : decode cX7_isText 64 = .ok (.baload, 1) := by decide +kernel
theorem dX7_isText_65 : decode cX7_isText 65 = .ok (.if_icmp .eq 5, 3) := by decide +kernel
theorem dX7_isText_68 : decode cX7_isText 68 = .ok (.iconst 0, 1) := by decide +kernel
theorem dX7_isText_69 : decode cX7_isText 69 = .ok (.ireturn, 1) := by decide +kernel
theorem dX7_isText_70 : decode cX7_isText 70 = .ok (.iinc 2 1, 3) := by decide +kernel
theorem dX7_isText_73 : decode cX7_isText 73 = .ok (.goto (-45), 3) := by decide +kernel
theorem dX7_isText_76 : decode cX7_isText 76 = .ok (.iconst 1, 1) := by decide +kernel
theorem dX7_isText_77 : decode cX7_isText 77 = .ok (.ireturn, 1) := by decide +kernel
theorem dX7_reserved_0 : decode cX7_reserved 0 = .ok (.iconst 0, 1) := by decide +kernel
theorem dX7_reserved_1 : decode cX7_reserved 1 = .ok (.istore_n 1, 1) := by decide +kernel
theorem dX7_reserved_2 : decode cX7_reserved 2 = .ok (.iload_n 1, 1) := by decide +kernel
theorem dX7_reserved_3 : decode cX7_reserved 3 = .ok (.getstatic 63, 3) := by decide +kernel
theorem dX7_reserved_6 : decode cX7_reserved 6 = .ok (.arraylength, 1) := by decide +kernel
theorem dX7_reserved_7 : decode cX7_reserved 7 = .ok (.if_icmp .ge 30, 3) := by decide +kernel
theorem dX7_reserved_10 : decode cX7_reserved 10 = .ok (.aload_n 0, 1) := by decide +kernel
theorem dX7_reserved_11 : decode cX7_reserved 11 = .ok (.getstatic 63, 3) := by decide +kernel
theorem dX7_reserved_14 : decode cX7_reserved 14 = .ok (.iload_n 1, 1) := by decide +kernel
theorem dX7_reserved_15 : decode cX7_reserved 15 = .ok (.aaload, 1) := by decide +kernel
theorem dX7_reserved_16 : decode cX7_reserved 16 = .ok (.getfield 67, 3) := by decide +kernel
theorem dX7_reserved_19 : decode cX7_reserved 19 = .ok (.invokevirtual 73, 3) := by decide +kernel
theorem dX7_reserved_22 : decode cX7_reserved 22 = .ok (.ifCond .eq 9, 3) := by decide +kernel
theorem dX7_reserved_25 : decode cX7_reserved 25 = .ok (.getstatic 63, 3) := by decide +kernel
theorem dX7_reserved_28 : decode cX7_reserved 28 = .ok (.iload_n 1, 1) := by decide +kernel
theorem dX7_reserved_29 : decode cX7_reserved 29 = .ok (.aaload, 1) := by decide +kernel
theorem dX7_reserved_30 : decode cX7_reserved 30 = .ok (.areturn, 1) := by decide +kernel
theorem dX7_reserved_31 : decode cX7_reserved 31 = .ok (.iinc 1 1, 3) := by decide +kernel
theorem dX7_reserved_34 : decode cX7_reserved 34 = .ok (.goto (-32), 3) := by decide +kernel
theorem dX7_reserved_37 : decode cX7_reserved 37 = .ok (.aconst_null, 1) := by decide +kernel
theorem dX7_reserved_38 : decode cX7_reserved 38 = .ok (.areturn, 1) := by decide +kernel
