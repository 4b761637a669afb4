theorem dX6_init_0 : decode cX6_init 0 = .ok (.aload_n 0, 1) := by decide +kernel
theorem dX6_init_1 : decode cX6_init 1 = .ok (.invokespecial 3, 3) := by decide +kernel
theorem dX6_init_4 : decode cX6_init 4 = .ok (.aload_n 0, 1) := by decide +kernel
theorem dX6_init_5 : decode cX6_init 5 = .ok (.bipush 6, 2) := by decide +kernel
theorem dX6_init_7 : decode cX6_init 7 = .ok (.newarray .int, 2) := by decide +kernel
theorem dX6_init_9 : decode cX6_init 9 = .ok (.putfield 9, 3) := by decide +kernel
theorem dX6_init_12 : decode cX6_init 12 = .ok (.aload_n 0, 1) := by decide +kernel
theorem dX6_init_13 : decode cX6_init 13 = .ok (.bipush 6, 2) := by decide +kernel
theorem dX6_init_15 : decode cX6_init 15 = .ok (.newarray .long, 2) := by decide +kernel
theorem dX6_init_17 : decode cX6_init 17 = .ok (.putfield 15, 3) := by decide +kernel
theorem dX6_init_20 : decode cX6_init 20 = .ok (.aload_n 0, 1) := by decide +kernel
theorem dX6_init_21 : decode cX6_init 21 = .ok (.bipush 48, 2) := by decide +kernel
theorem dX6_init_23 : decode cX6_init 23 = .ok (.newarray .int, 2) := by decide +kernel
theorem dX6_init_25 : decode cX6_init 25 = .ok (.putfield 19, 3) := by decide +kernel
theorem dX6_init_28 : decode cX6_init 28 = .ok (.aload_n 0, 1) := by decide +kernel
theorem dX6_init_29 : decode cX6_init 29 = .ok (.bipush 48, 2) := by decide +kernel
theorem dX6_init_31 : decode cX6_init 31 = .ok (.newarray .int, 2) := by decide +kernel
theorem dX6_init_33 : decode cX6_init 33 = .ok (.putfield 22, 3) := by decide +kernel
theorem dX6_init_36 : decode cX6_init 36 = .ok (.aload_n 0, 1) := by decide +kernel
theorem dX6_init_37 : decode cX6_init 37 = .ok (.bipush 48, 2) := by decide +kernel
theorem dX6_init_39 : decode cX6_init 39 = .ok (.newarray .int, 2) := by decide +kernel
theorem dX6_init_41 : decode cX6_init 41 = .ok (.putfield 25, 3) := by decide +kernel
theorem dX6_init_44 : decode cX6_init 44 = .ok (.aload_n 0, 1) := by decide +kernel
theorem dX6_init_45 : decode cX6_init 45 = .ok (.bipush 48, 2) := by decide +kernel
theorem dX6_init_47 : decode cX6_init 47 = .ok (.newarray .int, 2) := by decide +kernel
theorem dX6_init_49 : decode cX6_init 49 = .ok (.putfield 28, 3) := by decide +kernel
theorem dX6_init_52 : decode cX6_init 52 = .ok (.aload_n 0, 1) := by decide +kernel
theorem dX6_init_53 : decode cX6_init 53 = .ok (.bipush 48, 2) := by decide +kernel
theorem dX6_init_55 : decode cX6_init 55 = .ok (.newarray .int, 2) := by decide +kernel
theorem dX6_init_57 : decode cX6_init 57 = .ok (.putfield 31, 3) := by decide +kernel
theorem dX6_init_60 : decode cX6_init 60 = .ok (.aload_n 0, 1) := by decide +kernel
theorem dX6_init_61 : decode cX6_init 61 = .ok (.getfield 9, 3) := by decide +kernel
theorem dX6_init_64 : decode cX6_init 64 = .ok (.bipush (-2), 2) := by decide +kernel
theorem dX6_init_66 : decode cX6_init 66 = .ok (.invokestatic 34, 3) := by decide +kernel
theorem dX6_init_69 : decode cX6_init 69 = .ok (.aload_n 0, 1) := by decide +kernel
theorem dX6_init_70 : decode cX6_init 70 = .ok (.getfield 19, 3) := by decide +kernel
theorem dX6_init_73 : decode cX6_init 73 = .ok (.bipush (-2), 2) := by decide +kernel
theorem dX6_init_75 : decode cX6_init 75 = .ok (.invokestatic 34, 3) := by decide +kernel
theorem dX6_init_78 : decode cX6_init 78 = .ok (.return_, 1) := by decide +kernel
theorem dX6_startAnew_0 : decode cX6_startAnew 0 = .ok (.aload_n 0, 1) := by decide +kernel
theorem dX6_startAnew_1 : decode cX6_startAnew 1 = .ok (.iload_n 1, 1) := by decide +kernel
theorem dX6_startAnew_2 : decode cX6_startAnew 2 = .ok (.putfield 40, 3) := by decide +kernel
theorem dX6_startAnew_5 : decode cX6_startAnew 5 = .ok (.aload_n 0, 1) := by decide +kernel
theorem dX6_startAnew_6 : decode cX6_startAnew 6 = .ok (.iload_n 2, 1) := by decide +kernel
theorem dX6_startAnew_7 : decode cX6_startAnew 7 = .ok (.putfield 44, 3) := by decide +kernel
theorem dX6_startAnew_10 : decode cX6_startAnew 10 = .ok (.aload_n 0, 1) := by decide +kernel
theorem dX6_startAnew_11 : decode cX6_startAnew 11 = .ok (.iload 4, 2) := by decide +kernel
theorem dX6_startAnew_13 : decode cX6_startAnew 13 = .ok (.putfield 47, 3) := by decide +kernel
theorem dX6_startAnew_16 : decode cX6_startAnew 16 = .ok (.aload_n 0, 1) := by decide +kernel
theorem dX6_startAnew_17 : decode cX6_startAnew 17 = .ok (.iload_n 3, 1) := by decide +kernel
theorem dX6_startAnew_18 : decode cX6_startAnew 18 = .ok (.putfield 50, 3) := by decide +kernel
theorem dX6_startAnew_21 : decode cX6_startAnew 21 = .ok (.aload_n 0, 1) := by decide +kernel
theorem dX6_startAnew_22 : decode cX6_startAnew 22 = .ok (.iconst 0, 1) := by decide +kernel
theorem dX6_startAnew_23 : decode cX6_startAnew 23 = .ok (.putfield 53, 3) := by decide +kernel
theorem dX6_startAnew_26 : decode cX6_startAnew 26 = .ok (.aload_n 0, 1) := by decide +kernel
theorem dX6_startAnew_27 : decode cX6_startAnew 27 = .ok (.iconst 0, 1) := by decide +kernel
theorem dX6_startAnew_28 : decode cX6_startAnew 28 = .ok (.putfield 56, 3) := by decide +kernel
theorem dX6_startAnew_31 : decode cX6_startAnew 31 = .ok (.aload_n 0, 1) := by decide +kernel
theorem dX6_startAnew_32 : decode cX6_startAnew 32 = .ok (.lconst 0, 1) := by decide +kernel
theorem dX6_startAnew_33 : decode cX6_startAnew 33 = .ok (.putfield 59, 3) := by decide +kernel
theorem dX6_startAnew_36 : decode cX6_startAnew 36 = .ok (.aload_n 0, 1) := by decide +kernel
theorem dX6_startAnew_37 : decode cX6_startAnew 37 = .ok (.lconst 0, 1) := by decide +kernel
theorem dX6_startAnew_38 : decode cX6_startAnew 38 = .ok (.putfield 63, 3) := by decide +kernel
theorem dX6_startAnew_41 : decode cX6_startAnew 41 = .ok (.aload_n 0, 1) := by decide +kernel
theorem dX6_startAnew_42 : decode cX6_startAnew 42 = .ok (.lconst 0, 1) := by decide +kernel
theorem dX6_startAnew_43 : decode cX6_startAnew 43 = .ok (.putfield 66, 3) := by decide +kernel
theorem dX6_startAnew_46 : decode cX6_startAnew 46 = .ok (.aload_n 0, 1) := by decide +kernel
theorem dX6_startAnew_47 : decode cX6_startAnew 47 = .ok (.getfield 9, 3) := by decide +kernel
theorem dX6_startAnew_50 : decode cX6_startAnew 50 = .ok (.bipush (-2), 2) := by decide +kernel
theorem dX6_startAnew_52 : decode cX6_startAnew 52 = .ok (.invokestatic 34, 3) := by decide +kernel
theorem dX6_startAnew_55 : decode cX6_startAnew 55 = .ok (.aload_n 0, 1) := by decide +kernel
theorem dX6_startAnew_56 : decode cX6_startAnew 56 = .ok (.getfield 15, 3) := by decide +kernel
theorem dX6_startAnew_59 : decode cX6_startAnew 59 = .ok (.lconst 0, 1) := by decide +kernel
theorem dX6_startAnew_60 : decode cX6_startAnew 60 = .ok (.invokestatic 69, 3) := by decide +kernel
theorem dX6_startAnew_63 : decode cX6_startAnew 63 = .ok (.aload_n 0, 1) := by decide +kernel
theorem dX6_startAnew_64 : decode cX6_startAnew 64 = .ok (.getfield 19, 3) := by decide +kernel
theorem dX6_startAnew_67 : decode cX6_startAnew 67 = .ok (.bipush (-2), 2) := by decide +kernel
theorem dX6_startAnew_69 : decode cX6_startAnew 69 = .ok (.invokestatic 34, 3) := by decide +kernel
theorem dX6_startAnew_72 : decode cX6_startAnew 72 = .ok (.return_, 1) := by decide +kernel
theorem dX6_takeOver_0 : decode cX6_takeOver 0 = .ok (.aload_n 0, 1) := by decide +kernel
theorem dX6_takeOver_1 : decode cX6_takeOver 1 = .ok (.aload_n 1, 1) := by decide +kernel
theorem dX6_takeOver_2 : decode cX6_takeOver 2 = .ok (.getfield 40, 3) := by decide +kernel
theorem dX6_takeOver_5 : decode cX6_takeOver 5 = .ok (.putfield 40, 3) := by decide +kernel
theorem dX6_takeOver_8 : decode cX6_takeOver 8 = .ok (.aload_n 0, 1) := by decide +kernel
theorem dX6_takeOver_9 : decode cX6_takeOver 9 = .ok (.aload_n 1, 1) := by decide +kernel
theorem dX6_takeOver_10 : decode cX6_takeOver 10 = .ok (.getfield 44, 3) := by decide +kernel
theorem dX6_takeOver_13 : decode cX6_takeOver 13 = .ok (.putfield 44, 3) := by decide +kernel
theorem dX6_takeOver_16 : decode cX6_takeOver 16 = .ok (.aload_n 0, 1) := by decide +kernel
theorem dX6_takeOver_17 : decode cX6_takeOver 17 = .ok (.aload_n 1, 1) := by decide +kernel
theorem dX6_takeOver_18 : decode cX6_takeOver 18 = .ok (.getfield 47, 3) := by decide +kernel
theorem dX6_takeOver_21 : decode cX6_takeOver 21 = .ok (.putfield 47, 3) := by decide +kernel
theorem dX6_takeOver_24 : decode cX6_takeOver 24 = .ok (.aload_n 0, 1) := by decide +kernel
theorem dX6_takeOver_25 : decode cX6_takeOver 25 = .ok (.aload_n 1, 1) := by decide +kernel
theorem dX6_takeOver_26 : decode cX6_takeOver 26 = .ok (.getfield 50, 3) := by decide +kernel
theorem dX6_takeOver_29 : decode cX6_takeOver 29 = .ok (.putfield 50, 3) := by decide +kernel
theorem dX6_takeOver_32 : decode cX6_takeOver 32 = .ok (.aload_n 0, 1) := by decide +kernel
theorem dX6_takeOver_33 : decode cX6_takeOver 33 = .ok (.aload_n 1, 1) := by decide +kernel
theorem dX6_takeOver_34 : decode cX6_takeOver 34 = .ok (.getfield 53, 3) := by decide +kernel
theorem dX6_takeOver_37 : decode cX6_takeOver 37 = .ok (.putfield 53, 3) := by decide +kernel
theorem dX6_takeOver_40 : decode cX6_takeOver 40 = .ok (.aload_n 0, 1) := by decide +kernel
theorem dX6_takeOver_41 : decode cX6_takeOver 41 = .ok (.aload_n 1, 1) := by decide +kernel
theorem dX6_takeOver_42 : decode cX6_takeOver 42 = .ok (.getfield 56, 3) := by decide +kernel
theorem dX6_takeOver_45 : decode cX6_takeOver 45 = .ok (.putfield 56, 3) := by decide +kernel
theorem dX6_takeOver_48 : decode cX6_takeOver 48 = .ok (.aload_n 0, 1) := by decide +kernel
theorem dX6_takeOver_49 : decode cX6_takeOver 49 = .ok (.aload_n 1, 1) := by decide +kernel
theorem dX6_takeOver_50 : decode cX6_takeOver 50 = .ok (.getfield 59, 3) := by decide +kernel
theorem dX6_takeOver_53 : decode cX6_takeOver 53 = .ok (.putfield 59, 3) := by decide +kernel
theorem dX6_takeOver_56 : decode cX6_takeOver 56 = .ok (.aload_n 0, 1) := by decide +kernel
theorem dX6_takeOver_57 : decode cX6_takeOver 57 = .ok (.aload_n 1, 1) := by decide +kernel
theorem dX6_takeOver_58 : decode cX6_takeOver 58 = .ok (.getfield 63, 3) := by decide +kernel
theorem dX6_takeOver_61 : decode cX6_takeOver 61 = .ok (.putfield 63, 3) := by decide +kernel
theorem dX6_takeOver_64 : decode cX6_takeOver 64 = .ok (.aload_n 0, 1) := by decide +kernel
theorem dX6_takeOver_65 : decode cX6_takeOver 65 = .ok (.aload_n 1, 1) := by decide +kernel
theorem dX6_takeOver_66 : decode cX6_takeOver 66 = .ok (.getfield 66, 3) := by decide +kernel
theorem dX6_takeOver_69 : decode cX6_takeOver 69 = .ok (.putfield 66, 3) := by decide +kernel
theorem dX6_takeOver_72 : decode cX6_takeOver 72 = .ok (.aload_n 1, 1) := by decide +kernel
theorem dX6_takeOver_73 : decode cX6_takeOver 73 = .ok (.getfield 9, 3) := by decide +kernel
theorem dX6_takeOver_76 : decode cX6_takeOver 76 = .ok (.iconst 0, 1) := by decide +kernel
theorem dX6_takeOver_77 : decode cX6_takeOver 77 = .ok (.aload_n 0, 1) := by decide +kernel
theorem dX6_takeOver_78 : decode cX6_takeOver 78 = .ok (.getfield 9, 3) := by decide +kernel
theorem dX6_takeOver_81 : decode cX6_takeOver 81 = .ok (.iconst 0, 1) := by decide +kernel
theorem dX6_takeOver_82 : decode cX6_takeOver 82 = .ok (.bipush 6, 2) := by decide +kernel
theorem dX6_takeOver_84 : decode cX6_takeOver 84 = .ok (.invokestatic 72, 3) := by decide +kernel
theorem dX6_takeOver_87 : decode cX6_takeOver 87 = .ok (.aload_n 1, 1) := by decide +kernel
theorem dX6_takeOver_88 : decode cX6_takeOver 88 = .ok (.getfield 15, 3) := by decide +kernel
theorem dX6_takeOver_91 : decode cX6_takeOver 91 = .ok (.iconst 0, 1) := by decide +kernel
theorem dX6_takeOver_92 : decode cX6_takeOver 92 = .ok (.aload_n 0, 1) := by decide +kernel
theorem dX6_takeOver_93 : decode cX6_takeOver 93 = .ok (.getfield 15, 3) := by decide +kernel
theorem dX6_takeOver_96 : decode cX6_takeOver 96 = .ok (.iconst 0, 1) := by decide +kernel
theorem dX6_takeOver_97 : decode cX6_takeOver 97 = .ok (.bipush 6, 2) := by decide +kernel
theorem dX6_takeOver_99 : decode cX6_takeOver 99 = .ok (.invokestatic 72, 3) := by decide +kernel
theorem dX6_takeOver_102 : decode cX6_takeOver 102 = .ok (.aload_n 1, 1) := by decide +kernel
theorem dX6_takeOver_103 : decode cX6_takeOver 103 = .ok (.getfield 19, 3) := by decide +kernel
theorem dX6_takeOver_106 : decode cX6_takeOver 106 = .ok (.iconst 0, 1) := by decide +kernel
theorem dX6_takeOver_107 : decode cX6_takeOver 107 = .ok (.aload_n 0, 1) := by decide +kernel
theorem dX6_takeOver_108 : decode cX6_takeOver 108 = .ok (.getfield 19, 3) := by decide +kernel
theorem dX6_takeOver_111 : decode cX6_takeOver 111 = .ok (.iconst 0, 1) := by decide +kernel
theorem dX6_takeOver_112 : decode cX6_takeOver 112 = .ok (.bipush 48, 2) := by decide +kernel
theorem dX6_takeOver_114 : decode cX6_takeOver 114 = .ok (.invokestatic 72, 3) := by decide +kernel
theorem dX6_takeOver_117 : decode cX6_takeOver 117 = .ok (.aload_n 1, 1) := by decide +kernel
theorem dX6_takeOver_118 : decode cX6_takeOver 118 = .ok (.getfield 22, 3) := by decide +kernel
theorem dX6_takeOver_121 : decode cX6_takeOver 121 = .ok (.iconst 0, 1) := by decide +kernel
theorem dX6_takeOver_122 : decode cX6_takeOver 122 = .ok (.aload_n 0, 1) := by decide +kernel
theorem dX6_takeOver_123 : decode cX6_takeOver 123 = .ok (.getfield 22, 3) := by decide +kernel
theorem dX6_takeOver_126 : decode cX6_takeOver 126 = .ok (.iconst 0, 1) := by decide +kernel
theorem dX6_takeOver_127 : decode cX6_takeOver 127 = .ok (.bipush 48, 2) := by decide +kernel
theorem dX6_takeOver_129 : decode cX6_takeOver 129 = .ok (.invokestatic 72, 3) := by decide +kernel
theorem dX6_takeOver_132 : decode cX6_takeOver 132 = .ok (.aload_n 1, 1) := by decide +kernel
theorem dX6_takeOver_133 : decode cX6_takeOver 133 = .ok (.getfield 25, 3) := by decide +kernel
theorem dX6_takeOver_136 : decode cX6_takeOver 136 = .ok (.iconst 0, 1) := by decide +kernel
theorem dX6_takeOver_137 : decode cX6_takeOver 137 = .ok (.aload_n 0, 1) := by decide +kernel
theorem dX6_takeOver_138 : decode cX6_takeOver 138 = .ok (.getfield 25, 3) := by decide +kernel
theorem dX6_takeOver_141 : decode cX6_takeOver 141 = .ok (.iconst 0, 1) := by decide +kernel
theorem dX6_takeOver_142 : decode cX6_takeOver 142 = .ok (.bipush 48, 2) := by decide +kernel
theorem dX6_takeOver_144 : decode cX6_takeOver 144 = .ok (.invokestatic 72, 3) := by decide +kernel
theorem dX6_takeOver_147 : decode cX6_takeOver 147 = .ok (.aload_n 1, 1) := by decide +kernel
theorem dX6_takeOver_148 : decode cX6_takeOver 148 = .ok (.getfield 28, 3) := by decide +kernel
theorem dX6_takeOver_151 : decode cX6_takeOver 151 = .ok (.iconst 0, 1) := by decide +kernel
theorem dX6_takeOver_152 : decode cX6_takeOver 152 = .ok (.aload_n 0, 1) := by decide +kernel
theorem dX6_takeOver_153 : decode cX6_takeOver 153 = .ok (.getfield 28, 3) := by decide +kernel
theorem dX6_takeOver_156 : decode cX6_takeOver 156 = .ok (.iconst 0, 1) := by decide +kernel
theorem dX6_takeOver_157 : decode cX6_takeOver 157 = .ok (.bipush 48, 2) := by decide +kernel
theorem dX6_takeOver_159 : decode cX6_takeOver 159 = .ok (.invokestatic 72, 3) := by decide +kernel
theorem dX6_takeOver_162 : decode cX6_takeOver 162 = .ok (.aload_n 1, 1) := by decide +kernel
theorem dX6_takeOver_163 : decode cX6_takeOver 163 = .ok (.getfield 31, 3) := by decide +kernel
theorem dX6_takeOver_166 : decode cX6_takeOver 166 = .ok (.iconst 0, 1) := by decide +kernel
theorem dX6_takeOver_167 : decode cX6_takeOver 167 = .ok (.aload_n 0, 1) := by decide +kernel
theorem dX6_takeOver_168 : decode cX6_takeOver 168 = .ok (.getfield 31, 3) := by decide +kernel
theorem dX6_takeOver_171 : decode cX6_takeOver 171 = .ok (.iconst 0, 1) := by decide +kernel
theorem dX6_takeOver_172 : decode cX6_takeOver 172 = .ok (.bipush 48, 2) := by decide +kernel
theorem dX6_takeOver_174 : decode cX6_takeOver 174 = .ok (.invokestatic 72, 3) := by decide +kernel
theorem dX6_takeOver_177 : decode cX6_takeOver 177 = .ok (.return_, 1) := by decide +kernel
theorem dX6_isStamp_0 : decode cX6_isStamp 0 = .ok (.iload_n 1, 1) := by decide +kernel
theorem dX6_isStamp_1 : decode cX6_isStamp 1 = .ok (.ifCond .lt 15, 3) := by decide +kernel
theorem dX6_isStamp_4 : decode cX6_isStamp 4 = .ok (.iload_n 1, 1) := by decide +kernel
theorem dX6_isStamp_5 : decode cX6_isStamp 5 = .ok (.aload_n 0, 1) := by decide +kernel
theorem dX6_isStamp_6 : decode cX6_isStamp 6 = .ok (.getfield 40, 3) := by decide +kernel
theorem dX6_isStamp_9 : decode cX6_isStamp 9 = .ok (.if_icmp .ge 7, 3) := by decide +kernel
theorem dX6_isStamp_12 : decode cX6_isStamp 12 = .ok (.iconst 1, 1) := by decide +kernel
theorem dX6_isStamp_13 : decode cX6_isStamp 13 = .ok (.goto 4, 3) := by decide +kernel
theorem dX6_isStamp_16 : decode cX6_isStamp 16 = .ok (.iconst 0, 1) := by decide +kernel
theorem dX6_isStamp_17 : decode cX6_isStamp 17 = .ok (.ireturn, 1) := by decide +kernel
theorem dX6_isRow_0 : decode cX6_isRow 0 = .ok (.iload_n 1, 1) := by decide +kernel
theorem dX6_isRow_1 : decode cX6_isRow 1 = .ok (.ifCond .lt 15, 3) := by decide +kernel
theorem dX6_isRow_4 : decode cX6_isRow 4 = .ok (.iload_n 1, 1) := by decide +kernel
theorem dX6_isRow_5 : decode cX6_isRow 5 = .ok (.aload_n 0, 1) := by decide +kernel
theorem dX6_isRow_6 : decode cX6_isRow 6 = .ok (.getfield 44, 3) := by decide +kernel
theorem dX6_isRow_9 : decode cX6_isRow 9 = .ok (.if_icmp .ge 7, 3) := by decide +kernel
theorem dX6_isRow_12 : decode cX6_isRow 12 = .ok (.iconst 1, 1) := by decide +kernel
theorem dX6_isRow_13 : decode cX6_isRow 13 = .ok (.goto 4, 3) := by decide +kernel
theorem dX6_isRow_16 : decode cX6_isRow 16 = .ok (.iconst 0, 1) := by decide +kernel
theorem dX6_isRow_17 : decode cX6_isRow 17 = .ok (.ireturn, 1) := by decide +kernel
theorem dX6_isVersion_0 : decode cX6_isVersion 0 = .ok (.iload_n 1, 1) := by decide +kernel
theorem dX6_isVersion_1 : decode cX6_isVersion 1 = .ok (.ifCond .lt 24, 3) := by decide +kernel
theorem dX6_isVersion_4 : decode cX6_isVersion 4 = .ok (.iload_n 1, 1) := by decide +kernel
theorem dX6_isVersion_5 : decode cX6_isVersion 5 = .ok (.bipush 48, 2) := by decide +kernel
theorem dX6_isVersion_7 : decode cX6_isVersion 7 = .ok (.if_icmp .ge 18, 3) := by decide +kernel
theorem dX6_isVersion_10 : decode cX6_isVersion 10 = .ok (.aload_n 0, 1) := by decide +kernel
theorem dX6_isVersion_11 : decode cX6_isVersion 11 = .ok (.getfield 19, 3) := by decide +kernel
theorem dX6_isVersion_14 : decode cX6_isVersion 14 = .ok (.iload_n 1, 1) := by decide +kernel
theorem dX6_isVersion_15 : decode cX6_isVersion 15 = .ok (.iaload, 1) := by decide +kernel
theorem dX6_isVersion_16 : decode cX6_isVersion 16 = .ok (.bipush (-2), 2) := by decide +kernel
theorem dX6_isVersion_18 : decode cX6_isVersion 18 = .ok (.if_icmp .eq 7, 3) := by decide +kernel
theorem dX6_isVersion_21 : decode cX6_isVersion 21 = .ok (.iconst 1, 1) := by decide +kernel
theorem dX6_isVersion_22 : decode cX6_isVersion 22 = .ok (.goto 4, 3) := by decide +kernel
theorem dX6_isVersion_25 : decode cX6_isVersion 25 = .ok (.iconst 0, 1) := by decide +kernel
theorem dX6_isVersion_26 : decode cX6_isVersion 26 = .ok (.ireturn, 1) := by decide +kernel
theorem dX6_runs_0 : decode cX6_runs 0 = .ok (.iload_n 1, 1) := by decide +kernel
theorem dX6_runs_1 : decode cX6_runs 1 = .ok (.ifCond .lt 24, 3) := by decide +kernel
theorem dX6_runs_4 : decode cX6_runs 4 = .ok (.iload_n 1, 1) := by decide +kernel
theorem dX6_runs_5 : decode cX6_runs 5 = .ok (.bipush 6, 2) := by decide +kernel
theorem dX6_runs_7 : decode cX6_runs 7 = .ok (.if_icmp .ge 18, 3) := by decide +kernel
theorem dX6_runs_10 : decode cX6_runs 10 = .ok (.aload_n 0, 1) := by decide +kernel
theorem dX6_runs_11 : decode cX6_runs 11 = .ok (.getfield 9, 3) := by decide +kernel
theorem dX6_runs_14 : decode cX6_runs 14 = .ok (.iload_n 1, 1) := by decide +kernel
theorem dX6_runs_15 : decode cX6_runs 15 = .ok (.iaload, 1) := by decide +kernel
theorem dX6_runs_16 : decode cX6_runs 16 = .ok (.bipush (-2), 2) := by decide +kernel
theorem dX6_runs_18 : decode cX6_runs 18 = .ok (.if_icmp .eq 7, 3) := by decide +kernel
theorem dX6_runs_21 : decode cX6_runs 21 = .ok (.iconst 1, 1) := by decide +kernel
theorem dX6_runs_22 : decode cX6_runs 22 = .ok (.goto 4, 3) := by decide +kernel
theorem dX6_runs_25 : decode cX6_runs 25 = .ok (.iconst 0, 1) := by decide +kernel
theorem dX6_runs_26 : decode cX6_runs 26 = .ok (.ireturn, 1) := by decide +kernel
theorem dX6_bitOf_0 : decode cX6_bitOf 0 = .ok (.iload_n 0, 1) := by decide +kernel
theorem dX6_bitOf_1 : decode cX6_bitOf 1 = .ok (.ifCond .ge 7, 3) := by decide +kernel
theorem dX6_bitOf_4 : decode cX6_bitOf 4 = .ok (.lconst 0, 1) := by decide +kernel
theorem dX6_bitOf_5 : decode cX6_bitOf 5 = .ok (.goto 6, 3) := by decide +kernel
theorem dX6_bitOf_8 : decode cX6_bitOf 8 = .ok (.lconst 1, 1) := by decide +kernel
theorem dX6_bitOf_9 : decode cX6_bitOf 9 = .ok (.iload_n 0, 1) := by decide +kernel
theorem dX6_bitOf_10 : decode cX6_bitOf 10 = .ok (.lshl, 1) := by decide +kernel
theorem dX6_bitOf_11 : decode cX6_bitOf 11 = .ok (.lreturn, 1) := by decide +kernel
theorem dX6_holds_0 : decode cX6_holds 0 = .ok (.iload_n 2, 1) := by decide +kernel
theorem dX6_holds_1 : decode cX6_holds 1 = .ok (.ifCond .lt 17, 3) := by decide +kernel
theorem dX6_holds_4 : decode cX6_holds 4 = .ok (.lload_n 0, 1) := by decide +kernel
theorem dX6_holds_5 : decode cX6_holds 5 = .ok (.iload_n 2, 1) := by decide +kernel
theorem dX6_holds_6 : decode cX6_holds 6 = .ok (.lushr, 1) := by decide +kernel
theorem dX6_holds_7 : decode cX6_holds 7 = .ok (.lconst 1, 1) := by decide +kernel
theorem dX6_holds_8 : decode cX6_holds 8 = .ok (.land, 1) := by decide +kernel
theorem dX6_holds_9 : decode cX6_holds 9 = .ok (.lconst 0, 1) := by decide +kernel
theorem dX6_holds_10 : decode cX6_holds 10 = .ok (.lcmp, 1) := by decide +kernel
theorem dX6_holds_11 : decode cX6_holds 11 = .ok (.ifCond .eq 7, 3) := by decide +kernel
theorem dX6_holds_14 : decode cX6_holds 14 = .ok (.iconst 1, 1) := by decide +kernel
theorem dX6_holds_15 : decode cX6_holds 15 = .ok (.goto 4, 3) := by decide +kernel
theorem dX6_holds_18 : decode cX6_holds 18 = .ok (.iconst 0, 1) := by decide +kernel
theorem dX6_holds_19 : decode cX6_holds 19 = .ok (.ireturn, 1) := by decide +kernel
theorem dX6_ageOf_0 : decode cX6_ageOf 0 = .ok (.iload_n 1, 1) := by decide +kernel
theorem dX6_ageOf_1 : decode cX6_ageOf 1 = .ok (.aload_n 0, 1) := by decide +kernel
theorem dX6_ageOf_2 : decode cX6_ageOf 2 = .ok (.getfield 50, 3) := by decide +kernel
theorem dX6_ageOf_5 : decode cX6_ageOf 5 = .ok (.if_icmp .gt 12, 3) := by decide +kernel
theorem dX6_ageOf_8 : decode cX6_ageOf 8 = .ok (.aload_n 0, 1) := by decide +kernel
theorem dX6_ageOf_9 : decode cX6_ageOf 9 = .ok (.getfield 50, 3) := by decide +kernel
theorem dX6_ageOf_12 : decode cX6_ageOf 12 = .ok (.iload_n 1, 1) := by decide +kernel
theorem dX6_ageOf_13 : decode cX6_ageOf 13 = .ok (.isub, 1) := by decide +kernel
theorem dX6_ageOf_14 : decode cX6_ageOf 14 = .ok (.goto 14, 3) := by decide +kernel
theorem dX6_ageOf_17 : decode cX6_ageOf 17 = .ok (.aload_n 0, 1) := by decide +kernel
theorem dX6_ageOf_18 : decode cX6_ageOf 18 = .ok (.getfield 50, 3) := by decide +kernel
theorem dX6_ageOf_21 : decode cX6_ageOf 21 = .ok (.iload_n 1, 1) := by decide +kernel
theorem dX6_ageOf_22 : decode cX6_ageOf 22 = .ok (.isub, 1) := by decide +kernel
theorem dX6_ageOf_23 : decode cX6_ageOf 23 = .ok (.aload_n 0, 1) := by decide +kernel
theorem dX6_ageOf_24 : decode cX6_ageOf 24 = .ok (.getfield 40, 3) := by decide +kernel
theorem dX6_ageOf_27 : decode cX6_ageOf 27 = .ok (.iadd, 1) := by decide +kernel
theorem dX6_ageOf_28 : decode cX6_ageOf 28 = .ok (.ireturn, 1) := by decide +kernel
theorem dX6_olderThan_0 : decode cX6_olderThan 0 = .ok (.lconst 0, 1) := by decide +kernel
theorem dX6_olderThan_1 : decode cX6_olderThan 1 = .ok (.lstore_n 2, 1) := by decide +kernel
theorem dX6_olderThan_2 : decode cX6_olderThan 2 = .ok (.iload_n 1, 1) := by decide +kernel
theorem dX6_olderThan_3 : decode cX6_olderThan 3 = .ok (.istore 4, 2) := by decide +kernel
theorem dX6_olderThan_5 : decode cX6_olderThan 5 = .ok (.iconst 1, 1) := by decide +kernel
theorem dX6_olderThan_6 : decode cX6_olderThan 6 = .ok (.istore 5, 2) := by decide +kernel
theorem dX6_olderThan_8 : decode cX6_olderThan 8 = .ok (.iload 5, 2) := by decide +kernel
theorem dX6_olderThan_10 : decode cX6_olderThan 10 = .ok (.aload_n 0, 1) := by decide +kernel
theorem dX6_olderThan_11 : decode cX6_olderThan 11 = .ok (.getfield 40, 3) := by decide +kernel
theorem dX6_olderThan_14 : decode cX6_olderThan 14 = .ok (.iconst 2, 1) := by decide +kernel
theorem dX6_olderThan_15 : decode cX6_olderThan 15 = .ok (.idiv, 1) := by decide +kernel
theorem dX6_olderThan_16 : decode cX6_olderThan 16 = .ok (.if_icmp .gt 36, 3) := by decide +kernel
theorem dX6_olderThan_19 : decode cX6_olderThan 19 = .ok (.iload 4, 2) := by decide +kernel
theorem dX6_olderThan_21 : decode cX6_olderThan 21 = .ok (.ifCond .le 10, 3) := by decide +kernel
theorem dX6_olderThan_24 : decode cX6_olderThan 24 = .ok (.iload 4, 2) := by decide +kernel
theorem dX6_olderThan_26 : decode cX6_olderThan 26 = .ok (.iconst 1, 1) := by decide +kernel
theorem dX6_olderThan_27 : decode cX6_olderThan 27 = .ok (.isub, 1) := by decide +kernel
theorem dX6_olderThan_28 : decode cX6_olderThan 28 = .ok (.goto 9, 3) := by decide +kernel
theorem dX6_olderThan_31 : decode cX6_olderThan 31 = .ok (.aload_n 0, 1) := by decide +kernel
theorem dX6_olderThan_32 : decode cX6_olderThan 32 = .ok (.getfield 40, 3) := by decide +kernel
theorem dX6_olderThan_35 : decode cX6_olderThan 35 = .ok (.iconst 1, 1) := by decide +kernel
theorem dX6_olderThan_36 : decode cX6_olderThan 36 = .ok (.isub, 1) := by decide +kernel
theorem dX6_olderThan_37 : decode cX6_olderThan 37 = .ok (.istore 4, 2) := by decide +kernel
theorem dX6_olderThan_39 : decode cX6_olderThan 39 = .ok (.lload_n 2, 1) := by decide +kernel
theorem dX6_olderThan_40 : decode cX6_olderThan 40 = .ok (.lconst 1, 1) := by decide +kernel
theorem dX6_olderThan_41 : decode cX6_olderThan 41 = .ok (.iload 4, 2) := by decide +kernel
theorem dX6_olderThan_43 : decode cX6_olderThan 43 = .ok (.lshl, 1) := by decide +kernel
theorem dX6_olderThan_44 : decode cX6_olderThan 44 = .ok (.lor, 1) := by decide +kernel
theorem dX6_olderThan_45 : decode cX6_olderThan 45 = .ok (.lstore_n 2, 1) := by decide +kernel
theorem dX6_olderThan_46 : decode cX6_olderThan 46 = .ok (.iinc 5 1, 3) := by decide +kernel
theorem dX6_olderThan_49 : decode cX6_olderThan 49 = .ok (.goto (-41), 3) := by decide +kernel
theorem dX6_olderThan_52 : decode cX6_olderThan 52 = .ok (.lload_n 2, 1) := by decide +kernel
theorem dX6_olderThan_53 : decode cX6_olderThan 53 = .ok (.lreturn, 1) := by decide +kernel
theorem dX6_greatestAge_0 : decode cX6_greatestAge 0 = .ok (.bipush (-2), 2) := by decide +kernel
theorem dX6_greatestAge_2 : decode cX6_greatestAge 2 = .ok (.istore_n 3, 1) := by decide +kernel
theorem dX6_greatestAge_3 : decode cX6_greatestAge 3 = .ok (.iconst 0, 1) := by decide +kernel
theorem dX6_greatestAge_4 : decode cX6_greatestAge 4 = .ok (.istore 4, 2) := by decide +kernel
theorem dX6_greatestAge_6 : decode cX6_greatestAge 6 = .ok (.iload 4, 2) := by decide +kernel
theorem dX6_greatestAge_8 : decode cX6_greatestAge 8 = .ok (.aload_n 0, 1) := by decide +kernel
theorem dX6_greatestAge_9 : decode cX6_greatestAge 9 = .ok (.getfield 40, 3) := by decide +kernel
theorem dX6_greatestAge_12 : decode cX6_greatestAge 12 = .ok (.if_icmp .ge 29, 3) := by decide +kernel
theorem dX6_greatestAge_15 : decode cX6_greatestAge 15 = .ok (.lload_n 1, 1) := by decide +kernel
theorem dX6_greatestAge_16 : decode cX6_greatestAge 16 = .ok (.iload 4, 2) := by decide +kernel
theorem dX6_greatestAge_18 : decode cX6_greatestAge 18 = .ok (.invokestatic 78, 3) := by decide +kernel
theorem dX6_greatestAge_21 : decode cX6_greatestAge 21 = .ok (.ifCond .eq 14, 3) := by decide +kernel
theorem dX6_greatestAge_24 : decode cX6_greatestAge 24 = .ok (.iload_n 3, 1) := by decide +kernel
theorem dX6_greatestAge_25 : decode cX6_greatestAge 25 = .ok (.aload_n 0, 1) := by decide +kernel
theorem dX6_greatestAge_26 : decode cX6_greatestAge 26 = .ok (.iload 4, 2) := by decide +kernel
theorem dX6_greatestAge_28 : decode cX6_greatestAge 28 = .ok (.invokevirtual 82, 3) := by decide +kernel
theorem dX6_greatestAge_31 : decode cX6_greatestAge 31 = .ok (.invokestatic 86, 3) := by decide +kernel
theorem dX6_greatestAge_34 : decode cX6_greatestAge 34 = .ok (.istore_n 3, 1) := by decide +kernel
theorem dX6_greatestAge_35 : decode cX6_greatestAge 35 = .ok (.iinc 4 1, 3) := by decide +kernel
theorem dX6_greatestAge_38 : decode cX6_greatestAge 38 = .ok (.goto (-32), 3) := by decide +kernel
theorem dX6_greatestAge_41 : decode cX6_greatestAge 41 = .ok (.iload_n 3, 1) := by decide +kernel
theorem dX6_greatestAge_42 : decode cX6_greatestAge 42 = .ok (.ireturn, 1) := by decide +kernel
theorem dX6_heldWithout_0 : decode cX6_heldWithout 0 = .ok (.lconst 0, 1) := by decide +kernel
theorem dX6_heldWithout_1 : decode cX6_heldWithout 1 = .ok (.lstore_n 2, 1) := by decide +kernel
theorem dX6_heldWithout_2 : decode cX6_heldWithout 2 = .ok (.iconst 0, 1) := by decide +kernel
theorem dX6_heldWithout_3 : decode cX6_heldWithout 3 = .ok (.istore 4, 2) := by decide +kernel
theorem dX6_heldWithout_5 : decode cX6_heldWithout 5 = .ok (.iload 4, 2) := by decide +kernel
theorem dX6_heldWithout_7 : decode cX6_heldWithout 7 = .ok (.bipush 6, 2) := by decide +kernel
theorem dX6_heldWithout_9 : decode cX6_heldWithout 9 = .ok (.if_icmp .ge 25, 3) := by decide +kernel
theorem dX6_heldWithout_12 : decode cX6_heldWithout 12 = .ok (.iload 4, 2) := by decide +kernel
theorem dX6_heldWithout_14 : decode cX6_heldWithout 14 = .ok (.iload_n 1, 1) := by decide +kernel
theorem dX6_heldWithout_15 : decode cX6_heldWithout 15 = .ok (.if_icmp .eq 13, 3) := by decide +kernel
theorem dX6_heldWithout_18 : decode cX6_heldWithout 18 = .ok (.lload_n 2, 1) := by decide +kernel
theorem dX6_heldWithout_19 : decode cX6_heldWithout 19 = .ok (.aload_n 0, 1) := by decide +kernel
theorem dX6_heldWithout_20 : decode cX6_heldWithout 20 = .ok (.getfield 15, 3) := by decide +kernel
theorem dX6_heldWithout_23 : decode cX6_heldWithout 23 = .ok (.iload 4, 2) := by decide +kernel
theorem dX6_heldWithout_25 : decode cX6_heldWithout 25 = .ok (.laload, 1) := by decide +kernel
theorem dX6_heldWithout_26 : decode cX6_heldWithout 26 = .ok (.lor, 1) := by decide +kernel
theorem dX6_heldWithout_27 : decode cX6_heldWithout 27 = .ok (.lstore_n 2, 1) := by decide +kernel
theorem dX6_heldWithout_28 : decode cX6_heldWithout 28 = .ok (.iinc 4 1, 3) := by decide +kernel
theorem dX6_heldWithout_31 : decode cX6_heldWithout 31 = .ok (.goto (-26), 3) := by decide +kernel
theorem dX6_heldWithout_34 : decode cX6_heldWithout 34 = .ok (.lload_n 2, 1) := by decide +kernel
theorem dX6_heldWithout_35 : decode cX6_heldWithout 35 = .ok (.lreturn, 1) := by decide +kernel
theorem dX6_horizonWithout_0 : decode cX6_horizonWithout 0 = .ok (.aload_n 0, 1) := by decide +kernel
theorem dX6_horizonWithout_1 : decode cX6_horizonWithout 1 = .ok (.iload_n 1, 1) := by decide +kernel
theorem dX6_horizonWithout_2 : decode cX6_horizonWithout 2 = .ok (.invokevirtual 92, 3) := by decide +kernel
theorem dX6_horizonWithout_5 : decode cX6_horizonWithout 5 = .ok (.lstore_n 2, 1) := by decide +kernel
theorem dX6_horizonWithout_6 : decode cX6_horizonWithout 6 = .ok (.aload_n 0, 1) := by decide +kernel
theorem dX6_horizonWithout_7 : decode cX6_horizonWithout 7 = .ok (.getfield 50, 3) := by decide +kernel
theorem dX6_horizonWithout_10 : decode cX6_horizonWithout 10 = .ok (.istore 4, 2) := by decide +kernel
theorem dX6_horizonWithout_12 : decode cX6_horizonWithout 12 = .ok (.iconst 0, 1) := by decide +kernel
theorem dX6_horizonWithout_13 : decode cX6_horizonWithout 13 = .ok (.istore 5, 2) := by decide +kernel
theorem dX6_horizonWithout_15 : decode cX6_horizonWithout 15 = .ok (.iload 5, 2) := by decide +kernel
theorem dX6_horizonWithout_17 : decode cX6_horizonWithout 17 = .ok (.aload_n 0, 1) := by decide +kernel
theorem dX6_horizonWithout_18 : decode cX6_horizonWithout 18 = .ok (.getfield 40, 3) := by decide +kernel
theorem dX6_horizonWithout_21 : decode cX6_horizonWithout 21 = .ok (.if_icmp .ge 37, 3) := by decide +kernel
theorem dX6_horizonWithout_24 : decode cX6_horizonWithout 24 = .ok (.lload_n 2, 1) := by decide +kernel
theorem dX6_horizonWithout_25 : decode cX6_horizonWithout 25 = .ok (.iload 5, 2) := by decide +kernel
theorem dX6_horizonWithout_27 : decode cX6_horizonWithout 27 = .ok (.invokestatic 78, 3) := by decide +kernel
theorem dX6_horizonWithout_30 : decode cX6_horizonWithout 30 = .ok (.ifCond .eq 22, 3) := by decide +kernel
theorem dX6_horizonWithout_33 : decode cX6_horizonWithout 33 = .ok (.aload_n 0, 1) := by decide +kernel
theorem dX6_horizonWithout_34 : decode cX6_horizonWithout 34 = .ok (.iload 5, 2) := by decide +kernel
theorem dX6_horizonWithout_36 : decode cX6_horizonWithout 36 = .ok (.invokevirtual 82, 3) := by decide +kernel
theorem dX6_horizonWithout_39 : decode cX6_horizonWithout 39 = .ok (.aload_n 0, 1) := by decide +kernel
theorem dX6_horizonWithout_40 : decode cX6_horizonWithout 40 = .ok (.iload 4, 2) := by decide +kernel
theorem dX6_horizonWithout_42 : decode cX6_horizonWithout 42 = .ok (.invokevirtual 82, 3) := by decide +kernel
theorem dX6_horizonWithout_45 : decode cX6_horizonWithout 45 = .ok (.if_icmp .le 7, 3) := by decide +kernel
theorem dX6_horizonWithout_48 : decode cX6_horizonWithout 48 = .ok (.iload 5, 2) := by decide +kernel
theorem dX6_horizonWithout_50 : decode cX6_horizonWithout 50 = .ok (.istore 4, 2) := by decide +kernel
theorem dX6_horizonWithout_52 : decode cX6_horizonWithout 52 = .ok (.iinc 5 1, 3) := by decide +kernel
theorem dX6_horizonWithout_55 : decode cX6_horizonWithout 55 = .ok (.goto (-40), 3) := by decide +kernel
theorem dX6_horizonWithout_58 : decode cX6_horizonWithout 58 = .ok (.iload 4, 2) := by decide +kernel
theorem dX6_horizonWithout_60 : decode cX6_horizonWithout 60 = .ok (.ireturn, 1) := by decide +kernel
theorem dX6_settledWithout_0 : decode cX6_settledWithout 0 = .ok (.aload_n 0, 1) := by decide +kernel
theorem dX6_settledWithout_1 : decode cX6_settledWithout 1 = .ok (.getfield 63, 3) := by decide +kernel
theorem dX6_settledWithout_4 : decode cX6_settledWithout 4 = .ok (.aload_n 0, 1) := by decide +kernel
theorem dX6_settledWithout_5 : decode cX6_settledWithout 5 = .ok (.aload_n 0, 1) := by decide +kernel
theorem dX6_settledWithout_6 : decode cX6_settledWithout 6 = .ok (.iload_n 1, 1) := by decide +kernel
theorem dX6_settledWithout_7 : decode cX6_settledWithout 7 = .ok (.invokevirtual 96, 3) := by decide +kernel
theorem dX6_settledWithout_10 : decode cX6_settledWithout 10 = .ok (.invokevirtual 99, 3) := by decide +kernel
theorem dX6_settledWithout_13 : decode cX6_settledWithout 13 = .ok (.land, 1) := by decide +kernel
theorem dX6_settledWithout_14 : decode cX6_settledWithout 14 = .ok (.lreturn, 1) := by decide +kernel
theorem dX6_inUse_0 : decode cX6_inUse 0 = .ok (.aload_n 0, 1) := by decide +kernel
theorem dX6_inUse_1 : decode cX6_inUse 1 = .ok (.bipush (-2), 2) := by decide +kernel
theorem dX6_inUse_3 : decode cX6_inUse 3 = .ok (.invokevirtual 92, 3) := by decide +kernel
theorem dX6_inUse_6 : decode cX6_inUse 6 = .ok (.lstore_n 1, 1) := by decide +kernel
theorem dX6_inUse_7 : decode cX6_inUse 7 = .ok (.iconst 0, 1) := by decide +kernel
theorem dX6_inUse_8 : decode cX6_inUse 8 = .ok (.istore_n 3, 1) := by decide +kernel
theorem dX6_inUse_9 : decode cX6_inUse 9 = .ok (.iload_n 3, 1) := by decide +kernel
theorem dX6_inUse_10 : decode cX6_inUse 10 = .ok (.bipush 48, 2) := by decide +kernel
theorem dX6_inUse_12 : decode cX6_inUse 12 = .ok (.if_icmp .ge 39, 3) := by decide +kernel
theorem dX6_inUse_15 : decode cX6_inUse 15 = .ok (.aload_n 0, 1) := by decide +kernel
theorem dX6_inUse_16 : decode cX6_inUse 16 = .ok (.iload_n 3, 1) := by decide +kernel
theorem dX6_inUse_17 : decode cX6_inUse 17 = .ok (.invokevirtual 102, 3) := by decide +kernel
theorem dX6_inUse_20 : decode cX6_inUse 20 = .ok (.ifCond .eq 25, 3) := by decide +kernel
theorem dX6_inUse_23 : decode cX6_inUse 23 = .ok (.lload_n 1, 1) := by decide +kernel
theorem dX6_inUse_24 : decode cX6_inUse 24 = .ok (.aload_n 0, 1) := by decide +kernel
theorem dX6_inUse_25 : decode cX6_inUse 25 = .ok (.getfield 25, 3) := by decide +kernel
theorem dX6_inUse_28 : decode cX6_inUse 28 = .ok (.iload_n 3, 1) := by decide +kernel
theorem dX6_inUse_29 : decode cX6_inUse 29 = .ok (.iaload, 1) := by decide +kernel
theorem dX6_inUse_30 : decode cX6_inUse 30 = .ok (.invokestatic 106, 3) := by decide +kernel
theorem dX6_inUse_33 : decode cX6_inUse 33 = .ok (.aload_n 0, 1) := by decide +kernel
theorem dX6_inUse_34 : decode cX6_inUse 34 = .ok (.getfield 28, 3) := by decide +kernel
theorem dX6_inUse_37 : decode cX6_inUse 37 = .ok (.iload_n 3, 1) := by decide +kernel
theorem dX6_inUse_38 : decode cX6_inUse 38 = .ok (.iaload, 1) := by decide +kernel
theorem dX6_inUse_39 : decode cX6_inUse 39 = .ok (.invokestatic 106, 3) := by decide +kernel
theorem dX6_inUse_42 : decode cX6_inUse 42 = .ok (.lor, 1) := by decide +kernel
theorem dX6_inUse_43 : decode cX6_inUse 43 = .ok (.lor, 1) := by decide +kernel
theorem dX6_inUse_44 : decode cX6_inUse 44 = .ok (.lstore_n 1, 1) := by decide +kernel
theorem dX6_inUse_45 : decode cX6_inUse 45 = .ok (.iinc 3 1, 3) := by decide +kernel
theorem dX6_inUse_48 : decode cX6_inUse 48 = .ok (.goto (-39), 3) := by decide +kernel
theorem dX6_inUse_51 : decode cX6_inUse 51 = .ok (.lload_n 1, 1) := by decide +kernel
theorem dX6_inUse_52 : decode cX6_inUse 52 = .ok (.lreturn, 1) := by decide +kernel
theorem dX6_inUseWhenFrozen_0 : decode cX6_inUseWhenFrozen 0 = .ok (.aload_n 0, 1) := by decide +kernel
theorem dX6_inUseWhenFrozen_1 : decode cX6_inUseWhenFrozen 1 = .ok (.bipush (-2), 2) := by decide +kernel
theorem dX6_inUseWhenFrozen_3 : decode cX6_inUseWhenFrozen 3 = .ok (.invokevirtual 109, 3) := by decide +kernel
theorem dX6_inUseWhenFrozen_6 : decode cX6_inUseWhenFrozen 6 = .ok (.lstore_n 1, 1) := by decide +kernel
theorem dX6_inUseWhenFrozen_7 : decode cX6_inUseWhenFrozen 7 = .ok (.lconst 0, 1) := by decide +kernel
theorem dX6_inUseWhenFrozen_8 : decode cX6_inUseWhenFrozen 8 = .ok (.lstore_n 3, 1) := by decide +kernel
theorem dX6_inUseWhenFrozen_9 : decode cX6_inUseWhenFrozen 9 = .ok (.iconst 0, 1) := by decide +kernel
theorem dX6_inUseWhenFrozen_10 : decode cX6_inUseWhenFrozen 10 = .ok (.istore 5, 2) := by decide +kernel
theorem dX6_inUseWhenFrozen_12 : decode cX6_inUseWhenFrozen 12 = .ok (.iload 5, 2) := by decide +kernel
theorem dX6_inUseWhenFrozen_14 : decode cX6_inUseWhenFrozen 14 = .ok (.bipush 48, 2) := by decide +kernel
theorem dX6_inUseWhenFrozen_16 : decode cX6_inUseWhenFrozen 16 = .ok (.if_icmp .ge 71, 3) := by decide +kernel
theorem dX6_inUseWhenFrozen_19 : decode cX6_inUseWhenFrozen 19 = .ok (.aload_n 0, 1) := by decide +kernel
theorem dX6_inUseWhenFrozen_20 : decode cX6_inUseWhenFrozen 20 = .ok (.iload 5, 2) := by decide +kernel
theorem dX6_inUseWhenFrozen_22 : decode cX6_inUseWhenFrozen 22 = .ok (.invokevirtual 102, 3) := by decide +kernel
theorem dX6_inUseWhenFrozen_25 : decode cX6_inUseWhenFrozen 25 = .ok (.ifCond .eq 56, 3) := by decide +kernel
theorem dX6_inUseWhenFrozen_28 : decode cX6_inUseWhenFrozen 28 = .ok (.aload_n 0, 1) := by decide +kernel
theorem dX6_inUseWhenFrozen_29 : decode cX6_inUseWhenFrozen 29 = .ok (.iload 5, 2) := by decide +kernel
theorem dX6_inUseWhenFrozen_31 : decode cX6_inUseWhenFrozen 31 = .ok (.aload_n 0, 1) := by decide +kernel
theorem dX6_inUseWhenFrozen_32 : decode cX6_inUseWhenFrozen 32 = .ok (.getfield 66, 3) := by decide +kernel
theorem dX6_inUseWhenFrozen_35 : decode cX6_inUseWhenFrozen 35 = .ok (.lload_n 1, 1) := by decide +kernel
theorem dX6_inUseWhenFrozen_36 : decode cX6_inUseWhenFrozen 36 = .ok (.invokevirtual 112, 3) := by decide +kernel
theorem dX6_inUseWhenFrozen_39 : decode cX6_inUseWhenFrozen 39 = .ok (.ifCond .ne 42, 3) := by decide +kernel
theorem dX6_inUseWhenFrozen_42 : decode cX6_inUseWhenFrozen 42 = .ok (.lload_n 3, 1) := by decide +kernel
theorem dX6_inUseWhenFrozen_43 : decode cX6_inUseWhenFrozen 43 = .ok (.aload_n 0, 1) := by decide +kernel
theorem dX6_inUseWhenFrozen_44 : decode cX6_inUseWhenFrozen 44 = .ok (.getfield 25, 3) := by decide +kernel
theorem dX6_inUseWhenFrozen_47 : decode cX6_inUseWhenFrozen 47 = .ok (.iload 5, 2) := by decide +kernel
theorem dX6_inUseWhenFrozen_49 : decode cX6_inUseWhenFrozen 49 = .ok (.iaload, 1) := by decide +kernel
theorem dX6_inUseWhenFrozen_50 : decode cX6_inUseWhenFrozen 50 = .ok (.invokestatic 106, 3) := by decide +kernel
theorem dX6_inUseWhenFrozen_53 : decode cX6_inUseWhenFrozen 53 = .ok (.lload_n 1, 1) := by decide +kernel
theorem dX6_inUseWhenFrozen_54 : decode cX6_inUseWhenFrozen 54 = .ok (.ldc2_w 116, 3) := by decide +kernel
theorem dX6_inUseWhenFrozen_57 : decode cX6_inUseWhenFrozen 57 = .ok (.lxor, 1) := by decide +kernel
theorem dX6_inUseWhenFrozen_58 : decode cX6_inUseWhenFrozen 58 = .ok (.land, 1) := by decide +kernel
theorem dX6_inUseWhenFrozen_59 : decode cX6_inUseWhenFrozen 59 = .ok (.aload_n 0, 1) := by decide +kernel
theorem dX6_inUseWhenFrozen_60 : decode cX6_inUseWhenFrozen 60 = .ok (.getfield 28, 3) := by decide +kernel
theorem dX6_inUseWhenFrozen_63 : decode cX6_inUseWhenFrozen 63 = .ok (.iload 5, 2) := by decide +kernel
theorem dX6_inUseWhenFrozen_65 : decode cX6_inUseWhenFrozen 65 = .ok (.iaload, 1) := by decide +kernel
theorem dX6_inUseWhenFrozen_66 : decode cX6_inUseWhenFrozen 66 = .ok (.invokestatic 106, 3) := by decide +kernel
theorem dX6_inUseWhenFrozen_69 : decode cX6_inUseWhenFrozen 69 = .ok (.aload_n 0, 1) := by decide +kernel
theorem dX6_inUseWhenFrozen_70 : decode cX6_inUseWhenFrozen 70 = .ok (.getfield 66, 3) := by decide +kernel
theorem dX6_inUseWhenFrozen_73 : decode cX6_inUseWhenFrozen 73 = .ok (.ldc2_w 116, 3) := by decide +kernel
theorem dX6_inUseWhenFrozen_76 : decode cX6_inUseWhenFrozen 76 = .ok (.lxor, 1) := by decide +kernel
theorem dX6_inUseWhenFrozen_77 : decode cX6_inUseWhenFrozen 77 = .ok (.land, 1) := by decide +kernel
theorem dX6_inUseWhenFrozen_78 : decode cX6_inUseWhenFrozen 78 = .ok (.lor, 1) := by decide +kernel
theorem dX6_inUseWhenFrozen_79 : decode cX6_inUseWhenFrozen 79 = .ok (.lor, 1) := by decide +kernel
theorem dX6_inUseWhenFrozen_80 : decode cX6_inUseWhenFrozen 80 = .ok (.lstore_n 3, 1) := by decide +kernel
theorem dX6_inUseWhenFrozen_81 : decode cX6_inUseWhenFrozen 81 = .ok (.iinc 5 1, 3) := by decide +kernel
theorem dX6_inUseWhenFrozen_84 : decode cX6_inUseWhenFrozen 84 = .ok (.goto (-72), 3) := by decide +kernel
theorem dX6_inUseWhenFrozen_87 : decode cX6_inUseWhenFrozen 87 = .ok (.lload_n 3, 1) := by decide +kernel
theorem dX6_inUseWhenFrozen_88 : decode cX6_inUseWhenFrozen 88 = .ok (.aload_n 0, 1) := by decide +kernel
theorem dX6_inUseWhenFrozen_89 : decode cX6_inUseWhenFrozen 89 = .ok (.bipush (-2), 2) := by decide +kernel
theorem dX6_inUseWhenFrozen_91 : decode cX6_inUseWhenFrozen 91 = .ok (.invokevirtual 92, 3) := by decide +kernel
theorem dX6_inUseWhenFrozen_94 : decode cX6_inUseWhenFrozen 94 = .ok (.lor, 1) := by decide +kernel
theorem dX6_inUseWhenFrozen_95 : decode cX6_inUseWhenFrozen 95 = .ok (.lreturn, 1) := by decide +kernel
theorem dX6_roomBeside_0 : decode cX6_roomBeside 0 = .ok (.aload_n 0, 1) := by decide +kernel
theorem dX6_roomBeside_1 : decode cX6_roomBeside 1 = .ok (.lload_n 1, 1) := by decide +kernel
theorem dX6_roomBeside_2 : decode cX6_roomBeside 2 = .ok (.invokevirtual 118, 3) := by decide +kernel
theorem dX6_roomBeside_5 : decode cX6_roomBeside 5 = .ok (.istore_n 3, 1) := by decide +kernel
theorem dX6_roomBeside_6 : decode cX6_roomBeside 6 = .ok (.iload_n 3, 1) := by decide +kernel
theorem dX6_roomBeside_7 : decode cX6_roomBeside 7 = .ok (.bipush (-2), 2) := by decide +kernel
theorem dX6_roomBeside_9 : decode cX6_roomBeside 9 = .ok (.if_icmp .ne 6, 3) := by decide +kernel
theorem dX6_roomBeside_12 : decode cX6_roomBeside 12 = .ok (.bipush (-2), 2) := by decide +kernel
theorem dX6_roomBeside_14 : decode cX6_roomBeside 14 = .ok (.ireturn, 1) := by decide +kernel
theorem dX6_roomBeside_15 : decode cX6_roomBeside 15 = .ok (.aload_n 0, 1) := by decide +kernel
theorem dX6_roomBeside_16 : decode cX6_roomBeside 16 = .ok (.invokevirtual 122, 3) := by decide +kernel
theorem dX6_roomBeside_19 : decode cX6_roomBeside 19 = .ok (.bipush (-2), 2) := by decide +kernel
theorem dX6_roomBeside_21 : decode cX6_roomBeside 21 = .ok (.if_icmp .ne 7, 3) := by decide +kernel
theorem dX6_roomBeside_24 : decode cX6_roomBeside 24 = .ok (.iconst 0, 1) := by decide +kernel
theorem dX6_roomBeside_25 : decode cX6_roomBeside 25 = .ok (.goto 15, 3) := by decide +kernel
theorem dX6_roomBeside_28 : decode cX6_roomBeside 28 = .ok (.iconst 0, 1) := by decide +kernel
theorem dX6_roomBeside_29 : decode cX6_roomBeside 29 = .ok (.aload_n 0, 1) := by decide +kernel
theorem dX6_roomBeside_30 : decode cX6_roomBeside 30 = .ok (.getfield 40, 3) := by decide +kernel
theorem dX6_roomBeside_33 : decode cX6_roomBeside 33 = .ok (.iconst 2, 1) := by decide +kernel
theorem dX6_roomBeside_34 : decode cX6_roomBeside 34 = .ok (.idiv, 1) := by decide +kernel
theorem dX6_roomBeside_35 : decode cX6_roomBeside 35 = .ok (.iload_n 3, 1) := by decide +kernel
theorem dX6_roomBeside_36 : decode cX6_roomBeside 36 = .ok (.isub, 1) := by decide +kernel
theorem dX6_roomBeside_37 : decode cX6_roomBeside 37 = .ok (.invokestatic 86, 3) := by decide +kernel
theorem dX6_roomBeside_40 : decode cX6_roomBeside 40 = .ok (.ireturn, 1) := by decide +kernel
theorem dX6_stampOf_0 : decode cX6_stampOf 0 = .ok (.aload_n 0, 1) := by decide +kernel
theorem dX6_stampOf_1 : decode cX6_stampOf 1 = .ok (.iload_n 1, 1) := by decide +kernel
theorem dX6_stampOf_2 : decode cX6_stampOf 2 = .ok (.invokevirtual 126, 3) := by decide +kernel
theorem dX6_stampOf_5 : decode cX6_stampOf 5 = .ok (.ifCond .eq 12, 3) := by decide +kernel
theorem dX6_stampOf_8 : decode cX6_stampOf 8 = .ok (.aload_n 0, 1) := by decide +kernel
theorem dX6_stampOf_9 : decode cX6_stampOf 9 = .ok (.getfield 9, 3) := by decide +kernel
theorem dX6_stampOf_12 : decode cX6_stampOf 12 = .ok (.iload_n 1, 1) := by decide +kernel
theorem dX6_stampOf_13 : decode cX6_stampOf 13 = .ok (.iaload, 1) := by decide +kernel
theorem dX6_stampOf_14 : decode cX6_stampOf 14 = .ok (.goto 5, 3) := by decide +kernel
theorem dX6_stampOf_17 : decode cX6_stampOf 17 = .ok (.bipush (-2), 2) := by decide +kernel
theorem dX6_stampOf_19 : decode cX6_stampOf 19 = .ok (.ireturn, 1) := by decide +kernel
theorem dX6_snapshotLength_0 : decode cX6_snapshotLength 0 = .ok (.aload_n 0, 1) := by decide +kernel
theorem dX6_snapshotLength_1 : decode cX6_snapshotLength 1 = .ok (.iload_n 1, 1) := by decide +kernel
theorem dX6_snapshotLength_2 : decode cX6_snapshotLength 2 = .ok (.invokevirtual 126, 3) := by decide +kernel
theorem dX6_snapshotLength_5 : decode cX6_snapshotLength 5 = .ok (.ifCond .eq 17, 3) := by decide +kernel
theorem dX6_snapshotLength_8 : decode cX6_snapshotLength 8 = .ok (.aload_n 0, 1) := by decide +kernel
theorem dX6_snapshotLength_9 : decode cX6_snapshotLength 9 = .ok (.getfield 15, 3) := by decide +kernel
theorem dX6_snapshotLength_12 : decode cX6_snapshotLength 12 = .ok (.iload_n 1, 1) := by decide +kernel
theorem dX6_snapshotLength_13 : decode cX6_snapshotLength 13 = .ok (.laload, 1) := by decide +kernel
theorem dX6_snapshotLength_14 : decode cX6_snapshotLength 14 = .ok (.invokestatic 129, 3) := by decide +kernel
theorem dX6_snapshotLength_17 : decode cX6_snapshotLength 17 = .ok (.iconst 1, 1) := by decide +kernel
theorem dX6_snapshotLength_18 : decode cX6_snapshotLength 18 = .ok (.isub, 1) := by decide +kernel
theorem dX6_snapshotLength_19 : decode cX6_snapshotLength 19 = .ok (.goto 4, 3) := by decide +kernel
theorem dX6_snapshotLength_22 : decode cX6_snapshotLength 22 = .ok (.iconst 0, 1) := by decide +kernel
theorem dX6_snapshotLength_23 : decode cX6_snapshotLength 23 = .ok (.ireturn, 1) := by decide +kernel
theorem dX6_hasLost_0 : decode cX6_hasLost 0 = .ok (.aload_n 0, 1) := by decide +kernel
theorem dX6_hasLost_1 : decode cX6_hasLost 1 = .ok (.iload_n 1, 1) := by decide +kernel
theorem dX6_hasLost_2 : decode cX6_hasLost 2 = .ok (.invokevirtual 126, 3) := by decide +kernel
theorem dX6_hasLost_5 : decode cX6_hasLost 5 = .ok (.ifCond .eq 18, 3) := by decide +kernel
theorem dX6_hasLost_8 : decode cX6_hasLost 8 = .ok (.aload_n 0, 1) := by decide +kernel
theorem dX6_hasLost_9 : decode cX6_hasLost 9 = .ok (.getfield 56, 3) := by decide +kernel
theorem dX6_hasLost_12 : decode cX6_hasLost 12 = .ok (.iload_n 1, 1) := by decide +kernel
theorem dX6_hasLost_13 : decode cX6_hasLost 13 = .ok (.ishr, 1) := by decide +kernel
theorem dX6_hasLost_14 : decode cX6_hasLost 14 = .ok (.iconst 1, 1) := by decide +kernel
theorem dX6_hasLost_15 : decode cX6_hasLost 15 = .ok (.iand, 1) := by decide +kernel
theorem dX6_hasLost_16 : decode cX6_hasLost 16 = .ok (.ifCond .eq 7, 3) := by decide +kernel
theorem dX6_hasLost_19 : decode cX6_hasLost 19 = .ok (.iconst 1, 1) := by decide +kernel
theorem dX6_hasLost_20 : decode cX6_hasLost 20 = .ok (.goto 4, 3) := by decide +kernel
theorem dX6_hasLost_23 : decode cX6_hasLost 23 = .ok (.iconst 0, 1) := by decide +kernel
theorem dX6_hasLost_24 : decode cX6_hasLost 24 = .ok (.ireturn, 1) := by decide +kernel
theorem dX6_runningSlots_0 : decode cX6_runningSlots 0 = .ok (.iconst 0, 1) := by decide +kernel
theorem dX6_runningSlots_1 : decode cX6_runningSlots 1 = .ok (.istore_n 1, 1) := by decide +kernel
theorem dX6_runningSlots_2 : decode cX6_runningSlots 2 = .ok (.iconst 0, 1) := by decide +kernel
theorem dX6_runningSlots_3 : decode cX6_runningSlots 3 = .ok (.istore_n 2, 1) := by decide +kernel
theorem dX6_runningSlots_4 : decode cX6_runningSlots 4 = .ok (.iload_n 2, 1) := by decide +kernel
theorem dX6_runningSlots_5 : decode cX6_runningSlots 5 = .ok (.bipush 6, 2) := by decide +kernel
theorem dX6_runningSlots_7 : decode cX6_runningSlots 7 = .ok (.if_icmp .ge 23, 3) := by decide +kernel
theorem dX6_runningSlots_10 : decode cX6_runningSlots 10 = .ok (.aload_n 0, 1) := by decide +kernel
theorem dX6_runningSlots_11 : decode cX6_runningSlots 11 = .ok (.iload_n 2, 1) := by decide +kernel
theorem dX6_runningSlots_12 : decode cX6_runningSlots 12 = .ok (.invokevirtual 126, 3) := by decide +kernel
theorem dX6_runningSlots_15 : decode cX6_runningSlots 15 = .ok (.ifCond .eq 9, 3) := by decide +kernel
theorem dX6_runningSlots_18 : decode cX6_runningSlots 18 = .ok (.iload_n 1, 1) := by decide +kernel
theorem dX6_runningSlots_19 : decode cX6_runningSlots 19 = .ok (.iconst 1, 1) := by decide +kernel
theorem dX6_runningSlots_20 : decode cX6_runningSlots 20 = .ok (.iload_n 2, 1) := by decide +kernel
theorem dX6_runningSlots_21 : decode cX6_runningSlots 21 = .ok (.ishl, 1) := by decide +kernel
theorem dX6_runningSlots_22 : decode cX6_runningSlots 22 = .ok (.ior, 1) := by decide +kernel
theorem dX6_runningSlots_23 : decode cX6_runningSlots 23 = .ok (.istore_n 1, 1) := by decide +kernel
theorem dX6_runningSlots_24 : decode cX6_runningSlots 24 = .ok (.iinc 2 1, 3) := by decide +kernel
theorem dX6_runningSlots_27 : decode cX6_runningSlots 27 = .ok (.goto (-23), 3) := by decide +kernel
theorem dX6_runningSlots_30 : decode cX6_runningSlots 30 = .ok (.iload_n 1, 1) := by decide +kernel
theorem dX6_runningSlots_31 : decode cX6_runningSlots 31 = .ok (.ireturn, 1) := by decide +kernel
theorem dX6_firstFreeSlot_0 : decode cX6_firstFreeSlot 0 = .ok (.iconst 0, 1) := by decide +kernel
theorem dX6_firstFreeSlot_1 : decode cX6_firstFreeSlot 1 = .ok (.istore_n 1, 1) := by decide +kernel
theorem dX6_firstFreeSlot_2 : decode cX6_firstFreeSlot 2 = .ok (.iload_n 1, 1) := by decide +kernel
theorem dX6_firstFreeSlot_3 : decode cX6_firstFreeSlot 3 = .ok (.bipush 6, 2) := by decide +kernel
theorem dX6_firstFreeSlot_5 : decode cX6_firstFreeSlot 5 = .ok (.if_icmp .ge 22, 3) := by decide +kernel
theorem dX6_firstFreeSlot_8 : decode cX6_firstFreeSlot 8 = .ok (.aload_n 0, 1) := by decide +kernel
theorem dX6_firstFreeSlot_9 : decode cX6_firstFreeSlot 9 = .ok (.getfield 9, 3) := by decide +kernel
theorem dX6_firstFreeSlot_12 : decode cX6_firstFreeSlot 12 = .ok (.iload_n 1, 1) := by decide +kernel
theorem dX6_firstFreeSlot_13 : decode cX6_firstFreeSlot 13 = .ok (.iaload, 1) := by decide +kernel
theorem dX6_firstFreeSlot_14 : decode cX6_firstFreeSlot 14 = .ok (.bipush (-2), 2) := by decide +kernel
theorem dX6_firstFreeSlot_16 : decode cX6_firstFreeSlot 16 = .ok (.if_icmp .ne 5, 3) := by decide +kernel
theorem dX6_firstFreeSlot_19 : decode cX6_firstFreeSlot 19 = .ok (.iload_n 1, 1) := by decide +kernel
theorem dX6_firstFreeSlot_20 : decode cX6_firstFreeSlot 20 = .ok (.ireturn, 1) := by decide +kernel
theorem dX6_firstFreeSlot_21 : decode cX6_firstFreeSlot 21 = .ok (.iinc 1 1, 3) := by decide +kernel
theorem dX6_firstFreeSlot_24 : decode cX6_firstFreeSlot 24 = .ok (.goto (-22), 3) := by decide +kernel
theorem dX6_firstFreeSlot_27 : decode cX6_firstFreeSlot 27 = .ok (.bipush (-2), 2) := by decide +kernel
theorem dX6_firstFreeSlot_29 : decode cX6_firstFreeSlot 29 = .ok (.ireturn, 1) := by decide +kernel
theorem dX6_slotOf_0 : decode cX6_slotOf 0 = .ok (.iconst 0, 1) := by decide +kernel
theorem dX6_slotOf_1 : decode cX6_slotOf 1 = .ok (.istore_n 2, 1) := by decide +kernel
theorem dX6_slotOf_2 : decode cX6_slotOf 2 = .ok (.iload_n 2, 1) := by decide +kernel
theorem dX6_slotOf_3 : decode cX6_slotOf 3 = .ok (.bipush 6, 2) := by decide +kernel
theorem dX6_slotOf_5 : decode cX6_slotOf 5 = .ok (.if_icmp .ge 29, 3) := by decide +kernel
theorem dX6_slotOf_8 : decode cX6_slotOf 8 = .ok (.aload_n 0, 1) := by decide +kernel
theorem dX6_slotOf_9 : decode cX6_slotOf 9 = .ok (.iload_n 2, 1) := by decide +kernel
theorem dX6_slotOf_10 : decode cX6_slotOf 10 = .ok (.invokevirtual 126, 3) := by decide +kernel
theorem dX6_slotOf_13 : decode cX6_slotOf 13 = .ok (.ifCond .eq 15, 3) := by decide +kernel
theorem dX6_slotOf_16 : decode cX6_slotOf 16 = .ok (.aload_n 0, 1) := by decide +kernel
theorem dX6_slotOf_17 : decode cX6_slotOf 17 = .ok (.getfield 9, 3) := by decide +kernel
theorem dX6_slotOf_20 : decode cX6_slotOf 20 = .ok (.iload_n 2, 1) := by decide +kernel
theorem dX6_slotOf_21 : decode cX6_slotOf 21 = .ok (.iaload, 1) := by decide +kernel
theorem dX6_slotOf_22 : decode cX6_slotOf 22 = .ok (.iload_n 1, 1) := by decide +kernel
theorem dX6_slotOf_23 : decode cX6_slotOf 23 = .ok (.if_icmp .ne 5, 3) := by decide +kernel
theorem dX6_slotOf_26 : decode cX6_slotOf 26 = .ok (.iload_n 2, 1) := by decide +kernel
theorem dX6_slotOf_27 : decode cX6_slotOf 27 = .ok (.ireturn, 1) := by decide +kernel
theorem dX6_slotOf_28 : decode cX6_slotOf 28 = .ok (.iinc 2 1, 3) := by decide +kernel
theorem dX6_slotOf_31 : decode cX6_slotOf 31 = .ok (.goto (-29), 3) := by decide +kernel
theorem dX6_slotOf_34 : decode cX6_slotOf 34 = .ok (.bipush (-2), 2) := by decide +kernel
theorem dX6_slotOf_36 : decode cX6_slotOf 36 = .ok (.ireturn, 1) := by decide +kernel
theorem dX6_slotHoldingBack_0 : decode cX6_slotHoldingBack 0 = .ok (.bipush (-2), 2) := by decide +kernel
theorem dX6_slotHoldingBack_2 : decode cX6_slotHoldingBack 2 = .ok (.istore_n 1, 1) := by decide +kernel
theorem dX6_slotHoldingBack_3 : decode cX6_slotHoldingBack 3 = .ok (.bipush (-2), 2) := by decide +kernel
theorem dX6_slotHoldingBack_5 : decode cX6_slotHoldingBack 5 = .ok (.istore_n 2, 1) := by decide +kernel
theorem dX6_slotHoldingBack_6 : decode cX6_slotHoldingBack 6 = .ok (.iconst 0, 1) := by decide +kernel
theorem dX6_slotHoldingBack_7 : decode cX6_slotHoldingBack 7 = .ok (.istore_n 3, 1) := by decide +kernel
theorem dX6_slotHoldingBack_8 : decode cX6_slotHoldingBack 8 = .ok (.iload_n 3, 1) := by decide +kernel
theorem dX6_slotHoldingBack_9 : decode cX6_slotHoldingBack 9 = .ok (.bipush 6, 2) := by decide +kernel
theorem dX6_slotHoldingBack_11 : decode cX6_slotHoldingBack 11 = .ok (.if_icmp .ge 32, 3) := by decide +kernel
theorem dX6_slotHoldingBack_14 : decode cX6_slotHoldingBack 14 = .ok (.aload_n 0, 1) := by decide +kernel
theorem dX6_slotHoldingBack_15 : decode cX6_slotHoldingBack 15 = .ok (.aload_n 0, 1) := by decide +kernel
theorem dX6_slotHoldingBack_16 : decode cX6_slotHoldingBack 16 = .ok (.getfield 15, 3) := by decide +kernel
theorem dX6_slotHoldingBack_19 : decode cX6_slotHoldingBack 19 = .ok (.iload_n 3, 1) := by decide +kernel
theorem dX6_slotHoldingBack_20 : decode cX6_slotHoldingBack 20 = .ok (.laload, 1) := by decide +kernel
theorem dX6_slotHoldingBack_21 : decode cX6_slotHoldingBack 21 = .ok (.invokevirtual 118, 3) := by decide +kernel
theorem dX6_slotHoldingBack_24 : decode cX6_slotHoldingBack 24 = .ok (.istore 4, 2) := by decide +kernel
theorem dX6_slotHoldingBack_26 : decode cX6_slotHoldingBack 26 = .ok (.iload 4, 2) := by decide +kernel
theorem dX6_slotHoldingBack_28 : decode cX6_slotHoldingBack 28 = .ok (.iload_n 2, 1) := by decide +kernel
theorem dX6_slotHoldingBack_29 : decode cX6_slotHoldingBack 29 = .ok (.if_icmp .le 8, 3) := by decide +kernel
theorem dX6_slotHoldingBack_32 : decode cX6_slotHoldingBack 32 = .ok (.iload 4, 2) := by decide +kernel
theorem dX6_slotHoldingBack_34 : decode cX6_slotHoldingBack 34 = .ok (.istore_n 2, 1) := by decide +kernel
theorem dX6_slotHoldingBack_35 : decode cX6_slotHoldingBack 35 = .ok (.iload_n 3, 1) := by decide +kernel
theorem dX6_slotHoldingBack_36 : decode cX6_slotHoldingBack 36 = .ok (.istore_n 1, 1) := by decide +kernel
theorem dX6_slotHoldingBack_37 : decode cX6_slotHoldingBack 37 = .ok (.iinc 3 1, 3) := by decide +kernel
theorem dX6_slotHoldingBack_40 : decode cX6_slotHoldingBack 40 = .ok (.goto (-32), 3) := by decide +kernel
theorem dX6_slotHoldingBack_43 : decode cX6_slotHoldingBack 43 = .ok (.iload_n 1, 1) := by decide +kernel
theorem dX6_slotHoldingBack_44 : decode cX6_slotHoldingBack 44 = .ok (.ireturn, 1) := by decide +kernel
theorem dX6_madeBy_0 : decode cX6_madeBy 0 = .ok (.iconst 0, 1) := by decide +kernel
theorem dX6_madeBy_1 : decode cX6_madeBy 1 = .ok (.istore_n 2, 1) := by decide +kernel
theorem dX6_madeBy_2 : decode cX6_madeBy 2 = .ok (.iconst 0, 1) := by decide +kernel
theorem dX6_madeBy_3 : decode cX6_madeBy 3 = .ok (.istore_n 3, 1) := by decide +kernel
theorem dX6_madeBy_4 : decode cX6_madeBy 4 = .ok (.iload_n 3, 1) := by decide +kernel
theorem dX6_madeBy_5 : decode cX6_madeBy 5 = .ok (.bipush 48, 2) := by decide +kernel
theorem dX6_madeBy_7 : decode cX6_madeBy 7 = .ok (.if_icmp .ge 30, 3) := by decide +kernel
theorem dX6_madeBy_10 : decode cX6_madeBy 10 = .ok (.aload_n 0, 1) := by decide +kernel
theorem dX6_madeBy_11 : decode cX6_madeBy 11 = .ok (.iload_n 3, 1) := by decide +kernel
theorem dX6_madeBy_12 : decode cX6_madeBy 12 = .ok (.invokevirtual 102, 3) := by decide +kernel
theorem dX6_madeBy_15 : decode cX6_madeBy 15 = .ok (.ifCond .eq 16, 3) := by decide +kernel
theorem dX6_madeBy_18 : decode cX6_madeBy 18 = .ok (.aload_n 0, 1) := by decide +kernel
theorem dX6_madeBy_19 : decode cX6_madeBy 19 = .ok (.getfield 25, 3) := by decide +kernel
theorem dX6_madeBy_22 : decode cX6_madeBy 22 = .ok (.iload_n 3, 1) := by decide +kernel
theorem dX6_madeBy_23 : decode cX6_madeBy 23 = .ok (.iaload, 1) := by decide +kernel
theorem dX6_madeBy_24 : decode cX6_madeBy 24 = .ok (.iload_n 1, 1) := by decide +kernel
theorem dX6_madeBy_25 : decode cX6_madeBy 25 = .ok (.if_icmp .ne 6, 3) := by decide +kernel
theorem dX6_madeBy_28 : decode cX6_madeBy 28 = .ok (.iinc 2 1, 3) := by decide +kernel
theorem dX6_madeBy_31 : decode cX6_madeBy 31 = .ok (.iinc 3 1, 3) := by decide +kernel
theorem dX6_madeBy_34 : decode cX6_madeBy 34 = .ok (.goto (-30), 3) := by decide +kernel
theorem dX6_madeBy_37 : decode cX6_madeBy 37 = .ok (.iload_n 2, 1) := by decide +kernel
theorem dX6_madeBy_38 : decode cX6_madeBy 38 = .ok (.ireturn, 1) := by decide +kernel
theorem dX6_endedBy_0 : decode cX6_endedBy 0 = .ok (.iconst 0, 1) := by decide +kernel
theorem dX6_endedBy_1 : decode cX6_endedBy 1 = .ok (.istore_n 2, 1) := by decide +kernel
theorem dX6_endedBy_2 : decode cX6_endedBy 2 = .ok (.iconst 0, 1) := by decide +kernel
theorem dX6_endedBy_3 : decode cX6_endedBy 3 = .ok (.istore_n 3, 1) := by decide +kernel
theorem dX6_endedBy_4 : decode cX6_endedBy 4 = .ok (.iload_n 3, 1) := by decide +kernel
theorem dX6_endedBy_5 : decode cX6_endedBy 5 = .ok (.bipush 48, 2) := by decide +kernel
theorem dX6_endedBy_7 : decode cX6_endedBy 7 = .ok (.if_icmp .ge 30, 3) := by decide +kernel
theorem dX6_endedBy_10 : decode cX6_endedBy 10 = .ok (.aload_n 0, 1) := by decide +kernel
theorem dX6_endedBy_11 : decode cX6_endedBy 11 = .ok (.iload_n 3, 1) := by decide +kernel
theorem dX6_endedBy_12 : decode cX6_endedBy 12 = .ok (.invokevirtual 102, 3) := by decide +kernel
theorem dX6_endedBy_15 : decode cX6_endedBy 15 = .ok (.ifCond .eq 16, 3) := by decide +kernel
theorem dX6_endedBy_18 : decode cX6_endedBy 18 = .ok (.aload_n 0, 1) := by decide +kernel
theorem dX6_endedBy_19 : decode cX6_endedBy 19 = .ok (.getfield 28, 3) := by decide +kernel
theorem dX6_endedBy_22 : decode cX6_endedBy 22 = .ok (.iload_n 3, 1) := by decide +kernel
theorem dX6_endedBy_23 : decode cX6_endedBy 23 = .ok (.iaload, 1) := by decide +kernel
theorem dX6_endedBy_24 : decode cX6_endedBy 24 = .ok (.iload_n 1, 1) := by decide +kernel
theorem dX6_endedBy_25 : decode cX6_endedBy 25 = .ok (.if_icmp .ne 6, 3) := by decide +kernel
theorem dX6_endedBy_28 : decode cX6_endedBy 28 = .ok (.iinc 2 1, 3) := by decide +kernel
theorem dX6_endedBy_31 : decode cX6_endedBy 31 = .ok (.iinc 3 1, 3) := by decide +kernel
theorem dX6_endedBy_34 : decode cX6_endedBy 34 = .ok (.goto (-30), 3) := by decide +kernel
theorem dX6_endedBy_37 : decode cX6_endedBy 37 = .ok (.iload_n 2, 1) := by decide +kernel
theorem dX6_endedBy_38 : decode cX6_endedBy 38 = .ok (.ireturn, 1) := by decide +kernel
theorem dX6_rowOf_0 : decode cX6_rowOf 0 = .ok (.aload_n 0, 1) := by decide +kernel
theorem dX6_rowOf_1 : decode cX6_rowOf 1 = .ok (.iload_n 1, 1) := by decide +kernel
theorem dX6_rowOf_2 : decode cX6_rowOf 2 = .ok (.invokevirtual 102, 3) := by decide +kernel
theorem dX6_rowOf_5 : decode cX6_rowOf 5 = .ok (.ifCond .eq 12, 3) := by decide +kernel
theorem dX6_rowOf_8 : decode cX6_rowOf 8 = .ok (.aload_n 0, 1) := by decide +kernel
theorem dX6_rowOf_9 : decode cX6_rowOf 9 = .ok (.getfield 19, 3) := by decide +kernel
theorem dX6_rowOf_12 : decode cX6_rowOf 12 = .ok (.iload_n 1, 1) := by decide +kernel
theorem dX6_rowOf_13 : decode cX6_rowOf 13 = .ok (.iaload, 1) := by decide +kernel
theorem dX6_rowOf_14 : decode cX6_rowOf 14 = .ok (.goto 5, 3) := by decide +kernel
theorem dX6_rowOf_17 : decode cX6_rowOf 17 = .ok (.bipush (-2), 2) := by decide +kernel
theorem dX6_rowOf_19 : decode cX6_rowOf 19 = .ok (.ireturn, 1) := by decide +kernel
theorem dX6_valueOf_0 : decode cX6_valueOf 0 = .ok (.aload_n 0, 1) := by decide +kernel
theorem dX6_valueOf_1 : decode cX6_valueOf 1 = .ok (.iload_n 1, 1) := by decide +kernel
theorem dX6_valueOf_2 : decode cX6_valueOf 2 = .ok (.invokevirtual 102, 3) := by decide +kernel
theorem dX6_valueOf_5 : decode cX6_valueOf 5 = .ok (.ifCond .eq 12, 3) := by decide +kernel
theorem dX6_valueOf_8 : decode cX6_valueOf 8 = .ok (.aload_n 0, 1) := by decide +kernel
theorem dX6_valueOf_9 : decode cX6_valueOf 9 = .ok (.getfield 22, 3) := by decide +kernel
theorem dX6_valueOf_12 : decode cX6_valueOf 12 = .ok (.iload_n 1, 1) := by decide +kernel
theorem dX6_valueOf_13 : decode cX6_valueOf 13 = .ok (.iaload, 1) := by decide +kernel
theorem dX6_valueOf_14 : decode cX6_valueOf 14 = .ok (.goto 5, 3) := by decide +kernel
theorem dX6_valueOf_17 : decode cX6_valueOf 17 = .ok (.bipush (-2), 2) := by decide +kernel
theorem dX6_valueOf_19 : decode cX6_valueOf 19 = .ok (.ireturn, 1) := by decide +kernel
theorem dX6_fromOf_0 : decode cX6_fromOf 0 = .ok (.aload_n 0, 1) := by decide +kernel
theorem dX6_fromOf_1 : decode cX6_fromOf 1 = .ok (.iload_n 1, 1) := by decide +kernel
theorem dX6_fromOf_2 : decode cX6_fromOf 2 = .ok (.invokevirtual 102, 3) := by decide +kernel
theorem dX6_fromOf_5 : decode cX6_fromOf 5 = .ok (.ifCond .eq 12, 3) := by decide +kernel
theorem dX6_fromOf_8 : decode cX6_fromOf 8 = .ok (.aload_n 0, 1) := by decide +kernel
theorem dX6_fromOf_9 : decode cX6_fromOf 9 = .ok (.getfield 25, 3) := by decide +kernel
theorem dX6_fromOf_12 : decode cX6_fromOf 12 = .ok (.iload_n 1, 1) := by decide +kernel
theorem dX6_fromOf_13 : decode cX6_fromOf 13 = .ok (.iaload, 1) := by decide +kernel
theorem dX6_fromOf_14 : decode cX6_fromOf 14 = .ok (.goto 5, 3) := by decide +kernel
theorem dX6_fromOf_17 : decode cX6_fromOf 17 = .ok (.bipush (-2), 2) := by decide +kernel
theorem dX6_fromOf_19 : decode cX6_fromOf 19 = .ok (.ireturn, 1) := by decide +kernel
theorem dX6_tillOf_0 : decode cX6_tillOf 0 = .ok (.aload_n 0, 1) := by decide +kernel
theorem dX6_tillOf_1 : decode cX6_tillOf 1 = .ok (.iload_n 1, 1) := by decide +kernel
theorem dX6_tillOf_2 : decode cX6_tillOf 2 = .ok (.invokevirtual 102, 3) := by decide +kernel
theorem dX6_tillOf_5 : decode cX6_tillOf 5 = .ok (.ifCond .eq 12, 3) := by decide +kernel
theorem dX6_tillOf_8 : decode cX6_tillOf 8 = .ok (.aload_n 0, 1) := by decide +kernel
theorem dX6_tillOf_9 : decode cX6_tillOf 9 = .ok (.getfield 28, 3) := by decide +kernel
theorem dX6_tillOf_12 : decode cX6_tillOf 12 = .ok (.iload_n 1, 1) := by decide +kernel
theorem dX6_tillOf_13 : decode cX6_tillOf 13 = .ok (.iaload, 1) := by decide +kernel
theorem dX6_tillOf_14 : decode cX6_tillOf 14 = .ok (.goto 5, 3) := by decide +kernel
theorem dX6_tillOf_17 : decode cX6_tillOf 17 = .ok (.bipush (-2), 2) := by decide +kernel
theorem dX6_tillOf_19 : decode cX6_tillOf 19 = .ok (.ireturn, 1) := by decide +kernel
theorem dX6_madeAt_0 : decode cX6_madeAt 0 = .ok (.iload_n 1, 1) := by decide +kernel
theorem dX6_madeAt_1 : decode cX6_madeAt 1 = .ok (.ifCond .lt 26, 3) := by decide +kernel
