theorem dX10_storeLine_38 : decode cX10_storeLine 38 = .ok (.aload_n 0, 1) := by decide +kernel
theorem dX10_storeLine_39 : decode cX10_storeLine 39 = .ok (.getfield 183, 3) := by decide +kernel
theorem dX10_storeLine_42 : decode cX10_storeLine 42 = .ok (.ifCond .ne 30, 3) := by decide +kernel
theorem dX10_storeLine_45 : decode cX10_storeLine 45 = .ok (.aload_n 0, 1) := by decide +kernel
theorem dX10_storeLine_46 : decode cX10_storeLine 46 = .ok (.getfield 173, 3) := by decide +kernel
theorem dX10_storeLine_49 : decode cX10_storeLine 49 = .ok (.iconst 3, 1) := by decide +kernel
theorem dX10_storeLine_50 : decode cX10_storeLine 50 = .ok (.if_icmp .ne 22, 3) := by decide +kernel
theorem dX10_storeLine_53 : decode cX10_storeLine 53 = .ok (.aload_n 0, 1) := by decide +kernel
theorem dX10_storeLine_54 : decode cX10_storeLine 54 = .ok (.getfield 170, 3) := by decide +kernel
theorem dX10_storeLine_57 : decode cX10_storeLine 57 = .ok (.iconst 1, 1) := by decide +kernel
theorem dX10_storeLine_58 : decode cX10_storeLine 58 = .ok (.iand, 1) := by decide +kernel
theorem dX10_storeLine_59 : decode cX10_storeLine 59 = .ok (.iconst 1, 1) := by decide +kernel
theorem dX10_storeLine_60 : decode cX10_storeLine 60 = .ok (.if_icmp .ne 12, 3) := by decide +kernel
theorem dX10_storeLine_63 : decode cX10_storeLine 63 = .ok (.aload_n 0, 1) := by decide +kernel
theorem dX10_storeLine_64 : decode cX10_storeLine 64 = .ok (.iconst 4, 1) := by decide +kernel
theorem dX10_storeLine_65 : decode cX10_storeLine 65 = .ok (.aload_n 0, 1) := by decide +kernel
theorem dX10_storeLine_66 : decode cX10_storeLine 66 = .ok (.getfield 164, 3) := by decide +kernel
theorem dX10_storeLine_69 : decode cX10_storeLine 69 = .ok (.invokevirtual 207, 3) := by decide +kernel
theorem dX10_storeLine_72 : decode cX10_storeLine 72 = .ok (.aload_n 0, 1) := by decide +kernel
theorem dX10_storeLine_73 : decode cX10_storeLine 73 = .ok (.getfield 23, 3) := by decide +kernel
theorem dX10_storeLine_76 : decode cX10_storeLine 76 = .ok (.iconst 0, 1) := by decide +kernel
theorem dX10_storeLine_77 : decode cX10_storeLine 77 = .ok (.aload_n 0, 1) := by decide +kernel
theorem dX10_storeLine_78 : decode cX10_storeLine 78 = .ok (.bipush 8, 2) := by decide +kernel
theorem dX10_storeLine_80 : decode cX10_storeLine 80 = .ok (.bipush 64, 2) := by decide +kernel
theorem dX10_storeLine_82 : decode cX10_storeLine 82 = .ok (.invokevirtual 244, 3) := by decide +kernel
theorem dX10_storeLine_85 : decode cX10_storeLine 85 = .ok (.iastore, 1) := by decide +kernel
theorem dX10_storeLine_86 : decode cX10_storeLine 86 = .ok (.aload_n 0, 1) := by decide +kernel
theorem dX10_storeLine_87 : decode cX10_storeLine 87 = .ok (.getfield 23, 3) := by decide +kernel
theorem dX10_storeLine_90 : decode cX10_storeLine 90 = .ok (.iconst 1, 1) := by decide +kernel
theorem dX10_storeLine_91 : decode cX10_storeLine 91 = .ok (.aload_n 0, 1) := by decide +kernel
theorem dX10_storeLine_92 : decode cX10_storeLine 92 = .ok (.ldc_w 296, 3) := by decide +kernel
theorem dX10_storeLine_95 : decode cX10_storeLine 95 = .ok (.iconst 1, 1) := by decide +kernel
theorem dX10_storeLine_96 : decode cX10_storeLine 96 = .ok (.bipush 8, 2) := by decide +kernel
theorem dX10_storeLine_98 : decode cX10_storeLine 98 = .ok (.invokevirtual 298, 3) := by decide +kernel
theorem dX10_storeLine_101 : decode cX10_storeLine 101 = .ok (.iastore, 1) := by decide +kernel
theorem dX10_storeLine_102 : decode cX10_storeLine 102 = .ok (.aload_n 0, 1) := by decide +kernel
theorem dX10_storeLine_103 : decode cX10_storeLine 103 = .ok (.getfield 23, 3) := by decide +kernel
theorem dX10_storeLine_106 : decode cX10_storeLine 106 = .ok (.iconst 2, 1) := by decide +kernel
theorem dX10_storeLine_107 : decode cX10_storeLine 107 = .ok (.aload_n 0, 1) := by decide +kernel
theorem dX10_storeLine_108 : decode cX10_storeLine 108 = .ok (.ldc_w 302, 3) := by decide +kernel
theorem dX10_storeLine_111 : decode cX10_storeLine 111 = .ok (.iconst 0, 1) := by decide +kernel
theorem dX10_storeLine_112 : decode cX10_storeLine 112 = .ok (.aload_n 0, 1) := by decide +kernel
theorem dX10_storeLine_113 : decode cX10_storeLine 113 = .ok (.getfield 23, 3) := by decide +kernel
theorem dX10_storeLine_116 : decode cX10_storeLine 116 = .ok (.iconst 0, 1) := by decide +kernel
theorem dX10_storeLine_117 : decode cX10_storeLine 117 = .ok (.iaload, 1) := by decide +kernel
theorem dX10_storeLine_118 : decode cX10_storeLine 118 = .ok (.iconst 1, 1) := by decide +kernel
theorem dX10_storeLine_119 : decode cX10_storeLine 119 = .ok (.isub, 1) := by decide +kernel
theorem dX10_storeLine_120 : decode cX10_storeLine 120 = .ok (.invokevirtual 298, 3) := by decide +kernel
theorem dX10_storeLine_123 : decode cX10_storeLine 123 = .ok (.iastore, 1) := by decide +kernel
theorem dX10_storeLine_124 : decode cX10_storeLine 124 = .ok (.aload_n 0, 1) := by decide +kernel
theorem dX10_storeLine_125 : decode cX10_storeLine 125 = .ok (.getfield 23, 3) := by decide +kernel
theorem dX10_storeLine_128 : decode cX10_storeLine 128 = .ok (.iconst 3, 1) := by decide +kernel
theorem dX10_storeLine_129 : decode cX10_storeLine 129 = .ok (.aload_n 0, 1) := by decide +kernel
theorem dX10_storeLine_130 : decode cX10_storeLine 130 = .ok (.ldc_w 304, 3) := by decide +kernel
theorem dX10_storeLine_133 : decode cX10_storeLine 133 = .ok (.iconst 0, 1) := by decide +kernel
theorem dX10_storeLine_134 : decode cX10_storeLine 134 = .ok (.bipush 100, 2) := by decide +kernel
theorem dX10_storeLine_136 : decode cX10_storeLine 136 = .ok (.invokevirtual 298, 3) := by decide +kernel
theorem dX10_storeLine_139 : decode cX10_storeLine 139 = .ok (.iastore, 1) := by decide +kernel
theorem dX10_storeLine_140 : decode cX10_storeLine 140 = .ok (.aload_n 0, 1) := by decide +kernel
theorem dX10_storeLine_141 : decode cX10_storeLine 141 = .ok (.getfield 183, 3) := by decide +kernel
theorem dX10_storeLine_144 : decode cX10_storeLine 144 = .ok (.ifCond .eq 4, 3) := by decide +kernel
theorem dX10_storeLine_147 : decode cX10_storeLine 147 = .ok (.return_, 1) := by decide +kernel
theorem dX10_storeLine_148 : decode cX10_storeLine 148 = .ok (.aload_n 0, 1) := by decide +kernel
theorem dX10_storeLine_149 : decode cX10_storeLine 149 = .ok (.getfield 23, 3) := by decide +kernel
theorem dX10_storeLine_152 : decode cX10_storeLine 152 = .ok (.bipush 7, 2) := by decide +kernel
theorem dX10_storeLine_154 : decode cX10_storeLine 154 = .ok (.iconst 1, 1) := by decide +kernel
theorem dX10_storeLine_155 : decode cX10_storeLine 155 = .ok (.iastore, 1) := by decide +kernel
theorem dX10_storeLine_156 : decode cX10_storeLine 156 = .ok (.aload_n 0, 1) := by decide +kernel
theorem dX10_storeLine_157 : decode cX10_storeLine 157 = .ok (.aload_n 0, 1) := by decide +kernel
theorem dX10_storeLine_158 : decode cX10_storeLine 158 = .ok (.getfield 23, 3) := by decide +kernel
theorem dX10_storeLine_161 : decode cX10_storeLine 161 = .ok (.iconst 0, 1) := by decide +kernel
theorem dX10_storeLine_162 : decode cX10_storeLine 162 = .ok (.iaload, 1) := by decide +kernel
theorem dX10_storeLine_163 : decode cX10_storeLine 163 = .ok (.putfield 74, 3) := by decide +kernel
theorem dX10_storeLine_166 : decode cX10_storeLine 166 = .ok (.aload_n 0, 1) := by decide +kernel
theorem dX10_storeLine_167 : decode cX10_storeLine 167 = .ok (.getfield 29, 3) := by decide +kernel
theorem dX10_storeLine_170 : decode cX10_storeLine 170 = .ok (.sipush 323, 3) := by decide +kernel
theorem dX10_storeLine_173 : decode cX10_storeLine 173 = .ok (.aload_n 0, 1) := by decide +kernel
theorem dX10_storeLine_174 : decode cX10_storeLine 174 = .ok (.getfield 23, 3) := by decide +kernel
theorem dX10_storeLine_177 : decode cX10_storeLine 177 = .ok (.iconst 2, 1) := by decide +kernel
theorem dX10_storeLine_178 : decode cX10_storeLine 178 = .ok (.iaload, 1) := by decide +kernel
theorem dX10_storeLine_179 : decode cX10_storeLine 179 = .ok (.iastore, 1) := by decide +kernel
theorem dX10_storeLine_180 : decode cX10_storeLine 180 = .ok (.return_, 1) := by decide +kernel
theorem dX10_beginLine_0 : decode cX10_beginLine 0 = .ok (.aload_n 0, 1) := by decide +kernel
theorem dX10_beginLine_1 : decode cX10_beginLine 1 = .ok (.invokevirtual 204, 3) := by decide +kernel
theorem dX10_beginLine_4 : decode cX10_beginLine 4 = .ok (.aload_n 0, 1) := by decide +kernel
theorem dX10_beginLine_5 : decode cX10_beginLine 5 = .ok (.getfield 23, 3) := by decide +kernel
theorem dX10_beginLine_8 : decode cX10_beginLine 8 = .ok (.bipush 6, 2) := by decide +kernel
theorem dX10_beginLine_10 : decode cX10_beginLine 10 = .ok (.iaload, 1) := by decide +kernel
theorem dX10_beginLine_11 : decode cX10_beginLine 11 = .ok (.istore_n 1, 1) := by decide +kernel
theorem dX10_beginLine_12 : decode cX10_beginLine 12 = .ok (.aload_n 0, 1) := by decide +kernel
theorem dX10_beginLine_13 : decode cX10_beginLine 13 = .ok (.invokevirtual 306, 3) := by decide +kernel
theorem dX10_beginLine_16 : decode cX10_beginLine 16 = .ok (.aload_n 0, 1) := by decide +kernel
theorem dX10_beginLine_17 : decode cX10_beginLine 17 = .ok (.getfield 183, 3) := by decide +kernel
theorem dX10_beginLine_20 : decode cX10_beginLine 20 = .ok (.ifCond .ne 19, 3) := by decide +kernel
theorem dX10_beginLine_23 : decode cX10_beginLine 23 = .ok (.aload_n 0, 1) := by decide +kernel
theorem dX10_beginLine_24 : decode cX10_beginLine 24 = .ok (.invokevirtual 309, 3) := by decide +kernel
theorem dX10_beginLine_27 : decode cX10_beginLine 27 = .ok (.ifCond .lt 12, 3) := by decide +kernel
theorem dX10_beginLine_30 : decode cX10_beginLine 30 = .ok (.aload_n 0, 1) := by decide +kernel
theorem dX10_beginLine_31 : decode cX10_beginLine 31 = .ok (.iconst 3, 1) := by decide +kernel
theorem dX10_beginLine_32 : decode cX10_beginLine 32 = .ok (.aload_n 0, 1) := by decide +kernel
theorem dX10_beginLine_33 : decode cX10_beginLine 33 = .ok (.getfield 164, 3) := by decide +kernel
theorem dX10_beginLine_36 : decode cX10_beginLine 36 = .ok (.invokevirtual 207, 3) := by decide +kernel
theorem dX10_beginLine_39 : decode cX10_beginLine 39 = .ok (.aload_n 0, 1) := by decide +kernel
theorem dX10_beginLine_40 : decode cX10_beginLine 40 = .ok (.getfield 183, 3) := by decide +kernel
theorem dX10_beginLine_43 : decode cX10_beginLine 43 = .ok (.ifCond .eq 4, 3) := by decide +kernel
theorem dX10_beginLine_46 : decode cX10_beginLine 46 = .ok (.return_, 1) := by decide +kernel
theorem dX10_beginLine_47 : decode cX10_beginLine 47 = .ok (.iconst 0, 1) := by decide +kernel
theorem dX10_beginLine_48 : decode cX10_beginLine 48 = .ok (.istore_n 2, 1) := by decide +kernel
theorem dX10_beginLine_49 : decode cX10_beginLine 49 = .ok (.iload_n 2, 1) := by decide +kernel
theorem dX10_beginLine_50 : decode cX10_beginLine 50 = .ok (.aload_n 0, 1) := by decide +kernel
theorem dX10_beginLine_51 : decode cX10_beginLine 51 = .ok (.getfield 167, 3) := by decide +kernel
theorem dX10_beginLine_54 : decode cX10_beginLine 54 = .ok (.if_icmp .ge 29, 3) := by decide +kernel
theorem dX10_beginLine_57 : decode cX10_beginLine 57 = .ok (.aload_n 0, 1) := by decide +kernel
theorem dX10_beginLine_58 : decode cX10_beginLine 58 = .ok (.getfield 23, 3) := by decide +kernel
theorem dX10_beginLine_61 : decode cX10_beginLine 61 = .ok (.bipush 44, 2) := by decide +kernel
theorem dX10_beginLine_63 : decode cX10_beginLine 63 = .ok (.bipush 8, 2) := by decide +kernel
theorem dX10_beginLine_65 : decode cX10_beginLine 65 = .ok (.iload_n 1, 1) := by decide +kernel
theorem dX10_beginLine_66 : decode cX10_beginLine 66 = .ok (.imul, 1) := by decide +kernel
theorem dX10_beginLine_67 : decode cX10_beginLine 67 = .ok (.iadd, 1) := by decide +kernel
theorem dX10_beginLine_68 : decode cX10_beginLine 68 = .ok (.iload_n 2, 1) := by decide +kernel
theorem dX10_beginLine_69 : decode cX10_beginLine 69 = .ok (.iadd, 1) := by decide +kernel
theorem dX10_beginLine_70 : decode cX10_beginLine 70 = .ok (.aload_n 0, 1) := by decide +kernel
theorem dX10_beginLine_71 : decode cX10_beginLine 71 = .ok (.getfield 17, 3) := by decide +kernel
theorem dX10_beginLine_74 : decode cX10_beginLine 74 = .ok (.iload_n 2, 1) := by decide +kernel
theorem dX10_beginLine_75 : decode cX10_beginLine 75 = .ok (.iaload, 1) := by decide +kernel
theorem dX10_beginLine_76 : decode cX10_beginLine 76 = .ok (.iastore, 1) := by decide +kernel
theorem dX10_beginLine_77 : decode cX10_beginLine 77 = .ok (.iinc 2 1, 3) := by decide +kernel
theorem dX10_beginLine_80 : decode cX10_beginLine 80 = .ok (.goto (-31), 3) := by decide +kernel
theorem dX10_beginLine_83 : decode cX10_beginLine 83 = .ok (.aload_n 0, 1) := by decide +kernel
theorem dX10_beginLine_84 : decode cX10_beginLine 84 = .ok (.getfield 23, 3) := by decide +kernel
theorem dX10_beginLine_87 : decode cX10_beginLine 87 = .ok (.bipush 32, 2) := by decide +kernel
theorem dX10_beginLine_89 : decode cX10_beginLine 89 = .ok (.iload_n 1, 1) := by decide +kernel
theorem dX10_beginLine_90 : decode cX10_beginLine 90 = .ok (.iadd, 1) := by decide +kernel
theorem dX10_beginLine_91 : decode cX10_beginLine 91 = .ok (.aload_n 0, 1) := by decide +kernel
theorem dX10_beginLine_92 : decode cX10_beginLine 92 = .ok (.getfield 167, 3) := by decide +kernel
theorem dX10_beginLine_95 : decode cX10_beginLine 95 = .ok (.iastore, 1) := by decide +kernel
theorem dX10_beginLine_96 : decode cX10_beginLine 96 = .ok (.aload_n 0, 1) := by decide +kernel
theorem dX10_beginLine_97 : decode cX10_beginLine 97 = .ok (.invokevirtual 204, 3) := by decide +kernel
theorem dX10_beginLine_100 : decode cX10_beginLine 100 = .ok (.aload_n 0, 1) := by decide +kernel
theorem dX10_beginLine_101 : decode cX10_beginLine 101 = .ok (.invokevirtual 312, 3) := by decide +kernel
theorem dX10_beginLine_104 : decode cX10_beginLine 104 = .ok (.ifCond .ne 4, 3) := by decide +kernel
theorem dX10_beginLine_107 : decode cX10_beginLine 107 = .ok (.return_, 1) := by decide +kernel
theorem dX10_beginLine_108 : decode cX10_beginLine 108 = .ok (.aload_n 0, 1) := by decide +kernel
theorem dX10_beginLine_109 : decode cX10_beginLine 109 = .ok (.aload_n 0, 1) := by decide +kernel
theorem dX10_beginLine_110 : decode cX10_beginLine 110 = .ok (.aload_n 0, 1) := by decide +kernel
theorem dX10_beginLine_111 : decode cX10_beginLine 111 = .ok (.getfield 29, 3) := by decide +kernel
theorem dX10_beginLine_114 : decode cX10_beginLine 114 = .ok (.invokevirtual 315, 3) := by decide +kernel
theorem dX10_beginLine_117 : decode cX10_beginLine 117 = .ok (.ifCond .ne 7, 3) := by decide +kernel
theorem dX10_beginLine_120 : decode cX10_beginLine 120 = .ok (.iconst 1, 1) := by decide +kernel
theorem dX10_beginLine_121 : decode cX10_beginLine 121 = .ok (.goto 4, 3) := by decide +kernel
theorem dX10_beginLine_124 : decode cX10_beginLine 124 = .ok (.iconst 0, 1) := by decide +kernel
theorem dX10_beginLine_125 : decode cX10_beginLine 125 = .ok (.invokevirtual 319, 3) := by decide +kernel
theorem dX10_beginLine_128 : decode cX10_beginLine 128 = .ok (.aload_n 0, 1) := by decide +kernel
theorem dX10_beginLine_129 : decode cX10_beginLine 129 = .ok (.getfield 183, 3) := by decide +kernel
theorem dX10_beginLine_132 : decode cX10_beginLine 132 = .ok (.ifCond .eq 4, 3) := by decide +kernel
theorem dX10_beginLine_135 : decode cX10_beginLine 135 = .ok (.return_, 1) := by decide +kernel
theorem dX10_beginLine_136 : decode cX10_beginLine 136 = .ok (.aload_n 0, 1) := by decide +kernel
theorem dX10_beginLine_137 : decode cX10_beginLine 137 = .ok (.getfield 32, 3) := by decide +kernel
theorem dX10_beginLine_140 : decode cX10_beginLine 140 = .ok (.aload_n 0, 1) := by decide +kernel
theorem dX10_beginLine_141 : decode cX10_beginLine 141 = .ok (.getfield 29, 3) := by decide +kernel
theorem dX10_beginLine_144 : decode cX10_beginLine 144 = .ok (.sipush 323, 3) := by decide +kernel
theorem dX10_beginLine_147 : decode cX10_beginLine 147 = .ok (.iaload, 1) := by decide +kernel
theorem dX10_beginLine_148 : decode cX10_beginLine 148 = .ok (.iload_n 1, 1) := by decide +kernel
theorem dX10_beginLine_149 : decode cX10_beginLine 149 = .ok (.iconst 1, 1) := by decide +kernel
theorem dX10_beginLine_150 : decode cX10_beginLine 150 = .ok (.iadd, 1) := by decide +kernel
theorem dX10_beginLine_151 : decode cX10_beginLine 151 = .ok (.iastore, 1) := by decide +kernel
theorem dX10_beginLine_152 : decode cX10_beginLine 152 = .ok (.aload_n 0, 1) := by decide +kernel
theorem dX10_beginLine_153 : decode cX10_beginLine 153 = .ok (.getfield 23, 3) := by decide +kernel
theorem dX10_beginLine_156 : decode cX10_beginLine 156 = .ok (.bipush 20, 2) := by decide +kernel
theorem dX10_beginLine_158 : decode cX10_beginLine 158 = .ok (.iload_n 1, 1) := by decide +kernel
theorem dX10_beginLine_159 : decode cX10_beginLine 159 = .ok (.iadd, 1) := by decide +kernel
theorem dX10_beginLine_160 : decode cX10_beginLine 160 = .ok (.aload_n 0, 1) := by decide +kernel
theorem dX10_beginLine_161 : decode cX10_beginLine 161 = .ok (.getfield 29, 3) := by decide +kernel
theorem dX10_beginLine_164 : decode cX10_beginLine 164 = .ok (.sipush 323, 3) := by decide +kernel
theorem dX10_beginLine_167 : decode cX10_beginLine 167 = .ok (.iaload, 1) := by decide +kernel
theorem dX10_beginLine_168 : decode cX10_beginLine 168 = .ok (.iastore, 1) := by decide +kernel
theorem dX10_beginLine_169 : decode cX10_beginLine 169 = .ok (.aload_n 0, 1) := by decide +kernel
theorem dX10_beginLine_170 : decode cX10_beginLine 170 = .ok (.getfield 53, 3) := by decide +kernel
theorem dX10_beginLine_173 : decode cX10_beginLine 173 = .ok (.iload_n 1, 1) := by decide +kernel
theorem dX10_beginLine_174 : decode cX10_beginLine 174 = .ok (.aload_n 0, 1) := by decide +kernel
theorem dX10_beginLine_175 : decode cX10_beginLine 175 = .ok (.aload_n 0, 1) := by decide +kernel
theorem dX10_beginLine_176 : decode cX10_beginLine 176 = .ok (.getfield 29, 3) := by decide +kernel
theorem dX10_beginLine_179 : decode cX10_beginLine 179 = .ok (.invokevirtual 322, 3) := by decide +kernel
theorem dX10_beginLine_182 : decode cX10_beginLine 182 = .ok (.iconst 1, 1) := by decide +kernel
theorem dX10_beginLine_183 : decode cX10_beginLine 183 = .ok (.iadd, 1) := by decide +kernel
theorem dX10_beginLine_184 : decode cX10_beginLine 184 = .ok (.iastore, 1) := by decide +kernel
theorem dX10_beginLine_185 : decode cX10_beginLine 185 = .ok (.aload_n 0, 1) := by decide +kernel
theorem dX10_beginLine_186 : decode cX10_beginLine 186 = .ok (.getfield 23, 3) := by decide +kernel
theorem dX10_beginLine_189 : decode cX10_beginLine 189 = .ok (.bipush 6, 2) := by decide +kernel
theorem dX10_beginLine_191 : decode cX10_beginLine 191 = .ok (.dup2, 1) := by decide +kernel
theorem dX10_beginLine_192 : decode cX10_beginLine 192 = .ok (.iaload, 1) := by decide +kernel
theorem dX10_beginLine_193 : decode cX10_beginLine 193 = .ok (.iconst 1, 1) := by decide +kernel
theorem dX10_beginLine_194 : decode cX10_beginLine 194 = .ok (.iadd, 1) := by decide +kernel
theorem dX10_beginLine_195 : decode cX10_beginLine 195 = .ok (.iastore, 1) := by decide +kernel
theorem dX10_beginLine_196 : decode cX10_beginLine 196 = .ok (.return_, 1) := by decide +kernel
theorem dX10_writerPassed_0 : decode cX10_writerPassed 0 = .ok (.aload_n 0, 1) := by decide +kernel
theorem dX10_writerPassed_1 : decode cX10_writerPassed 1 = .ok (.getfield 183, 3) := by decide +kernel
theorem dX10_writerPassed_4 : decode cX10_writerPassed 4 = .ok (.ifCond .eq 5, 3) := by decide +kernel
theorem dX10_writerPassed_7 : decode cX10_writerPassed 7 = .ok (.iconst 0, 1) := by decide +kernel
theorem dX10_writerPassed_8 : decode cX10_writerPassed 8 = .ok (.ireturn, 1) := by decide +kernel
theorem dX10_writerPassed_9 : decode cX10_writerPassed 9 = .ok (.aload_n 0, 1) := by decide +kernel
theorem dX10_writerPassed_10 : decode cX10_writerPassed 10 = .ok (.invokevirtual 306, 3) := by decide +kernel
theorem dX10_writerPassed_13 : decode cX10_writerPassed 13 = .ok (.aload_n 0, 1) := by decide +kernel
theorem dX10_writerPassed_14 : decode cX10_writerPassed 14 = .ok (.getfield 183, 3) := by decide +kernel
theorem dX10_writerPassed_17 : decode cX10_writerPassed 17 = .ok (.ifCond .eq 5, 3) := by decide +kernel
theorem dX10_writerPassed_20 : decode cX10_writerPassed 20 = .ok (.iconst 0, 1) := by decide +kernel
theorem dX10_writerPassed_21 : decode cX10_writerPassed 21 = .ok (.ireturn, 1) := by decide +kernel
theorem dX10_writerPassed_22 : decode cX10_writerPassed 22 = .ok (.aload_n 0, 1) := by decide +kernel
theorem dX10_writerPassed_23 : decode cX10_writerPassed 23 = .ok (.invokevirtual 309, 3) := by decide +kernel
theorem dX10_writerPassed_26 : decode cX10_writerPassed 26 = .ok (.istore_n 2, 1) := by decide +kernel
theorem dX10_writerPassed_27 : decode cX10_writerPassed 27 = .ok (.iload_n 2, 1) := by decide +kernel
theorem dX10_writerPassed_28 : decode cX10_writerPassed 28 = .ok (.ifCond .ge 12, 3) := by decide +kernel
theorem dX10_writerPassed_31 : decode cX10_writerPassed 31 = .ok (.aload_n 0, 1) := by decide +kernel
theorem dX10_writerPassed_32 : decode cX10_writerPassed 32 = .ok (.iconst 2, 1) := by decide +kernel
theorem dX10_writerPassed_33 : decode cX10_writerPassed 33 = .ok (.aload_n 0, 1) := by decide +kernel
theorem dX10_writerPassed_34 : decode cX10_writerPassed 34 = .ok (.getfield 164, 3) := by decide +kernel
theorem dX10_writerPassed_37 : decode cX10_writerPassed 37 = .ok (.invokevirtual 207, 3) := by decide +kernel
theorem dX10_writerPassed_40 : decode cX10_writerPassed 40 = .ok (.iconst 0, 1) := by decide +kernel
theorem dX10_writerPassed_41 : decode cX10_writerPassed 41 = .ok (.istore_n 3, 1) := by decide +kernel
theorem dX10_writerPassed_42 : decode cX10_writerPassed 42 = .ok (.iload_n 3, 1) := by decide +kernel
theorem dX10_writerPassed_43 : decode cX10_writerPassed 43 = .ok (.aload_n 0, 1) := by decide +kernel
theorem dX10_writerPassed_44 : decode cX10_writerPassed 44 = .ok (.getfield 23, 3) := by decide +kernel
theorem dX10_writerPassed_47 : decode cX10_writerPassed 47 = .ok (.iconst 4, 1) := by decide +kernel
theorem dX10_writerPassed_48 : decode cX10_writerPassed 48 = .ok (.iaload, 1) := by decide +kernel
theorem dX10_writerPassed_49 : decode cX10_writerPassed 49 = .ok (.if_icmp .ge 42, 3) := by decide +kernel
theorem dX10_writerPassed_52 : decode cX10_writerPassed 52 = .ok (.iload_n 1, 1) := by decide +kernel
theorem dX10_writerPassed_53 : decode cX10_writerPassed 53 = .ok (.ifCond .ne 38, 3) := by decide +kernel
theorem dX10_writerPassed_56 : decode cX10_writerPassed 56 = .ok (.aload_n 0, 1) := by decide +kernel
theorem dX10_writerPassed_57 : decode cX10_writerPassed 57 = .ok (.getfield 183, 3) := by decide +kernel
theorem dX10_writerPassed_60 : decode cX10_writerPassed 60 = .ok (.ifCond .ne 25, 3) := by decide +kernel
theorem dX10_writerPassed_63 : decode cX10_writerPassed 63 = .ok (.aload_n 0, 1) := by decide +kernel
theorem dX10_writerPassed_64 : decode cX10_writerPassed 64 = .ok (.getfield 23, 3) := by decide +kernel
theorem dX10_writerPassed_67 : decode cX10_writerPassed 67 = .ok (.bipush 8, 2) := by decide +kernel
theorem dX10_writerPassed_69 : decode cX10_writerPassed 69 = .ok (.iload_n 3, 1) := by decide +kernel
theorem dX10_writerPassed_70 : decode cX10_writerPassed 70 = .ok (.iadd, 1) := by decide +kernel
theorem dX10_writerPassed_71 : decode cX10_writerPassed 71 = .ok (.iaload, 1) := by decide +kernel
theorem dX10_writerPassed_72 : decode cX10_writerPassed 72 = .ok (.iload_n 2, 1) := by decide +kernel
theorem dX10_writerPassed_73 : decode cX10_writerPassed 73 = .ok (.if_icmp .ne 12, 3) := by decide +kernel
theorem dX10_writerPassed_76 : decode cX10_writerPassed 76 = .ok (.aload_n 0, 1) := by decide +kernel
theorem dX10_writerPassed_77 : decode cX10_writerPassed 77 = .ok (.iconst 3, 1) := by decide +kernel
theorem dX10_writerPassed_78 : decode cX10_writerPassed 78 = .ok (.aload_n 0, 1) := by decide +kernel
theorem dX10_writerPassed_79 : decode cX10_writerPassed 79 = .ok (.getfield 164, 3) := by decide +kernel
theorem dX10_writerPassed_82 : decode cX10_writerPassed 82 = .ok (.invokevirtual 207, 3) := by decide +kernel
theorem dX10_writerPassed_85 : decode cX10_writerPassed 85 = .ok (.iinc 3 1, 3) := by decide +kernel
theorem dX10_writerPassed_88 : decode cX10_writerPassed 88 = .ok (.goto (-46), 3) := by decide +kernel
theorem dX10_writerPassed_91 : decode cX10_writerPassed 91 = .ok (.aload_n 0, 1) := by decide +kernel
theorem dX10_writerPassed_92 : decode cX10_writerPassed 92 = .ok (.getfield 183, 3) := by decide +kernel
theorem dX10_writerPassed_95 : decode cX10_writerPassed 95 = .ok (.ifCond .ne 31, 3) := by decide +kernel
theorem dX10_writerPassed_98 : decode cX10_writerPassed 98 = .ok (.aload_n 0, 1) := by decide +kernel
theorem dX10_writerPassed_99 : decode cX10_writerPassed 99 = .ok (.getfield 53, 3) := by decide +kernel
theorem dX10_writerPassed_102 : decode cX10_writerPassed 102 = .ok (.iload_n 2, 1) := by decide +kernel
theorem dX10_writerPassed_103 : decode cX10_writerPassed 103 = .ok (.iaload, 1) := by decide +kernel
theorem dX10_writerPassed_104 : decode cX10_writerPassed 104 = .ok (.ifCond .le 7, 3) := by decide +kernel
theorem dX10_writerPassed_107 : decode cX10_writerPassed 107 = .ok (.iconst 1, 1) := by decide +kernel
theorem dX10_writerPassed_108 : decode cX10_writerPassed 108 = .ok (.goto 4, 3) := by decide +kernel
theorem dX10_writerPassed_111 : decode cX10_writerPassed 111 = .ok (.iconst 0, 1) := by decide +kernel
theorem dX10_writerPassed_112 : decode cX10_writerPassed 112 = .ok (.iload_n 1, 1) := by decide +kernel
theorem dX10_writerPassed_113 : decode cX10_writerPassed 113 = .ok (.if_icmp .eq 13, 3) := by decide +kernel
theorem dX10_writerPassed_116 : decode cX10_writerPassed 116 = .ok (.aload_n 0, 1) := by decide +kernel
theorem dX10_writerPassed_117 : decode cX10_writerPassed 117 = .ok (.bipush 7, 2) := by decide +kernel
theorem dX10_writerPassed_119 : decode cX10_writerPassed 119 = .ok (.aload_n 0, 1) := by decide +kernel
theorem dX10_writerPassed_120 : decode cX10_writerPassed 120 = .ok (.getfield 164, 3) := by decide +kernel
theorem dX10_writerPassed_123 : decode cX10_writerPassed 123 = .ok (.invokevirtual 207, 3) := by decide +kernel
theorem dX10_writerPassed_126 : decode cX10_writerPassed 126 = .ok (.aload_n 0, 1) := by decide +kernel
theorem dX10_writerPassed_127 : decode cX10_writerPassed 127 = .ok (.invokevirtual 237, 3) := by decide +kernel
theorem dX10_writerPassed_130 : decode cX10_writerPassed 130 = .ok (.aload_n 0, 1) := by decide +kernel
theorem dX10_writerPassed_131 : decode cX10_writerPassed 131 = .ok (.getfield 183, 3) := by decide +kernel
theorem dX10_writerPassed_134 : decode cX10_writerPassed 134 = .ok (.ifCond .eq 7, 3) := by decide +kernel
theorem dX10_writerPassed_137 : decode cX10_writerPassed 137 = .ok (.iconst 0, 1) := by decide +kernel
theorem dX10_writerPassed_138 : decode cX10_writerPassed 138 = .ok (.goto 4, 3) := by decide +kernel
theorem dX10_writerPassed_141 : decode cX10_writerPassed 141 = .ok (.iload_n 2, 1) := by decide +kernel
theorem dX10_writerPassed_142 : decode cX10_writerPassed 142 = .ok (.ireturn, 1) := by decide +kernel
theorem dX10_putLine_0 : decode cX10_putLine 0 = .ok (.aload_n 0, 1) := by decide +kernel
theorem dX10_putLine_1 : decode cX10_putLine 1 = .ok (.invokevirtual 204, 3) := by decide +kernel
theorem dX10_putLine_4 : decode cX10_putLine 4 = .ok (.aload_n 0, 1) := by decide +kernel
theorem dX10_putLine_5 : decode cX10_putLine 5 = .ok (.iconst 1, 1) := by decide +kernel
theorem dX10_putLine_6 : decode cX10_putLine 6 = .ok (.invokevirtual 325, 3) := by decide +kernel
theorem dX10_putLine_9 : decode cX10_putLine 9 = .ok (.istore_n 2, 1) := by decide +kernel
theorem dX10_putLine_10 : decode cX10_putLine 10 = .ok (.aload_n 0, 1) := by decide +kernel
theorem dX10_putLine_11 : decode cX10_putLine 11 = .ok (.iconst 0, 1) := by decide +kernel
theorem dX10_putLine_12 : decode cX10_putLine 12 = .ok (.aload_n 0, 1) := by decide +kernel
theorem dX10_putLine_13 : decode cX10_putLine 13 = .ok (.getfield 23, 3) := by decide +kernel
theorem dX10_putLine_16 : decode cX10_putLine 16 = .ok (.iconst 1, 1) := by decide +kernel
theorem dX10_putLine_17 : decode cX10_putLine 17 = .ok (.iaload, 1) := by decide +kernel
theorem dX10_putLine_18 : decode cX10_putLine 18 = .ok (.iconst 1, 1) := by decide +kernel
theorem dX10_putLine_19 : decode cX10_putLine 19 = .ok (.isub, 1) := by decide +kernel
theorem dX10_putLine_20 : decode cX10_putLine 20 = .ok (.invokevirtual 244, 3) := by decide +kernel
theorem dX10_putLine_23 : decode cX10_putLine 23 = .ok (.istore_n 3, 1) := by decide +kernel
theorem dX10_putLine_24 : decode cX10_putLine 24 = .ok (.iload_n 1, 1) := by decide +kernel
theorem dX10_putLine_25 : decode cX10_putLine 25 = .ok (.ifCond .eq 14, 3) := by decide +kernel
theorem dX10_putLine_28 : decode cX10_putLine 28 = .ok (.aload_n 0, 1) := by decide +kernel
theorem dX10_putLine_29 : decode cX10_putLine 29 = .ok (.iconst 0, 1) := by decide +kernel
theorem dX10_putLine_30 : decode cX10_putLine 30 = .ok (.sipush 999, 3) := by decide +kernel
theorem dX10_putLine_33 : decode cX10_putLine 33 = .ok (.invokevirtual 244, 3) := by decide +kernel
theorem dX10_putLine_36 : decode cX10_putLine 36 = .ok (.goto 4, 3) := by decide +kernel
theorem dX10_putLine_39 : decode cX10_putLine 39 = .ok (.iconst 0, 1) := by decide +kernel
theorem dX10_putLine_40 : decode cX10_putLine 40 = .ok (.istore 4, 2) := by decide +kernel
theorem dX10_putLine_42 : decode cX10_putLine 42 = .ok (.aload_n 0, 1) := by decide +kernel
theorem dX10_putLine_43 : decode cX10_putLine 43 = .ok (.invokevirtual 312, 3) := by decide +kernel
theorem dX10_putLine_46 : decode cX10_putLine 46 = .ok (.ifCond .ne 4, 3) := by decide +kernel
theorem dX10_putLine_49 : decode cX10_putLine 49 = .ok (.return_, 1) := by decide +kernel
theorem dX10_putLine_50 : decode cX10_putLine 50 = .ok (.aload_n 0, 1) := by decide +kernel
theorem dX10_putLine_51 : decode cX10_putLine 51 = .ok (.getfield 53, 3) := by decide +kernel
theorem dX10_putLine_54 : decode cX10_putLine 54 = .ok (.iload_n 2, 1) := by decide +kernel
theorem dX10_putLine_55 : decode cX10_putLine 55 = .ok (.iaload, 1) := by decide +kernel
theorem dX10_putLine_56 : decode cX10_putLine 56 = .ok (.iconst 1, 1) := by decide +kernel
theorem dX10_putLine_57 : decode cX10_putLine 57 = .ok (.isub, 1) := by decide +kernel
theorem dX10_putLine_58 : decode cX10_putLine 58 = .ok (.istore 5, 2) := by decide +kernel
theorem dX10_putLine_60 : decode cX10_putLine 60 = .ok (.iload_n 1, 1) := by decide +kernel
theorem dX10_putLine_61 : decode cX10_putLine 61 = .ok (.ifCond .eq 19, 3) := by decide +kernel
theorem dX10_putLine_64 : decode cX10_putLine 64 = .ok (.aload_n 0, 1) := by decide +kernel
theorem dX10_putLine_65 : decode cX10_putLine 65 = .ok (.aload_n 0, 1) := by decide +kernel
theorem dX10_putLine_66 : decode cX10_putLine 66 = .ok (.getfield 29, 3) := by decide +kernel
theorem dX10_putLine_69 : decode cX10_putLine 69 = .ok (.iload 5, 2) := by decide +kernel
theorem dX10_putLine_71 : decode cX10_putLine 71 = .ok (.iload_n 3, 1) := by decide +kernel
theorem dX10_putLine_72 : decode cX10_putLine 72 = .ok (.iload 4, 2) := by decide +kernel
theorem dX10_putLine_74 : decode cX10_putLine 74 = .ok (.invokevirtual 329, 3) := by decide +kernel
theorem dX10_putLine_77 : decode cX10_putLine 77 = .ok (.goto 14, 3) := by decide +kernel
theorem dX10_putLine_80 : decode cX10_putLine 80 = .ok (.aload_n 0, 1) := by decide +kernel
theorem dX10_putLine_81 : decode cX10_putLine 81 = .ok (.aload_n 0, 1) := by decide +kernel
theorem dX10_putLine_82 : decode cX10_putLine 82 = .ok (.getfield 29, 3) := by decide +kernel
theorem dX10_putLine_85 : decode cX10_putLine 85 = .ok (.iload 5, 2) := by decide +kernel
theorem dX10_putLine_87 : decode cX10_putLine 87 = .ok (.iload_n 3, 1) := by decide +kernel
theorem dX10_putLine_88 : decode cX10_putLine 88 = .ok (.invokevirtual 333, 3) := by decide +kernel
theorem dX10_putLine_91 : decode cX10_putLine 91 = .ok (.istore 6, 2) := by decide +kernel
theorem dX10_putLine_93 : decode cX10_putLine 93 = .ok (.aload_n 0, 1) := by decide +kernel
theorem dX10_putLine_94 : decode cX10_putLine 94 = .ok (.iload 6, 2) := by decide +kernel
theorem dX10_putLine_96 : decode cX10_putLine 96 = .ok (.ifCond .ge 7, 3) := by decide +kernel
theorem dX10_putLine_99 : decode cX10_putLine 99 = .ok (.iconst 1, 1) := by decide +kernel
theorem dX10_putLine_100 : decode cX10_putLine 100 = .ok (.goto 4, 3) := by decide +kernel
theorem dX10_putLine_103 : decode cX10_putLine 103 = .ok (.iconst 0, 1) := by decide +kernel
theorem dX10_putLine_104 : decode cX10_putLine 104 = .ok (.invokevirtual 319, 3) := by decide +kernel
theorem dX10_putLine_107 : decode cX10_putLine 107 = .ok (.return_, 1) := by decide +kernel
theorem dX10_endLine_0 : decode cX10_endLine 0 = .ok (.aload_n 0, 1) := by decide +kernel
theorem dX10_endLine_1 : decode cX10_endLine 1 = .ok (.invokevirtual 204, 3) := by decide +kernel
theorem dX10_endLine_4 : decode cX10_endLine 4 = .ok (.aload_n 0, 1) := by decide +kernel
theorem dX10_endLine_5 : decode cX10_endLine 5 = .ok (.iconst 1, 1) := by decide +kernel
theorem dX10_endLine_6 : decode cX10_endLine 6 = .ok (.invokevirtual 325, 3) := by decide +kernel
theorem dX10_endLine_9 : decode cX10_endLine 9 = .ok (.istore_n 2, 1) := by decide +kernel
theorem dX10_endLine_10 : decode cX10_endLine 10 = .ok (.aload_n 0, 1) := by decide +kernel
theorem dX10_endLine_11 : decode cX10_endLine 11 = .ok (.invokevirtual 312, 3) := by decide +kernel
theorem dX10_endLine_14 : decode cX10_endLine 14 = .ok (.ifCond .ne 4, 3) := by decide +kernel
theorem dX10_endLine_17 : decode cX10_endLine 17 = .ok (.return_, 1) := by decide +kernel
theorem dX10_endLine_18 : decode cX10_endLine 18 = .ok (.aload_n 0, 1) := by decide +kernel
theorem dX10_endLine_19 : decode cX10_endLine 19 = .ok (.aload_n 0, 1) := by decide +kernel
theorem dX10_endLine_20 : decode cX10_endLine 20 = .ok (.getfield 29, 3) := by decide +kernel
theorem dX10_endLine_23 : decode cX10_endLine 23 = .ok (.aload_n 0, 1) := by decide +kernel
theorem dX10_endLine_24 : decode cX10_endLine 24 = .ok (.getfield 53, 3) := by decide +kernel
theorem dX10_endLine_27 : decode cX10_endLine 27 = .ok (.iload_n 2, 1) := by decide +kernel
theorem dX10_endLine_28 : decode cX10_endLine 28 = .ok (.iaload, 1) := by decide +kernel
theorem dX10_endLine_29 : decode cX10_endLine 29 = .ok (.iconst 1, 1) := by decide +kernel
theorem dX10_endLine_30 : decode cX10_endLine 30 = .ok (.isub, 1) := by decide +kernel
theorem dX10_endLine_31 : decode cX10_endLine 31 = .ok (.iload_n 1, 1) := by decide +kernel
theorem dX10_endLine_32 : decode cX10_endLine 32 = .ok (.invokevirtual 336, 3) := by decide +kernel
theorem dX10_endLine_35 : decode cX10_endLine 35 = .ok (.pop, 1) := by decide +kernel
theorem dX10_endLine_36 : decode cX10_endLine 36 = .ok (.aload_n 0, 1) := by decide +kernel
theorem dX10_endLine_37 : decode cX10_endLine 37 = .ok (.getfield 53, 3) := by decide +kernel
theorem dX10_endLine_40 : decode cX10_endLine 40 = .ok (.iload_n 2, 1) := by decide +kernel
theorem dX10_endLine_41 : decode cX10_endLine 41 = .ok (.iconst 0, 1) := by decide +kernel
theorem dX10_endLine_42 : decode cX10_endLine 42 = .ok (.iastore, 1) := by decide +kernel
theorem dX10_endLine_43 : decode cX10_endLine 43 = .ok (.return_, 1) := by decide +kernel
theorem dX10_allLine_0 : decode cX10_allLine 0 = .ok (.aload_n 0, 1) := by decide +kernel
theorem dX10_allLine_1 : decode cX10_allLine 1 = .ok (.invokevirtual 204, 3) := by decide +kernel
theorem dX10_allLine_4 : decode cX10_allLine 4 = .ok (.aload_n 0, 1) := by decide +kernel
theorem dX10_allLine_5 : decode cX10_allLine 5 = .ok (.invokevirtual 312, 3) := by decide +kernel
theorem dX10_allLine_8 : decode cX10_allLine 8 = .ok (.ifCond .ne 4, 3) := by decide +kernel
theorem dX10_allLine_11 : decode cX10_allLine 11 = .ok (.return_, 1) := by decide +kernel
theorem dX10_allLine_12 : decode cX10_allLine 12 = .ok (.aload_n 0, 1) := by decide +kernel
theorem dX10_allLine_13 : decode cX10_allLine 13 = .ok (.iload_n 1, 1) := by decide +kernel
theorem dX10_allLine_14 : decode cX10_allLine 14 = .ok (.ifCond .eq 14, 3) := by decide +kernel
theorem dX10_allLine_17 : decode cX10_allLine 17 = .ok (.aload_n 0, 1) := by decide +kernel
theorem dX10_allLine_18 : decode cX10_allLine 18 = .ok (.aload_n 0, 1) := by decide +kernel
theorem dX10_allLine_19 : decode cX10_allLine 19 = .ok (.getfield 29, 3) := by decide +kernel
theorem dX10_allLine_22 : decode cX10_allLine 22 = .ok (.invokevirtual 339, 3) := by decide +kernel
theorem dX10_allLine_25 : decode cX10_allLine 25 = .ok (.goto 11, 3) := by decide +kernel
theorem dX10_allLine_28 : decode cX10_allLine 28 = .ok (.aload_n 0, 1) := by decide +kernel
theorem dX10_allLine_29 : decode cX10_allLine 29 = .ok (.aload_n 0, 1) := by decide +kernel
theorem dX10_allLine_30 : decode cX10_allLine 30 = .ok (.getfield 29, 3) := by decide +kernel
theorem dX10_allLine_33 : decode cX10_allLine 33 = .ok (.invokevirtual 342, 3) := by decide +kernel
theorem dX10_allLine_36 : decode cX10_allLine 36 = .ok (.ifCond .ne 7, 3) := by decide +kernel
theorem dX10_allLine_39 : decode cX10_allLine 39 = .ok (.iconst 1, 1) := by decide +kernel
theorem dX10_allLine_40 : decode cX10_allLine 40 = .ok (.goto 4, 3) := by decide +kernel
theorem dX10_allLine_43 : decode cX10_allLine 43 = .ok (.iconst 0, 1) := by decide +kernel
theorem dX10_allLine_44 : decode cX10_allLine 44 = .ok (.invokevirtual 319, 3) := by decide +kernel
theorem dX10_allLine_47 : decode cX10_allLine 47 = .ok (.return_, 1) := by decide +kernel
theorem dX10_unsureLine_0 : decode cX10_unsureLine 0 = .ok (.aload_n 0, 1) := by decide +kernel
theorem dX10_unsureLine_1 : decode cX10_unsureLine 1 = .ok (.invokevirtual 204, 3) := by decide +kernel
theorem dX10_unsureLine_4 : decode cX10_unsureLine 4 = .ok (.aload_n 0, 1) := by decide +kernel
theorem dX10_unsureLine_5 : decode cX10_unsureLine 5 = .ok (.iconst 0, 1) := by decide +kernel
theorem dX10_unsureLine_6 : decode cX10_unsureLine 6 = .ok (.invokevirtual 325, 3) := by decide +kernel
theorem dX10_unsureLine_9 : decode cX10_unsureLine 9 = .ok (.istore_n 1, 1) := by decide +kernel
theorem dX10_unsureLine_10 : decode cX10_unsureLine 10 = .ok (.aload_n 0, 1) := by decide +kernel
theorem dX10_unsureLine_11 : decode cX10_unsureLine 11 = .ok (.getfield 183, 3) := by decide +kernel
theorem dX10_unsureLine_14 : decode cX10_unsureLine 14 = .ok (.ifCond .eq 4, 3) := by decide +kernel
theorem dX10_unsureLine_17 : decode cX10_unsureLine 17 = .ok (.return_, 1) := by decide +kernel
theorem dX10_unsureLine_18 : decode cX10_unsureLine 18 = .ok (.aload_n 0, 1) := by decide +kernel
theorem dX10_unsureLine_19 : decode cX10_unsureLine 19 = .ok (.getfield 23, 3) := by decide +kernel
theorem dX10_unsureLine_22 : decode cX10_unsureLine 22 = .ok (.bipush 8, 2) := by decide +kernel
theorem dX10_unsureLine_24 : decode cX10_unsureLine 24 = .ok (.aload_n 0, 1) := by decide +kernel
theorem dX10_unsureLine_25 : decode cX10_unsureLine 25 = .ok (.getfield 23, 3) := by decide +kernel
theorem dX10_unsureLine_28 : decode cX10_unsureLine 28 = .ok (.iconst 4, 1) := by decide +kernel
theorem dX10_unsureLine_29 : decode cX10_unsureLine 29 = .ok (.iaload, 1) := by decide +kernel
theorem dX10_unsureLine_30 : decode cX10_unsureLine 30 = .ok (.iadd, 1) := by decide +kernel
theorem dX10_unsureLine_31 : decode cX10_unsureLine 31 = .ok (.iload_n 1, 1) := by decide +kernel
theorem dX10_unsureLine_32 : decode cX10_unsureLine 32 = .ok (.iastore, 1) := by decide +kernel
theorem dX10_unsureLine_33 : decode cX10_unsureLine 33 = .ok (.aload_n 0, 1) := by decide +kernel
theorem dX10_unsureLine_34 : decode cX10_unsureLine 34 = .ok (.getfield 23, 3) := by decide +kernel
theorem dX10_unsureLine_37 : decode cX10_unsureLine 37 = .ok (.iconst 4, 1) := by decide +kernel
theorem dX10_unsureLine_38 : decode cX10_unsureLine 38 = .ok (.dup2, 1) := by decide +kernel
theorem dX10_unsureLine_39 : decode cX10_unsureLine 39 = .ok (.iaload, 1) := by decide +kernel
theorem dX10_unsureLine_40 : decode cX10_unsureLine 40 = .ok (.iconst 1, 1) := by decide +kernel
theorem dX10_unsureLine_41 : decode cX10_unsureLine 41 = .ok (.iadd, 1) := by decide +kernel
theorem dX10_unsureLine_42 : decode cX10_unsureLine 42 = .ok (.iastore, 1) := by decide +kernel
theorem dX10_unsureLine_43 : decode cX10_unsureLine 43 = .ok (.return_, 1) := by decide +kernel
theorem dX10_seenLine_0 : decode cX10_seenLine 0 = .ok (.aload_n 0, 1) := by decide +kernel
theorem dX10_seenLine_1 : decode cX10_seenLine 1 = .ok (.invokevirtual 204, 3) := by decide +kernel
theorem dX10_seenLine_4 : decode cX10_seenLine 4 = .ok (.aload_n 0, 1) := by decide +kernel
theorem dX10_seenLine_5 : decode cX10_seenLine 5 = .ok (.getfield 183, 3) := by decide +kernel
theorem dX10_seenLine_8 : decode cX10_seenLine 8 = .ok (.ifCond .eq 4, 3) := by decide +kernel
theorem dX10_seenLine_11 : decode cX10_seenLine 11 = .ok (.return_, 1) := by decide +kernel
theorem dX10_seenLine_12 : decode cX10_seenLine 12 = .ok (.aload_n 0, 1) := by decide +kernel
theorem dX10_seenLine_13 : decode cX10_seenLine 13 = .ok (.getfield 173, 3) := by decide +kernel
theorem dX10_seenLine_16 : decode cX10_seenLine 16 = .ok (.iconst 3, 1) := by decide +kernel
theorem dX10_seenLine_17 : decode cX10_seenLine 17 = .ok (.if_icmp .eq 15, 3) := by decide +kernel
theorem dX10_seenLine_20 : decode cX10_seenLine 20 = .ok (.aload_n 0, 1) := by decide +kernel
theorem dX10_seenLine_21 : decode cX10_seenLine 21 = .ok (.iconst 1, 1) := by decide +kernel
theorem dX10_seenLine_22 : decode cX10_seenLine 22 = .ok (.aload_n 0, 1) := by decide +kernel
theorem dX10_seenLine_23 : decode cX10_seenLine 23 = .ok (.getfield 164, 3) := by decide +kernel
theorem dX10_seenLine_26 : decode cX10_seenLine 26 = .ok (.invokevirtual 207, 3) := by decide +kernel
theorem dX10_seenLine_29 : decode cX10_seenLine 29 = .ok (.goto 31, 3) := by decide +kernel
theorem dX10_seenLine_32 : decode cX10_seenLine 32 = .ok (.aload_n 0, 1) := by decide +kernel
theorem dX10_seenLine_33 : decode cX10_seenLine 33 = .ok (.getfield 170, 3) := by decide +kernel
theorem dX10_seenLine_36 : decode cX10_seenLine 36 = .ok (.iconst 0, 1) := by decide +kernel
theorem dX10_seenLine_37 : decode cX10_seenLine 37 = .ok (.aload_n 0, 1) := by decide +kernel
theorem dX10_seenLine_38 : decode cX10_seenLine 38 = .ok (.getfield 23, 3) := by decide +kernel
theorem dX10_seenLine_41 : decode cX10_seenLine 41 = .ok (.iconst 1, 1) := by decide +kernel
theorem dX10_seenLine_42 : decode cX10_seenLine 42 = .ok (.iaload, 1) := by decide +kernel
theorem dX10_seenLine_43 : decode cX10_seenLine 43 = .ok (.iconst 1, 1) := by decide +kernel
theorem dX10_seenLine_44 : decode cX10_seenLine 44 = .ok (.isub, 1) := by decide +kernel
theorem dX10_seenLine_45 : decode cX10_seenLine 45 = .ok (.invokestatic 81, 3) := by decide +kernel
theorem dX10_seenLine_48 : decode cX10_seenLine 48 = .ok (.ifCond .ne 12, 3) := by decide +kernel
theorem dX10_seenLine_51 : decode cX10_seenLine 51 = .ok (.aload_n 0, 1) := by decide +kernel
theorem dX10_seenLine_52 : decode cX10_seenLine 52 = .ok (.iconst 4, 1) := by decide +kernel
theorem dX10_seenLine_53 : decode cX10_seenLine 53 = .ok (.aload_n 0, 1) := by decide +kernel
theorem dX10_seenLine_54 : decode cX10_seenLine 54 = .ok (.getfield 164, 3) := by decide +kernel
theorem dX10_seenLine_57 : decode cX10_seenLine 57 = .ok (.invokevirtual 207, 3) := by decide +kernel
theorem dX10_seenLine_60 : decode cX10_seenLine 60 = .ok (.aload_n 0, 1) := by decide +kernel
theorem dX10_seenLine_61 : decode cX10_seenLine 61 = .ok (.getfield 170, 3) := by decide +kernel
theorem dX10_seenLine_64 : decode cX10_seenLine 64 = .ok (.istore_n 1, 1) := by decide +kernel
theorem dX10_seenLine_65 : decode cX10_seenLine 65 = .ok (.aload_n 0, 1) := by decide +kernel
theorem dX10_seenLine_66 : decode cX10_seenLine 66 = .ok (.getfield 183, 3) := by decide +kernel
theorem dX10_seenLine_69 : decode cX10_seenLine 69 = .ok (.ifCond .ne 24, 3) := by decide +kernel
theorem dX10_seenLine_72 : decode cX10_seenLine 72 = .ok (.aload_n 0, 1) := by decide +kernel
theorem dX10_seenLine_73 : decode cX10_seenLine 73 = .ok (.getfield 23, 3) := by decide +kernel
theorem dX10_seenLine_76 : decode cX10_seenLine 76 = .ok (.bipush 12, 2) := by decide +kernel
theorem dX10_seenLine_78 : decode cX10_seenLine 78 = .ok (.iload_n 1, 1) := by decide +kernel
theorem dX10_seenLine_79 : decode cX10_seenLine 79 = .ok (.iadd, 1) := by decide +kernel
theorem dX10_seenLine_80 : decode cX10_seenLine 80 = .ok (.iaload, 1) := by decide +kernel
theorem dX10_seenLine_81 : decode cX10_seenLine 81 = .ok (.ifCond .le 12, 3) := by decide +kernel
theorem dX10_seenLine_84 : decode cX10_seenLine 84 = .ok (.aload_n 0, 1) := by decide +kernel
theorem dX10_seenLine_85 : decode cX10_seenLine 85 = .ok (.iconst 3, 1) := by decide +kernel
theorem dX10_seenLine_86 : decode cX10_seenLine 86 = .ok (.aload_n 0, 1) := by decide +kernel
theorem dX10_seenLine_87 : decode cX10_seenLine 87 = .ok (.getfield 164, 3) := by decide +kernel
theorem dX10_seenLine_90 : decode cX10_seenLine 90 = .ok (.invokevirtual 207, 3) := by decide +kernel
theorem dX10_seenLine_93 : decode cX10_seenLine 93 = .ok (.aload_n 0, 1) := by decide +kernel
theorem dX10_seenLine_94 : decode cX10_seenLine 94 = .ok (.invokevirtual 237, 3) := by decide +kernel
theorem dX10_seenLine_97 : decode cX10_seenLine 97 = .ok (.aload_n 0, 1) := by decide +kernel
theorem dX10_seenLine_98 : decode cX10_seenLine 98 = .ok (.getfield 183, 3) := by decide +kernel
theorem dX10_seenLine_101 : decode cX10_seenLine 101 = .ok (.ifCond .eq 4, 3) := by decide +kernel
theorem dX10_seenLine_104 : decode cX10_seenLine 104 = .ok (.return_, 1) := by decide +kernel
theorem dX10_seenLine_105 : decode cX10_seenLine 105 = .ok (.iconst (-1), 1) := by decide +kernel
theorem dX10_seenLine_106 : decode cX10_seenLine 106 = .ok (.istore_n 2, 1) := by decide +kernel
theorem dX10_seenLine_107 : decode cX10_seenLine 107 = .ok (.aload_n 0, 1) := by decide +kernel
theorem dX10_seenLine_108 : decode cX10_seenLine 108 = .ok (.ldc 235, 2) := by decide +kernel
theorem dX10_seenLine_110 : decode cX10_seenLine 110 = .ok (.invokevirtual 200, 3) := by decide +kernel
theorem dX10_seenLine_113 : decode cX10_seenLine 113 = .ok (.ifCond .eq 10, 3) := by decide +kernel
theorem dX10_seenLine_116 : decode cX10_seenLine 116 = .ok (.aload_n 0, 1) := by decide +kernel
theorem dX10_seenLine_117 : decode cX10_seenLine 117 = .ok (.invokevirtual 204, 3) := by decide +kernel
theorem dX10_seenLine_120 : decode cX10_seenLine 120 = .ok (.goto 12, 3) := by decide +kernel
theorem dX10_seenLine_123 : decode cX10_seenLine 123 = .ok (.aload_n 0, 1) := by decide +kernel
theorem dX10_seenLine_124 : decode cX10_seenLine 124 = .ok (.iconst 0, 1) := by decide +kernel
theorem dX10_seenLine_125 : decode cX10_seenLine 125 = .ok (.sipush 999, 3) := by decide +kernel
theorem dX10_seenLine_128 : decode cX10_seenLine 128 = .ok (.invokevirtual 244, 3) := by decide +kernel
theorem dX10_seenLine_131 : decode cX10_seenLine 131 = .ok (.istore_n 2, 1) := by decide +kernel
theorem dX10_seenLine_132 : decode cX10_seenLine 132 = .ok (.aload_n 0, 1) := by decide +kernel
theorem dX10_seenLine_133 : decode cX10_seenLine 133 = .ok (.getfield 183, 3) := by decide +kernel
theorem dX10_seenLine_136 : decode cX10_seenLine 136 = .ok (.ifCond .eq 4, 3) := by decide +kernel
theorem dX10_seenLine_139 : decode cX10_seenLine 139 = .ok (.return_, 1) := by decide +kernel
theorem dX10_seenLine_140 : decode cX10_seenLine 140 = .ok (.aload_n 0, 1) := by decide +kernel
theorem dX10_seenLine_141 : decode cX10_seenLine 141 = .ok (.getfield 23, 3) := by decide +kernel
theorem dX10_seenLine_144 : decode cX10_seenLine 144 = .ok (.bipush 12, 2) := by decide +kernel
theorem dX10_seenLine_146 : decode cX10_seenLine 146 = .ok (.iload_n 1, 1) := by decide +kernel
theorem dX10_seenLine_147 : decode cX10_seenLine 147 = .ok (.iadd, 1) := by decide +kernel
theorem dX10_seenLine_148 : decode cX10_seenLine 148 = .ok (.iload_n 2, 1) := by decide +kernel
theorem dX10_seenLine_149 : decode cX10_seenLine 149 = .ok (.iconst 2, 1) := by decide +kernel
theorem dX10_seenLine_150 : decode cX10_seenLine 150 = .ok (.iadd, 1) := by decide +kernel
theorem dX10_seenLine_151 : decode cX10_seenLine 151 = .ok (.iastore, 1) := by decide +kernel
theorem dX10_seenLine_152 : decode cX10_seenLine 152 = .ok (.aload_n 0, 1) := by decide +kernel
theorem dX10_seenLine_153 : decode cX10_seenLine 153 = .ok (.getfield 59, 3) := by decide +kernel
theorem dX10_seenLine_156 : decode cX10_seenLine 156 = .ok (.aload_n 0, 1) := by decide +kernel
theorem dX10_seenLine_157 : decode cX10_seenLine 157 = .ok (.getfield 23, 3) := by decide +kernel
theorem dX10_seenLine_160 : decode cX10_seenLine 160 = .ok (.iconst 5, 1) := by decide +kernel
theorem dX10_seenLine_161 : decode cX10_seenLine 161 = .ok (.iaload, 1) := by decide +kernel
theorem dX10_seenLine_162 : decode cX10_seenLine 162 = .ok (.iload_n 1, 1) := by decide +kernel
theorem dX10_seenLine_163 : decode cX10_seenLine 163 = .ok (.iastore, 1) := by decide +kernel
theorem dX10_seenLine_164 : decode cX10_seenLine 164 = .ok (.aload_n 0, 1) := by decide +kernel
theorem dX10_seenLine_165 : decode cX10_seenLine 165 = .ok (.getfield 23, 3) := by decide +kernel
theorem dX10_seenLine_168 : decode cX10_seenLine 168 = .ok (.iconst 5, 1) := by decide +kernel
theorem dX10_seenLine_169 : decode cX10_seenLine 169 = .ok (.dup2, 1) := by decide +kernel
theorem dX10_seenLine_170 : decode cX10_seenLine 170 = .ok (.iaload, 1) := by decide +kernel
theorem dX10_seenLine_171 : decode cX10_seenLine 171 = .ok (.iconst 1, 1) := by decide +kernel
theorem dX10_seenLine_172 : decode cX10_seenLine 172 = .ok (.iadd, 1) := by decide +kernel
theorem dX10_seenLine_173 : decode cX10_seenLine 173 = .ok (.iastore, 1) := by decide +kernel
theorem dX10_seenLine_174 : decode cX10_seenLine 174 = .ok (.return_, 1) := by decide +kernel
theorem dX10_fault_0 : decode cX10_fault 0 = .ok (.aload_n 0, 1) := by decide +kernel
theorem dX10_fault_1 : decode cX10_fault 1 = .ok (.iconst 0, 1) := by decide +kernel
theorem dX10_fault_2 : decode cX10_fault 2 = .ok (.putfield 65, 3) := by decide +kernel
theorem dX10_fault_5 : decode cX10_fault 5 = .ok (.aload_n 0, 1) := by decide +kernel
theorem dX10_fault_6 : decode cX10_fault 6 = .ok (.getfield 187, 3) := by decide +kernel
theorem dX10_fault_9 : decode cX10_fault 9 = .ok (.ireturn, 1) := by decide +kernel
theorem dX10_where_0 : decode cX10_where 0 = .ok (.aload_n 0, 1) := by decide +kernel
theorem dX10_where_1 : decode cX10_where 1 = .ok (.iconst 0, 1) := by decide +kernel
theorem dX10_where_2 : decode cX10_where 2 = .ok (.putfield 65, 3) := by decide +kernel
theorem dX10_where_5 : decode cX10_where 5 = .ok (.aload_n 0, 1) := by decide +kernel
theorem dX10_where_6 : decode cX10_where 6 = .ok (.getfield 68, 3) := by decide +kernel
theorem dX10_where_9 : decode cX10_where 9 = .ok (.iconst 4, 1) := by decide +kernel
theorem dX10_where_10 : decode cX10_where 10 = .ok (.if_icmp .ne 10, 3) := by decide +kernel
theorem dX10_where_13 : decode cX10_where 13 = .ok (.aload_n 0, 1) := by decide +kernel
theorem dX10_where_14 : decode cX10_where 14 = .ok (.getfield 13, 3) := by decide +kernel
theorem dX10_where_17 : decode cX10_where 17 = .ok (.goto 4, 3) := by decide +kernel
theorem dX10_where_20 : decode cX10_where 20 = .ok (.iconst (-1), 1) := by decide +kernel
theorem dX10_where_21 : decode cX10_where 21 = .ok (.ireturn, 1) := by decide +kernel
theorem dX10_isSlot_0 : decode cX10_isSlot 0 = .ok (.aload_n 0, 1) := by decide +kernel
theorem dX10_isSlot_1 : decode cX10_isSlot 1 = .ok (.getfield 260, 3) := by decide +kernel
theorem dX10_isSlot_4 : decode cX10_isSlot 4 = .ok (.ifCond .eq 28, 3) := by decide +kernel
theorem dX10_isSlot_7 : decode cX10_isSlot 7 = .ok (.iload_n 1, 1) := by decide +kernel
theorem dX10_isSlot_8 : decode cX10_isSlot 8 = .ok (.iconst 0, 1) := by decide +kernel
theorem dX10_isSlot_9 : decode cX10_isSlot 9 = .ok (.iconst 5, 1) := by decide +kernel
theorem dX10_isSlot_10 : decode cX10_isSlot 10 = .ok (.invokestatic 81, 3) := by decide +kernel
theorem dX10_isSlot_13 : decode cX10_isSlot 13 = .ok (.ifCond .eq 19, 3) := by decide +kernel
theorem dX10_isSlot_16 : decode cX10_isSlot 16 = .ok (.aload_n 0, 1) := by decide +kernel
theorem dX10_isSlot_17 : decode cX10_isSlot 17 = .ok (.aload_n 0, 1) := by decide +kernel
theorem dX10_isSlot_18 : decode cX10_isSlot 18 = .ok (.getfield 38, 3) := by decide +kernel
theorem dX10_isSlot_21 : decode cX10_isSlot 21 = .ok (.iload_n 1, 1) := by decide +kernel
theorem dX10_isSlot_22 : decode cX10_isSlot 22 = .ok (.invokevirtual 116, 3) := by decide +kernel
theorem dX10_isSlot_25 : decode cX10_isSlot 25 = .ok (.ifCond .eq 7, 3) := by decide +kernel
theorem dX10_isSlot_28 : decode cX10_isSlot 28 = .ok (.iconst 1, 1) := by decide +kernel
theorem dX10_isSlot_29 : decode cX10_isSlot 29 = .ok (.goto 4, 3) := by decide +kernel
theorem dX10_isSlot_32 : decode cX10_isSlot 32 = .ok (.iconst 0, 1) := by decide +kernel
theorem dX10_isSlot_33 : decode cX10_isSlot 33 = .ok (.ireturn, 1) := by decide +kernel
theorem dX10_isRow_0 : decode cX10_isRow 0 = .ok (.aload_n 0, 1) := by decide +kernel
theorem dX10_isRow_1 : decode cX10_isRow 1 = .ok (.getfield 260, 3) := by decide +kernel
theorem dX10_isRow_4 : decode cX10_isRow 4 = .ok (.ifCond .eq 23, 3) := by decide +kernel
theorem dX10_isRow_7 : decode cX10_isRow 7 = .ok (.iload_n 1, 1) := by decide +kernel
theorem dX10_isRow_8 : decode cX10_isRow 8 = .ok (.iconst 0, 1) := by decide +kernel
theorem dX10_isRow_9 : decode cX10_isRow 9 = .ok (.aload_n 0, 1) := by decide +kernel
theorem dX10_isRow_10 : decode cX10_isRow 10 = .ok (.getfield 20, 3) := by decide +kernel
theorem dX10_isRow_13 : decode cX10_isRow 13 = .ok (.iconst 1, 1) := by decide +kernel
theorem dX10_isRow_14 : decode cX10_isRow 14 = .ok (.iaload, 1) := by decide +kernel
theorem dX10_isRow_15 : decode cX10_isRow 15 = .ok (.iconst 1, 1) := by decide +kernel
theorem dX10_isRow_16 : decode cX10_isRow 16 = .ok (.isub, 1) := by decide +kernel
theorem dX10_isRow_17 : decode cX10_isRow 17 = .ok (.invokestatic 81, 3) := by decide +kernel
theorem dX10_isRow_20 : decode cX10_isRow 20 = .ok (.ifCond .eq 7, 3) := by decide +kernel
theorem dX10_isRow_23 : decode cX10_isRow 23 = .ok (.iconst 1, 1) := by decide +kernel
theorem dX10_isRow_24 : decode cX10_isRow 24 = .ok (.goto 4, 3) := by decide +kernel
theorem dX10_isRow_27 : decode cX10_isRow 27 = .ok (.iconst 0, 1) := by decide +kernel
theorem dX10_isRow_28 : decode cX10_isRow 28 = .ok (.ireturn, 1) := by decide +kernel
theorem dX10_isVersion_0 : decode cX10_isVersion 0 = .ok (.aload_n 0, 1) := by decide +kernel
theorem dX10_isVersion_1 : decode cX10_isVersion 1 = .ok (.getfield 260, 3) := by decide +kernel
theorem dX10_isVersion_4 : decode cX10_isVersion 4 = .ok (.ifCond .eq 28, 3) := by decide +kernel
theorem dX10_isVersion_7 : decode cX10_isVersion 7 = .ok (.iload_n 1, 1) := by decide +kernel
theorem dX10_isVersion_8 : decode cX10_isVersion 8 = .ok (.iconst 0, 1) := by decide +kernel
theorem dX10_isVersion_9 : decode cX10_isVersion 9 = .ok (.bipush 47, 2) := by decide +kernel
theorem dX10_isVersion_11 : decode cX10_isVersion 11 = .ok (.invokestatic 81, 3) := by decide +kernel
theorem dX10_isVersion_14 : decode cX10_isVersion 14 = .ok (.ifCond .eq 18, 3) := by decide +kernel
theorem dX10_isVersion_17 : decode cX10_isVersion 17 = .ok (.aload_n 0, 1) := by decide +kernel
theorem dX10_isVersion_18 : decode cX10_isVersion 18 = .ok (.getfield 38, 3) := by decide +kernel
theorem dX10_isVersion_21 : decode cX10_isVersion 21 = .ok (.iconst 0, 1) := by decide +kernel
theorem dX10_isVersion_22 : decode cX10_isVersion 22 = .ok (.iload_n 1, 1) := by decide +kernel
theorem dX10_isVersion_23 : decode cX10_isVersion 23 = .ok (.iadd, 1) := by decide +kernel
theorem dX10_isVersion_24 : decode cX10_isVersion 24 = .ok (.iaload, 1) := by decide +kernel
theorem dX10_isVersion_25 : decode cX10_isVersion 25 = .ok (.ifCond .le 7, 3) := by decide +kernel
theorem dX10_isVersion_28 : decode cX10_isVersion 28 = .ok (.iconst 1, 1) := by decide +kernel
theorem dX10_isVersion_29 : decode cX10_isVersion 29 = .ok (.goto 4, 3) := by decide +kernel
theorem dX10_isVersion_32 : decode cX10_isVersion 32 = .ok (.iconst 0, 1) := by decide +kernel
theorem dX10_isVersion_33 : decode cX10_isVersion 33 = .ok (.ireturn, 1) := by decide +kernel
theorem dX10_isStamp_0 : decode cX10_isStamp 0 = .ok (.iload_n 1, 1) := by decide +kernel
theorem dX10_isStamp_1 : decode cX10_isStamp 1 = .ok (.iconst 0, 1) := by decide +kernel
theorem dX10_isStamp_2 : decode cX10_isStamp 2 = .ok (.aload_n 0, 1) := by decide +kernel
theorem dX10_isStamp_3 : decode cX10_isStamp 3 = .ok (.getfield 74, 3) := by decide +kernel
theorem dX10_isStamp_6 : decode cX10_isStamp 6 = .ok (.iconst 1, 1) := by decide +kernel
theorem dX10_isStamp_7 : decode cX10_isStamp 7 = .ok (.isub, 1) := by decide +kernel
theorem dX10_isStamp_8 : decode cX10_isStamp 8 = .ok (.invokestatic 81, 3) := by decide +kernel
theorem dX10_isStamp_11 : decode cX10_isStamp 11 = .ok (.ireturn, 1) := by decide +kernel
theorem dX10_why_0 : decode cX10_why 0 = .ok (.iload_n 1, 1) := by decide +kernel
theorem dX10_why_1 : decode cX10_why 1 = .ok (.ifCond .ne 7, 3) := by decide +kernel
theorem dX10_why_4 : decode cX10_why 4 = .ok (.iconst 1, 1) := by decide +kernel
theorem dX10_why_5 : decode cX10_why 5 = .ok (.goto 12, 3) := by decide +kernel
theorem dX10_why_8 : decode cX10_why 8 = .ok (.iload_n 2, 1) := by decide +kernel
theorem dX10_why_9 : decode cX10_why 9 = .ok (.ifCond .eq 7, 3) := by decide +kernel
theorem dX10_why_12 : decode cX10_why 12 = .ok (.iconst 0, 1) := by decide +kernel
theorem dX10_why_13 : decode cX10_why 13 = .ok (.goto 4, 3) := by decide +kernel
theorem dX10_why_16 : decode cX10_why 16 = .ok (.iconst 2, 1) := by decide +kernel
theorem dX10_why_17 : decode cX10_why 17 = .ok (.ireturn, 1) := by decide +kernel
theorem dX10_next_0 : decode cX10_next 0 = .ok (.aload_n 0, 1) := by decide +kernel
theorem dX10_next_1 : decode cX10_next 1 = .ok (.invokevirtual 247, 3) := by decide +kernel
theorem dX10_next_4 : decode cX10_next 4 = .ok (.aload_n 0, 1) := by decide +kernel
theorem dX10_next_5 : decode cX10_next 5 = .ok (.getfield 260, 3) := by decide +kernel
theorem dX10_next_8 : decode cX10_next 8 = .ok (.ifCond .eq 14, 3) := by decide +kernel
theorem dX10_next_11 : decode cX10_next 11 = .ok (.aload_n 0, 1) := by decide +kernel
theorem dX10_next_12 : decode cX10_next 12 = .ok (.getfield 38, 3) := by decide +kernel
theorem dX10_next_15 : decode cX10_next 15 = .ok (.sipush 323, 3) := by decide +kernel
theorem dX10_next_18 : decode cX10_next 18 = .ok (.iaload, 1) := by decide +kernel
theorem dX10_next_19 : decode cX10_next 19 = .ok (.goto 8, 3) := by decide +kernel
theorem dX10_next_22 : decode cX10_next 22 = .ok (.aload_n 0, 1) := by decide +kernel
theorem dX10_next_23 : decode cX10_next 23 = .ok (.iconst 1, 1) := by decide +kernel
theorem dX10_next_24 : decode cX10_next 24 = .ok (.invokevirtual 250, 3) := by decide +kernel
theorem dX10_next_27 : decode cX10_next 27 = .ok (.ireturn, 1) := by decide +kernel
theorem dX10_age_0 : decode cX10_age 0 = .ok (.aload_n 0, 1) := by decide +kernel
theorem dX10_age_1 : decode cX10_age 1 = .ok (.invokevirtual 247, 3) := by decide +kernel
theorem dX10_age_4 : decode cX10_age 4 = .ok (.aload_n 0, 1) := by decide +kernel
theorem dX10_age_5 : decode cX10_age 5 = .ok (.aload_n 0, 1) := by decide +kernel
theorem dX10_age_6 : decode cX10_age 6 = .ok (.getfield 260, 3) := by decide +kernel
theorem dX10_age_9 : decode cX10_age 9 = .ok (.aload_n 0, 1) := by decide +kernel
theorem dX10_age_10 : decode cX10_age 10 = .ok (.iload_n 1, 1) := by decide +kernel
theorem dX10_age_11 : decode cX10_age 11 = .ok (.invokevirtual 345, 3) := by decide +kernel
theorem dX10_age_14 : decode cX10_age 14 = .ok (.invokevirtual 348, 3) := by decide +kernel
theorem dX10_age_17 : decode cX10_age 17 = .ok (.istore_n 2, 1) := by decide +kernel
theorem dX10_age_18 : decode cX10_age 18 = .ok (.iload_n 2, 1) := by decide +kernel
theorem dX10_age_19 : decode cX10_age 19 = .ok (.ifCond .eq 11, 3) := by decide +kernel
theorem dX10_age_22 : decode cX10_age 22 = .ok (.aload_n 0, 1) := by decide +kernel
theorem dX10_age_23 : decode cX10_age 23 = .ok (.iload_n 2, 1) := by decide +kernel
theorem dX10_age_24 : decode cX10_age 24 = .ok (.invokevirtual 250, 3) := by decide +kernel
theorem dX10_age_27 : decode cX10_age 27 = .ok (.goto 12, 3) := by decide +kernel
theorem dX10_age_30 : decode cX10_age 30 = .ok (.aload_n 0, 1) := by decide +kernel
theorem dX10_age_31 : decode cX10_age 31 = .ok (.aload_n 0, 1) := by decide +kernel
theorem dX10_age_32 : decode cX10_age 32 = .ok (.getfield 38, 3) := by decide +kernel
theorem dX10_age_35 : decode cX10_age 35 = .ok (.iload_n 1, 1) := by decide +kernel
theorem dX10_age_36 : decode cX10_age 36 = .ok (.invokevirtual 113, 3) := by decide +kernel
theorem dX10_age_39 : decode cX10_age 39 = .ok (.ireturn, 1) := by decide +kernel
theorem dX10_older_0 : decode cX10_older 0 = .ok (.aload_n 0, 1) := by decide +kernel
theorem dX10_older_1 : decode cX10_older 1 = .ok (.invokevirtual 247, 3) := by decide +kernel
theorem dX10_older_4 : decode cX10_older 4 = .ok (.aload_n 0, 1) := by decide +kernel
theorem dX10_older_5 : decode cX10_older 5 = .ok (.aload_n 0, 1) := by decide +kernel
theorem dX10_older_6 : decode cX10_older 6 = .ok (.getfield 260, 3) := by decide +kernel
theorem dX10_older_9 : decode cX10_older 9 = .ok (.aload_n 0, 1) := by decide +kernel
theorem dX10_older_10 : decode cX10_older 10 = .ok (.iload_n 1, 1) := by decide +kernel
theorem dX10_older_11 : decode cX10_older 11 = .ok (.invokevirtual 345, 3) := by decide +kernel
theorem dX10_older_14 : decode cX10_older 14 = .ok (.ifCond .eq 15, 3) := by decide +kernel
theorem dX10_older_17 : decode cX10_older 17 = .ok (.aload_n 0, 1) := by decide +kernel
theorem dX10_older_18 : decode cX10_older 18 = .ok (.iload_n 2, 1) := by decide +kernel
theorem dX10_older_19 : decode cX10_older 19 = .ok (.invokevirtual 345, 3) := by decide +kernel
theorem dX10_older_22 : decode cX10_older 22 = .ok (.ifCond .eq 7, 3) := by decide +kernel
theorem dX10_older_25 : decode cX10_older 25 = .ok (.iconst 1, 1) := by decide +kernel
theorem dX10_older_26 : decode cX10_older 26 = .ok (.goto 4, 3) := by decide +kernel
theorem dX10_older_29 : decode cX10_older 29 = .ok (.iconst 0, 1) := by decide +kernel
theorem dX10_older_30 : decode cX10_older 30 = .ok (.invokevirtual 348, 3) := by decide +kernel
theorem dX10_older_33 : decode cX10_older 33 = .ok (.istore_n 3, 1) := by decide +kernel
theorem dX10_older_34 : decode cX10_older 34 = .ok (.iload_n 3, 1) := by decide +kernel
theorem dX10_older_35 : decode cX10_older 35 = .ok (.ifCond .eq 9, 3) := by decide +kernel
theorem dX10_older_38 : decode cX10_older 38 = .ok (.aload_n 0, 1) := by decide +kernel
theorem dX10_older_39 : decode cX10_older 39 = .ok (.iload_n 3, 1) := by decide +kernel
theorem dX10_older_40 : decode cX10_older 40 = .ok (.invokevirtual 250, 3) := by decide +kernel
theorem dX10_older_43 : decode cX10_older 43 = .ok (.ireturn, 1) := by decide +kernel
theorem dX10_older_44 : decode cX10_older 44 = .ok (.aload_n 0, 1) := by decide +kernel
theorem dX10_older_45 : decode cX10_older 45 = .ok (.iload_n 1, 1) := by decide +kernel
theorem dX10_older_46 : decode cX10_older 46 = .ok (.iload_n 2, 1) := by decide +kernel
theorem dX10_older_47 : decode cX10_older 47 = .ok (.invokevirtual 89, 3) := by decide +kernel
theorem dX10_older_50 : decode cX10_older 50 = .ok (.ifCond .eq 7, 3) := by decide +kernel
theorem dX10_older_53 : decode cX10_older 53 = .ok (.iconst 1, 1) := by decide +kernel
theorem dX10_older_54 : decode cX10_older 54 = .ok (.goto 4, 3) := by decide +kernel
theorem dX10_older_57 : decode cX10_older 57 = .ok (.iconst 0, 1) := by decide +kernel
theorem dX10_older_58 : decode cX10_older 58 = .ok (.ireturn, 1) := by decide +kernel
theorem dX10_oldest_0 : decode cX10_oldest 0 = .ok (.aload_n 0, 1) := by decide +kernel
theorem dX10_oldest_1 : decode cX10_oldest 1 = .ok (.invokevirtual 247, 3) := by decide +kernel
theorem dX10_oldest_4 : decode cX10_oldest 4 = .ok (.aload_n 0, 1) := by decide +kernel
theorem dX10_oldest_5 : decode cX10_oldest 5 = .ok (.getfield 260, 3) := by decide +kernel
theorem dX10_oldest_8 : decode cX10_oldest 8 = .ok (.ifCond .eq 14, 3) := by decide +kernel
theorem dX10_oldest_11 : decode cX10_oldest 11 = .ok (.aload_n 0, 1) := by decide +kernel
theorem dX10_oldest_12 : decode cX10_oldest 12 = .ok (.aload_n 0, 1) := by decide +kernel
theorem dX10_oldest_13 : decode cX10_oldest 13 = .ok (.getfield 38, 3) := by decide +kernel
theorem dX10_oldest_16 : decode cX10_oldest 16 = .ok (.invokevirtual 127, 3) := by decide +kernel
theorem dX10_oldest_19 : decode cX10_oldest 19 = .ok (.goto 8, 3) := by decide +kernel
theorem dX10_oldest_22 : decode cX10_oldest 22 = .ok (.aload_n 0, 1) := by decide +kernel
theorem dX10_oldest_23 : decode cX10_oldest 23 = .ok (.iconst 1, 1) := by decide +kernel
theorem dX10_oldest_24 : decode cX10_oldest 24 = .ok (.invokevirtual 250, 3) := by decide +kernel
theorem dX10_oldest_27 : decode cX10_oldest 27 = .ok (.ireturn, 1) := by decide +kernel
theorem dX10_roomOf_0 : decode cX10_roomOf 0 = .ok (.aload_n 0, 1) := by decide +kernel
theorem dX10_roomOf_1 : decode cX10_roomOf 1 = .ok (.aload_n 1, 1) := by decide +kernel
theorem dX10_roomOf_2 : decode cX10_roomOf 2 = .ok (.iconst (-1), 1) := by decide +kernel
theorem dX10_roomOf_3 : decode cX10_roomOf 3 = .ok (.invokevirtual 106, 3) := by decide +kernel
theorem dX10_roomOf_6 : decode cX10_roomOf 6 = .ok (.ifCond .ge 5, 3) := by decide +kernel
theorem dX10_roomOf_9 : decode cX10_roomOf 9 = .ok (.iconst 0, 1) := by decide +kernel
theorem dX10_roomOf_10 : decode cX10_roomOf 10 = .ok (.ireturn, 1) := by decide +kernel
theorem dX10_roomOf_11 : decode cX10_roomOf 11 = .ok (.aload_n 0, 1) := by decide +kernel
theorem dX10_roomOf_12 : decode cX10_roomOf 12 = .ok (.aload_n 1, 1) := by decide +kernel
theorem dX10_roomOf_13 : decode cX10_roomOf 13 = .ok (.invokevirtual 127, 3) := by decide +kernel
theorem dX10_roomOf_16 : decode cX10_roomOf 16 = .ok (.istore_n 2, 1) := by decide +kernel
theorem dX10_roomOf_17 : decode cX10_roomOf 17 = .ok (.iload_n 2, 1) := by decide +kernel
theorem dX10_roomOf_18 : decode cX10_roomOf 18 = .ok (.ifCond .ge 8, 3) := by decide +kernel
