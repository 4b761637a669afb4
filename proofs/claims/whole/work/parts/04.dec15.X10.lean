theorem dX10_step_107 : decode cX10_step 107 = .ok (.iadd, 1) := by decide +kernel
theorem dX10_step_108 : decode cX10_step 108 = .ok (.putfield 167, 3) := by decide +kernel
theorem dX10_step_111 : decode cX10_step 111 = .ok (.iinc 1 1, 3) := by decide +kernel
theorem dX10_step_114 : decode cX10_step 114 = .ok (.goto (-47), 3) := by decide +kernel
theorem dX10_step_117 : decode cX10_step 117 = .ok (.aload_n 0, 1) := by decide +kernel
theorem dX10_step_118 : decode cX10_step 118 = .ok (.iload_n 1, 1) := by decide +kernel
theorem dX10_step_119 : decode cX10_step 119 = .ok (.putfield 157, 3) := by decide +kernel
theorem dX10_step_122 : decode cX10_step 122 = .ok (.aload_n 0, 1) := by decide +kernel
theorem dX10_step_123 : decode cX10_step 123 = .ok (.aload_n 0, 1) := by decide +kernel
theorem dX10_step_124 : decode cX10_step 124 = .ok (.getfield 167, 3) := by decide +kernel
theorem dX10_step_127 : decode cX10_step 127 = .ok (.bipush 8, 2) := by decide +kernel
theorem dX10_step_129 : decode cX10_step 129 = .ok (.if_icmp .le 7, 3) := by decide +kernel
theorem dX10_step_132 : decode cX10_step 132 = .ok (.iconst 1, 1) := by decide +kernel
theorem dX10_step_133 : decode cX10_step 133 = .ok (.goto 4, 3) := by decide +kernel
theorem dX10_step_136 : decode cX10_step 136 = .ok (.iconst 2, 1) := by decide +kernel
theorem dX10_step_137 : decode cX10_step 137 = .ok (.putfield 173, 3) := by decide +kernel
theorem dX10_step_140 : decode cX10_step 140 = .ok (.goto 101, 3) := by decide +kernel
theorem dX10_step_143 : decode cX10_step 143 = .ok (.iload_n 2, 1) := by decide +kernel
theorem dX10_step_144 : decode cX10_step 144 = .ok (.invokestatic 180, 3) := by decide +kernel
theorem dX10_step_147 : decode cX10_step 147 = .ok (.ifCond .eq 72, 3) := by decide +kernel
theorem dX10_step_150 : decode cX10_step 150 = .ok (.iconst 0, 1) := by decide +kernel
theorem dX10_step_151 : decode cX10_step 151 = .ok (.istore_n 3, 1) := by decide +kernel
theorem dX10_step_152 : decode cX10_step 152 = .ok (.aload_n 0, 1) := by decide +kernel
theorem dX10_step_153 : decode cX10_step 153 = .ok (.iload_n 1, 1) := by decide +kernel
theorem dX10_step_154 : decode cX10_step 154 = .ok (.invokevirtual 160, 3) := by decide +kernel
theorem dX10_step_157 : decode cX10_step 157 = .ok (.invokestatic 180, 3) := by decide +kernel
theorem dX10_step_160 : decode cX10_step 160 = .ok (.ifCond .eq 37, 3) := by decide +kernel
theorem dX10_step_163 : decode cX10_step 163 = .ok (.iload_n 3, 1) := by decide +kernel
theorem dX10_step_164 : decode cX10_step 164 = .ok (.iconst 3, 1) := by decide +kernel
theorem dX10_step_165 : decode cX10_step 165 = .ok (.if_icmp .ge 23, 3) := by decide +kernel
theorem dX10_step_168 : decode cX10_step 168 = .ok (.aload_n 0, 1) := by decide +kernel
theorem dX10_step_169 : decode cX10_step 169 = .ok (.bipush 10, 2) := by decide +kernel
theorem dX10_step_171 : decode cX10_step 171 = .ok (.aload_n 0, 1) := by decide +kernel
theorem dX10_step_172 : decode cX10_step 172 = .ok (.getfield 170, 3) := by decide +kernel
theorem dX10_step_175 : decode cX10_step 175 = .ok (.imul, 1) := by decide +kernel
theorem dX10_step_176 : decode cX10_step 176 = .ok (.aload_n 0, 1) := by decide +kernel
theorem dX10_step_177 : decode cX10_step 177 = .ok (.iload_n 1, 1) := by decide +kernel
theorem dX10_step_178 : decode cX10_step 178 = .ok (.invokevirtual 160, 3) := by decide +kernel
theorem dX10_step_181 : decode cX10_step 181 = .ok (.iadd, 1) := by decide +kernel
theorem dX10_step_182 : decode cX10_step 182 = .ok (.bipush 48, 2) := by decide +kernel
theorem dX10_step_184 : decode cX10_step 184 = .ok (.isub, 1) := by decide +kernel
theorem dX10_step_185 : decode cX10_step 185 = .ok (.putfield 170, 3) := by decide +kernel
theorem dX10_step_188 : decode cX10_step 188 = .ok (.iinc 3 1, 3) := by decide +kernel
theorem dX10_step_191 : decode cX10_step 191 = .ok (.iinc 1 1, 3) := by decide +kernel
theorem dX10_step_194 : decode cX10_step 194 = .ok (.goto (-42), 3) := by decide +kernel
theorem dX10_step_197 : decode cX10_step 197 = .ok (.aload_n 0, 1) := by decide +kernel
theorem dX10_step_198 : decode cX10_step 198 = .ok (.iload_n 1, 1) := by decide +kernel
theorem dX10_step_199 : decode cX10_step 199 = .ok (.putfield 157, 3) := by decide +kernel
theorem dX10_step_202 : decode cX10_step 202 = .ok (.aload_n 0, 1) := by decide +kernel
theorem dX10_step_203 : decode cX10_step 203 = .ok (.iload_n 3, 1) := by decide +kernel
theorem dX10_step_204 : decode cX10_step 204 = .ok (.iconst 3, 1) := by decide +kernel
theorem dX10_step_205 : decode cX10_step 205 = .ok (.if_icmp .le 7, 3) := by decide +kernel
theorem dX10_step_208 : decode cX10_step 208 = .ok (.iconst 1, 1) := by decide +kernel
theorem dX10_step_209 : decode cX10_step 209 = .ok (.goto 4, 3) := by decide +kernel
theorem dX10_step_212 : decode cX10_step 212 = .ok (.iconst 3, 1) := by decide +kernel
theorem dX10_step_213 : decode cX10_step 213 = .ok (.putfield 173, 3) := by decide +kernel
theorem dX10_step_216 : decode cX10_step 216 = .ok (.goto 25, 3) := by decide +kernel
theorem dX10_step_219 : decode cX10_step 219 = .ok (.aload_n 0, 1) := by decide +kernel
theorem dX10_step_220 : decode cX10_step 220 = .ok (.iload_n 1, 1) := by decide +kernel
theorem dX10_step_221 : decode cX10_step 221 = .ok (.iconst 1, 1) := by decide +kernel
theorem dX10_step_222 : decode cX10_step 222 = .ok (.iadd, 1) := by decide +kernel
theorem dX10_step_223 : decode cX10_step 223 = .ok (.putfield 157, 3) := by decide +kernel
theorem dX10_step_226 : decode cX10_step 226 = .ok (.aload_n 0, 1) := by decide +kernel
theorem dX10_step_227 : decode cX10_step 227 = .ok (.iload_n 2, 1) := by decide +kernel
theorem dX10_step_228 : decode cX10_step 228 = .ok (.bipush 59, 2) := by decide +kernel
theorem dX10_step_230 : decode cX10_step 230 = .ok (.if_icmp .ne 7, 3) := by decide +kernel
theorem dX10_step_233 : decode cX10_step 233 = .ok (.iload_n 2, 1) := by decide +kernel
theorem dX10_step_234 : decode cX10_step 234 = .ok (.goto 4, 3) := by decide +kernel
theorem dX10_step_237 : decode cX10_step 237 = .ok (.iconst 1, 1) := by decide +kernel
theorem dX10_step_238 : decode cX10_step 238 = .ok (.putfield 173, 3) := by decide +kernel
theorem dX10_step_241 : decode cX10_step 241 = .ok (.return_, 1) := by decide +kernel
theorem dX10_wrong_0 : decode cX10_wrong 0 = .ok (.aload_n 0, 1) := by decide +kernel
theorem dX10_wrong_1 : decode cX10_wrong 1 = .ok (.getfield 183, 3) := by decide +kernel
theorem dX10_wrong_4 : decode cX10_wrong 4 = .ok (.ifCond .eq 4, 3) := by decide +kernel
theorem dX10_wrong_7 : decode cX10_wrong 7 = .ok (.return_, 1) := by decide +kernel
theorem dX10_wrong_8 : decode cX10_wrong 8 = .ok (.aload_n 0, 1) := by decide +kernel
theorem dX10_wrong_9 : decode cX10_wrong 9 = .ok (.iconst 1, 1) := by decide +kernel
theorem dX10_wrong_10 : decode cX10_wrong 10 = .ok (.putfield 183, 3) := by decide +kernel
theorem dX10_wrong_13 : decode cX10_wrong 13 = .ok (.aload_n 0, 1) := by decide +kernel
theorem dX10_wrong_14 : decode cX10_wrong 14 = .ok (.iload_n 1, 1) := by decide +kernel
theorem dX10_wrong_15 : decode cX10_wrong 15 = .ok (.putfield 187, 3) := by decide +kernel
theorem dX10_wrong_18 : decode cX10_wrong 18 = .ok (.aload_n 0, 1) := by decide +kernel
theorem dX10_wrong_19 : decode cX10_wrong 19 = .ok (.iload_n 2, 1) := by decide +kernel
theorem dX10_wrong_20 : decode cX10_wrong 20 = .ok (.putfield 13, 3) := by decide +kernel
theorem dX10_wrong_23 : decode cX10_wrong 23 = .ok (.return_, 1) := by decide +kernel
theorem dX10_isWord_0 : decode cX10_isWord 0 = .ok (.aload_n 0, 1) := by decide +kernel
theorem dX10_isWord_1 : decode cX10_isWord 1 = .ok (.getfield 183, 3) := by decide +kernel
theorem dX10_isWord_4 : decode cX10_isWord 4 = .ok (.ifCond .ne 22, 3) := by decide +kernel
theorem dX10_isWord_7 : decode cX10_isWord 7 = .ok (.aload_n 0, 1) := by decide +kernel
theorem dX10_isWord_8 : decode cX10_isWord 8 = .ok (.getfield 173, 3) := by decide +kernel
theorem dX10_isWord_11 : decode cX10_isWord 11 = .ok (.iconst 2, 1) := by decide +kernel
theorem dX10_isWord_12 : decode cX10_isWord 12 = .ok (.if_icmp .ne 14, 3) := by decide +kernel
theorem dX10_isWord_15 : decode cX10_isWord 15 = .ok (.aload_n 0, 1) := by decide +kernel
theorem dX10_isWord_16 : decode cX10_isWord 16 = .ok (.getfield 167, 3) := by decide +kernel
theorem dX10_isWord_19 : decode cX10_isWord 19 = .ok (.aload_n 1, 1) := by decide +kernel
theorem dX10_isWord_20 : decode cX10_isWord 20 = .ok (.invokevirtual 190, 3) := by decide +kernel
theorem dX10_isWord_23 : decode cX10_isWord 23 = .ok (.if_icmp .eq 5, 3) := by decide +kernel
theorem dX10_isWord_26 : decode cX10_isWord 26 = .ok (.iconst 0, 1) := by decide +kernel
theorem dX10_isWord_27 : decode cX10_isWord 27 = .ok (.ireturn, 1) := by decide +kernel
theorem dX10_isWord_28 : decode cX10_isWord 28 = .ok (.iconst 1, 1) := by decide +kernel
theorem dX10_isWord_29 : decode cX10_isWord 29 = .ok (.istore_n 2, 1) := by decide +kernel
theorem dX10_isWord_30 : decode cX10_isWord 30 = .ok (.iconst 0, 1) := by decide +kernel
theorem dX10_isWord_31 : decode cX10_isWord 31 = .ok (.istore_n 3, 1) := by decide +kernel
theorem dX10_isWord_32 : decode cX10_isWord 32 = .ok (.iload_n 3, 1) := by decide +kernel
theorem dX10_isWord_33 : decode cX10_isWord 33 = .ok (.aload_n 0, 1) := by decide +kernel
theorem dX10_isWord_34 : decode cX10_isWord 34 = .ok (.getfield 167, 3) := by decide +kernel
theorem dX10_isWord_37 : decode cX10_isWord 37 = .ok (.if_icmp .ge 33, 3) := by decide +kernel
theorem dX10_isWord_40 : decode cX10_isWord 40 = .ok (.iload_n 2, 1) := by decide +kernel
theorem dX10_isWord_41 : decode cX10_isWord 41 = .ok (.ifCond .eq 21, 3) := by decide +kernel
theorem dX10_isWord_44 : decode cX10_isWord 44 = .ok (.aload_n 0, 1) := by decide +kernel
theorem dX10_isWord_45 : decode cX10_isWord 45 = .ok (.getfield 17, 3) := by decide +kernel
theorem dX10_isWord_48 : decode cX10_isWord 48 = .ok (.iload_n 3, 1) := by decide +kernel
theorem dX10_isWord_49 : decode cX10_isWord 49 = .ok (.iaload, 1) := by decide +kernel
theorem dX10_isWord_50 : decode cX10_isWord 50 = .ok (.aload_n 1, 1) := by decide +kernel
theorem dX10_isWord_51 : decode cX10_isWord 51 = .ok (.iload_n 3, 1) := by decide +kernel
theorem dX10_isWord_52 : decode cX10_isWord 52 = .ok (.invokevirtual 196, 3) := by decide +kernel
theorem dX10_isWord_55 : decode cX10_isWord 55 = .ok (.if_icmp .ne 7, 3) := by decide +kernel
theorem dX10_isWord_58 : decode cX10_isWord 58 = .ok (.iconst 1, 1) := by decide +kernel
theorem dX10_isWord_59 : decode cX10_isWord 59 = .ok (.goto 4, 3) := by decide +kernel
theorem dX10_isWord_62 : decode cX10_isWord 62 = .ok (.iconst 0, 1) := by decide +kernel
theorem dX10_isWord_63 : decode cX10_isWord 63 = .ok (.istore_n 2, 1) := by decide +kernel
theorem dX10_isWord_64 : decode cX10_isWord 64 = .ok (.iinc 3 1, 3) := by decide +kernel
theorem dX10_isWord_67 : decode cX10_isWord 67 = .ok (.goto (-35), 3) := by decide +kernel
theorem dX10_isWord_70 : decode cX10_isWord 70 = .ok (.iload_n 2, 1) := by decide +kernel
theorem dX10_isWord_71 : decode cX10_isWord 71 = .ok (.ireturn, 1) := by decide +kernel
theorem dX10_must_0 : decode cX10_must 0 = .ok (.aload_n 0, 1) := by decide +kernel
theorem dX10_must_1 : decode cX10_must 1 = .ok (.getfield 183, 3) := by decide +kernel
theorem dX10_must_4 : decode cX10_must 4 = .ok (.ifCond .eq 4, 3) := by decide +kernel
theorem dX10_must_7 : decode cX10_must 7 = .ok (.return_, 1) := by decide +kernel
theorem dX10_must_8 : decode cX10_must 8 = .ok (.aload_n 0, 1) := by decide +kernel
theorem dX10_must_9 : decode cX10_must 9 = .ok (.aload_n 1, 1) := by decide +kernel
theorem dX10_must_10 : decode cX10_must 10 = .ok (.invokevirtual 200, 3) := by decide +kernel
theorem dX10_must_13 : decode cX10_must 13 = .ok (.ifCond .eq 10, 3) := by decide +kernel
theorem dX10_must_16 : decode cX10_must 16 = .ok (.aload_n 0, 1) := by decide +kernel
theorem dX10_must_17 : decode cX10_must 17 = .ok (.invokevirtual 204, 3) := by decide +kernel
theorem dX10_must_20 : decode cX10_must 20 = .ok (.goto 12, 3) := by decide +kernel
theorem dX10_must_23 : decode cX10_must 23 = .ok (.aload_n 0, 1) := by decide +kernel
theorem dX10_must_24 : decode cX10_must 24 = .ok (.iconst 1, 1) := by decide +kernel
theorem dX10_must_25 : decode cX10_must 25 = .ok (.aload_n 0, 1) := by decide +kernel
theorem dX10_must_26 : decode cX10_must 26 = .ok (.getfield 164, 3) := by decide +kernel
theorem dX10_must_29 : decode cX10_must 29 = .ok (.invokevirtual 207, 3) := by decide +kernel
theorem dX10_must_32 : decode cX10_must 32 = .ok (.return_, 1) := by decide +kernel
theorem dX10_isLine_0 : decode cX10_isLine 0 = .ok (.aload_n 0, 1) := by decide +kernel
theorem dX10_isLine_1 : decode cX10_isLine 1 = .ok (.ldc 211, 2) := by decide +kernel
theorem dX10_isLine_3 : decode cX10_isLine 3 = .ok (.invokevirtual 200, 3) := by decide +kernel
theorem dX10_isLine_6 : decode cX10_isLine 6 = .ok (.ifCond .ne 84, 3) := by decide +kernel
theorem dX10_isLine_9 : decode cX10_isLine 9 = .ok (.aload_n 0, 1) := by decide +kernel
theorem dX10_isLine_10 : decode cX10_isLine 10 = .ok (.ldc 213, 2) := by decide +kernel
theorem dX10_isLine_12 : decode cX10_isLine 12 = .ok (.invokevirtual 200, 3) := by decide +kernel
theorem dX10_isLine_15 : decode cX10_isLine 15 = .ok (.ifCond .ne 75, 3) := by decide +kernel
theorem dX10_isLine_18 : decode cX10_isLine 18 = .ok (.aload_n 0, 1) := by decide +kernel
theorem dX10_isLine_19 : decode cX10_isLine 19 = .ok (.ldc 215, 2) := by decide +kernel
theorem dX10_isLine_21 : decode cX10_isLine 21 = .ok (.invokevirtual 200, 3) := by decide +kernel
theorem dX10_isLine_24 : decode cX10_isLine 24 = .ok (.ifCond .ne 66, 3) := by decide +kernel
theorem dX10_isLine_27 : decode cX10_isLine 27 = .ok (.aload_n 0, 1) := by decide +kernel
theorem dX10_isLine_28 : decode cX10_isLine 28 = .ok (.ldc 217, 2) := by decide +kernel
theorem dX10_isLine_30 : decode cX10_isLine 30 = .ok (.invokevirtual 200, 3) := by decide +kernel
theorem dX10_isLine_33 : decode cX10_isLine 33 = .ok (.ifCond .ne 57, 3) := by decide +kernel
theorem dX10_isLine_36 : decode cX10_isLine 36 = .ok (.aload_n 0, 1) := by decide +kernel
theorem dX10_isLine_37 : decode cX10_isLine 37 = .ok (.ldc 219, 2) := by decide +kernel
theorem dX10_isLine_39 : decode cX10_isLine 39 = .ok (.invokevirtual 200, 3) := by decide +kernel
theorem dX10_isLine_42 : decode cX10_isLine 42 = .ok (.ifCond .ne 48, 3) := by decide +kernel
theorem dX10_isLine_45 : decode cX10_isLine 45 = .ok (.aload_n 0, 1) := by decide +kernel
theorem dX10_isLine_46 : decode cX10_isLine 46 = .ok (.ldc 221, 2) := by decide +kernel
theorem dX10_isLine_48 : decode cX10_isLine 48 = .ok (.invokevirtual 200, 3) := by decide +kernel
theorem dX10_isLine_51 : decode cX10_isLine 51 = .ok (.ifCond .ne 39, 3) := by decide +kernel
theorem dX10_isLine_54 : decode cX10_isLine 54 = .ok (.aload_n 0, 1) := by decide +kernel
theorem dX10_isLine_55 : decode cX10_isLine 55 = .ok (.ldc 223, 2) := by decide +kernel
theorem dX10_isLine_57 : decode cX10_isLine 57 = .ok (.invokevirtual 200, 3) := by decide +kernel
theorem dX10_isLine_60 : decode cX10_isLine 60 = .ok (.ifCond .ne 30, 3) := by decide +kernel
theorem dX10_isLine_63 : decode cX10_isLine 63 = .ok (.aload_n 0, 1) := by decide +kernel
theorem dX10_isLine_64 : decode cX10_isLine 64 = .ok (.ldc 225, 2) := by decide +kernel
theorem dX10_isLine_66 : decode cX10_isLine 66 = .ok (.invokevirtual 200, 3) := by decide +kernel
theorem dX10_isLine_69 : decode cX10_isLine 69 = .ok (.ifCond .ne 21, 3) := by decide +kernel
theorem dX10_isLine_72 : decode cX10_isLine 72 = .ok (.aload_n 0, 1) := by decide +kernel
theorem dX10_isLine_73 : decode cX10_isLine 73 = .ok (.ldc 227, 2) := by decide +kernel
theorem dX10_isLine_75 : decode cX10_isLine 75 = .ok (.invokevirtual 200, 3) := by decide +kernel
theorem dX10_isLine_78 : decode cX10_isLine 78 = .ok (.ifCond .ne 12, 3) := by decide +kernel
theorem dX10_isLine_81 : decode cX10_isLine 81 = .ok (.aload_n 0, 1) := by decide +kernel
theorem dX10_isLine_82 : decode cX10_isLine 82 = .ok (.ldc 229, 2) := by decide +kernel
theorem dX10_isLine_84 : decode cX10_isLine 84 = .ok (.invokevirtual 200, 3) := by decide +kernel
theorem dX10_isLine_87 : decode cX10_isLine 87 = .ok (.ifCond .eq 7, 3) := by decide +kernel
theorem dX10_isLine_90 : decode cX10_isLine 90 = .ok (.iconst 1, 1) := by decide +kernel
theorem dX10_isLine_91 : decode cX10_isLine 91 = .ok (.goto 4, 3) := by decide +kernel
theorem dX10_isLine_94 : decode cX10_isLine 94 = .ok (.iconst 0, 1) := by decide +kernel
theorem dX10_isLine_95 : decode cX10_isLine 95 = .ok (.ireturn, 1) := by decide +kernel
theorem dX10_mustName_0 : decode cX10_mustName 0 = .ok (.aload_n 0, 1) := by decide +kernel
theorem dX10_mustName_1 : decode cX10_mustName 1 = .ok (.getfield 173, 3) := by decide +kernel
theorem dX10_mustName_4 : decode cX10_mustName 4 = .ok (.iconst 2, 1) := by decide +kernel
theorem dX10_mustName_5 : decode cX10_mustName 5 = .ok (.if_icmp .ne 19, 3) := by decide +kernel
theorem dX10_mustName_8 : decode cX10_mustName 8 = .ok (.aload_n 0, 1) := by decide +kernel
theorem dX10_mustName_9 : decode cX10_mustName 9 = .ok (.invokevirtual 231, 3) := by decide +kernel
theorem dX10_mustName_12 : decode cX10_mustName 12 = .ok (.ifCond .ne 12, 3) := by decide +kernel
theorem dX10_mustName_15 : decode cX10_mustName 15 = .ok (.aload_n 0, 1) := by decide +kernel
theorem dX10_mustName_16 : decode cX10_mustName 16 = .ok (.ldc 235, 2) := by decide +kernel
theorem dX10_mustName_18 : decode cX10_mustName 18 = .ok (.invokevirtual 200, 3) := by decide +kernel
theorem dX10_mustName_21 : decode cX10_mustName 21 = .ok (.ifCond .eq 12, 3) := by decide +kernel
theorem dX10_mustName_24 : decode cX10_mustName 24 = .ok (.aload_n 0, 1) := by decide +kernel
theorem dX10_mustName_25 : decode cX10_mustName 25 = .ok (.iconst 1, 1) := by decide +kernel
theorem dX10_mustName_26 : decode cX10_mustName 26 = .ok (.aload_n 0, 1) := by decide +kernel
theorem dX10_mustName_27 : decode cX10_mustName 27 = .ok (.getfield 164, 3) := by decide +kernel
theorem dX10_mustName_30 : decode cX10_mustName 30 = .ok (.invokevirtual 207, 3) := by decide +kernel
theorem dX10_mustName_33 : decode cX10_mustName 33 = .ok (.return_, 1) := by decide +kernel
theorem dX10_find_0 : decode cX10_find 0 = .ok (.iconst 0, 1) := by decide +kernel
theorem dX10_find_1 : decode cX10_find 1 = .ok (.istore_n 1, 1) := by decide +kernel
theorem dX10_find_2 : decode cX10_find 2 = .ok (.iload_n 1, 1) := by decide +kernel
theorem dX10_find_3 : decode cX10_find 3 = .ok (.bipush 12, 2) := by decide +kernel
theorem dX10_find_5 : decode cX10_find 5 = .ok (.if_icmp .ge 98, 3) := by decide +kernel
theorem dX10_find_8 : decode cX10_find 8 = .ok (.aload_n 0, 1) := by decide +kernel
theorem dX10_find_9 : decode cX10_find 9 = .ok (.getfield 23, 3) := by decide +kernel
theorem dX10_find_12 : decode cX10_find 12 = .ok (.bipush 32, 2) := by decide +kernel
theorem dX10_find_14 : decode cX10_find 14 = .ok (.iload_n 1, 1) := by decide +kernel
theorem dX10_find_15 : decode cX10_find 15 = .ok (.iadd, 1) := by decide +kernel
theorem dX10_find_16 : decode cX10_find 16 = .ok (.iaload, 1) := by decide +kernel
theorem dX10_find_17 : decode cX10_find 17 = .ok (.ifCond .le 23, 3) := by decide +kernel
theorem dX10_find_20 : decode cX10_find 20 = .ok (.aload_n 0, 1) := by decide +kernel
theorem dX10_find_21 : decode cX10_find 21 = .ok (.getfield 23, 3) := by decide +kernel
theorem dX10_find_24 : decode cX10_find 24 = .ok (.bipush 32, 2) := by decide +kernel
theorem dX10_find_26 : decode cX10_find 26 = .ok (.iload_n 1, 1) := by decide +kernel
theorem dX10_find_27 : decode cX10_find 27 = .ok (.iadd, 1) := by decide +kernel
theorem dX10_find_28 : decode cX10_find 28 = .ok (.iaload, 1) := by decide +kernel
theorem dX10_find_29 : decode cX10_find 29 = .ok (.aload_n 0, 1) := by decide +kernel
theorem dX10_find_30 : decode cX10_find 30 = .ok (.getfield 167, 3) := by decide +kernel
theorem dX10_find_33 : decode cX10_find 33 = .ok (.if_icmp .ne 7, 3) := by decide +kernel
theorem dX10_find_36 : decode cX10_find 36 = .ok (.iconst 1, 1) := by decide +kernel
theorem dX10_find_37 : decode cX10_find 37 = .ok (.goto 4, 3) := by decide +kernel
theorem dX10_find_40 : decode cX10_find 40 = .ok (.iconst 0, 1) := by decide +kernel
theorem dX10_find_41 : decode cX10_find 41 = .ok (.istore_n 2, 1) := by decide +kernel
theorem dX10_find_42 : decode cX10_find 42 = .ok (.iconst 0, 1) := by decide +kernel
theorem dX10_find_43 : decode cX10_find 43 = .ok (.istore_n 3, 1) := by decide +kernel
theorem dX10_find_44 : decode cX10_find 44 = .ok (.iload_n 3, 1) := by decide +kernel
theorem dX10_find_45 : decode cX10_find 45 = .ok (.aload_n 0, 1) := by decide +kernel
theorem dX10_find_46 : decode cX10_find 46 = .ok (.getfield 167, 3) := by decide +kernel
theorem dX10_find_49 : decode cX10_find 49 = .ok (.if_icmp .ge 42, 3) := by decide +kernel
theorem dX10_find_52 : decode cX10_find 52 = .ok (.iload_n 2, 1) := by decide +kernel
theorem dX10_find_53 : decode cX10_find 53 = .ok (.ifCond .eq 38, 3) := by decide +kernel
theorem dX10_find_56 : decode cX10_find 56 = .ok (.aload_n 0, 1) := by decide +kernel
theorem dX10_find_57 : decode cX10_find 57 = .ok (.getfield 23, 3) := by decide +kernel
theorem dX10_find_60 : decode cX10_find 60 = .ok (.bipush 44, 2) := by decide +kernel
theorem dX10_find_62 : decode cX10_find 62 = .ok (.bipush 8, 2) := by decide +kernel
theorem dX10_find_64 : decode cX10_find 64 = .ok (.iload_n 1, 1) := by decide +kernel
theorem dX10_find_65 : decode cX10_find 65 = .ok (.imul, 1) := by decide +kernel
theorem dX10_find_66 : decode cX10_find 66 = .ok (.iadd, 1) := by decide +kernel
theorem dX10_find_67 : decode cX10_find 67 = .ok (.iload_n 3, 1) := by decide +kernel
theorem dX10_find_68 : decode cX10_find 68 = .ok (.iadd, 1) := by decide +kernel
theorem dX10_find_69 : decode cX10_find 69 = .ok (.iaload, 1) := by decide +kernel
theorem dX10_find_70 : decode cX10_find 70 = .ok (.aload_n 0, 1) := by decide +kernel
theorem dX10_find_71 : decode cX10_find 71 = .ok (.getfield 17, 3) := by decide +kernel
theorem dX10_find_74 : decode cX10_find 74 = .ok (.iload_n 3, 1) := by decide +kernel
theorem dX10_find_75 : decode cX10_find 75 = .ok (.iaload, 1) := by decide +kernel
theorem dX10_find_76 : decode cX10_find 76 = .ok (.if_icmp .ne 7, 3) := by decide +kernel
theorem dX10_find_79 : decode cX10_find 79 = .ok (.iconst 1, 1) := by decide +kernel
theorem dX10_find_80 : decode cX10_find 80 = .ok (.goto 4, 3) := by decide +kernel
theorem dX10_find_83 : decode cX10_find 83 = .ok (.iconst 0, 1) := by decide +kernel
theorem dX10_find_84 : decode cX10_find 84 = .ok (.istore_n 2, 1) := by decide +kernel
theorem dX10_find_85 : decode cX10_find 85 = .ok (.iinc 3 1, 3) := by decide +kernel
theorem dX10_find_88 : decode cX10_find 88 = .ok (.goto (-44), 3) := by decide +kernel
theorem dX10_find_91 : decode cX10_find 91 = .ok (.iload_n 2, 1) := by decide +kernel
theorem dX10_find_92 : decode cX10_find 92 = .ok (.ifCond .eq 5, 3) := by decide +kernel
theorem dX10_find_95 : decode cX10_find 95 = .ok (.iload_n 1, 1) := by decide +kernel
theorem dX10_find_96 : decode cX10_find 96 = .ok (.ireturn, 1) := by decide +kernel
theorem dX10_find_97 : decode cX10_find 97 = .ok (.iinc 1 1, 3) := by decide +kernel
theorem dX10_find_100 : decode cX10_find 100 = .ok (.goto (-98), 3) := by decide +kernel
theorem dX10_find_103 : decode cX10_find 103 = .ok (.iconst (-1), 1) := by decide +kernel
theorem dX10_find_104 : decode cX10_find 104 = .ok (.ireturn, 1) := by decide +kernel
theorem dX10_pass_0 : decode cX10_pass 0 = .ok (.aload_n 0, 1) := by decide +kernel
theorem dX10_pass_1 : decode cX10_pass 1 = .ok (.getfield 183, 3) := by decide +kernel
theorem dX10_pass_4 : decode cX10_pass 4 = .ok (.ifCond .ne 7, 3) := by decide +kernel
theorem dX10_pass_7 : decode cX10_pass 7 = .ok (.aload_n 0, 1) := by decide +kernel
theorem dX10_pass_8 : decode cX10_pass 8 = .ok (.invokevirtual 204, 3) := by decide +kernel
theorem dX10_pass_11 : decode cX10_pass 11 = .ok (.return_, 1) := by decide +kernel
theorem dX10_number_0 : decode cX10_number 0 = .ok (.aload_n 0, 1) := by decide +kernel
theorem dX10_number_1 : decode cX10_number 1 = .ok (.getfield 183, 3) := by decide +kernel
theorem dX10_number_4 : decode cX10_number 4 = .ok (.ifCond .eq 5, 3) := by decide +kernel
theorem dX10_number_7 : decode cX10_number 7 = .ok (.iload_n 1, 1) := by decide +kernel
theorem dX10_number_8 : decode cX10_number 8 = .ok (.ireturn, 1) := by decide +kernel
theorem dX10_number_9 : decode cX10_number 9 = .ok (.aload_n 0, 1) := by decide +kernel
theorem dX10_number_10 : decode cX10_number 10 = .ok (.getfield 173, 3) := by decide +kernel
theorem dX10_number_13 : decode cX10_number 13 = .ok (.iconst 3, 1) := by decide +kernel
theorem dX10_number_14 : decode cX10_number 14 = .ok (.if_icmp .eq 15, 3) := by decide +kernel
theorem dX10_number_17 : decode cX10_number 17 = .ok (.aload_n 0, 1) := by decide +kernel
theorem dX10_number_18 : decode cX10_number 18 = .ok (.iconst 1, 1) := by decide +kernel
theorem dX10_number_19 : decode cX10_number 19 = .ok (.aload_n 0, 1) := by decide +kernel
theorem dX10_number_20 : decode cX10_number 20 = .ok (.getfield 164, 3) := by decide +kernel
theorem dX10_number_23 : decode cX10_number 23 = .ok (.invokevirtual 207, 3) := by decide +kernel
theorem dX10_number_26 : decode cX10_number 26 = .ok (.goto 24, 3) := by decide +kernel
theorem dX10_number_29 : decode cX10_number 29 = .ok (.aload_n 0, 1) := by decide +kernel
theorem dX10_number_30 : decode cX10_number 30 = .ok (.getfield 170, 3) := by decide +kernel
theorem dX10_number_33 : decode cX10_number 33 = .ok (.iload_n 1, 1) := by decide +kernel
theorem dX10_number_34 : decode cX10_number 34 = .ok (.iload_n 2, 1) := by decide +kernel
theorem dX10_number_35 : decode cX10_number 35 = .ok (.invokestatic 81, 3) := by decide +kernel
theorem dX10_number_38 : decode cX10_number 38 = .ok (.ifCond .ne 12, 3) := by decide +kernel
theorem dX10_number_41 : decode cX10_number 41 = .ok (.aload_n 0, 1) := by decide +kernel
theorem dX10_number_42 : decode cX10_number 42 = .ok (.iconst 4, 1) := by decide +kernel
theorem dX10_number_43 : decode cX10_number 43 = .ok (.aload_n 0, 1) := by decide +kernel
theorem dX10_number_44 : decode cX10_number 44 = .ok (.getfield 164, 3) := by decide +kernel
theorem dX10_number_47 : decode cX10_number 47 = .ok (.invokevirtual 207, 3) := by decide +kernel
theorem dX10_number_50 : decode cX10_number 50 = .ok (.aload_n 0, 1) := by decide +kernel
theorem dX10_number_51 : decode cX10_number 51 = .ok (.getfield 170, 3) := by decide +kernel
theorem dX10_number_54 : decode cX10_number 54 = .ok (.istore_n 3, 1) := by decide +kernel
theorem dX10_number_55 : decode cX10_number 55 = .ok (.aload_n 0, 1) := by decide +kernel
theorem dX10_number_56 : decode cX10_number 56 = .ok (.invokevirtual 237, 3) := by decide +kernel
theorem dX10_number_59 : decode cX10_number 59 = .ok (.aload_n 0, 1) := by decide +kernel
theorem dX10_number_60 : decode cX10_number 60 = .ok (.getfield 183, 3) := by decide +kernel
theorem dX10_number_63 : decode cX10_number 63 = .ok (.ifCond .eq 7, 3) := by decide +kernel
theorem dX10_number_66 : decode cX10_number 66 = .ok (.iload_n 1, 1) := by decide +kernel
theorem dX10_number_67 : decode cX10_number 67 = .ok (.goto 4, 3) := by decide +kernel
theorem dX10_number_70 : decode cX10_number 70 = .ok (.iload_n 3, 1) := by decide +kernel
theorem dX10_number_71 : decode cX10_number 71 = .ok (.ireturn, 1) := by decide +kernel
theorem dX10_after_0 : decode cX10_after 0 = .ok (.aload_n 0, 1) := by decide +kernel
theorem dX10_after_1 : decode cX10_after 1 = .ok (.aload_n 1, 1) := by decide +kernel
theorem dX10_after_2 : decode cX10_after 2 = .ok (.invokevirtual 240, 3) := by decide +kernel
theorem dX10_after_5 : decode cX10_after 5 = .ok (.aload_n 0, 1) := by decide +kernel
theorem dX10_after_6 : decode cX10_after 6 = .ok (.iload_n 2, 1) := by decide +kernel
theorem dX10_after_7 : decode cX10_after 7 = .ok (.iload_n 3, 1) := by decide +kernel
theorem dX10_after_8 : decode cX10_after 8 = .ok (.invokevirtual 244, 3) := by decide +kernel
theorem dX10_after_11 : decode cX10_after 11 = .ok (.ireturn, 1) := by decide +kernel
theorem dX10_store_0 : decode cX10_store 0 = .ok (.aload_n 0, 1) := by decide +kernel
theorem dX10_store_1 : decode cX10_store 1 = .ok (.invokevirtual 247, 3) := by decide +kernel
theorem dX10_store_4 : decode cX10_store 4 = .ok (.iload_n 1, 1) := by decide +kernel
theorem dX10_store_5 : decode cX10_store 5 = .ok (.iconst 0, 1) := by decide +kernel
theorem dX10_store_6 : decode cX10_store 6 = .ok (.aload_n 0, 1) := by decide +kernel
theorem dX10_store_7 : decode cX10_store 7 = .ok (.getfield 71, 3) := by decide +kernel
theorem dX10_store_10 : decode cX10_store 10 = .ok (.invokestatic 81, 3) := by decide +kernel
theorem dX10_store_13 : decode cX10_store 13 = .ok (.ifCond .ne 9, 3) := by decide +kernel
theorem dX10_store_16 : decode cX10_store 16 = .ok (.aload_n 0, 1) := by decide +kernel
theorem dX10_store_17 : decode cX10_store 17 = .ok (.iconst 2, 1) := by decide +kernel
theorem dX10_store_18 : decode cX10_store 18 = .ok (.invokevirtual 250, 3) := by decide +kernel
theorem dX10_store_21 : decode cX10_store 21 = .ok (.ireturn, 1) := by decide +kernel
theorem dX10_store_22 : decode cX10_store 22 = .ok (.aload_n 0, 1) := by decide +kernel
theorem dX10_store_23 : decode cX10_store 23 = .ok (.iconst 0, 1) := by decide +kernel
theorem dX10_store_24 : decode cX10_store 24 = .ok (.putfield 71, 3) := by decide +kernel
theorem dX10_store_27 : decode cX10_store 27 = .ok (.aload_n 0, 1) := by decide +kernel
theorem dX10_store_28 : decode cX10_store 28 = .ok (.iconst 0, 1) := by decide +kernel
theorem dX10_store_29 : decode cX10_store 29 = .ok (.putfield 187, 3) := by decide +kernel
theorem dX10_store_32 : decode cX10_store 32 = .ok (.aload_n 0, 1) := by decide +kernel
theorem dX10_store_33 : decode cX10_store 33 = .ok (.iconst 0, 1) := by decide +kernel
theorem dX10_store_34 : decode cX10_store 34 = .ok (.putfield 183, 3) := by decide +kernel
theorem dX10_store_37 : decode cX10_store 37 = .ok (.iconst 0, 1) := by decide +kernel
theorem dX10_store_38 : decode cX10_store 38 = .ok (.istore_n 2, 1) := by decide +kernel
theorem dX10_store_39 : decode cX10_store 39 = .ok (.iload_n 2, 1) := by decide +kernel
theorem dX10_store_40 : decode cX10_store 40 = .ok (.sipush 140, 3) := by decide +kernel
theorem dX10_store_43 : decode cX10_store 43 = .ok (.if_icmp .ge 16, 3) := by decide +kernel
theorem dX10_store_46 : decode cX10_store 46 = .ok (.aload_n 0, 1) := by decide +kernel
theorem dX10_store_47 : decode cX10_store 47 = .ok (.getfield 23, 3) := by decide +kernel
theorem dX10_store_50 : decode cX10_store 50 = .ok (.iload_n 2, 1) := by decide +kernel
theorem dX10_store_51 : decode cX10_store 51 = .ok (.iconst 0, 1) := by decide +kernel
theorem dX10_store_52 : decode cX10_store 52 = .ok (.iastore, 1) := by decide +kernel
theorem dX10_store_53 : decode cX10_store 53 = .ok (.iinc 2 1, 3) := by decide +kernel
theorem dX10_store_56 : decode cX10_store 56 = .ok (.goto (-17), 3) := by decide +kernel
theorem dX10_store_59 : decode cX10_store 59 = .ok (.iconst 0, 1) := by decide +kernel
theorem dX10_store_60 : decode cX10_store 60 = .ok (.istore_n 2, 1) := by decide +kernel
theorem dX10_store_61 : decode cX10_store 61 = .ok (.iload_n 2, 1) := by decide +kernel
theorem dX10_store_62 : decode cX10_store 62 = .ok (.sipush 325, 3) := by decide +kernel
theorem dX10_store_65 : decode cX10_store 65 = .ok (.if_icmp .ge 33, 3) := by decide +kernel
theorem dX10_store_68 : decode cX10_store 68 = .ok (.aload_n 0, 1) := by decide +kernel
theorem dX10_store_69 : decode cX10_store 69 = .ok (.getfield 29, 3) := by decide +kernel
theorem dX10_store_72 : decode cX10_store 72 = .ok (.iload_n 2, 1) := by decide +kernel
theorem dX10_store_73 : decode cX10_store 73 = .ok (.iload_n 2, 1) := by decide +kernel
theorem dX10_store_74 : decode cX10_store 74 = .ok (.sipush 304, 3) := by decide +kernel
theorem dX10_store_77 : decode cX10_store 77 = .ok (.sipush 309, 3) := by decide +kernel
theorem dX10_store_80 : decode cX10_store 80 = .ok (.invokestatic 81, 3) := by decide +kernel
theorem dX10_store_83 : decode cX10_store 83 = .ok (.ifCond .eq 7, 3) := by decide +kernel
theorem dX10_store_86 : decode cX10_store 86 = .ok (.iconst (-1), 1) := by decide +kernel
theorem dX10_store_87 : decode cX10_store 87 = .ok (.goto 4, 3) := by decide +kernel
theorem dX10_store_90 : decode cX10_store 90 = .ok (.iconst 0, 1) := by decide +kernel
theorem dX10_store_91 : decode cX10_store 91 = .ok (.iastore, 1) := by decide +kernel
theorem dX10_store_92 : decode cX10_store 92 = .ok (.iinc 2 1, 3) := by decide +kernel
theorem dX10_store_95 : decode cX10_store 95 = .ok (.goto (-34), 3) := by decide +kernel
theorem dX10_store_98 : decode cX10_store 98 = .ok (.iconst 0, 1) := by decide +kernel
theorem dX10_store_99 : decode cX10_store 99 = .ok (.istore_n 2, 1) := by decide +kernel
theorem dX10_store_100 : decode cX10_store 100 = .ok (.iload_n 2, 1) := by decide +kernel
theorem dX10_store_101 : decode cX10_store 101 = .ok (.bipush 64, 2) := by decide +kernel
theorem dX10_store_103 : decode cX10_store 103 = .ok (.if_icmp .ge 16, 3) := by decide +kernel
theorem dX10_store_106 : decode cX10_store 106 = .ok (.aload_n 0, 1) := by decide +kernel
theorem dX10_store_107 : decode cX10_store 107 = .ok (.getfield 32, 3) := by decide +kernel
theorem dX10_store_110 : decode cX10_store 110 = .ok (.iload_n 2, 1) := by decide +kernel
theorem dX10_store_111 : decode cX10_store 111 = .ok (.iconst 0, 1) := by decide +kernel
theorem dX10_store_112 : decode cX10_store 112 = .ok (.iastore, 1) := by decide +kernel
theorem dX10_store_113 : decode cX10_store 113 = .ok (.iinc 2 1, 3) := by decide +kernel
theorem dX10_store_116 : decode cX10_store 116 = .ok (.goto (-16), 3) := by decide +kernel
theorem dX10_store_119 : decode cX10_store 119 = .ok (.iconst 0, 1) := by decide +kernel
theorem dX10_store_120 : decode cX10_store 120 = .ok (.istore_n 2, 1) := by decide +kernel
theorem dX10_store_121 : decode cX10_store 121 = .ok (.iload_n 2, 1) := by decide +kernel
theorem dX10_store_122 : decode cX10_store 122 = .ok (.bipush 12, 2) := by decide +kernel
theorem dX10_store_124 : decode cX10_store 124 = .ok (.if_icmp .ge 16, 3) := by decide +kernel
theorem dX10_store_127 : decode cX10_store 127 = .ok (.aload_n 0, 1) := by decide +kernel
theorem dX10_store_128 : decode cX10_store 128 = .ok (.getfield 53, 3) := by decide +kernel
theorem dX10_store_131 : decode cX10_store 131 = .ok (.iload_n 2, 1) := by decide +kernel
theorem dX10_store_132 : decode cX10_store 132 = .ok (.iconst 0, 1) := by decide +kernel
theorem dX10_store_133 : decode cX10_store 133 = .ok (.iastore, 1) := by decide +kernel
theorem dX10_store_134 : decode cX10_store 134 = .ok (.iinc 2 1, 3) := by decide +kernel
theorem dX10_store_137 : decode cX10_store 137 = .ok (.goto (-16), 3) := by decide +kernel
theorem dX10_store_140 : decode cX10_store 140 = .ok (.aload_n 0, 1) := by decide +kernel
theorem dX10_store_141 : decode cX10_store 141 = .ok (.iload_n 1, 1) := by decide +kernel
theorem dX10_store_142 : decode cX10_store 142 = .ok (.putfield 154, 3) := by decide +kernel
theorem dX10_store_145 : decode cX10_store 145 = .ok (.aload_n 0, 1) := by decide +kernel
theorem dX10_store_146 : decode cX10_store 146 = .ok (.iconst 0, 1) := by decide +kernel
theorem dX10_store_147 : decode cX10_store 147 = .ok (.putfield 157, 3) := by decide +kernel
theorem dX10_store_150 : decode cX10_store 150 = .ok (.aload_n 0, 1) := by decide +kernel
theorem dX10_store_151 : decode cX10_store 151 = .ok (.invokevirtual 204, 3) := by decide +kernel
theorem dX10_store_154 : decode cX10_store 154 = .ok (.aload_n 0, 1) := by decide +kernel
theorem dX10_store_155 : decode cX10_store 155 = .ok (.invokevirtual 253, 3) := by decide +kernel
theorem dX10_store_158 : decode cX10_store 158 = .ok (.aload_n 0, 1) := by decide +kernel
theorem dX10_store_159 : decode cX10_store 159 = .ok (.getfield 183, 3) := by decide +kernel
theorem dX10_store_162 : decode cX10_store 162 = .ok (.ifCond .ne 23, 3) := by decide +kernel
theorem dX10_store_165 : decode cX10_store 165 = .ok (.aload_n 0, 1) := by decide +kernel
theorem dX10_store_166 : decode cX10_store 166 = .ok (.getfield 173, 3) := by decide +kernel
theorem dX10_store_169 : decode cX10_store 169 = .ok (.bipush 59, 2) := by decide +kernel
theorem dX10_store_171 : decode cX10_store 171 = .ok (.if_icmp .ne 14, 3) := by decide +kernel
theorem dX10_store_174 : decode cX10_store 174 = .ok (.aload_n 0, 1) := by decide +kernel
theorem dX10_store_175 : decode cX10_store 175 = .ok (.invokevirtual 204, 3) := by decide +kernel
theorem dX10_store_178 : decode cX10_store 178 = .ok (.aload_n 0, 1) := by decide +kernel
theorem dX10_store_179 : decode cX10_store 179 = .ok (.invokevirtual 253, 3) := by decide +kernel
theorem dX10_store_182 : decode cX10_store 182 = .ok (.goto (-24), 3) := by decide +kernel
theorem dX10_store_185 : decode cX10_store 185 = .ok (.aload_n 0, 1) := by decide +kernel
theorem dX10_store_186 : decode cX10_store 186 = .ok (.getfield 183, 3) := by decide +kernel
theorem dX10_store_189 : decode cX10_store 189 = .ok (.ifCond .ne 19, 3) := by decide +kernel
theorem dX10_store_192 : decode cX10_store 192 = .ok (.aload_n 0, 1) := by decide +kernel
theorem dX10_store_193 : decode cX10_store 193 = .ok (.getfield 173, 3) := by decide +kernel
theorem dX10_store_196 : decode cX10_store 196 = .ok (.ifCond .eq 12, 3) := by decide +kernel
theorem dX10_store_199 : decode cX10_store 199 = .ok (.aload_n 0, 1) := by decide +kernel
theorem dX10_store_200 : decode cX10_store 200 = .ok (.iconst 1, 1) := by decide +kernel
theorem dX10_store_201 : decode cX10_store 201 = .ok (.aload_n 0, 1) := by decide +kernel
theorem dX10_store_202 : decode cX10_store 202 = .ok (.getfield 164, 3) := by decide +kernel
theorem dX10_store_205 : decode cX10_store 205 = .ok (.invokevirtual 207, 3) := by decide +kernel
theorem dX10_store_208 : decode cX10_store 208 = .ok (.aload_n 0, 1) := by decide +kernel
theorem dX10_store_209 : decode cX10_store 209 = .ok (.getfield 183, 3) := by decide +kernel
theorem dX10_store_212 : decode cX10_store 212 = .ok (.ifCond .ne 23, 3) := by decide +kernel
theorem dX10_store_215 : decode cX10_store 215 = .ok (.aload_n 0, 1) := by decide +kernel
theorem dX10_store_216 : decode cX10_store 216 = .ok (.getfield 23, 3) := by decide +kernel
theorem dX10_store_219 : decode cX10_store 219 = .ok (.bipush 7, 2) := by decide +kernel
theorem dX10_store_221 : decode cX10_store 221 = .ok (.iaload, 1) := by decide +kernel
theorem dX10_store_222 : decode cX10_store 222 = .ok (.ifCond .ne 13, 3) := by decide +kernel
theorem dX10_store_225 : decode cX10_store 225 = .ok (.aload_n 0, 1) := by decide +kernel
theorem dX10_store_226 : decode cX10_store 226 = .ok (.bipush 6, 2) := by decide +kernel
theorem dX10_store_228 : decode cX10_store 228 = .ok (.aload_n 0, 1) := by decide +kernel
theorem dX10_store_229 : decode cX10_store 229 = .ok (.getfield 164, 3) := by decide +kernel
theorem dX10_store_232 : decode cX10_store 232 = .ok (.invokevirtual 207, 3) := by decide +kernel
theorem dX10_store_235 : decode cX10_store 235 = .ok (.aload_n 0, 1) := by decide +kernel
theorem dX10_store_236 : decode cX10_store 236 = .ok (.getfield 183, 3) := by decide +kernel
theorem dX10_store_239 : decode cX10_store 239 = .ok (.ifCond .eq 19, 3) := by decide +kernel
theorem dX10_store_242 : decode cX10_store 242 = .ok (.aload_n 0, 1) := by decide +kernel
theorem dX10_store_243 : decode cX10_store 243 = .ok (.aload_n 0, 1) := by decide +kernel
theorem dX10_store_244 : decode cX10_store 244 = .ok (.getfield 20, 3) := by decide +kernel
theorem dX10_store_247 : decode cX10_store 247 = .ok (.iconst 0, 1) := by decide +kernel
theorem dX10_store_248 : decode cX10_store 248 = .ok (.iaload, 1) := by decide +kernel
theorem dX10_store_249 : decode cX10_store 249 = .ok (.putfield 74, 3) := by decide +kernel
theorem dX10_store_252 : decode cX10_store 252 = .ok (.aload_n 0, 1) := by decide +kernel
theorem dX10_store_253 : decode cX10_store 253 = .ok (.iconst 4, 1) := by decide +kernel
theorem dX10_store_254 : decode cX10_store 254 = .ok (.invokevirtual 250, 3) := by decide +kernel
theorem dX10_store_257 : decode cX10_store 257 = .ok (.ireturn, 1) := by decide +kernel
theorem dX10_store_258 : decode cX10_store 258 = .ok (.aload_n 0, 1) := by decide +kernel
theorem dX10_store_259 : decode cX10_store 259 = .ok (.getfield 23, 3) := by decide +kernel
theorem dX10_store_262 : decode cX10_store 262 = .ok (.iconst 0, 1) := by decide +kernel
theorem dX10_store_263 : decode cX10_store 263 = .ok (.aload_n 0, 1) := by decide +kernel
theorem dX10_store_264 : decode cX10_store 264 = .ok (.getfield 20, 3) := by decide +kernel
theorem dX10_store_267 : decode cX10_store 267 = .ok (.iconst 0, 1) := by decide +kernel
theorem dX10_store_268 : decode cX10_store 268 = .ok (.sipush 140, 3) := by decide +kernel
theorem dX10_store_271 : decode cX10_store 271 = .ok (.invokestatic 256, 3) := by decide +kernel
theorem dX10_store_274 : decode cX10_store 274 = .ok (.aload_n 0, 1) := by decide +kernel
theorem dX10_store_275 : decode cX10_store 275 = .ok (.getfield 29, 3) := by decide +kernel
theorem dX10_store_278 : decode cX10_store 278 = .ok (.iconst 0, 1) := by decide +kernel
theorem dX10_store_279 : decode cX10_store 279 = .ok (.aload_n 0, 1) := by decide +kernel
theorem dX10_store_280 : decode cX10_store 280 = .ok (.getfield 26, 3) := by decide +kernel
theorem dX10_store_283 : decode cX10_store 283 = .ok (.iconst 0, 1) := by decide +kernel
theorem dX10_store_284 : decode cX10_store 284 = .ok (.sipush 325, 3) := by decide +kernel
theorem dX10_store_287 : decode cX10_store 287 = .ok (.invokestatic 256, 3) := by decide +kernel
theorem dX10_store_290 : decode cX10_store 290 = .ok (.aload_n 0, 1) := by decide +kernel
theorem dX10_store_291 : decode cX10_store 291 = .ok (.getfield 29, 3) := by decide +kernel
theorem dX10_store_294 : decode cX10_store 294 = .ok (.iconst 0, 1) := by decide +kernel
theorem dX10_store_295 : decode cX10_store 295 = .ok (.aload_n 0, 1) := by decide +kernel
theorem dX10_store_296 : decode cX10_store 296 = .ok (.getfield 38, 3) := by decide +kernel
theorem dX10_store_299 : decode cX10_store 299 = .ok (.iconst 0, 1) := by decide +kernel
theorem dX10_store_300 : decode cX10_store 300 = .ok (.sipush 325, 3) := by decide +kernel
theorem dX10_store_303 : decode cX10_store 303 = .ok (.invokestatic 256, 3) := by decide +kernel
theorem dX10_store_306 : decode cX10_store 306 = .ok (.aload_n 0, 1) := by decide +kernel
theorem dX10_store_307 : decode cX10_store 307 = .ok (.getfield 32, 3) := by decide +kernel
theorem dX10_store_310 : decode cX10_store 310 = .ok (.iconst 0, 1) := by decide +kernel
theorem dX10_store_311 : decode cX10_store 311 = .ok (.aload_n 0, 1) := by decide +kernel
theorem dX10_store_312 : decode cX10_store 312 = .ok (.getfield 35, 3) := by decide +kernel
theorem dX10_store_315 : decode cX10_store 315 = .ok (.iconst 0, 1) := by decide +kernel
theorem dX10_store_316 : decode cX10_store 316 = .ok (.bipush 64, 2) := by decide +kernel
theorem dX10_store_318 : decode cX10_store 318 = .ok (.invokestatic 256, 3) := by decide +kernel
theorem dX10_store_321 : decode cX10_store 321 = .ok (.aload_n 0, 1) := by decide +kernel
theorem dX10_store_322 : decode cX10_store 322 = .ok (.getfield 59, 3) := by decide +kernel
theorem dX10_store_325 : decode cX10_store 325 = .ok (.iconst 0, 1) := by decide +kernel
theorem dX10_store_326 : decode cX10_store 326 = .ok (.aload_n 0, 1) := by decide +kernel
theorem dX10_store_327 : decode cX10_store 327 = .ok (.getfield 56, 3) := by decide +kernel
theorem dX10_store_330 : decode cX10_store 330 = .ok (.iconst 0, 1) := by decide +kernel
theorem dX10_store_331 : decode cX10_store 331 = .ok (.bipush 8, 2) := by decide +kernel
theorem dX10_store_333 : decode cX10_store 333 = .ok (.invokestatic 256, 3) := by decide +kernel
theorem dX10_store_336 : decode cX10_store 336 = .ok (.aload_n 0, 1) := by decide +kernel
theorem dX10_store_337 : decode cX10_store 337 = .ok (.iconst 1, 1) := by decide +kernel
theorem dX10_store_338 : decode cX10_store 338 = .ok (.putfield 260, 3) := by decide +kernel
theorem dX10_store_341 : decode cX10_store 341 = .ok (.aload_n 0, 1) := by decide +kernel
theorem dX10_store_342 : decode cX10_store 342 = .ok (.iconst 0, 1) := by decide +kernel
theorem dX10_store_343 : decode cX10_store 343 = .ok (.putfield 263, 3) := by decide +kernel
theorem dX10_store_346 : decode cX10_store 346 = .ok (.aload_n 0, 1) := by decide +kernel
theorem dX10_store_347 : decode cX10_store 347 = .ok (.iconst 0, 1) := by decide +kernel
theorem dX10_store_348 : decode cX10_store 348 = .ok (.putfield 266, 3) := by decide +kernel
theorem dX10_store_351 : decode cX10_store 351 = .ok (.aload_n 0, 1) := by decide +kernel
theorem dX10_store_352 : decode cX10_store 352 = .ok (.getfield 38, 3) := by decide +kernel
theorem dX10_store_355 : decode cX10_store 355 = .ok (.invokestatic 269, 3) := by decide +kernel
theorem dX10_store_358 : decode cX10_store 358 = .ok (.ireturn, 1) := by decide +kernel
theorem dX10_versionsOf_0 : decode cX10_versionsOf 0 = .ok (.iconst 0, 1) := by decide +kernel
theorem dX10_versionsOf_1 : decode cX10_versionsOf 1 = .ok (.istore_n 1, 1) := by decide +kernel
theorem dX10_versionsOf_2 : decode cX10_versionsOf 2 = .ok (.iconst 0, 1) := by decide +kernel
theorem dX10_versionsOf_3 : decode cX10_versionsOf 3 = .ok (.istore_n 2, 1) := by decide +kernel
theorem dX10_versionsOf_4 : decode cX10_versionsOf 4 = .ok (.iload_n 2, 1) := by decide +kernel
theorem dX10_versionsOf_5 : decode cX10_versionsOf 5 = .ok (.bipush 48, 2) := by decide +kernel
theorem dX10_versionsOf_7 : decode cX10_versionsOf 7 = .ok (.if_icmp .ge 25, 3) := by decide +kernel
theorem dX10_versionsOf_10 : decode cX10_versionsOf 10 = .ok (.iload_n 1, 1) := by decide +kernel
theorem dX10_versionsOf_11 : decode cX10_versionsOf 11 = .ok (.aload_n 0, 1) := by decide +kernel
theorem dX10_versionsOf_12 : decode cX10_versionsOf 12 = .ok (.iconst 0, 1) := by decide +kernel
theorem dX10_versionsOf_13 : decode cX10_versionsOf 13 = .ok (.iload_n 2, 1) := by decide +kernel
theorem dX10_versionsOf_14 : decode cX10_versionsOf 14 = .ok (.iadd, 1) := by decide +kernel
theorem dX10_versionsOf_15 : decode cX10_versionsOf 15 = .ok (.iaload, 1) := by decide +kernel
theorem dX10_versionsOf_16 : decode cX10_versionsOf 16 = .ok (.ifCond .le 7, 3) := by decide +kernel
theorem dX10_versionsOf_19 : decode cX10_versionsOf 19 = .ok (.iconst 1, 1) := by decide +kernel
theorem dX10_versionsOf_20 : decode cX10_versionsOf 20 = .ok (.goto 4, 3) := by decide +kernel
theorem dX10_versionsOf_23 : decode cX10_versionsOf 23 = .ok (.iconst 0, 1) := by decide +kernel
theorem dX10_versionsOf_24 : decode cX10_versionsOf 24 = .ok (.iadd, 1) := by decide +kernel
theorem dX10_versionsOf_25 : decode cX10_versionsOf 25 = .ok (.istore_n 1, 1) := by decide +kernel
theorem dX10_versionsOf_26 : decode cX10_versionsOf 26 = .ok (.iinc 2 1, 3) := by decide +kernel
theorem dX10_versionsOf_29 : decode cX10_versionsOf 29 = .ok (.goto (-25), 3) := by decide +kernel
theorem dX10_versionsOf_32 : decode cX10_versionsOf 32 = .ok (.iload_n 1, 1) := by decide +kernel
theorem dX10_versionsOf_33 : decode cX10_versionsOf 33 = .ok (.ireturn, 1) := by decide +kernel
theorem dX10_readLine_0 : decode cX10_readLine 0 = .ok (.aload_n 0, 1) := by decide +kernel
theorem dX10_readLine_1 : decode cX10_readLine 1 = .ok (.getfield 183, 3) := by decide +kernel
theorem dX10_readLine_4 : decode cX10_readLine 4 = .ok (.ifCond .eq 4, 3) := by decide +kernel
theorem dX10_readLine_7 : decode cX10_readLine 7 = .ok (.return_, 1) := by decide +kernel
theorem dX10_readLine_8 : decode cX10_readLine 8 = .ok (.aload_n 0, 1) := by decide +kernel
theorem dX10_readLine_9 : decode cX10_readLine 9 = .ok (.ldc 211, 2) := by decide +kernel
theorem dX10_readLine_11 : decode cX10_readLine 11 = .ok (.invokevirtual 200, 3) := by decide +kernel
theorem dX10_readLine_14 : decode cX10_readLine 14 = .ok (.ifCond .eq 8, 3) := by decide +kernel
theorem dX10_readLine_17 : decode cX10_readLine 17 = .ok (.aload_n 0, 1) := by decide +kernel
theorem dX10_readLine_18 : decode cX10_readLine 18 = .ok (.invokevirtual 272, 3) := by decide +kernel
theorem dX10_readLine_21 : decode cX10_readLine 21 = .ok (.return_, 1) := by decide +kernel
theorem dX10_readLine_22 : decode cX10_readLine 22 = .ok (.aload_n 0, 1) := by decide +kernel
theorem dX10_readLine_23 : decode cX10_readLine 23 = .ok (.invokevirtual 231, 3) := by decide +kernel
theorem dX10_readLine_26 : decode cX10_readLine 26 = .ok (.ifCond .ne 12, 3) := by decide +kernel
theorem dX10_readLine_29 : decode cX10_readLine 29 = .ok (.aload_n 0, 1) := by decide +kernel
theorem dX10_readLine_30 : decode cX10_readLine 30 = .ok (.iconst 1, 1) := by decide +kernel
theorem dX10_readLine_31 : decode cX10_readLine 31 = .ok (.aload_n 0, 1) := by decide +kernel
theorem dX10_readLine_32 : decode cX10_readLine 32 = .ok (.getfield 164, 3) := by decide +kernel
theorem dX10_readLine_35 : decode cX10_readLine 35 = .ok (.invokevirtual 207, 3) := by decide +kernel
theorem dX10_readLine_38 : decode cX10_readLine 38 = .ok (.aload_n 0, 1) := by decide +kernel
theorem dX10_readLine_39 : decode cX10_readLine 39 = .ok (.ldc 213, 2) := by decide +kernel
theorem dX10_readLine_41 : decode cX10_readLine 41 = .ok (.invokevirtual 200, 3) := by decide +kernel
theorem dX10_readLine_44 : decode cX10_readLine 44 = .ok (.ifCond .eq 15, 3) := by decide +kernel
theorem dX10_readLine_47 : decode cX10_readLine 47 = .ok (.aload_n 0, 1) := by decide +kernel
theorem dX10_readLine_48 : decode cX10_readLine 48 = .ok (.getfield 23, 3) := by decide +kernel
theorem dX10_readLine_51 : decode cX10_readLine 51 = .ok (.bipush 6, 2) := by decide +kernel
theorem dX10_readLine_53 : decode cX10_readLine 53 = .ok (.iaload, 1) := by decide +kernel
theorem dX10_readLine_54 : decode cX10_readLine 54 = .ok (.bipush 12, 2) := by decide +kernel
theorem dX10_readLine_56 : decode cX10_readLine 56 = .ok (.if_icmp .eq 22, 3) := by decide +kernel
theorem dX10_readLine_59 : decode cX10_readLine 59 = .ok (.aload_n 0, 1) := by decide +kernel
theorem dX10_readLine_60 : decode cX10_readLine 60 = .ok (.ldc 227, 2) := by decide +kernel
theorem dX10_readLine_62 : decode cX10_readLine 62 = .ok (.invokevirtual 200, 3) := by decide +kernel
theorem dX10_readLine_65 : decode cX10_readLine 65 = .ok (.ifCond .eq 22, 3) := by decide +kernel
theorem dX10_readLine_68 : decode cX10_readLine 68 = .ok (.aload_n 0, 1) := by decide +kernel
theorem dX10_readLine_69 : decode cX10_readLine 69 = .ok (.getfield 23, 3) := by decide +kernel
theorem dX10_readLine_72 : decode cX10_readLine 72 = .ok (.iconst 4, 1) := by decide +kernel
theorem dX10_readLine_73 : decode cX10_readLine 73 = .ok (.iaload, 1) := by decide +kernel
theorem dX10_readLine_74 : decode cX10_readLine 74 = .ok (.iconst 4, 1) := by decide +kernel
theorem dX10_readLine_75 : decode cX10_readLine 75 = .ok (.if_icmp .ne 12, 3) := by decide +kernel
theorem dX10_readLine_78 : decode cX10_readLine 78 = .ok (.aload_n 0, 1) := by decide +kernel
theorem dX10_readLine_79 : decode cX10_readLine 79 = .ok (.iconst 5, 1) := by decide +kernel
theorem dX10_readLine_80 : decode cX10_readLine 80 = .ok (.aload_n 0, 1) := by decide +kernel
theorem dX10_readLine_81 : decode cX10_readLine 81 = .ok (.getfield 164, 3) := by decide +kernel
theorem dX10_readLine_84 : decode cX10_readLine 84 = .ok (.invokevirtual 207, 3) := by decide +kernel
theorem dX10_readLine_87 : decode cX10_readLine 87 = .ok (.aload_n 0, 1) := by decide +kernel
theorem dX10_readLine_88 : decode cX10_readLine 88 = .ok (.getfield 23, 3) := by decide +kernel
theorem dX10_readLine_91 : decode cX10_readLine 91 = .ok (.bipush 7, 2) := by decide +kernel
theorem dX10_readLine_93 : decode cX10_readLine 93 = .ok (.iaload, 1) := by decide +kernel
theorem dX10_readLine_94 : decode cX10_readLine 94 = .ok (.ifCond .ne 13, 3) := by decide +kernel
theorem dX10_readLine_97 : decode cX10_readLine 97 = .ok (.aload_n 0, 1) := by decide +kernel
theorem dX10_readLine_98 : decode cX10_readLine 98 = .ok (.bipush 6, 2) := by decide +kernel
theorem dX10_readLine_100 : decode cX10_readLine 100 = .ok (.aload_n 0, 1) := by decide +kernel
theorem dX10_readLine_101 : decode cX10_readLine 101 = .ok (.getfield 164, 3) := by decide +kernel
theorem dX10_readLine_104 : decode cX10_readLine 104 = .ok (.invokevirtual 207, 3) := by decide +kernel
theorem dX10_readLine_107 : decode cX10_readLine 107 = .ok (.aload_n 0, 1) := by decide +kernel
theorem dX10_readLine_108 : decode cX10_readLine 108 = .ok (.ldc 213, 2) := by decide +kernel
theorem dX10_readLine_110 : decode cX10_readLine 110 = .ok (.invokevirtual 200, 3) := by decide +kernel
theorem dX10_readLine_113 : decode cX10_readLine 113 = .ok (.ifCond .eq 10, 3) := by decide +kernel
theorem dX10_readLine_116 : decode cX10_readLine 116 = .ok (.aload_n 0, 1) := by decide +kernel
theorem dX10_readLine_117 : decode cX10_readLine 117 = .ok (.invokevirtual 275, 3) := by decide +kernel
theorem dX10_readLine_120 : decode cX10_readLine 120 = .ok (.goto 134, 3) := by decide +kernel
theorem dX10_readLine_123 : decode cX10_readLine 123 = .ok (.aload_n 0, 1) := by decide +kernel
theorem dX10_readLine_124 : decode cX10_readLine 124 = .ok (.ldc 215, 2) := by decide +kernel
theorem dX10_readLine_126 : decode cX10_readLine 126 = .ok (.invokevirtual 200, 3) := by decide +kernel
theorem dX10_readLine_129 : decode cX10_readLine 129 = .ok (.ifCond .eq 11, 3) := by decide +kernel
theorem dX10_readLine_132 : decode cX10_readLine 132 = .ok (.aload_n 0, 1) := by decide +kernel
theorem dX10_readLine_133 : decode cX10_readLine 133 = .ok (.iconst 1, 1) := by decide +kernel
theorem dX10_readLine_134 : decode cX10_readLine 134 = .ok (.invokevirtual 278, 3) := by decide +kernel
theorem dX10_readLine_137 : decode cX10_readLine 137 = .ok (.goto 117, 3) := by decide +kernel
theorem dX10_readLine_140 : decode cX10_readLine 140 = .ok (.aload_n 0, 1) := by decide +kernel
theorem dX10_readLine_141 : decode cX10_readLine 141 = .ok (.ldc 217, 2) := by decide +kernel
theorem dX10_readLine_143 : decode cX10_readLine 143 = .ok (.invokevirtual 200, 3) := by decide +kernel
theorem dX10_readLine_146 : decode cX10_readLine 146 = .ok (.ifCond .eq 11, 3) := by decide +kernel
theorem dX10_readLine_149 : decode cX10_readLine 149 = .ok (.aload_n 0, 1) := by decide +kernel
theorem dX10_readLine_150 : decode cX10_readLine 150 = .ok (.iconst 0, 1) := by decide +kernel
theorem dX10_readLine_151 : decode cX10_readLine 151 = .ok (.invokevirtual 278, 3) := by decide +kernel
theorem dX10_readLine_154 : decode cX10_readLine 154 = .ok (.goto 100, 3) := by decide +kernel
theorem dX10_readLine_157 : decode cX10_readLine 157 = .ok (.aload_n 0, 1) := by decide +kernel
theorem dX10_readLine_158 : decode cX10_readLine 158 = .ok (.ldc 219, 2) := by decide +kernel
theorem dX10_readLine_160 : decode cX10_readLine 160 = .ok (.invokevirtual 200, 3) := by decide +kernel
theorem dX10_readLine_163 : decode cX10_readLine 163 = .ok (.ifCond .eq 11, 3) := by decide +kernel
theorem dX10_readLine_166 : decode cX10_readLine 166 = .ok (.aload_n 0, 1) := by decide +kernel
theorem dX10_readLine_167 : decode cX10_readLine 167 = .ok (.iconst 2, 1) := by decide +kernel
theorem dX10_readLine_168 : decode cX10_readLine 168 = .ok (.invokevirtual 282, 3) := by decide +kernel
theorem dX10_readLine_171 : decode cX10_readLine 171 = .ok (.goto 83, 3) := by decide +kernel
theorem dX10_readLine_174 : decode cX10_readLine 174 = .ok (.aload_n 0, 1) := by decide +kernel
theorem dX10_readLine_175 : decode cX10_readLine 175 = .ok (.ldc 221, 2) := by decide +kernel
theorem dX10_readLine_177 : decode cX10_readLine 177 = .ok (.invokevirtual 200, 3) := by decide +kernel
theorem dX10_readLine_180 : decode cX10_readLine 180 = .ok (.ifCond .eq 11, 3) := by decide +kernel
theorem dX10_readLine_183 : decode cX10_readLine 183 = .ok (.aload_n 0, 1) := by decide +kernel
theorem dX10_readLine_184 : decode cX10_readLine 184 = .ok (.iconst 3, 1) := by decide +kernel
theorem dX10_readLine_185 : decode cX10_readLine 185 = .ok (.invokevirtual 282, 3) := by decide +kernel
theorem dX10_readLine_188 : decode cX10_readLine 188 = .ok (.goto 66, 3) := by decide +kernel
theorem dX10_readLine_191 : decode cX10_readLine 191 = .ok (.aload_n 0, 1) := by decide +kernel
theorem dX10_readLine_192 : decode cX10_readLine 192 = .ok (.ldc 223, 2) := by decide +kernel
theorem dX10_readLine_194 : decode cX10_readLine 194 = .ok (.invokevirtual 200, 3) := by decide +kernel
theorem dX10_readLine_197 : decode cX10_readLine 197 = .ok (.ifCond .eq 11, 3) := by decide +kernel
theorem dX10_readLine_200 : decode cX10_readLine 200 = .ok (.aload_n 0, 1) := by decide +kernel
theorem dX10_readLine_201 : decode cX10_readLine 201 = .ok (.iconst 1, 1) := by decide +kernel
theorem dX10_readLine_202 : decode cX10_readLine 202 = .ok (.invokevirtual 286, 3) := by decide +kernel
theorem dX10_readLine_205 : decode cX10_readLine 205 = .ok (.goto 49, 3) := by decide +kernel
theorem dX10_readLine_208 : decode cX10_readLine 208 = .ok (.aload_n 0, 1) := by decide +kernel
theorem dX10_readLine_209 : decode cX10_readLine 209 = .ok (.ldc 225, 2) := by decide +kernel
theorem dX10_readLine_211 : decode cX10_readLine 211 = .ok (.invokevirtual 200, 3) := by decide +kernel
theorem dX10_readLine_214 : decode cX10_readLine 214 = .ok (.ifCond .eq 11, 3) := by decide +kernel
theorem dX10_readLine_217 : decode cX10_readLine 217 = .ok (.aload_n 0, 1) := by decide +kernel
theorem dX10_readLine_218 : decode cX10_readLine 218 = .ok (.iconst 0, 1) := by decide +kernel
theorem dX10_readLine_219 : decode cX10_readLine 219 = .ok (.invokevirtual 286, 3) := by decide +kernel
theorem dX10_readLine_222 : decode cX10_readLine 222 = .ok (.goto 32, 3) := by decide +kernel
theorem dX10_readLine_225 : decode cX10_readLine 225 = .ok (.aload_n 0, 1) := by decide +kernel
theorem dX10_readLine_226 : decode cX10_readLine 226 = .ok (.ldc 227, 2) := by decide +kernel
theorem dX10_readLine_228 : decode cX10_readLine 228 = .ok (.invokevirtual 200, 3) := by decide +kernel
theorem dX10_readLine_231 : decode cX10_readLine 231 = .ok (.ifCond .eq 10, 3) := by decide +kernel
theorem dX10_readLine_234 : decode cX10_readLine 234 = .ok (.aload_n 0, 1) := by decide +kernel
theorem dX10_readLine_235 : decode cX10_readLine 235 = .ok (.invokevirtual 289, 3) := by decide +kernel
theorem dX10_readLine_238 : decode cX10_readLine 238 = .ok (.goto 16, 3) := by decide +kernel
theorem dX10_readLine_241 : decode cX10_readLine 241 = .ok (.aload_n 0, 1) := by decide +kernel
theorem dX10_readLine_242 : decode cX10_readLine 242 = .ok (.ldc 229, 2) := by decide +kernel
theorem dX10_readLine_244 : decode cX10_readLine 244 = .ok (.invokevirtual 200, 3) := by decide +kernel
theorem dX10_readLine_247 : decode cX10_readLine 247 = .ok (.ifCond .eq 7, 3) := by decide +kernel
theorem dX10_readLine_250 : decode cX10_readLine 250 = .ok (.aload_n 0, 1) := by decide +kernel
theorem dX10_readLine_251 : decode cX10_readLine 251 = .ok (.invokevirtual 292, 3) := by decide +kernel
theorem dX10_readLine_254 : decode cX10_readLine 254 = .ok (.return_, 1) := by decide +kernel
theorem dX10_ends_0 : decode cX10_ends 0 = .ok (.aload_n 0, 1) := by decide +kernel
theorem dX10_ends_1 : decode cX10_ends 1 = .ok (.getfield 183, 3) := by decide +kernel
theorem dX10_ends_4 : decode cX10_ends 4 = .ok (.ifCond .ne 28, 3) := by decide +kernel
theorem dX10_ends_7 : decode cX10_ends 7 = .ok (.aload_n 0, 1) := by decide +kernel
theorem dX10_ends_8 : decode cX10_ends 8 = .ok (.getfield 173, 3) := by decide +kernel
theorem dX10_ends_11 : decode cX10_ends 11 = .ok (.bipush 59, 2) := by decide +kernel
theorem dX10_ends_13 : decode cX10_ends 13 = .ok (.if_icmp .eq 19, 3) := by decide +kernel
theorem dX10_ends_16 : decode cX10_ends 16 = .ok (.aload_n 0, 1) := by decide +kernel
theorem dX10_ends_17 : decode cX10_ends 17 = .ok (.getfield 173, 3) := by decide +kernel
theorem dX10_ends_20 : decode cX10_ends 20 = .ok (.ifCond .eq 12, 3) := by decide +kernel
theorem dX10_ends_23 : decode cX10_ends 23 = .ok (.aload_n 0, 1) := by decide +kernel
theorem dX10_ends_24 : decode cX10_ends 24 = .ok (.iconst 1, 1) := by decide +kernel
theorem dX10_ends_25 : decode cX10_ends 25 = .ok (.aload_n 0, 1) := by decide +kernel
theorem dX10_ends_26 : decode cX10_ends 26 = .ok (.getfield 164, 3) := by decide +kernel
theorem dX10_ends_29 : decode cX10_ends 29 = .ok (.invokevirtual 207, 3) := by decide +kernel
theorem dX10_ends_32 : decode cX10_ends 32 = .ok (.aload_n 0, 1) := by decide +kernel
theorem dX10_ends_33 : decode cX10_ends 33 = .ok (.getfield 183, 3) := by decide +kernel
theorem dX10_ends_36 : decode cX10_ends 36 = .ok (.ifCond .ne 7, 3) := by decide +kernel
theorem dX10_ends_39 : decode cX10_ends 39 = .ok (.iconst 1, 1) := by decide +kernel
theorem dX10_ends_40 : decode cX10_ends 40 = .ok (.goto 4, 3) := by decide +kernel
theorem dX10_ends_43 : decode cX10_ends 43 = .ok (.iconst 0, 1) := by decide +kernel
theorem dX10_ends_44 : decode cX10_ends 44 = .ok (.ireturn, 1) := by decide +kernel
theorem dX10_mayRefuse_0 : decode cX10_mayRefuse 0 = .ok (.iload_n 1, 1) := by decide +kernel
theorem dX10_mayRefuse_1 : decode cX10_mayRefuse 1 = .ok (.ifCond .eq 13, 3) := by decide +kernel
theorem dX10_mayRefuse_4 : decode cX10_mayRefuse 4 = .ok (.aload_n 0, 1) := by decide +kernel
theorem dX10_mayRefuse_5 : decode cX10_mayRefuse 5 = .ok (.bipush 8, 2) := by decide +kernel
theorem dX10_mayRefuse_7 : decode cX10_mayRefuse 7 = .ok (.aload_n 0, 1) := by decide +kernel
theorem dX10_mayRefuse_8 : decode cX10_mayRefuse 8 = .ok (.getfield 164, 3) := by decide +kernel
theorem dX10_mayRefuse_11 : decode cX10_mayRefuse 11 = .ok (.invokevirtual 207, 3) := by decide +kernel
theorem dX10_mayRefuse_14 : decode cX10_mayRefuse 14 = .ok (.return_, 1) := by decide +kernel
theorem dX10_storeLine_0 : decode cX10_storeLine 0 = .ok (.aload_n 0, 1) := by decide +kernel
theorem dX10_storeLine_1 : decode cX10_storeLine 1 = .ok (.getfield 23, 3) := by decide +kernel
theorem dX10_storeLine_4 : decode cX10_storeLine 4 = .ok (.bipush 7, 2) := by decide +kernel
theorem dX10_storeLine_6 : decode cX10_storeLine 6 = .ok (.iaload, 1) := by decide +kernel
theorem dX10_storeLine_7 : decode cX10_storeLine 7 = .ok (.ifCond .le 12, 3) := by decide +kernel
theorem dX10_storeLine_10 : decode cX10_storeLine 10 = .ok (.aload_n 0, 1) := by decide +kernel
theorem dX10_storeLine_11 : decode cX10_storeLine 11 = .ok (.iconst 3, 1) := by decide +kernel
theorem dX10_storeLine_12 : decode cX10_storeLine 12 = .ok (.aload_n 0, 1) := by decide +kernel
theorem dX10_storeLine_13 : decode cX10_storeLine 13 = .ok (.getfield 164, 3) := by decide +kernel
theorem dX10_storeLine_16 : decode cX10_storeLine 16 = .ok (.invokevirtual 207, 3) := by decide +kernel
theorem dX10_storeLine_19 : decode cX10_storeLine 19 = .ok (.aload_n 0, 1) := by decide +kernel
theorem dX10_storeLine_20 : decode cX10_storeLine 20 = .ok (.getfield 183, 3) := by decide +kernel
theorem dX10_storeLine_23 : decode cX10_storeLine 23 = .ok (.ifCond .eq 4, 3) := by decide +kernel
theorem dX10_storeLine_26 : decode cX10_storeLine 26 = .ok (.return_, 1) := by decide +kernel
theorem dX10_storeLine_27 : decode cX10_storeLine 27 = .ok (.aload_n 0, 1) := by decide +kernel
theorem dX10_storeLine_28 : decode cX10_storeLine 28 = .ok (.invokevirtual 204, 3) := by decide +kernel
theorem dX10_storeLine_31 : decode cX10_storeLine 31 = .ok (.aload_n 0, 1) := by decide +kernel
theorem dX10_storeLine_32 : decode cX10_storeLine 32 = .ok (.ldc_w 295, 3) := by decide +kernel
theorem dX10_storeLine_35 : decode cX10_storeLine 35 = .ok (.invokevirtual 240, 3) := by decide +kernel
