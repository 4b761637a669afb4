theorem dX5_doAct_102 : decode cX5_doAct 102 = .ok (.ireturn, 1) := by decide +kernel
theorem dX5_doAct_103 : decode cX5_doAct 103 = .ok (.aload_n 0, 1) := by decide +kernel
theorem dX5_doAct_104 : decode cX5_doAct 104 = .ok (.getfield 12, 3) := by decide +kernel
theorem dX5_doAct_107 : decode cX5_doAct 107 = .ok (.iload_n 1, 1) := by decide +kernel
theorem dX5_doAct_108 : decode cX5_doAct 108 = .ok (.aload_n 0, 1) := by decide +kernel
theorem dX5_doAct_109 : decode cX5_doAct 109 = .ok (.getfield 191, 3) := by decide +kernel
theorem dX5_doAct_112 : decode cX5_doAct 112 = .ok (.invokevirtual 213, 3) := by decide +kernel
theorem dX5_doAct_115 : decode cX5_doAct 115 = .ok (.ifCond .ne 28, 3) := by decide +kernel
theorem dX5_doAct_118 : decode cX5_doAct 118 = .ok (.aload_n 0, 1) := by decide +kernel
theorem dX5_doAct_119 : decode cX5_doAct 119 = .ok (.getfield 12, 3) := by decide +kernel
theorem dX5_doAct_122 : decode cX5_doAct 122 = .ok (.iload_n 1, 1) := by decide +kernel
theorem dX5_doAct_123 : decode cX5_doAct 123 = .ok (.aload_n 0, 1) := by decide +kernel
theorem dX5_doAct_124 : decode cX5_doAct 124 = .ok (.getfield 191, 3) := by decide +kernel
theorem dX5_doAct_127 : decode cX5_doAct 127 = .ok (.aload_n 0, 1) := by decide +kernel
theorem dX5_doAct_128 : decode cX5_doAct 128 = .ok (.getfield 168, 3) := by decide +kernel
theorem dX5_doAct_131 : decode cX5_doAct 131 = .ok (.invokevirtual 217, 3) := by decide +kernel
theorem dX5_doAct_134 : decode cX5_doAct 134 = .ok (.bipush (-2), 2) := by decide +kernel
theorem dX5_doAct_136 : decode cX5_doAct 136 = .ok (.if_icmp .eq 7, 3) := by decide +kernel
theorem dX5_doAct_139 : decode cX5_doAct 139 = .ok (.iconst 1, 1) := by decide +kernel
theorem dX5_doAct_140 : decode cX5_doAct 140 = .ok (.goto 4, 3) := by decide +kernel
theorem dX5_doAct_143 : decode cX5_doAct 143 = .ok (.iconst 0, 1) := by decide +kernel
theorem dX5_doAct_144 : decode cX5_doAct 144 = .ok (.ireturn, 1) := by decide +kernel
theorem dX5_doAct_145 : decode cX5_doAct 145 = .ok (.aload_n 0, 1) := by decide +kernel
theorem dX5_doAct_146 : decode cX5_doAct 146 = .ok (.getfield 12, 3) := by decide +kernel
theorem dX5_doAct_149 : decode cX5_doAct 149 = .ok (.iload_n 1, 1) := by decide +kernel
theorem dX5_doAct_150 : decode cX5_doAct 150 = .ok (.aload_n 0, 1) := by decide +kernel
theorem dX5_doAct_151 : decode cX5_doAct 151 = .ok (.getfield 191, 3) := by decide +kernel
theorem dX5_doAct_154 : decode cX5_doAct 154 = .ok (.invokevirtual 221, 3) := by decide +kernel
theorem dX5_doAct_157 : decode cX5_doAct 157 = .ok (.ifCond .ne 24, 3) := by decide +kernel
theorem dX5_doAct_160 : decode cX5_doAct 160 = .ok (.aload_n 0, 1) := by decide +kernel
theorem dX5_doAct_161 : decode cX5_doAct 161 = .ok (.getfield 12, 3) := by decide +kernel
theorem dX5_doAct_164 : decode cX5_doAct 164 = .ok (.iload_n 1, 1) := by decide +kernel
theorem dX5_doAct_165 : decode cX5_doAct 165 = .ok (.aload_n 0, 1) := by decide +kernel
theorem dX5_doAct_166 : decode cX5_doAct 166 = .ok (.getfield 191, 3) := by decide +kernel
theorem dX5_doAct_169 : decode cX5_doAct 169 = .ok (.invokevirtual 224, 3) := by decide +kernel
theorem dX5_doAct_172 : decode cX5_doAct 172 = .ok (.bipush (-2), 2) := by decide +kernel
theorem dX5_doAct_174 : decode cX5_doAct 174 = .ok (.if_icmp .eq 7, 3) := by decide +kernel
theorem dX5_doAct_177 : decode cX5_doAct 177 = .ok (.iconst 1, 1) := by decide +kernel
theorem dX5_doAct_178 : decode cX5_doAct 178 = .ok (.goto 4, 3) := by decide +kernel
theorem dX5_doAct_181 : decode cX5_doAct 181 = .ok (.iconst 0, 1) := by decide +kernel
theorem dX5_doAct_182 : decode cX5_doAct 182 = .ok (.ireturn, 1) := by decide +kernel
theorem dX5_doAct_183 : decode cX5_doAct 183 = .ok (.aload_n 0, 1) := by decide +kernel
theorem dX5_doAct_184 : decode cX5_doAct 184 = .ok (.aload_n 0, 1) := by decide +kernel
theorem dX5_doAct_185 : decode cX5_doAct 185 = .ok (.getfield 114, 3) := by decide +kernel
theorem dX5_doAct_188 : decode cX5_doAct 188 = .ok (.getstatic 227, 3) := by decide +kernel
theorem dX5_doAct_191 : decode cX5_doAct 191 = .ok (.if_acmp .ne 7, 3) := by decide +kernel
theorem dX5_doAct_194 : decode cX5_doAct 194 = .ok (.iconst 1, 1) := by decide +kernel
theorem dX5_doAct_195 : decode cX5_doAct 195 = .ok (.goto 4, 3) := by decide +kernel
theorem dX5_doAct_198 : decode cX5_doAct 198 = .ok (.iconst 0, 1) := by decide +kernel
theorem dX5_doAct_199 : decode cX5_doAct 199 = .ok (.invokevirtual 230, 3) := by decide +kernel
theorem dX5_doAct_202 : decode cX5_doAct 202 = .ok (.ireturn, 1) := by decide +kernel
theorem dX5_doAct_203 : decode cX5_doAct 203 = .ok (.aload_n 0, 1) := by decide +kernel
theorem dX5_doAct_204 : decode cX5_doAct 204 = .ok (.getfield 12, 3) := by decide +kernel
theorem dX5_doAct_207 : decode cX5_doAct 207 = .ok (.invokevirtual 234, 3) := by decide +kernel
theorem dX5_doAct_210 : decode cX5_doAct 210 = .ok (.ifCond .le 7, 3) := by decide +kernel
theorem dX5_doAct_213 : decode cX5_doAct 213 = .ok (.iconst 1, 1) := by decide +kernel
theorem dX5_doAct_214 : decode cX5_doAct 214 = .ok (.goto 4, 3) := by decide +kernel
theorem dX5_doAct_217 : decode cX5_doAct 217 = .ok (.iconst 0, 1) := by decide +kernel
theorem dX5_doAct_218 : decode cX5_doAct 218 = .ok (.ireturn, 1) := by decide +kernel
theorem dX5_doAct_219 : decode cX5_doAct 219 = .ok (.aload_n 0, 1) := by decide +kernel
theorem dX5_doAct_220 : decode cX5_doAct 220 = .ok (.getfield 12, 3) := by decide +kernel
theorem dX5_doAct_223 : decode cX5_doAct 223 = .ok (.invokevirtual 237, 3) := by decide +kernel
theorem dX5_doAct_226 : decode cX5_doAct 226 = .ok (.ifCond .le 7, 3) := by decide +kernel
theorem dX5_doAct_229 : decode cX5_doAct 229 = .ok (.iconst 1, 1) := by decide +kernel
theorem dX5_doAct_230 : decode cX5_doAct 230 = .ok (.goto 4, 3) := by decide +kernel
theorem dX5_doAct_233 : decode cX5_doAct 233 = .ok (.iconst 0, 1) := by decide +kernel
theorem dX5_doAct_234 : decode cX5_doAct 234 = .ok (.ireturn, 1) := by decide +kernel
theorem dX5_doAct_235 : decode cX5_doAct 235 = .ok (.iconst 1, 1) := by decide +kernel
theorem dX5_doAct_236 : decode cX5_doAct 236 = .ok (.ireturn, 1) := by decide +kernel
theorem dX5_addWriter_0 : decode cX5_addWriter 0 = .ok (.aload_n 0, 1) := by decide +kernel
theorem dX5_addWriter_1 : decode cX5_addWriter 1 = .ok (.getfield 53, 3) := by decide +kernel
theorem dX5_addWriter_4 : decode cX5_addWriter 4 = .ok (.bipush 12, 2) := by decide +kernel
theorem dX5_addWriter_6 : decode cX5_addWriter 6 = .ok (.if_icmp .lt 5, 3) := by decide +kernel
theorem dX5_addWriter_9 : decode cX5_addWriter 9 = .ok (.iconst 0, 1) := by decide +kernel
theorem dX5_addWriter_10 : decode cX5_addWriter 10 = .ok (.ireturn, 1) := by decide +kernel
theorem dX5_addWriter_11 : decode cX5_addWriter 11 = .ok (.aload_n 0, 1) := by decide +kernel
theorem dX5_addWriter_12 : decode cX5_addWriter 12 = .ok (.getfield 36, 3) := by decide +kernel
theorem dX5_addWriter_15 : decode cX5_addWriter 15 = .ok (.aload_n 0, 1) := by decide +kernel
theorem dX5_addWriter_16 : decode cX5_addWriter 16 = .ok (.getfield 53, 3) := by decide +kernel
theorem dX5_addWriter_19 : decode cX5_addWriter 19 = .ok (.aload_n 0, 1) := by decide +kernel
theorem dX5_addWriter_20 : decode cX5_addWriter 20 = .ok (.getfield 12, 3) := by decide +kernel
theorem dX5_addWriter_23 : decode cX5_addWriter 23 = .ok (.getfield 240, 3) := by decide +kernel
theorem dX5_addWriter_26 : decode cX5_addWriter 26 = .ok (.iastore, 1) := by decide +kernel
theorem dX5_addWriter_27 : decode cX5_addWriter 27 = .ok (.aload_n 0, 1) := by decide +kernel
theorem dX5_addWriter_28 : decode cX5_addWriter 28 = .ok (.getfield 40, 3) := by decide +kernel
theorem dX5_addWriter_31 : decode cX5_addWriter 31 = .ok (.aload_n 0, 1) := by decide +kernel
theorem dX5_addWriter_32 : decode cX5_addWriter 32 = .ok (.getfield 53, 3) := by decide +kernel
theorem dX5_addWriter_35 : decode cX5_addWriter 35 = .ok (.aload_n 0, 1) := by decide +kernel
theorem dX5_addWriter_36 : decode cX5_addWriter 36 = .ok (.getfield 12, 3) := by decide +kernel
theorem dX5_addWriter_39 : decode cX5_addWriter 39 = .ok (.invokevirtual 243, 3) := by decide +kernel
theorem dX5_addWriter_42 : decode cX5_addWriter 42 = .ok (.iastore, 1) := by decide +kernel
theorem dX5_addWriter_43 : decode cX5_addWriter 43 = .ok (.aload_n 0, 1) := by decide +kernel
theorem dX5_addWriter_44 : decode cX5_addWriter 44 = .ok (.dup, 1) := by decide +kernel
theorem dX5_addWriter_45 : decode cX5_addWriter 45 = .ok (.getfield 53, 3) := by decide +kernel
theorem dX5_addWriter_48 : decode cX5_addWriter 48 = .ok (.iconst 1, 1) := by decide +kernel
theorem dX5_addWriter_49 : decode cX5_addWriter 49 = .ok (.iadd, 1) := by decide +kernel
theorem dX5_addWriter_50 : decode cX5_addWriter 50 = .ok (.putfield 53, 3) := by decide +kernel
theorem dX5_addWriter_53 : decode cX5_addWriter 53 = .ok (.iconst 1, 1) := by decide +kernel
theorem dX5_addWriter_54 : decode cX5_addWriter 54 = .ok (.ireturn, 1) := by decide +kernel
theorem dX5_endNamed_0 : decode cX5_endNamed 0 = .ok (.aload_n 0, 1) := by decide +kernel
theorem dX5_endNamed_1 : decode cX5_endNamed 1 = .ok (.getfield 178, 3) := by decide +kernel
theorem dX5_endNamed_4 : decode cX5_endNamed 4 = .ok (.ifCond .lt 12, 3) := by decide +kernel
theorem dX5_endNamed_7 : decode cX5_endNamed 7 = .ok (.aload_n 0, 1) := by decide +kernel
theorem dX5_endNamed_8 : decode cX5_endNamed 8 = .ok (.getfield 178, 3) := by decide +kernel
theorem dX5_endNamed_11 : decode cX5_endNamed 11 = .ok (.bipush 12, 2) := by decide +kernel
theorem dX5_endNamed_13 : decode cX5_endNamed 13 = .ok (.if_icmp .lt 5, 3) := by decide +kernel
theorem dX5_endNamed_16 : decode cX5_endNamed 16 = .ok (.iconst 0, 1) := by decide +kernel
theorem dX5_endNamed_17 : decode cX5_endNamed 17 = .ok (.ireturn, 1) := by decide +kernel
theorem dX5_endNamed_18 : decode cX5_endNamed 18 = .ok (.aload_n 0, 1) := by decide +kernel
theorem dX5_endNamed_19 : decode cX5_endNamed 19 = .ok (.getfield 12, 3) := by decide +kernel
theorem dX5_endNamed_22 : decode cX5_endNamed 22 = .ok (.aload_n 0, 1) := by decide +kernel
theorem dX5_endNamed_23 : decode cX5_endNamed 23 = .ok (.getfield 40, 3) := by decide +kernel
theorem dX5_endNamed_26 : decode cX5_endNamed 26 = .ok (.aload_n 0, 1) := by decide +kernel
theorem dX5_endNamed_27 : decode cX5_endNamed 27 = .ok (.getfield 178, 3) := by decide +kernel
theorem dX5_endNamed_30 : decode cX5_endNamed 30 = .ok (.iaload, 1) := by decide +kernel
theorem dX5_endNamed_31 : decode cX5_endNamed 31 = .ok (.iload_n 1, 1) := by decide +kernel
theorem dX5_endNamed_32 : decode cX5_endNamed 32 = .ok (.invokevirtual 246, 3) := by decide +kernel
theorem dX5_endNamed_35 : decode cX5_endNamed 35 = .ok (.pop, 1) := by decide +kernel
theorem dX5_endNamed_36 : decode cX5_endNamed 36 = .ok (.aload_n 0, 1) := by decide +kernel
theorem dX5_endNamed_37 : decode cX5_endNamed 37 = .ok (.getfield 40, 3) := by decide +kernel
theorem dX5_endNamed_40 : decode cX5_endNamed 40 = .ok (.aload_n 0, 1) := by decide +kernel
theorem dX5_endNamed_41 : decode cX5_endNamed 41 = .ok (.getfield 178, 3) := by decide +kernel
theorem dX5_endNamed_44 : decode cX5_endNamed 44 = .ok (.bipush (-2), 2) := by decide +kernel
theorem dX5_endNamed_46 : decode cX5_endNamed 46 = .ok (.iastore, 1) := by decide +kernel
theorem dX5_endNamed_47 : decode cX5_endNamed 47 = .ok (.iconst 1, 1) := by decide +kernel
theorem dX5_endNamed_48 : decode cX5_endNamed 48 = .ok (.ireturn, 1) := by decide +kernel
