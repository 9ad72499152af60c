theorem d_Ref_step_0 : decode c_Ref_step 0 = .ok (.aload_n 0, 1) := by decide +kernel
theorem d_Ref_step_1 : decode c_Ref_step 1 = .ok (.getfield 7, 3) := by decide +kernel
theorem d_Ref_step_4 : decode c_Ref_step 4 = .ok (.aload_n 0, 1) := by decide +kernel
theorem d_Ref_step_5 : decode c_Ref_step 5 = .ok (.getfield 72, 3) := by decide +kernel
theorem d_Ref_step_8 : decode c_Ref_step 8 = .ok (.iaload, 1) := by decide +kernel
theorem d_Ref_step_9 : decode c_Ref_step 9 = .ok (.istore_n 1, 1) := by decide +kernel
theorem d_Ref_step_10 : decode c_Ref_step 10 = .ok (.aload_n 0, 1) := by decide +kernel
theorem d_Ref_step_11 : decode c_Ref_step 11 = .ok (.getfield 13, 3) := by decide +kernel
theorem d_Ref_step_14 : decode c_Ref_step 14 = .ok (.aload_n 0, 1) := by decide +kernel
theorem d_Ref_step_15 : decode c_Ref_step 15 = .ok (.getfield 72, 3) := by decide +kernel
theorem d_Ref_step_18 : decode c_Ref_step 18 = .ok (.iaload, 1) := by decide +kernel
theorem d_Ref_step_19 : decode c_Ref_step 19 = .ok (.istore_n 2, 1) := by decide +kernel
theorem d_Ref_step_20 : decode c_Ref_step 20 = .ok (.aload_n 0, 1) := by decide +kernel
theorem d_Ref_step_21 : decode c_Ref_step 21 = .ok (.iconst 0, 1) := by decide +kernel
theorem d_Ref_step_22 : decode c_Ref_step 22 = .ok (.putfield 101, 3) := by decide +kernel
theorem d_Ref_step_25 : decode c_Ref_step 25 = .ok (.aload_n 0, 1) := by decide +kernel
theorem d_Ref_step_26 : decode c_Ref_step 26 = .ok (.dup, 1) := by decide +kernel
theorem d_Ref_step_27 : decode c_Ref_step 27 = .ok (.getfield 91, 3) := by decide +kernel
theorem d_Ref_step_30 : decode c_Ref_step 30 = .ok (.iconst 1, 1) := by decide +kernel
theorem d_Ref_step_31 : decode c_Ref_step 31 = .ok (.iadd, 1) := by decide +kernel
theorem d_Ref_step_32 : decode c_Ref_step 32 = .ok (.putfield 91, 3) := by decide +kernel
theorem d_Ref_step_35 : decode c_Ref_step 35 = .ok (.iconst 0, 1) := by decide +kernel
theorem d_Ref_step_36 : decode c_Ref_step 36 = .ok (.istore_n 3, 1) := by decide +kernel
theorem d_Ref_step_37 : decode c_Ref_step 37 = .ok (.iload_n 1, 1) := by decide +kernel
theorem d_Ref_step_38 : decode c_Ref_step 38 = .ok (.bipush 34, 2) := by decide +kernel
theorem d_Ref_step_40 : decode c_Ref_step 40 = .ok (.if_icmp .ne 16, 3) := by decide +kernel
theorem d_Ref_step_43 : decode c_Ref_step 43 = .ok (.aload_n 0, 1) := by decide +kernel
theorem d_Ref_step_44 : decode c_Ref_step 44 = .ok (.aload_n 0, 1) := by decide +kernel
theorem d_Ref_step_45 : decode c_Ref_step 45 = .ok (.getfield 60, 3) := by decide +kernel
theorem d_Ref_step_48 : decode c_Ref_step 48 = .ok (.aload_n 0, 1) := by decide +kernel
theorem d_Ref_step_49 : decode c_Ref_step 49 = .ok (.getfield 63, 3) := by decide +kernel
theorem d_Ref_step_52 : decode c_Ref_step 52 = .ok (.invokevirtual 169, 3) := by decide +kernel
theorem d_Ref_step_55 : decode c_Ref_step 55 = .ok (.return_, 1) := by decide +kernel
theorem d_Ref_step_56 : decode c_Ref_step 56 = .ok (.iload_n 1, 1) := by decide +kernel
theorem d_Ref_step_57 : decode c_Ref_step 57 = .ok (.iconst 3, 1) := by decide +kernel
theorem d_Ref_step_58 : decode c_Ref_step 58 = .ok (.if_icmp .ge 12, 3) := by decide +kernel
theorem d_Ref_step_61 : decode c_Ref_step 61 = .ok (.aload_n 0, 1) := by decide +kernel
theorem d_Ref_step_62 : decode c_Ref_step 62 = .ok (.iload_n 1, 1) := by decide +kernel
theorem d_Ref_step_63 : decode c_Ref_step 63 = .ok (.iconst 0, 1) := by decide +kernel
theorem d_Ref_step_64 : decode c_Ref_step 64 = .ok (.invokevirtual 97, 3) := by decide +kernel
theorem d_Ref_step_67 : decode c_Ref_step 67 = .ok (.goto 190, 3) := by decide +kernel
theorem d_Ref_step_70 : decode c_Ref_step 70 = .ok (.iload_n 1, 1) := by decide +kernel
theorem d_Ref_step_71 : decode c_Ref_step 71 = .ok (.iconst 3, 1) := by decide +kernel
theorem d_Ref_step_72 : decode c_Ref_step 72 = .ok (.if_icmp .ne 12, 3) := by decide +kernel
theorem d_Ref_step_75 : decode c_Ref_step 75 = .ok (.aload_n 0, 1) := by decide +kernel
theorem d_Ref_step_76 : decode c_Ref_step 76 = .ok (.iconst 3, 1) := by decide +kernel
theorem d_Ref_step_77 : decode c_Ref_step 77 = .ok (.iload_n 2, 1) := by decide +kernel
theorem d_Ref_step_78 : decode c_Ref_step 78 = .ok (.invokevirtual 97, 3) := by decide +kernel
theorem d_Ref_step_81 : decode c_Ref_step 81 = .ok (.goto 176, 3) := by decide +kernel
theorem d_Ref_step_84 : decode c_Ref_step 84 = .ok (.iload_n 1, 1) := by decide +kernel
theorem d_Ref_step_85 : decode c_Ref_step 85 = .ok (.bipush 9, 2) := by decide +kernel
theorem d_Ref_step_87 : decode c_Ref_step 87 = .ok (.if_icmp .ge 12, 3) := by decide +kernel
theorem d_Ref_step_90 : decode c_Ref_step 90 = .ok (.aload_n 0, 1) := by decide +kernel
theorem d_Ref_step_91 : decode c_Ref_step 91 = .ok (.iload_n 1, 1) := by decide +kernel
theorem d_Ref_step_92 : decode c_Ref_step 92 = .ok (.iload_n 2, 1) := by decide +kernel
theorem d_Ref_step_93 : decode c_Ref_step 93 = .ok (.invokevirtual 172, 3) := by decide +kernel
theorem d_Ref_step_96 : decode c_Ref_step 96 = .ok (.goto 161, 3) := by decide +kernel
theorem d_Ref_step_99 : decode c_Ref_step 99 = .ok (.iload_n 1, 1) := by decide +kernel
theorem d_Ref_step_100 : decode c_Ref_step 100 = .ok (.bipush 15, 2) := by decide +kernel
theorem d_Ref_step_102 : decode c_Ref_step 102 = .ok (.if_icmp .ge 12, 3) := by decide +kernel
theorem d_Ref_step_105 : decode c_Ref_step 105 = .ok (.aload_n 0, 1) := by decide +kernel
theorem d_Ref_step_106 : decode c_Ref_step 106 = .ok (.iload_n 1, 1) := by decide +kernel
theorem d_Ref_step_107 : decode c_Ref_step 107 = .ok (.iload_n 2, 1) := by decide +kernel
theorem d_Ref_step_108 : decode c_Ref_step 108 = .ok (.invokevirtual 175, 3) := by decide +kernel
theorem d_Ref_step_111 : decode c_Ref_step 111 = .ok (.goto 146, 3) := by decide +kernel
theorem d_Ref_step_114 : decode c_Ref_step 114 = .ok (.iload_n 1, 1) := by decide +kernel
theorem d_Ref_step_115 : decode c_Ref_step 115 = .ok (.bipush 18, 2) := by decide +kernel
theorem d_Ref_step_117 : decode c_Ref_step 117 = .ok (.if_icmp .lt 17, 3) := by decide +kernel
theorem d_Ref_step_120 : decode c_Ref_step 120 = .ok (.iload_n 1, 1) := by decide +kernel
theorem d_Ref_step_121 : decode c_Ref_step 121 = .ok (.bipush 25, 2) := by decide +kernel
theorem d_Ref_step_123 : decode c_Ref_step 123 = .ok (.if_icmp .ge 11, 3) := by decide +kernel
theorem d_Ref_step_126 : decode c_Ref_step 126 = .ok (.aload_n 0, 1) := by decide +kernel
theorem d_Ref_step_127 : decode c_Ref_step 127 = .ok (.iload_n 1, 1) := by decide +kernel
theorem d_Ref_step_128 : decode c_Ref_step 128 = .ok (.invokevirtual 178, 3) := by decide +kernel
theorem d_Ref_step_131 : decode c_Ref_step 131 = .ok (.goto 126, 3) := by decide +kernel
theorem d_Ref_step_134 : decode c_Ref_step 134 = .ok (.iload_n 1, 1) := by decide +kernel
theorem d_Ref_step_135 : decode c_Ref_step 135 = .ok (.bipush 25, 2) := by decide +kernel
theorem d_Ref_step_137 : decode c_Ref_step 137 = .ok (.if_icmp .ne 23, 3) := by decide +kernel
theorem d_Ref_step_140 : decode c_Ref_step 140 = .ok (.aload_n 0, 1) := by decide +kernel
theorem d_Ref_step_141 : decode c_Ref_step 141 = .ok (.aload_n 0, 1) := by decide +kernel
theorem d_Ref_step_142 : decode c_Ref_step 142 = .ok (.getfield 60, 3) := by decide +kernel
theorem d_Ref_step_145 : decode c_Ref_step 145 = .ok (.iconst 2, 1) := by decide +kernel
theorem d_Ref_step_146 : decode c_Ref_step 146 = .ok (.if_icmp .eq 7, 3) := by decide +kernel
theorem d_Ref_step_149 : decode c_Ref_step 149 = .ok (.iconst 1, 1) := by decide +kernel
theorem d_Ref_step_150 : decode c_Ref_step 150 = .ok (.goto 4, 3) := by decide +kernel
theorem d_Ref_step_153 : decode c_Ref_step 153 = .ok (.iconst 0, 1) := by decide +kernel
theorem d_Ref_step_154 : decode c_Ref_step 154 = .ok (.invokevirtual 146, 3) := by decide +kernel
theorem d_Ref_step_157 : decode c_Ref_step 157 = .ok (.goto 100, 3) := by decide +kernel
theorem d_Ref_step_160 : decode c_Ref_step 160 = .ok (.iload_n 1, 1) := by decide +kernel
theorem d_Ref_step_161 : decode c_Ref_step 161 = .ok (.bipush 26, 2) := by decide +kernel
theorem d_Ref_step_163 : decode c_Ref_step 163 = .ok (.if_icmp .ne 15, 3) := by decide +kernel
theorem d_Ref_step_166 : decode c_Ref_step 166 = .ok (.aload_n 0, 1) := by decide +kernel
theorem d_Ref_step_167 : decode c_Ref_step 167 = .ok (.iconst 3, 1) := by decide +kernel
theorem d_Ref_step_168 : decode c_Ref_step 168 = .ok (.aload_n 0, 1) := by decide +kernel
theorem d_Ref_step_169 : decode c_Ref_step 169 = .ok (.getfield 60, 3) := by decide +kernel
theorem d_Ref_step_172 : decode c_Ref_step 172 = .ok (.invokevirtual 97, 3) := by decide +kernel
theorem d_Ref_step_175 : decode c_Ref_step 175 = .ok (.goto 82, 3) := by decide +kernel
theorem d_Ref_step_178 : decode c_Ref_step 178 = .ok (.iload_n 1, 1) := by decide +kernel
theorem d_Ref_step_179 : decode c_Ref_step 179 = .ok (.bipush 27, 2) := by decide +kernel
theorem d_Ref_step_181 : decode c_Ref_step 181 = .ok (.if_icmp .ne 10, 3) := by decide +kernel
theorem d_Ref_step_184 : decode c_Ref_step 184 = .ok (.aload_n 0, 1) := by decide +kernel
theorem d_Ref_step_185 : decode c_Ref_step 185 = .ok (.invokevirtual 181, 3) := by decide +kernel
theorem d_Ref_step_188 : decode c_Ref_step 188 = .ok (.goto 69, 3) := by decide +kernel
theorem d_Ref_step_191 : decode c_Ref_step 191 = .ok (.iload_n 1, 1) := by decide +kernel
theorem d_Ref_step_192 : decode c_Ref_step 192 = .ok (.bipush 28, 2) := by decide +kernel
theorem d_Ref_step_194 : decode c_Ref_step 194 = .ok (.if_icmp .ne 11, 3) := by decide +kernel
theorem d_Ref_step_197 : decode c_Ref_step 197 = .ok (.aload_n 0, 1) := by decide +kernel
theorem d_Ref_step_198 : decode c_Ref_step 198 = .ok (.iload_n 2, 1) := by decide +kernel
theorem d_Ref_step_199 : decode c_Ref_step 199 = .ok (.invokevirtual 184, 3) := by decide +kernel
theorem d_Ref_step_202 : decode c_Ref_step 202 = .ok (.goto 55, 3) := by decide +kernel
theorem d_Ref_step_205 : decode c_Ref_step 205 = .ok (.iload_n 1, 1) := by decide +kernel
theorem d_Ref_step_206 : decode c_Ref_step 206 = .ok (.bipush 29, 2) := by decide +kernel
theorem d_Ref_step_208 : decode c_Ref_step 208 = .ok (.if_icmp .ne 42, 3) := by decide +kernel
theorem d_Ref_step_211 : decode c_Ref_step 211 = .ok (.aload_n 0, 1) := by decide +kernel
theorem d_Ref_step_212 : decode c_Ref_step 212 = .ok (.iload_n 2, 1) := by decide +kernel
theorem d_Ref_step_213 : decode c_Ref_step 213 = .ok (.ifCond .lt 18, 3) := by decide +kernel
theorem d_Ref_step_216 : decode c_Ref_step 216 = .ok (.iload_n 2, 1) := by decide +kernel
theorem d_Ref_step_217 : decode c_Ref_step 217 = .ok (.bipush 8, 2) := by decide +kernel
theorem d_Ref_step_219 : decode c_Ref_step 219 = .ok (.idiv, 1) := by decide +kernel
theorem d_Ref_step_220 : decode c_Ref_step 220 = .ok (.aload_n 0, 1) := by decide +kernel
theorem d_Ref_step_221 : decode c_Ref_step 221 = .ok (.getfield 54, 3) := by decide +kernel
theorem d_Ref_step_224 : decode c_Ref_step 224 = .ok (.if_icmp .gt 7, 3) := by decide +kernel
theorem d_Ref_step_227 : decode c_Ref_step 227 = .ok (.iconst 1, 1) := by decide +kernel
theorem d_Ref_step_228 : decode c_Ref_step 228 = .ok (.goto 4, 3) := by decide +kernel
theorem d_Ref_step_231 : decode c_Ref_step 231 = .ok (.iconst 0, 1) := by decide +kernel
theorem d_Ref_step_232 : decode c_Ref_step 232 = .ok (.bipush 8, 2) := by decide +kernel
theorem d_Ref_step_234 : decode c_Ref_step 234 = .ok (.invokevirtual 104, 3) := by decide +kernel
theorem d_Ref_step_237 : decode c_Ref_step 237 = .ok (.ifCond .eq 20, 3) := by decide +kernel
theorem d_Ref_step_240 : decode c_Ref_step 240 = .ok (.aload_n 0, 1) := by decide +kernel
theorem d_Ref_step_241 : decode c_Ref_step 241 = .ok (.bipush 6, 2) := by decide +kernel
theorem d_Ref_step_243 : decode c_Ref_step 243 = .ok (.iload_n 2, 1) := by decide +kernel
theorem d_Ref_step_244 : decode c_Ref_step 244 = .ok (.invokevirtual 97, 3) := by decide +kernel
theorem d_Ref_step_247 : decode c_Ref_step 247 = .ok (.goto 10, 3) := by decide +kernel
theorem d_Ref_step_250 : decode c_Ref_step 250 = .ok (.aload_n 0, 1) := by decide +kernel
theorem d_Ref_step_251 : decode c_Ref_step 251 = .ok (.iload_n 1, 1) := by decide +kernel
theorem d_Ref_step_252 : decode c_Ref_step 252 = .ok (.iload_n 2, 1) := by decide +kernel
theorem d_Ref_step_253 : decode c_Ref_step 253 = .ok (.invokevirtual 187, 3) := by decide +kernel
theorem d_Ref_step_256 : decode c_Ref_step 256 = .ok (.istore_n 3, 1) := by decide +kernel
theorem d_Ref_step_257 : decode c_Ref_step 257 = .ok (.aload_n 0, 1) := by decide +kernel
theorem d_Ref_step_258 : decode c_Ref_step 258 = .ok (.getfield 101, 3) := by decide +kernel
theorem d_Ref_step_261 : decode c_Ref_step 261 = .ok (.ifCond .le 15, 3) := by decide +kernel
theorem d_Ref_step_264 : decode c_Ref_step 264 = .ok (.aload_n 0, 1) := by decide +kernel
theorem d_Ref_step_265 : decode c_Ref_step 265 = .ok (.iconst 3, 1) := by decide +kernel
theorem d_Ref_step_266 : decode c_Ref_step 266 = .ok (.aload_n 0, 1) := by decide +kernel
theorem d_Ref_step_267 : decode c_Ref_step 267 = .ok (.getfield 101, 3) := by decide +kernel
theorem d_Ref_step_270 : decode c_Ref_step 270 = .ok (.invokevirtual 169, 3) := by decide +kernel
theorem d_Ref_step_273 : decode c_Ref_step 273 = .ok (.goto 17, 3) := by decide +kernel
theorem d_Ref_step_276 : decode c_Ref_step 276 = .ok (.iload_n 3, 1) := by decide +kernel
theorem d_Ref_step_277 : decode c_Ref_step 277 = .ok (.ifCond .ne 13, 3) := by decide +kernel
theorem d_Ref_step_280 : decode c_Ref_step 280 = .ok (.aload_n 0, 1) := by decide +kernel
theorem d_Ref_step_281 : decode c_Ref_step 281 = .ok (.dup, 1) := by decide +kernel
theorem d_Ref_step_282 : decode c_Ref_step 282 = .ok (.getfield 72, 3) := by decide +kernel
theorem d_Ref_step_285 : decode c_Ref_step 285 = .ok (.iconst 1, 1) := by decide +kernel
theorem d_Ref_step_286 : decode c_Ref_step 286 = .ok (.iadd, 1) := by decide +kernel
theorem d_Ref_step_287 : decode c_Ref_step 287 = .ok (.putfield 72, 3) := by decide +kernel
theorem d_Ref_step_290 : decode c_Ref_step 290 = .ok (.return_, 1) := by decide +kernel
theorem d_Ref_run_0 : decode c_Ref_run 0 = .ok (.aload_n 0, 1) := by decide +kernel
theorem d_Ref_run_1 : decode c_Ref_run 1 = .ok (.iload_n 1, 1) := by decide +kernel
theorem d_Ref_run_2 : decode c_Ref_run 2 = .ok (.ifCond .lt 10, 3) := by decide +kernel
theorem d_Ref_run_5 : decode c_Ref_run 5 = .ok (.iload_n 1, 1) := by decide +kernel
theorem d_Ref_run_6 : decode c_Ref_run 6 = .ok (.sipush 20000, 3) := by decide +kernel
theorem d_Ref_run_9 : decode c_Ref_run 9 = .ok (.if_icmp .le 7, 3) := by decide +kernel
theorem d_Ref_run_12 : decode c_Ref_run 12 = .ok (.iconst 1, 1) := by decide +kernel
theorem d_Ref_run_13 : decode c_Ref_run 13 = .ok (.goto 4, 3) := by decide +kernel
theorem d_Ref_run_16 : decode c_Ref_run 16 = .ok (.iconst 0, 1) := by decide +kernel
theorem d_Ref_run_17 : decode c_Ref_run 17 = .ok (.putfield 50, 3) := by decide +kernel
theorem d_Ref_run_20 : decode c_Ref_run 20 = .ok (.aload_n 0, 1) := by decide +kernel
theorem d_Ref_run_21 : decode c_Ref_run 21 = .ok (.getfield 50, 3) := by decide +kernel
theorem d_Ref_run_24 : decode c_Ref_run 24 = .ok (.ifCond .le 5, 3) := by decide +kernel
theorem d_Ref_run_27 : decode c_Ref_run 27 = .ok (.iconst 0, 1) := by decide +kernel
theorem d_Ref_run_28 : decode c_Ref_run 28 = .ok (.ireturn, 1) := by decide +kernel
theorem d_Ref_run_29 : decode c_Ref_run 29 = .ok (.aload_n 0, 1) := by decide +kernel
theorem d_Ref_run_30 : decode c_Ref_run 30 = .ok (.iconst 0, 1) := by decide +kernel
theorem d_Ref_run_31 : decode c_Ref_run 31 = .ok (.putfield 79, 3) := by decide +kernel
theorem d_Ref_run_34 : decode c_Ref_run 34 = .ok (.aload_n 0, 1) := by decide +kernel
theorem d_Ref_run_35 : decode c_Ref_run 35 = .ok (.iconst 0, 1) := by decide +kernel
theorem d_Ref_run_36 : decode c_Ref_run 36 = .ok (.putfield 82, 3) := by decide +kernel
theorem d_Ref_run_39 : decode c_Ref_run 39 = .ok (.iconst 0, 1) := by decide +kernel
theorem d_Ref_run_40 : decode c_Ref_run 40 = .ok (.istore_n 2, 1) := by decide +kernel
theorem d_Ref_run_41 : decode c_Ref_run 41 = .ok (.iload_n 2, 1) := by decide +kernel
theorem d_Ref_run_42 : decode c_Ref_run 42 = .ok (.iload_n 1, 1) := by decide +kernel
theorem d_Ref_run_43 : decode c_Ref_run 43 = .ok (.if_icmp .ge 31, 3) := by decide +kernel
theorem d_Ref_run_46 : decode c_Ref_run 46 = .ok (.aload_n 0, 1) := by decide +kernel
theorem d_Ref_run_47 : decode c_Ref_run 47 = .ok (.getfield 75, 3) := by decide +kernel
theorem d_Ref_run_50 : decode c_Ref_run 50 = .ok (.ifCond .ne 24, 3) := by decide +kernel
theorem d_Ref_run_53 : decode c_Ref_run 53 = .ok (.aload_n 0, 1) := by decide +kernel
theorem d_Ref_run_54 : decode c_Ref_run 54 = .ok (.getfield 72, 3) := by decide +kernel
theorem d_Ref_run_57 : decode c_Ref_run 57 = .ok (.aload_n 0, 1) := by decide +kernel
theorem d_Ref_run_58 : decode c_Ref_run 58 = .ok (.getfield 54, 3) := by decide +kernel
theorem d_Ref_run_61 : decode c_Ref_run 61 = .ok (.if_icmp .ge 13, 3) := by decide +kernel
theorem d_Ref_run_64 : decode c_Ref_run 64 = .ok (.aload_n 0, 1) := by decide +kernel
theorem d_Ref_run_65 : decode c_Ref_run 65 = .ok (.invokevirtual 190, 3) := by decide +kernel
theorem d_Ref_run_68 : decode c_Ref_run 68 = .ok (.iinc 2 1, 3) := by decide +kernel
theorem d_Ref_run_71 : decode c_Ref_run 71 = .ok (.goto (-30), 3) := by decide +kernel
theorem d_Ref_run_74 : decode c_Ref_run 74 = .ok (.iload_n 2, 1) := by decide +kernel
theorem d_Ref_run_75 : decode c_Ref_run 75 = .ok (.ireturn, 1) := by decide +kernel
theorem d_Ref_state_0 : decode c_Ref_state 0 = .ok (.aload_n 0, 1) := by decide +kernel
theorem d_Ref_state_1 : decode c_Ref_state 1 = .ok (.iconst 0, 1) := by decide +kernel
theorem d_Ref_state_2 : decode c_Ref_state 2 = .ok (.putfield 50, 3) := by decide +kernel
theorem d_Ref_state_5 : decode c_Ref_state 5 = .ok (.aload_n 0, 1) := by decide +kernel
theorem d_Ref_state_6 : decode c_Ref_state 6 = .ok (.getfield 75, 3) := by decide +kernel
theorem d_Ref_state_9 : decode c_Ref_state 9 = .ok (.ifCond .eq 7, 3) := by decide +kernel
theorem d_Ref_state_12 : decode c_Ref_state 12 = .ok (.iconst 2, 1) := by decide +kernel
theorem d_Ref_state_13 : decode c_Ref_state 13 = .ok (.goto 19, 3) := by decide +kernel
theorem d_Ref_state_16 : decode c_Ref_state 16 = .ok (.aload_n 0, 1) := by decide +kernel
theorem d_Ref_state_17 : decode c_Ref_state 17 = .ok (.getfield 72, 3) := by decide +kernel
theorem d_Ref_state_20 : decode c_Ref_state 20 = .ok (.aload_n 0, 1) := by decide +kernel
theorem d_Ref_state_21 : decode c_Ref_state 21 = .ok (.getfield 54, 3) := by decide +kernel
theorem d_Ref_state_24 : decode c_Ref_state 24 = .ok (.if_icmp .ne 7, 3) := by decide +kernel
theorem d_Ref_state_27 : decode c_Ref_state 27 = .ok (.iconst 1, 1) := by decide +kernel
theorem d_Ref_state_28 : decode c_Ref_state 28 = .ok (.goto 4, 3) := by decide +kernel
theorem d_Ref_state_31 : decode c_Ref_state 31 = .ok (.iconst 0, 1) := by decide +kernel
theorem d_Ref_state_32 : decode c_Ref_state 32 = .ok (.ireturn, 1) := by decide +kernel
theorem d_Ref_chooses_0 : decode c_Ref_chooses 0 = .ok (.aload_n 0, 1) := by decide +kernel
theorem d_Ref_chooses_1 : decode c_Ref_chooses 1 = .ok (.iload_n 1, 1) := by decide +kernel
theorem d_Ref_chooses_2 : decode c_Ref_chooses 2 = .ok (.putfield 79, 3) := by decide +kernel
theorem d_Ref_chooses_5 : decode c_Ref_chooses 5 = .ok (.aload_n 0, 1) := by decide +kernel
theorem d_Ref_chooses_6 : decode c_Ref_chooses 6 = .ok (.iload_n 2, 1) := by decide +kernel
theorem d_Ref_chooses_7 : decode c_Ref_chooses 7 = .ok (.putfield 82, 3) := by decide +kernel
theorem d_Ref_chooses_10 : decode c_Ref_chooses 10 = .ok (.iload_n 1, 1) := by decide +kernel
theorem d_Ref_chooses_11 : decode c_Ref_chooses 11 = .ok (.ireturn, 1) := by decide +kernel
theorem d_Ref_look_0 : decode c_Ref_look 0 = .ok (.aload_n 0, 1) := by decide +kernel
theorem d_Ref_look_1 : decode c_Ref_look 1 = .ok (.iconst 0, 1) := by decide +kernel
theorem d_Ref_look_2 : decode c_Ref_look 2 = .ok (.putfield 50, 3) := by decide +kernel
theorem d_Ref_look_5 : decode c_Ref_look 5 = .ok (.iload_n 1, 1) := by decide +kernel
theorem d_Ref_look_6 : decode c_Ref_look 6 = .ok (.tableswitch 139 0 3 #[30, 43, 84, 115], 30) := by decide +kernel
theorem d_Ref_look_36 : decode c_Ref_look 36 = .ok (.aload_n 0, 1) := by decide +kernel
theorem d_Ref_look_37 : decode c_Ref_look 37 = .ok (.aload_n 0, 1) := by decide +kernel
theorem d_Ref_look_38 : decode c_Ref_look 38 = .ok (.getfield 60, 3) := by decide +kernel
theorem d_Ref_look_41 : decode c_Ref_look 41 = .ok (.aload_n 0, 1) := by decide +kernel
theorem d_Ref_look_42 : decode c_Ref_look 42 = .ok (.getfield 63, 3) := by decide +kernel
theorem d_Ref_look_45 : decode c_Ref_look 45 = .ok (.invokevirtual 193, 3) := by decide +kernel
theorem d_Ref_look_48 : decode c_Ref_look 48 = .ok (.ireturn, 1) := by decide +kernel
theorem d_Ref_look_49 : decode c_Ref_look 49 = .ok (.iload_n 2, 1) := by decide +kernel
theorem d_Ref_look_50 : decode c_Ref_look 50 = .ok (.ifCond .lt 11, 3) := by decide +kernel
theorem d_Ref_look_53 : decode c_Ref_look 53 = .ok (.iload_n 2, 1) := by decide +kernel
theorem d_Ref_look_54 : decode c_Ref_look 54 = .ok (.aload_n 0, 1) := by decide +kernel
theorem d_Ref_look_55 : decode c_Ref_look 55 = .ok (.getfield 66, 3) := by decide +kernel
theorem d_Ref_look_58 : decode c_Ref_look 58 = .ok (.if_icmp .lt 7, 3) := by decide +kernel
theorem d_Ref_look_61 : decode c_Ref_look 61 = .ok (.iconst (-1), 1) := by decide +kernel
theorem d_Ref_look_62 : decode c_Ref_look 62 = .ok (.goto 27, 3) := by decide +kernel
theorem d_Ref_look_65 : decode c_Ref_look 65 = .ok (.aload_n 0, 1) := by decide +kernel
theorem d_Ref_look_66 : decode c_Ref_look 66 = .ok (.aload_n 0, 1) := by decide +kernel
theorem d_Ref_look_67 : decode c_Ref_look 67 = .ok (.getfield 16, 3) := by decide +kernel
theorem d_Ref_look_70 : decode c_Ref_look 70 = .ok (.aload_n 0, 1) := by decide +kernel
theorem d_Ref_look_71 : decode c_Ref_look 71 = .ok (.iload_n 2, 1) := by decide +kernel
theorem d_Ref_look_72 : decode c_Ref_look 72 = .ok (.invokevirtual 108, 3) := by decide +kernel
theorem d_Ref_look_75 : decode c_Ref_look 75 = .ok (.iaload, 1) := by decide +kernel
theorem d_Ref_look_76 : decode c_Ref_look 76 = .ok (.aload_n 0, 1) := by decide +kernel
theorem d_Ref_look_77 : decode c_Ref_look 77 = .ok (.getfield 19, 3) := by decide +kernel
theorem d_Ref_look_80 : decode c_Ref_look 80 = .ok (.aload_n 0, 1) := by decide +kernel
theorem d_Ref_look_81 : decode c_Ref_look 81 = .ok (.iload_n 2, 1) := by decide +kernel
theorem d_Ref_look_82 : decode c_Ref_look 82 = .ok (.invokevirtual 108, 3) := by decide +kernel
theorem d_Ref_look_85 : decode c_Ref_look 85 = .ok (.iaload, 1) := by decide +kernel
theorem d_Ref_look_86 : decode c_Ref_look 86 = .ok (.invokevirtual 193, 3) := by decide +kernel
theorem d_Ref_look_89 : decode c_Ref_look 89 = .ok (.ireturn, 1) := by decide +kernel
theorem d_Ref_look_90 : decode c_Ref_look 90 = .ok (.iload_n 2, 1) := by decide +kernel
theorem d_Ref_look_91 : decode c_Ref_look 91 = .ok (.ifCond .lt 9, 3) := by decide +kernel
theorem d_Ref_look_94 : decode c_Ref_look 94 = .ok (.iload_n 2, 1) := by decide +kernel
theorem d_Ref_look_95 : decode c_Ref_look 95 = .ok (.bipush 7, 2) := by decide +kernel
theorem d_Ref_look_97 : decode c_Ref_look 97 = .ok (.if_icmp .le 7, 3) := by decide +kernel
theorem d_Ref_look_100 : decode c_Ref_look 100 = .ok (.iconst (-1), 1) := by decide +kernel
theorem d_Ref_look_101 : decode c_Ref_look 101 = .ok (.goto 19, 3) := by decide +kernel
theorem d_Ref_look_104 : decode c_Ref_look 104 = .ok (.aload_n 0, 1) := by decide +kernel
theorem d_Ref_look_105 : decode c_Ref_look 105 = .ok (.aload_n 0, 1) := by decide +kernel
theorem d_Ref_look_106 : decode c_Ref_look 106 = .ok (.getfield 22, 3) := by decide +kernel
theorem d_Ref_look_109 : decode c_Ref_look 109 = .ok (.iload_n 2, 1) := by decide +kernel
theorem d_Ref_look_110 : decode c_Ref_look 110 = .ok (.iaload, 1) := by decide +kernel
theorem d_Ref_look_111 : decode c_Ref_look 111 = .ok (.aload_n 0, 1) := by decide +kernel
theorem d_Ref_look_112 : decode c_Ref_look 112 = .ok (.getfield 25, 3) := by decide +kernel
theorem d_Ref_look_115 : decode c_Ref_look 115 = .ok (.iload_n 2, 1) := by decide +kernel
theorem d_Ref_look_116 : decode c_Ref_look 116 = .ok (.iaload, 1) := by decide +kernel
theorem d_Ref_look_117 : decode c_Ref_look 117 = .ok (.invokevirtual 193, 3) := by decide +kernel
theorem d_Ref_look_120 : decode c_Ref_look 120 = .ok (.ireturn, 1) := by decide +kernel
theorem d_Ref_look_121 : decode c_Ref_look 121 = .ok (.aload_n 0, 1) := by decide +kernel
theorem d_Ref_look_122 : decode c_Ref_look 122 = .ok (.getfield 75, 3) := by decide +kernel
theorem d_Ref_look_125 : decode c_Ref_look 125 = .ok (.ifCond .eq 18, 3) := by decide +kernel
theorem d_Ref_look_128 : decode c_Ref_look 128 = .ok (.aload_n 0, 1) := by decide +kernel
theorem d_Ref_look_129 : decode c_Ref_look 129 = .ok (.aload_n 0, 1) := by decide +kernel
theorem d_Ref_look_130 : decode c_Ref_look 130 = .ok (.getfield 163, 3) := by decide +kernel
theorem d_Ref_look_133 : decode c_Ref_look 133 = .ok (.aload_n 0, 1) := by decide +kernel
theorem d_Ref_look_134 : decode c_Ref_look 134 = .ok (.getfield 166, 3) := by decide +kernel
theorem d_Ref_look_137 : decode c_Ref_look 137 = .ok (.invokevirtual 193, 3) := by decide +kernel
theorem d_Ref_look_140 : decode c_Ref_look 140 = .ok (.goto 4, 3) := by decide +kernel
theorem d_Ref_look_143 : decode c_Ref_look 143 = .ok (.iconst (-1), 1) := by decide +kernel
theorem d_Ref_look_144 : decode c_Ref_look 144 = .ok (.ireturn, 1) := by decide +kernel
theorem d_Ref_look_145 : decode c_Ref_look 145 = .ok (.iconst (-1), 1) := by decide +kernel
theorem d_Ref_look_146 : decode c_Ref_look 146 = .ok (.ireturn, 1) := by decide +kernel
theorem d_Ref_into_0 : decode c_Ref_into 0 = .ok (.aload_n 0, 1) := by decide +kernel
theorem d_Ref_into_1 : decode c_Ref_into 1 = .ok (.iconst 0, 1) := by decide +kernel
theorem d_Ref_into_2 : decode c_Ref_into 2 = .ok (.putfield 50, 3) := by decide +kernel
theorem d_Ref_into_5 : decode c_Ref_into 5 = .ok (.aload_n 0, 1) := by decide +kernel
theorem d_Ref_into_6 : decode c_Ref_into 6 = .ok (.getfield 79, 3) := by decide +kernel
theorem d_Ref_into_9 : decode c_Ref_into 9 = .ok (.iconst 4, 1) := by decide +kernel
theorem d_Ref_into_10 : decode c_Ref_into 10 = .ok (.if_icmp .eq 11, 3) := by decide +kernel
theorem d_Ref_into_13 : decode c_Ref_into 13 = .ok (.aload_n 0, 1) := by decide +kernel
theorem d_Ref_into_14 : decode c_Ref_into 14 = .ok (.getfield 79, 3) := by decide +kernel
theorem d_Ref_into_17 : decode c_Ref_into 17 = .ok (.iconst 5, 1) := by decide +kernel
theorem d_Ref_into_18 : decode c_Ref_into 18 = .ok (.if_icmp .ne 20, 3) := by decide +kernel
theorem d_Ref_into_21 : decode c_Ref_into 21 = .ok (.iload_n 1, 1) := by decide +kernel
theorem d_Ref_into_22 : decode c_Ref_into 22 = .ok (.ifCond .lt 16, 3) := by decide +kernel
theorem d_Ref_into_25 : decode c_Ref_into 25 = .ok (.iload_n 1, 1) := by decide +kernel
theorem d_Ref_into_26 : decode c_Ref_into 26 = .ok (.aload_n 0, 1) := by decide +kernel
theorem d_Ref_into_27 : decode c_Ref_into 27 = .ok (.getfield 37, 3) := by decide +kernel
theorem d_Ref_into_30 : decode c_Ref_into 30 = .ok (.aload_n 0, 1) := by decide +kernel
theorem d_Ref_into_31 : decode c_Ref_into 31 = .ok (.getfield 82, 3) := by decide +kernel
theorem d_Ref_into_34 : decode c_Ref_into 34 = .ok (.iaload, 1) := by decide +kernel
theorem d_Ref_into_35 : decode c_Ref_into 35 = .ok (.if_icmp .lt 5, 3) := by decide +kernel
theorem d_Ref_into_38 : decode c_Ref_into 38 = .ok (.iconst (-1), 1) := by decide +kernel
theorem d_Ref_into_39 : decode c_Ref_into 39 = .ok (.ireturn, 1) := by decide +kernel
theorem d_Ref_into_40 : decode c_Ref_into 40 = .ok (.bipush 20, 2) := by decide +kernel
theorem d_Ref_into_42 : decode c_Ref_into 42 = .ok (.aload_n 0, 1) := by decide +kernel
theorem d_Ref_into_43 : decode c_Ref_into 43 = .ok (.getfield 82, 3) := by decide +kernel
theorem d_Ref_into_46 : decode c_Ref_into 46 = .ok (.imul, 1) := by decide +kernel
theorem d_Ref_into_47 : decode c_Ref_into 47 = .ok (.iload_n 1, 1) := by decide +kernel
theorem d_Ref_into_48 : decode c_Ref_into 48 = .ok (.iadd, 1) := by decide +kernel
theorem d_Ref_into_49 : decode c_Ref_into 49 = .ok (.istore_n 2, 1) := by decide +kernel
theorem d_Ref_into_50 : decode c_Ref_into 50 = .ok (.aload_n 0, 1) := by decide +kernel
theorem d_Ref_into_51 : decode c_Ref_into 51 = .ok (.aload_n 0, 1) := by decide +kernel
theorem d_Ref_into_52 : decode c_Ref_into 52 = .ok (.getfield 40, 3) := by decide +kernel
theorem d_Ref_into_55 : decode c_Ref_into 55 = .ok (.iload_n 2, 1) := by decide +kernel
theorem d_Ref_into_56 : decode c_Ref_into 56 = .ok (.iaload, 1) := by decide +kernel
theorem d_Ref_into_57 : decode c_Ref_into 57 = .ok (.aload_n 0, 1) := by decide +kernel
theorem d_Ref_into_58 : decode c_Ref_into 58 = .ok (.getfield 43, 3) := by decide +kernel
theorem d_Ref_into_61 : decode c_Ref_into 61 = .ok (.iload_n 2, 1) := by decide +kernel
theorem d_Ref_into_62 : decode c_Ref_into 62 = .ok (.iaload, 1) := by decide +kernel
theorem d_Ref_into_63 : decode c_Ref_into 63 = .ok (.invokevirtual 193, 3) := by decide +kernel
theorem d_Ref_into_66 : decode c_Ref_into 66 = .ok (.ireturn, 1) := by decide +kernel
theorem d_Ref_value_0 : decode c_Ref_value 0 = .ok (.aload_n 0, 1) := by decide +kernel
theorem d_Ref_value_1 : decode c_Ref_value 1 = .ok (.iconst 0, 1) := by decide +kernel
theorem d_Ref_value_2 : decode c_Ref_value 2 = .ok (.putfield 50, 3) := by decide +kernel
theorem d_Ref_value_5 : decode c_Ref_value 5 = .ok (.aload_n 0, 1) := by decide +kernel
theorem d_Ref_value_6 : decode c_Ref_value 6 = .ok (.getfield 79, 3) := by decide +kernel
theorem d_Ref_value_9 : decode c_Ref_value 9 = .ok (.iconst 3, 1) := by decide +kernel
theorem d_Ref_value_10 : decode c_Ref_value 10 = .ok (.if_icmp .eq 12, 3) := by decide +kernel
theorem d_Ref_value_13 : decode c_Ref_value 13 = .ok (.aload_n 0, 1) := by decide +kernel
theorem d_Ref_value_14 : decode c_Ref_value 14 = .ok (.getfield 79, 3) := by decide +kernel
theorem d_Ref_value_17 : decode c_Ref_value 17 = .ok (.bipush 6, 2) := by decide +kernel
theorem d_Ref_value_19 : decode c_Ref_value 19 = .ok (.if_icmp .ne 10, 3) := by decide +kernel
theorem d_Ref_value_22 : decode c_Ref_value 22 = .ok (.aload_n 0, 1) := by decide +kernel
theorem d_Ref_value_23 : decode c_Ref_value 23 = .ok (.getfield 82, 3) := by decide +kernel
theorem d_Ref_value_26 : decode c_Ref_value 26 = .ok (.goto 24, 3) := by decide +kernel
theorem d_Ref_value_29 : decode c_Ref_value 29 = .ok (.aload_n 0, 1) := by decide +kernel
theorem d_Ref_value_30 : decode c_Ref_value 30 = .ok (.getfield 79, 3) := by decide +kernel
theorem d_Ref_value_33 : decode c_Ref_value 33 = .ok (.iconst 5, 1) := by decide +kernel
theorem d_Ref_value_34 : decode c_Ref_value 34 = .ok (.if_icmp .ne 15, 3) := by decide +kernel
theorem d_Ref_value_37 : decode c_Ref_value 37 = .ok (.aload_n 0, 1) := by decide +kernel
theorem d_Ref_value_38 : decode c_Ref_value 38 = .ok (.getfield 37, 3) := by decide +kernel
theorem d_Ref_value_41 : decode c_Ref_value 41 = .ok (.aload_n 0, 1) := by decide +kernel
theorem d_Ref_value_42 : decode c_Ref_value 42 = .ok (.getfield 82, 3) := by decide +kernel
theorem d_Ref_value_45 : decode c_Ref_value 45 = .ok (.iaload, 1) := by decide +kernel
theorem d_Ref_value_46 : decode c_Ref_value 46 = .ok (.goto 4, 3) := by decide +kernel
theorem d_Ref_value_49 : decode c_Ref_value 49 = .ok (.iconst 0, 1) := by decide +kernel
theorem d_Ref_value_50 : decode c_Ref_value 50 = .ok (.ireturn, 1) := by decide +kernel
theorem d_Ref_isSame_0 : decode c_Ref_isSame 0 = .ok (.aload_n 0, 1) := by decide +kernel
theorem d_Ref_isSame_1 : decode c_Ref_isSame 1 = .ok (.iconst 0, 1) := by decide +kernel
theorem d_Ref_isSame_2 : decode c_Ref_isSame 2 = .ok (.putfield 50, 3) := by decide +kernel
theorem d_Ref_isSame_5 : decode c_Ref_isSame 5 = .ok (.aload_n 0, 1) := by decide +kernel
theorem d_Ref_isSame_6 : decode c_Ref_isSame 6 = .ok (.getfield 79, 3) := by decide +kernel
theorem d_Ref_isSame_9 : decode c_Ref_isSame 9 = .ok (.aload_n 0, 1) := by decide +kernel
theorem d_Ref_isSame_10 : decode c_Ref_isSame 10 = .ok (.getfield 82, 3) := by decide +kernel
theorem d_Ref_isSame_13 : decode c_Ref_isSame 13 = .ok (.aload_n 0, 1) := by decide +kernel
theorem d_Ref_isSame_14 : decode c_Ref_isSame 14 = .ok (.getfield 60, 3) := by decide +kernel
theorem d_Ref_isSame_17 : decode c_Ref_isSame 17 = .ok (.aload_n 0, 1) := by decide +kernel
theorem d_Ref_isSame_18 : decode c_Ref_isSame 18 = .ok (.getfield 63, 3) := by decide +kernel
theorem d_Ref_isSame_21 : decode c_Ref_isSame 21 = .ok (.invokestatic 142, 3) := by decide +kernel
theorem d_Ref_isSame_24 : decode c_Ref_isSame 24 = .ok (.ireturn, 1) := by decide +kernel
theorem d_Ref_count_0 : decode c_Ref_count 0 = .ok (.aload_n 0, 1) := by decide +kernel
theorem d_Ref_count_1 : decode c_Ref_count 1 = .ok (.iconst 0, 1) := by decide +kernel
theorem d_Ref_count_2 : decode c_Ref_count 2 = .ok (.putfield 50, 3) := by decide +kernel
theorem d_Ref_count_5 : decode c_Ref_count 5 = .ok (.iload_n 1, 1) := by decide +kernel
theorem d_Ref_count_6 : decode c_Ref_count 6 = .ok (.tableswitch 95 0 8 #[50, 55, 60, 65, 70, 75, 80, 85, 90], 50) := by decide +kernel
theorem d_Ref_count_56 : decode c_Ref_count 56 = .ok (.aload_n 0, 1) := by decide +kernel
theorem d_Ref_count_57 : decode c_Ref_count 57 = .ok (.getfield 54, 3) := by decide +kernel
theorem d_Ref_count_60 : decode c_Ref_count 60 = .ok (.ireturn, 1) := by decide +kernel
theorem d_Ref_count_61 : decode c_Ref_count 61 = .ok (.aload_n 0, 1) := by decide +kernel
theorem d_Ref_count_62 : decode c_Ref_count 62 = .ok (.getfield 72, 3) := by decide +kernel
theorem d_Ref_count_65 : decode c_Ref_count 65 = .ok (.ireturn, 1) := by decide +kernel
theorem d_Ref_count_66 : decode c_Ref_count 66 = .ok (.aload_n 0, 1) := by decide +kernel
theorem d_Ref_count_67 : decode c_Ref_count 67 = .ok (.getfield 66, 3) := by decide +kernel
theorem d_Ref_count_70 : decode c_Ref_count 70 = .ok (.ireturn, 1) := by decide +kernel
theorem d_Ref_count_71 : decode c_Ref_count 71 = .ok (.aload_n 0, 1) := by decide +kernel
theorem d_Ref_count_72 : decode c_Ref_count 72 = .ok (.getfield 69, 3) := by decide +kernel
theorem d_Ref_count_75 : decode c_Ref_count 75 = .ok (.ireturn, 1) := by decide +kernel
theorem d_Ref_count_76 : decode c_Ref_count 76 = .ok (.aload_n 0, 1) := by decide +kernel
theorem d_Ref_count_77 : decode c_Ref_count 77 = .ok (.invokevirtual 115, 3) := by decide +kernel
theorem d_Ref_count_80 : decode c_Ref_count 80 = .ok (.ireturn, 1) := by decide +kernel
theorem d_Ref_count_81 : decode c_Ref_count 81 = .ok (.aload_n 0, 1) := by decide +kernel
theorem d_Ref_count_82 : decode c_Ref_count 82 = .ok (.getfield 85, 3) := by decide +kernel
theorem d_Ref_count_85 : decode c_Ref_count 85 = .ok (.ireturn, 1) := by decide +kernel
theorem d_Ref_count_86 : decode c_Ref_count 86 = .ok (.aload_n 0, 1) := by decide +kernel
theorem d_Ref_count_87 : decode c_Ref_count 87 = .ok (.getfield 88, 3) := by decide +kernel
theorem d_Ref_count_90 : decode c_Ref_count 90 = .ok (.ireturn, 1) := by decide +kernel
theorem d_Ref_count_91 : decode c_Ref_count 91 = .ok (.aload_n 0, 1) := by decide +kernel
theorem d_Ref_count_92 : decode c_Ref_count 92 = .ok (.getfield 91, 3) := by decide +kernel
theorem d_Ref_count_95 : decode c_Ref_count 95 = .ok (.ireturn, 1) := by decide +kernel
theorem d_Ref_count_96 : decode c_Ref_count 96 = .ok (.aload_n 0, 1) := by decide +kernel
theorem d_Ref_count_97 : decode c_Ref_count 97 = .ok (.getfield 94, 3) := by decide +kernel
theorem d_Ref_count_100 : decode c_Ref_count 100 = .ok (.ireturn, 1) := by decide +kernel
theorem d_Ref_count_101 : decode c_Ref_count 101 = .ok (.iconst (-1), 1) := by decide +kernel
theorem d_Ref_count_102 : decode c_Ref_count 102 = .ok (.ireturn, 1) := by decide +kernel
