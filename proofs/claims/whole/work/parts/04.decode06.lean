theorem d_Ref_reckons_0 : decode c_Ref_reckons 0 = .ok (.aload_n 0, 1) := by decide +kernel
theorem d_Ref_reckons_1 : decode c_Ref_reckons 1 = .ok (.iconst 1, 1) := by decide +kernel
theorem d_Ref_reckons_2 : decode c_Ref_reckons 2 = .ok (.invokevirtual 125, 3) := by decide +kernel
theorem d_Ref_reckons_5 : decode c_Ref_reckons 5 = .ok (.ifCond .ne 4, 3) := by decide +kernel
theorem d_Ref_reckons_8 : decode c_Ref_reckons 8 = .ok (.return_, 1) := by decide +kernel
theorem d_Ref_reckons_9 : decode c_Ref_reckons 9 = .ok (.aload_n 0, 1) := by decide +kernel
theorem d_Ref_reckons_10 : decode c_Ref_reckons 10 = .ok (.getfield 16, 3) := by decide +kernel
theorem d_Ref_reckons_13 : decode c_Ref_reckons 13 = .ok (.aload_n 0, 1) := by decide +kernel
theorem d_Ref_reckons_14 : decode c_Ref_reckons 14 = .ok (.iconst 0, 1) := by decide +kernel
theorem d_Ref_reckons_15 : decode c_Ref_reckons 15 = .ok (.invokevirtual 108, 3) := by decide +kernel
theorem d_Ref_reckons_18 : decode c_Ref_reckons 18 = .ok (.iaload, 1) := by decide +kernel
theorem d_Ref_reckons_19 : decode c_Ref_reckons 19 = .ok (.istore_n 2, 1) := by decide +kernel
theorem d_Ref_reckons_20 : decode c_Ref_reckons 20 = .ok (.aload_n 0, 1) := by decide +kernel
theorem d_Ref_reckons_21 : decode c_Ref_reckons 21 = .ok (.getfield 19, 3) := by decide +kernel
theorem d_Ref_reckons_24 : decode c_Ref_reckons 24 = .ok (.aload_n 0, 1) := by decide +kernel
theorem d_Ref_reckons_25 : decode c_Ref_reckons 25 = .ok (.iconst 0, 1) := by decide +kernel
theorem d_Ref_reckons_26 : decode c_Ref_reckons 26 = .ok (.invokevirtual 108, 3) := by decide +kernel
theorem d_Ref_reckons_29 : decode c_Ref_reckons 29 = .ok (.iaload, 1) := by decide +kernel
theorem d_Ref_reckons_30 : decode c_Ref_reckons 30 = .ok (.istore_n 3, 1) := by decide +kernel
theorem d_Ref_reckons_31 : decode c_Ref_reckons 31 = .ok (.aload_n 0, 1) := by decide +kernel
theorem d_Ref_reckons_32 : decode c_Ref_reckons 32 = .ok (.getfield 63, 3) := by decide +kernel
theorem d_Ref_reckons_35 : decode c_Ref_reckons 35 = .ok (.istore 4, 2) := by decide +kernel
theorem d_Ref_reckons_37 : decode c_Ref_reckons 37 = .ok (.iload_n 1, 1) := by decide +kernel
theorem d_Ref_reckons_38 : decode c_Ref_reckons 38 = .ok (.bipush 18, 2) := by decide +kernel
theorem d_Ref_reckons_40 : decode c_Ref_reckons 40 = .ok (.if_icmp .ne 29, 3) := by decide +kernel
theorem d_Ref_reckons_43 : decode c_Ref_reckons 43 = .ok (.aload_n 0, 1) := by decide +kernel
theorem d_Ref_reckons_44 : decode c_Ref_reckons 44 = .ok (.iload_n 2, 1) := by decide +kernel
theorem d_Ref_reckons_45 : decode c_Ref_reckons 45 = .ok (.iload_n 3, 1) := by decide +kernel
theorem d_Ref_reckons_46 : decode c_Ref_reckons 46 = .ok (.aload_n 0, 1) := by decide +kernel
theorem d_Ref_reckons_47 : decode c_Ref_reckons 47 = .ok (.getfield 60, 3) := by decide +kernel
theorem d_Ref_reckons_50 : decode c_Ref_reckons 50 = .ok (.iload 4, 2) := by decide +kernel
theorem d_Ref_reckons_52 : decode c_Ref_reckons 52 = .ok (.invokestatic 142, 3) := by decide +kernel
theorem d_Ref_reckons_55 : decode c_Ref_reckons 55 = .ok (.invokevirtual 146, 3) := by decide +kernel
theorem d_Ref_reckons_58 : decode c_Ref_reckons 58 = .ok (.aload_n 0, 1) := by decide +kernel
theorem d_Ref_reckons_59 : decode c_Ref_reckons 59 = .ok (.dup, 1) := by decide +kernel
theorem d_Ref_reckons_60 : decode c_Ref_reckons 60 = .ok (.getfield 66, 3) := by decide +kernel
theorem d_Ref_reckons_63 : decode c_Ref_reckons 63 = .ok (.iconst 1, 1) := by decide +kernel
theorem d_Ref_reckons_64 : decode c_Ref_reckons 64 = .ok (.isub, 1) := by decide +kernel
theorem d_Ref_reckons_65 : decode c_Ref_reckons 65 = .ok (.putfield 66, 3) := by decide +kernel
theorem d_Ref_reckons_68 : decode c_Ref_reckons 68 = .ok (.return_, 1) := by decide +kernel
theorem d_Ref_reckons_69 : decode c_Ref_reckons 69 = .ok (.aload_n 0, 1) := by decide +kernel
theorem d_Ref_reckons_70 : decode c_Ref_reckons 70 = .ok (.iconst 0, 1) := by decide +kernel
theorem d_Ref_reckons_71 : decode c_Ref_reckons 71 = .ok (.iconst 3, 1) := by decide +kernel
theorem d_Ref_reckons_72 : decode c_Ref_reckons 72 = .ok (.invokevirtual 135, 3) := by decide +kernel
theorem d_Ref_reckons_75 : decode c_Ref_reckons 75 = .ok (.ifCond .ne 7, 3) := by decide +kernel
theorem d_Ref_reckons_78 : decode c_Ref_reckons 78 = .ok (.iconst 1, 1) := by decide +kernel
theorem d_Ref_reckons_79 : decode c_Ref_reckons 79 = .ok (.goto 4, 3) := by decide +kernel
theorem d_Ref_reckons_82 : decode c_Ref_reckons 82 = .ok (.iconst 0, 1) := by decide +kernel
theorem d_Ref_reckons_83 : decode c_Ref_reckons 83 = .ok (.aload_n 0, 1) := by decide +kernel
theorem d_Ref_reckons_84 : decode c_Ref_reckons 84 = .ok (.iconst 3, 1) := by decide +kernel
theorem d_Ref_reckons_85 : decode c_Ref_reckons 85 = .ok (.invokevirtual 129, 3) := by decide +kernel
theorem d_Ref_reckons_88 : decode c_Ref_reckons 88 = .ok (.ifCond .ne 7, 3) := by decide +kernel
theorem d_Ref_reckons_91 : decode c_Ref_reckons 91 = .ok (.iconst 1, 1) := by decide +kernel
theorem d_Ref_reckons_92 : decode c_Ref_reckons 92 = .ok (.goto 4, 3) := by decide +kernel
theorem d_Ref_reckons_95 : decode c_Ref_reckons 95 = .ok (.iconst 0, 1) := by decide +kernel
theorem d_Ref_reckons_96 : decode c_Ref_reckons 96 = .ok (.ior, 1) := by decide +kernel
theorem d_Ref_reckons_97 : decode c_Ref_reckons 97 = .ok (.ifCond .ne 27, 3) := by decide +kernel
theorem d_Ref_reckons_100 : decode c_Ref_reckons 100 = .ok (.aload_n 0, 1) := by decide +kernel
theorem d_Ref_reckons_101 : decode c_Ref_reckons 101 = .ok (.iload_n 1, 1) := by decide +kernel
theorem d_Ref_reckons_102 : decode c_Ref_reckons 102 = .ok (.bipush 23, 2) := by decide +kernel
theorem d_Ref_reckons_104 : decode c_Ref_reckons 104 = .ok (.if_icmp .lt 8, 3) := by decide +kernel
theorem d_Ref_reckons_107 : decode c_Ref_reckons 107 = .ok (.iload 4, 2) := by decide +kernel
theorem d_Ref_reckons_109 : decode c_Ref_reckons 109 = .ok (.ifCond .eq 7, 3) := by decide +kernel
theorem d_Ref_reckons_112 : decode c_Ref_reckons 112 = .ok (.iconst 1, 1) := by decide +kernel
theorem d_Ref_reckons_113 : decode c_Ref_reckons 113 = .ok (.goto 4, 3) := by decide +kernel
theorem d_Ref_reckons_116 : decode c_Ref_reckons 116 = .ok (.iconst 0, 1) := by decide +kernel
theorem d_Ref_reckons_117 : decode c_Ref_reckons 117 = .ok (.iconst 5, 1) := by decide +kernel
theorem d_Ref_reckons_118 : decode c_Ref_reckons 118 = .ok (.invokevirtual 104, 3) := by decide +kernel
theorem d_Ref_reckons_121 : decode c_Ref_reckons 121 = .ok (.ifCond .ne 4, 3) := by decide +kernel
theorem d_Ref_reckons_124 : decode c_Ref_reckons 124 = .ok (.return_, 1) := by decide +kernel
theorem d_Ref_reckons_125 : decode c_Ref_reckons 125 = .ok (.aload_n 0, 1) := by decide +kernel
theorem d_Ref_reckons_126 : decode c_Ref_reckons 126 = .ok (.dup, 1) := by decide +kernel
theorem d_Ref_reckons_127 : decode c_Ref_reckons 127 = .ok (.getfield 66, 3) := by decide +kernel
theorem d_Ref_reckons_130 : decode c_Ref_reckons 130 = .ok (.iconst 1, 1) := by decide +kernel
theorem d_Ref_reckons_131 : decode c_Ref_reckons 131 = .ok (.isub, 1) := by decide +kernel
theorem d_Ref_reckons_132 : decode c_Ref_reckons 132 = .ok (.putfield 66, 3) := by decide +kernel
theorem d_Ref_reckons_135 : decode c_Ref_reckons 135 = .ok (.iload_n 1, 1) := by decide +kernel
theorem d_Ref_reckons_136 : decode c_Ref_reckons 136 = .ok (.tableswitch 113 19 23 #[36, 54, 66, 78, 90], 36) := by decide +kernel
theorem d_Ref_reckons_172 : decode c_Ref_reckons 172 = .ok (.aload_n 0, 1) := by decide +kernel
theorem d_Ref_reckons_173 : decode c_Ref_reckons 173 = .ok (.iload_n 3, 1) := by decide +kernel
theorem d_Ref_reckons_174 : decode c_Ref_reckons 174 = .ok (.iload 4, 2) := by decide +kernel
theorem d_Ref_reckons_176 : decode c_Ref_reckons 176 = .ok (.if_icmp .ge 7, 3) := by decide +kernel
theorem d_Ref_reckons_179 : decode c_Ref_reckons 179 = .ok (.iconst 1, 1) := by decide +kernel
theorem d_Ref_reckons_180 : decode c_Ref_reckons 180 = .ok (.goto 4, 3) := by decide +kernel
theorem d_Ref_reckons_183 : decode c_Ref_reckons 183 = .ok (.iconst 0, 1) := by decide +kernel
theorem d_Ref_reckons_184 : decode c_Ref_reckons 184 = .ok (.invokevirtual 146, 3) := by decide +kernel
theorem d_Ref_reckons_187 : decode c_Ref_reckons 187 = .ok (.goto 81, 3) := by decide +kernel
theorem d_Ref_reckons_190 : decode c_Ref_reckons 190 = .ok (.aload_n 0, 1) := by decide +kernel
theorem d_Ref_reckons_191 : decode c_Ref_reckons 191 = .ok (.iconst 3, 1) := by decide +kernel
theorem d_Ref_reckons_192 : decode c_Ref_reckons 192 = .ok (.iload_n 3, 1) := by decide +kernel
theorem d_Ref_reckons_193 : decode c_Ref_reckons 193 = .ok (.iload 4, 2) := by decide +kernel
theorem d_Ref_reckons_195 : decode c_Ref_reckons 195 = .ok (.iadd, 1) := by decide +kernel
theorem d_Ref_reckons_196 : decode c_Ref_reckons 196 = .ok (.invokevirtual 97, 3) := by decide +kernel
theorem d_Ref_reckons_199 : decode c_Ref_reckons 199 = .ok (.goto 69, 3) := by decide +kernel
theorem d_Ref_reckons_202 : decode c_Ref_reckons 202 = .ok (.aload_n 0, 1) := by decide +kernel
theorem d_Ref_reckons_203 : decode c_Ref_reckons 203 = .ok (.iconst 3, 1) := by decide +kernel
theorem d_Ref_reckons_204 : decode c_Ref_reckons 204 = .ok (.iload_n 3, 1) := by decide +kernel
theorem d_Ref_reckons_205 : decode c_Ref_reckons 205 = .ok (.iload 4, 2) := by decide +kernel
theorem d_Ref_reckons_207 : decode c_Ref_reckons 207 = .ok (.isub, 1) := by decide +kernel
theorem d_Ref_reckons_208 : decode c_Ref_reckons 208 = .ok (.invokevirtual 97, 3) := by decide +kernel
theorem d_Ref_reckons_211 : decode c_Ref_reckons 211 = .ok (.goto 57, 3) := by decide +kernel
theorem d_Ref_reckons_214 : decode c_Ref_reckons 214 = .ok (.aload_n 0, 1) := by decide +kernel
theorem d_Ref_reckons_215 : decode c_Ref_reckons 215 = .ok (.iconst 3, 1) := by decide +kernel
theorem d_Ref_reckons_216 : decode c_Ref_reckons 216 = .ok (.iload_n 3, 1) := by decide +kernel
theorem d_Ref_reckons_217 : decode c_Ref_reckons 217 = .ok (.iload 4, 2) := by decide +kernel
theorem d_Ref_reckons_219 : decode c_Ref_reckons 219 = .ok (.imul, 1) := by decide +kernel
theorem d_Ref_reckons_220 : decode c_Ref_reckons 220 = .ok (.invokevirtual 97, 3) := by decide +kernel
theorem d_Ref_reckons_223 : decode c_Ref_reckons 223 = .ok (.goto 45, 3) := by decide +kernel
theorem d_Ref_reckons_226 : decode c_Ref_reckons 226 = .ok (.aload_n 0, 1) := by decide +kernel
theorem d_Ref_reckons_227 : decode c_Ref_reckons 227 = .ok (.iconst 3, 1) := by decide +kernel
theorem d_Ref_reckons_228 : decode c_Ref_reckons 228 = .ok (.iload 4, 2) := by decide +kernel
theorem d_Ref_reckons_230 : decode c_Ref_reckons 230 = .ok (.iconst (-1), 1) := by decide +kernel
theorem d_Ref_reckons_231 : decode c_Ref_reckons 231 = .ok (.if_icmp .ne 8, 3) := by decide +kernel
theorem d_Ref_reckons_234 : decode c_Ref_reckons 234 = .ok (.iload_n 3, 1) := by decide +kernel
theorem d_Ref_reckons_235 : decode c_Ref_reckons 235 = .ok (.ineg, 1) := by decide +kernel
theorem d_Ref_reckons_236 : decode c_Ref_reckons 236 = .ok (.goto 7, 3) := by decide +kernel
theorem d_Ref_reckons_239 : decode c_Ref_reckons 239 = .ok (.iload_n 3, 1) := by decide +kernel
theorem d_Ref_reckons_240 : decode c_Ref_reckons 240 = .ok (.iload 4, 2) := by decide +kernel
theorem d_Ref_reckons_242 : decode c_Ref_reckons 242 = .ok (.idiv, 1) := by decide +kernel
theorem d_Ref_reckons_243 : decode c_Ref_reckons 243 = .ok (.invokevirtual 97, 3) := by decide +kernel
theorem d_Ref_reckons_246 : decode c_Ref_reckons 246 = .ok (.goto 22, 3) := by decide +kernel
theorem d_Ref_reckons_249 : decode c_Ref_reckons 249 = .ok (.aload_n 0, 1) := by decide +kernel
theorem d_Ref_reckons_250 : decode c_Ref_reckons 250 = .ok (.iconst 3, 1) := by decide +kernel
theorem d_Ref_reckons_251 : decode c_Ref_reckons 251 = .ok (.iload 4, 2) := by decide +kernel
theorem d_Ref_reckons_253 : decode c_Ref_reckons 253 = .ok (.iconst (-1), 1) := by decide +kernel
theorem d_Ref_reckons_254 : decode c_Ref_reckons 254 = .ok (.if_icmp .ne 7, 3) := by decide +kernel
theorem d_Ref_reckons_257 : decode c_Ref_reckons 257 = .ok (.iconst 0, 1) := by decide +kernel
theorem d_Ref_reckons_258 : decode c_Ref_reckons 258 = .ok (.goto 7, 3) := by decide +kernel
theorem d_Ref_reckons_261 : decode c_Ref_reckons 261 = .ok (.iload_n 3, 1) := by decide +kernel
theorem d_Ref_reckons_262 : decode c_Ref_reckons 262 = .ok (.iload 4, 2) := by decide +kernel
theorem d_Ref_reckons_264 : decode c_Ref_reckons 264 = .ok (.irem, 1) := by decide +kernel
theorem d_Ref_reckons_265 : decode c_Ref_reckons 265 = .ok (.invokevirtual 97, 3) := by decide +kernel
theorem d_Ref_reckons_268 : decode c_Ref_reckons 268 = .ok (.return_, 1) := by decide +kernel
theorem d_Ref_notes_0 : decode c_Ref_notes 0 = .ok (.aload_n 0, 1) := by decide +kernel
theorem d_Ref_notes_1 : decode c_Ref_notes 1 = .ok (.getfield 28, 3) := by decide +kernel
theorem d_Ref_notes_4 : decode c_Ref_notes 4 = .ok (.aload_n 0, 1) := by decide +kernel
theorem d_Ref_notes_5 : decode c_Ref_notes 5 = .ok (.getfield 69, 3) := by decide +kernel
theorem d_Ref_notes_8 : decode c_Ref_notes 8 = .ok (.iload_n 1, 1) := by decide +kernel
theorem d_Ref_notes_9 : decode c_Ref_notes 9 = .ok (.iastore, 1) := by decide +kernel
theorem d_Ref_notes_10 : decode c_Ref_notes 10 = .ok (.aload_n 0, 1) := by decide +kernel
theorem d_Ref_notes_11 : decode c_Ref_notes 11 = .ok (.getfield 31, 3) := by decide +kernel
theorem d_Ref_notes_14 : decode c_Ref_notes 14 = .ok (.aload_n 0, 1) := by decide +kernel
theorem d_Ref_notes_15 : decode c_Ref_notes 15 = .ok (.getfield 69, 3) := by decide +kernel
theorem d_Ref_notes_18 : decode c_Ref_notes 18 = .ok (.iload_n 2, 1) := by decide +kernel
theorem d_Ref_notes_19 : decode c_Ref_notes 19 = .ok (.iastore, 1) := by decide +kernel
theorem d_Ref_notes_20 : decode c_Ref_notes 20 = .ok (.aload_n 0, 1) := by decide +kernel
theorem d_Ref_notes_21 : decode c_Ref_notes 21 = .ok (.dup, 1) := by decide +kernel
theorem d_Ref_notes_22 : decode c_Ref_notes 22 = .ok (.getfield 69, 3) := by decide +kernel
theorem d_Ref_notes_25 : decode c_Ref_notes 25 = .ok (.iconst 1, 1) := by decide +kernel
theorem d_Ref_notes_26 : decode c_Ref_notes 26 = .ok (.iadd, 1) := by decide +kernel
theorem d_Ref_notes_27 : decode c_Ref_notes 27 = .ok (.putfield 69, 3) := by decide +kernel
theorem d_Ref_notes_30 : decode c_Ref_notes 30 = .ok (.return_, 1) := by decide +kernel
theorem d_Ref_calls_0 : decode c_Ref_calls 0 = .ok (.aload_n 0, 1) := by decide +kernel
theorem d_Ref_calls_1 : decode c_Ref_calls 1 = .ok (.iload_n 1, 1) := by decide +kernel
theorem d_Ref_calls_2 : decode c_Ref_calls 2 = .ok (.invokevirtual 125, 3) := by decide +kernel
theorem d_Ref_calls_5 : decode c_Ref_calls 5 = .ok (.pop, 1) := by decide +kernel
theorem d_Ref_calls_6 : decode c_Ref_calls 6 = .ok (.aload_n 0, 1) := by decide +kernel
theorem d_Ref_calls_7 : decode c_Ref_calls 7 = .ok (.bipush 6, 2) := by decide +kernel
theorem d_Ref_calls_9 : decode c_Ref_calls 9 = .ok (.invokevirtual 129, 3) := by decide +kernel
theorem d_Ref_calls_12 : decode c_Ref_calls 12 = .ok (.pop, 1) := by decide +kernel
theorem d_Ref_calls_13 : decode c_Ref_calls 13 = .ok (.aload_n 0, 1) := by decide +kernel
theorem d_Ref_calls_14 : decode c_Ref_calls 14 = .ok (.aload_n 0, 1) := by decide +kernel
theorem d_Ref_calls_15 : decode c_Ref_calls 15 = .ok (.getfield 69, 3) := by decide +kernel
theorem d_Ref_calls_18 : decode c_Ref_calls 18 = .ok (.bipush 40, 2) := by decide +kernel
theorem d_Ref_calls_20 : decode c_Ref_calls 20 = .ok (.if_icmp .ge 7, 3) := by decide +kernel
theorem d_Ref_calls_23 : decode c_Ref_calls 23 = .ok (.iconst 1, 1) := by decide +kernel
theorem d_Ref_calls_24 : decode c_Ref_calls 24 = .ok (.goto 4, 3) := by decide +kernel
theorem d_Ref_calls_27 : decode c_Ref_calls 27 = .ok (.iconst 0, 1) := by decide +kernel
theorem d_Ref_calls_28 : decode c_Ref_calls 28 = .ok (.iconst 4, 1) := by decide +kernel
theorem d_Ref_calls_29 : decode c_Ref_calls 29 = .ok (.invokevirtual 104, 3) := by decide +kernel
theorem d_Ref_calls_32 : decode c_Ref_calls 32 = .ok (.pop, 1) := by decide +kernel
theorem d_Ref_calls_33 : decode c_Ref_calls 33 = .ok (.aload_n 0, 1) := by decide +kernel
theorem d_Ref_calls_34 : decode c_Ref_calls 34 = .ok (.getfield 60, 3) := by decide +kernel
theorem d_Ref_calls_37 : decode c_Ref_calls 37 = .ok (.bipush 6, 2) := by decide +kernel
theorem d_Ref_calls_39 : decode c_Ref_calls 39 = .ok (.if_icmp .ne 25, 3) := by decide +kernel
theorem d_Ref_calls_42 : decode c_Ref_calls 42 = .ok (.aload_n 0, 1) := by decide +kernel
theorem d_Ref_calls_43 : decode c_Ref_calls 43 = .ok (.aload_n 0, 1) := by decide +kernel
theorem d_Ref_calls_44 : decode c_Ref_calls 44 = .ok (.getfield 63, 3) := by decide +kernel
theorem d_Ref_calls_47 : decode c_Ref_calls 47 = .ok (.bipush 8, 2) := by decide +kernel
theorem d_Ref_calls_49 : decode c_Ref_calls 49 = .ok (.irem, 1) := by decide +kernel
theorem d_Ref_calls_50 : decode c_Ref_calls 50 = .ok (.iload_n 1, 1) := by decide +kernel
theorem d_Ref_calls_51 : decode c_Ref_calls 51 = .ok (.if_icmp .ne 7, 3) := by decide +kernel
theorem d_Ref_calls_54 : decode c_Ref_calls 54 = .ok (.iconst 1, 1) := by decide +kernel
theorem d_Ref_calls_55 : decode c_Ref_calls 55 = .ok (.goto 4, 3) := by decide +kernel
theorem d_Ref_calls_58 : decode c_Ref_calls 58 = .ok (.iconst 0, 1) := by decide +kernel
theorem d_Ref_calls_59 : decode c_Ref_calls 59 = .ok (.iconst 1, 1) := by decide +kernel
theorem d_Ref_calls_60 : decode c_Ref_calls 60 = .ok (.invokevirtual 104, 3) := by decide +kernel
theorem d_Ref_calls_63 : decode c_Ref_calls 63 = .ok (.pop, 1) := by decide +kernel
theorem d_Ref_calls_64 : decode c_Ref_calls 64 = .ok (.aload_n 0, 1) := by decide +kernel
theorem d_Ref_calls_65 : decode c_Ref_calls 65 = .ok (.getfield 101, 3) := by decide +kernel
theorem d_Ref_calls_68 : decode c_Ref_calls 68 = .ok (.ifCond .ne 25, 3) := by decide +kernel
theorem d_Ref_calls_71 : decode c_Ref_calls 71 = .ok (.aload_n 0, 1) := by decide +kernel
theorem d_Ref_calls_72 : decode c_Ref_calls 72 = .ok (.aload_n 0, 1) := by decide +kernel
theorem d_Ref_calls_73 : decode c_Ref_calls 73 = .ok (.getfield 72, 3) := by decide +kernel
theorem d_Ref_calls_76 : decode c_Ref_calls 76 = .ok (.iconst 1, 1) := by decide +kernel
theorem d_Ref_calls_77 : decode c_Ref_calls 77 = .ok (.iadd, 1) := by decide +kernel
theorem d_Ref_calls_78 : decode c_Ref_calls 78 = .ok (.iconst (-1), 1) := by decide +kernel
theorem d_Ref_calls_79 : decode c_Ref_calls 79 = .ok (.invokevirtual 150, 3) := by decide +kernel
theorem d_Ref_calls_82 : decode c_Ref_calls 82 = .ok (.aload_n 0, 1) := by decide +kernel
theorem d_Ref_calls_83 : decode c_Ref_calls 83 = .ok (.aload_n 0, 1) := by decide +kernel
theorem d_Ref_calls_84 : decode c_Ref_calls 84 = .ok (.getfield 63, 3) := by decide +kernel
theorem d_Ref_calls_87 : decode c_Ref_calls 87 = .ok (.bipush 8, 2) := by decide +kernel
theorem d_Ref_calls_89 : decode c_Ref_calls 89 = .ok (.idiv, 1) := by decide +kernel
theorem d_Ref_calls_90 : decode c_Ref_calls 90 = .ok (.putfield 72, 3) := by decide +kernel
theorem d_Ref_calls_93 : decode c_Ref_calls 93 = .ok (.return_, 1) := by decide +kernel
theorem d_Ref_goes_0 : decode c_Ref_goes 0 = .ok (.iload_n 1, 1) := by decide +kernel
theorem d_Ref_goes_1 : decode c_Ref_goes 1 = .ok (.tableswitch 287 15 32 #[87, 87, 87, 287, 287, 287, 287, 287, 287, 287, 287, 287, 287, 287, 287, 132, 150, 243], 87) := by decide +kernel
theorem d_Ref_goes_88 : decode c_Ref_goes 88 = .ok (.aload_n 0, 1) := by decide +kernel
theorem d_Ref_goes_89 : decode c_Ref_goes 89 = .ok (.iload_n 2, 1) := by decide +kernel
theorem d_Ref_goes_90 : decode c_Ref_goes 90 = .ok (.invokevirtual 152, 3) := by decide +kernel
theorem d_Ref_goes_93 : decode c_Ref_goes 93 = .ok (.ifCond .eq 31, 3) := by decide +kernel
theorem d_Ref_goes_96 : decode c_Ref_goes 96 = .ok (.iload_n 1, 1) := by decide +kernel
theorem d_Ref_goes_97 : decode c_Ref_goes 97 = .ok (.bipush 16, 2) := by decide +kernel
theorem d_Ref_goes_99 : decode c_Ref_goes 99 = .ok (.if_icmp .ne 11, 3) := by decide +kernel
theorem d_Ref_goes_102 : decode c_Ref_goes 102 = .ok (.aload_n 0, 1) := by decide +kernel
theorem d_Ref_goes_103 : decode c_Ref_goes 103 = .ok (.getfield 60, 3) := by decide +kernel
theorem d_Ref_goes_106 : decode c_Ref_goes 106 = .ok (.iconst 2, 1) := by decide +kernel
theorem d_Ref_goes_107 : decode c_Ref_goes 107 = .ok (.if_icmp .ne 17, 3) := by decide +kernel
theorem d_Ref_goes_110 : decode c_Ref_goes 110 = .ok (.iload_n 1, 1) := by decide +kernel
theorem d_Ref_goes_111 : decode c_Ref_goes 111 = .ok (.bipush 17, 2) := by decide +kernel
theorem d_Ref_goes_113 : decode c_Ref_goes 113 = .ok (.if_icmp .ne 13, 3) := by decide +kernel
theorem d_Ref_goes_116 : decode c_Ref_goes 116 = .ok (.aload_n 0, 1) := by decide +kernel
theorem d_Ref_goes_117 : decode c_Ref_goes 117 = .ok (.getfield 60, 3) := by decide +kernel
theorem d_Ref_goes_120 : decode c_Ref_goes 120 = .ok (.iconst 2, 1) := by decide +kernel
theorem d_Ref_goes_121 : decode c_Ref_goes 121 = .ok (.if_icmp .ne 5, 3) := by decide +kernel
theorem d_Ref_goes_124 : decode c_Ref_goes 124 = .ok (.iconst 0, 1) := by decide +kernel
theorem d_Ref_goes_125 : decode c_Ref_goes 125 = .ok (.ireturn, 1) := by decide +kernel
theorem d_Ref_goes_126 : decode c_Ref_goes 126 = .ok (.aload_n 0, 1) := by decide +kernel
theorem d_Ref_goes_127 : decode c_Ref_goes 127 = .ok (.iload_n 2, 1) := by decide +kernel
theorem d_Ref_goes_128 : decode c_Ref_goes 128 = .ok (.putfield 72, 3) := by decide +kernel
theorem d_Ref_goes_131 : decode c_Ref_goes 131 = .ok (.iconst 1, 1) := by decide +kernel
theorem d_Ref_goes_132 : decode c_Ref_goes 132 = .ok (.ireturn, 1) := by decide +kernel
theorem d_Ref_goes_133 : decode c_Ref_goes 133 = .ok (.aload_n 0, 1) := by decide +kernel
theorem d_Ref_goes_134 : decode c_Ref_goes 134 = .ok (.iload_n 2, 1) := by decide +kernel
theorem d_Ref_goes_135 : decode c_Ref_goes 135 = .ok (.invokevirtual 155, 3) := by decide +kernel
theorem d_Ref_goes_138 : decode c_Ref_goes 138 = .ok (.aload_n 0, 1) := by decide +kernel
theorem d_Ref_goes_139 : decode c_Ref_goes 139 = .ok (.getfield 101, 3) := by decide +kernel
theorem d_Ref_goes_142 : decode c_Ref_goes 142 = .ok (.ifCond .ne 7, 3) := by decide +kernel
theorem d_Ref_goes_145 : decode c_Ref_goes 145 = .ok (.iconst 1, 1) := by decide +kernel
theorem d_Ref_goes_146 : decode c_Ref_goes 146 = .ok (.goto 4, 3) := by decide +kernel
theorem d_Ref_goes_149 : decode c_Ref_goes 149 = .ok (.iconst 0, 1) := by decide +kernel
theorem d_Ref_goes_150 : decode c_Ref_goes 150 = .ok (.ireturn, 1) := by decide +kernel
theorem d_Ref_goes_151 : decode c_Ref_goes 151 = .ok (.aload_n 0, 1) := by decide +kernel
theorem d_Ref_goes_152 : decode c_Ref_goes 152 = .ok (.iload_n 2, 1) := by decide +kernel
theorem d_Ref_goes_153 : decode c_Ref_goes 153 = .ok (.invokevirtual 125, 3) := by decide +kernel
theorem d_Ref_goes_156 : decode c_Ref_goes 156 = .ok (.pop, 1) := by decide +kernel
theorem d_Ref_goes_157 : decode c_Ref_goes 157 = .ok (.aload_n 0, 1) := by decide +kernel
theorem d_Ref_goes_158 : decode c_Ref_goes 158 = .ok (.aload_n 0, 1) := by decide +kernel
theorem d_Ref_goes_159 : decode c_Ref_goes 159 = .ok (.getfield 69, 3) := by decide +kernel
theorem d_Ref_goes_162 : decode c_Ref_goes 162 = .ok (.ifCond .le 22, 3) := by decide +kernel
theorem d_Ref_goes_165 : decode c_Ref_goes 165 = .ok (.aload_n 0, 1) := by decide +kernel
theorem d_Ref_goes_166 : decode c_Ref_goes 166 = .ok (.getfield 31, 3) := by decide +kernel
theorem d_Ref_goes_169 : decode c_Ref_goes 169 = .ok (.aload_n 0, 1) := by decide +kernel
theorem d_Ref_goes_170 : decode c_Ref_goes 170 = .ok (.getfield 69, 3) := by decide +kernel
theorem d_Ref_goes_173 : decode c_Ref_goes 173 = .ok (.iconst 1, 1) := by decide +kernel
theorem d_Ref_goes_174 : decode c_Ref_goes 174 = .ok (.isub, 1) := by decide +kernel
theorem d_Ref_goes_175 : decode c_Ref_goes 175 = .ok (.iaload, 1) := by decide +kernel
theorem d_Ref_goes_176 : decode c_Ref_goes 176 = .ok (.iconst (-1), 1) := by decide +kernel
theorem d_Ref_goes_177 : decode c_Ref_goes 177 = .ok (.if_icmp .ne 7, 3) := by decide +kernel
theorem d_Ref_goes_180 : decode c_Ref_goes 180 = .ok (.iconst 1, 1) := by decide +kernel
theorem d_Ref_goes_181 : decode c_Ref_goes 181 = .ok (.goto 4, 3) := by decide +kernel
theorem d_Ref_goes_184 : decode c_Ref_goes 184 = .ok (.iconst 0, 1) := by decide +kernel
theorem d_Ref_goes_185 : decode c_Ref_goes 185 = .ok (.bipush 7, 2) := by decide +kernel
theorem d_Ref_goes_187 : decode c_Ref_goes 187 = .ok (.invokevirtual 104, 3) := by decide +kernel
theorem d_Ref_goes_190 : decode c_Ref_goes 190 = .ok (.pop, 1) := by decide +kernel
theorem d_Ref_goes_191 : decode c_Ref_goes 191 = .ok (.aload_n 0, 1) := by decide +kernel
theorem d_Ref_goes_192 : decode c_Ref_goes 192 = .ok (.getfield 101, 3) := by decide +kernel
theorem d_Ref_goes_195 : decode c_Ref_goes 195 = .ok (.ifCond .ne 36, 3) := by decide +kernel
theorem d_Ref_goes_198 : decode c_Ref_goes 198 = .ok (.aload_n 0, 1) := by decide +kernel
theorem d_Ref_goes_199 : decode c_Ref_goes 199 = .ok (.dup, 1) := by decide +kernel
theorem d_Ref_goes_200 : decode c_Ref_goes 200 = .ok (.getfield 66, 3) := by decide +kernel
theorem d_Ref_goes_203 : decode c_Ref_goes 203 = .ok (.iload_n 2, 1) := by decide +kernel
theorem d_Ref_goes_204 : decode c_Ref_goes 204 = .ok (.isub, 1) := by decide +kernel
theorem d_Ref_goes_205 : decode c_Ref_goes 205 = .ok (.putfield 66, 3) := by decide +kernel
theorem d_Ref_goes_208 : decode c_Ref_goes 208 = .ok (.aload_n 0, 1) := by decide +kernel
theorem d_Ref_goes_209 : decode c_Ref_goes 209 = .ok (.dup, 1) := by decide +kernel
theorem d_Ref_goes_210 : decode c_Ref_goes 210 = .ok (.getfield 69, 3) := by decide +kernel
theorem d_Ref_goes_213 : decode c_Ref_goes 213 = .ok (.iconst 1, 1) := by decide +kernel
theorem d_Ref_goes_214 : decode c_Ref_goes 214 = .ok (.isub, 1) := by decide +kernel
theorem d_Ref_goes_215 : decode c_Ref_goes 215 = .ok (.putfield 69, 3) := by decide +kernel
theorem d_Ref_goes_218 : decode c_Ref_goes 218 = .ok (.aload_n 0, 1) := by decide +kernel
theorem d_Ref_goes_219 : decode c_Ref_goes 219 = .ok (.aload_n 0, 1) := by decide +kernel
theorem d_Ref_goes_220 : decode c_Ref_goes 220 = .ok (.getfield 28, 3) := by decide +kernel
theorem d_Ref_goes_223 : decode c_Ref_goes 223 = .ok (.aload_n 0, 1) := by decide +kernel
theorem d_Ref_goes_224 : decode c_Ref_goes 224 = .ok (.getfield 69, 3) := by decide +kernel
theorem d_Ref_goes_227 : decode c_Ref_goes 227 = .ok (.iaload, 1) := by decide +kernel
theorem d_Ref_goes_228 : decode c_Ref_goes 228 = .ok (.putfield 72, 3) := by decide +kernel
theorem d_Ref_goes_231 : decode c_Ref_goes 231 = .ok (.aload_n 0, 1) := by decide +kernel
theorem d_Ref_goes_232 : decode c_Ref_goes 232 = .ok (.getfield 101, 3) := by decide +kernel
theorem d_Ref_goes_235 : decode c_Ref_goes 235 = .ok (.ifCond .ne 7, 3) := by decide +kernel
theorem d_Ref_goes_238 : decode c_Ref_goes 238 = .ok (.iconst 1, 1) := by decide +kernel
theorem d_Ref_goes_239 : decode c_Ref_goes 239 = .ok (.goto 4, 3) := by decide +kernel
theorem d_Ref_goes_242 : decode c_Ref_goes 242 = .ok (.iconst 0, 1) := by decide +kernel
theorem d_Ref_goes_243 : decode c_Ref_goes 243 = .ok (.ireturn, 1) := by decide +kernel
theorem d_Ref_goes_244 : decode c_Ref_goes 244 = .ok (.aload_n 0, 1) := by decide +kernel
theorem d_Ref_goes_245 : decode c_Ref_goes 245 = .ok (.aload_n 0, 1) := by decide +kernel
theorem d_Ref_goes_246 : decode c_Ref_goes 246 = .ok (.getfield 69, 3) := by decide +kernel
theorem d_Ref_goes_249 : decode c_Ref_goes 249 = .ok (.bipush 40, 2) := by decide +kernel
theorem d_Ref_goes_251 : decode c_Ref_goes 251 = .ok (.if_icmp .ge 7, 3) := by decide +kernel
theorem d_Ref_goes_254 : decode c_Ref_goes 254 = .ok (.iconst 1, 1) := by decide +kernel
theorem d_Ref_goes_255 : decode c_Ref_goes 255 = .ok (.goto 4, 3) := by decide +kernel
theorem d_Ref_goes_258 : decode c_Ref_goes 258 = .ok (.iconst 0, 1) := by decide +kernel
theorem d_Ref_goes_259 : decode c_Ref_goes 259 = .ok (.iconst 4, 1) := by decide +kernel
theorem d_Ref_goes_260 : decode c_Ref_goes 260 = .ok (.invokevirtual 104, 3) := by decide +kernel
theorem d_Ref_goes_263 : decode c_Ref_goes 263 = .ok (.pop, 1) := by decide +kernel
theorem d_Ref_goes_264 : decode c_Ref_goes 264 = .ok (.aload_n 0, 1) := by decide +kernel
theorem d_Ref_goes_265 : decode c_Ref_goes 265 = .ok (.iload_n 2, 1) := by decide +kernel
theorem d_Ref_goes_266 : decode c_Ref_goes 266 = .ok (.invokevirtual 152, 3) := by decide +kernel
theorem d_Ref_goes_269 : decode c_Ref_goes 269 = .ok (.pop, 1) := by decide +kernel
theorem d_Ref_goes_270 : decode c_Ref_goes 270 = .ok (.aload_n 0, 1) := by decide +kernel
theorem d_Ref_goes_271 : decode c_Ref_goes 271 = .ok (.getfield 101, 3) := by decide +kernel
theorem d_Ref_goes_274 : decode c_Ref_goes 274 = .ok (.ifCond .ne 12, 3) := by decide +kernel
theorem d_Ref_goes_277 : decode c_Ref_goes 277 = .ok (.aload_n 0, 1) := by decide +kernel
theorem d_Ref_goes_278 : decode c_Ref_goes 278 = .ok (.iload_n 2, 1) := by decide +kernel
theorem d_Ref_goes_279 : decode c_Ref_goes 279 = .ok (.aload_n 0, 1) := by decide +kernel
theorem d_Ref_goes_280 : decode c_Ref_goes 280 = .ok (.getfield 66, 3) := by decide +kernel
theorem d_Ref_goes_283 : decode c_Ref_goes 283 = .ok (.invokevirtual 150, 3) := by decide +kernel
theorem d_Ref_goes_286 : decode c_Ref_goes 286 = .ok (.iconst 0, 1) := by decide +kernel
theorem d_Ref_goes_287 : decode c_Ref_goes 287 = .ok (.ireturn, 1) := by decide +kernel
theorem d_Ref_goes_288 : decode c_Ref_goes 288 = .ok (.aload_n 0, 1) := by decide +kernel
theorem d_Ref_goes_289 : decode c_Ref_goes 289 = .ok (.aload_n 0, 1) := by decide +kernel
theorem d_Ref_goes_290 : decode c_Ref_goes 290 = .ok (.getfield 69, 3) := by decide +kernel
theorem d_Ref_goes_293 : decode c_Ref_goes 293 = .ok (.ifCond .le 22, 3) := by decide +kernel
theorem d_Ref_goes_296 : decode c_Ref_goes 296 = .ok (.aload_n 0, 1) := by decide +kernel
theorem d_Ref_goes_297 : decode c_Ref_goes 297 = .ok (.getfield 31, 3) := by decide +kernel
theorem d_Ref_goes_300 : decode c_Ref_goes 300 = .ok (.aload_n 0, 1) := by decide +kernel
theorem d_Ref_goes_301 : decode c_Ref_goes 301 = .ok (.getfield 69, 3) := by decide +kernel
theorem d_Ref_goes_304 : decode c_Ref_goes 304 = .ok (.iconst 1, 1) := by decide +kernel
theorem d_Ref_goes_305 : decode c_Ref_goes 305 = .ok (.isub, 1) := by decide +kernel
theorem d_Ref_goes_306 : decode c_Ref_goes 306 = .ok (.iaload, 1) := by decide +kernel
theorem d_Ref_goes_307 : decode c_Ref_goes 307 = .ok (.iconst (-1), 1) := by decide +kernel
theorem d_Ref_goes_308 : decode c_Ref_goes 308 = .ok (.if_icmp .eq 7, 3) := by decide +kernel
theorem d_Ref_goes_311 : decode c_Ref_goes 311 = .ok (.iconst 1, 1) := by decide +kernel
theorem d_Ref_goes_312 : decode c_Ref_goes 312 = .ok (.goto 4, 3) := by decide +kernel
theorem d_Ref_goes_315 : decode c_Ref_goes 315 = .ok (.iconst 0, 1) := by decide +kernel
theorem d_Ref_goes_316 : decode c_Ref_goes 316 = .ok (.bipush 7, 2) := by decide +kernel
theorem d_Ref_goes_318 : decode c_Ref_goes 318 = .ok (.invokevirtual 104, 3) := by decide +kernel
theorem d_Ref_goes_321 : decode c_Ref_goes 321 = .ok (.ifCond .eq 13, 3) := by decide +kernel
theorem d_Ref_goes_324 : decode c_Ref_goes 324 = .ok (.aload_n 0, 1) := by decide +kernel
theorem d_Ref_goes_325 : decode c_Ref_goes 325 = .ok (.dup, 1) := by decide +kernel
theorem d_Ref_goes_326 : decode c_Ref_goes 326 = .ok (.getfield 69, 3) := by decide +kernel
theorem d_Ref_goes_329 : decode c_Ref_goes 329 = .ok (.iconst 1, 1) := by decide +kernel
theorem d_Ref_goes_330 : decode c_Ref_goes 330 = .ok (.isub, 1) := by decide +kernel
theorem d_Ref_goes_331 : decode c_Ref_goes 331 = .ok (.putfield 69, 3) := by decide +kernel
theorem d_Ref_goes_334 : decode c_Ref_goes 334 = .ok (.iconst 0, 1) := by decide +kernel
theorem d_Ref_goes_335 : decode c_Ref_goes 335 = .ok (.ireturn, 1) := by decide +kernel
theorem d_Ref_hasTrap_0 : decode c_Ref_hasTrap 0 = .ok (.iconst 0, 1) := by decide +kernel
theorem d_Ref_hasTrap_1 : decode c_Ref_hasTrap 1 = .ok (.istore_n 1, 1) := by decide +kernel
theorem d_Ref_hasTrap_2 : decode c_Ref_hasTrap 2 = .ok (.iconst 0, 1) := by decide +kernel
theorem d_Ref_hasTrap_3 : decode c_Ref_hasTrap 3 = .ok (.istore_n 2, 1) := by decide +kernel
theorem d_Ref_hasTrap_4 : decode c_Ref_hasTrap 4 = .ok (.iload_n 2, 1) := by decide +kernel
theorem d_Ref_hasTrap_5 : decode c_Ref_hasTrap 5 = .ok (.aload_n 0, 1) := by decide +kernel
theorem d_Ref_hasTrap_6 : decode c_Ref_hasTrap 6 = .ok (.getfield 69, 3) := by decide +kernel
theorem d_Ref_hasTrap_9 : decode c_Ref_hasTrap 9 = .ok (.if_icmp .ge 29, 3) := by decide +kernel
theorem d_Ref_hasTrap_12 : decode c_Ref_hasTrap 12 = .ok (.iload_n 1, 1) := by decide +kernel
theorem d_Ref_hasTrap_13 : decode c_Ref_hasTrap 13 = .ok (.ifCond .ne 13, 3) := by decide +kernel
theorem d_Ref_hasTrap_16 : decode c_Ref_hasTrap 16 = .ok (.aload_n 0, 1) := by decide +kernel
theorem d_Ref_hasTrap_17 : decode c_Ref_hasTrap 17 = .ok (.getfield 31, 3) := by decide +kernel
theorem d_Ref_hasTrap_20 : decode c_Ref_hasTrap 20 = .ok (.iload_n 2, 1) := by decide +kernel
theorem d_Ref_hasTrap_21 : decode c_Ref_hasTrap 21 = .ok (.iaload, 1) := by decide +kernel
theorem d_Ref_hasTrap_22 : decode c_Ref_hasTrap 22 = .ok (.iconst (-1), 1) := by decide +kernel
theorem d_Ref_hasTrap_23 : decode c_Ref_hasTrap 23 = .ok (.if_icmp .eq 7, 3) := by decide +kernel
theorem d_Ref_hasTrap_26 : decode c_Ref_hasTrap 26 = .ok (.iconst 1, 1) := by decide +kernel
theorem d_Ref_hasTrap_27 : decode c_Ref_hasTrap 27 = .ok (.goto 4, 3) := by decide +kernel
theorem d_Ref_hasTrap_30 : decode c_Ref_hasTrap 30 = .ok (.iconst 0, 1) := by decide +kernel
theorem d_Ref_hasTrap_31 : decode c_Ref_hasTrap 31 = .ok (.istore_n 1, 1) := by decide +kernel
theorem d_Ref_hasTrap_32 : decode c_Ref_hasTrap 32 = .ok (.iinc 2 1, 3) := by decide +kernel
theorem d_Ref_hasTrap_35 : decode c_Ref_hasTrap 35 = .ok (.goto (-31), 3) := by decide +kernel
theorem d_Ref_hasTrap_38 : decode c_Ref_hasTrap 38 = .ok (.iload_n 1, 1) := by decide +kernel
theorem d_Ref_hasTrap_39 : decode c_Ref_hasTrap 39 = .ok (.ireturn, 1) := by decide +kernel
theorem d_Ref_falls_0 : decode c_Ref_falls 0 = .ok (.aload_n 0, 1) := by decide +kernel
theorem d_Ref_falls_1 : decode c_Ref_falls 1 = .ok (.dup, 1) := by decide +kernel
theorem d_Ref_falls_2 : decode c_Ref_falls 2 = .ok (.getfield 94, 3) := by decide +kernel
theorem d_Ref_falls_5 : decode c_Ref_falls 5 = .ok (.iconst 1, 1) := by decide +kernel
theorem d_Ref_falls_6 : decode c_Ref_falls 6 = .ok (.iadd, 1) := by decide +kernel
theorem d_Ref_falls_7 : decode c_Ref_falls 7 = .ok (.putfield 94, 3) := by decide +kernel
theorem d_Ref_falls_10 : decode c_Ref_falls 10 = .ok (.aload_n 0, 1) := by decide +kernel
theorem d_Ref_falls_11 : decode c_Ref_falls 11 = .ok (.getfield 69, 3) := by decide +kernel
theorem d_Ref_falls_14 : decode c_Ref_falls 14 = .ok (.ifCond .le 38, 3) := by decide +kernel
theorem d_Ref_falls_17 : decode c_Ref_falls 17 = .ok (.aload_n 0, 1) := by decide +kernel
theorem d_Ref_falls_18 : decode c_Ref_falls 18 = .ok (.getfield 31, 3) := by decide +kernel
theorem d_Ref_falls_21 : decode c_Ref_falls 21 = .ok (.aload_n 0, 1) := by decide +kernel
theorem d_Ref_falls_22 : decode c_Ref_falls 22 = .ok (.getfield 69, 3) := by decide +kernel
theorem d_Ref_falls_25 : decode c_Ref_falls 25 = .ok (.iconst 1, 1) := by decide +kernel
theorem d_Ref_falls_26 : decode c_Ref_falls 26 = .ok (.isub, 1) := by decide +kernel
theorem d_Ref_falls_27 : decode c_Ref_falls 27 = .ok (.iaload, 1) := by decide +kernel
theorem d_Ref_falls_28 : decode c_Ref_falls 28 = .ok (.iconst (-1), 1) := by decide +kernel
theorem d_Ref_falls_29 : decode c_Ref_falls 29 = .ok (.if_icmp .ne 23, 3) := by decide +kernel
theorem d_Ref_falls_32 : decode c_Ref_falls 32 = .ok (.aload_n 0, 1) := by decide +kernel
theorem d_Ref_falls_33 : decode c_Ref_falls 33 = .ok (.invokevirtual 159, 3) := by decide +kernel
theorem d_Ref_falls_36 : decode c_Ref_falls 36 = .ok (.ifCond .eq 16, 3) := by decide +kernel
theorem d_Ref_falls_39 : decode c_Ref_falls 39 = .ok (.aload_n 0, 1) := by decide +kernel
theorem d_Ref_falls_40 : decode c_Ref_falls 40 = .ok (.dup, 1) := by decide +kernel
theorem d_Ref_falls_41 : decode c_Ref_falls 41 = .ok (.getfield 69, 3) := by decide +kernel
theorem d_Ref_falls_44 : decode c_Ref_falls 44 = .ok (.iconst 1, 1) := by decide +kernel
theorem d_Ref_falls_45 : decode c_Ref_falls 45 = .ok (.isub, 1) := by decide +kernel
theorem d_Ref_falls_46 : decode c_Ref_falls 46 = .ok (.putfield 69, 3) := by decide +kernel
theorem d_Ref_falls_49 : decode c_Ref_falls 49 = .ok (.goto (-39), 3) := by decide +kernel
theorem d_Ref_falls_52 : decode c_Ref_falls 52 = .ok (.aload_n 0, 1) := by decide +kernel
theorem d_Ref_falls_53 : decode c_Ref_falls 53 = .ok (.invokevirtual 159, 3) := by decide +kernel
theorem d_Ref_falls_56 : decode c_Ref_falls 56 = .ok (.ifCond .ne 19, 3) := by decide +kernel
theorem d_Ref_falls_59 : decode c_Ref_falls 59 = .ok (.aload_n 0, 1) := by decide +kernel
theorem d_Ref_falls_60 : decode c_Ref_falls 60 = .ok (.iconst 1, 1) := by decide +kernel
theorem d_Ref_falls_61 : decode c_Ref_falls 61 = .ok (.putfield 75, 3) := by decide +kernel
theorem d_Ref_falls_64 : decode c_Ref_falls 64 = .ok (.aload_n 0, 1) := by decide +kernel
theorem d_Ref_falls_65 : decode c_Ref_falls 65 = .ok (.iload_n 1, 1) := by decide +kernel
theorem d_Ref_falls_66 : decode c_Ref_falls 66 = .ok (.putfield 163, 3) := by decide +kernel
theorem d_Ref_falls_69 : decode c_Ref_falls 69 = .ok (.aload_n 0, 1) := by decide +kernel
theorem d_Ref_falls_70 : decode c_Ref_falls 70 = .ok (.iload_n 2, 1) := by decide +kernel
theorem d_Ref_falls_71 : decode c_Ref_falls 71 = .ok (.putfield 166, 3) := by decide +kernel
theorem d_Ref_falls_74 : decode c_Ref_falls 74 = .ok (.return_, 1) := by decide +kernel
theorem d_Ref_falls_75 : decode c_Ref_falls 75 = .ok (.aload_n 0, 1) := by decide +kernel
theorem d_Ref_falls_76 : decode c_Ref_falls 76 = .ok (.dup, 1) := by decide +kernel
theorem d_Ref_falls_77 : decode c_Ref_falls 77 = .ok (.getfield 69, 3) := by decide +kernel
theorem d_Ref_falls_80 : decode c_Ref_falls 80 = .ok (.iconst 1, 1) := by decide +kernel
theorem d_Ref_falls_81 : decode c_Ref_falls 81 = .ok (.isub, 1) := by decide +kernel
theorem d_Ref_falls_82 : decode c_Ref_falls 82 = .ok (.putfield 69, 3) := by decide +kernel
theorem d_Ref_falls_85 : decode c_Ref_falls 85 = .ok (.aload_n 0, 1) := by decide +kernel
theorem d_Ref_falls_86 : decode c_Ref_falls 86 = .ok (.aload_n 0, 1) := by decide +kernel
theorem d_Ref_falls_87 : decode c_Ref_falls 87 = .ok (.getfield 66, 3) := by decide +kernel
theorem d_Ref_falls_90 : decode c_Ref_falls 90 = .ok (.aload_n 0, 1) := by decide +kernel
theorem d_Ref_falls_91 : decode c_Ref_falls 91 = .ok (.getfield 31, 3) := by decide +kernel
theorem d_Ref_falls_94 : decode c_Ref_falls 94 = .ok (.aload_n 0, 1) := by decide +kernel
theorem d_Ref_falls_95 : decode c_Ref_falls 95 = .ok (.getfield 69, 3) := by decide +kernel
theorem d_Ref_falls_98 : decode c_Ref_falls 98 = .ok (.iaload, 1) := by decide +kernel
theorem d_Ref_falls_99 : decode c_Ref_falls 99 = .ok (.if_icmp .ge 10, 3) := by decide +kernel
theorem d_Ref_falls_102 : decode c_Ref_falls 102 = .ok (.aload_n 0, 1) := by decide +kernel
theorem d_Ref_falls_103 : decode c_Ref_falls 103 = .ok (.getfield 66, 3) := by decide +kernel
theorem d_Ref_falls_106 : decode c_Ref_falls 106 = .ok (.goto 12, 3) := by decide +kernel
theorem d_Ref_falls_109 : decode c_Ref_falls 109 = .ok (.aload_n 0, 1) := by decide +kernel
theorem d_Ref_falls_110 : decode c_Ref_falls 110 = .ok (.getfield 31, 3) := by decide +kernel
theorem d_Ref_falls_113 : decode c_Ref_falls 113 = .ok (.aload_n 0, 1) := by decide +kernel
theorem d_Ref_falls_114 : decode c_Ref_falls 114 = .ok (.getfield 69, 3) := by decide +kernel
theorem d_Ref_falls_117 : decode c_Ref_falls 117 = .ok (.iaload, 1) := by decide +kernel
theorem d_Ref_falls_118 : decode c_Ref_falls 118 = .ok (.putfield 66, 3) := by decide +kernel
theorem d_Ref_falls_121 : decode c_Ref_falls 121 = .ok (.aload_n 0, 1) := by decide +kernel
theorem d_Ref_falls_122 : decode c_Ref_falls 122 = .ok (.iload_n 1, 1) := by decide +kernel
theorem d_Ref_falls_123 : decode c_Ref_falls 123 = .ok (.iload_n 2, 1) := by decide +kernel
theorem d_Ref_falls_124 : decode c_Ref_falls 124 = .ok (.invokevirtual 97, 3) := by decide +kernel
theorem d_Ref_falls_127 : decode c_Ref_falls 127 = .ok (.aload_n 0, 1) := by decide +kernel
theorem d_Ref_falls_128 : decode c_Ref_falls 128 = .ok (.aload_n 0, 1) := by decide +kernel
theorem d_Ref_falls_129 : decode c_Ref_falls 129 = .ok (.getfield 28, 3) := by decide +kernel
theorem d_Ref_falls_132 : decode c_Ref_falls 132 = .ok (.aload_n 0, 1) := by decide +kernel
theorem d_Ref_falls_133 : decode c_Ref_falls 133 = .ok (.getfield 69, 3) := by decide +kernel
theorem d_Ref_falls_136 : decode c_Ref_falls 136 = .ok (.iaload, 1) := by decide +kernel
theorem d_Ref_falls_137 : decode c_Ref_falls 137 = .ok (.putfield 72, 3) := by decide +kernel
theorem d_Ref_falls_140 : decode c_Ref_falls 140 = .ok (.return_, 1) := by decide +kernel
