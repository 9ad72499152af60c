theorem d_Notes_endWithTrap_0 : decode c_Notes_endWithTrap 0 = .ok (.aload_n 0, 1) := by decide +kernel
theorem d_Notes_endWithTrap_1 : decode c_Notes_endWithTrap 1 = .ok (.getfield 18, 3) := by decide +kernel
theorem d_Notes_endWithTrap_4 : decode c_Notes_endWithTrap 4 = .ok (.ifCond .le 22, 3) := by decide +kernel
theorem d_Notes_endWithTrap_7 : decode c_Notes_endWithTrap 7 = .ok (.aload_n 0, 1) := by decide +kernel
theorem d_Notes_endWithTrap_8 : decode c_Notes_endWithTrap 8 = .ok (.getfield 15, 3) := by decide +kernel
theorem d_Notes_endWithTrap_11 : decode c_Notes_endWithTrap 11 = .ok (.aload_n 0, 1) := by decide +kernel
theorem d_Notes_endWithTrap_12 : decode c_Notes_endWithTrap 12 = .ok (.getfield 18, 3) := by decide +kernel
theorem d_Notes_endWithTrap_15 : decode c_Notes_endWithTrap 15 = .ok (.iconst 1, 1) := by decide +kernel
theorem d_Notes_endWithTrap_16 : decode c_Notes_endWithTrap 16 = .ok (.isub, 1) := by decide +kernel
theorem d_Notes_endWithTrap_17 : decode c_Notes_endWithTrap 17 = .ok (.iaload, 1) := by decide +kernel
theorem d_Notes_endWithTrap_18 : decode c_Notes_endWithTrap 18 = .ok (.iconst (-1), 1) := by decide +kernel
theorem d_Notes_endWithTrap_19 : decode c_Notes_endWithTrap 19 = .ok (.if_icmp .eq 7, 3) := by decide +kernel
theorem d_Notes_endWithTrap_22 : decode c_Notes_endWithTrap 22 = .ok (.iconst 1, 1) := by decide +kernel
theorem d_Notes_endWithTrap_23 : decode c_Notes_endWithTrap 23 = .ok (.goto 4, 3) := by decide +kernel
theorem d_Notes_endWithTrap_26 : decode c_Notes_endWithTrap 26 = .ok (.iconst 0, 1) := by decide +kernel
theorem d_Notes_endWithTrap_27 : decode c_Notes_endWithTrap 27 = .ok (.ireturn, 1) := by decide +kernel
theorem d_VM_dropTrap_0 : decode c_VM_dropTrap 0 = .ok (.aload_n 0, 1) := by decide +kernel
theorem d_VM_dropTrap_1 : decode c_VM_dropTrap 1 = .ok (.getfield 26, 3) := by decide +kernel
theorem d_VM_dropTrap_4 : decode c_VM_dropTrap 4 = .ok (.invokevirtual 324, 3) := by decide +kernel
theorem d_VM_dropTrap_7 : decode c_VM_dropTrap 7 = .ok (.ifCond .ne 6, 3) := by decide +kernel
theorem d_VM_dropTrap_10 : decode c_VM_dropTrap 10 = .ok (.bipush 7, 2) := by decide +kernel
theorem d_VM_dropTrap_12 : decode c_VM_dropTrap 12 = .ok (.ireturn, 1) := by decide +kernel
theorem d_VM_dropTrap_13 : decode c_VM_dropTrap 13 = .ok (.aload_n 0, 1) := by decide +kernel
theorem d_VM_dropTrap_14 : decode c_VM_dropTrap 14 = .ok (.getfield 26, 3) := by decide +kernel
theorem d_VM_dropTrap_17 : decode c_VM_dropTrap 17 = .ok (.dup, 1) := by decide +kernel
theorem d_VM_dropTrap_18 : decode c_VM_dropTrap 18 = .ok (.getfield 151, 3) := by decide +kernel
theorem d_VM_dropTrap_21 : decode c_VM_dropTrap 21 = .ok (.iconst 1, 1) := by decide +kernel
theorem d_VM_dropTrap_22 : decode c_VM_dropTrap 22 = .ok (.isub, 1) := by decide +kernel
theorem d_VM_dropTrap_23 : decode c_VM_dropTrap 23 = .ok (.putfield 151, 3) := by decide +kernel
theorem d_VM_dropTrap_26 : decode c_VM_dropTrap 26 = .ok (.iconst 0, 1) := by decide +kernel
theorem d_VM_dropTrap_27 : decode c_VM_dropTrap 27 = .ok (.ireturn, 1) := by decide +kernel
theorem d_VM_perform_0 : decode c_VM_perform 0 = .ok (.iload_n 1, 1) := by decide +kernel
theorem d_VM_perform_1 : decode c_VM_perform 1 = .ok (.tableswitch 400 0 34 #[155, 161, 169, 177, 186, 192, 198, 204, 209, 214, 220, 226, 232, 237, 242, 248, 255, 277, 299, 304, 309, 309, 309, 315, 315, 321, 345, 360, 365, 371, 377, 383, 389, 395, 400], 155) := by decide +kernel
theorem d_VM_perform_156 : decode c_VM_perform 156 = .ok (.aload_n 0, 1) := by decide +kernel
theorem d_VM_perform_157 : decode c_VM_perform 157 = .ok (.lconst 0, 1) := by decide +kernel
theorem d_VM_perform_158 : decode c_VM_perform 158 = .ok (.invokevirtual 178, 3) := by decide +kernel
theorem d_VM_perform_161 : decode c_VM_perform 161 = .ok (.ireturn, 1) := by decide +kernel
theorem d_VM_perform_162 : decode c_VM_perform 162 = .ok (.aload_n 0, 1) := by decide +kernel
theorem d_VM_perform_163 : decode c_VM_perform 163 = .ok (.ldc2_w 181, 3) := by decide +kernel
theorem d_VM_perform_166 : decode c_VM_perform 166 = .ok (.invokevirtual 178, 3) := by decide +kernel
theorem d_VM_perform_169 : decode c_VM_perform 169 = .ok (.ireturn, 1) := by decide +kernel
theorem d_VM_perform_170 : decode c_VM_perform 170 = .ok (.aload_n 0, 1) := by decide +kernel
theorem d_VM_perform_171 : decode c_VM_perform 171 = .ok (.ldc2_w 183, 3) := by decide +kernel
theorem d_VM_perform_174 : decode c_VM_perform 174 = .ok (.invokevirtual 178, 3) := by decide +kernel
theorem d_VM_perform_177 : decode c_VM_perform 177 = .ok (.ireturn, 1) := by decide +kernel
theorem d_VM_perform_178 : decode c_VM_perform 178 = .ok (.aload_n 0, 1) := by decide +kernel
theorem d_VM_perform_179 : decode c_VM_perform 179 = .ok (.iload_n 2, 1) := by decide +kernel
theorem d_VM_perform_180 : decode c_VM_perform 180 = .ok (.invokestatic 105, 3) := by decide +kernel
theorem d_VM_perform_183 : decode c_VM_perform 183 = .ok (.invokevirtual 178, 3) := by decide +kernel
theorem d_VM_perform_186 : decode c_VM_perform 186 = .ok (.ireturn, 1) := by decide +kernel
theorem d_VM_perform_187 : decode c_VM_perform 187 = .ok (.aload_n 0, 1) := by decide +kernel
theorem d_VM_perform_188 : decode c_VM_perform 188 = .ok (.iload_n 2, 1) := by decide +kernel
theorem d_VM_perform_189 : decode c_VM_perform 189 = .ok (.invokevirtual 185, 3) := by decide +kernel
theorem d_VM_perform_192 : decode c_VM_perform 192 = .ok (.ireturn, 1) := by decide +kernel
theorem d_VM_perform_193 : decode c_VM_perform 193 = .ok (.aload_n 0, 1) := by decide +kernel
theorem d_VM_perform_194 : decode c_VM_perform 194 = .ok (.iload_n 2, 1) := by decide +kernel
theorem d_VM_perform_195 : decode c_VM_perform 195 = .ok (.invokevirtual 188, 3) := by decide +kernel
theorem d_VM_perform_198 : decode c_VM_perform 198 = .ok (.ireturn, 1) := by decide +kernel
theorem d_VM_perform_199 : decode c_VM_perform 199 = .ok (.aload_n 0, 1) := by decide +kernel
theorem d_VM_perform_200 : decode c_VM_perform 200 = .ok (.iload_n 2, 1) := by decide +kernel
theorem d_VM_perform_201 : decode c_VM_perform 201 = .ok (.invokevirtual 191, 3) := by decide +kernel
theorem d_VM_perform_204 : decode c_VM_perform 204 = .ok (.ireturn, 1) := by decide +kernel
theorem d_VM_perform_205 : decode c_VM_perform 205 = .ok (.aload_n 0, 1) := by decide +kernel
theorem d_VM_perform_206 : decode c_VM_perform 206 = .ok (.invokevirtual 194, 3) := by decide +kernel
theorem d_VM_perform_209 : decode c_VM_perform 209 = .ok (.ireturn, 1) := by decide +kernel
theorem d_VM_perform_210 : decode c_VM_perform 210 = .ok (.aload_n 0, 1) := by decide +kernel
theorem d_VM_perform_211 : decode c_VM_perform 211 = .ok (.invokevirtual 197, 3) := by decide +kernel
theorem d_VM_perform_214 : decode c_VM_perform 214 = .ok (.ireturn, 1) := by decide +kernel
theorem d_VM_perform_215 : decode c_VM_perform 215 = .ok (.aload_n 0, 1) := by decide +kernel
theorem d_VM_perform_216 : decode c_VM_perform 216 = .ok (.iload_n 2, 1) := by decide +kernel
theorem d_VM_perform_217 : decode c_VM_perform 217 = .ok (.invokevirtual 200, 3) := by decide +kernel
theorem d_VM_perform_220 : decode c_VM_perform 220 = .ok (.ireturn, 1) := by decide +kernel
theorem d_VM_perform_221 : decode c_VM_perform 221 = .ok (.aload_n 0, 1) := by decide +kernel
theorem d_VM_perform_222 : decode c_VM_perform 222 = .ok (.iload_n 2, 1) := by decide +kernel
theorem d_VM_perform_223 : decode c_VM_perform 223 = .ok (.invokevirtual 203, 3) := by decide +kernel
theorem d_VM_perform_226 : decode c_VM_perform 226 = .ok (.ireturn, 1) := by decide +kernel
theorem d_VM_perform_227 : decode c_VM_perform 227 = .ok (.aload_n 0, 1) := by decide +kernel
theorem d_VM_perform_228 : decode c_VM_perform 228 = .ok (.iload_n 2, 1) := by decide +kernel
theorem d_VM_perform_229 : decode c_VM_perform 229 = .ok (.invokevirtual 206, 3) := by decide +kernel
theorem d_VM_perform_232 : decode c_VM_perform 232 = .ok (.ireturn, 1) := by decide +kernel
theorem d_VM_perform_233 : decode c_VM_perform 233 = .ok (.aload_n 0, 1) := by decide +kernel
theorem d_VM_perform_234 : decode c_VM_perform 234 = .ok (.invokevirtual 209, 3) := by decide +kernel
theorem d_VM_perform_237 : decode c_VM_perform 237 = .ok (.ireturn, 1) := by decide +kernel
theorem d_VM_perform_238 : decode c_VM_perform 238 = .ok (.aload_n 0, 1) := by decide +kernel
theorem d_VM_perform_239 : decode c_VM_perform 239 = .ok (.invokevirtual 212, 3) := by decide +kernel
theorem d_VM_perform_242 : decode c_VM_perform 242 = .ok (.ireturn, 1) := by decide +kernel
theorem d_VM_perform_243 : decode c_VM_perform 243 = .ok (.aload_n 0, 1) := by decide +kernel
theorem d_VM_perform_244 : decode c_VM_perform 244 = .ok (.iload_n 2, 1) := by decide +kernel
theorem d_VM_perform_245 : decode c_VM_perform 245 = .ok (.invokevirtual 215, 3) := by decide +kernel
theorem d_VM_perform_248 : decode c_VM_perform 248 = .ok (.ireturn, 1) := by decide +kernel
theorem d_VM_perform_249 : decode c_VM_perform 249 = .ok (.aload_n 0, 1) := by decide +kernel
theorem d_VM_perform_250 : decode c_VM_perform 250 = .ok (.iconst 1, 1) := by decide +kernel
theorem d_VM_perform_251 : decode c_VM_perform 251 = .ok (.iload_n 2, 1) := by decide +kernel
theorem d_VM_perform_252 : decode c_VM_perform 252 = .ok (.invokevirtual 218, 3) := by decide +kernel
theorem d_VM_perform_255 : decode c_VM_perform 255 = .ok (.ireturn, 1) := by decide +kernel
theorem d_VM_perform_256 : decode c_VM_perform 256 = .ok (.aload_n 0, 1) := by decide +kernel
theorem d_VM_perform_257 : decode c_VM_perform 257 = .ok (.aload_n 0, 1) := by decide +kernel
theorem d_VM_perform_258 : decode c_VM_perform 258 = .ok (.getfield 43, 3) := by decide +kernel
theorem d_VM_perform_261 : decode c_VM_perform 261 = .ok (.ldc2_w 183, 3) := by decide +kernel
theorem d_VM_perform_264 : decode c_VM_perform 264 = .ok (.lcmp, 1) := by decide +kernel
theorem d_VM_perform_265 : decode c_VM_perform 265 = .ok (.ifCond .ne 7, 3) := by decide +kernel
theorem d_VM_perform_268 : decode c_VM_perform 268 = .ok (.iconst 1, 1) := by decide +kernel
theorem d_VM_perform_269 : decode c_VM_perform 269 = .ok (.goto 4, 3) := by decide +kernel
theorem d_VM_perform_272 : decode c_VM_perform 272 = .ok (.iconst 0, 1) := by decide +kernel
theorem d_VM_perform_273 : decode c_VM_perform 273 = .ok (.iload_n 2, 1) := by decide +kernel
theorem d_VM_perform_274 : decode c_VM_perform 274 = .ok (.invokevirtual 218, 3) := by decide +kernel
theorem d_VM_perform_277 : decode c_VM_perform 277 = .ok (.ireturn, 1) := by decide +kernel
theorem d_VM_perform_278 : decode c_VM_perform 278 = .ok (.aload_n 0, 1) := by decide +kernel
theorem d_VM_perform_279 : decode c_VM_perform 279 = .ok (.aload_n 0, 1) := by decide +kernel
theorem d_VM_perform_280 : decode c_VM_perform 280 = .ok (.getfield 43, 3) := by decide +kernel
theorem d_VM_perform_283 : decode c_VM_perform 283 = .ok (.ldc2_w 183, 3) := by decide +kernel
theorem d_VM_perform_286 : decode c_VM_perform 286 = .ok (.lcmp, 1) := by decide +kernel
theorem d_VM_perform_287 : decode c_VM_perform 287 = .ok (.ifCond .eq 7, 3) := by decide +kernel
theorem d_VM_perform_290 : decode c_VM_perform 290 = .ok (.iconst 1, 1) := by decide +kernel
theorem d_VM_perform_291 : decode c_VM_perform 291 = .ok (.goto 4, 3) := by decide +kernel
theorem d_VM_perform_294 : decode c_VM_perform 294 = .ok (.iconst 0, 1) := by decide +kernel
theorem d_VM_perform_295 : decode c_VM_perform 295 = .ok (.iload_n 2, 1) := by decide +kernel
theorem d_VM_perform_296 : decode c_VM_perform 296 = .ok (.invokevirtual 218, 3) := by decide +kernel
theorem d_VM_perform_299 : decode c_VM_perform 299 = .ok (.ireturn, 1) := by decide +kernel
theorem d_VM_perform_300 : decode c_VM_perform 300 = .ok (.aload_n 0, 1) := by decide +kernel
theorem d_VM_perform_301 : decode c_VM_perform 301 = .ok (.invokevirtual 222, 3) := by decide +kernel
theorem d_VM_perform_304 : decode c_VM_perform 304 = .ok (.ireturn, 1) := by decide +kernel
theorem d_VM_perform_305 : decode c_VM_perform 305 = .ok (.aload_n 0, 1) := by decide +kernel
theorem d_VM_perform_306 : decode c_VM_perform 306 = .ok (.invokevirtual 225, 3) := by decide +kernel
theorem d_VM_perform_309 : decode c_VM_perform 309 = .ok (.ireturn, 1) := by decide +kernel
theorem d_VM_perform_310 : decode c_VM_perform 310 = .ok (.aload_n 0, 1) := by decide +kernel
theorem d_VM_perform_311 : decode c_VM_perform 311 = .ok (.iload_n 1, 1) := by decide +kernel
theorem d_VM_perform_312 : decode c_VM_perform 312 = .ok (.invokevirtual 228, 3) := by decide +kernel
theorem d_VM_perform_315 : decode c_VM_perform 315 = .ok (.ireturn, 1) := by decide +kernel
theorem d_VM_perform_316 : decode c_VM_perform 316 = .ok (.aload_n 0, 1) := by decide +kernel
theorem d_VM_perform_317 : decode c_VM_perform 317 = .ok (.iload_n 1, 1) := by decide +kernel
theorem d_VM_perform_318 : decode c_VM_perform 318 = .ok (.invokevirtual 231, 3) := by decide +kernel
theorem d_VM_perform_321 : decode c_VM_perform 321 = .ok (.ireturn, 1) := by decide +kernel
theorem d_VM_perform_322 : decode c_VM_perform 322 = .ok (.aload_n 0, 1) := by decide +kernel
theorem d_VM_perform_323 : decode c_VM_perform 323 = .ok (.aload_n 0, 1) := by decide +kernel
theorem d_VM_perform_324 : decode c_VM_perform 324 = .ok (.getfield 43, 3) := by decide +kernel
theorem d_VM_perform_327 : decode c_VM_perform 327 = .ok (.ldc2_w 183, 3) := by decide +kernel
theorem d_VM_perform_330 : decode c_VM_perform 330 = .ok (.lcmp, 1) := by decide +kernel
theorem d_VM_perform_331 : decode c_VM_perform 331 = .ok (.ifCond .eq 7, 3) := by decide +kernel
theorem d_VM_perform_334 : decode c_VM_perform 334 = .ok (.iconst 1, 1) := by decide +kernel
theorem d_VM_perform_335 : decode c_VM_perform 335 = .ok (.goto 4, 3) := by decide +kernel
theorem d_VM_perform_338 : decode c_VM_perform 338 = .ok (.iconst 0, 1) := by decide +kernel
theorem d_VM_perform_339 : decode c_VM_perform 339 = .ok (.invokestatic 234, 3) := by decide +kernel
theorem d_VM_perform_342 : decode c_VM_perform 342 = .ok (.invokevirtual 178, 3) := by decide +kernel
theorem d_VM_perform_345 : decode c_VM_perform 345 = .ok (.ireturn, 1) := by decide +kernel
theorem d_VM_perform_346 : decode c_VM_perform 346 = .ok (.aload_n 0, 1) := by decide +kernel
theorem d_VM_perform_347 : decode c_VM_perform 347 = .ok (.aload_n 0, 1) := by decide +kernel
theorem d_VM_perform_348 : decode c_VM_perform 348 = .ok (.getfield 43, 3) := by decide +kernel
theorem d_VM_perform_351 : decode c_VM_perform 351 = .ok (.invokestatic 139, 3) := by decide +kernel
theorem d_VM_perform_354 : decode c_VM_perform 354 = .ok (.invokestatic 105, 3) := by decide +kernel
theorem d_VM_perform_357 : decode c_VM_perform 357 = .ok (.invokevirtual 178, 3) := by decide +kernel
theorem d_VM_perform_360 : decode c_VM_perform 360 = .ok (.ireturn, 1) := by decide +kernel
theorem d_VM_perform_361 : decode c_VM_perform 361 = .ok (.aload_n 0, 1) := by decide +kernel
theorem d_VM_perform_362 : decode c_VM_perform 362 = .ok (.invokevirtual 238, 3) := by decide +kernel
theorem d_VM_perform_365 : decode c_VM_perform 365 = .ok (.ireturn, 1) := by decide +kernel
theorem d_VM_perform_366 : decode c_VM_perform 366 = .ok (.aload_n 0, 1) := by decide +kernel
theorem d_VM_perform_367 : decode c_VM_perform 367 = .ok (.iload_n 2, 1) := by decide +kernel
theorem d_VM_perform_368 : decode c_VM_perform 368 = .ok (.invokevirtual 241, 3) := by decide +kernel
theorem d_VM_perform_371 : decode c_VM_perform 371 = .ok (.ireturn, 1) := by decide +kernel
theorem d_VM_perform_372 : decode c_VM_perform 372 = .ok (.aload_n 0, 1) := by decide +kernel
theorem d_VM_perform_373 : decode c_VM_perform 373 = .ok (.iload_n 2, 1) := by decide +kernel
theorem d_VM_perform_374 : decode c_VM_perform 374 = .ok (.invokevirtual 244, 3) := by decide +kernel
theorem d_VM_perform_377 : decode c_VM_perform 377 = .ok (.ireturn, 1) := by decide +kernel
theorem d_VM_perform_378 : decode c_VM_perform 378 = .ok (.aload_n 0, 1) := by decide +kernel
theorem d_VM_perform_379 : decode c_VM_perform 379 = .ok (.iload_n 2, 1) := by decide +kernel
theorem d_VM_perform_380 : decode c_VM_perform 380 = .ok (.invokevirtual 247, 3) := by decide +kernel
theorem d_VM_perform_383 : decode c_VM_perform 383 = .ok (.ireturn, 1) := by decide +kernel
theorem d_VM_perform_384 : decode c_VM_perform 384 = .ok (.aload_n 0, 1) := by decide +kernel
theorem d_VM_perform_385 : decode c_VM_perform 385 = .ok (.iload_n 2, 1) := by decide +kernel
theorem d_VM_perform_386 : decode c_VM_perform 386 = .ok (.invokevirtual 250, 3) := by decide +kernel
theorem d_VM_perform_389 : decode c_VM_perform 389 = .ok (.ireturn, 1) := by decide +kernel
theorem d_VM_perform_390 : decode c_VM_perform 390 = .ok (.aload_n 0, 1) := by decide +kernel
theorem d_VM_perform_391 : decode c_VM_perform 391 = .ok (.iload_n 2, 1) := by decide +kernel
theorem d_VM_perform_392 : decode c_VM_perform 392 = .ok (.invokevirtual 253, 3) := by decide +kernel
theorem d_VM_perform_395 : decode c_VM_perform 395 = .ok (.ireturn, 1) := by decide +kernel
theorem d_VM_perform_396 : decode c_VM_perform 396 = .ok (.aload_n 0, 1) := by decide +kernel
theorem d_VM_perform_397 : decode c_VM_perform 397 = .ok (.invokevirtual 256, 3) := by decide +kernel
theorem d_VM_perform_400 : decode c_VM_perform 400 = .ok (.ireturn, 1) := by decide +kernel
theorem d_VM_perform_401 : decode c_VM_perform 401 = .ok (.bipush 9, 2) := by decide +kernel
theorem d_VM_perform_403 : decode c_VM_perform 403 = .ok (.ireturn, 1) := by decide +kernel
theorem d_Notes_latestTrap_0 : decode c_Notes_latestTrap 0 = .ok (.aload_n 0, 1) := by decide +kernel
theorem d_Notes_latestTrap_1 : decode c_Notes_latestTrap 1 = .ok (.getfield 18, 3) := by decide +kernel
theorem d_Notes_latestTrap_4 : decode c_Notes_latestTrap 4 = .ok (.iconst 1, 1) := by decide +kernel
theorem d_Notes_latestTrap_5 : decode c_Notes_latestTrap 5 = .ok (.isub, 1) := by decide +kernel
theorem d_Notes_latestTrap_6 : decode c_Notes_latestTrap 6 = .ok (.istore_n 1, 1) := by decide +kernel
theorem d_Notes_latestTrap_7 : decode c_Notes_latestTrap 7 = .ok (.iload_n 1, 1) := by decide +kernel
theorem d_Notes_latestTrap_8 : decode c_Notes_latestTrap 8 = .ok (.ifCond .lt 21, 3) := by decide +kernel
theorem d_Notes_latestTrap_11 : decode c_Notes_latestTrap 11 = .ok (.aload_n 0, 1) := by decide +kernel
theorem d_Notes_latestTrap_12 : decode c_Notes_latestTrap 12 = .ok (.getfield 15, 3) := by decide +kernel
theorem d_Notes_latestTrap_15 : decode c_Notes_latestTrap 15 = .ok (.iload_n 1, 1) := by decide +kernel
theorem d_Notes_latestTrap_16 : decode c_Notes_latestTrap 16 = .ok (.iaload, 1) := by decide +kernel
theorem d_Notes_latestTrap_17 : decode c_Notes_latestTrap 17 = .ok (.iconst (-1), 1) := by decide +kernel
theorem d_Notes_latestTrap_18 : decode c_Notes_latestTrap 18 = .ok (.if_icmp .eq 5, 3) := by decide +kernel
theorem d_Notes_latestTrap_21 : decode c_Notes_latestTrap 21 = .ok (.iload_n 1, 1) := by decide +kernel
theorem d_Notes_latestTrap_22 : decode c_Notes_latestTrap 22 = .ok (.ireturn, 1) := by decide +kernel
theorem d_Notes_latestTrap_23 : decode c_Notes_latestTrap 23 = .ok (.iinc 1 (-1), 3) := by decide +kernel
theorem d_Notes_latestTrap_26 : decode c_Notes_latestTrap 26 = .ok (.goto (-19), 3) := by decide +kernel
theorem d_Notes_latestTrap_29 : decode c_Notes_latestTrap 29 = .ok (.iconst (-1), 1) := by decide +kernel
theorem d_Notes_latestTrap_30 : decode c_Notes_latestTrap 30 = .ok (.ireturn, 1) := by decide +kernel
theorem d_Notes_heightOf_0 : decode c_Notes_heightOf 0 = .ok (.aload_n 0, 1) := by decide +kernel
theorem d_Notes_heightOf_1 : decode c_Notes_heightOf 1 = .ok (.getfield 15, 3) := by decide +kernel
theorem d_Notes_heightOf_4 : decode c_Notes_heightOf 4 = .ok (.iload_n 1, 1) := by decide +kernel
theorem d_Notes_heightOf_5 : decode c_Notes_heightOf 5 = .ok (.iaload, 1) := by decide +kernel
theorem d_Notes_heightOf_6 : decode c_Notes_heightOf 6 = .ok (.ireturn, 1) := by decide +kernel
theorem d_VM_goWrong_0 : decode c_VM_goWrong 0 = .ok (.aload_n 0, 1) := by decide +kernel
theorem d_VM_goWrong_1 : decode c_VM_goWrong 1 = .ok (.dup, 1) := by decide +kernel
theorem d_VM_goWrong_2 : decode c_VM_goWrong 2 = .ok (.getfield 64, 3) := by decide +kernel
theorem d_VM_goWrong_5 : decode c_VM_goWrong 5 = .ok (.iconst 1, 1) := by decide +kernel
theorem d_VM_goWrong_6 : decode c_VM_goWrong 6 = .ok (.iadd, 1) := by decide +kernel
theorem d_VM_goWrong_7 : decode c_VM_goWrong 7 = .ok (.putfield 64, 3) := by decide +kernel
theorem d_VM_goWrong_10 : decode c_VM_goWrong 10 = .ok (.aload_n 0, 1) := by decide +kernel
theorem d_VM_goWrong_11 : decode c_VM_goWrong 11 = .ok (.getfield 26, 3) := by decide +kernel
theorem d_VM_goWrong_14 : decode c_VM_goWrong 14 = .ok (.invokevirtual 164, 3) := by decide +kernel
theorem d_VM_goWrong_17 : decode c_VM_goWrong 17 = .ok (.istore 4, 2) := by decide +kernel
theorem d_VM_goWrong_19 : decode c_VM_goWrong 19 = .ok (.iload 4, 2) := by decide +kernel
theorem d_VM_goWrong_21 : decode c_VM_goWrong 21 = .ok (.iconst (-1), 1) := by decide +kernel
theorem d_VM_goWrong_22 : decode c_VM_goWrong 22 = .ok (.if_icmp .ne 19, 3) := by decide +kernel
theorem d_VM_goWrong_25 : decode c_VM_goWrong 25 = .ok (.aload_n 0, 1) := by decide +kernel
theorem d_VM_goWrong_26 : decode c_VM_goWrong 26 = .ok (.iload_n 1, 1) := by decide +kernel
theorem d_VM_goWrong_27 : decode c_VM_goWrong 27 = .ok (.putfield 57, 3) := by decide +kernel
theorem d_VM_goWrong_30 : decode c_VM_goWrong 30 = .ok (.aload_n 0, 1) := by decide +kernel
theorem d_VM_goWrong_31 : decode c_VM_goWrong 31 = .ok (.iconst 1, 1) := by decide +kernel
theorem d_VM_goWrong_32 : decode c_VM_goWrong 32 = .ok (.putfield 53, 3) := by decide +kernel
theorem d_VM_goWrong_35 : decode c_VM_goWrong 35 = .ok (.aload_n 0, 1) := by decide +kernel
theorem d_VM_goWrong_36 : decode c_VM_goWrong 36 = .ok (.lload_n 2, 1) := by decide +kernel
theorem d_VM_goWrong_37 : decode c_VM_goWrong 37 = .ok (.putfield 50, 3) := by decide +kernel
theorem d_VM_goWrong_40 : decode c_VM_goWrong 40 = .ok (.return_, 1) := by decide +kernel
theorem d_VM_goWrong_41 : decode c_VM_goWrong 41 = .ok (.aload_n 0, 1) := by decide +kernel
theorem d_VM_goWrong_42 : decode c_VM_goWrong 42 = .ok (.aload_n 0, 1) := by decide +kernel
theorem d_VM_goWrong_43 : decode c_VM_goWrong 43 = .ok (.getfield 26, 3) := by decide +kernel
theorem d_VM_goWrong_46 : decode c_VM_goWrong 46 = .ok (.iload 4, 2) := by decide +kernel
theorem d_VM_goWrong_48 : decode c_VM_goWrong 48 = .ok (.invokevirtual 167, 3) := by decide +kernel
theorem d_VM_goWrong_51 : decode c_VM_goWrong 51 = .ok (.putfield 57, 3) := by decide +kernel
theorem d_VM_goWrong_54 : decode c_VM_goWrong 54 = .ok (.aload_n 0, 1) := by decide +kernel
theorem d_VM_goWrong_55 : decode c_VM_goWrong 55 = .ok (.getfield 19, 3) := by decide +kernel
theorem d_VM_goWrong_58 : decode c_VM_goWrong 58 = .ok (.aload_n 0, 1) := by decide +kernel
theorem d_VM_goWrong_59 : decode c_VM_goWrong 59 = .ok (.getfield 19, 3) := by decide +kernel
theorem d_VM_goWrong_62 : decode c_VM_goWrong 62 = .ok (.getfield 148, 3) := by decide +kernel
theorem d_VM_goWrong_65 : decode c_VM_goWrong 65 = .ok (.aload_n 0, 1) := by decide +kernel
theorem d_VM_goWrong_66 : decode c_VM_goWrong 66 = .ok (.getfield 26, 3) := by decide +kernel
theorem d_VM_goWrong_69 : decode c_VM_goWrong 69 = .ok (.iload 4, 2) := by decide +kernel
theorem d_VM_goWrong_71 : decode c_VM_goWrong 71 = .ok (.invokevirtual 170, 3) := by decide +kernel
theorem d_VM_goWrong_74 : decode c_VM_goWrong 74 = .ok (.invokestatic 173, 3) := by decide +kernel
theorem d_VM_goWrong_77 : decode c_VM_goWrong 77 = .ok (.putfield 148, 3) := by decide +kernel
theorem d_VM_goWrong_80 : decode c_VM_goWrong 80 = .ok (.aload_n 0, 1) := by decide +kernel
theorem d_VM_goWrong_81 : decode c_VM_goWrong 81 = .ok (.getfield 26, 3) := by decide +kernel
theorem d_VM_goWrong_84 : decode c_VM_goWrong 84 = .ok (.iload 4, 2) := by decide +kernel
theorem d_VM_goWrong_86 : decode c_VM_goWrong 86 = .ok (.putfield 151, 3) := by decide +kernel
theorem d_VM_goWrong_89 : decode c_VM_goWrong 89 = .ok (.aload_n 0, 1) := by decide +kernel
theorem d_VM_goWrong_90 : decode c_VM_goWrong 90 = .ok (.lload_n 2, 1) := by decide +kernel
theorem d_VM_goWrong_91 : decode c_VM_goWrong 91 = .ok (.putfield 43, 3) := by decide +kernel
theorem d_VM_goWrong_94 : decode c_VM_goWrong 94 = .ok (.return_, 1) := by decide +kernel
theorem d_VM_run_0 : decode c_VM_run 0 = .ok (.iload_n 1, 1) := by decide +kernel
theorem d_VM_run_1 : decode c_VM_run 1 = .ok (.ifCond .lt 10, 3) := by decide +kernel
theorem d_VM_run_4 : decode c_VM_run 4 = .ok (.iload_n 1, 1) := by decide +kernel
theorem d_VM_run_5 : decode c_VM_run 5 = .ok (.sipush 20000, 3) := by decide +kernel
theorem d_VM_run_8 : decode c_VM_run 8 = .ok (.if_icmp .le 13, 3) := by decide +kernel
theorem d_VM_run_11 : decode c_VM_run 11 = .ok (.new 69, 3) := by decide +kernel
theorem d_VM_run_14 : decode c_VM_run 14 = .ok (.dup, 1) := by decide +kernel
theorem d_VM_run_15 : decode c_VM_run 15 = .ok (.ldc 86, 2) := by decide +kernel
theorem d_VM_run_17 : decode c_VM_run 17 = .ok (.invokespecial 73, 3) := by decide +kernel
theorem d_VM_run_20 : decode c_VM_run 20 = .ok (.athrow, 1) := by decide +kernel
theorem d_VM_run_21 : decode c_VM_run 21 = .ok (.aload_n 0, 1) := by decide +kernel
theorem d_VM_run_22 : decode c_VM_run 22 = .ok (.lconst 0, 1) := by decide +kernel
theorem d_VM_run_23 : decode c_VM_run 23 = .ok (.putfield 47, 3) := by decide +kernel
theorem d_VM_run_26 : decode c_VM_run 26 = .ok (.iconst 0, 1) := by decide +kernel
theorem d_VM_run_27 : decode c_VM_run 27 = .ok (.istore_n 2, 1) := by decide +kernel
theorem d_VM_run_28 : decode c_VM_run 28 = .ok (.iload_n 2, 1) := by decide +kernel
theorem d_VM_run_29 : decode c_VM_run 29 = .ok (.iload_n 1, 1) := by decide +kernel
theorem d_VM_run_30 : decode c_VM_run 30 = .ok (.if_icmp .ge 79, 3) := by decide +kernel
theorem d_VM_run_33 : decode c_VM_run 33 = .ok (.aload_n 0, 1) := by decide +kernel
theorem d_VM_run_34 : decode c_VM_run 34 = .ok (.invokevirtual 88, 3) := by decide +kernel
theorem d_VM_run_37 : decode c_VM_run 37 = .ok (.ifCond .ne 72, 3) := by decide +kernel
theorem d_VM_run_40 : decode c_VM_run 40 = .ok (.aload_n 0, 1) := by decide +kernel
theorem d_VM_run_41 : decode c_VM_run 41 = .ok (.getfield 57, 3) := by decide +kernel
theorem d_VM_run_44 : decode c_VM_run 44 = .ok (.istore_n 3, 1) := by decide +kernel
theorem d_VM_run_45 : decode c_VM_run 45 = .ok (.aload_n 0, 1) := by decide +kernel
theorem d_VM_run_46 : decode c_VM_run 46 = .ok (.iload_n 3, 1) := by decide +kernel
theorem d_VM_run_47 : decode c_VM_run 47 = .ok (.iconst 1, 1) := by decide +kernel
theorem d_VM_run_48 : decode c_VM_run 48 = .ok (.iadd, 1) := by decide +kernel
theorem d_VM_run_49 : decode c_VM_run 49 = .ok (.putfield 57, 3) := by decide +kernel
theorem d_VM_run_52 : decode c_VM_run 52 = .ok (.aload_n 0, 1) := by decide +kernel
theorem d_VM_run_53 : decode c_VM_run 53 = .ok (.aload_n 0, 1) := by decide +kernel
theorem d_VM_run_54 : decode c_VM_run 54 = .ok (.getfield 10, 3) := by decide +kernel
theorem d_VM_run_57 : decode c_VM_run 57 = .ok (.iload_n 3, 1) := by decide +kernel
theorem d_VM_run_58 : decode c_VM_run 58 = .ok (.invokevirtual 92, 3) := by decide +kernel
theorem d_VM_run_61 : decode c_VM_run 61 = .ok (.aload_n 0, 1) := by decide +kernel
theorem d_VM_run_62 : decode c_VM_run 62 = .ok (.getfield 10, 3) := by decide +kernel
theorem d_VM_run_65 : decode c_VM_run 65 = .ok (.iload_n 3, 1) := by decide +kernel
theorem d_VM_run_66 : decode c_VM_run 66 = .ok (.invokevirtual 96, 3) := by decide +kernel
theorem d_VM_run_69 : decode c_VM_run 69 = .ok (.invokevirtual 99, 3) := by decide +kernel
theorem d_VM_run_72 : decode c_VM_run 72 = .ok (.istore 4, 2) := by decide +kernel
theorem d_VM_run_74 : decode c_VM_run 74 = .ok (.iload 4, 2) := by decide +kernel
theorem d_VM_run_76 : decode c_VM_run 76 = .ok (.ifCond .eq 27, 3) := by decide +kernel
theorem d_VM_run_79 : decode c_VM_run 79 = .ok (.aload_n 0, 1) := by decide +kernel
theorem d_VM_run_80 : decode c_VM_run 80 = .ok (.iload_n 3, 1) := by decide +kernel
theorem d_VM_run_81 : decode c_VM_run 81 = .ok (.iload 4, 2) := by decide +kernel
theorem d_VM_run_83 : decode c_VM_run 83 = .ok (.bipush 9, 2) := by decide +kernel
theorem d_VM_run_85 : decode c_VM_run 85 = .ok (.if_icmp .ne 10, 3) := by decide +kernel
theorem d_VM_run_88 : decode c_VM_run 88 = .ok (.aload_n 0, 1) := by decide +kernel
theorem d_VM_run_89 : decode c_VM_run 89 = .ok (.getfield 43, 3) := by decide +kernel
theorem d_VM_run_92 : decode c_VM_run 92 = .ok (.goto 8, 3) := by decide +kernel
theorem d_VM_run_95 : decode c_VM_run 95 = .ok (.iload 4, 2) := by decide +kernel
theorem d_VM_run_97 : decode c_VM_run 97 = .ok (.invokestatic 105, 3) := by decide +kernel
theorem d_VM_run_100 : decode c_VM_run 100 = .ok (.invokevirtual 109, 3) := by decide +kernel
theorem d_VM_run_103 : decode c_VM_run 103 = .ok (.iinc 2 1, 3) := by decide +kernel
theorem d_VM_run_106 : decode c_VM_run 106 = .ok (.goto (-78), 3) := by decide +kernel
theorem d_VM_run_109 : decode c_VM_run 109 = .ok (.aload_n 0, 1) := by decide +kernel
theorem d_VM_run_110 : decode c_VM_run 110 = .ok (.dup, 1) := by decide +kernel
theorem d_VM_run_111 : decode c_VM_run 111 = .ok (.getfield 61, 3) := by decide +kernel
theorem d_VM_run_114 : decode c_VM_run 114 = .ok (.iload_n 2, 1) := by decide +kernel
theorem d_VM_run_115 : decode c_VM_run 115 = .ok (.iadd, 1) := by decide +kernel
theorem d_VM_run_116 : decode c_VM_run 116 = .ok (.putfield 61, 3) := by decide +kernel
theorem d_VM_run_119 : decode c_VM_run 119 = .ok (.iload_n 2, 1) := by decide +kernel
theorem d_VM_run_120 : decode c_VM_run 120 = .ok (.ireturn, 1) := by decide +kernel
theorem d_VM_choose_0 : decode c_VM_choose 0 = .ok (.aload_n 0, 1) := by decide +kernel
theorem d_VM_choose_1 : decode c_VM_choose 1 = .ok (.lload_n 1, 1) := by decide +kernel
theorem d_VM_choose_2 : decode c_VM_choose 2 = .ok (.putfield 47, 3) := by decide +kernel
theorem d_VM_choose_5 : decode c_VM_choose 5 = .ok (.lload_n 1, 1) := by decide +kernel
theorem d_VM_choose_6 : decode c_VM_choose 6 = .ok (.invokestatic 139, 3) := by decide +kernel
theorem d_VM_choose_9 : decode c_VM_choose 9 = .ok (.ireturn, 1) := by decide +kernel
theorem d_VM_look_0 : decode c_VM_look 0 = .ok (.iload_n 1, 1) := by decide +kernel
theorem d_VM_look_1 : decode c_VM_look 1 = .ok (.tableswitch 110 0 3 #[31, 40, 68, 90], 31) := by decide +kernel
theorem d_VM_look_32 : decode c_VM_look 32 = .ok (.aload_n 0, 1) := by decide +kernel
theorem d_VM_look_33 : decode c_VM_look 33 = .ok (.aload_n 0, 1) := by decide +kernel
theorem d_VM_look_34 : decode c_VM_look 34 = .ok (.getfield 43, 3) := by decide +kernel
theorem d_VM_look_37 : decode c_VM_look 37 = .ok (.invokevirtual 113, 3) := by decide +kernel
theorem d_VM_look_40 : decode c_VM_look 40 = .ok (.ireturn, 1) := by decide +kernel
theorem d_VM_look_41 : decode c_VM_look 41 = .ok (.aload_n 0, 1) := by decide +kernel
theorem d_VM_look_42 : decode c_VM_look 42 = .ok (.getfield 19, 3) := by decide +kernel
theorem d_VM_look_45 : decode c_VM_look 45 = .ok (.iload_n 2, 1) := by decide +kernel
theorem d_VM_look_46 : decode c_VM_look 46 = .ok (.invokevirtual 117, 3) := by decide +kernel
theorem d_VM_look_49 : decode c_VM_look 49 = .ok (.ifCond .eq 18, 3) := by decide +kernel
theorem d_VM_look_52 : decode c_VM_look 52 = .ok (.aload_n 0, 1) := by decide +kernel
theorem d_VM_look_53 : decode c_VM_look 53 = .ok (.aload_n 0, 1) := by decide +kernel
theorem d_VM_look_54 : decode c_VM_look 54 = .ok (.getfield 19, 3) := by decide +kernel
theorem d_VM_look_57 : decode c_VM_look 57 = .ok (.iload_n 2, 1) := by decide +kernel
theorem d_VM_look_58 : decode c_VM_look 58 = .ok (.invokevirtual 121, 3) := by decide +kernel
theorem d_VM_look_61 : decode c_VM_look 61 = .ok (.invokevirtual 113, 3) := by decide +kernel
theorem d_VM_look_64 : decode c_VM_look 64 = .ok (.goto 4, 3) := by decide +kernel
theorem d_VM_look_67 : decode c_VM_look 67 = .ok (.iconst (-1), 1) := by decide +kernel
theorem d_VM_look_68 : decode c_VM_look 68 = .ok (.ireturn, 1) := by decide +kernel
theorem d_VM_look_69 : decode c_VM_look 69 = .ok (.iload_n 2, 1) := by decide +kernel
theorem d_VM_look_70 : decode c_VM_look 70 = .ok (.invokestatic 124, 3) := by decide +kernel
theorem d_VM_look_73 : decode c_VM_look 73 = .ok (.ifCond .eq 16, 3) := by decide +kernel
theorem d_VM_look_76 : decode c_VM_look 76 = .ok (.aload_n 0, 1) := by decide +kernel
theorem d_VM_look_77 : decode c_VM_look 77 = .ok (.aload_n 0, 1) := by decide +kernel
theorem d_VM_look_78 : decode c_VM_look 78 = .ok (.getfield 37, 3) := by decide +kernel
theorem d_VM_look_81 : decode c_VM_look 81 = .ok (.iload_n 2, 1) := by decide +kernel
theorem d_VM_look_82 : decode c_VM_look 82 = .ok (.laload, 1) := by decide +kernel
theorem d_VM_look_83 : decode c_VM_look 83 = .ok (.invokevirtual 113, 3) := by decide +kernel
theorem d_VM_look_86 : decode c_VM_look 86 = .ok (.goto 4, 3) := by decide +kernel
theorem d_VM_look_89 : decode c_VM_look 89 = .ok (.iconst (-1), 1) := by decide +kernel
theorem d_VM_look_90 : decode c_VM_look 90 = .ok (.ireturn, 1) := by decide +kernel
theorem d_VM_look_91 : decode c_VM_look 91 = .ok (.aload_n 0, 1) := by decide +kernel
theorem d_VM_look_92 : decode c_VM_look 92 = .ok (.getfield 53, 3) := by decide +kernel
theorem d_VM_look_95 : decode c_VM_look 95 = .ok (.ifCond .eq 14, 3) := by decide +kernel
theorem d_VM_look_98 : decode c_VM_look 98 = .ok (.aload_n 0, 1) := by decide +kernel
theorem d_VM_look_99 : decode c_VM_look 99 = .ok (.aload_n 0, 1) := by decide +kernel
theorem d_VM_look_100 : decode c_VM_look 100 = .ok (.getfield 50, 3) := by decide +kernel
theorem d_VM_look_103 : decode c_VM_look 103 = .ok (.invokevirtual 113, 3) := by decide +kernel
theorem d_VM_look_106 : decode c_VM_look 106 = .ok (.goto 4, 3) := by decide +kernel
theorem d_VM_look_109 : decode c_VM_look 109 = .ok (.iconst (-1), 1) := by decide +kernel
theorem d_VM_look_110 : decode c_VM_look 110 = .ok (.ireturn, 1) := by decide +kernel
theorem d_VM_look_111 : decode c_VM_look 111 = .ok (.iconst (-1), 1) := by decide +kernel
theorem d_VM_look_112 : decode c_VM_look 112 = .ok (.ireturn, 1) := by decide +kernel
theorem d_VM_into_0 : decode c_VM_into 0 = .ok (.aload_n 0, 1) := by decide +kernel
theorem d_VM_into_1 : decode c_VM_into 1 = .ok (.getfield 47, 3) := by decide +kernel
theorem d_VM_into_4 : decode c_VM_into 4 = .ok (.invokestatic 127, 3) := by decide +kernel
theorem d_VM_into_7 : decode c_VM_into 7 = .ok (.ifCond .eq 18, 3) := by decide +kernel
theorem d_VM_into_10 : decode c_VM_into 10 = .ok (.aload_n 0, 1) := by decide +kernel
theorem d_VM_into_11 : decode c_VM_into 11 = .ok (.getfield 33, 3) := by decide +kernel
theorem d_VM_into_14 : decode c_VM_into 14 = .ok (.aload_n 0, 1) := by decide +kernel
theorem d_VM_into_15 : decode c_VM_into 15 = .ok (.getfield 47, 3) := by decide +kernel
theorem d_VM_into_18 : decode c_VM_into 18 = .ok (.iload_n 1, 1) := by decide +kernel
theorem d_VM_into_19 : decode c_VM_into 19 = .ok (.invokevirtual 131, 3) := by decide +kernel
theorem d_VM_into_22 : decode c_VM_into 22 = .ok (.ifCond .ne 5, 3) := by decide +kernel
theorem d_VM_into_25 : decode c_VM_into 25 = .ok (.iconst (-1), 1) := by decide +kernel
theorem d_VM_into_26 : decode c_VM_into 26 = .ok (.ireturn, 1) := by decide +kernel
theorem d_VM_into_27 : decode c_VM_into 27 = .ok (.aload_n 0, 1) := by decide +kernel
theorem d_VM_into_28 : decode c_VM_into 28 = .ok (.aload_n 0, 1) := by decide +kernel
theorem d_VM_into_29 : decode c_VM_into 29 = .ok (.getfield 33, 3) := by decide +kernel
theorem d_VM_into_32 : decode c_VM_into 32 = .ok (.aload_n 0, 1) := by decide +kernel
theorem d_VM_into_33 : decode c_VM_into 33 = .ok (.getfield 47, 3) := by decide +kernel
theorem d_VM_into_36 : decode c_VM_into 36 = .ok (.iload_n 1, 1) := by decide +kernel
theorem d_VM_into_37 : decode c_VM_into 37 = .ok (.invokevirtual 135, 3) := by decide +kernel
theorem d_VM_into_40 : decode c_VM_into 40 = .ok (.invokevirtual 113, 3) := by decide +kernel
theorem d_VM_into_43 : decode c_VM_into 43 = .ok (.ireturn, 1) := by decide +kernel
theorem d_VM_value_0 : decode c_VM_value 0 = .ok (.aload_n 0, 1) := by decide +kernel
theorem d_VM_value_1 : decode c_VM_value 1 = .ok (.getfield 47, 3) := by decide +kernel
theorem d_VM_value_4 : decode c_VM_value 4 = .ok (.invokestatic 139, 3) := by decide +kernel
theorem d_VM_value_7 : decode c_VM_value 7 = .ok (.tableswitch 49 3 6 #[29, 49, 37, 29], 29) := by decide +kernel
theorem d_VM_value_36 : decode c_VM_value 36 = .ok (.aload_n 0, 1) := by decide +kernel
theorem d_VM_value_37 : decode c_VM_value 37 = .ok (.getfield 47, 3) := by decide +kernel
theorem d_VM_value_40 : decode c_VM_value 40 = .ok (.invokestatic 142, 3) := by decide +kernel
theorem d_VM_value_43 : decode c_VM_value 43 = .ok (.ireturn, 1) := by decide +kernel
theorem d_VM_value_44 : decode c_VM_value 44 = .ok (.aload_n 0, 1) := by decide +kernel
theorem d_VM_value_45 : decode c_VM_value 45 = .ok (.getfield 33, 3) := by decide +kernel
theorem d_VM_value_48 : decode c_VM_value 48 = .ok (.aload_n 0, 1) := by decide +kernel
theorem d_VM_value_49 : decode c_VM_value 49 = .ok (.getfield 47, 3) := by decide +kernel
theorem d_VM_value_52 : decode c_VM_value 52 = .ok (.invokevirtual 145, 3) := by decide +kernel
theorem d_VM_value_55 : decode c_VM_value 55 = .ok (.ireturn, 1) := by decide +kernel
theorem d_VM_value_56 : decode c_VM_value 56 = .ok (.iconst 0, 1) := by decide +kernel
theorem d_VM_value_57 : decode c_VM_value 57 = .ok (.ireturn, 1) := by decide +kernel
