theorem dX12_pot_124 : decode cX12_pot 124 = .ok (.istore 7, 2) := by decide +kernel
theorem dX12_pot_126 : decode cX12_pot 126 = .ok (.iconst 0, 1) := by decide +kernel
theorem dX12_pot_127 : decode cX12_pot 127 = .ok (.istore 8, 2) := by decide +kernel
theorem dX12_pot_129 : decode cX12_pot 129 = .ok (.iload 8, 2) := by decide +kernel
theorem dX12_pot_131 : decode cX12_pot 131 = .ok (.aload_n 0, 1) := by decide +kernel
theorem dX12_pot_132 : decode cX12_pot 132 = .ok (.getfield 185, 3) := by decide +kernel
theorem dX12_pot_135 : decode cX12_pot 135 = .ok (.if_icmp .ge 34, 3) := by decide +kernel
theorem dX12_pot_138 : decode cX12_pot 138 = .ok (.iload 7, 2) := by decide +kernel
theorem dX12_pot_140 : decode cX12_pot 140 = .ok (.aload_n 0, 1) := by decide +kernel
theorem dX12_pot_141 : decode cX12_pot 141 = .ok (.iload 6, 2) := by decide +kernel
theorem dX12_pot_143 : decode cX12_pot 143 = .ok (.iload 8, 2) := by decide +kernel
theorem dX12_pot_145 : decode cX12_pot 145 = .ok (.invokevirtual 291, 3) := by decide +kernel
theorem dX12_pot_148 : decode cX12_pot 148 = .ok (.aload_n 0, 1) := by decide +kernel
theorem dX12_pot_149 : decode cX12_pot 149 = .ok (.getfield 185, 3) := by decide +kernel
theorem dX12_pot_152 : decode cX12_pot 152 = .ok (.if_icmp .ne 7, 3) := by decide +kernel
theorem dX12_pot_155 : decode cX12_pot 155 = .ok (.iconst 1, 1) := by decide +kernel
theorem dX12_pot_156 : decode cX12_pot 156 = .ok (.goto 4, 3) := by decide +kernel
theorem dX12_pot_159 : decode cX12_pot 159 = .ok (.iconst 0, 1) := by decide +kernel
theorem dX12_pot_160 : decode cX12_pot 160 = .ok (.iadd, 1) := by decide +kernel
theorem dX12_pot_161 : decode cX12_pot 161 = .ok (.istore 7, 2) := by decide +kernel
theorem dX12_pot_163 : decode cX12_pot 163 = .ok (.iinc 8 1, 3) := by decide +kernel
theorem dX12_pot_166 : decode cX12_pot 166 = .ok (.goto (-37), 3) := by decide +kernel
theorem dX12_pot_169 : decode cX12_pot 169 = .ok (.iload 7, 2) := by decide +kernel
theorem dX12_pot_171 : decode cX12_pot 171 = .ok (.iload 5, 2) := by decide +kernel
theorem dX12_pot_173 : decode cX12_pot 173 = .ok (.if_icmp .eq 6, 3) := by decide +kernel
theorem dX12_pot_176 : decode cX12_pot 176 = .ok (.goto 61, 3) := by decide +kernel
theorem dX12_pot_179 : decode cX12_pot 179 = .ok (.iconst 0, 1) := by decide +kernel
theorem dX12_pot_180 : decode cX12_pot 180 = .ok (.istore 8, 2) := by decide +kernel
theorem dX12_pot_182 : decode cX12_pot 182 = .ok (.iload 8, 2) := by decide +kernel
theorem dX12_pot_184 : decode cX12_pot 184 = .ok (.aload_n 0, 1) := by decide +kernel
theorem dX12_pot_185 : decode cX12_pot 185 = .ok (.getfield 185, 3) := by decide +kernel
theorem dX12_pot_188 : decode cX12_pot 188 = .ok (.if_icmp .ge 49, 3) := by decide +kernel
theorem dX12_pot_191 : decode cX12_pot 191 = .ok (.aload_n 0, 1) := by decide +kernel
theorem dX12_pot_192 : decode cX12_pot 192 = .ok (.iload 6, 2) := by decide +kernel
theorem dX12_pot_194 : decode cX12_pot 194 = .ok (.iload 8, 2) := by decide +kernel
theorem dX12_pot_196 : decode cX12_pot 196 = .ok (.invokevirtual 291, 3) := by decide +kernel
theorem dX12_pot_199 : decode cX12_pot 199 = .ok (.aload_n 0, 1) := by decide +kernel
theorem dX12_pot_200 : decode cX12_pot 200 = .ok (.getfield 185, 3) := by decide +kernel
theorem dX12_pot_203 : decode cX12_pot 203 = .ok (.if_icmp .ne 28, 3) := by decide +kernel
theorem dX12_pot_206 : decode cX12_pot 206 = .ok (.aload_n 0, 1) := by decide +kernel
theorem dX12_pot_207 : decode cX12_pot 207 = .ok (.iload 6, 2) := by decide +kernel
theorem dX12_pot_209 : decode cX12_pot 209 = .ok (.iload 8, 2) := by decide +kernel
theorem dX12_pot_211 : decode cX12_pot 211 = .ok (.iload 5, 2) := by decide +kernel
theorem dX12_pot_213 : decode cX12_pot 213 = .ok (.aload_n 0, 1) := by decide +kernel
theorem dX12_pot_214 : decode cX12_pot 214 = .ok (.getfield 80, 3) := by decide +kernel
theorem dX12_pot_217 : decode cX12_pot 217 = .ok (.aload_n 0, 1) := by decide +kernel
theorem dX12_pot_218 : decode cX12_pot 218 = .ok (.getfield 77, 3) := by decide +kernel
theorem dX12_pot_221 : decode cX12_pot 221 = .ok (.iload_n 1, 1) := by decide +kernel
theorem dX12_pot_222 : decode cX12_pot 222 = .ok (.iaload, 1) := by decide +kernel
theorem dX12_pot_223 : decode cX12_pot 223 = .ok (.iload_n 2, 1) := by decide +kernel
theorem dX12_pot_224 : decode cX12_pot 224 = .ok (.iadd, 1) := by decide +kernel
theorem dX12_pot_225 : decode cX12_pot 225 = .ok (.iaload, 1) := by decide +kernel
theorem dX12_pot_226 : decode cX12_pot 226 = .ok (.iload 4, 2) := by decide +kernel
theorem dX12_pot_228 : decode cX12_pot 228 = .ok (.invokevirtual 300, 3) := by decide +kernel
theorem dX12_pot_231 : decode cX12_pot 231 = .ok (.iinc 8 1, 3) := by decide +kernel
theorem dX12_pot_234 : decode cX12_pot 234 = .ok (.goto (-52), 3) := by decide +kernel
theorem dX12_pot_237 : decode cX12_pot 237 = .ok (.iinc 6 (-1), 3) := by decide +kernel
theorem dX12_pot_240 : decode cX12_pot 240 = .ok (.goto (-137), 3) := by decide +kernel
theorem dX12_pot_243 : decode cX12_pot 243 = .ok (.iinc 5 (-1), 3) := by decide +kernel
theorem dX12_pot_246 : decode cX12_pot 246 = .ok (.goto (-156), 3) := by decide +kernel
theorem dX12_pot_249 : decode cX12_pot 249 = .ok (.iconst 0, 1) := by decide +kernel
theorem dX12_pot_250 : decode cX12_pot 250 = .ok (.istore 6, 2) := by decide +kernel
theorem dX12_pot_252 : decode cX12_pot 252 = .ok (.iload 6, 2) := by decide +kernel
theorem dX12_pot_254 : decode cX12_pot 254 = .ok (.aload_n 0, 1) := by decide +kernel
theorem dX12_pot_255 : decode cX12_pot 255 = .ok (.getfield 245, 3) := by decide +kernel
theorem dX12_pot_258 : decode cX12_pot 258 = .ok (.if_icmp .ge 100, 3) := by decide +kernel
theorem dX12_pot_261 : decode cX12_pot 261 = .ok (.iconst 0, 1) := by decide +kernel
theorem dX12_pot_262 : decode cX12_pot 262 = .ok (.istore 7, 2) := by decide +kernel
theorem dX12_pot_264 : decode cX12_pot 264 = .ok (.iconst 0, 1) := by decide +kernel
theorem dX12_pot_265 : decode cX12_pot 265 = .ok (.istore 8, 2) := by decide +kernel
theorem dX12_pot_267 : decode cX12_pot 267 = .ok (.iload 8, 2) := by decide +kernel
theorem dX12_pot_269 : decode cX12_pot 269 = .ok (.aload_n 0, 1) := by decide +kernel
theorem dX12_pot_270 : decode cX12_pot 270 = .ok (.getfield 185, 3) := by decide +kernel
theorem dX12_pot_273 : decode cX12_pot 273 = .ok (.if_icmp .ge 34, 3) := by decide +kernel
theorem dX12_pot_276 : decode cX12_pot 276 = .ok (.iload 7, 2) := by decide +kernel
theorem dX12_pot_278 : decode cX12_pot 278 = .ok (.aload_n 0, 1) := by decide +kernel
theorem dX12_pot_279 : decode cX12_pot 279 = .ok (.getfield 44, 3) := by decide +kernel
theorem dX12_pot_282 : decode cX12_pot 282 = .ok (.iconst 4, 1) := by decide +kernel
theorem dX12_pot_283 : decode cX12_pot 283 = .ok (.iload 6, 2) := by decide +kernel
theorem dX12_pot_285 : decode cX12_pot 285 = .ok (.imul, 1) := by decide +kernel
theorem dX12_pot_286 : decode cX12_pot 286 = .ok (.iload 8, 2) := by decide +kernel
theorem dX12_pot_288 : decode cX12_pot 288 = .ok (.iadd, 1) := by decide +kernel
theorem dX12_pot_289 : decode cX12_pot 289 = .ok (.iaload, 1) := by decide +kernel
theorem dX12_pot_290 : decode cX12_pot 290 = .ok (.aload_n 0, 1) := by decide +kernel
theorem dX12_pot_291 : decode cX12_pot 291 = .ok (.getfield 93, 3) := by decide +kernel
theorem dX12_pot_294 : decode cX12_pot 294 = .ok (.iload 8, 2) := by decide +kernel
theorem dX12_pot_296 : decode cX12_pot 296 = .ok (.iaload, 1) := by decide +kernel
theorem dX12_pot_297 : decode cX12_pot 297 = .ok (.imul, 1) := by decide +kernel
theorem dX12_pot_298 : decode cX12_pot 298 = .ok (.iadd, 1) := by decide +kernel
theorem dX12_pot_299 : decode cX12_pot 299 = .ok (.istore 7, 2) := by decide +kernel
theorem dX12_pot_301 : decode cX12_pot 301 = .ok (.iinc 8 1, 3) := by decide +kernel
theorem dX12_pot_304 : decode cX12_pot 304 = .ok (.goto (-37), 3) := by decide +kernel
theorem dX12_pot_307 : decode cX12_pot 307 = .ok (.aload_n 0, 1) := by decide +kernel
theorem dX12_pot_308 : decode cX12_pot 308 = .ok (.getfield 96, 3) := by decide +kernel
theorem dX12_pot_311 : decode cX12_pot 311 = .ok (.iload 7, 2) := by decide +kernel
theorem dX12_pot_313 : decode cX12_pot 313 = .ok (.laload, 1) := by decide +kernel
theorem dX12_pot_314 : decode cX12_pot 314 = .ok (.lconst 0, 1) := by decide +kernel
theorem dX12_pot_315 : decode cX12_pot 315 = .ok (.lcmp, 1) := by decide +kernel
theorem dX12_pot_316 : decode cX12_pot 316 = .ok (.ifCond .le 36, 3) := by decide +kernel
theorem dX12_pot_319 : decode cX12_pot 319 = .ok (.aload_n 0, 1) := by decide +kernel
theorem dX12_pot_320 : decode cX12_pot 320 = .ok (.getfield 83, 3) := by decide +kernel
theorem dX12_pot_323 : decode cX12_pot 323 = .ok (.aload_n 0, 1) := by decide +kernel
theorem dX12_pot_324 : decode cX12_pot 324 = .ok (.getfield 77, 3) := by decide +kernel
theorem dX12_pot_327 : decode cX12_pot 327 = .ok (.iload_n 1, 1) := by decide +kernel
theorem dX12_pot_328 : decode cX12_pot 328 = .ok (.iconst 1, 1) := by decide +kernel
theorem dX12_pot_329 : decode cX12_pot 329 = .ok (.iadd, 1) := by decide +kernel
theorem dX12_pot_330 : decode cX12_pot 330 = .ok (.iaload, 1) := by decide +kernel
theorem dX12_pot_331 : decode cX12_pot 331 = .ok (.iload_n 2, 1) := by decide +kernel
theorem dX12_pot_332 : decode cX12_pot 332 = .ok (.aload_n 0, 1) := by decide +kernel
theorem dX12_pot_333 : decode cX12_pot 333 = .ok (.getfield 245, 3) := by decide +kernel
theorem dX12_pot_336 : decode cX12_pot 336 = .ok (.imul, 1) := by decide +kernel
theorem dX12_pot_337 : decode cX12_pot 337 = .ok (.iadd, 1) := by decide +kernel
theorem dX12_pot_338 : decode cX12_pot 338 = .ok (.iload 6, 2) := by decide +kernel
theorem dX12_pot_340 : decode cX12_pot 340 = .ok (.iadd, 1) := by decide +kernel
theorem dX12_pot_341 : decode cX12_pot 341 = .ok (.dup2, 1) := by decide +kernel
theorem dX12_pot_342 : decode cX12_pot 342 = .ok (.laload, 1) := by decide +kernel
theorem dX12_pot_343 : decode cX12_pot 343 = .ok (.aload_n 0, 1) := by decide +kernel
theorem dX12_pot_344 : decode cX12_pot 344 = .ok (.getfield 96, 3) := by decide +kernel
theorem dX12_pot_347 : decode cX12_pot 347 = .ok (.iload 7, 2) := by decide +kernel
theorem dX12_pot_349 : decode cX12_pot 349 = .ok (.laload, 1) := by decide +kernel
theorem dX12_pot_350 : decode cX12_pot 350 = .ok (.ladd, 1) := by decide +kernel
theorem dX12_pot_351 : decode cX12_pot 351 = .ok (.lastore, 1) := by decide +kernel
theorem dX12_pot_352 : decode cX12_pot 352 = .ok (.iinc 6 1, 3) := by decide +kernel
theorem dX12_pot_355 : decode cX12_pot 355 = .ok (.goto (-103), 3) := by decide +kernel
theorem dX12_pot_358 : decode cX12_pot 358 = .ok (.return_, 1) := by decide +kernel
theorem dX12_rankOf_0 : decode cX12_rankOf 0 = .ok (.aload_n 0, 1) := by decide +kernel
theorem dX12_rankOf_1 : decode cX12_rankOf 1 = .ok (.iload_n 1, 1) := by decide +kernel
theorem dX12_rankOf_2 : decode cX12_rankOf 2 = .ok (.iconst 1, 1) := by decide +kernel
theorem dX12_rankOf_3 : decode cX12_rankOf 3 = .ok (.aload_n 0, 1) := by decide +kernel
theorem dX12_rankOf_4 : decode cX12_rankOf 4 = .ok (.getfield 245, 3) := by decide +kernel
theorem dX12_rankOf_7 : decode cX12_rankOf 7 = .ok (.ishl, 1) := by decide +kernel
theorem dX12_rankOf_8 : decode cX12_rankOf 8 = .ok (.iconst 1, 1) := by decide +kernel
theorem dX12_rankOf_9 : decode cX12_rankOf 9 = .ok (.isub, 1) := by decide +kernel
theorem dX12_rankOf_10 : decode cX12_rankOf 10 = .ok (.invokevirtual 294, 3) := by decide +kernel
theorem dX12_rankOf_13 : decode cX12_rankOf 13 = .ok (.istore_n 2, 1) := by decide +kernel
theorem dX12_rankOf_14 : decode cX12_rankOf 14 = .ok (.iconst 0, 1) := by decide +kernel
theorem dX12_rankOf_15 : decode cX12_rankOf 15 = .ok (.istore_n 3, 1) := by decide +kernel
theorem dX12_rankOf_16 : decode cX12_rankOf 16 = .ok (.iload_n 2, 1) := by decide +kernel
theorem dX12_rankOf_17 : decode cX12_rankOf 17 = .ok (.iload_n 3, 1) := by decide +kernel
theorem dX12_rankOf_18 : decode cX12_rankOf 18 = .ok (.ishr, 1) := by decide +kernel
theorem dX12_rankOf_19 : decode cX12_rankOf 19 = .ok (.iconst 1, 1) := by decide +kernel
theorem dX12_rankOf_20 : decode cX12_rankOf 20 = .ok (.iand, 1) := by decide +kernel
theorem dX12_rankOf_21 : decode cX12_rankOf 21 = .ok (.ifCond .ne 9, 3) := by decide +kernel
theorem dX12_rankOf_24 : decode cX12_rankOf 24 = .ok (.iinc 3 1, 3) := by decide +kernel
theorem dX12_rankOf_27 : decode cX12_rankOf 27 = .ok (.goto (-11), 3) := by decide +kernel
theorem dX12_rankOf_30 : decode cX12_rankOf 30 = .ok (.iload_n 3, 1) := by decide +kernel
theorem dX12_rankOf_31 : decode cX12_rankOf 31 = .ok (.ireturn, 1) := by decide +kernel
theorem dX12_layStage_0 : decode cX12_layStage 0 = .ok (.aload_n 0, 1) := by decide +kernel
theorem dX12_layStage_1 : decode cX12_layStage 1 = .ok (.getfield 102, 3) := by decide +kernel
theorem dX12_layStage_4 : decode cX12_layStage 4 = .ok (.iload_n 1, 1) := by decide +kernel
theorem dX12_layStage_5 : decode cX12_layStage 5 = .ok (.if_icmp .ne 4, 3) := by decide +kernel
theorem dX12_layStage_8 : decode cX12_layStage 8 = .ok (.return_, 1) := by decide +kernel
theorem dX12_layStage_9 : decode cX12_layStage 9 = .ok (.aload_n 0, 1) := by decide +kernel
theorem dX12_layStage_10 : decode cX12_layStage 10 = .ok (.invokevirtual 304, 3) := by decide +kernel
theorem dX12_layStage_13 : decode cX12_layStage 13 = .ok (.aload_n 0, 1) := by decide +kernel
theorem dX12_layStage_14 : decode cX12_layStage 14 = .ok (.iload_n 1, 1) := by decide +kernel
theorem dX12_layStage_15 : decode cX12_layStage 15 = .ok (.iconst 1, 1) := by decide +kernel
theorem dX12_layStage_16 : decode cX12_layStage 16 = .ok (.invokevirtual 307, 3) := by decide +kernel
theorem dX12_layStage_19 : decode cX12_layStage 19 = .ok (.aload_n 0, 1) := by decide +kernel
theorem dX12_layStage_20 : decode cX12_layStage 20 = .ok (.iload_n 1, 1) := by decide +kernel
theorem dX12_layStage_21 : decode cX12_layStage 21 = .ok (.putfield 102, 3) := by decide +kernel
theorem dX12_layStage_24 : decode cX12_layStage 24 = .ok (.return_, 1) := by decide +kernel
theorem dX12_layWeights_0 : decode cX12_layWeights 0 = .ok (.aload_n 0, 1) := by decide +kernel
theorem dX12_layWeights_1 : decode cX12_layWeights 1 = .ok (.iconst (-1), 1) := by decide +kernel
theorem dX12_layWeights_2 : decode cX12_layWeights 2 = .ok (.putfield 102, 3) := by decide +kernel
theorem dX12_layWeights_5 : decode cX12_layWeights 5 = .ok (.aload_n 0, 1) := by decide +kernel
theorem dX12_layWeights_6 : decode cX12_layWeights 6 = .ok (.invokevirtual 311, 3) := by decide +kernel
theorem dX12_layWeights_9 : decode cX12_layWeights 9 = .ok (.iload_n 2, 1) := by decide +kernel
theorem dX12_layWeights_10 : decode cX12_layWeights 10 = .ok (.ifCond .eq 10, 3) := by decide +kernel
theorem dX12_layWeights_13 : decode cX12_layWeights 13 = .ok (.aload_n 0, 1) := by decide +kernel
theorem dX12_layWeights_14 : decode cX12_layWeights 14 = .ok (.getfield 234, 3) := by decide +kernel
theorem dX12_layWeights_17 : decode cX12_layWeights 17 = .ok (.goto 4, 3) := by decide +kernel
theorem dX12_layWeights_20 : decode cX12_layWeights 20 = .ok (.iconst 0, 1) := by decide +kernel
theorem dX12_layWeights_21 : decode cX12_layWeights 21 = .ok (.istore_n 3, 1) := by decide +kernel
theorem dX12_layWeights_22 : decode cX12_layWeights 22 = .ok (.iconst 0, 1) := by decide +kernel
theorem dX12_layWeights_23 : decode cX12_layWeights 23 = .ok (.istore 4, 2) := by decide +kernel
theorem dX12_layWeights_25 : decode cX12_layWeights 25 = .ok (.iload 4, 2) := by decide +kernel
theorem dX12_layWeights_27 : decode cX12_layWeights 27 = .ok (.aload_n 0, 1) := by decide +kernel
theorem dX12_layWeights_28 : decode cX12_layWeights 28 = .ok (.getfield 248, 3) := by decide +kernel
theorem dX12_layWeights_31 : decode cX12_layWeights 31 = .ok (.if_icmp .ge 46, 3) := by decide +kernel
theorem dX12_layWeights_34 : decode cX12_layWeights 34 = .ok (.aload_n 0, 1) := by decide +kernel
theorem dX12_layWeights_35 : decode cX12_layWeights 35 = .ok (.getfield 99, 3) := by decide +kernel
theorem dX12_layWeights_38 : decode cX12_layWeights 38 = .ok (.iload 4, 2) := by decide +kernel
theorem dX12_layWeights_40 : decode cX12_layWeights 40 = .ok (.iload_n 1, 1) := by decide +kernel
theorem dX12_layWeights_41 : decode cX12_layWeights 41 = .ok (.iconst 1, 1) := by decide +kernel
theorem dX12_layWeights_42 : decode cX12_layWeights 42 = .ok (.if_icmp .ne 27, 3) := by decide +kernel
theorem dX12_layWeights_45 : decode cX12_layWeights 45 = .ok (.aload_n 0, 1) := by decide +kernel
theorem dX12_layWeights_46 : decode cX12_layWeights 46 = .ok (.getfield 47, 3) := by decide +kernel
theorem dX12_layWeights_49 : decode cX12_layWeights 49 = .ok (.iload 4, 2) := by decide +kernel
theorem dX12_layWeights_51 : decode cX12_layWeights 51 = .ok (.iaload, 1) := by decide +kernel
theorem dX12_layWeights_52 : decode cX12_layWeights 52 = .ok (.ifCond .ne 17, 3) := by decide +kernel
theorem dX12_layWeights_55 : decode cX12_layWeights 55 = .ok (.aload_n 0, 1) := by decide +kernel
theorem dX12_layWeights_56 : decode cX12_layWeights 56 = .ok (.iload 4, 2) := by decide +kernel
theorem dX12_layWeights_58 : decode cX12_layWeights 58 = .ok (.iload_n 3, 1) := by decide +kernel
theorem dX12_layWeights_59 : decode cX12_layWeights 59 = .ok (.invokevirtual 275, 3) := by decide +kernel
theorem dX12_layWeights_62 : decode cX12_layWeights 62 = .ok (.ifCond .eq 7, 3) := by decide +kernel
theorem dX12_layWeights_65 : decode cX12_layWeights 65 = .ok (.lconst 1, 1) := by decide +kernel
theorem dX12_layWeights_66 : decode cX12_layWeights 66 = .ok (.goto 4, 3) := by decide +kernel
theorem dX12_layWeights_69 : decode cX12_layWeights 69 = .ok (.lconst 0, 1) := by decide +kernel
theorem dX12_layWeights_70 : decode cX12_layWeights 70 = .ok (.lastore, 1) := by decide +kernel
theorem dX12_layWeights_71 : decode cX12_layWeights 71 = .ok (.iinc 4 1, 3) := by decide +kernel
theorem dX12_layWeights_74 : decode cX12_layWeights 74 = .ok (.goto (-49), 3) := by decide +kernel
theorem dX12_layWeights_77 : decode cX12_layWeights 77 = .ok (.iload_n 1, 1) := by decide +kernel
theorem dX12_layWeights_78 : decode cX12_layWeights 78 = .ok (.iconst 1, 1) := by decide +kernel
theorem dX12_layWeights_79 : decode cX12_layWeights 79 = .ok (.if_icmp .eq 10, 3) := by decide +kernel
theorem dX12_layWeights_82 : decode cX12_layWeights 82 = .ok (.aload_n 0, 1) := by decide +kernel
theorem dX12_layWeights_83 : decode cX12_layWeights 83 = .ok (.getfield 251, 3) := by decide +kernel
theorem dX12_layWeights_86 : decode cX12_layWeights 86 = .ok (.ifCond .ne 4, 3) := by decide +kernel
theorem dX12_layWeights_89 : decode cX12_layWeights 89 = .ok (.return_, 1) := by decide +kernel
theorem dX12_layWeights_90 : decode cX12_layWeights 90 = .ok (.iconst 0, 1) := by decide +kernel
theorem dX12_layWeights_91 : decode cX12_layWeights 91 = .ok (.istore 4, 2) := by decide +kernel
theorem dX12_layWeights_93 : decode cX12_layWeights 93 = .ok (.iload 4, 2) := by decide +kernel
theorem dX12_layWeights_95 : decode cX12_layWeights 95 = .ok (.aload_n 0, 1) := by decide +kernel
theorem dX12_layWeights_96 : decode cX12_layWeights 96 = .ok (.getfield 77, 3) := by decide +kernel
theorem dX12_layWeights_99 : decode cX12_layWeights 99 = .ok (.aload_n 0, 1) := by decide +kernel
theorem dX12_layWeights_100 : decode cX12_layWeights 100 = .ok (.getfield 188, 3) := by decide +kernel
theorem dX12_layWeights_103 : decode cX12_layWeights 103 = .ok (.iconst 1, 1) := by decide +kernel
theorem dX12_layWeights_104 : decode cX12_layWeights 104 = .ok (.iadd, 1) := by decide +kernel
theorem dX12_layWeights_105 : decode cX12_layWeights 105 = .ok (.iaload, 1) := by decide +kernel
theorem dX12_layWeights_106 : decode cX12_layWeights 106 = .ok (.if_icmp .ge 17, 3) := by decide +kernel
theorem dX12_layWeights_109 : decode cX12_layWeights 109 = .ok (.aload_n 0, 1) := by decide +kernel
theorem dX12_layWeights_110 : decode cX12_layWeights 110 = .ok (.getfield 83, 3) := by decide +kernel
theorem dX12_layWeights_113 : decode cX12_layWeights 113 = .ok (.iload 4, 2) := by decide +kernel
theorem dX12_layWeights_115 : decode cX12_layWeights 115 = .ok (.lconst 0, 1) := by decide +kernel
theorem dX12_layWeights_116 : decode cX12_layWeights 116 = .ok (.lastore, 1) := by decide +kernel
theorem dX12_layWeights_117 : decode cX12_layWeights 117 = .ok (.iinc 4 1, 3) := by decide +kernel
theorem dX12_layWeights_120 : decode cX12_layWeights 120 = .ok (.goto (-27), 3) := by decide +kernel
theorem dX12_layWeights_123 : decode cX12_layWeights 123 = .ok (.iload_n 3, 1) := by decide +kernel
theorem dX12_layWeights_124 : decode cX12_layWeights 124 = .ok (.aload_n 0, 1) := by decide +kernel
theorem dX12_layWeights_125 : decode cX12_layWeights 125 = .ok (.getfield 185, 3) := by decide +kernel
theorem dX12_layWeights_128 : decode cX12_layWeights 128 = .ok (.idiv, 1) := by decide +kernel
theorem dX12_layWeights_129 : decode cX12_layWeights 129 = .ok (.istore 4, 2) := by decide +kernel
theorem dX12_layWeights_131 : decode cX12_layWeights 131 = .ok (.iconst 0, 1) := by decide +kernel
theorem dX12_layWeights_132 : decode cX12_layWeights 132 = .ok (.istore 5, 2) := by decide +kernel
theorem dX12_layWeights_134 : decode cX12_layWeights 134 = .ok (.iconst 0, 1) := by decide +kernel
theorem dX12_layWeights_135 : decode cX12_layWeights 135 = .ok (.istore 6, 2) := by decide +kernel
theorem dX12_layWeights_137 : decode cX12_layWeights 137 = .ok (.iload 6, 2) := by decide +kernel
theorem dX12_layWeights_139 : decode cX12_layWeights 139 = .ok (.iload 4, 2) := by decide +kernel
theorem dX12_layWeights_141 : decode cX12_layWeights 141 = .ok (.if_icmp .ge 35, 3) := by decide +kernel
theorem dX12_layWeights_144 : decode cX12_layWeights 144 = .ok (.iload 5, 2) := by decide +kernel
theorem dX12_layWeights_146 : decode cX12_layWeights 146 = .ok (.aload_n 0, 1) := by decide +kernel
theorem dX12_layWeights_147 : decode cX12_layWeights 147 = .ok (.getfield 245, 3) := by decide +kernel
theorem dX12_layWeights_150 : decode cX12_layWeights 150 = .ok (.imul, 1) := by decide +kernel
theorem dX12_layWeights_151 : decode cX12_layWeights 151 = .ok (.aload_n 0, 1) := by decide +kernel
theorem dX12_layWeights_152 : decode cX12_layWeights 152 = .ok (.aload_n 0, 1) := by decide +kernel
theorem dX12_layWeights_153 : decode cX12_layWeights 153 = .ok (.aload_n 0, 1) := by decide +kernel
theorem dX12_layWeights_154 : decode cX12_layWeights 154 = .ok (.getfield 71, 3) := by decide +kernel
theorem dX12_layWeights_157 : decode cX12_layWeights 157 = .ok (.iload 6, 2) := by decide +kernel
theorem dX12_layWeights_159 : decode cX12_layWeights 159 = .ok (.iaload, 1) := by decide +kernel
theorem dX12_layWeights_160 : decode cX12_layWeights 160 = .ok (.iload_n 3, 1) := by decide +kernel
theorem dX12_layWeights_161 : decode cX12_layWeights 161 = .ok (.invokevirtual 314, 3) := by decide +kernel
theorem dX12_layWeights_164 : decode cX12_layWeights 164 = .ok (.invokevirtual 317, 3) := by decide +kernel
theorem dX12_layWeights_167 : decode cX12_layWeights 167 = .ok (.iadd, 1) := by decide +kernel
theorem dX12_layWeights_168 : decode cX12_layWeights 168 = .ok (.istore 5, 2) := by decide +kernel
theorem dX12_layWeights_170 : decode cX12_layWeights 170 = .ok (.iinc 6 1, 3) := by decide +kernel
theorem dX12_layWeights_173 : decode cX12_layWeights 173 = .ok (.goto (-36), 3) := by decide +kernel
theorem dX12_layWeights_176 : decode cX12_layWeights 176 = .ok (.aload_n 0, 1) := by decide +kernel
theorem dX12_layWeights_177 : decode cX12_layWeights 177 = .ok (.getfield 83, 3) := by decide +kernel
theorem dX12_layWeights_180 : decode cX12_layWeights 180 = .ok (.aload_n 0, 1) := by decide +kernel
theorem dX12_layWeights_181 : decode cX12_layWeights 181 = .ok (.getfield 77, 3) := by decide +kernel
theorem dX12_layWeights_184 : decode cX12_layWeights 184 = .ok (.iload 4, 2) := by decide +kernel
theorem dX12_layWeights_186 : decode cX12_layWeights 186 = .ok (.iaload, 1) := by decide +kernel
theorem dX12_layWeights_187 : decode cX12_layWeights 187 = .ok (.iload 5, 2) := by decide +kernel
theorem dX12_layWeights_189 : decode cX12_layWeights 189 = .ok (.iadd, 1) := by decide +kernel
theorem dX12_layWeights_190 : decode cX12_layWeights 190 = .ok (.lconst 1, 1) := by decide +kernel
theorem dX12_layWeights_191 : decode cX12_layWeights 191 = .ok (.lastore, 1) := by decide +kernel
theorem dX12_layWeights_192 : decode cX12_layWeights 192 = .ok (.aload_n 0, 1) := by decide +kernel
theorem dX12_layWeights_193 : decode cX12_layWeights 193 = .ok (.getfield 288, 3) := by decide +kernel
theorem dX12_layWeights_196 : decode cX12_layWeights 196 = .ok (.iconst 1, 1) := by decide +kernel
theorem dX12_layWeights_197 : decode cX12_layWeights 197 = .ok (.isub, 1) := by decide +kernel
theorem dX12_layWeights_198 : decode cX12_layWeights 198 = .ok (.istore 6, 2) := by decide +kernel
theorem dX12_layWeights_200 : decode cX12_layWeights 200 = .ok (.iload 4, 2) := by decide +kernel
theorem dX12_layWeights_202 : decode cX12_layWeights 202 = .ok (.istore 7, 2) := by decide +kernel
theorem dX12_layWeights_204 : decode cX12_layWeights 204 = .ok (.iload 7, 2) := by decide +kernel
theorem dX12_layWeights_206 : decode cX12_layWeights 206 = .ok (.aload_n 0, 1) := by decide +kernel
theorem dX12_layWeights_207 : decode cX12_layWeights 207 = .ok (.getfield 188, 3) := by decide +kernel
theorem dX12_layWeights_210 : decode cX12_layWeights 210 = .ok (.if_icmp .ge 110, 3) := by decide +kernel
theorem dX12_layWeights_213 : decode cX12_layWeights 213 = .ok (.iload 7, 2) := by decide +kernel
theorem dX12_layWeights_215 : decode cX12_layWeights 215 = .ok (.iload 4, 2) := by decide +kernel
theorem dX12_layWeights_217 : decode cX12_layWeights 217 = .ok (.if_icmp .ne 22, 3) := by decide +kernel
theorem dX12_layWeights_220 : decode cX12_layWeights 220 = .ok (.iload_n 2, 1) := by decide +kernel
theorem dX12_layWeights_221 : decode cX12_layWeights 221 = .ok (.ifCond .eq 18, 3) := by decide +kernel
theorem dX12_layWeights_224 : decode cX12_layWeights 224 = .ok (.aload_n 0, 1) := by decide +kernel
theorem dX12_layWeights_225 : decode cX12_layWeights 225 = .ok (.aload_n 0, 1) := by decide +kernel
theorem dX12_layWeights_226 : decode cX12_layWeights 226 = .ok (.getfield 71, 3) := by decide +kernel
theorem dX12_layWeights_229 : decode cX12_layWeights 229 = .ok (.iload 7, 2) := by decide +kernel
theorem dX12_layWeights_231 : decode cX12_layWeights 231 = .ok (.iaload, 1) := by decide +kernel
theorem dX12_layWeights_232 : decode cX12_layWeights 232 = .ok (.iload_n 3, 1) := by decide +kernel
theorem dX12_layWeights_233 : decode cX12_layWeights 233 = .ok (.invokevirtual 314, 3) := by decide +kernel
theorem dX12_layWeights_236 : decode cX12_layWeights 236 = .ok (.goto 5, 3) := by decide +kernel
theorem dX12_layWeights_239 : decode cX12_layWeights 239 = .ok (.iload 6, 2) := by decide +kernel
theorem dX12_layWeights_241 : decode cX12_layWeights 241 = .ok (.istore 8, 2) := by decide +kernel
theorem dX12_layWeights_243 : decode cX12_layWeights 243 = .ok (.iconst 0, 1) := by decide +kernel
theorem dX12_layWeights_244 : decode cX12_layWeights 244 = .ok (.istore 9, 2) := by decide +kernel
theorem dX12_layWeights_246 : decode cX12_layWeights 246 = .ok (.iload 9, 2) := by decide +kernel
theorem dX12_layWeights_248 : decode cX12_layWeights 248 = .ok (.aload_n 0, 1) := by decide +kernel
theorem dX12_layWeights_249 : decode cX12_layWeights 249 = .ok (.getfield 77, 3) := by decide +kernel
theorem dX12_layWeights_252 : decode cX12_layWeights 252 = .ok (.iload 7, 2) := by decide +kernel
theorem dX12_layWeights_254 : decode cX12_layWeights 254 = .ok (.iconst 1, 1) := by decide +kernel
theorem dX12_layWeights_255 : decode cX12_layWeights 255 = .ok (.iadd, 1) := by decide +kernel
theorem dX12_layWeights_256 : decode cX12_layWeights 256 = .ok (.iaload, 1) := by decide +kernel
theorem dX12_layWeights_257 : decode cX12_layWeights 257 = .ok (.aload_n 0, 1) := by decide +kernel
theorem dX12_layWeights_258 : decode cX12_layWeights 258 = .ok (.getfield 77, 3) := by decide +kernel
theorem dX12_layWeights_261 : decode cX12_layWeights 261 = .ok (.iload 7, 2) := by decide +kernel
theorem dX12_layWeights_263 : decode cX12_layWeights 263 = .ok (.iaload, 1) := by decide +kernel
theorem dX12_layWeights_264 : decode cX12_layWeights 264 = .ok (.isub, 1) := by decide +kernel
theorem dX12_layWeights_265 : decode cX12_layWeights 265 = .ok (.if_icmp .ge 49, 3) := by decide +kernel
theorem dX12_layWeights_268 : decode cX12_layWeights 268 = .ok (.aload_n 0, 1) := by decide +kernel
theorem dX12_layWeights_269 : decode cX12_layWeights 269 = .ok (.getfield 83, 3) := by decide +kernel
theorem dX12_layWeights_272 : decode cX12_layWeights 272 = .ok (.aload_n 0, 1) := by decide +kernel
theorem dX12_layWeights_273 : decode cX12_layWeights 273 = .ok (.getfield 77, 3) := by decide +kernel
theorem dX12_layWeights_276 : decode cX12_layWeights 276 = .ok (.iload 7, 2) := by decide +kernel
theorem dX12_layWeights_278 : decode cX12_layWeights 278 = .ok (.iaload, 1) := by decide +kernel
theorem dX12_layWeights_279 : decode cX12_layWeights 279 = .ok (.iload 9, 2) := by decide +kernel
theorem dX12_layWeights_281 : decode cX12_layWeights 281 = .ok (.iadd, 1) := by decide +kernel
theorem dX12_layWeights_282 : decode cX12_layWeights 282 = .ok (.laload, 1) := by decide +kernel
theorem dX12_layWeights_283 : decode cX12_layWeights 283 = .ok (.lconst 0, 1) := by decide +kernel
theorem dX12_layWeights_284 : decode cX12_layWeights 284 = .ok (.lcmp, 1) := by decide +kernel
theorem dX12_layWeights_285 : decode cX12_layWeights 285 = .ok (.ifCond .le 23, 3) := by decide +kernel
theorem dX12_layWeights_288 : decode cX12_layWeights 288 = .ok (.aload_n 0, 1) := by decide +kernel
theorem dX12_layWeights_289 : decode cX12_layWeights 289 = .ok (.iload 7, 2) := by decide +kernel
theorem dX12_layWeights_291 : decode cX12_layWeights 291 = .ok (.iload 9, 2) := by decide +kernel
theorem dX12_layWeights_293 : decode cX12_layWeights 293 = .ok (.iload 8, 2) := by decide +kernel
theorem dX12_layWeights_295 : decode cX12_layWeights 295 = .ok (.iload_n 1, 1) := by decide +kernel
theorem dX12_layWeights_296 : decode cX12_layWeights 296 = .ok (.iconst 2, 1) := by decide +kernel
theorem dX12_layWeights_297 : decode cX12_layWeights 297 = .ok (.if_icmp .ne 7, 3) := by decide +kernel
theorem dX12_layWeights_300 : decode cX12_layWeights 300 = .ok (.iconst 1, 1) := by decide +kernel
theorem dX12_layWeights_301 : decode cX12_layWeights 301 = .ok (.goto 4, 3) := by decide +kernel
theorem dX12_layWeights_304 : decode cX12_layWeights 304 = .ok (.iconst 0, 1) := by decide +kernel
theorem dX12_layWeights_305 : decode cX12_layWeights 305 = .ok (.invokevirtual 320, 3) := by decide +kernel
theorem dX12_layWeights_308 : decode cX12_layWeights 308 = .ok (.iinc 9 1, 3) := by decide +kernel
theorem dX12_layWeights_311 : decode cX12_layWeights 311 = .ok (.goto (-65), 3) := by decide +kernel
theorem dX12_layWeights_314 : decode cX12_layWeights 314 = .ok (.iinc 7 1, 3) := by decide +kernel
theorem dX12_layWeights_317 : decode cX12_layWeights 317 = .ok (.goto (-113), 3) := by decide +kernel
theorem dX12_layWeights_320 : decode cX12_layWeights 320 = .ok (.iconst 0, 1) := by decide +kernel
theorem dX12_layWeights_321 : decode cX12_layWeights 321 = .ok (.istore 7, 2) := by decide +kernel
theorem dX12_layWeights_323 : decode cX12_layWeights 323 = .ok (.iload 7, 2) := by decide +kernel
theorem dX12_layWeights_325 : decode cX12_layWeights 325 = .ok (.aload_n 0, 1) := by decide +kernel
theorem dX12_layWeights_326 : decode cX12_layWeights 326 = .ok (.getfield 248, 3) := by decide +kernel
theorem dX12_layWeights_329 : decode cX12_layWeights 329 = .ok (.if_icmp .ge 52, 3) := by decide +kernel
theorem dX12_layWeights_332 : decode cX12_layWeights 332 = .ok (.aload_n 0, 1) := by decide +kernel
theorem dX12_layWeights_333 : decode cX12_layWeights 333 = .ok (.getfield 99, 3) := by decide +kernel
theorem dX12_layWeights_336 : decode cX12_layWeights 336 = .ok (.iload 7, 2) := by decide +kernel
theorem dX12_layWeights_338 : decode cX12_layWeights 338 = .ok (.aload_n 0, 1) := by decide +kernel
theorem dX12_layWeights_339 : decode cX12_layWeights 339 = .ok (.getfield 47, 3) := by decide +kernel
theorem dX12_layWeights_342 : decode cX12_layWeights 342 = .ok (.iload 7, 2) := by decide +kernel
theorem dX12_layWeights_344 : decode cX12_layWeights 344 = .ok (.iaload, 1) := by decide +kernel
theorem dX12_layWeights_345 : decode cX12_layWeights 345 = .ok (.ifCond .ne 28, 3) := by decide +kernel
theorem dX12_layWeights_348 : decode cX12_layWeights 348 = .ok (.aload_n 0, 1) := by decide +kernel
theorem dX12_layWeights_349 : decode cX12_layWeights 349 = .ok (.getfield 83, 3) := by decide +kernel
theorem dX12_layWeights_352 : decode cX12_layWeights 352 = .ok (.aload_n 0, 1) := by decide +kernel
theorem dX12_layWeights_353 : decode cX12_layWeights 353 = .ok (.getfield 77, 3) := by decide +kernel
theorem dX12_layWeights_356 : decode cX12_layWeights 356 = .ok (.aload_n 0, 1) := by decide +kernel
theorem dX12_layWeights_357 : decode cX12_layWeights 357 = .ok (.getfield 188, 3) := by decide +kernel
theorem dX12_layWeights_360 : decode cX12_layWeights 360 = .ok (.iaload, 1) := by decide +kernel
theorem dX12_layWeights_361 : decode cX12_layWeights 361 = .ok (.aload_n 0, 1) := by decide +kernel
theorem dX12_layWeights_362 : decode cX12_layWeights 362 = .ok (.getfield 87, 3) := by decide +kernel
theorem dX12_layWeights_365 : decode cX12_layWeights 365 = .ok (.iload 7, 2) := by decide +kernel
theorem dX12_layWeights_367 : decode cX12_layWeights 367 = .ok (.iaload, 1) := by decide +kernel
theorem dX12_layWeights_368 : decode cX12_layWeights 368 = .ok (.iadd, 1) := by decide +kernel
theorem dX12_layWeights_369 : decode cX12_layWeights 369 = .ok (.laload, 1) := by decide +kernel
theorem dX12_layWeights_370 : decode cX12_layWeights 370 = .ok (.goto 4, 3) := by decide +kernel
theorem dX12_layWeights_373 : decode cX12_layWeights 373 = .ok (.lconst 0, 1) := by decide +kernel
theorem dX12_layWeights_374 : decode cX12_layWeights 374 = .ok (.lastore, 1) := by decide +kernel
theorem dX12_layWeights_375 : decode cX12_layWeights 375 = .ok (.iinc 7 1, 3) := by decide +kernel
theorem dX12_layWeights_378 : decode cX12_layWeights 378 = .ok (.goto (-55), 3) := by decide +kernel
theorem dX12_layWeights_381 : decode cX12_layWeights 381 = .ok (.return_, 1) := by decide +kernel
theorem dX12_placedPart_0 : decode cX12_placedPart 0 = .ok (.aload_n 0, 1) := by decide +kernel
theorem dX12_placedPart_1 : decode cX12_placedPart 1 = .ok (.getfield 288, 3) := by decide +kernel
theorem dX12_placedPart_4 : decode cX12_placedPart 4 = .ok (.iconst 1, 1) := by decide +kernel
theorem dX12_placedPart_5 : decode cX12_placedPart 5 = .ok (.isub, 1) := by decide +kernel
theorem dX12_placedPart_6 : decode cX12_placedPart 6 = .ok (.istore_n 3, 1) := by decide +kernel
theorem dX12_placedPart_7 : decode cX12_placedPart 7 = .ok (.iconst 0, 1) := by decide +kernel
theorem dX12_placedPart_8 : decode cX12_placedPart 8 = .ok (.istore 4, 2) := by decide +kernel
theorem dX12_placedPart_10 : decode cX12_placedPart 10 = .ok (.iload 4, 2) := by decide +kernel
theorem dX12_placedPart_12 : decode cX12_placedPart 12 = .ok (.iload_n 2, 1) := by decide +kernel
theorem dX12_placedPart_13 : decode cX12_placedPart 13 = .ok (.if_icmp .ge 58, 3) := by decide +kernel
theorem dX12_placedPart_16 : decode cX12_placedPart 16 = .ok (.aload_n 0, 1) := by decide +kernel
theorem dX12_placedPart_17 : decode cX12_placedPart 17 = .ok (.getfield 65, 3) := by decide +kernel
theorem dX12_placedPart_20 : decode cX12_placedPart 20 = .ok (.iload 4, 2) := by decide +kernel
theorem dX12_placedPart_22 : decode cX12_placedPart 22 = .ok (.iaload, 1) := by decide +kernel
theorem dX12_placedPart_23 : decode cX12_placedPart 23 = .ok (.aload_n 0, 1) := by decide +kernel
theorem dX12_placedPart_24 : decode cX12_placedPart 24 = .ok (.getfield 185, 3) := by decide +kernel
theorem dX12_placedPart_27 : decode cX12_placedPart 27 = .ok (.idiv, 1) := by decide +kernel
theorem dX12_placedPart_28 : decode cX12_placedPart 28 = .ok (.iload_n 1, 1) := by decide +kernel
theorem dX12_placedPart_29 : decode cX12_placedPart 29 = .ok (.if_icmp .ne 36, 3) := by decide +kernel
theorem dX12_placedPart_32 : decode cX12_placedPart 32 = .ok (.iload_n 3, 1) := by decide +kernel
theorem dX12_placedPart_33 : decode cX12_placedPart 33 = .ok (.aload_n 0, 1) := by decide +kernel
theorem dX12_placedPart_34 : decode cX12_placedPart 34 = .ok (.getfield 185, 3) := by decide +kernel
theorem dX12_placedPart_37 : decode cX12_placedPart 37 = .ok (.aload_n 0, 1) := by decide +kernel
theorem dX12_placedPart_38 : decode cX12_placedPart 38 = .ok (.getfield 68, 3) := by decide +kernel
theorem dX12_placedPart_41 : decode cX12_placedPart 41 = .ok (.iload 4, 2) := by decide +kernel
theorem dX12_placedPart_43 : decode cX12_placedPart 43 = .ok (.iaload, 1) := by decide +kernel
theorem dX12_placedPart_44 : decode cX12_placedPart 44 = .ok (.isub, 1) := by decide +kernel
theorem dX12_placedPart_45 : decode cX12_placedPart 45 = .ok (.aload_n 0, 1) := by decide +kernel
theorem dX12_placedPart_46 : decode cX12_placedPart 46 = .ok (.getfield 93, 3) := by decide +kernel
theorem dX12_placedPart_49 : decode cX12_placedPart 49 = .ok (.aload_n 0, 1) := by decide +kernel
theorem dX12_placedPart_50 : decode cX12_placedPart 50 = .ok (.getfield 65, 3) := by decide +kernel
theorem dX12_placedPart_53 : decode cX12_placedPart 53 = .ok (.iload 4, 2) := by decide +kernel
theorem dX12_placedPart_55 : decode cX12_placedPart 55 = .ok (.iaload, 1) := by decide +kernel
theorem dX12_placedPart_56 : decode cX12_placedPart 56 = .ok (.aload_n 0, 1) := by decide +kernel
theorem dX12_placedPart_57 : decode cX12_placedPart 57 = .ok (.getfield 185, 3) := by decide +kernel
theorem dX12_placedPart_60 : decode cX12_placedPart 60 = .ok (.irem, 1) := by decide +kernel
theorem dX12_placedPart_61 : decode cX12_placedPart 61 = .ok (.iaload, 1) := by decide +kernel
theorem dX12_placedPart_62 : decode cX12_placedPart 62 = .ok (.imul, 1) := by decide +kernel
theorem dX12_placedPart_63 : decode cX12_placedPart 63 = .ok (.isub, 1) := by decide +kernel
theorem dX12_placedPart_64 : decode cX12_placedPart 64 = .ok (.istore_n 3, 1) := by decide +kernel
theorem dX12_placedPart_65 : decode cX12_placedPart 65 = .ok (.iinc 4 1, 3) := by decide +kernel
theorem dX12_placedPart_68 : decode cX12_placedPart 68 = .ok (.goto (-58), 3) := by decide +kernel
theorem dX12_placedPart_71 : decode cX12_placedPart 71 = .ok (.iload_n 3, 1) := by decide +kernel
theorem dX12_placedPart_72 : decode cX12_placedPart 72 = .ok (.ireturn, 1) := by decide +kernel
theorem dX12_allRows_0 : decode cX12_allRows 0 = .ok (.lconst 0, 1) := by decide +kernel
theorem dX12_allRows_1 : decode cX12_allRows 1 = .ok (.lstore_n 1, 1) := by decide +kernel
theorem dX12_allRows_2 : decode cX12_allRows 2 = .ok (.iconst 0, 1) := by decide +kernel
theorem dX12_allRows_3 : decode cX12_allRows 3 = .ok (.istore_n 3, 1) := by decide +kernel
theorem dX12_allRows_4 : decode cX12_allRows 4 = .ok (.iload_n 3, 1) := by decide +kernel
theorem dX12_allRows_5 : decode cX12_allRows 5 = .ok (.aload_n 0, 1) := by decide +kernel
theorem dX12_allRows_6 : decode cX12_allRows 6 = .ok (.getfield 248, 3) := by decide +kernel
theorem dX12_allRows_9 : decode cX12_allRows 9 = .ok (.if_icmp .ge 18, 3) := by decide +kernel
theorem dX12_allRows_12 : decode cX12_allRows 12 = .ok (.lload_n 1, 1) := by decide +kernel
theorem dX12_allRows_13 : decode cX12_allRows 13 = .ok (.aload_n 0, 1) := by decide +kernel
theorem dX12_allRows_14 : decode cX12_allRows 14 = .ok (.getfield 99, 3) := by decide +kernel
theorem dX12_allRows_17 : decode cX12_allRows 17 = .ok (.iload_n 3, 1) := by decide +kernel
theorem dX12_allRows_18 : decode cX12_allRows 18 = .ok (.laload, 1) := by decide +kernel
theorem dX12_allRows_19 : decode cX12_allRows 19 = .ok (.ladd, 1) := by decide +kernel
theorem dX12_allRows_20 : decode cX12_allRows 20 = .ok (.lstore_n 1, 1) := by decide +kernel
theorem dX12_allRows_21 : decode cX12_allRows 21 = .ok (.iinc 3 1, 3) := by decide +kernel
theorem dX12_allRows_24 : decode cX12_allRows 24 = .ok (.goto (-20), 3) := by decide +kernel
theorem dX12_allRows_27 : decode cX12_allRows 27 = .ok (.lload_n 1, 1) := by decide +kernel
theorem dX12_allRows_28 : decode cX12_allRows 28 = .ok (.lreturn, 1) := by decide +kernel
theorem dX12_pairRows_0 : decode cX12_pairRows 0 = .ok (.lconst 0, 1) := by decide +kernel
theorem dX12_pairRows_1 : decode cX12_pairRows 1 = .ok (.lstore_n 3, 1) := by decide +kernel
theorem dX12_pairRows_2 : decode cX12_pairRows 2 = .ok (.iconst 0, 1) := by decide +kernel
theorem dX12_pairRows_3 : decode cX12_pairRows 3 = .ok (.istore 5, 2) := by decide +kernel
theorem dX12_pairRows_5 : decode cX12_pairRows 5 = .ok (.iload 5, 2) := by decide +kernel
theorem dX12_pairRows_7 : decode cX12_pairRows 7 = .ok (.aload_n 0, 1) := by decide +kernel
theorem dX12_pairRows_8 : decode cX12_pairRows 8 = .ok (.getfield 248, 3) := by decide +kernel
theorem dX12_pairRows_11 : decode cX12_pairRows 11 = .ok (.if_icmp .ge 50, 3) := by decide +kernel
theorem dX12_pairRows_14 : decode cX12_pairRows 14 = .ok (.lload_n 3, 1) := by decide +kernel
theorem dX12_pairRows_15 : decode cX12_pairRows 15 = .ok (.aload_n 0, 1) := by decide +kernel
theorem dX12_pairRows_16 : decode cX12_pairRows 16 = .ok (.getfield 51, 3) := by decide +kernel
theorem dX12_pairRows_19 : decode cX12_pairRows 19 = .ok (.bipush 12, 2) := by decide +kernel
theorem dX12_pairRows_21 : decode cX12_pairRows 21 = .ok (.iload 5, 2) := by decide +kernel
theorem dX12_pairRows_23 : decode cX12_pairRows 23 = .ok (.imul, 1) := by decide +kernel
theorem dX12_pairRows_24 : decode cX12_pairRows 24 = .ok (.iload_n 1, 1) := by decide +kernel
theorem dX12_pairRows_25 : decode cX12_pairRows 25 = .ok (.iadd, 1) := by decide +kernel
theorem dX12_pairRows_26 : decode cX12_pairRows 26 = .ok (.baload, 1) := by decide +kernel
theorem dX12_pairRows_27 : decode cX12_pairRows 27 = .ok (.aload_n 0, 1) := by decide +kernel
theorem dX12_pairRows_28 : decode cX12_pairRows 28 = .ok (.getfield 51, 3) := by decide +kernel
theorem dX12_pairRows_31 : decode cX12_pairRows 31 = .ok (.bipush 12, 2) := by decide +kernel
theorem dX12_pairRows_33 : decode cX12_pairRows 33 = .ok (.iload 5, 2) := by decide +kernel
theorem dX12_pairRows_35 : decode cX12_pairRows 35 = .ok (.imul, 1) := by decide +kernel
theorem dX12_pairRows_36 : decode cX12_pairRows 36 = .ok (.iload_n 2, 1) := by decide +kernel
theorem dX12_pairRows_37 : decode cX12_pairRows 37 = .ok (.iadd, 1) := by decide +kernel
theorem dX12_pairRows_38 : decode cX12_pairRows 38 = .ok (.baload, 1) := by decide +kernel
theorem dX12_pairRows_39 : decode cX12_pairRows 39 = .ok (.if_icmp .ne 13, 3) := by decide +kernel
theorem dX12_pairRows_42 : decode cX12_pairRows 42 = .ok (.aload_n 0, 1) := by decide +kernel
theorem dX12_pairRows_43 : decode cX12_pairRows 43 = .ok (.getfield 99, 3) := by decide +kernel
theorem dX12_pairRows_46 : decode cX12_pairRows 46 = .ok (.iload 5, 2) := by decide +kernel
theorem dX12_pairRows_48 : decode cX12_pairRows 48 = .ok (.laload, 1) := by decide +kernel
theorem dX12_pairRows_49 : decode cX12_pairRows 49 = .ok (.goto 4, 3) := by decide +kernel
theorem dX12_pairRows_52 : decode cX12_pairRows 52 = .ok (.lconst 0, 1) := by decide +kernel
theorem dX12_pairRows_53 : decode cX12_pairRows 53 = .ok (.ladd, 1) := by decide +kernel
theorem dX12_pairRows_54 : decode cX12_pairRows 54 = .ok (.lstore_n 3, 1) := by decide +kernel
theorem dX12_pairRows_55 : decode cX12_pairRows 55 = .ok (.iinc 5 1, 3) := by decide +kernel
theorem dX12_pairRows_58 : decode cX12_pairRows 58 = .ok (.goto (-53), 3) := by decide +kernel
theorem dX12_pairRows_61 : decode cX12_pairRows 61 = .ok (.lload_n 3, 1) := by decide +kernel
theorem dX12_pairRows_62 : decode cX12_pairRows 62 = .ok (.lreturn, 1) := by decide +kernel
theorem dX12_isWay_0 : decode cX12_isWay 0 = .ok (.iload_n 0, 1) := by decide +kernel
theorem dX12_isWay_1 : decode cX12_isWay 1 = .ok (.ifCond .lt 12, 3) := by decide +kernel
theorem dX12_isWay_4 : decode cX12_isWay 4 = .ok (.iload_n 0, 1) := by decide +kernel
theorem dX12_isWay_5 : decode cX12_isWay 5 = .ok (.iconst 3, 1) := by decide +kernel
theorem dX12_isWay_6 : decode cX12_isWay 6 = .ok (.if_icmp .ge 7, 3) := by decide +kernel
theorem dX12_isWay_9 : decode cX12_isWay 9 = .ok (.iconst 1, 1) := by decide +kernel
theorem dX12_isWay_10 : decode cX12_isWay 10 = .ok (.goto 4, 3) := by decide +kernel
theorem dX12_isWay_13 : decode cX12_isWay 13 = .ok (.iconst 0, 1) := by decide +kernel
theorem dX12_isWay_14 : decode cX12_isWay 14 = .ok (.ireturn, 1) := by decide +kernel
theorem dX12_pair_0 : decode cX12_pair 0 = .ok (.aload_n 0, 1) := by decide +kernel
theorem dX12_pair_1 : decode cX12_pair 1 = .ok (.iconst 0, 1) := by decide +kernel
theorem dX12_pair_2 : decode cX12_pair 2 = .ok (.putfield 132, 3) := by decide +kernel
theorem dX12_pair_5 : decode cX12_pair 5 = .ok (.aload_n 0, 1) := by decide +kernel
theorem dX12_pair_6 : decode cX12_pair 6 = .ok (.iload_n 1, 1) := by decide +kernel
theorem dX12_pair_7 : decode cX12_pair 7 = .ok (.invokevirtual 269, 3) := by decide +kernel
theorem dX12_pair_10 : decode cX12_pair 10 = .ok (.ifCond .eq 23, 3) := by decide +kernel
theorem dX12_pair_13 : decode cX12_pair 13 = .ok (.aload_n 0, 1) := by decide +kernel
theorem dX12_pair_14 : decode cX12_pair 14 = .ok (.iload_n 2, 1) := by decide +kernel
theorem dX12_pair_15 : decode cX12_pair 15 = .ok (.invokevirtual 269, 3) := by decide +kernel
theorem dX12_pair_18 : decode cX12_pair 18 = .ok (.ifCond .eq 15, 3) := by decide +kernel
theorem dX12_pair_21 : decode cX12_pair 21 = .ok (.iload_n 1, 1) := by decide +kernel
theorem dX12_pair_22 : decode cX12_pair 22 = .ok (.iload_n 2, 1) := by decide +kernel
theorem dX12_pair_23 : decode cX12_pair 23 = .ok (.if_icmp .eq 10, 3) := by decide +kernel
theorem dX12_pair_26 : decode cX12_pair 26 = .ok (.iload_n 3, 1) := by decide +kernel
theorem dX12_pair_27 : decode cX12_pair 27 = .ok (.invokestatic 324, 3) := by decide +kernel
theorem dX12_pair_30 : decode cX12_pair 30 = .ok (.ifCond .ne 7, 3) := by decide +kernel
theorem dX12_pair_33 : decode cX12_pair 33 = .ok (.ldc2_w 327, 3) := by decide +kernel
theorem dX12_pair_36 : decode cX12_pair 36 = .ok (.lreturn, 1) := by decide +kernel
theorem dX12_pair_37 : decode cX12_pair 37 = .ok (.aload_n 0, 1) := by decide +kernel
theorem dX12_pair_38 : decode cX12_pair 38 = .ok (.iload_n 3, 1) := by decide +kernel
theorem dX12_pair_39 : decode cX12_pair 39 = .ok (.invokevirtual 329, 3) := by decide +kernel
theorem dX12_pair_42 : decode cX12_pair 42 = .ok (.aload_n 0, 1) := by decide +kernel
theorem dX12_pair_43 : decode cX12_pair 43 = .ok (.iload_n 1, 1) := by decide +kernel
theorem dX12_pair_44 : decode cX12_pair 44 = .ok (.iload_n 2, 1) := by decide +kernel
theorem dX12_pair_45 : decode cX12_pair 45 = .ok (.invokevirtual 333, 3) := by decide +kernel
theorem dX12_pair_48 : decode cX12_pair 48 = .ok (.lreturn, 1) := by decide +kernel
theorem dX12_place_0 : decode cX12_place 0 = .ok (.aload_n 0, 1) := by decide +kernel
theorem dX12_place_1 : decode cX12_place 1 = .ok (.iconst 0, 1) := by decide +kernel
theorem dX12_place_2 : decode cX12_place 2 = .ok (.putfield 132, 3) := by decide +kernel
theorem dX12_place_5 : decode cX12_place 5 = .ok (.aload_n 0, 1) := by decide +kernel
theorem dX12_place_6 : decode cX12_place 6 = .ok (.iload_n 1, 1) := by decide +kernel
theorem dX12_place_7 : decode cX12_place 7 = .ok (.invokevirtual 269, 3) := by decide +kernel
theorem dX12_place_10 : decode cX12_place 10 = .ok (.ifCond .eq 22, 3) := by decide +kernel
theorem dX12_place_13 : decode cX12_place 13 = .ok (.iload_n 2, 1) := by decide +kernel
theorem dX12_place_14 : decode cX12_place 14 = .ok (.ifCond .lt 18, 3) := by decide +kernel
theorem dX12_place_17 : decode cX12_place 17 = .ok (.iload_n 2, 1) := by decide +kernel
theorem dX12_place_18 : decode cX12_place 18 = .ok (.aload_n 0, 1) := by decide +kernel
theorem dX12_place_19 : decode cX12_place 19 = .ok (.getfield 185, 3) := by decide +kernel
theorem dX12_place_22 : decode cX12_place 22 = .ok (.if_icmp .ge 10, 3) := by decide +kernel
theorem dX12_place_25 : decode cX12_place 25 = .ok (.iload_n 3, 1) := by decide +kernel
theorem dX12_place_26 : decode cX12_place 26 = .ok (.invokestatic 324, 3) := by decide +kernel
theorem dX12_place_29 : decode cX12_place 29 = .ok (.ifCond .ne 7, 3) := by decide +kernel
theorem dX12_place_32 : decode cX12_place 32 = .ok (.ldc2_w 327, 3) := by decide +kernel
theorem dX12_place_35 : decode cX12_place 35 = .ok (.lreturn, 1) := by decide +kernel
theorem dX12_place_36 : decode cX12_place 36 = .ok (.aload_n 0, 1) := by decide +kernel
theorem dX12_place_37 : decode cX12_place 37 = .ok (.iload_n 3, 1) := by decide +kernel
theorem dX12_place_38 : decode cX12_place 38 = .ok (.invokevirtual 329, 3) := by decide +kernel
theorem dX12_place_41 : decode cX12_place 41 = .ok (.lconst 0, 1) := by decide +kernel
theorem dX12_place_42 : decode cX12_place 42 = .ok (.lstore 4, 2) := by decide +kernel
theorem dX12_place_44 : decode cX12_place 44 = .ok (.iconst 0, 1) := by decide +kernel
theorem dX12_place_45 : decode cX12_place 45 = .ok (.istore 6, 2) := by decide +kernel
theorem dX12_place_47 : decode cX12_place 47 = .ok (.iload 6, 2) := by decide +kernel
theorem dX12_place_49 : decode cX12_place 49 = .ok (.aload_n 0, 1) := by decide +kernel
theorem dX12_place_50 : decode cX12_place 50 = .ok (.getfield 248, 3) := by decide +kernel
theorem dX12_place_53 : decode cX12_place 53 = .ok (.if_icmp .ge 41, 3) := by decide +kernel
theorem dX12_place_56 : decode cX12_place 56 = .ok (.lload 4, 2) := by decide +kernel
theorem dX12_place_58 : decode cX12_place 58 = .ok (.aload_n 0, 1) := by decide +kernel
theorem dX12_place_59 : decode cX12_place 59 = .ok (.getfield 51, 3) := by decide +kernel
theorem dX12_place_62 : decode cX12_place 62 = .ok (.bipush 12, 2) := by decide +kernel
theorem dX12_place_64 : decode cX12_place 64 = .ok (.iload 6, 2) := by decide +kernel
theorem dX12_place_66 : decode cX12_place 66 = .ok (.imul, 1) := by decide +kernel
theorem dX12_place_67 : decode cX12_place 67 = .ok (.iload_n 1, 1) := by decide +kernel
theorem dX12_place_68 : decode cX12_place 68 = .ok (.iadd, 1) := by decide +kernel
theorem dX12_place_69 : decode cX12_place 69 = .ok (.baload, 1) := by decide +kernel
theorem dX12_place_70 : decode cX12_place 70 = .ok (.iload_n 2, 1) := by decide +kernel
theorem dX12_place_71 : decode cX12_place 71 = .ok (.if_icmp .ne 13, 3) := by decide +kernel
theorem dX12_place_74 : decode cX12_place 74 = .ok (.aload_n 0, 1) := by decide +kernel
theorem dX12_place_75 : decode cX12_place 75 = .ok (.getfield 99, 3) := by decide +kernel
theorem dX12_place_78 : decode cX12_place 78 = .ok (.iload 6, 2) := by decide +kernel
theorem dX12_place_80 : decode cX12_place 80 = .ok (.laload, 1) := by decide +kernel
theorem dX12_place_81 : decode cX12_place 81 = .ok (.goto 4, 3) := by decide +kernel
theorem dX12_place_84 : decode cX12_place 84 = .ok (.lconst 0, 1) := by decide +kernel
theorem dX12_place_85 : decode cX12_place 85 = .ok (.ladd, 1) := by decide +kernel
theorem dX12_place_86 : decode cX12_place 86 = .ok (.lstore 4, 2) := by decide +kernel
theorem dX12_place_88 : decode cX12_place 88 = .ok (.iinc 6 1, 3) := by decide +kernel
theorem dX12_place_91 : decode cX12_place 91 = .ok (.goto (-44), 3) := by decide +kernel
theorem dX12_place_94 : decode cX12_place 94 = .ok (.lload 4, 2) := by decide +kernel
theorem dX12_place_96 : decode cX12_place 96 = .ok (.lreturn, 1) := by decide +kernel
theorem dX12_all_0 : decode cX12_all 0 = .ok (.aload_n 0, 1) := by decide +kernel
theorem dX12_all_1 : decode cX12_all 1 = .ok (.iconst 0, 1) := by decide +kernel
theorem dX12_all_2 : decode cX12_all 2 = .ok (.putfield 132, 3) := by decide +kernel
theorem dX12_all_5 : decode cX12_all 5 = .ok (.iload_n 1, 1) := by decide +kernel
theorem dX12_all_6 : decode cX12_all 6 = .ok (.invokestatic 324, 3) := by decide +kernel
theorem dX12_all_9 : decode cX12_all 9 = .ok (.ifCond .ne 7, 3) := by decide +kernel
theorem dX12_all_12 : decode cX12_all 12 = .ok (.ldc2_w 327, 3) := by decide +kernel
theorem dX12_all_15 : decode cX12_all 15 = .ok (.lreturn, 1) := by decide +kernel
theorem dX12_all_16 : decode cX12_all 16 = .ok (.aload_n 0, 1) := by decide +kernel
theorem dX12_all_17 : decode cX12_all 17 = .ok (.iload_n 1, 1) := by decide +kernel
theorem dX12_all_18 : decode cX12_all 18 = .ok (.invokevirtual 329, 3) := by decide +kernel
theorem dX12_all_21 : decode cX12_all 21 = .ok (.aload_n 0, 1) := by decide +kernel
theorem dX12_all_22 : decode cX12_all 22 = .ok (.invokevirtual 337, 3) := by decide +kernel
theorem dX12_all_25 : decode cX12_all 25 = .ok (.lreturn, 1) := by decide +kernel
theorem dX12_layApart_0 : decode cX12_layApart 0 = .ok (.aload_n 0, 1) := by decide +kernel
theorem dX12_layApart_1 : decode cX12_layApart 1 = .ok (.iload_n 1, 1) := by decide +kernel
theorem dX12_layApart_2 : decode cX12_layApart 2 = .ok (.iconst 0, 1) := by decide +kernel
theorem dX12_layApart_3 : decode cX12_layApart 3 = .ok (.invokevirtual 307, 3) := by decide +kernel
theorem dX12_layApart_6 : decode cX12_layApart 6 = .ok (.aload_n 0, 1) := by decide +kernel
theorem dX12_layApart_7 : decode cX12_layApart 7 = .ok (.invokevirtual 337, 3) := by decide +kernel
theorem dX12_layApart_10 : decode cX12_layApart 10 = .ok (.lstore_n 3, 1) := by decide +kernel
theorem dX12_layApart_11 : decode cX12_layApart 11 = .ok (.iconst 0, 1) := by decide +kernel
theorem dX12_layApart_12 : decode cX12_layApart 12 = .ok (.istore 5, 2) := by decide +kernel
theorem dX12_layApart_14 : decode cX12_layApart 14 = .ok (.iload 5, 2) := by decide +kernel
theorem dX12_layApart_16 : decode cX12_layApart 16 = .ok (.aload_n 0, 1) := by decide +kernel
theorem dX12_layApart_17 : decode cX12_layApart 17 = .ok (.invokevirtual 241, 3) := by decide +kernel
theorem dX12_layApart_20 : decode cX12_layApart 20 = .ok (.if_icmp .ge 51, 3) := by decide +kernel
theorem dX12_layApart_23 : decode cX12_layApart 23 = .ok (.iload 5, 2) := by decide +kernel
theorem dX12_layApart_25 : decode cX12_layApart 25 = .ok (.iconst 1, 1) := by decide +kernel
theorem dX12_layApart_26 : decode cX12_layApart 26 = .ok (.iadd, 1) := by decide +kernel
theorem dX12_layApart_27 : decode cX12_layApart 27 = .ok (.istore 6, 2) := by decide +kernel
theorem dX12_layApart_29 : decode cX12_layApart 29 = .ok (.iload 6, 2) := by decide +kernel
theorem dX12_layApart_31 : decode cX12_layApart 31 = .ok (.aload_n 0, 1) := by decide +kernel
theorem dX12_layApart_32 : decode cX12_layApart 32 = .ok (.invokevirtual 241, 3) := by decide +kernel
theorem dX12_layApart_35 : decode cX12_layApart 35 = .ok (.if_icmp .ge 30, 3) := by decide +kernel
theorem dX12_layApart_38 : decode cX12_layApart 38 = .ok (.aload_n 0, 1) := by decide +kernel
theorem dX12_layApart_39 : decode cX12_layApart 39 = .ok (.getfield 105, 3) := by decide +kernel
theorem dX12_layApart_42 : decode cX12_layApart 42 = .ok (.bipush 12, 2) := by decide +kernel
theorem dX12_layApart_44 : decode cX12_layApart 44 = .ok (.iload 5, 2) := by decide +kernel
theorem dX12_layApart_46 : decode cX12_layApart 46 = .ok (.imul, 1) := by decide +kernel
theorem dX12_layApart_47 : decode cX12_layApart 47 = .ok (.iload 6, 2) := by decide +kernel
theorem dX12_layApart_49 : decode cX12_layApart 49 = .ok (.iadd, 1) := by decide +kernel
theorem dX12_layApart_50 : decode cX12_layApart 50 = .ok (.aload_n 0, 1) := by decide +kernel
theorem dX12_layApart_51 : decode cX12_layApart 51 = .ok (.iload 5, 2) := by decide +kernel
theorem dX12_layApart_53 : decode cX12_layApart 53 = .ok (.iload 6, 2) := by decide +kernel
theorem dX12_layApart_55 : decode cX12_layApart 55 = .ok (.invokevirtual 333, 3) := by decide +kernel
theorem dX12_layApart_58 : decode cX12_layApart 58 = .ok (.lastore, 1) := by decide +kernel
theorem dX12_layApart_59 : decode cX12_layApart 59 = .ok (.iinc 6 1, 3) := by decide +kernel
theorem dX12_layApart_62 : decode cX12_layApart 62 = .ok (.goto (-33), 3) := by decide +kernel
theorem dX12_layApart_65 : decode cX12_layApart 65 = .ok (.iinc 5 1, 3) := by decide +kernel
theorem dX12_layApart_68 : decode cX12_layApart 68 = .ok (.goto (-54), 3) := by decide +kernel
theorem dX12_layApart_71 : decode cX12_layApart 71 = .ok (.aload_n 0, 1) := by decide +kernel
theorem dX12_layApart_72 : decode cX12_layApart 72 = .ok (.iload_n 2, 1) := by decide +kernel
theorem dX12_layApart_73 : decode cX12_layApart 73 = .ok (.iconst 0, 1) := by decide +kernel
theorem dX12_layApart_74 : decode cX12_layApart 74 = .ok (.invokevirtual 307, 3) := by decide +kernel
theorem dX12_layApart_77 : decode cX12_layApart 77 = .ok (.aload_n 0, 1) := by decide +kernel
theorem dX12_layApart_78 : decode cX12_layApart 78 = .ok (.invokevirtual 337, 3) := by decide +kernel
theorem dX12_layApart_81 : decode cX12_layApart 81 = .ok (.lstore 5, 2) := by decide +kernel
theorem dX12_layApart_83 : decode cX12_layApart 83 = .ok (.aload_n 0, 1) := by decide +kernel
theorem dX12_layApart_84 : decode cX12_layApart 84 = .ok (.lload_n 3, 1) := by decide +kernel
theorem dX12_layApart_85 : decode cX12_layApart 85 = .ok (.lload 5, 2) := by decide +kernel
theorem dX12_layApart_87 : decode cX12_layApart 87 = .ok (.lmul, 1) := by decide +kernel
theorem dX12_layApart_88 : decode cX12_layApart 88 = .ok (.putfield 341, 3) := by decide +kernel
theorem dX12_layApart_91 : decode cX12_layApart 91 = .ok (.aload_n 0, 1) := by decide +kernel
theorem dX12_layApart_92 : decode cX12_layApart 92 = .ok (.lconst 0, 1) := by decide +kernel
theorem dX12_layApart_93 : decode cX12_layApart 93 = .ok (.putfield 345, 3) := by decide +kernel
theorem dX12_layApart_96 : decode cX12_layApart 96 = .ok (.aload_n 0, 1) := by decide +kernel
theorem dX12_layApart_97 : decode cX12_layApart 97 = .ok (.lconst 0, 1) := by decide +kernel
theorem dX12_layApart_98 : decode cX12_layApart 98 = .ok (.putfield 348, 3) := by decide +kernel
theorem dX12_layApart_101 : decode cX12_layApart 101 = .ok (.aload_n 0, 1) := by decide +kernel
theorem dX12_layApart_102 : decode cX12_layApart 102 = .ok (.iconst (-1), 1) := by decide +kernel
theorem dX12_layApart_103 : decode cX12_layApart 103 = .ok (.putfield 351, 3) := by decide +kernel
theorem dX12_layApart_106 : decode cX12_layApart 106 = .ok (.aload_n 0, 1) := by decide +kernel
theorem dX12_layApart_107 : decode cX12_layApart 107 = .ok (.iconst (-1), 1) := by decide +kernel
theorem dX12_layApart_108 : decode cX12_layApart 108 = .ok (.putfield 354, 3) := by decide +kernel
theorem dX12_layApart_111 : decode cX12_layApart 111 = .ok (.aload_n 0, 1) := by decide +kernel
theorem dX12_layApart_112 : decode cX12_layApart 112 = .ok (.lconst 0, 1) := by decide +kernel
theorem dX12_layApart_113 : decode cX12_layApart 113 = .ok (.putfield 357, 3) := by decide +kernel
theorem dX12_layApart_116 : decode cX12_layApart 116 = .ok (.iconst 0, 1) := by decide +kernel
theorem dX12_layApart_117 : decode cX12_layApart 117 = .ok (.istore 7, 2) := by decide +kernel
theorem dX12_layApart_119 : decode cX12_layApart 119 = .ok (.iload 7, 2) := by decide +kernel
theorem dX12_layApart_121 : decode cX12_layApart 121 = .ok (.aload_n 0, 1) := by decide +kernel
theorem dX12_layApart_122 : decode cX12_layApart 122 = .ok (.invokevirtual 241, 3) := by decide +kernel
theorem dX12_layApart_125 : decode cX12_layApart 125 = .ok (.if_icmp .ge 152, 3) := by decide +kernel
theorem dX12_layApart_128 : decode cX12_layApart 128 = .ok (.iload 7, 2) := by decide +kernel
theorem dX12_layApart_130 : decode cX12_layApart 130 = .ok (.iconst 1, 1) := by decide +kernel
theorem dX12_layApart_131 : decode cX12_layApart 131 = .ok (.iadd, 1) := by decide +kernel
theorem dX12_layApart_132 : decode cX12_layApart 132 = .ok (.istore 8, 2) := by decide +kernel
theorem dX12_layApart_134 : decode cX12_layApart 134 = .ok (.iload 8, 2) := by decide +kernel
theorem dX12_layApart_136 : decode cX12_layApart 136 = .ok (.aload_n 0, 1) := by decide +kernel
theorem dX12_layApart_137 : decode cX12_layApart 137 = .ok (.invokevirtual 241, 3) := by decide +kernel
theorem dX12_layApart_140 : decode cX12_layApart 140 = .ok (.if_icmp .ge 131, 3) := by decide +kernel
theorem dX12_layApart_143 : decode cX12_layApart 143 = .ok (.iload 7, 2) := by decide +kernel
theorem dX12_layApart_145 : decode cX12_layApart 145 = .ok (.aload_n 0, 1) := by decide +kernel
theorem dX12_layApart_146 : decode cX12_layApart 146 = .ok (.getfield 185, 3) := by decide +kernel
theorem dX12_layApart_149 : decode cX12_layApart 149 = .ok (.idiv, 1) := by decide +kernel
theorem dX12_layApart_150 : decode cX12_layApart 150 = .ok (.iload 8, 2) := by decide +kernel
theorem dX12_layApart_152 : decode cX12_layApart 152 = .ok (.aload_n 0, 1) := by decide +kernel
theorem dX12_layApart_153 : decode cX12_layApart 153 = .ok (.getfield 185, 3) := by decide +kernel
theorem dX12_layApart_156 : decode cX12_layApart 156 = .ok (.idiv, 1) := by decide +kernel
theorem dX12_layApart_157 : decode cX12_layApart 157 = .ok (.if_icmp .ne 6, 3) := by decide +kernel
theorem dX12_layApart_160 : decode cX12_layApart 160 = .ok (.goto 105, 3) := by decide +kernel
theorem dX12_layApart_163 : decode cX12_layApart 163 = .ok (.aload_n 0, 1) := by decide +kernel
theorem dX12_layApart_164 : decode cX12_layApart 164 = .ok (.getfield 105, 3) := by decide +kernel
theorem dX12_layApart_167 : decode cX12_layApart 167 = .ok (.bipush 12, 2) := by decide +kernel
theorem dX12_layApart_169 : decode cX12_layApart 169 = .ok (.iload 7, 2) := by decide +kernel
theorem dX12_layApart_171 : decode cX12_layApart 171 = .ok (.imul, 1) := by decide +kernel
theorem dX12_layApart_172 : decode cX12_layApart 172 = .ok (.iload 8, 2) := by decide +kernel
theorem dX12_layApart_174 : decode cX12_layApart 174 = .ok (.iadd, 1) := by decide +kernel
theorem dX12_layApart_175 : decode cX12_layApart 175 = .ok (.laload, 1) := by decide +kernel
theorem dX12_layApart_176 : decode cX12_layApart 176 = .ok (.lload 5, 2) := by decide +kernel
theorem dX12_layApart_178 : decode cX12_layApart 178 = .ok (.lmul, 1) := by decide +kernel
theorem dX12_layApart_179 : decode cX12_layApart 179 = .ok (.aload_n 0, 1) := by decide +kernel
theorem dX12_layApart_180 : decode cX12_layApart 180 = .ok (.iload 7, 2) := by decide +kernel
theorem dX12_layApart_182 : decode cX12_layApart 182 = .ok (.iload 8, 2) := by decide +kernel
theorem dX12_layApart_184 : decode cX12_layApart 184 = .ok (.invokevirtual 333, 3) := by decide +kernel
theorem dX12_layApart_187 : decode cX12_layApart 187 = .ok (.lload_n 3, 1) := by decide +kernel
theorem dX12_layApart_188 : decode cX12_layApart 188 = .ok (.lmul, 1) := by decide +kernel
theorem dX12_layApart_189 : decode cX12_layApart 189 = .ok (.lsub, 1) := by decide +kernel
theorem dX12_layApart_190 : decode cX12_layApart 190 = .ok (.lstore 9, 2) := by decide +kernel
theorem dX12_layApart_192 : decode cX12_layApart 192 = .ok (.lload 9, 2) := by decide +kernel
theorem dX12_layApart_194 : decode cX12_layApart 194 = .ok (.lconst 0, 1) := by decide +kernel
theorem dX12_layApart_195 : decode cX12_layApart 195 = .ok (.lcmp, 1) := by decide +kernel
theorem dX12_layApart_196 : decode cX12_layApart 196 = .ok (.ifCond .ge 9, 3) := by decide +kernel
theorem dX12_layApart_199 : decode cX12_layApart 199 = .ok (.lload 9, 2) := by decide +kernel
theorem dX12_layApart_201 : decode cX12_layApart 201 = .ok (.lneg, 1) := by decide +kernel
theorem dX12_layApart_202 : decode cX12_layApart 202 = .ok (.goto 5, 3) := by decide +kernel
theorem dX12_layApart_205 : decode cX12_layApart 205 = .ok (.lload 9, 2) := by decide +kernel
theorem dX12_layApart_207 : decode cX12_layApart 207 = .ok (.lstore 11, 2) := by decide +kernel
theorem dX12_layApart_209 : decode cX12_layApart 209 = .ok (.aload_n 0, 1) := by decide +kernel
theorem dX12_layApart_210 : decode cX12_layApart 210 = .ok (.dup, 1) := by decide +kernel
theorem dX12_layApart_211 : decode cX12_layApart 211 = .ok (.getfield 348, 3) := by decide +kernel
theorem dX12_layApart_214 : decode cX12_layApart 214 = .ok (.lload 11, 2) := by decide +kernel
theorem dX12_layApart_216 : decode cX12_layApart 216 = .ok (.ladd, 1) := by decide +kernel
theorem dX12_layApart_217 : decode cX12_layApart 217 = .ok (.putfield 348, 3) := by decide +kernel
theorem dX12_layApart_220 : decode cX12_layApart 220 = .ok (.aload_n 0, 1) := by decide +kernel
theorem dX12_layApart_221 : decode cX12_layApart 221 = .ok (.getfield 351, 3) := by decide +kernel
theorem dX12_layApart_224 : decode cX12_layApart 224 = .ok (.iconst (-1), 1) := by decide +kernel
theorem dX12_layApart_225 : decode cX12_layApart 225 = .ok (.if_icmp .eq 16, 3) := by decide +kernel
theorem dX12_layApart_228 : decode cX12_layApart 228 = .ok (.lload 11, 2) := by decide +kernel
theorem dX12_layApart_230 : decode cX12_layApart 230 = .ok (.aload_n 0, 1) := by decide +kernel
theorem dX12_layApart_231 : decode cX12_layApart 231 = .ok (.getfield 345, 3) := by decide +kernel
theorem dX12_layApart_234 : decode cX12_layApart 234 = .ok (.lcmp, 1) := by decide +kernel
theorem dX12_layApart_235 : decode cX12_layApart 235 = .ok (.ifCond .gt 6, 3) := by decide +kernel
theorem dX12_layApart_238 : decode cX12_layApart 238 = .ok (.goto 27, 3) := by decide +kernel
theorem dX12_layApart_241 : decode cX12_layApart 241 = .ok (.aload_n 0, 1) := by decide +kernel
theorem dX12_layApart_242 : decode cX12_layApart 242 = .ok (.lload 11, 2) := by decide +kernel
theorem dX12_layApart_244 : decode cX12_layApart 244 = .ok (.putfield 345, 3) := by decide +kernel
theorem dX12_layApart_247 : decode cX12_layApart 247 = .ok (.aload_n 0, 1) := by decide +kernel
theorem dX12_layApart_248 : decode cX12_layApart 248 = .ok (.lload 9, 2) := by decide +kernel
theorem dX12_layApart_250 : decode cX12_layApart 250 = .ok (.putfield 357, 3) := by decide +kernel
theorem dX12_layApart_253 : decode cX12_layApart 253 = .ok (.aload_n 0, 1) := by decide +kernel
theorem dX12_layApart_254 : decode cX12_layApart 254 = .ok (.iload 7, 2) := by decide +kernel
theorem dX12_layApart_256 : decode cX12_layApart 256 = .ok (.putfield 351, 3) := by decide +kernel
theorem dX12_layApart_259 : decode cX12_layApart 259 = .ok (.aload_n 0, 1) := by decide +kernel
theorem dX12_layApart_260 : decode cX12_layApart 260 = .ok (.iload 8, 2) := by decide +kernel
theorem dX12_layApart_262 : decode cX12_layApart 262 = .ok (.putfield 354, 3) := by decide +kernel
theorem dX12_layApart_265 : decode cX12_layApart 265 = .ok (.iinc 8 1, 3) := by decide +kernel
theorem dX12_layApart_268 : decode cX12_layApart 268 = .ok (.goto (-134), 3) := by decide +kernel
theorem dX12_layApart_271 : decode cX12_layApart 271 = .ok (.iinc 7 1, 3) := by decide +kernel
theorem dX12_layApart_274 : decode cX12_layApart 274 = .ok (.goto (-155), 3) := by decide +kernel
theorem dX12_layApart_277 : decode cX12_layApart 277 = .ok (.return_, 1) := by decide +kernel
theorem dX12_apart_0 : decode cX12_apart 0 = .ok (.aload_n 0, 1) := by decide +kernel
theorem dX12_apart_1 : decode cX12_apart 1 = .ok (.iconst 0, 1) := by decide +kernel
theorem dX12_apart_2 : decode cX12_apart 2 = .ok (.putfield 132, 3) := by decide +kernel
theorem dX12_apart_5 : decode cX12_apart 5 = .ok (.iload_n 1, 1) := by decide +kernel
theorem dX12_apart_6 : decode cX12_apart 6 = .ok (.invokestatic 324, 3) := by decide +kernel
theorem dX12_apart_9 : decode cX12_apart 9 = .ok (.ifCond .eq 31, 3) := by decide +kernel
theorem dX12_apart_12 : decode cX12_apart 12 = .ok (.iload_n 2, 1) := by decide +kernel
theorem dX12_apart_13 : decode cX12_apart 13 = .ok (.invokestatic 324, 3) := by decide +kernel
theorem dX12_apart_16 : decode cX12_apart 16 = .ok (.ifCond .eq 24, 3) := by decide +kernel
theorem dX12_apart_19 : decode cX12_apart 19 = .ok (.iload_n 1, 1) := by decide +kernel
theorem dX12_apart_20 : decode cX12_apart 20 = .ok (.iload_n 2, 1) := by decide +kernel
theorem dX12_apart_21 : decode cX12_apart 21 = .ok (.if_icmp .eq 19, 3) := by decide +kernel
theorem dX12_apart_24 : decode cX12_apart 24 = .ok (.iload_n 3, 1) := by decide +kernel
theorem dX12_apart_25 : decode cX12_apart 25 = .ok (.iconst 0, 1) := by decide +kernel
theorem dX12_apart_26 : decode cX12_apart 26 = .ok (.iconst 5, 1) := by decide +kernel
theorem dX12_apart_27 : decode cX12_apart 27 = .ok (.invokestatic 237, 3) := by decide +kernel
theorem dX12_apart_30 : decode cX12_apart 30 = .ok (.ifCond .eq 10, 3) := by decide +kernel
theorem dX12_apart_33 : decode cX12_apart 33 = .ok (.aload_n 0, 1) := by decide +kernel
theorem dX12_apart_34 : decode cX12_apart 34 = .ok (.getfield 251, 3) := by decide +kernel
theorem dX12_apart_37 : decode cX12_apart 37 = .ok (.ifCond .ne 7, 3) := by decide +kernel
theorem dX12_apart_40 : decode cX12_apart 40 = .ok (.ldc2_w 360, 3) := by decide +kernel
theorem dX12_apart_43 : decode cX12_apart 43 = .ok (.lreturn, 1) := by decide +kernel
theorem dX12_apart_44 : decode cX12_apart 44 = .ok (.aload_n 0, 1) := by decide +kernel
theorem dX12_apart_45 : decode cX12_apart 45 = .ok (.invokevirtual 304, 3) := by decide +kernel
theorem dX12_apart_48 : decode cX12_apart 48 = .ok (.aload_n 0, 1) := by decide +kernel
theorem dX12_apart_49 : decode cX12_apart 49 = .ok (.iload_n 1, 1) := by decide +kernel
theorem dX12_apart_50 : decode cX12_apart 50 = .ok (.iload_n 2, 1) := by decide +kernel
theorem dX12_apart_51 : decode cX12_apart 51 = .ok (.invokevirtual 362, 3) := by decide +kernel
theorem dX12_apart_54 : decode cX12_apart 54 = .ok (.iload_n 3, 1) := by decide +kernel
theorem dX12_apart_55 : decode cX12_apart 55 = .ok (.ifCond .ne 10, 3) := by decide +kernel
theorem dX12_apart_58 : decode cX12_apart 58 = .ok (.aload_n 0, 1) := by decide +kernel
theorem dX12_apart_59 : decode cX12_apart 59 = .ok (.getfield 345, 3) := by decide +kernel
theorem dX12_apart_62 : decode cX12_apart 62 = .ok (.goto 57, 3) := by decide +kernel
theorem dX12_apart_65 : decode cX12_apart 65 = .ok (.iload_n 3, 1) := by decide +kernel
theorem dX12_apart_66 : decode cX12_apart 66 = .ok (.iconst 1, 1) := by decide +kernel
theorem dX12_apart_67 : decode cX12_apart 67 = .ok (.if_icmp .ne 10, 3) := by decide +kernel
theorem dX12_apart_70 : decode cX12_apart 70 = .ok (.aload_n 0, 1) := by decide +kernel
theorem dX12_apart_71 : decode cX12_apart 71 = .ok (.getfield 348, 3) := by decide +kernel
theorem dX12_apart_74 : decode cX12_apart 74 = .ok (.goto 45, 3) := by decide +kernel
theorem dX12_apart_77 : decode cX12_apart 77 = .ok (.iload_n 3, 1) := by decide +kernel
theorem dX12_apart_78 : decode cX12_apart 78 = .ok (.iconst 2, 1) := by decide +kernel
theorem dX12_apart_79 : decode cX12_apart 79 = .ok (.if_icmp .ne 11, 3) := by decide +kernel
theorem dX12_apart_82 : decode cX12_apart 82 = .ok (.aload_n 0, 1) := by decide +kernel
theorem dX12_apart_83 : decode cX12_apart 83 = .ok (.getfield 351, 3) := by decide +kernel
theorem dX12_apart_86 : decode cX12_apart 86 = .ok (.i2l, 1) := by decide +kernel
theorem dX12_apart_87 : decode cX12_apart 87 = .ok (.goto 32, 3) := by decide +kernel
theorem dX12_apart_90 : decode cX12_apart 90 = .ok (.iload_n 3, 1) := by decide +kernel
theorem dX12_apart_91 : decode cX12_apart 91 = .ok (.iconst 3, 1) := by decide +kernel
theorem dX12_apart_92 : decode cX12_apart 92 = .ok (.if_icmp .ne 11, 3) := by decide +kernel
theorem dX12_apart_95 : decode cX12_apart 95 = .ok (.aload_n 0, 1) := by decide +kernel
theorem dX12_apart_96 : decode cX12_apart 96 = .ok (.getfield 354, 3) := by decide +kernel
theorem dX12_apart_99 : decode cX12_apart 99 = .ok (.i2l, 1) := by decide +kernel
theorem dX12_apart_100 : decode cX12_apart 100 = .ok (.goto 19, 3) := by decide +kernel
theorem dX12_apart_103 : decode cX12_apart 103 = .ok (.iload_n 3, 1) := by decide +kernel
theorem dX12_apart_104 : decode cX12_apart 104 = .ok (.iconst 4, 1) := by decide +kernel
theorem dX12_apart_105 : decode cX12_apart 105 = .ok (.if_icmp .ne 10, 3) := by decide +kernel
theorem dX12_apart_108 : decode cX12_apart 108 = .ok (.aload_n 0, 1) := by decide +kernel
theorem dX12_apart_109 : decode cX12_apart 109 = .ok (.getfield 357, 3) := by decide +kernel
theorem dX12_apart_112 : decode cX12_apart 112 = .ok (.goto 7, 3) := by decide +kernel
theorem dX12_apart_115 : decode cX12_apart 115 = .ok (.aload_n 0, 1) := by decide +kernel
theorem dX12_apart_116 : decode cX12_apart 116 = .ok (.getfield 341, 3) := by decide +kernel
theorem dX12_apart_119 : decode cX12_apart 119 = .ok (.lreturn, 1) := by decide +kernel
theorem dX12_nearest_0 : decode cX12_nearest 0 = .ok (.aload_n 0, 1) := by decide +kernel
theorem dX12_nearest_1 : decode cX12_nearest 1 = .ok (.iconst 0, 1) := by decide +kernel
theorem dX12_nearest_2 : decode cX12_nearest 2 = .ok (.putfield 132, 3) := by decide +kernel
theorem dX12_nearest_5 : decode cX12_nearest 5 = .ok (.iload_n 1, 1) := by decide +kernel
theorem dX12_nearest_6 : decode cX12_nearest 6 = .ok (.iconst 0, 1) := by decide +kernel
theorem dX12_nearest_7 : decode cX12_nearest 7 = .ok (.iconst 1, 1) := by decide +kernel
theorem dX12_nearest_8 : decode cX12_nearest 8 = .ok (.invokestatic 237, 3) := by decide +kernel
theorem dX12_nearest_11 : decode cX12_nearest 11 = .ok (.ifCond .ne 5, 3) := by decide +kernel
theorem dX12_nearest_14 : decode cX12_nearest 14 = .ok (.iconst (-1), 1) := by decide +kernel
theorem dX12_nearest_15 : decode cX12_nearest 15 = .ok (.ireturn, 1) := by decide +kernel
theorem dX12_nearest_16 : decode cX12_nearest 16 = .ok (.aload_n 0, 1) := by decide +kernel
theorem dX12_nearest_17 : decode cX12_nearest 17 = .ok (.getfield 251, 3) := by decide +kernel
theorem dX12_nearest_20 : decode cX12_nearest 20 = .ok (.ifCond .ne 6, 3) := by decide +kernel
theorem dX12_nearest_23 : decode cX12_nearest 23 = .ok (.bipush (-2), 2) := by decide +kernel
theorem dX12_nearest_25 : decode cX12_nearest 25 = .ok (.ireturn, 1) := by decide +kernel
theorem dX12_nearest_26 : decode cX12_nearest 26 = .ok (.aload_n 0, 1) := by decide +kernel
theorem dX12_nearest_27 : decode cX12_nearest 27 = .ok (.invokevirtual 304, 3) := by decide +kernel
theorem dX12_nearest_30 : decode cX12_nearest 30 = .ok (.iload_n 1, 1) := by decide +kernel
theorem dX12_nearest_31 : decode cX12_nearest 31 = .ok (.ifCond .ne 10, 3) := by decide +kernel
theorem dX12_nearest_34 : decode cX12_nearest 34 = .ok (.aload_n 0, 1) := by decide +kernel
theorem dX12_nearest_35 : decode cX12_nearest 35 = .ok (.getfield 188, 3) := by decide +kernel
theorem dX12_nearest_38 : decode cX12_nearest 38 = .ok (.goto 7, 3) := by decide +kernel
theorem dX12_nearest_41 : decode cX12_nearest 41 = .ok (.aload_n 0, 1) := by decide +kernel
theorem dX12_nearest_42 : decode cX12_nearest 42 = .ok (.getfield 185, 3) := by decide +kernel
theorem dX12_nearest_45 : decode cX12_nearest 45 = .ok (.istore_n 2, 1) := by decide +kernel
theorem dX12_nearest_46 : decode cX12_nearest 46 = .ok (.iconst (-1), 1) := by decide +kernel
theorem dX12_nearest_47 : decode cX12_nearest 47 = .ok (.istore_n 3, 1) := by decide +kernel
theorem dX12_nearest_48 : decode cX12_nearest 48 = .ok (.lconst 0, 1) := by decide +kernel
theorem dX12_nearest_49 : decode cX12_nearest 49 = .ok (.lstore 4, 2) := by decide +kernel
theorem dX12_nearest_51 : decode cX12_nearest 51 = .ok (.iconst 0, 1) := by decide +kernel
theorem dX12_nearest_52 : decode cX12_nearest 52 = .ok (.istore 6, 2) := by decide +kernel
theorem dX12_nearest_54 : decode cX12_nearest 54 = .ok (.iload 6, 2) := by decide +kernel
theorem dX12_nearest_56 : decode cX12_nearest 56 = .ok (.iconst 1, 1) := by decide +kernel
theorem dX12_nearest_57 : decode cX12_nearest 57 = .ok (.iconst 2, 1) := by decide +kernel
theorem dX12_nearest_58 : decode cX12_nearest 58 = .ok (.iload_n 2, 1) := by decide +kernel
theorem dX12_nearest_59 : decode cX12_nearest 59 = .ok (.imul, 1) := by decide +kernel
theorem dX12_nearest_60 : decode cX12_nearest 60 = .ok (.ishl, 1) := by decide +kernel
theorem dX12_nearest_61 : decode cX12_nearest 61 = .ok (.if_icmp .ge 149, 3) := by decide +kernel
theorem dX12_nearest_64 : decode cX12_nearest 64 = .ok (.iconst 0, 1) := by decide +kernel
theorem dX12_nearest_65 : decode cX12_nearest 65 = .ok (.istore 7, 2) := by decide +kernel
theorem dX12_nearest_67 : decode cX12_nearest 67 = .ok (.iconst 0, 1) := by decide +kernel
theorem dX12_nearest_68 : decode cX12_nearest 68 = .ok (.istore 8, 2) := by decide +kernel
theorem dX12_nearest_70 : decode cX12_nearest 70 = .ok (.iload 8, 2) := by decide +kernel
theorem dX12_nearest_72 : decode cX12_nearest 72 = .ok (.iload_n 2, 1) := by decide +kernel
theorem dX12_nearest_73 : decode cX12_nearest 73 = .ok (.if_icmp .ge 32, 3) := by decide +kernel
theorem dX12_nearest_76 : decode cX12_nearest 76 = .ok (.iload 7, 2) := by decide +kernel
theorem dX12_nearest_78 : decode cX12_nearest 78 = .ok (.iload 6, 2) := by decide +kernel
theorem dX12_nearest_80 : decode cX12_nearest 80 = .ok (.iconst 2, 1) := by decide +kernel
theorem dX12_nearest_81 : decode cX12_nearest 81 = .ok (.iload_n 2, 1) := by decide +kernel
theorem dX12_nearest_82 : decode cX12_nearest 82 = .ok (.iconst 1, 1) := by decide +kernel
theorem dX12_nearest_83 : decode cX12_nearest 83 = .ok (.isub, 1) := by decide +kernel
theorem dX12_nearest_84 : decode cX12_nearest 84 = .ok (.iload 8, 2) := by decide +kernel
theorem dX12_nearest_86 : decode cX12_nearest 86 = .ok (.isub, 1) := by decide +kernel
theorem dX12_nearest_87 : decode cX12_nearest 87 = .ok (.imul, 1) := by decide +kernel
theorem dX12_nearest_88 : decode cX12_nearest 88 = .ok (.ishr, 1) := by decide +kernel
theorem dX12_nearest_89 : decode cX12_nearest 89 = .ok (.iconst 3, 1) := by decide +kernel
theorem dX12_nearest_90 : decode cX12_nearest 90 = .ok (.iand, 1) := by decide +kernel
theorem dX12_nearest_91 : decode cX12_nearest 91 = .ok (.iconst 2, 1) := by decide +kernel
theorem dX12_nearest_92 : decode cX12_nearest 92 = .ok (.iload 8, 2) := by decide +kernel
theorem dX12_nearest_94 : decode cX12_nearest 94 = .ok (.imul, 1) := by decide +kernel
theorem dX12_nearest_95 : decode cX12_nearest 95 = .ok (.ishl, 1) := by decide +kernel
theorem dX12_nearest_96 : decode cX12_nearest 96 = .ok (.ior, 1) := by decide +kernel
theorem dX12_nearest_97 : decode cX12_nearest 97 = .ok (.istore 7, 2) := by decide +kernel
theorem dX12_nearest_99 : decode cX12_nearest 99 = .ok (.iinc 8 1, 3) := by decide +kernel
theorem dX12_nearest_102 : decode cX12_nearest 102 = .ok (.goto (-32), 3) := by decide +kernel
theorem dX12_nearest_105 : decode cX12_nearest 105 = .ok (.iload 7, 2) := by decide +kernel
theorem dX12_nearest_107 : decode cX12_nearest 107 = .ok (.iload_n 2, 1) := by decide +kernel
theorem dX12_nearest_108 : decode cX12_nearest 108 = .ok (.invokestatic 272, 3) := by decide +kernel
theorem dX12_nearest_111 : decode cX12_nearest 111 = .ok (.ifCond .ne 6, 3) := by decide +kernel
theorem dX12_nearest_114 : decode cX12_nearest 114 = .ok (.goto 90, 3) := by decide +kernel
theorem dX12_nearest_117 : decode cX12_nearest 117 = .ok (.iconst 0, 1) := by decide +kernel
theorem dX12_nearest_118 : decode cX12_nearest 118 = .ok (.istore 8, 2) := by decide +kernel
theorem dX12_nearest_120 : decode cX12_nearest 120 = .ok (.iload 8, 2) := by decide +kernel
theorem dX12_nearest_122 : decode cX12_nearest 122 = .ok (.iload_n 2, 1) := by decide +kernel
theorem dX12_nearest_123 : decode cX12_nearest 123 = .ok (.if_icmp .ge 48, 3) := by decide +kernel
theorem dX12_nearest_126 : decode cX12_nearest 126 = .ok (.iload_n 1, 1) := by decide +kernel
theorem dX12_nearest_127 : decode cX12_nearest 127 = .ok (.ifCond .ne 22, 3) := by decide +kernel
theorem dX12_nearest_130 : decode cX12_nearest 130 = .ok (.aload_n 0, 1) := by decide +kernel
theorem dX12_nearest_131 : decode cX12_nearest 131 = .ok (.getfield 71, 3) := by decide +kernel
theorem dX12_nearest_134 : decode cX12_nearest 134 = .ok (.iload 8, 2) := by decide +kernel
theorem dX12_nearest_136 : decode cX12_nearest 136 = .ok (.iload 7, 2) := by decide +kernel
theorem dX12_nearest_138 : decode cX12_nearest 138 = .ok (.iconst 2, 1) := by decide +kernel
theorem dX12_nearest_139 : decode cX12_nearest 139 = .ok (.iload 8, 2) := by decide +kernel
theorem dX12_nearest_141 : decode cX12_nearest 141 = .ok (.imul, 1) := by decide +kernel
theorem dX12_nearest_142 : decode cX12_nearest 142 = .ok (.ishr, 1) := by decide +kernel
theorem dX12_nearest_143 : decode cX12_nearest 143 = .ok (.iconst 3, 1) := by decide +kernel
theorem dX12_nearest_144 : decode cX12_nearest 144 = .ok (.iand, 1) := by decide +kernel
theorem dX12_nearest_145 : decode cX12_nearest 145 = .ok (.iastore, 1) := by decide +kernel
theorem dX12_nearest_146 : decode cX12_nearest 146 = .ok (.goto 19, 3) := by decide +kernel
theorem dX12_nearest_149 : decode cX12_nearest 149 = .ok (.aload_n 0, 1) := by decide +kernel
theorem dX12_nearest_150 : decode cX12_nearest 150 = .ok (.getfield 74, 3) := by decide +kernel
theorem dX12_nearest_153 : decode cX12_nearest 153 = .ok (.iload 8, 2) := by decide +kernel
theorem dX12_nearest_155 : decode cX12_nearest 155 = .ok (.iload 7, 2) := by decide +kernel
theorem dX12_nearest_157 : decode cX12_nearest 157 = .ok (.iconst 2, 1) := by decide +kernel
theorem dX12_nearest_158 : decode cX12_nearest 158 = .ok (.iload 8, 2) := by decide +kernel
theorem dX12_nearest_160 : decode cX12_nearest 160 = .ok (.imul, 1) := by decide +kernel
theorem dX12_nearest_161 : decode cX12_nearest 161 = .ok (.ishr, 1) := by decide +kernel
theorem dX12_nearest_162 : decode cX12_nearest 162 = .ok (.iconst 3, 1) := by decide +kernel
theorem dX12_nearest_163 : decode cX12_nearest 163 = .ok (.iand, 1) := by decide +kernel
theorem dX12_nearest_164 : decode cX12_nearest 164 = .ok (.iastore, 1) := by decide +kernel
theorem dX12_nearest_165 : decode cX12_nearest 165 = .ok (.iinc 8 1, 3) := by decide +kernel
theorem dX12_nearest_168 : decode cX12_nearest 168 = .ok (.goto (-48), 3) := by decide +kernel
theorem dX12_nearest_171 : decode cX12_nearest 171 = .ok (.aload_n 0, 1) := by decide +kernel
theorem dX12_nearest_172 : decode cX12_nearest 172 = .ok (.iconst 0, 1) := by decide +kernel
theorem dX12_nearest_173 : decode cX12_nearest 173 = .ok (.iconst 1, 1) := by decide +kernel
theorem dX12_nearest_174 : decode cX12_nearest 174 = .ok (.invokevirtual 362, 3) := by decide +kernel
theorem dX12_nearest_177 : decode cX12_nearest 177 = .ok (.iload_n 3, 1) := by decide +kernel
theorem dX12_nearest_178 : decode cX12_nearest 178 = .ok (.iconst (-1), 1) := by decide +kernel
theorem dX12_nearest_179 : decode cX12_nearest 179 = .ok (.if_icmp .eq 16, 3) := by decide +kernel
theorem dX12_nearest_182 : decode cX12_nearest 182 = .ok (.aload_n 0, 1) := by decide +kernel
theorem dX12_nearest_183 : decode cX12_nearest 183 = .ok (.getfield 345, 3) := by decide +kernel
theorem dX12_nearest_186 : decode cX12_nearest 186 = .ok (.lload 4, 2) := by decide +kernel
theorem dX12_nearest_188 : decode cX12_nearest 188 = .ok (.lcmp, 1) := by decide +kernel
theorem dX12_nearest_189 : decode cX12_nearest 189 = .ok (.ifCond .lt 6, 3) := by decide +kernel
theorem dX12_nearest_192 : decode cX12_nearest 192 = .ok (.goto 12, 3) := by decide +kernel
theorem dX12_nearest_195 : decode cX12_nearest 195 = .ok (.iload 7, 2) := by decide +kernel
theorem dX12_nearest_197 : decode cX12_nearest 197 = .ok (.istore_n 3, 1) := by decide +kernel
theorem dX12_nearest_198 : decode cX12_nearest 198 = .ok (.aload_n 0, 1) := by decide +kernel
theorem dX12_nearest_199 : decode cX12_nearest 199 = .ok (.getfield 345, 3) := by decide +kernel
theorem dX12_nearest_202 : decode cX12_nearest 202 = .ok (.lstore 4, 2) := by decide +kernel
theorem dX12_nearest_204 : decode cX12_nearest 204 = .ok (.iinc 6 1, 3) := by decide +kernel
theorem dX12_nearest_207 : decode cX12_nearest 207 = .ok (.goto (-153), 3) := by decide +kernel
theorem dX12_nearest_210 : decode cX12_nearest 210 = .ok (.iload_n 3, 1) := by decide +kernel
theorem dX12_nearest_211 : decode cX12_nearest 211 = .ok (.ireturn, 1) := by decide +kernel
theorem dX12_put_0 : decode cX12_put 0 = .ok (.aload_n 0, 1) := by decide +kernel
theorem dX12_put_1 : decode cX12_put 1 = .ok (.getfield 288, 3) := by decide +kernel
theorem dX12_put_4 : decode cX12_put 4 = .ok (.iconst 1, 1) := by decide +kernel
theorem dX12_put_5 : decode cX12_put 5 = .ok (.isub, 1) := by decide +kernel
theorem dX12_put_6 : decode cX12_put 6 = .ok (.istore 4, 2) := by decide +kernel
theorem dX12_put_8 : decode cX12_put 8 = .ok (.iconst 0, 1) := by decide +kernel
theorem dX12_put_9 : decode cX12_put 9 = .ok (.istore 5, 2) := by decide +kernel
theorem dX12_put_11 : decode cX12_put 11 = .ok (.iload 5, 2) := by decide +kernel
theorem dX12_put_13 : decode cX12_put 13 = .ok (.aload_n 0, 1) := by decide +kernel
theorem dX12_put_14 : decode cX12_put 14 = .ok (.getfield 185, 3) := by decide +kernel
theorem dX12_put_17 : decode cX12_put 17 = .ok (.if_icmp .ge 41, 3) := by decide +kernel
theorem dX12_put_20 : decode cX12_put 20 = .ok (.aload_n 0, 1) := by decide +kernel
theorem dX12_put_21 : decode cX12_put 21 = .ok (.iload 4, 2) := by decide +kernel
theorem dX12_put_23 : decode cX12_put 23 = .ok (.aload_n 0, 1) := by decide +kernel
theorem dX12_put_24 : decode cX12_put 24 = .ok (.getfield 44, 3) := by decide +kernel
theorem dX12_put_27 : decode cX12_put 27 = .ok (.iconst 4, 1) := by decide +kernel
theorem dX12_put_28 : decode cX12_put 28 = .ok (.iload_n 3, 1) := by decide +kernel
theorem dX12_put_29 : decode cX12_put 29 = .ok (.imul, 1) := by decide +kernel
theorem dX12_put_30 : decode cX12_put 30 = .ok (.iload 5, 2) := by decide +kernel
theorem dX12_put_32 : decode cX12_put 32 = .ok (.iadd, 1) := by decide +kernel
theorem dX12_put_33 : decode cX12_put 33 = .ok (.iaload, 1) := by decide +kernel
theorem dX12_put_34 : decode cX12_put 34 = .ok (.aload_n 0, 1) := by decide +kernel
theorem dX12_put_35 : decode cX12_put 35 = .ok (.getfield 80, 3) := by decide +kernel
theorem dX12_put_38 : decode cX12_put 38 = .ok (.aload_n 0, 1) := by decide +kernel
theorem dX12_put_39 : decode cX12_put 39 = .ok (.getfield 77, 3) := by decide +kernel
theorem dX12_put_42 : decode cX12_put 42 = .ok (.iload_n 1, 1) := by decide +kernel
theorem dX12_put_43 : decode cX12_put 43 = .ok (.iaload, 1) := by decide +kernel
theorem dX12_put_44 : decode cX12_put 44 = .ok (.iload_n 2, 1) := by decide +kernel
theorem dX12_put_45 : decode cX12_put 45 = .ok (.iadd, 1) := by decide +kernel
theorem dX12_put_46 : decode cX12_put 46 = .ok (.iaload, 1) := by decide +kernel
theorem dX12_put_47 : decode cX12_put 47 = .ok (.invokevirtual 366, 3) := by decide +kernel
theorem dX12_put_50 : decode cX12_put 50 = .ok (.istore 4, 2) := by decide +kernel
theorem dX12_put_52 : decode cX12_put 52 = .ok (.iinc 5 1, 3) := by decide +kernel
theorem dX12_put_55 : decode cX12_put 55 = .ok (.goto (-44), 3) := by decide +kernel
theorem dX12_put_58 : decode cX12_put 58 = .ok (.aload_n 0, 1) := by decide +kernel
theorem dX12_put_59 : decode cX12_put 59 = .ok (.iload 4, 2) := by decide +kernel
theorem dX12_put_61 : decode cX12_put 61 = .ok (.invokevirtual 317, 3) := by decide +kernel
theorem dX12_put_64 : decode cX12_put 64 = .ok (.ireturn, 1) := by decide +kernel
theorem dX12_putOne_0 : decode cX12_putOne 0 = .ok (.aload_n 0, 1) := by decide +kernel
theorem dX12_putOne_1 : decode cX12_putOne 1 = .ok (.iload_n 1, 1) := by decide +kernel
theorem dX12_putOne_2 : decode cX12_putOne 2 = .ok (.iload_n 3, 1) := by decide +kernel
theorem dX12_putOne_3 : decode cX12_putOne 3 = .ok (.invokevirtual 294, 3) := by decide +kernel
theorem dX12_putOne_6 : decode cX12_putOne 6 = .ok (.istore 4, 2) := by decide +kernel
theorem dX12_putOne_8 : decode cX12_putOne 8 = .ok (.iconst 0, 1) := by decide +kernel
theorem dX12_putOne_9 : decode cX12_putOne 9 = .ok (.istore 5, 2) := by decide +kernel
theorem dX12_putOne_11 : decode cX12_putOne 11 = .ok (.iload 4, 2) := by decide +kernel
theorem dX12_putOne_13 : decode cX12_putOne 13 = .ok (.aload_n 0, 1) := by decide +kernel
theorem dX12_putOne_14 : decode cX12_putOne 14 = .ok (.getfield 90, 3) := by decide +kernel
theorem dX12_putOne_17 : decode cX12_putOne 17 = .ok (.iconst 4, 1) := by decide +kernel
theorem dX12_putOne_18 : decode cX12_putOne 18 = .ok (.iload_n 2, 1) := by decide +kernel
theorem dX12_putOne_19 : decode cX12_putOne 19 = .ok (.imul, 1) := by decide +kernel
theorem dX12_putOne_20 : decode cX12_putOne 20 = .ok (.aload_n 0, 1) := by decide +kernel
theorem dX12_putOne_21 : decode cX12_putOne 21 = .ok (.getfield 74, 3) := by decide +kernel
theorem dX12_putOne_24 : decode cX12_putOne 24 = .ok (.iload 5, 2) := by decide +kernel
theorem dX12_putOne_26 : decode cX12_putOne 26 = .ok (.iaload, 1) := by decide +kernel
theorem dX12_putOne_27 : decode cX12_putOne 27 = .ok (.iadd, 1) := by decide +kernel
theorem dX12_putOne_28 : decode cX12_putOne 28 = .ok (.iaload, 1) := by decide +kernel
theorem dX12_putOne_29 : decode cX12_putOne 29 = .ok (.iand, 1) := by decide +kernel
theorem dX12_putOne_30 : decode cX12_putOne 30 = .ok (.ifCond .ne 9, 3) := by decide +kernel
theorem dX12_putOne_33 : decode cX12_putOne 33 = .ok (.iinc 5 1, 3) := by decide +kernel
theorem dX12_putOne_36 : decode cX12_putOne 36 = .ok (.goto (-25), 3) := by decide +kernel
theorem dX12_putOne_39 : decode cX12_putOne 39 = .ok (.iload_n 1, 1) := by decide +kernel
theorem dX12_putOne_40 : decode cX12_putOne 40 = .ok (.aload_n 0, 1) := by decide +kernel
theorem dX12_putOne_41 : decode cX12_putOne 41 = .ok (.getfield 185, 3) := by decide +kernel
theorem dX12_putOne_44 : decode cX12_putOne 44 = .ok (.aload_n 0, 1) := by decide +kernel
theorem dX12_putOne_45 : decode cX12_putOne 45 = .ok (.getfield 74, 3) := by decide +kernel
theorem dX12_putOne_48 : decode cX12_putOne 48 = .ok (.iload 5, 2) := by decide +kernel
theorem dX12_putOne_50 : decode cX12_putOne 50 = .ok (.iaload, 1) := by decide +kernel
theorem dX12_putOne_51 : decode cX12_putOne 51 = .ok (.isub, 1) := by decide +kernel
theorem dX12_putOne_52 : decode cX12_putOne 52 = .ok (.aload_n 0, 1) := by decide +kernel
theorem dX12_putOne_53 : decode cX12_putOne 53 = .ok (.getfield 93, 3) := by decide +kernel
theorem dX12_putOne_56 : decode cX12_putOne 56 = .ok (.iload_n 2, 1) := by decide +kernel
theorem dX12_putOne_57 : decode cX12_putOne 57 = .ok (.iaload, 1) := by decide +kernel
theorem dX12_putOne_58 : decode cX12_putOne 58 = .ok (.imul, 1) := by decide +kernel
theorem dX12_putOne_59 : decode cX12_putOne 59 = .ok (.isub, 1) := by decide +kernel
theorem dX12_putOne_60 : decode cX12_putOne 60 = .ok (.ireturn, 1) := by decide +kernel
theorem dX12_leads_0 : decode cX12_leads 0 = .ok (.aload_n 0, 1) := by decide +kernel
theorem dX12_leads_1 : decode cX12_leads 1 = .ok (.iconst 0, 1) := by decide +kernel
theorem dX12_leads_2 : decode cX12_leads 2 = .ok (.putfield 132, 3) := by decide +kernel
theorem dX12_leads_5 : decode cX12_leads 5 = .ok (.iload_n 1, 1) := by decide +kernel
theorem dX12_leads_6 : decode cX12_leads 6 = .ok (.ifCond .lt 18, 3) := by decide +kernel
theorem dX12_leads_9 : decode cX12_leads 9 = .ok (.iload_n 1, 1) := by decide +kernel
theorem dX12_leads_10 : decode cX12_leads 10 = .ok (.aload_n 0, 1) := by decide +kernel
theorem dX12_leads_11 : decode cX12_leads 11 = .ok (.getfield 248, 3) := by decide +kernel
theorem dX12_leads_14 : decode cX12_leads 14 = .ok (.if_icmp .ge 10, 3) := by decide +kernel
theorem dX12_leads_17 : decode cX12_leads 17 = .ok (.aload_n 0, 1) := by decide +kernel
theorem dX12_leads_18 : decode cX12_leads 18 = .ok (.getfield 251, 3) := by decide +kernel
theorem dX12_leads_21 : decode cX12_leads 21 = .ok (.ifCond .ne 5, 3) := by decide +kernel
theorem dX12_leads_24 : decode cX12_leads 24 = .ok (.iconst (-1), 1) := by decide +kernel
theorem dX12_leads_25 : decode cX12_leads 25 = .ok (.ireturn, 1) := by decide +kernel
theorem dX12_leads_26 : decode cX12_leads 26 = .ok (.aload_n 0, 1) := by decide +kernel
theorem dX12_leads_27 : decode cX12_leads 27 = .ok (.invokevirtual 304, 3) := by decide +kernel
theorem dX12_leads_30 : decode cX12_leads 30 = .ok (.aload_n 0, 1) := by decide +kernel
theorem dX12_leads_31 : decode cX12_leads 31 = .ok (.invokevirtual 311, 3) := by decide +kernel
theorem dX12_leads_34 : decode cX12_leads 34 = .ok (.iconst 0, 1) := by decide +kernel
theorem dX12_leads_35 : decode cX12_leads 35 = .ok (.istore_n 2, 1) := by decide +kernel
theorem dX12_leads_36 : decode cX12_leads 36 = .ok (.iconst 0, 1) := by decide +kernel
theorem dX12_leads_37 : decode cX12_leads 37 = .ok (.istore_n 3, 1) := by decide +kernel
theorem dX12_leads_38 : decode cX12_leads 38 = .ok (.iload_n 3, 1) := by decide +kernel
theorem dX12_leads_39 : decode cX12_leads 39 = .ok (.aload_n 0, 1) := by decide +kernel
theorem dX12_leads_40 : decode cX12_leads 40 = .ok (.getfield 188, 3) := by decide +kernel
theorem dX12_leads_43 : decode cX12_leads 43 = .ok (.if_icmp .ge 62, 3) := by decide +kernel
theorem dX12_leads_46 : decode cX12_leads 46 = .ok (.iload_n 1, 1) := by decide +kernel
theorem dX12_leads_47 : decode cX12_leads 47 = .ok (.istore 4, 2) := by decide +kernel
theorem dX12_leads_49 : decode cX12_leads 49 = .ok (.aload_n 0, 1) := by decide +kernel
theorem dX12_leads_50 : decode cX12_leads 50 = .ok (.getfield 188, 3) := by decide +kernel
theorem dX12_leads_53 : decode cX12_leads 53 = .ok (.iconst 1, 1) := by decide +kernel
theorem dX12_leads_54 : decode cX12_leads 54 = .ok (.isub, 1) := by decide +kernel
theorem dX12_leads_55 : decode cX12_leads 55 = .ok (.istore 5, 2) := by decide +kernel
theorem dX12_leads_57 : decode cX12_leads 57 = .ok (.iload 5, 2) := by decide +kernel
theorem dX12_leads_59 : decode cX12_leads 59 = .ok (.iload_n 3, 1) := by decide +kernel
theorem dX12_leads_60 : decode cX12_leads 60 = .ok (.if_icmp .le 18, 3) := by decide +kernel
theorem dX12_leads_63 : decode cX12_leads 63 = .ok (.iload 4, 2) := by decide +kernel
theorem dX12_leads_65 : decode cX12_leads 65 = .ok (.aload_n 0, 1) := by decide +kernel
theorem dX12_leads_66 : decode cX12_leads 66 = .ok (.getfield 245, 3) := by decide +kernel
theorem dX12_leads_69 : decode cX12_leads 69 = .ok (.idiv, 1) := by decide +kernel
theorem dX12_leads_70 : decode cX12_leads 70 = .ok (.istore 4, 2) := by decide +kernel
theorem dX12_leads_72 : decode cX12_leads 72 = .ok (.iinc 5 (-1), 3) := by decide +kernel
theorem dX12_leads_75 : decode cX12_leads 75 = .ok (.goto (-18), 3) := by decide +kernel
theorem dX12_leads_78 : decode cX12_leads 78 = .ok (.iload_n 2, 1) := by decide +kernel
theorem dX12_leads_79 : decode cX12_leads 79 = .ok (.aload_n 0, 1) := by decide +kernel
theorem dX12_leads_80 : decode cX12_leads 80 = .ok (.getfield 245, 3) := by decide +kernel
theorem dX12_leads_83 : decode cX12_leads 83 = .ok (.imul, 1) := by decide +kernel
theorem dX12_leads_84 : decode cX12_leads 84 = .ok (.aload_n 0, 1) := by decide +kernel
theorem dX12_leads_85 : decode cX12_leads 85 = .ok (.iload_n 3, 1) := by decide +kernel
theorem dX12_leads_86 : decode cX12_leads 86 = .ok (.iload_n 2, 1) := by decide +kernel
theorem dX12_leads_87 : decode cX12_leads 87 = .ok (.iload 4, 2) := by decide +kernel
theorem dX12_leads_89 : decode cX12_leads 89 = .ok (.aload_n 0, 1) := by decide +kernel
theorem dX12_leads_90 : decode cX12_leads 90 = .ok (.getfield 245, 3) := by decide +kernel
theorem dX12_leads_93 : decode cX12_leads 93 = .ok (.irem, 1) := by decide +kernel
theorem dX12_leads_94 : decode cX12_leads 94 = .ok (.invokevirtual 369, 3) := by decide +kernel
theorem dX12_leads_97 : decode cX12_leads 97 = .ok (.iadd, 1) := by decide +kernel
theorem dX12_leads_98 : decode cX12_leads 98 = .ok (.istore_n 2, 1) := by decide +kernel
theorem dX12_leads_99 : decode cX12_leads 99 = .ok (.iinc 3 1, 3) := by decide +kernel
theorem dX12_leads_102 : decode cX12_leads 102 = .ok (.goto (-64), 3) := by decide +kernel
theorem dX12_leads_105 : decode cX12_leads 105 = .ok (.iconst 0, 1) := by decide +kernel
theorem dX12_leads_106 : decode cX12_leads 106 = .ok (.istore_n 3, 1) := by decide +kernel
theorem dX12_leads_107 : decode cX12_leads 107 = .ok (.iload_n 3, 1) := by decide +kernel
theorem dX12_leads_108 : decode cX12_leads 108 = .ok (.aload_n 0, 1) := by decide +kernel
theorem dX12_leads_109 : decode cX12_leads 109 = .ok (.getfield 248, 3) := by decide +kernel
theorem dX12_leads_112 : decode cX12_leads 112 = .ok (.if_icmp .ge 30, 3) := by decide +kernel
theorem dX12_leads_115 : decode cX12_leads 115 = .ok (.aload_n 0, 1) := by decide +kernel
theorem dX12_leads_116 : decode cX12_leads 116 = .ok (.getfield 47, 3) := by decide +kernel
theorem dX12_leads_119 : decode cX12_leads 119 = .ok (.iload_n 3, 1) := by decide +kernel
theorem dX12_leads_120 : decode cX12_leads 120 = .ok (.iaload, 1) := by decide +kernel
theorem dX12_leads_121 : decode cX12_leads 121 = .ok (.ifCond .ne 15, 3) := by decide +kernel
theorem dX12_leads_124 : decode cX12_leads 124 = .ok (.aload_n 0, 1) := by decide +kernel
theorem dX12_leads_125 : decode cX12_leads 125 = .ok (.getfield 87, 3) := by decide +kernel
theorem dX12_leads_128 : decode cX12_leads 128 = .ok (.iload_n 3, 1) := by decide +kernel
theorem dX12_leads_129 : decode cX12_leads 129 = .ok (.iaload, 1) := by decide +kernel
theorem dX12_leads_130 : decode cX12_leads 130 = .ok (.iload_n 2, 1) := by decide +kernel
theorem dX12_leads_131 : decode cX12_leads 131 = .ok (.if_icmp .ne 5, 3) := by decide +kernel
theorem dX12_leads_134 : decode cX12_leads 134 = .ok (.iload_n 3, 1) := by decide +kernel
theorem dX12_leads_135 : decode cX12_leads 135 = .ok (.ireturn, 1) := by decide +kernel
theorem dX12_leads_136 : decode cX12_leads 136 = .ok (.iinc 3 1, 3) := by decide +kernel
theorem dX12_leads_139 : decode cX12_leads 139 = .ok (.goto (-32), 3) := by decide +kernel
theorem dX12_leads_142 : decode cX12_leads 142 = .ok (.iconst (-1), 1) := by decide +kernel
theorem dX12_leads_143 : decode cX12_leads 143 = .ok (.ireturn, 1) := by decide +kernel
theorem dX12_moves_0 : decode cX12_moves 0 = .ok (.aload_n 0, 1) := by decide +kernel
theorem dX12_moves_1 : decode cX12_moves 1 = .ok (.iconst 0, 1) := by decide +kernel
theorem dX12_moves_2 : decode cX12_moves 2 = .ok (.putfield 132, 3) := by decide +kernel
theorem dX12_moves_5 : decode cX12_moves 5 = .ok (.iload_n 1, 1) := by decide +kernel
theorem dX12_moves_6 : decode cX12_moves 6 = .ok (.ifCond .lt 32, 3) := by decide +kernel
theorem dX12_moves_9 : decode cX12_moves 9 = .ok (.iload_n 1, 1) := by decide +kernel
theorem dX12_moves_10 : decode cX12_moves 10 = .ok (.aload_n 0, 1) := by decide +kernel
theorem dX12_moves_11 : decode cX12_moves 11 = .ok (.getfield 225, 3) := by decide +kernel
theorem dX12_moves_14 : decode cX12_moves 14 = .ok (.if_icmp .ge 24, 3) := by decide +kernel
theorem dX12_moves_17 : decode cX12_moves 17 = .ok (.aload_n 0, 1) := by decide +kernel
theorem dX12_moves_18 : decode cX12_moves 18 = .ok (.iload_n 2, 1) := by decide +kernel
theorem dX12_moves_19 : decode cX12_moves 19 = .ok (.invokevirtual 269, 3) := by decide +kernel
theorem dX12_moves_22 : decode cX12_moves 22 = .ok (.ifCond .eq 16, 3) := by decide +kernel
theorem dX12_moves_25 : decode cX12_moves 25 = .ok (.aload_n 0, 1) := by decide +kernel
theorem dX12_moves_26 : decode cX12_moves 26 = .ok (.iload_n 3, 1) := by decide +kernel
theorem dX12_moves_27 : decode cX12_moves 27 = .ok (.invokevirtual 269, 3) := by decide +kernel
theorem dX12_moves_30 : decode cX12_moves 30 = .ok (.ifCond .eq 8, 3) := by decide +kernel
theorem dX12_moves_33 : decode cX12_moves 33 = .ok (.iload_n 2, 1) := by decide +kernel
theorem dX12_moves_34 : decode cX12_moves 34 = .ok (.iload_n 3, 1) := by decide +kernel
theorem dX12_moves_35 : decode cX12_moves 35 = .ok (.if_icmp .ne 7, 3) := by decide +kernel
theorem dX12_moves_38 : decode cX12_moves 38 = .ok (.ldc2_w 360, 3) := by decide +kernel
theorem dX12_moves_41 : decode cX12_moves 41 = .ok (.lreturn, 1) := by decide +kernel
theorem dX12_moves_42 : decode cX12_moves 42 = .ok (.lconst 0, 1) := by decide +kernel
theorem dX12_moves_43 : decode cX12_moves 43 = .ok (.lstore 4, 2) := by decide +kernel
theorem dX12_moves_45 : decode cX12_moves 45 = .ok (.lconst 0, 1) := by decide +kernel
theorem dX12_moves_46 : decode cX12_moves 46 = .ok (.lstore 6, 2) := by decide +kernel
theorem dX12_moves_48 : decode cX12_moves 48 = .ok (.iconst 0, 1) := by decide +kernel
theorem dX12_moves_49 : decode cX12_moves 49 = .ok (.istore 8, 2) := by decide +kernel
theorem dX12_moves_51 : decode cX12_moves 51 = .ok (.iload 8, 2) := by decide +kernel
theorem dX12_moves_53 : decode cX12_moves 53 = .ok (.aload_n 0, 1) := by decide +kernel
theorem dX12_moves_54 : decode cX12_moves 54 = .ok (.getfield 248, 3) := by decide +kernel
theorem dX12_moves_57 : decode cX12_moves 57 = .ok (.if_icmp .ge 85, 3) := by decide +kernel
theorem dX12_moves_60 : decode cX12_moves 60 = .ok (.aload_n 0, 1) := by decide +kernel
theorem dX12_moves_61 : decode cX12_moves 61 = .ok (.getfield 51, 3) := by decide +kernel
theorem dX12_moves_64 : decode cX12_moves 64 = .ok (.bipush 12, 2) := by decide +kernel
theorem dX12_moves_66 : decode cX12_moves 66 = .ok (.iload 8, 2) := by decide +kernel
theorem dX12_moves_68 : decode cX12_moves 68 = .ok (.imul, 1) := by decide +kernel
theorem dX12_moves_69 : decode cX12_moves 69 = .ok (.iload_n 2, 1) := by decide +kernel
theorem dX12_moves_70 : decode cX12_moves 70 = .ok (.iadd, 1) := by decide +kernel
theorem dX12_moves_71 : decode cX12_moves 71 = .ok (.baload, 1) := by decide +kernel
theorem dX12_moves_72 : decode cX12_moves 72 = .ok (.aload_n 0, 1) := by decide +kernel
theorem dX12_moves_73 : decode cX12_moves 73 = .ok (.getfield 51, 3) := by decide +kernel
theorem dX12_moves_76 : decode cX12_moves 76 = .ok (.bipush 12, 2) := by decide +kernel
theorem dX12_moves_78 : decode cX12_moves 78 = .ok (.iload 8, 2) := by decide +kernel
theorem dX12_moves_80 : decode cX12_moves 80 = .ok (.imul, 1) := by decide +kernel
theorem dX12_moves_81 : decode cX12_moves 81 = .ok (.iload_n 3, 1) := by decide +kernel
theorem dX12_moves_82 : decode cX12_moves 82 = .ok (.iadd, 1) := by decide +kernel
theorem dX12_moves_83 : decode cX12_moves 83 = .ok (.baload, 1) := by decide +kernel
theorem dX12_moves_84 : decode cX12_moves 84 = .ok (.if_icmp .eq 6, 3) := by decide +kernel
theorem dX12_moves_87 : decode cX12_moves 87 = .ok (.goto 49, 3) := by decide +kernel
theorem dX12_moves_90 : decode cX12_moves 90 = .ok (.lload 4, 2) := by decide +kernel
theorem dX12_moves_92 : decode cX12_moves 92 = .ok (.aload_n 0, 1) := by decide +kernel
theorem dX12_moves_93 : decode cX12_moves 93 = .ok (.getfield 47, 3) := by decide +kernel
theorem dX12_moves_96 : decode cX12_moves 96 = .ok (.iload 8, 2) := by decide +kernel
theorem dX12_moves_98 : decode cX12_moves 98 = .ok (.iaload, 1) := by decide +kernel
theorem dX12_moves_99 : decode cX12_moves 99 = .ok (.ifCond .ne 7, 3) := by decide +kernel
theorem dX12_moves_102 : decode cX12_moves 102 = .ok (.lconst 1, 1) := by decide +kernel
theorem dX12_moves_103 : decode cX12_moves 103 = .ok (.goto 4, 3) := by decide +kernel
theorem dX12_moves_106 : decode cX12_moves 106 = .ok (.lconst 0, 1) := by decide +kernel
theorem dX12_moves_107 : decode cX12_moves 107 = .ok (.ladd, 1) := by decide +kernel
theorem dX12_moves_108 : decode cX12_moves 108 = .ok (.lstore 4, 2) := by decide +kernel
theorem dX12_moves_110 : decode cX12_moves 110 = .ok (.lload 6, 2) := by decide +kernel
theorem dX12_moves_112 : decode cX12_moves 112 = .ok (.aload_n 0, 1) := by decide +kernel
theorem dX12_moves_113 : decode cX12_moves 113 = .ok (.getfield 47, 3) := by decide +kernel
theorem dX12_moves_116 : decode cX12_moves 116 = .ok (.iload 8, 2) := by decide +kernel
theorem dX12_moves_118 : decode cX12_moves 118 = .ok (.iaload, 1) := by decide +kernel
theorem dX12_moves_119 : decode cX12_moves 119 = .ok (.iconst 1, 1) := by decide +kernel
theorem dX12_moves_120 : decode cX12_moves 120 = .ok (.iload_n 1, 1) := by decide +kernel
theorem dX12_moves_121 : decode cX12_moves 121 = .ok (.ishl, 1) := by decide +kernel
theorem dX12_moves_122 : decode cX12_moves 122 = .ok (.iconst (-1), 1) := by decide +kernel
theorem dX12_moves_123 : decode cX12_moves 123 = .ok (.ixor, 1) := by decide +kernel
theorem dX12_moves_124 : decode cX12_moves 124 = .ok (.iand, 1) := by decide +kernel
theorem dX12_moves_125 : decode cX12_moves 125 = .ok (.ifCond .ne 7, 3) := by decide +kernel
theorem dX12_moves_128 : decode cX12_moves 128 = .ok (.lconst 1, 1) := by decide +kernel
theorem dX12_moves_129 : decode cX12_moves 129 = .ok (.goto 4, 3) := by decide +kernel
theorem dX12_moves_132 : decode cX12_moves 132 = .ok (.lconst 0, 1) := by decide +kernel
theorem dX12_moves_133 : decode cX12_moves 133 = .ok (.ladd, 1) := by decide +kernel
theorem dX12_moves_134 : decode cX12_moves 134 = .ok (.lstore 6, 2) := by decide +kernel
theorem dX12_moves_136 : decode cX12_moves 136 = .ok (.iinc 8 1, 3) := by decide +kernel
theorem dX12_moves_139 : decode cX12_moves 139 = .ok (.goto (-88), 3) := by decide +kernel
theorem dX12_moves_142 : decode cX12_moves 142 = .ok (.lload 4, 2) := by decide +kernel
theorem dX12_moves_144 : decode cX12_moves 144 = .ok (.aload_n 0, 1) := by decide +kernel
theorem dX12_moves_145 : decode cX12_moves 145 = .ok (.iconst 1, 1) := by decide +kernel
theorem dX12_moves_146 : decode cX12_moves 146 = .ok (.iload_n 1, 1) := by decide +kernel
theorem dX12_moves_147 : decode cX12_moves 147 = .ok (.ishl, 1) := by decide +kernel
theorem dX12_moves_148 : decode cX12_moves 148 = .ok (.invokevirtual 260, 3) := by decide +kernel
theorem dX12_moves_151 : decode cX12_moves 151 = .ok (.i2l, 1) := by decide +kernel
theorem dX12_moves_152 : decode cX12_moves 152 = .ok (.lmul, 1) := by decide +kernel
theorem dX12_moves_153 : decode cX12_moves 153 = .ok (.lload 6, 2) := by decide +kernel
theorem dX12_moves_155 : decode cX12_moves 155 = .ok (.aload_n 0, 1) := by decide +kernel
theorem dX12_moves_156 : decode cX12_moves 156 = .ok (.getfield 251, 3) := by decide +kernel
theorem dX12_moves_159 : decode cX12_moves 159 = .ok (.i2l, 1) := by decide +kernel
theorem dX12_moves_160 : decode cX12_moves 160 = .ok (.lmul, 1) := by decide +kernel
theorem dX12_moves_161 : decode cX12_moves 161 = .ok (.lsub, 1) := by decide +kernel
theorem dX12_moves_162 : decode cX12_moves 162 = .ok (.lreturn, 1) := by decide +kernel
theorem dX12_isEven_0 : decode cX12_isEven 0 = .ok (.aload_n 0, 1) := by decide +kernel
theorem dX12_isEven_1 : decode cX12_isEven 1 = .ok (.iload_n 1, 1) := by decide +kernel
theorem dX12_isEven_2 : decode cX12_isEven 2 = .ok (.invokevirtual 260, 3) := by decide +kernel
theorem dX12_isEven_5 : decode cX12_isEven 5 = .ok (.i2l, 1) := by decide +kernel
theorem dX12_isEven_6 : decode cX12_isEven 6 = .ok (.lstore_n 3, 1) := by decide +kernel
theorem dX12_isEven_7 : decode cX12_isEven 7 = .ok (.lload_n 3, 1) := by decide +kernel
theorem dX12_isEven_8 : decode cX12_isEven 8 = .ok (.lconst 0, 1) := by decide +kernel
theorem dX12_isEven_9 : decode cX12_isEven 9 = .ok (.lcmp, 1) := by decide +kernel
theorem dX12_isEven_10 : decode cX12_isEven 10 = .ok (.ifCond .ne 5, 3) := by decide +kernel
theorem dX12_isEven_13 : decode cX12_isEven 13 = .ok (.iconst 0, 1) := by decide +kernel
theorem dX12_isEven_14 : decode cX12_isEven 14 = .ok (.ireturn, 1) := by decide +kernel
theorem dX12_isEven_15 : decode cX12_isEven 15 = .ok (.aload_n 0, 1) := by decide +kernel
theorem dX12_isEven_16 : decode cX12_isEven 16 = .ok (.iconst (-1), 1) := by decide +kernel
theorem dX12_isEven_17 : decode cX12_isEven 17 = .ok (.putfield 102, 3) := by decide +kernel
theorem dX12_isEven_20 : decode cX12_isEven 20 = .ok (.iconst 0, 1) := by decide +kernel
theorem dX12_isEven_21 : decode cX12_isEven 21 = .ok (.istore 5, 2) := by decide +kernel
theorem dX12_isEven_23 : decode cX12_isEven 23 = .ok (.iload 5, 2) := by decide +kernel
theorem dX12_isEven_25 : decode cX12_isEven 25 = .ok (.aload_n 0, 1) := by decide +kernel
theorem dX12_isEven_26 : decode cX12_isEven 26 = .ok (.getfield 248, 3) := by decide +kernel
theorem dX12_isEven_29 : decode cX12_isEven 29 = .ok (.if_icmp .ge 35, 3) := by decide +kernel
theorem dX12_isEven_32 : decode cX12_isEven 32 = .ok (.aload_n 0, 1) := by decide +kernel
theorem dX12_isEven_33 : decode cX12_isEven 33 = .ok (.getfield 99, 3) := by decide +kernel
theorem dX12_isEven_36 : decode cX12_isEven 36 = .ok (.iload 5, 2) := by decide +kernel
theorem dX12_isEven_38 : decode cX12_isEven 38 = .ok (.aload_n 0, 1) := by decide +kernel
theorem dX12_isEven_39 : decode cX12_isEven 39 = .ok (.getfield 47, 3) := by decide +kernel
theorem dX12_isEven_42 : decode cX12_isEven 42 = .ok (.iload 5, 2) := by decide +kernel
theorem dX12_isEven_44 : decode cX12_isEven 44 = .ok (.iaload, 1) := by decide +kernel
theorem dX12_isEven_45 : decode cX12_isEven 45 = .ok (.iload_n 1, 1) := by decide +kernel
theorem dX12_isEven_46 : decode cX12_isEven 46 = .ok (.iconst (-1), 1) := by decide +kernel
theorem dX12_isEven_47 : decode cX12_isEven 47 = .ok (.ixor, 1) := by decide +kernel
theorem dX12_isEven_48 : decode cX12_isEven 48 = .ok (.iand, 1) := by decide +kernel
theorem dX12_isEven_49 : decode cX12_isEven 49 = .ok (.ifCond .ne 7, 3) := by decide +kernel
theorem dX12_isEven_52 : decode cX12_isEven 52 = .ok (.lconst 1, 1) := by decide +kernel
theorem dX12_isEven_53 : decode cX12_isEven 53 = .ok (.goto 4, 3) := by decide +kernel
theorem dX12_isEven_56 : decode cX12_isEven 56 = .ok (.lconst 0, 1) := by decide +kernel
theorem dX12_isEven_57 : decode cX12_isEven 57 = .ok (.lastore, 1) := by decide +kernel
theorem dX12_isEven_58 : decode cX12_isEven 58 = .ok (.iinc 5 1, 3) := by decide +kernel
theorem dX12_isEven_61 : decode cX12_isEven 61 = .ok (.goto (-38), 3) := by decide +kernel
theorem dX12_isEven_64 : decode cX12_isEven 64 = .ok (.iconst 0, 1) := by decide +kernel
theorem dX12_isEven_65 : decode cX12_isEven 65 = .ok (.istore 5, 2) := by decide +kernel
theorem dX12_isEven_67 : decode cX12_isEven 67 = .ok (.iload 5, 2) := by decide +kernel
theorem dX12_isEven_69 : decode cX12_isEven 69 = .ok (.aload_n 0, 1) := by decide +kernel
theorem dX12_isEven_70 : decode cX12_isEven 70 = .ok (.invokevirtual 241, 3) := by decide +kernel
theorem dX12_isEven_73 : decode cX12_isEven 73 = .ok (.if_icmp .ge 69, 3) := by decide +kernel
theorem dX12_isEven_76 : decode cX12_isEven 76 = .ok (.iload 5, 2) := by decide +kernel
theorem dX12_isEven_78 : decode cX12_isEven 78 = .ok (.iconst 1, 1) := by decide +kernel
theorem dX12_isEven_79 : decode cX12_isEven 79 = .ok (.iadd, 1) := by decide +kernel
theorem dX12_isEven_80 : decode cX12_isEven 80 = .ok (.istore 6, 2) := by decide +kernel
theorem dX12_isEven_82 : decode cX12_isEven 82 = .ok (.iload 6, 2) := by decide +kernel
theorem dX12_isEven_84 : decode cX12_isEven 84 = .ok (.aload_n 0, 1) := by decide +kernel
theorem dX12_isEven_85 : decode cX12_isEven 85 = .ok (.invokevirtual 241, 3) := by decide +kernel
theorem dX12_isEven_88 : decode cX12_isEven 88 = .ok (.if_icmp .ge 48, 3) := by decide +kernel
theorem dX12_isEven_91 : decode cX12_isEven 91 = .ok (.iload 5, 2) := by decide +kernel
theorem dX12_isEven_93 : decode cX12_isEven 93 = .ok (.aload_n 0, 1) := by decide +kernel
theorem dX12_isEven_94 : decode cX12_isEven 94 = .ok (.getfield 185, 3) := by decide +kernel
theorem dX12_isEven_97 : decode cX12_isEven 97 = .ok (.idiv, 1) := by decide +kernel
theorem dX12_isEven_98 : decode cX12_isEven 98 = .ok (.iload 6, 2) := by decide +kernel
theorem dX12_isEven_100 : decode cX12_isEven 100 = .ok (.aload_n 0, 1) := by decide +kernel
theorem dX12_isEven_101 : decode cX12_isEven 101 = .ok (.getfield 185, 3) := by decide +kernel
theorem dX12_isEven_104 : decode cX12_isEven 104 = .ok (.idiv, 1) := by decide +kernel
theorem dX12_isEven_105 : decode cX12_isEven 105 = .ok (.if_icmp .eq 25, 3) := by decide +kernel
theorem dX12_isEven_108 : decode cX12_isEven 108 = .ok (.aload_n 0, 1) := by decide +kernel
theorem dX12_isEven_109 : decode cX12_isEven 109 = .ok (.iload 5, 2) := by decide +kernel
theorem dX12_isEven_111 : decode cX12_isEven 111 = .ok (.iload 6, 2) := by decide +kernel
theorem dX12_isEven_113 : decode cX12_isEven 113 = .ok (.invokevirtual 333, 3) := by decide +kernel
theorem dX12_isEven_116 : decode cX12_isEven 116 = .ok (.ldc2_w 372, 3) := by decide +kernel
theorem dX12_isEven_119 : decode cX12_isEven 119 = .ok (.lmul, 1) := by decide +kernel
theorem dX12_isEven_120 : decode cX12_isEven 120 = .ok (.lload_n 3, 1) := by decide +kernel
theorem dX12_isEven_121 : decode cX12_isEven 121 = .ok (.iload_n 2, 1) := by decide +kernel
theorem dX12_isEven_122 : decode cX12_isEven 122 = .ok (.i2l, 1) := by decide +kernel
theorem dX12_isEven_123 : decode cX12_isEven 123 = .ok (.lmul, 1) := by decide +kernel
theorem dX12_isEven_124 : decode cX12_isEven 124 = .ok (.lcmp, 1) := by decide +kernel
theorem dX12_isEven_125 : decode cX12_isEven 125 = .ok (.ifCond .le 5, 3) := by decide +kernel
theorem dX12_isEven_128 : decode cX12_isEven 128 = .ok (.iconst 0, 1) := by decide +kernel
theorem dX12_isEven_129 : decode cX12_isEven 129 = .ok (.ireturn, 1) := by decide +kernel
theorem dX12_isEven_130 : decode cX12_isEven 130 = .ok (.iinc 6 1, 3) := by decide +kernel
theorem dX12_isEven_133 : decode cX12_isEven 133 = .ok (.goto (-51), 3) := by decide +kernel
theorem dX12_isEven_136 : decode cX12_isEven 136 = .ok (.iinc 5 1, 3) := by decide +kernel
theorem dX12_isEven_139 : decode cX12_isEven 139 = .ok (.goto (-72), 3) := by decide +kernel
theorem dX12_isEven_142 : decode cX12_isEven 142 = .ok (.iconst 1, 1) := by decide +kernel
theorem dX12_isEven_143 : decode cX12_isEven 143 = .ok (.ireturn, 1) := by decide +kernel
theorem dX12_leave_0 : decode cX12_leave 0 = .ok (.aload_n 0, 1) := by decide +kernel
theorem dX12_leave_1 : decode cX12_leave 1 = .ok (.iconst 0, 1) := by decide +kernel
theorem dX12_leave_2 : decode cX12_leave 2 = .ok (.putfield 132, 3) := by decide +kernel
theorem dX12_leave_5 : decode cX12_leave 5 = .ok (.iload_n 1, 1) := by decide +kernel
theorem dX12_leave_6 : decode cX12_leave 6 = .ok (.iconst 0, 1) := by decide +kernel
theorem dX12_leave_7 : decode cX12_leave 7 = .ok (.bipush 100, 2) := by decide +kernel
theorem dX12_leave_9 : decode cX12_leave 9 = .ok (.invokestatic 237, 3) := by decide +kernel
theorem dX12_leave_12 : decode cX12_leave 12 = .ok (.ifCond .ne 5, 3) := by decide +kernel
theorem dX12_leave_15 : decode cX12_leave 15 = .ok (.iconst (-1), 1) := by decide +kernel
theorem dX12_leave_16 : decode cX12_leave 16 = .ok (.ireturn, 1) := by decide +kernel
theorem dX12_leave_17 : decode cX12_leave 17 = .ok (.iconst 0, 1) := by decide +kernel
theorem dX12_leave_18 : decode cX12_leave 18 = .ok (.istore_n 2, 1) := by decide +kernel
theorem dX12_leave_19 : decode cX12_leave 19 = .ok (.iload_n 2, 1) := by decide +kernel
theorem dX12_leave_20 : decode cX12_leave 20 = .ok (.iconst 3, 1) := by decide +kernel
theorem dX12_leave_21 : decode cX12_leave 21 = .ok (.if_icmp .ge 46, 3) := by decide +kernel
theorem dX12_leave_24 : decode cX12_leave 24 = .ok (.iconst 0, 1) := by decide +kernel
theorem dX12_leave_25 : decode cX12_leave 25 = .ok (.istore_n 3, 1) := by decide +kernel
theorem dX12_leave_26 : decode cX12_leave 26 = .ok (.iload_n 3, 1) := by decide +kernel
theorem dX12_leave_27 : decode cX12_leave 27 = .ok (.iconst 1, 1) := by decide +kernel
theorem dX12_leave_28 : decode cX12_leave 28 = .ok (.aload_n 0, 1) := by decide +kernel
theorem dX12_leave_29 : decode cX12_leave 29 = .ok (.getfield 225, 3) := by decide +kernel
theorem dX12_leave_32 : decode cX12_leave 32 = .ok (.ishl, 1) := by decide +kernel
theorem dX12_leave_33 : decode cX12_leave 33 = .ok (.if_icmp .ge 28, 3) := by decide +kernel
theorem dX12_leave_36 : decode cX12_leave 36 = .ok (.iload_n 3, 1) := by decide +kernel
theorem dX12_leave_37 : decode cX12_leave 37 = .ok (.invokestatic 263, 3) := by decide +kernel
theorem dX12_leave_40 : decode cX12_leave 40 = .ok (.iload_n 2, 1) := by decide +kernel
theorem dX12_leave_41 : decode cX12_leave 41 = .ok (.if_icmp .ne 14, 3) := by decide +kernel
theorem dX12_leave_44 : decode cX12_leave 44 = .ok (.aload_n 0, 1) := by decide +kernel
theorem dX12_leave_45 : decode cX12_leave 45 = .ok (.iload_n 3, 1) := by decide +kernel
theorem dX12_leave_46 : decode cX12_leave 46 = .ok (.iload_n 1, 1) := by decide +kernel
theorem dX12_leave_47 : decode cX12_leave 47 = .ok (.invokevirtual 374, 3) := by decide +kernel
theorem dX12_leave_50 : decode cX12_leave 50 = .ok (.ifCond .eq 5, 3) := by decide +kernel
theorem dX12_leave_53 : decode cX12_leave 53 = .ok (.iload_n 3, 1) := by decide +kernel
theorem dX12_leave_54 : decode cX12_leave 54 = .ok (.ireturn, 1) := by decide +kernel
theorem dX12_leave_55 : decode cX12_leave 55 = .ok (.iinc 3 1, 3) := by decide +kernel
theorem dX12_leave_58 : decode cX12_leave 58 = .ok (.goto (-32), 3) := by decide +kernel
theorem dX12_leave_61 : decode cX12_leave 61 = .ok (.iinc 2 1, 3) := by decide +kernel
theorem dX12_leave_64 : decode cX12_leave 64 = .ok (.goto (-45), 3) := by decide +kernel
theorem dX12_leave_67 : decode cX12_leave 67 = .ok (.iconst (-1), 1) := by decide +kernel
theorem dX12_leave_68 : decode cX12_leave 68 = .ok (.ireturn, 1) := by decide +kernel
theorem dX12_laySwaps_0 : decode cX12_laySwaps 0 = .ok (.aload_n 0, 1) := by decide +kernel
theorem dX12_laySwaps_1 : decode cX12_laySwaps 1 = .ok (.invokevirtual 304, 3) := by decide +kernel
theorem dX12_laySwaps_4 : decode cX12_laySwaps 4 = .ok (.aload_n 0, 1) := by decide +kernel
theorem dX12_laySwaps_5 : decode cX12_laySwaps 5 = .ok (.invokevirtual 311, 3) := by decide +kernel
theorem dX12_laySwaps_8 : decode cX12_laySwaps 8 = .ok (.iconst 1, 1) := by decide +kernel
theorem dX12_laySwaps_9 : decode cX12_laySwaps 9 = .ok (.istore_n 1, 1) := by decide +kernel
theorem dX12_laySwaps_10 : decode cX12_laySwaps 10 = .ok (.aload_n 0, 1) := by decide +kernel
theorem dX12_laySwaps_11 : decode cX12_laySwaps 11 = .ok (.getfield 188, 3) := by decide +kernel
theorem dX12_laySwaps_14 : decode cX12_laySwaps 14 = .ok (.iconst 1, 1) := by decide +kernel
theorem dX12_laySwaps_15 : decode cX12_laySwaps 15 = .ok (.isub, 1) := by decide +kernel
theorem dX12_laySwaps_16 : decode cX12_laySwaps 16 = .ok (.istore_n 2, 1) := by decide +kernel
theorem dX12_laySwaps_17 : decode cX12_laySwaps 17 = .ok (.iload_n 2, 1) := by decide +kernel
theorem dX12_laySwaps_18 : decode cX12_laySwaps 18 = .ok (.ifCond .lt 23, 3) := by decide +kernel
theorem dX12_laySwaps_21 : decode cX12_laySwaps 21 = .ok (.aload_n 0, 1) := by decide +kernel
theorem dX12_laySwaps_22 : decode cX12_laySwaps 22 = .ok (.getfield 114, 3) := by decide +kernel
theorem dX12_laySwaps_25 : decode cX12_laySwaps 25 = .ok (.iload_n 2, 1) := by decide +kernel
theorem dX12_laySwaps_26 : decode cX12_laySwaps 26 = .ok (.iload_n 1, 1) := by decide +kernel
theorem dX12_laySwaps_27 : decode cX12_laySwaps 27 = .ok (.iastore, 1) := by decide +kernel
theorem dX12_laySwaps_28 : decode cX12_laySwaps 28 = .ok (.iload_n 1, 1) := by decide +kernel
theorem dX12_laySwaps_29 : decode cX12_laySwaps 29 = .ok (.aload_n 0, 1) := by decide +kernel
theorem dX12_laySwaps_30 : decode cX12_laySwaps 30 = .ok (.getfield 245, 3) := by decide +kernel
theorem dX12_laySwaps_33 : decode cX12_laySwaps 33 = .ok (.imul, 1) := by decide +kernel
theorem dX12_laySwaps_34 : decode cX12_laySwaps 34 = .ok (.istore_n 1, 1) := by decide +kernel
theorem dX12_laySwaps_35 : decode cX12_laySwaps 35 = .ok (.iinc 2 (-1), 3) := by decide +kernel
theorem dX12_laySwaps_38 : decode cX12_laySwaps 38 = .ok (.goto (-21), 3) := by decide +kernel
theorem dX12_laySwaps_41 : decode cX12_laySwaps 41 = .ok (.iconst 0, 1) := by decide +kernel
theorem dX12_laySwaps_42 : decode cX12_laySwaps 42 = .ok (.istore_n 2, 1) := by decide +kernel
theorem dX12_laySwaps_43 : decode cX12_laySwaps 43 = .ok (.iload_n 2, 1) := by decide +kernel
theorem dX12_laySwaps_44 : decode cX12_laySwaps 44 = .ok (.aload_n 0, 1) := by decide +kernel
theorem dX12_laySwaps_45 : decode cX12_laySwaps 45 = .ok (.getfield 245, 3) := by decide +kernel
theorem dX12_laySwaps_48 : decode cX12_laySwaps 48 = .ok (.if_icmp .ge 136, 3) := by decide +kernel
theorem dX12_laySwaps_51 : decode cX12_laySwaps 51 = .ok (.iconst 0, 1) := by decide +kernel
theorem dX12_laySwaps_52 : decode cX12_laySwaps 52 = .ok (.istore_n 3, 1) := by decide +kernel
theorem dX12_laySwaps_53 : decode cX12_laySwaps 53 = .ok (.iload_n 3, 1) := by decide +kernel
theorem dX12_laySwaps_54 : decode cX12_laySwaps 54 = .ok (.aload_n 0, 1) := by decide +kernel
theorem dX12_laySwaps_55 : decode cX12_laySwaps 55 = .ok (.getfield 185, 3) := by decide +kernel
theorem dX12_laySwaps_58 : decode cX12_laySwaps 58 = .ok (.if_icmp .ge 120, 3) := by decide +kernel
theorem dX12_laySwaps_61 : decode cX12_laySwaps 61 = .ok (.iconst 0, 1) := by decide +kernel
theorem dX12_laySwaps_62 : decode cX12_laySwaps 62 = .ok (.istore 4, 2) := by decide +kernel
theorem dX12_laySwaps_64 : decode cX12_laySwaps 64 = .ok (.iload 4, 2) := by decide +kernel
theorem dX12_laySwaps_66 : decode cX12_laySwaps 66 = .ok (.aload_n 0, 1) := by decide +kernel
theorem dX12_laySwaps_67 : decode cX12_laySwaps 67 = .ok (.getfield 185, 3) := by decide +kernel
theorem dX12_laySwaps_70 : decode cX12_laySwaps 70 = .ok (.if_icmp .ge 102, 3) := by decide +kernel
theorem dX12_laySwaps_73 : decode cX12_laySwaps 73 = .ok (.iconst 0, 1) := by decide +kernel
theorem dX12_laySwaps_74 : decode cX12_laySwaps 74 = .ok (.istore 5, 2) := by decide +kernel
theorem dX12_laySwaps_76 : decode cX12_laySwaps 76 = .ok (.iconst 0, 1) := by decide +kernel
theorem dX12_laySwaps_77 : decode cX12_laySwaps 77 = .ok (.istore 6, 2) := by decide +kernel
theorem dX12_laySwaps_79 : decode cX12_laySwaps 79 = .ok (.iload 6, 2) := by decide +kernel
theorem dX12_laySwaps_81 : decode cX12_laySwaps 81 = .ok (.aload_n 0, 1) := by decide +kernel
theorem dX12_laySwaps_82 : decode cX12_laySwaps 82 = .ok (.getfield 185, 3) := by decide +kernel
theorem dX12_laySwaps_85 : decode cX12_laySwaps 85 = .ok (.if_icmp .ge 59, 3) := by decide +kernel
theorem dX12_laySwaps_88 : decode cX12_laySwaps 88 = .ok (.aload_n 0, 1) := by decide +kernel
theorem dX12_laySwaps_89 : decode cX12_laySwaps 89 = .ok (.getfield 44, 3) := by decide +kernel
theorem dX12_laySwaps_92 : decode cX12_laySwaps 92 = .ok (.iconst 4, 1) := by decide +kernel
theorem dX12_laySwaps_93 : decode cX12_laySwaps 93 = .ok (.iload_n 2, 1) := by decide +kernel
theorem dX12_laySwaps_94 : decode cX12_laySwaps 94 = .ok (.imul, 1) := by decide +kernel
theorem dX12_laySwaps_95 : decode cX12_laySwaps 95 = .ok (.iload 6, 2) := by decide +kernel
theorem dX12_laySwaps_97 : decode cX12_laySwaps 97 = .ok (.iadd, 1) := by decide +kernel
theorem dX12_laySwaps_98 : decode cX12_laySwaps 98 = .ok (.iaload, 1) := by decide +kernel
theorem dX12_laySwaps_99 : decode cX12_laySwaps 99 = .ok (.istore 7, 2) := by decide +kernel
theorem dX12_laySwaps_101 : decode cX12_laySwaps 101 = .ok (.iload 5, 2) := by decide +kernel
theorem dX12_laySwaps_103 : decode cX12_laySwaps 103 = .ok (.iload 7, 2) := by decide +kernel
theorem dX12_laySwaps_105 : decode cX12_laySwaps 105 = .ok (.iload_n 3, 1) := by decide +kernel
theorem dX12_laySwaps_106 : decode cX12_laySwaps 106 = .ok (.if_icmp .ne 8, 3) := by decide +kernel
theorem dX12_laySwaps_109 : decode cX12_laySwaps 109 = .ok (.iload 4, 2) := by decide +kernel
theorem dX12_laySwaps_111 : decode cX12_laySwaps 111 = .ok (.goto 16, 3) := by decide +kernel
theorem dX12_laySwaps_114 : decode cX12_laySwaps 114 = .ok (.iload 7, 2) := by decide +kernel
theorem dX12_laySwaps_116 : decode cX12_laySwaps 116 = .ok (.iload 4, 2) := by decide +kernel
theorem dX12_laySwaps_118 : decode cX12_laySwaps 118 = .ok (.if_icmp .ne 7, 3) := by decide +kernel
theorem dX12_laySwaps_121 : decode cX12_laySwaps 121 = .ok (.iload_n 3, 1) := by decide +kernel
theorem dX12_laySwaps_122 : decode cX12_laySwaps 122 = .ok (.goto 5, 3) := by decide +kernel
theorem dX12_laySwaps_125 : decode cX12_laySwaps 125 = .ok (.iload 7, 2) := by decide +kernel
theorem dX12_laySwaps_127 : decode cX12_laySwaps 127 = .ok (.aload_n 0, 1) := by decide +kernel
theorem dX12_laySwaps_128 : decode cX12_laySwaps 128 = .ok (.getfield 93, 3) := by decide +kernel
theorem dX12_laySwaps_131 : decode cX12_laySwaps 131 = .ok (.iload 6, 2) := by decide +kernel
theorem dX12_laySwaps_133 : decode cX12_laySwaps 133 = .ok (.iaload, 1) := by decide +kernel
theorem dX12_laySwaps_134 : decode cX12_laySwaps 134 = .ok (.imul, 1) := by decide +kernel
theorem dX12_laySwaps_135 : decode cX12_laySwaps 135 = .ok (.iadd, 1) := by decide +kernel
theorem dX12_laySwaps_136 : decode cX12_laySwaps 136 = .ok (.istore 5, 2) := by decide +kernel
theorem dX12_laySwaps_138 : decode cX12_laySwaps 138 = .ok (.iinc 6 1, 3) := by decide +kernel
theorem dX12_laySwaps_141 : decode cX12_laySwaps 141 = .ok (.goto (-62), 3) := by decide +kernel
theorem dX12_laySwaps_144 : decode cX12_laySwaps 144 = .ok (.aload_n 0, 1) := by decide +kernel
theorem dX12_laySwaps_145 : decode cX12_laySwaps 145 = .ok (.getfield 117, 3) := by decide +kernel
theorem dX12_laySwaps_148 : decode cX12_laySwaps 148 = .ok (.bipush 16, 2) := by decide +kernel
theorem dX12_laySwaps_150 : decode cX12_laySwaps 150 = .ok (.iload_n 2, 1) := by decide +kernel
theorem dX12_laySwaps_151 : decode cX12_laySwaps 151 = .ok (.imul, 1) := by decide +kernel
theorem dX12_laySwaps_152 : decode cX12_laySwaps 152 = .ok (.iconst 4, 1) := by decide +kernel
theorem dX12_laySwaps_153 : decode cX12_laySwaps 153 = .ok (.iload_n 3, 1) := by decide +kernel
theorem dX12_laySwaps_154 : decode cX12_laySwaps 154 = .ok (.imul, 1) := by decide +kernel
theorem dX12_laySwaps_155 : decode cX12_laySwaps 155 = .ok (.iadd, 1) := by decide +kernel
theorem dX12_laySwaps_156 : decode cX12_laySwaps 156 = .ok (.iload 4, 2) := by decide +kernel
theorem dX12_laySwaps_158 : decode cX12_laySwaps 158 = .ok (.iadd, 1) := by decide +kernel
theorem dX12_laySwaps_159 : decode cX12_laySwaps 159 = .ok (.aload_n 0, 1) := by decide +kernel
theorem dX12_laySwaps_160 : decode cX12_laySwaps 160 = .ok (.iload 5, 2) := by decide +kernel
theorem dX12_laySwaps_162 : decode cX12_laySwaps 162 = .ok (.invokevirtual 317, 3) := by decide +kernel
theorem dX12_laySwaps_165 : decode cX12_laySwaps 165 = .ok (.iastore, 1) := by decide +kernel
theorem dX12_laySwaps_166 : decode cX12_laySwaps 166 = .ok (.iinc 4 1, 3) := by decide +kernel
theorem dX12_laySwaps_169 : decode cX12_laySwaps 169 = .ok (.goto (-105), 3) := by decide +kernel
theorem dX12_laySwaps_172 : decode cX12_laySwaps 172 = .ok (.iinc 3 1, 3) := by decide +kernel
theorem dX12_laySwaps_175 : decode cX12_laySwaps 175 = .ok (.goto (-122), 3) := by decide +kernel
theorem dX12_laySwaps_178 : decode cX12_laySwaps 178 = .ok (.iinc 2 1, 3) := by decide +kernel
theorem dX12_laySwaps_181 : decode cX12_laySwaps 181 = .ok (.goto (-138), 3) := by decide +kernel
theorem dX12_laySwaps_184 : decode cX12_laySwaps 184 = .ok (.return_, 1) := by decide +kernel
theorem dX12_swapped_0 : decode cX12_swapped 0 = .ok (.iload_n 1, 1) := by decide +kernel
theorem dX12_swapped_1 : decode cX12_swapped 1 = .ok (.aload_n 0, 1) := by decide +kernel
theorem dX12_swapped_2 : decode cX12_swapped 2 = .ok (.getfield 114, 3) := by decide +kernel
theorem dX12_swapped_5 : decode cX12_swapped 5 = .ok (.iload_n 2, 1) := by decide +kernel
theorem dX12_swapped_6 : decode cX12_swapped 6 = .ok (.iaload, 1) := by decide +kernel
theorem dX12_swapped_7 : decode cX12_swapped 7 = .ok (.idiv, 1) := by decide +kernel
theorem dX12_swapped_8 : decode cX12_swapped 8 = .ok (.aload_n 0, 1) := by decide +kernel
theorem dX12_swapped_9 : decode cX12_swapped 9 = .ok (.getfield 245, 3) := by decide +kernel
theorem dX12_swapped_12 : decode cX12_swapped 12 = .ok (.irem, 1) := by decide +kernel
theorem dX12_swapped_13 : decode cX12_swapped 13 = .ok (.istore 5, 2) := by decide +kernel
theorem dX12_swapped_15 : decode cX12_swapped 15 = .ok (.iload_n 1, 1) := by decide +kernel
theorem dX12_swapped_16 : decode cX12_swapped 16 = .ok (.aload_n 0, 1) := by decide +kernel
theorem dX12_swapped_17 : decode cX12_swapped 17 = .ok (.getfield 117, 3) := by decide +kernel
theorem dX12_swapped_20 : decode cX12_swapped 20 = .ok (.bipush 16, 2) := by decide +kernel
theorem dX12_swapped_22 : decode cX12_swapped 22 = .ok (.iload 5, 2) := by decide +kernel
theorem dX12_swapped_24 : decode cX12_swapped 24 = .ok (.imul, 1) := by decide +kernel
theorem dX12_swapped_25 : decode cX12_swapped 25 = .ok (.iconst 4, 1) := by decide +kernel
theorem dX12_swapped_26 : decode cX12_swapped 26 = .ok (.iload_n 3, 1) := by decide +kernel
theorem dX12_swapped_27 : decode cX12_swapped 27 = .ok (.imul, 1) := by decide +kernel
theorem dX12_swapped_28 : decode cX12_swapped 28 = .ok (.iadd, 1) := by decide +kernel
theorem dX12_swapped_29 : decode cX12_swapped 29 = .ok (.iload 4, 2) := by decide +kernel
theorem dX12_swapped_31 : decode cX12_swapped 31 = .ok (.iadd, 1) := by decide +kernel
theorem dX12_swapped_32 : decode cX12_swapped 32 = .ok (.iaload, 1) := by decide +kernel
theorem dX12_swapped_33 : decode cX12_swapped 33 = .ok (.iload 5, 2) := by decide +kernel
theorem dX12_swapped_35 : decode cX12_swapped 35 = .ok (.isub, 1) := by decide +kernel
theorem dX12_swapped_36 : decode cX12_swapped 36 = .ok (.aload_n 0, 1) := by decide +kernel
theorem dX12_swapped_37 : decode cX12_swapped 37 = .ok (.getfield 114, 3) := by decide +kernel
theorem dX12_swapped_40 : decode cX12_swapped 40 = .ok (.iload_n 2, 1) := by decide +kernel
theorem dX12_swapped_41 : decode cX12_swapped 41 = .ok (.iaload, 1) := by decide +kernel
theorem dX12_swapped_42 : decode cX12_swapped 42 = .ok (.imul, 1) := by decide +kernel
theorem dX12_swapped_43 : decode cX12_swapped 43 = .ok (.iadd, 1) := by decide +kernel
theorem dX12_swapped_44 : decode cX12_swapped 44 = .ok (.ireturn, 1) := by decide +kernel
theorem dX12_parts_0 : decode cX12_parts 0 = .ok (.aload_n 0, 1) := by decide +kernel
theorem dX12_parts_1 : decode cX12_parts 1 = .ok (.iconst 0, 1) := by decide +kernel
theorem dX12_parts_2 : decode cX12_parts 2 = .ok (.putfield 132, 3) := by decide +kernel
theorem dX12_parts_5 : decode cX12_parts 5 = .ok (.iload_n 1, 1) := by decide +kernel
theorem dX12_parts_6 : decode cX12_parts 6 = .ok (.iconst 0, 1) := by decide +kernel
theorem dX12_parts_7 : decode cX12_parts 7 = .ok (.iconst 2, 1) := by decide +kernel
theorem dX12_parts_8 : decode cX12_parts 8 = .ok (.invokestatic 237, 3) := by decide +kernel
theorem dX12_parts_11 : decode cX12_parts 11 = .ok (.ifCond .ne 5, 3) := by decide +kernel
theorem dX12_parts_14 : decode cX12_parts 14 = .ok (.iconst (-1), 1) := by decide +kernel
theorem dX12_parts_15 : decode cX12_parts 15 = .ok (.ireturn, 1) := by decide +kernel
theorem dX12_parts_16 : decode cX12_parts 16 = .ok (.aload_n 0, 1) := by decide +kernel
theorem dX12_parts_17 : decode cX12_parts 17 = .ok (.invokevirtual 377, 3) := by decide +kernel
theorem dX12_parts_20 : decode cX12_parts 20 = .ok (.iconst 0, 1) := by decide +kernel
theorem dX12_parts_21 : decode cX12_parts 21 = .ok (.istore_n 2, 1) := by decide +kernel
theorem dX12_parts_22 : decode cX12_parts 22 = .ok (.iload_n 2, 1) := by decide +kernel
theorem dX12_parts_23 : decode cX12_parts 23 = .ok (.aload_n 0, 1) := by decide +kernel
theorem dX12_parts_24 : decode cX12_parts 24 = .ok (.getfield 248, 3) := by decide +kernel
theorem dX12_parts_27 : decode cX12_parts 27 = .ok (.if_icmp .ge 16, 3) := by decide +kernel
theorem dX12_parts_30 : decode cX12_parts 30 = .ok (.aload_n 0, 1) := by decide +kernel
theorem dX12_parts_31 : decode cX12_parts 31 = .ok (.getfield 108, 3) := by decide +kernel
theorem dX12_parts_34 : decode cX12_parts 34 = .ok (.iload_n 2, 1) := by decide +kernel
theorem dX12_parts_35 : decode cX12_parts 35 = .ok (.iconst (-1), 1) := by decide +kernel
theorem dX12_parts_36 : decode cX12_parts 36 = .ok (.iastore, 1) := by decide +kernel
theorem dX12_parts_37 : decode cX12_parts 37 = .ok (.iinc 2 1, 3) := by decide +kernel
theorem dX12_parts_40 : decode cX12_parts 40 = .ok (.goto (-18), 3) := by decide +kernel
theorem dX12_parts_43 : decode cX12_parts 43 = .ok (.iconst 0, 1) := by decide +kernel
theorem dX12_parts_44 : decode cX12_parts 44 = .ok (.istore_n 2, 1) := by decide +kernel
theorem dX12_parts_45 : decode cX12_parts 45 = .ok (.iconst 0, 1) := by decide +kernel
theorem dX12_parts_46 : decode cX12_parts 46 = .ok (.istore_n 3, 1) := by decide +kernel
theorem dX12_parts_47 : decode cX12_parts 47 = .ok (.iconst 0, 1) := by decide +kernel
theorem dX12_parts_48 : decode cX12_parts 48 = .ok (.istore 4, 2) := by decide +kernel
theorem dX12_parts_50 : decode cX12_parts 50 = .ok (.iconst 0, 1) := by decide +kernel
theorem dX12_parts_51 : decode cX12_parts 51 = .ok (.istore 5, 2) := by decide +kernel
theorem dX12_parts_53 : decode cX12_parts 53 = .ok (.iload 5, 2) := by decide +kernel
theorem dX12_parts_55 : decode cX12_parts 55 = .ok (.aload_n 0, 1) := by decide +kernel
theorem dX12_parts_56 : decode cX12_parts 56 = .ok (.getfield 248, 3) := by decide +kernel
theorem dX12_parts_59 : decode cX12_parts 59 = .ok (.if_icmp .ge 72, 3) := by decide +kernel
theorem dX12_parts_62 : decode cX12_parts 62 = .ok (.aload_n 0, 1) := by decide +kernel
theorem dX12_parts_63 : decode cX12_parts 63 = .ok (.getfield 47, 3) := by decide +kernel
theorem dX12_parts_66 : decode cX12_parts 66 = .ok (.iload 5, 2) := by decide +kernel
theorem dX12_parts_68 : decode cX12_parts 68 = .ok (.iaload, 1) := by decide +kernel
theorem dX12_parts_69 : decode cX12_parts 69 = .ok (.ifCond .ne 56, 3) := by decide +kernel
theorem dX12_parts_72 : decode cX12_parts 72 = .ok (.aload_n 0, 1) := by decide +kernel
theorem dX12_parts_73 : decode cX12_parts 73 = .ok (.getfield 108, 3) := by decide +kernel
theorem dX12_parts_76 : decode cX12_parts 76 = .ok (.iload 5, 2) := by decide +kernel
theorem dX12_parts_78 : decode cX12_parts 78 = .ok (.iaload, 1) := by decide +kernel
theorem dX12_parts_79 : decode cX12_parts 79 = .ok (.iconst (-1), 1) := by decide +kernel
theorem dX12_parts_80 : decode cX12_parts 80 = .ok (.if_icmp .eq 6, 3) := by decide +kernel
theorem dX12_parts_83 : decode cX12_parts 83 = .ok (.goto 42, 3) := by decide +kernel
theorem dX12_parts_86 : decode cX12_parts 86 = .ok (.aload_n 0, 1) := by decide +kernel
theorem dX12_parts_87 : decode cX12_parts 87 = .ok (.iload 5, 2) := by decide +kernel
theorem dX12_parts_89 : decode cX12_parts 89 = .ok (.iload_n 2, 1) := by decide +kernel
theorem dX12_parts_90 : decode cX12_parts 90 = .ok (.invokevirtual 380, 3) := by decide +kernel
theorem dX12_parts_93 : decode cX12_parts 93 = .ok (.istore 6, 2) := by decide +kernel
theorem dX12_parts_95 : decode cX12_parts 95 = .ok (.iload_n 2, 1) := by decide +kernel
theorem dX12_parts_96 : decode cX12_parts 96 = .ok (.ifCond .ne 8, 3) := by decide +kernel
theorem dX12_parts_99 : decode cX12_parts 99 = .ok (.iload 6, 2) := by decide +kernel
theorem dX12_parts_101 : decode cX12_parts 101 = .ok (.goto 4, 3) := by decide +kernel
theorem dX12_parts_104 : decode cX12_parts 104 = .ok (.iload_n 3, 1) := by decide +kernel
theorem dX12_parts_105 : decode cX12_parts 105 = .ok (.istore_n 3, 1) := by decide +kernel
theorem dX12_parts_106 : decode cX12_parts 106 = .ok (.iload 6, 2) := by decide +kernel
theorem dX12_parts_108 : decode cX12_parts 108 = .ok (.iload 4, 2) := by decide +kernel
theorem dX12_parts_110 : decode cX12_parts 110 = .ok (.if_icmp .le 8, 3) := by decide +kernel
theorem dX12_parts_113 : decode cX12_parts 113 = .ok (.iload 6, 2) := by decide +kernel
theorem dX12_parts_115 : decode cX12_parts 115 = .ok (.goto 5, 3) := by decide +kernel
theorem dX12_parts_118 : decode cX12_parts 118 = .ok (.iload 4, 2) := by decide +kernel
theorem dX12_parts_120 : decode cX12_parts 120 = .ok (.istore 4, 2) := by decide +kernel
theorem dX12_parts_122 : decode cX12_parts 122 = .ok (.iinc 2 1, 3) := by decide +kernel
theorem dX12_parts_125 : decode cX12_parts 125 = .ok (.iinc 5 1, 3) := by decide +kernel
theorem dX12_parts_128 : decode cX12_parts 128 = .ok (.goto (-75), 3) := by decide +kernel
theorem dX12_parts_131 : decode cX12_parts 131 = .ok (.iload_n 1, 1) := by decide +kernel
theorem dX12_parts_132 : decode cX12_parts 132 = .ok (.ifCond .ne 7, 3) := by decide +kernel
theorem dX12_parts_135 : decode cX12_parts 135 = .ok (.iload_n 2, 1) := by decide +kernel
theorem dX12_parts_136 : decode cX12_parts 136 = .ok (.goto 14, 3) := by decide +kernel
theorem dX12_parts_139 : decode cX12_parts 139 = .ok (.iload_n 1, 1) := by decide +kernel
theorem dX12_parts_140 : decode cX12_parts 140 = .ok (.iconst 1, 1) := by decide +kernel
theorem dX12_parts_141 : decode cX12_parts 141 = .ok (.if_icmp .ne 7, 3) := by decide +kernel
theorem dX12_parts_144 : decode cX12_parts 144 = .ok (.iload_n 3, 1) := by decide +kernel
theorem dX12_parts_145 : decode cX12_parts 145 = .ok (.goto 5, 3) := by decide +kernel
theorem dX12_parts_148 : decode cX12_parts 148 = .ok (.iload 4, 2) := by decide +kernel
theorem dX12_parts_150 : decode cX12_parts 150 = .ok (.ireturn, 1) := by decide +kernel
theorem dX12_fills_0 : decode cX12_fills 0 = .ok (.aload_n 0, 1) := by decide +kernel
theorem dX12_fills_1 : decode cX12_fills 1 = .ok (.getfield 108, 3) := by decide +kernel
theorem dX12_fills_4 : decode cX12_fills 4 = .ok (.iload_n 1, 1) := by decide +kernel
theorem dX12_fills_5 : decode cX12_fills 5 = .ok (.iload_n 2, 1) := by decide +kernel
theorem dX12_fills_6 : decode cX12_fills 6 = .ok (.iastore, 1) := by decide +kernel
theorem dX12_fills_7 : decode cX12_fills 7 = .ok (.aload_n 0, 1) := by decide +kernel
