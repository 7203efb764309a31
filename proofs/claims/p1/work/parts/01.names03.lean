theorem dX12_layMasks_30 : decode cX12_layMasks 30 = .ok (.iload_n 2, 1) := by decide +kernel
theorem dX12_layMasks_31 : decode cX12_layMasks 31 = .ok (.iaload, 1) := by decide +kernel
theorem dX12_layMasks_32 : decode cX12_layMasks 32 = .ok (.iload_n 1, 1) := by decide +kernel
theorem dX12_layMasks_33 : decode cX12_layMasks 33 = .ok (.iadd, 1) := by decide +kernel
theorem dX12_layMasks_34 : decode cX12_layMasks 34 = .ok (.iastore, 1) := by decide +kernel
theorem dX12_layMasks_35 : decode cX12_layMasks 35 = .ok (.iload_n 1, 1) := by decide +kernel
theorem dX12_layMasks_36 : decode cX12_layMasks 36 = .ok (.aload_n 0, 1) := by decide +kernel
theorem dX12_layMasks_37 : decode cX12_layMasks 37 = .ok (.getfield 245, 3) := by decide +kernel
theorem dX12_layMasks_40 : decode cX12_layMasks 40 = .ok (.imul, 1) := by decide +kernel
theorem dX12_layMasks_41 : decode cX12_layMasks 41 = .ok (.istore_n 1, 1) := by decide +kernel
theorem dX12_layMasks_42 : decode cX12_layMasks 42 = .ok (.iinc 2 1, 3) := by decide +kernel
theorem dX12_layMasks_45 : decode cX12_layMasks 45 = .ok (.goto (-34), 3) := by decide +kernel
theorem dX12_layMasks_48 : decode cX12_layMasks 48 = .ok (.iconst 0, 1) := by decide +kernel
theorem dX12_layMasks_49 : decode cX12_layMasks 49 = .ok (.istore_n 2, 1) := by decide +kernel
theorem dX12_layMasks_50 : decode cX12_layMasks 50 = .ok (.iload_n 2, 1) := by decide +kernel
theorem dX12_layMasks_51 : decode cX12_layMasks 51 = .ok (.aload_n 0, 1) := by decide +kernel
theorem dX12_layMasks_52 : decode cX12_layMasks 52 = .ok (.getfield 77, 3) := by decide +kernel
theorem dX12_layMasks_55 : decode cX12_layMasks 55 = .ok (.aload_n 0, 1) := by decide +kernel
theorem dX12_layMasks_56 : decode cX12_layMasks 56 = .ok (.getfield 188, 3) := by decide +kernel
theorem dX12_layMasks_59 : decode cX12_layMasks 59 = .ok (.iconst 1, 1) := by decide +kernel
theorem dX12_layMasks_60 : decode cX12_layMasks 60 = .ok (.iadd, 1) := by decide +kernel
theorem dX12_layMasks_61 : decode cX12_layMasks 61 = .ok (.iaload, 1) := by decide +kernel
theorem dX12_layMasks_62 : decode cX12_layMasks 62 = .ok (.if_icmp .ge 16, 3) := by decide +kernel
theorem dX12_layMasks_65 : decode cX12_layMasks 65 = .ok (.aload_n 0, 1) := by decide +kernel
theorem dX12_layMasks_66 : decode cX12_layMasks 66 = .ok (.getfield 80, 3) := by decide +kernel
theorem dX12_layMasks_69 : decode cX12_layMasks 69 = .ok (.iload_n 2, 1) := by decide +kernel
theorem dX12_layMasks_70 : decode cX12_layMasks 70 = .ok (.iconst 0, 1) := by decide +kernel
theorem dX12_layMasks_71 : decode cX12_layMasks 71 = .ok (.iastore, 1) := by decide +kernel
theorem dX12_layMasks_72 : decode cX12_layMasks 72 = .ok (.iinc 2 1, 3) := by decide +kernel
theorem dX12_layMasks_75 : decode cX12_layMasks 75 = .ok (.goto (-25), 3) := by decide +kernel
theorem dX12_layMasks_78 : decode cX12_layMasks 78 = .ok (.iconst 0, 1) := by decide +kernel
theorem dX12_layMasks_79 : decode cX12_layMasks 79 = .ok (.istore_n 2, 1) := by decide +kernel
theorem dX12_layMasks_80 : decode cX12_layMasks 80 = .ok (.iload_n 2, 1) := by decide +kernel
theorem dX12_layMasks_81 : decode cX12_layMasks 81 = .ok (.aload_n 0, 1) := by decide +kernel
theorem dX12_layMasks_82 : decode cX12_layMasks 82 = .ok (.getfield 248, 3) := by decide +kernel
theorem dX12_layMasks_85 : decode cX12_layMasks 85 = .ok (.if_icmp .ge 93, 3) := by decide +kernel
theorem dX12_layMasks_88 : decode cX12_layMasks 88 = .ok (.aload_n 0, 1) := by decide +kernel
theorem dX12_layMasks_89 : decode cX12_layMasks 89 = .ok (.getfield 47, 3) := by decide +kernel
theorem dX12_layMasks_92 : decode cX12_layMasks 92 = .ok (.iload_n 2, 1) := by decide +kernel
theorem dX12_layMasks_93 : decode cX12_layMasks 93 = .ok (.iaload, 1) := by decide +kernel
theorem dX12_layMasks_94 : decode cX12_layMasks 94 = .ok (.ifCond .eq 6, 3) := by decide +kernel
theorem dX12_layMasks_100 : decode cX12_layMasks 100 = .ok (.iconst 0, 1) := by decide +kernel
theorem dX12_layMasks_101 : decode cX12_layMasks 101 = .ok (.istore_n 3, 1) := by decide +kernel
theorem dX12_layMasks_102 : decode cX12_layMasks 102 = .ok (.iconst 0, 1) := by decide +kernel
theorem dX12_layMasks_103 : decode cX12_layMasks 103 = .ok (.istore 4, 2) := by decide +kernel
theorem dX12_layMasks_105 : decode cX12_layMasks 105 = .ok (.iload 4, 2) := by decide +kernel
theorem dX12_layMasks_107 : decode cX12_layMasks 107 = .ok (.aload_n 0, 1) := by decide +kernel
theorem dX12_layMasks_108 : decode cX12_layMasks 108 = .ok (.getfield 188, 3) := by decide +kernel
theorem dX12_layMasks_111 : decode cX12_layMasks 111 = .ok (.if_icmp .ge 54, 3) := by decide +kernel
theorem dX12_layMasks_165 : decode cX12_layMasks 165 = .ok (.aload_n 0, 1) := by decide +kernel
theorem dX12_layMasks_166 : decode cX12_layMasks 166 = .ok (.getfield 87, 3) := by decide +kernel
theorem dX12_layMasks_169 : decode cX12_layMasks 169 = .ok (.iload_n 2, 1) := by decide +kernel
theorem dX12_layMasks_170 : decode cX12_layMasks 170 = .ok (.iload_n 3, 1) := by decide +kernel
theorem dX12_layMasks_171 : decode cX12_layMasks 171 = .ok (.iastore, 1) := by decide +kernel
theorem dX12_layMasks_172 : decode cX12_layMasks 172 = .ok (.iinc 2 1, 3) := by decide +kernel
theorem dX12_layMasks_175 : decode cX12_layMasks 175 = .ok (.goto (-95), 3) := by decide +kernel
theorem dX12_layMasks_178 : decode cX12_layMasks 178 = .ok (.iconst 0, 1) := by decide +kernel
theorem dX12_layMasks_179 : decode cX12_layMasks 179 = .ok (.istore_n 2, 1) := by decide +kernel
theorem dX12_layMasks_180 : decode cX12_layMasks 180 = .ok (.iload_n 2, 1) := by decide +kernel
theorem dX12_layMasks_181 : decode cX12_layMasks 181 = .ok (.bipush 16, 2) := by decide +kernel
theorem dX12_layMasks_183 : decode cX12_layMasks 183 = .ok (.if_icmp .ge 16, 3) := by decide +kernel
theorem dX12_layMasks_186 : decode cX12_layMasks 186 = .ok (.aload_n 0, 1) := by decide +kernel
theorem dX12_layMasks_187 : decode cX12_layMasks 187 = .ok (.getfield 90, 3) := by decide +kernel
theorem dX12_layMasks_190 : decode cX12_layMasks 190 = .ok (.iload_n 2, 1) := by decide +kernel
theorem dX12_layMasks_191 : decode cX12_layMasks 191 = .ok (.iconst 0, 1) := by decide +kernel
theorem dX12_layMasks_192 : decode cX12_layMasks 192 = .ok (.iastore, 1) := by decide +kernel
theorem dX12_layMasks_193 : decode cX12_layMasks 193 = .ok (.iinc 2 1, 3) := by decide +kernel
theorem dX12_layMasks_196 : decode cX12_layMasks 196 = .ok (.goto (-16), 3) := by decide +kernel
theorem dX12_layMasks_199 : decode cX12_layMasks 199 = .ok (.iconst 0, 1) := by decide +kernel
theorem dX12_layMasks_200 : decode cX12_layMasks 200 = .ok (.istore_n 2, 1) := by decide +kernel
theorem dX12_layMasks_201 : decode cX12_layMasks 201 = .ok (.iload_n 2, 1) := by decide +kernel
theorem dX12_layMasks_202 : decode cX12_layMasks 202 = .ok (.aload_n 0, 1) := by decide +kernel
theorem dX12_layMasks_203 : decode cX12_layMasks 203 = .ok (.getfield 245, 3) := by decide +kernel
theorem dX12_layMasks_206 : decode cX12_layMasks 206 = .ok (.if_icmp .ge 50, 3) := by decide +kernel
theorem dX12_layMasks_209 : decode cX12_layMasks 209 = .ok (.iconst 0, 1) := by decide +kernel
theorem dX12_layMasks_210 : decode cX12_layMasks 210 = .ok (.istore_n 3, 1) := by decide +kernel
theorem dX12_layMasks_211 : decode cX12_layMasks 211 = .ok (.iload_n 3, 1) := by decide +kernel
theorem dX12_layMasks_212 : decode cX12_layMasks 212 = .ok (.aload_n 0, 1) := by decide +kernel
theorem dX12_layMasks_213 : decode cX12_layMasks 213 = .ok (.getfield 185, 3) := by decide +kernel
theorem dX12_layMasks_216 : decode cX12_layMasks 216 = .ok (.if_icmp .ge 34, 3) := by decide +kernel
theorem dX12_layMasks_219 : decode cX12_layMasks 219 = .ok (.aload_n 0, 1) := by decide +kernel
theorem dX12_layMasks_220 : decode cX12_layMasks 220 = .ok (.getfield 90, 3) := by decide +kernel
theorem dX12_layMasks_223 : decode cX12_layMasks 223 = .ok (.iconst 4, 1) := by decide +kernel
theorem dX12_layMasks_224 : decode cX12_layMasks 224 = .ok (.iload_n 3, 1) := by decide +kernel
theorem dX12_layMasks_225 : decode cX12_layMasks 225 = .ok (.imul, 1) := by decide +kernel
theorem dX12_layMasks_226 : decode cX12_layMasks 226 = .ok (.aload_n 0, 1) := by decide +kernel
theorem dX12_layMasks_227 : decode cX12_layMasks 227 = .ok (.getfield 44, 3) := by decide +kernel
theorem dX12_layMasks_230 : decode cX12_layMasks 230 = .ok (.iconst 4, 1) := by decide +kernel
theorem dX12_layMasks_231 : decode cX12_layMasks 231 = .ok (.iload_n 2, 1) := by decide +kernel
theorem dX12_layMasks_232 : decode cX12_layMasks 232 = .ok (.imul, 1) := by decide +kernel
theorem dX12_layMasks_233 : decode cX12_layMasks 233 = .ok (.iload_n 3, 1) := by decide +kernel
theorem dX12_layMasks_234 : decode cX12_layMasks 234 = .ok (.iadd, 1) := by decide +kernel
theorem dX12_layMasks_235 : decode cX12_layMasks 235 = .ok (.iaload, 1) := by decide +kernel
theorem dX12_layMasks_236 : decode cX12_layMasks 236 = .ok (.iadd, 1) := by decide +kernel
theorem dX12_layMasks_237 : decode cX12_layMasks 237 = .ok (.dup2, 1) := by decide +kernel
theorem dX12_layMasks_238 : decode cX12_layMasks 238 = .ok (.iaload, 1) := by decide +kernel
theorem dX12_layMasks_239 : decode cX12_layMasks 239 = .ok (.iconst 1, 1) := by decide +kernel
theorem dX12_layMasks_240 : decode cX12_layMasks 240 = .ok (.iload_n 2, 1) := by decide +kernel
theorem dX12_layMasks_241 : decode cX12_layMasks 241 = .ok (.ishl, 1) := by decide +kernel
theorem dX12_layMasks_242 : decode cX12_layMasks 242 = .ok (.ior, 1) := by decide +kernel
theorem dX12_layMasks_243 : decode cX12_layMasks 243 = .ok (.iastore, 1) := by decide +kernel
theorem dX12_layMasks_244 : decode cX12_layMasks 244 = .ok (.iinc 3 1, 3) := by decide +kernel
theorem dX12_layMasks_247 : decode cX12_layMasks 247 = .ok (.goto (-36), 3) := by decide +kernel
theorem dX12_layMasks_250 : decode cX12_layMasks 250 = .ok (.iinc 2 1, 3) := by decide +kernel
theorem dX12_layMasks_253 : decode cX12_layMasks 253 = .ok (.goto (-52), 3) := by decide +kernel
theorem dX12_layMasks_256 : decode cX12_layMasks 256 = .ok (.aload_n 0, 1) := by decide +kernel
theorem dX12_layMasks_257 : decode cX12_layMasks 257 = .ok (.iconst 1, 1) := by decide +kernel
theorem dX12_layMasks_258 : decode cX12_layMasks 258 = .ok (.putfield 288, 3) := by decide +kernel
theorem dX12_layMasks_261 : decode cX12_layMasks 261 = .ok (.iconst 0, 1) := by decide +kernel
theorem dX12_layMasks_262 : decode cX12_layMasks 262 = .ok (.istore_n 2, 1) := by decide +kernel
theorem dX12_layMasks_263 : decode cX12_layMasks 263 = .ok (.iload_n 2, 1) := by decide +kernel
theorem dX12_layMasks_264 : decode cX12_layMasks 264 = .ok (.aload_n 0, 1) := by decide +kernel
theorem dX12_layMasks_265 : decode cX12_layMasks 265 = .ok (.getfield 185, 3) := by decide +kernel
theorem dX12_layMasks_268 : decode cX12_layMasks 268 = .ok (.if_icmp .ge 34, 3) := by decide +kernel
theorem dX12_layMasks_271 : decode cX12_layMasks 271 = .ok (.aload_n 0, 1) := by decide +kernel
theorem dX12_layMasks_272 : decode cX12_layMasks 272 = .ok (.getfield 93, 3) := by decide +kernel
theorem dX12_layMasks_275 : decode cX12_layMasks 275 = .ok (.iload_n 2, 1) := by decide +kernel
theorem dX12_layMasks_276 : decode cX12_layMasks 276 = .ok (.aload_n 0, 1) := by decide +kernel
theorem dX12_layMasks_277 : decode cX12_layMasks 277 = .ok (.getfield 288, 3) := by decide +kernel
theorem dX12_layMasks_280 : decode cX12_layMasks 280 = .ok (.iastore, 1) := by decide +kernel
theorem dX12_layMasks_281 : decode cX12_layMasks 281 = .ok (.aload_n 0, 1) := by decide +kernel
theorem dX12_layMasks_282 : decode cX12_layMasks 282 = .ok (.dup, 1) := by decide +kernel
theorem dX12_layMasks_283 : decode cX12_layMasks 283 = .ok (.getfield 288, 3) := by decide +kernel
theorem dX12_layMasks_286 : decode cX12_layMasks 286 = .ok (.aload_n 0, 1) := by decide +kernel
theorem dX12_layMasks_287 : decode cX12_layMasks 287 = .ok (.getfield 185, 3) := by decide +kernel
theorem dX12_layMasks_290 : decode cX12_layMasks 290 = .ok (.iconst 1, 1) := by decide +kernel
theorem dX12_layMasks_291 : decode cX12_layMasks 291 = .ok (.iadd, 1) := by decide +kernel
theorem dX12_layMasks_292 : decode cX12_layMasks 292 = .ok (.imul, 1) := by decide +kernel
theorem dX12_layMasks_293 : decode cX12_layMasks 293 = .ok (.putfield 288, 3) := by decide +kernel
theorem dX12_layMasks_296 : decode cX12_layMasks 296 = .ok (.iinc 2 1, 3) := by decide +kernel
theorem dX12_layMasks_299 : decode cX12_layMasks 299 = .ok (.goto (-36), 3) := by decide +kernel
theorem dX12_layMasks_302 : decode cX12_layMasks 302 = .ok (.return_, 1) := by decide +kernel
theorem dX12_digit_0 : decode cX12_digit 0 = .ok (.iload_n 1, 1) := by decide +kernel
theorem dX12_digit_1 : decode cX12_digit 1 = .ok (.aload_n 0, 1) := by decide +kernel
theorem dX12_digit_2 : decode cX12_digit 2 = .ok (.getfield 93, 3) := by decide +kernel
theorem dX12_digit_5 : decode cX12_digit 5 = .ok (.iload_n 2, 1) := by decide +kernel
theorem dX12_digit_6 : decode cX12_digit 6 = .ok (.iaload, 1) := by decide +kernel
theorem dX12_digit_7 : decode cX12_digit 7 = .ok (.idiv, 1) := by decide +kernel
theorem dX12_digit_8 : decode cX12_digit 8 = .ok (.aload_n 0, 1) := by decide +kernel
theorem dX12_digit_9 : decode cX12_digit 9 = .ok (.getfield 185, 3) := by decide +kernel
theorem dX12_digit_12 : decode cX12_digit 12 = .ok (.iconst 1, 1) := by decide +kernel
theorem dX12_digit_13 : decode cX12_digit 13 = .ok (.iadd, 1) := by decide +kernel
theorem dX12_digit_14 : decode cX12_digit 14 = .ok (.irem, 1) := by decide +kernel
theorem dX12_digit_15 : decode cX12_digit 15 = .ok (.ireturn, 1) := by decide +kernel
theorem dX12_agreeing_0 : decode cX12_agreeing 0 = .ok (.iload_n 2, 1) := by decide +kernel
theorem dX12_agreeing_1 : decode cX12_agreeing 1 = .ok (.istore_n 3, 1) := by decide +kernel
theorem dX12_agreeing_2 : decode cX12_agreeing 2 = .ok (.iconst 0, 1) := by decide +kernel
theorem dX12_agreeing_3 : decode cX12_agreeing 3 = .ok (.istore 4, 2) := by decide +kernel
theorem dX12_agreeing_5 : decode cX12_agreeing 5 = .ok (.iload 4, 2) := by decide +kernel
theorem dX12_agreeing_7 : decode cX12_agreeing 7 = .ok (.aload_n 0, 1) := by decide +kernel
theorem dX12_agreeing_8 : decode cX12_agreeing 8 = .ok (.getfield 185, 3) := by decide +kernel
theorem dX12_agreeing_11 : decode cX12_agreeing 11 = .ok (.if_icmp .ge 43, 3) := by decide +kernel
theorem dX12_agreeing_14 : decode cX12_agreeing 14 = .ok (.aload_n 0, 1) := by decide +kernel
theorem dX12_agreeing_15 : decode cX12_agreeing 15 = .ok (.iload_n 1, 1) := by decide +kernel
theorem dX12_agreeing_16 : decode cX12_agreeing 16 = .ok (.iload 4, 2) := by decide +kernel
theorem dX12_agreeing_18 : decode cX12_agreeing 18 = .ok (.invokevirtual 291, 3) := by decide +kernel
theorem dX12_agreeing_21 : decode cX12_agreeing 21 = .ok (.aload_n 0, 1) := by decide +kernel
theorem dX12_agreeing_22 : decode cX12_agreeing 22 = .ok (.getfield 185, 3) := by decide +kernel
theorem dX12_agreeing_25 : decode cX12_agreeing 25 = .ok (.if_icmp .ge 23, 3) := by decide +kernel
theorem dX12_agreeing_28 : decode cX12_agreeing 28 = .ok (.iload_n 3, 1) := by decide +kernel
theorem dX12_agreeing_29 : decode cX12_agreeing 29 = .ok (.aload_n 0, 1) := by decide +kernel
theorem dX12_agreeing_30 : decode cX12_agreeing 30 = .ok (.getfield 90, 3) := by decide +kernel
theorem dX12_agreeing_33 : decode cX12_agreeing 33 = .ok (.iconst 4, 1) := by decide +kernel
theorem dX12_agreeing_34 : decode cX12_agreeing 34 = .ok (.iload 4, 2) := by decide +kernel
theorem dX12_agreeing_36 : decode cX12_agreeing 36 = .ok (.imul, 1) := by decide +kernel
theorem dX12_agreeing_37 : decode cX12_agreeing 37 = .ok (.aload_n 0, 1) := by decide +kernel
theorem dX12_agreeing_38 : decode cX12_agreeing 38 = .ok (.iload_n 1, 1) := by decide +kernel
theorem dX12_agreeing_39 : decode cX12_agreeing 39 = .ok (.iload 4, 2) := by decide +kernel
theorem dX12_agreeing_41 : decode cX12_agreeing 41 = .ok (.invokevirtual 291, 3) := by decide +kernel
theorem dX12_agreeing_44 : decode cX12_agreeing 44 = .ok (.iadd, 1) := by decide +kernel
theorem dX12_agreeing_45 : decode cX12_agreeing 45 = .ok (.iaload, 1) := by decide +kernel
theorem dX12_agreeing_46 : decode cX12_agreeing 46 = .ok (.iand, 1) := by decide +kernel
theorem dX12_agreeing_47 : decode cX12_agreeing 47 = .ok (.istore_n 3, 1) := by decide +kernel
theorem dX12_agreeing_48 : decode cX12_agreeing 48 = .ok (.iinc 4 1, 3) := by decide +kernel
theorem dX12_agreeing_51 : decode cX12_agreeing 51 = .ok (.goto (-46), 3) := by decide +kernel
theorem dX12_agreeing_54 : decode cX12_agreeing 54 = .ok (.iload_n 3, 1) := by decide +kernel
theorem dX12_agreeing_55 : decode cX12_agreeing 55 = .ok (.ireturn, 1) := by decide +kernel
theorem dX12_rankOf_0 : decode cX12_rankOf 0 = .ok (.aload_n 0, 1) := by decide +kernel
theorem dX12_rankOf_1 : decode cX12_rankOf 1 = .ok (.iload_n 1, 1) := by decide +kernel
theorem dX12_rankOf_2 : decode cX12_rankOf 2 = .ok (.iconst 1, 1) := by decide +kernel
theorem dX12_rankOf_3 : decode cX12_rankOf 3 = .ok (.aload_n 0, 1) := by decide +kernel
theorem dX12_rankOf_4 : decode cX12_rankOf 4 = .ok (.getfield 245, 3) := by decide +kernel
theorem dX12_rankOf_7 : decode cX12_rankOf 7 = .ok (.ishl, 1) := by decide +kernel
theorem dX12_rankOf_8 : decode cX12_rankOf 8 = .ok (.iconst 1, 1) := by decide +kernel
theorem dX12_rankOf_9 : decode cX12_rankOf 9 = .ok (.isub, 1) := by decide +kernel
theorem dX12_rankOf_10 : decode cX12_rankOf 10 = .ok (.invokevirtual 294, 3) := by decide +kernel
theorem dX12_rankOf_13 : decode cX12_rankOf 13 = .ok (.istore_n 2, 1) := by decide +kernel
theorem dX12_rankOf_14 : decode cX12_rankOf 14 = .ok (.iconst 0, 1) := by decide +kernel
theorem dX12_rankOf_15 : decode cX12_rankOf 15 = .ok (.istore_n 3, 1) := by decide +kernel
theorem dX12_rankOf_16 : decode cX12_rankOf 16 = .ok (.iload_n 2, 1) := by decide +kernel
theorem dX12_rankOf_17 : decode cX12_rankOf 17 = .ok (.iload_n 3, 1) := by decide +kernel
theorem dX12_rankOf_18 : decode cX12_rankOf 18 = .ok (.ishr, 1) := by decide +kernel
theorem dX12_rankOf_19 : decode cX12_rankOf 19 = .ok (.iconst 1, 1) := by decide +kernel
theorem dX12_rankOf_20 : decode cX12_rankOf 20 = .ok (.iand, 1) := by decide +kernel
theorem dX12_rankOf_21 : decode cX12_rankOf 21 = .ok (.ifCond .ne 9, 3) := by decide +kernel
theorem dX12_rankOf_24 : decode cX12_rankOf 24 = .ok (.iinc 3 1, 3) := by decide +kernel
theorem dX12_rankOf_27 : decode cX12_rankOf 27 = .ok (.goto (-11), 3) := by decide +kernel
theorem dX12_rankOf_30 : decode cX12_rankOf 30 = .ok (.iload_n 3, 1) := by decide +kernel
theorem dX12_rankOf_31 : decode cX12_rankOf 31 = .ok (.ireturn, 1) := by decide +kernel
theorem dX12_layStage_0 : decode cX12_layStage 0 = .ok (.aload_n 0, 1) := by decide +kernel
theorem dX12_layStage_1 : decode cX12_layStage 1 = .ok (.getfield 102, 3) := by decide +kernel
theorem dX12_layStage_4 : decode cX12_layStage 4 = .ok (.iload_n 1, 1) := by decide +kernel
theorem dX12_layStage_5 : decode cX12_layStage 5 = .ok (.if_icmp .ne 4, 3) := by decide +kernel
theorem dX12_layStage_9 : decode cX12_layStage 9 = .ok (.aload_n 0, 1) := by decide +kernel
theorem dX12_layStage_10 : decode cX12_layStage 10 = .ok (.invokevirtual 304, 3) := by decide +kernel
theorem dX12_layStage_13 : decode cX12_layStage 13 = .ok (.aload_n 0, 1) := by decide +kernel
theorem dX12_layStage_14 : decode cX12_layStage 14 = .ok (.iload_n 1, 1) := by decide +kernel
theorem dX12_layStage_15 : decode cX12_layStage 15 = .ok (.iconst 1, 1) := by decide +kernel
theorem dX12_layStage_16 : decode cX12_layStage 16 = .ok (.invokevirtual 307, 3) := by decide +kernel
theorem dX12_layStage_19 : decode cX12_layStage 19 = .ok (.aload_n 0, 1) := by decide +kernel
theorem dX12_layStage_20 : decode cX12_layStage 20 = .ok (.iload_n 1, 1) := by decide +kernel
theorem dX12_layStage_21 : decode cX12_layStage 21 = .ok (.putfield 102, 3) := by decide +kernel
theorem dX12_layStage_24 : decode cX12_layStage 24 = .ok (.return_, 1) := by decide +kernel
theorem dX12_layWeights_0 : decode cX12_layWeights 0 = .ok (.aload_n 0, 1) := by decide +kernel
theorem dX12_layWeights_1 : decode cX12_layWeights 1 = .ok (.iconst (-1), 1) := by decide +kernel
theorem dX12_layWeights_2 : decode cX12_layWeights 2 = .ok (.putfield 102, 3) := by decide +kernel
theorem dX12_layWeights_5 : decode cX12_layWeights 5 = .ok (.aload_n 0, 1) := by decide +kernel
theorem dX12_layWeights_6 : decode cX12_layWeights 6 = .ok (.invokevirtual 311, 3) := by decide +kernel
theorem dX12_layWeights_9 : decode cX12_layWeights 9 = .ok (.iload_n 2, 1) := by decide +kernel
theorem dX12_layWeights_10 : decode cX12_layWeights 10 = .ok (.ifCond .eq 10, 3) := by decide +kernel
theorem dX12_layWeights_13 : decode cX12_layWeights 13 = .ok (.aload_n 0, 1) := by decide +kernel
theorem dX12_layWeights_14 : decode cX12_layWeights 14 = .ok (.getfield 234, 3) := by decide +kernel
theorem dX12_layWeights_17 : decode cX12_layWeights 17 = .ok (.goto 4, 3) := by decide +kernel
theorem dX12_layWeights_20 : decode cX12_layWeights 20 = .ok (.iconst 0, 1) := by decide +kernel
theorem dX12_layWeights_21 : decode cX12_layWeights 21 = .ok (.istore_n 3, 1) := by decide +kernel
theorem dX12_layWeights_22 : decode cX12_layWeights 22 = .ok (.iconst 0, 1) := by decide +kernel
theorem dX12_layWeights_23 : decode cX12_layWeights 23 = .ok (.istore 4, 2) := by decide +kernel
theorem dX12_layWeights_25 : decode cX12_layWeights 25 = .ok (.iload 4, 2) := by decide +kernel
theorem dX12_layWeights_27 : decode cX12_layWeights 27 = .ok (.aload_n 0, 1) := by decide +kernel
theorem dX12_layWeights_28 : decode cX12_layWeights 28 = .ok (.getfield 248, 3) := by decide +kernel
theorem dX12_layWeights_31 : decode cX12_layWeights 31 = .ok (.if_icmp .ge 46, 3) := by decide +kernel
theorem dX12_layWeights_34 : decode cX12_layWeights 34 = .ok (.aload_n 0, 1) := by decide +kernel
theorem dX12_layWeights_35 : decode cX12_layWeights 35 = .ok (.getfield 99, 3) := by decide +kernel
theorem dX12_layWeights_38 : decode cX12_layWeights 38 = .ok (.iload 4, 2) := by decide +kernel
theorem dX12_layWeights_40 : decode cX12_layWeights 40 = .ok (.iload_n 1, 1) := by decide +kernel
theorem dX12_layWeights_41 : decode cX12_layWeights 41 = .ok (.iconst 1, 1) := by decide +kernel
theorem dX12_layWeights_42 : decode cX12_layWeights 42 = .ok (.if_icmp .ne 27, 3) := by decide +kernel
theorem dX12_layWeights_45 : decode cX12_layWeights 45 = .ok (.aload_n 0, 1) := by decide +kernel
theorem dX12_layWeights_46 : decode cX12_layWeights 46 = .ok (.getfield 47, 3) := by decide +kernel
theorem dX12_layWeights_49 : decode cX12_layWeights 49 = .ok (.iload 4, 2) := by decide +kernel
theorem dX12_layWeights_51 : decode cX12_layWeights 51 = .ok (.iaload, 1) := by decide +kernel
theorem dX12_layWeights_52 : decode cX12_layWeights 52 = .ok (.ifCond .ne 17, 3) := by decide +kernel
theorem dX12_layWeights_55 : decode cX12_layWeights 55 = .ok (.aload_n 0, 1) := by decide +kernel
theorem dX12_layWeights_56 : decode cX12_layWeights 56 = .ok (.iload 4, 2) := by decide +kernel
theorem dX12_layWeights_58 : decode cX12_layWeights 58 = .ok (.iload_n 3, 1) := by decide +kernel
theorem dX12_layWeights_59 : decode cX12_layWeights 59 = .ok (.invokevirtual 275, 3) := by decide +kernel
theorem dX12_layWeights_62 : decode cX12_layWeights 62 = .ok (.ifCond .eq 7, 3) := by decide +kernel
theorem dX12_layWeights_65 : decode cX12_layWeights 65 = .ok (.lconst 1, 1) := by decide +kernel
theorem dX12_layWeights_66 : decode cX12_layWeights 66 = .ok (.goto 4, 3) := by decide +kernel
theorem dX12_layWeights_69 : decode cX12_layWeights 69 = .ok (.lconst 0, 1) := by decide +kernel
theorem dX12_layWeights_70 : decode cX12_layWeights 70 = .ok (.lastore, 1) := by decide +kernel
theorem dX12_layWeights_71 : decode cX12_layWeights 71 = .ok (.iinc 4 1, 3) := by decide +kernel
theorem dX12_layWeights_74 : decode cX12_layWeights 74 = .ok (.goto (-49), 3) := by decide +kernel
theorem dX12_layWeights_77 : decode cX12_layWeights 77 = .ok (.iload_n 1, 1) := by decide +kernel
theorem dX12_layWeights_78 : decode cX12_layWeights 78 = .ok (.iconst 1, 1) := by decide +kernel
theorem dX12_layWeights_79 : decode cX12_layWeights 79 = .ok (.if_icmp .eq 10, 3) := by decide +kernel
theorem dX12_layWeights_82 : decode cX12_layWeights 82 = .ok (.aload_n 0, 1) := by decide +kernel
theorem dX12_layWeights_83 : decode cX12_layWeights 83 = .ok (.getfield 251, 3) := by decide +kernel
theorem dX12_layWeights_86 : decode cX12_layWeights 86 = .ok (.ifCond .ne 4, 3) := by decide +kernel
theorem dX12_layWeights_89 : decode cX12_layWeights 89 = .ok (.return_, 1) := by decide +kernel
theorem dX12_layWeights_90 : decode cX12_layWeights 90 = .ok (.iconst 0, 1) := by decide +kernel
theorem dX12_layWeights_91 : decode cX12_layWeights 91 = .ok (.istore 4, 2) := by decide +kernel
theorem dX12_layWeights_93 : decode cX12_layWeights 93 = .ok (.iload 4, 2) := by decide +kernel
theorem dX12_layWeights_95 : decode cX12_layWeights 95 = .ok (.aload_n 0, 1) := by decide +kernel
theorem dX12_layWeights_96 : decode cX12_layWeights 96 = .ok (.getfield 77, 3) := by decide +kernel
theorem dX12_layWeights_99 : decode cX12_layWeights 99 = .ok (.aload_n 0, 1) := by decide +kernel
theorem dX12_layWeights_100 : decode cX12_layWeights 100 = .ok (.getfield 188, 3) := by decide +kernel
theorem dX12_layWeights_103 : decode cX12_layWeights 103 = .ok (.iconst 1, 1) := by decide +kernel
theorem dX12_layWeights_104 : decode cX12_layWeights 104 = .ok (.iadd, 1) := by decide +kernel
theorem dX12_layWeights_105 : decode cX12_layWeights 105 = .ok (.iaload, 1) := by decide +kernel
theorem dX12_layWeights_106 : decode cX12_layWeights 106 = .ok (.if_icmp .ge 17, 3) := by decide +kernel
theorem dX12_layWeights_109 : decode cX12_layWeights 109 = .ok (.aload_n 0, 1) := by decide +kernel
theorem dX12_layWeights_110 : decode cX12_layWeights 110 = .ok (.getfield 83, 3) := by decide +kernel
theorem dX12_layWeights_113 : decode cX12_layWeights 113 = .ok (.iload 4, 2) := by decide +kernel
theorem dX12_layWeights_115 : decode cX12_layWeights 115 = .ok (.lconst 0, 1) := by decide +kernel
theorem dX12_layWeights_116 : decode cX12_layWeights 116 = .ok (.lastore, 1) := by decide +kernel
theorem dX12_layWeights_117 : decode cX12_layWeights 117 = .ok (.iinc 4 1, 3) := by decide +kernel
theorem dX12_layWeights_120 : decode cX12_layWeights 120 = .ok (.goto (-27), 3) := by decide +kernel
theorem dX12_layWeights_123 : decode cX12_layWeights 123 = .ok (.iload_n 3, 1) := by decide +kernel
theorem dX12_layWeights_124 : decode cX12_layWeights 124 = .ok (.aload_n 0, 1) := by decide +kernel
theorem dX12_layWeights_125 : decode cX12_layWeights 125 = .ok (.getfield 185, 3) := by decide +kernel
theorem dX12_layWeights_128 : decode cX12_layWeights 128 = .ok (.idiv, 1) := by decide +kernel
theorem dX12_layWeights_129 : decode cX12_layWeights 129 = .ok (.istore 4, 2) := by decide +kernel
theorem dX12_layWeights_131 : decode cX12_layWeights 131 = .ok (.iconst 0, 1) := by decide +kernel
theorem dX12_layWeights_132 : decode cX12_layWeights 132 = .ok (.istore 5, 2) := by decide +kernel
theorem dX12_layWeights_134 : decode cX12_layWeights 134 = .ok (.iconst 0, 1) := by decide +kernel
theorem dX12_layWeights_135 : decode cX12_layWeights 135 = .ok (.istore 6, 2) := by decide +kernel
theorem dX12_layWeights_137 : decode cX12_layWeights 137 = .ok (.iload 6, 2) := by decide +kernel
theorem dX12_layWeights_139 : decode cX12_layWeights 139 = .ok (.iload 4, 2) := by decide +kernel
theorem dX12_layWeights_141 : decode cX12_layWeights 141 = .ok (.if_icmp .ge 35, 3) := by decide +kernel
theorem dX12_layWeights_176 : decode cX12_layWeights 176 = .ok (.aload_n 0, 1) := by decide +kernel
theorem dX12_layWeights_177 : decode cX12_layWeights 177 = .ok (.getfield 83, 3) := by decide +kernel
theorem dX12_layWeights_180 : decode cX12_layWeights 180 = .ok (.aload_n 0, 1) := by decide +kernel
theorem dX12_layWeights_181 : decode cX12_layWeights 181 = .ok (.getfield 77, 3) := by decide +kernel
theorem dX12_layWeights_184 : decode cX12_layWeights 184 = .ok (.iload 4, 2) := by decide +kernel
theorem dX12_layWeights_186 : decode cX12_layWeights 186 = .ok (.iaload, 1) := by decide +kernel
theorem dX12_layWeights_187 : decode cX12_layWeights 187 = .ok (.iload 5, 2) := by decide +kernel
theorem dX12_layWeights_189 : decode cX12_layWeights 189 = .ok (.iadd, 1) := by decide +kernel
theorem dX12_layWeights_190 : decode cX12_layWeights 190 = .ok (.lconst 1, 1) := by decide +kernel
theorem dX12_layWeights_191 : decode cX12_layWeights 191 = .ok (.lastore, 1) := by decide +kernel
theorem dX12_layWeights_192 : decode cX12_layWeights 192 = .ok (.aload_n 0, 1) := by decide +kernel
theorem dX12_layWeights_193 : decode cX12_layWeights 193 = .ok (.getfield 288, 3) := by decide +kernel
theorem dX12_layWeights_196 : decode cX12_layWeights 196 = .ok (.iconst 1, 1) := by decide +kernel
theorem dX12_layWeights_197 : decode cX12_layWeights 197 = .ok (.isub, 1) := by decide +kernel
theorem dX12_layWeights_198 : decode cX12_layWeights 198 = .ok (.istore 6, 2) := by decide +kernel
theorem dX12_layWeights_200 : decode cX12_layWeights 200 = .ok (.iload 4, 2) := by decide +kernel
theorem dX12_layWeights_202 : decode cX12_layWeights 202 = .ok (.istore 7, 2) := by decide +kernel
theorem dX12_layWeights_204 : decode cX12_layWeights 204 = .ok (.iload 7, 2) := by decide +kernel
theorem dX12_layWeights_206 : decode cX12_layWeights 206 = .ok (.aload_n 0, 1) := by decide +kernel
theorem dX12_layWeights_207 : decode cX12_layWeights 207 = .ok (.getfield 188, 3) := by decide +kernel
theorem dX12_layWeights_210 : decode cX12_layWeights 210 = .ok (.if_icmp .ge 110, 3) := by decide +kernel
theorem dX12_layWeights_320 : decode cX12_layWeights 320 = .ok (.iconst 0, 1) := by decide +kernel
theorem dX12_layWeights_321 : decode cX12_layWeights 321 = .ok (.istore 7, 2) := by decide +kernel
theorem dX12_layWeights_323 : decode cX12_layWeights 323 = .ok (.iload 7, 2) := by decide +kernel
theorem dX12_layWeights_325 : decode cX12_layWeights 325 = .ok (.aload_n 0, 1) := by decide +kernel
theorem dX12_layWeights_326 : decode cX12_layWeights 326 = .ok (.getfield 248, 3) := by decide +kernel
theorem dX12_layWeights_329 : decode cX12_layWeights 329 = .ok (.if_icmp .ge 52, 3) := by decide +kernel
theorem dX12_layWeights_332 : decode cX12_layWeights 332 = .ok (.aload_n 0, 1) := by decide +kernel
theorem dX12_layWeights_333 : decode cX12_layWeights 333 = .ok (.getfield 99, 3) := by decide +kernel
theorem dX12_layWeights_336 : decode cX12_layWeights 336 = .ok (.iload 7, 2) := by decide +kernel
theorem dX12_layWeights_338 : decode cX12_layWeights 338 = .ok (.aload_n 0, 1) := by decide +kernel
theorem dX12_layWeights_339 : decode cX12_layWeights 339 = .ok (.getfield 47, 3) := by decide +kernel
theorem dX12_layWeights_342 : decode cX12_layWeights 342 = .ok (.iload 7, 2) := by decide +kernel
theorem dX12_layWeights_344 : decode cX12_layWeights 344 = .ok (.iaload, 1) := by decide +kernel
theorem dX12_layWeights_345 : decode cX12_layWeights 345 = .ok (.ifCond .ne 28, 3) := by decide +kernel
theorem dX12_layWeights_348 : decode cX12_layWeights 348 = .ok (.aload_n 0, 1) := by decide +kernel
theorem dX12_layWeights_349 : decode cX12_layWeights 349 = .ok (.getfield 83, 3) := by decide +kernel
theorem dX12_layWeights_352 : decode cX12_layWeights 352 = .ok (.aload_n 0, 1) := by decide +kernel
theorem dX12_layWeights_353 : decode cX12_layWeights 353 = .ok (.getfield 77, 3) := by decide +kernel
theorem dX12_layWeights_356 : decode cX12_layWeights 356 = .ok (.aload_n 0, 1) := by decide +kernel
theorem dX12_layWeights_357 : decode cX12_layWeights 357 = .ok (.getfield 188, 3) := by decide +kernel
theorem dX12_layWeights_360 : decode cX12_layWeights 360 = .ok (.iaload, 1) := by decide +kernel
theorem dX12_layWeights_361 : decode cX12_layWeights 361 = .ok (.aload_n 0, 1) := by decide +kernel
theorem dX12_layWeights_362 : decode cX12_layWeights 362 = .ok (.getfield 87, 3) := by decide +kernel
theorem dX12_layWeights_365 : decode cX12_layWeights 365 = .ok (.iload 7, 2) := by decide +kernel
theorem dX12_layWeights_367 : decode cX12_layWeights 367 = .ok (.iaload, 1) := by decide +kernel
theorem dX12_layWeights_368 : decode cX12_layWeights 368 = .ok (.iadd, 1) := by decide +kernel
theorem dX12_layWeights_369 : decode cX12_layWeights 369 = .ok (.laload, 1) := by decide +kernel
theorem dX12_layWeights_370 : decode cX12_layWeights 370 = .ok (.goto 4, 3) := by decide +kernel
theorem dX12_layWeights_374 : decode cX12_layWeights 374 = .ok (.lastore, 1) := by decide +kernel
theorem dX12_layWeights_375 : decode cX12_layWeights 375 = .ok (.iinc 7 1, 3) := by decide +kernel
theorem dX12_layWeights_378 : decode cX12_layWeights 378 = .ok (.goto (-55), 3) := by decide +kernel
theorem dX12_layWeights_381 : decode cX12_layWeights 381 = .ok (.return_, 1) := by decide +kernel
theorem dX12_allRows_0 : decode cX12_allRows 0 = .ok (.lconst 0, 1) := by decide +kernel
theorem dX12_allRows_1 : decode cX12_allRows 1 = .ok (.lstore_n 1, 1) := by decide +kernel
theorem dX12_allRows_2 : decode cX12_allRows 2 = .ok (.iconst 0, 1) := by decide +kernel
theorem dX12_allRows_3 : decode cX12_allRows 3 = .ok (.istore_n 3, 1) := by decide +kernel
theorem dX12_allRows_4 : decode cX12_allRows 4 = .ok (.iload_n 3, 1) := by decide +kernel
theorem dX12_allRows_5 : decode cX12_allRows 5 = .ok (.aload_n 0, 1) := by decide +kernel
theorem dX12_allRows_6 : decode cX12_allRows 6 = .ok (.getfield 248, 3) := by decide +kernel
theorem dX12_allRows_9 : decode cX12_allRows 9 = .ok (.if_icmp .ge 18, 3) := by decide +kernel
theorem dX12_allRows_12 : decode cX12_allRows 12 = .ok (.lload_n 1, 1) := by decide +kernel
theorem dX12_allRows_13 : decode cX12_allRows 13 = .ok (.aload_n 0, 1) := by decide +kernel
theorem dX12_allRows_14 : decode cX12_allRows 14 = .ok (.getfield 99, 3) := by decide +kernel
theorem dX12_allRows_17 : decode cX12_allRows 17 = .ok (.iload_n 3, 1) := by decide +kernel
theorem dX12_allRows_18 : decode cX12_allRows 18 = .ok (.laload, 1) := by decide +kernel
theorem dX12_allRows_19 : decode cX12_allRows 19 = .ok (.ladd, 1) := by decide +kernel
theorem dX12_allRows_20 : decode cX12_allRows 20 = .ok (.lstore_n 1, 1) := by decide +kernel
theorem dX12_allRows_21 : decode cX12_allRows 21 = .ok (.iinc 3 1, 3) := by decide +kernel
theorem dX12_allRows_24 : decode cX12_allRows 24 = .ok (.goto (-20), 3) := by decide +kernel
theorem dX12_allRows_27 : decode cX12_allRows 27 = .ok (.lload_n 1, 1) := by decide +kernel
theorem dX12_allRows_28 : decode cX12_allRows 28 = .ok (.lreturn, 1) := by decide +kernel
theorem dX12_isWay_0 : decode cX12_isWay 0 = .ok (.iload_n 0, 1) := by decide +kernel
theorem dX12_isWay_1 : decode cX12_isWay 1 = .ok (.ifCond .lt 12, 3) := by decide +kernel
theorem dX12_isWay_4 : decode cX12_isWay 4 = .ok (.iload_n 0, 1) := by decide +kernel
theorem dX12_isWay_5 : decode cX12_isWay 5 = .ok (.iconst 3, 1) := by decide +kernel
theorem dX12_isWay_6 : decode cX12_isWay 6 = .ok (.if_icmp .ge 7, 3) := by decide +kernel
theorem dX12_isWay_9 : decode cX12_isWay 9 = .ok (.iconst 1, 1) := by decide +kernel
theorem dX12_isWay_10 : decode cX12_isWay 10 = .ok (.goto 4, 3) := by decide +kernel
theorem dX12_isWay_13 : decode cX12_isWay 13 = .ok (.iconst 0, 1) := by decide +kernel
theorem dX12_isWay_14 : decode cX12_isWay 14 = .ok (.ireturn, 1) := by decide +kernel
theorem dX12_pair_0 : decode cX12_pair 0 = .ok (.aload_n 0, 1) := by decide +kernel
theorem dX12_pair_1 : decode cX12_pair 1 = .ok (.iconst 0, 1) := by decide +kernel
theorem dX12_pair_2 : decode cX12_pair 2 = .ok (.putfield 132, 3) := by decide +kernel
theorem dX12_pair_5 : decode cX12_pair 5 = .ok (.aload_n 0, 1) := by decide +kernel
theorem dX12_pair_6 : decode cX12_pair 6 = .ok (.iload_n 1, 1) := by decide +kernel
theorem dX12_pair_7 : decode cX12_pair 7 = .ok (.invokevirtual 269, 3) := by decide +kernel
theorem dX12_pair_10 : decode cX12_pair 10 = .ok (.ifCond .eq 23, 3) := by decide +kernel
theorem dX12_pair_33 : decode cX12_pair 33 = .ok (.ldc2_w 327, 3) := by decide +kernel
theorem dX12_pair_36 : decode cX12_pair 36 = .ok (.lreturn, 1) := by decide +kernel
theorem dX12_place_0 : decode cX12_place 0 = .ok (.aload_n 0, 1) := by decide +kernel
theorem dX12_place_1 : decode cX12_place 1 = .ok (.iconst 0, 1) := by decide +kernel
theorem dX12_place_2 : decode cX12_place 2 = .ok (.putfield 132, 3) := by decide +kernel
theorem dX12_place_5 : decode cX12_place 5 = .ok (.aload_n 0, 1) := by decide +kernel
theorem dX12_place_6 : decode cX12_place 6 = .ok (.iload_n 1, 1) := by decide +kernel
theorem dX12_place_7 : decode cX12_place 7 = .ok (.invokevirtual 269, 3) := by decide +kernel
theorem dX12_place_10 : decode cX12_place 10 = .ok (.ifCond .eq 22, 3) := by decide +kernel
theorem dX12_place_32 : decode cX12_place 32 = .ok (.ldc2_w 327, 3) := by decide +kernel
theorem dX12_place_35 : decode cX12_place 35 = .ok (.lreturn, 1) := by decide +kernel
theorem dX12_all_0 : decode cX12_all 0 = .ok (.aload_n 0, 1) := by decide +kernel
theorem dX12_all_1 : decode cX12_all 1 = .ok (.iconst 0, 1) := by decide +kernel
theorem dX12_all_2 : decode cX12_all 2 = .ok (.putfield 132, 3) := by decide +kernel
theorem dX12_all_5 : decode cX12_all 5 = .ok (.iload_n 1, 1) := by decide +kernel
theorem dX12_all_6 : decode cX12_all 6 = .ok (.invokestatic 324, 3) := by decide +kernel
theorem dX12_all_9 : decode cX12_all 9 = .ok (.ifCond .ne 7, 3) := by decide +kernel
theorem dX12_all_12 : decode cX12_all 12 = .ok (.ldc2_w 327, 3) := by decide +kernel
theorem dX12_all_15 : decode cX12_all 15 = .ok (.lreturn, 1) := by decide +kernel
theorem dX12_all_16 : decode cX12_all 16 = .ok (.aload_n 0, 1) := by decide +kernel
theorem dX12_all_17 : decode cX12_all 17 = .ok (.iload_n 1, 1) := by decide +kernel
theorem dX12_all_18 : decode cX12_all 18 = .ok (.invokevirtual 329, 3) := by decide +kernel
theorem dX12_all_21 : decode cX12_all 21 = .ok (.aload_n 0, 1) := by decide +kernel
theorem dX12_all_22 : decode cX12_all 22 = .ok (.invokevirtual 337, 3) := by decide +kernel
theorem dX12_all_25 : decode cX12_all 25 = .ok (.lreturn, 1) := by decide +kernel
theorem dX12_layApart_0 : decode cX12_layApart 0 = .ok (.aload_n 0, 1) := by decide +kernel
theorem dX12_layApart_1 : decode cX12_layApart 1 = .ok (.iload_n 1, 1) := by decide +kernel
theorem dX12_layApart_2 : decode cX12_layApart 2 = .ok (.iconst 0, 1) := by decide +kernel
theorem dX12_layApart_3 : decode cX12_layApart 3 = .ok (.invokevirtual 307, 3) := by decide +kernel
theorem dX12_layApart_6 : decode cX12_layApart 6 = .ok (.aload_n 0, 1) := by decide +kernel
theorem dX12_layApart_7 : decode cX12_layApart 7 = .ok (.invokevirtual 337, 3) := by decide +kernel
theorem dX12_layApart_10 : decode cX12_layApart 10 = .ok (.lstore_n 3, 1) := by decide +kernel
theorem dX12_layApart_11 : decode cX12_layApart 11 = .ok (.iconst 0, 1) := by decide +kernel
theorem dX12_layApart_12 : decode cX12_layApart 12 = .ok (.istore 5, 2) := by decide +kernel
theorem dX12_layApart_14 : decode cX12_layApart 14 = .ok (.iload 5, 2) := by decide +kernel
theorem dX12_layApart_16 : decode cX12_layApart 16 = .ok (.aload_n 0, 1) := by decide +kernel
theorem dX12_layApart_17 : decode cX12_layApart 17 = .ok (.invokevirtual 241, 3) := by decide +kernel
theorem dX12_layApart_20 : decode cX12_layApart 20 = .ok (.if_icmp .ge 51, 3) := by decide +kernel
theorem dX12_layApart_71 : decode cX12_layApart 71 = .ok (.aload_n 0, 1) := by decide +kernel
theorem dX12_layApart_72 : decode cX12_layApart 72 = .ok (.iload_n 2, 1) := by decide +kernel
theorem dX12_layApart_73 : decode cX12_layApart 73 = .ok (.iconst 0, 1) := by decide +kernel
theorem dX12_layApart_74 : decode cX12_layApart 74 = .ok (.invokevirtual 307, 3) := by decide +kernel
theorem dX12_layApart_77 : decode cX12_layApart 77 = .ok (.aload_n 0, 1) := by decide +kernel
theorem dX12_layApart_78 : decode cX12_layApart 78 = .ok (.invokevirtual 337, 3) := by decide +kernel
theorem dX12_layApart_81 : decode cX12_layApart 81 = .ok (.lstore 5, 2) := by decide +kernel
theorem dX12_layApart_83 : decode cX12_layApart 83 = .ok (.aload_n 0, 1) := by decide +kernel
theorem dX12_layApart_84 : decode cX12_layApart 84 = .ok (.lload_n 3, 1) := by decide +kernel
theorem dX12_layApart_85 : decode cX12_layApart 85 = .ok (.lload 5, 2) := by decide +kernel
theorem dX12_layApart_87 : decode cX12_layApart 87 = .ok (.lmul, 1) := by decide +kernel
theorem dX12_layApart_88 : decode cX12_layApart 88 = .ok (.putfield 341, 3) := by decide +kernel
theorem dX12_layApart_91 : decode cX12_layApart 91 = .ok (.aload_n 0, 1) := by decide +kernel
theorem dX12_layApart_92 : decode cX12_layApart 92 = .ok (.lconst 0, 1) := by decide +kernel
theorem dX12_layApart_93 : decode cX12_layApart 93 = .ok (.putfield 345, 3) := by decide +kernel
theorem dX12_layApart_96 : decode cX12_layApart 96 = .ok (.aload_n 0, 1) := by decide +kernel
theorem dX12_layApart_97 : decode cX12_layApart 97 = .ok (.lconst 0, 1) := by decide +kernel
theorem dX12_layApart_98 : decode cX12_layApart 98 = .ok (.putfield 348, 3) := by decide +kernel
theorem dX12_layApart_101 : decode cX12_layApart 101 = .ok (.aload_n 0, 1) := by decide +kernel
theorem dX12_layApart_102 : decode cX12_layApart 102 = .ok (.iconst (-1), 1) := by decide +kernel
theorem dX12_layApart_103 : decode cX12_layApart 103 = .ok (.putfield 351, 3) := by decide +kernel
theorem dX12_layApart_106 : decode cX12_layApart 106 = .ok (.aload_n 0, 1) := by decide +kernel
theorem dX12_layApart_107 : decode cX12_layApart 107 = .ok (.iconst (-1), 1) := by decide +kernel
theorem dX12_layApart_108 : decode cX12_layApart 108 = .ok (.putfield 354, 3) := by decide +kernel
theorem dX12_layApart_111 : decode cX12_layApart 111 = .ok (.aload_n 0, 1) := by decide +kernel
theorem dX12_layApart_112 : decode cX12_layApart 112 = .ok (.lconst 0, 1) := by decide +kernel
theorem dX12_layApart_113 : decode cX12_layApart 113 = .ok (.putfield 357, 3) := by decide +kernel
theorem dX12_layApart_116 : decode cX12_layApart 116 = .ok (.iconst 0, 1) := by decide +kernel
theorem dX12_layApart_117 : decode cX12_layApart 117 = .ok (.istore 7, 2) := by decide +kernel
theorem dX12_layApart_119 : decode cX12_layApart 119 = .ok (.iload 7, 2) := by decide +kernel
theorem dX12_layApart_121 : decode cX12_layApart 121 = .ok (.aload_n 0, 1) := by decide +kernel
theorem dX12_layApart_122 : decode cX12_layApart 122 = .ok (.invokevirtual 241, 3) := by decide +kernel
theorem dX12_layApart_125 : decode cX12_layApart 125 = .ok (.if_icmp .ge 152, 3) := by decide +kernel
theorem dX12_layApart_277 : decode cX12_layApart 277 = .ok (.return_, 1) := by decide +kernel
theorem dX12_apart_0 : decode cX12_apart 0 = .ok (.aload_n 0, 1) := by decide +kernel
theorem dX12_apart_1 : decode cX12_apart 1 = .ok (.iconst 0, 1) := by decide +kernel
theorem dX12_apart_2 : decode cX12_apart 2 = .ok (.putfield 132, 3) := by decide +kernel
theorem dX12_apart_5 : decode cX12_apart 5 = .ok (.iload_n 1, 1) := by decide +kernel
theorem dX12_apart_6 : decode cX12_apart 6 = .ok (.invokestatic 324, 3) := by decide +kernel
theorem dX12_apart_9 : decode cX12_apart 9 = .ok (.ifCond .eq 31, 3) := by decide +kernel
theorem dX12_apart_12 : decode cX12_apart 12 = .ok (.iload_n 2, 1) := by decide +kernel
theorem dX12_apart_13 : decode cX12_apart 13 = .ok (.invokestatic 324, 3) := by decide +kernel
theorem dX12_apart_16 : decode cX12_apart 16 = .ok (.ifCond .eq 24, 3) := by decide +kernel
theorem dX12_apart_19 : decode cX12_apart 19 = .ok (.iload_n 1, 1) := by decide +kernel
theorem dX12_apart_20 : decode cX12_apart 20 = .ok (.iload_n 2, 1) := by decide +kernel
theorem dX12_apart_21 : decode cX12_apart 21 = .ok (.if_icmp .eq 19, 3) := by decide +kernel
theorem dX12_apart_24 : decode cX12_apart 24 = .ok (.iload_n 3, 1) := by decide +kernel
theorem dX12_apart_25 : decode cX12_apart 25 = .ok (.iconst 0, 1) := by decide +kernel
theorem dX12_apart_26 : decode cX12_apart 26 = .ok (.iconst 5, 1) := by decide +kernel
theorem dX12_apart_27 : decode cX12_apart 27 = .ok (.invokestatic 237, 3) := by decide +kernel
theorem dX12_apart_30 : decode cX12_apart 30 = .ok (.ifCond .eq 10, 3) := by decide +kernel
theorem dX12_apart_33 : decode cX12_apart 33 = .ok (.aload_n 0, 1) := by decide +kernel
theorem dX12_apart_34 : decode cX12_apart 34 = .ok (.getfield 251, 3) := by decide +kernel
theorem dX12_apart_37 : decode cX12_apart 37 = .ok (.ifCond .ne 7, 3) := by decide +kernel
theorem dX12_apart_40 : decode cX12_apart 40 = .ok (.ldc2_w 360, 3) := by decide +kernel
theorem dX12_apart_43 : decode cX12_apart 43 = .ok (.lreturn, 1) := by decide +kernel
theorem dX12_apart_44 : decode cX12_apart 44 = .ok (.aload_n 0, 1) := by decide +kernel
theorem dX12_apart_45 : decode cX12_apart 45 = .ok (.invokevirtual 304, 3) := by decide +kernel
theorem dX12_apart_48 : decode cX12_apart 48 = .ok (.aload_n 0, 1) := by decide +kernel
theorem dX12_apart_49 : decode cX12_apart 49 = .ok (.iload_n 1, 1) := by decide +kernel
theorem dX12_apart_50 : decode cX12_apart 50 = .ok (.iload_n 2, 1) := by decide +kernel
theorem dX12_apart_51 : decode cX12_apart 51 = .ok (.invokevirtual 362, 3) := by decide +kernel
theorem dX12_apart_54 : decode cX12_apart 54 = .ok (.iload_n 3, 1) := by decide +kernel
theorem dX12_apart_55 : decode cX12_apart 55 = .ok (.ifCond .ne 10, 3) := by decide +kernel
theorem dX12_apart_58 : decode cX12_apart 58 = .ok (.aload_n 0, 1) := by decide +kernel
theorem dX12_apart_59 : decode cX12_apart 59 = .ok (.getfield 345, 3) := by decide +kernel
theorem dX12_apart_62 : decode cX12_apart 62 = .ok (.goto 57, 3) := by decide +kernel
theorem dX12_apart_65 : decode cX12_apart 65 = .ok (.iload_n 3, 1) := by decide +kernel
theorem dX12_apart_66 : decode cX12_apart 66 = .ok (.iconst 1, 1) := by decide +kernel
theorem dX12_apart_67 : decode cX12_apart 67 = .ok (.if_icmp .ne 10, 3) := by decide +kernel
theorem dX12_apart_70 : decode cX12_apart 70 = .ok (.aload_n 0, 1) := by decide +kernel
theorem dX12_apart_71 : decode cX12_apart 71 = .ok (.getfield 348, 3) := by decide +kernel
theorem dX12_apart_74 : decode cX12_apart 74 = .ok (.goto 45, 3) := by decide +kernel
theorem dX12_apart_77 : decode cX12_apart 77 = .ok (.iload_n 3, 1) := by decide +kernel
theorem dX12_apart_78 : decode cX12_apart 78 = .ok (.iconst 2, 1) := by decide +kernel
theorem dX12_apart_79 : decode cX12_apart 79 = .ok (.if_icmp .ne 11, 3) := by decide +kernel
theorem dX12_apart_82 : decode cX12_apart 82 = .ok (.aload_n 0, 1) := by decide +kernel
theorem dX12_apart_83 : decode cX12_apart 83 = .ok (.getfield 351, 3) := by decide +kernel
theorem dX12_apart_86 : decode cX12_apart 86 = .ok (.i2l, 1) := by decide +kernel
theorem dX12_apart_87 : decode cX12_apart 87 = .ok (.goto 32, 3) := by decide +kernel
theorem dX12_apart_90 : decode cX12_apart 90 = .ok (.iload_n 3, 1) := by decide +kernel
theorem dX12_apart_91 : decode cX12_apart 91 = .ok (.iconst 3, 1) := by decide +kernel
theorem dX12_apart_92 : decode cX12_apart 92 = .ok (.if_icmp .ne 11, 3) := by decide +kernel
theorem dX12_apart_95 : decode cX12_apart 95 = .ok (.aload_n 0, 1) := by decide +kernel
theorem dX12_apart_96 : decode cX12_apart 96 = .ok (.getfield 354, 3) := by decide +kernel
theorem dX12_apart_99 : decode cX12_apart 99 = .ok (.i2l, 1) := by decide +kernel
theorem dX12_apart_100 : decode cX12_apart 100 = .ok (.goto 19, 3) := by decide +kernel
theorem dX12_apart_103 : decode cX12_apart 103 = .ok (.iload_n 3, 1) := by decide +kernel
theorem dX12_apart_104 : decode cX12_apart 104 = .ok (.iconst 4, 1) := by decide +kernel
theorem dX12_apart_105 : decode cX12_apart 105 = .ok (.if_icmp .ne 10, 3) := by decide +kernel
theorem dX12_apart_108 : decode cX12_apart 108 = .ok (.aload_n 0, 1) := by decide +kernel
theorem dX12_apart_109 : decode cX12_apart 109 = .ok (.getfield 357, 3) := by decide +kernel
theorem dX12_apart_112 : decode cX12_apart 112 = .ok (.goto 7, 3) := by decide +kernel
theorem dX12_apart_115 : decode cX12_apart 115 = .ok (.aload_n 0, 1) := by decide +kernel
theorem dX12_apart_116 : decode cX12_apart 116 = .ok (.getfield 341, 3) := by decide +kernel
theorem dX12_apart_119 : decode cX12_apart 119 = .ok (.lreturn, 1) := by decide +kernel
theorem dX12_nearest_0 : decode cX12_nearest 0 = .ok (.aload_n 0, 1) := by decide +kernel
theorem dX12_nearest_1 : decode cX12_nearest 1 = .ok (.iconst 0, 1) := by decide +kernel
theorem dX12_nearest_2 : decode cX12_nearest 2 = .ok (.putfield 132, 3) := by decide +kernel
theorem dX12_nearest_5 : decode cX12_nearest 5 = .ok (.iload_n 1, 1) := by decide +kernel
theorem dX12_nearest_6 : decode cX12_nearest 6 = .ok (.iconst 0, 1) := by decide +kernel
theorem dX12_nearest_7 : decode cX12_nearest 7 = .ok (.iconst 1, 1) := by decide +kernel
theorem dX12_nearest_8 : decode cX12_nearest 8 = .ok (.invokestatic 237, 3) := by decide +kernel
theorem dX12_nearest_11 : decode cX12_nearest 11 = .ok (.ifCond .ne 5, 3) := by decide +kernel
theorem dX12_nearest_14 : decode cX12_nearest 14 = .ok (.iconst (-1), 1) := by decide +kernel
theorem dX12_nearest_15 : decode cX12_nearest 15 = .ok (.ireturn, 1) := by decide +kernel
theorem dX12_nearest_16 : decode cX12_nearest 16 = .ok (.aload_n 0, 1) := by decide +kernel
theorem dX12_nearest_17 : decode cX12_nearest 17 = .ok (.getfield 251, 3) := by decide +kernel
theorem dX12_nearest_20 : decode cX12_nearest 20 = .ok (.ifCond .ne 6, 3) := by decide +kernel
theorem dX12_nearest_26 : decode cX12_nearest 26 = .ok (.aload_n 0, 1) := by decide +kernel
theorem dX12_nearest_27 : decode cX12_nearest 27 = .ok (.invokevirtual 304, 3) := by decide +kernel
theorem dX12_nearest_30 : decode cX12_nearest 30 = .ok (.iload_n 1, 1) := by decide +kernel
theorem dX12_nearest_31 : decode cX12_nearest 31 = .ok (.ifCond .ne 10, 3) := by decide +kernel
theorem dX12_nearest_34 : decode cX12_nearest 34 = .ok (.aload_n 0, 1) := by decide +kernel
theorem dX12_nearest_35 : decode cX12_nearest 35 = .ok (.getfield 188, 3) := by decide +kernel
theorem dX12_nearest_38 : decode cX12_nearest 38 = .ok (.goto 7, 3) := by decide +kernel
theorem dX12_nearest_41 : decode cX12_nearest 41 = .ok (.aload_n 0, 1) := by decide +kernel
theorem dX12_nearest_42 : decode cX12_nearest 42 = .ok (.getfield 185, 3) := by decide +kernel
theorem dX12_nearest_45 : decode cX12_nearest 45 = .ok (.istore_n 2, 1) := by decide +kernel
theorem dX12_nearest_46 : decode cX12_nearest 46 = .ok (.iconst (-1), 1) := by decide +kernel
theorem dX12_nearest_47 : decode cX12_nearest 47 = .ok (.istore_n 3, 1) := by decide +kernel
theorem dX12_nearest_48 : decode cX12_nearest 48 = .ok (.lconst 0, 1) := by decide +kernel
theorem dX12_nearest_49 : decode cX12_nearest 49 = .ok (.lstore 4, 2) := by decide +kernel
theorem dX12_nearest_51 : decode cX12_nearest 51 = .ok (.iconst 0, 1) := by decide +kernel
theorem dX12_nearest_52 : decode cX12_nearest 52 = .ok (.istore 6, 2) := by decide +kernel
theorem dX12_nearest_54 : decode cX12_nearest 54 = .ok (.iload 6, 2) := by decide +kernel
theorem dX12_nearest_56 : decode cX12_nearest 56 = .ok (.iconst 1, 1) := by decide +kernel
theorem dX12_nearest_57 : decode cX12_nearest 57 = .ok (.iconst 2, 1) := by decide +kernel
theorem dX12_nearest_58 : decode cX12_nearest 58 = .ok (.iload_n 2, 1) := by decide +kernel
theorem dX12_nearest_59 : decode cX12_nearest 59 = .ok (.imul, 1) := by decide +kernel
theorem dX12_nearest_60 : decode cX12_nearest 60 = .ok (.ishl, 1) := by decide +kernel
theorem dX12_nearest_61 : decode cX12_nearest 61 = .ok (.if_icmp .ge 149, 3) := by decide +kernel
theorem dX12_nearest_64 : decode cX12_nearest 64 = .ok (.iconst 0, 1) := by decide +kernel
theorem dX12_nearest_65 : decode cX12_nearest 65 = .ok (.istore 7, 2) := by decide +kernel
theorem dX12_nearest_67 : decode cX12_nearest 67 = .ok (.iconst 0, 1) := by decide +kernel
theorem dX12_nearest_68 : decode cX12_nearest 68 = .ok (.istore 8, 2) := by decide +kernel
theorem dX12_nearest_70 : decode cX12_nearest 70 = .ok (.iload 8, 2) := by decide +kernel
theorem dX12_nearest_72 : decode cX12_nearest 72 = .ok (.iload_n 2, 1) := by decide +kernel
theorem dX12_nearest_73 : decode cX12_nearest 73 = .ok (.if_icmp .ge 32, 3) := by decide +kernel
theorem dX12_nearest_76 : decode cX12_nearest 76 = .ok (.iload 7, 2) := by decide +kernel
theorem dX12_nearest_78 : decode cX12_nearest 78 = .ok (.iload 6, 2) := by decide +kernel
theorem dX12_nearest_80 : decode cX12_nearest 80 = .ok (.iconst 2, 1) := by decide +kernel
theorem dX12_nearest_81 : decode cX12_nearest 81 = .ok (.iload_n 2, 1) := by decide +kernel
theorem dX12_nearest_82 : decode cX12_nearest 82 = .ok (.iconst 1, 1) := by decide +kernel
theorem dX12_nearest_83 : decode cX12_nearest 83 = .ok (.isub, 1) := by decide +kernel
theorem dX12_nearest_84 : decode cX12_nearest 84 = .ok (.iload 8, 2) := by decide +kernel
theorem dX12_nearest_86 : decode cX12_nearest 86 = .ok (.isub, 1) := by decide +kernel
theorem dX12_nearest_87 : decode cX12_nearest 87 = .ok (.imul, 1) := by decide +kernel
theorem dX12_nearest_88 : decode cX12_nearest 88 = .ok (.ishr, 1) := by decide +kernel
theorem dX12_nearest_89 : decode cX12_nearest 89 = .ok (.iconst 3, 1) := by decide +kernel
theorem dX12_nearest_90 : decode cX12_nearest 90 = .ok (.iand, 1) := by decide +kernel
theorem dX12_nearest_91 : decode cX12_nearest 91 = .ok (.iconst 2, 1) := by decide +kernel
theorem dX12_nearest_92 : decode cX12_nearest 92 = .ok (.iload 8, 2) := by decide +kernel
theorem dX12_nearest_94 : decode cX12_nearest 94 = .ok (.imul, 1) := by decide +kernel
theorem dX12_nearest_95 : decode cX12_nearest 95 = .ok (.ishl, 1) := by decide +kernel
theorem dX12_nearest_96 : decode cX12_nearest 96 = .ok (.ior, 1) := by decide +kernel
theorem dX12_nearest_97 : decode cX12_nearest 97 = .ok (.istore 7, 2) := by decide +kernel
theorem dX12_nearest_99 : decode cX12_nearest 99 = .ok (.iinc 8 1, 3) := by decide +kernel
theorem dX12_nearest_102 : decode cX12_nearest 102 = .ok (.goto (-32), 3) := by decide +kernel
theorem dX12_nearest_105 : decode cX12_nearest 105 = .ok (.iload 7, 2) := by decide +kernel
theorem dX12_nearest_107 : decode cX12_nearest 107 = .ok (.iload_n 2, 1) := by decide +kernel
theorem dX12_nearest_108 : decode cX12_nearest 108 = .ok (.invokestatic 272, 3) := by decide +kernel
theorem dX12_nearest_111 : decode cX12_nearest 111 = .ok (.ifCond .ne 6, 3) := by decide +kernel
theorem dX12_nearest_114 : decode cX12_nearest 114 = .ok (.goto 90, 3) := by decide +kernel
theorem dX12_nearest_117 : decode cX12_nearest 117 = .ok (.iconst 0, 1) := by decide +kernel
theorem dX12_nearest_118 : decode cX12_nearest 118 = .ok (.istore 8, 2) := by decide +kernel
theorem dX12_nearest_120 : decode cX12_nearest 120 = .ok (.iload 8, 2) := by decide +kernel
theorem dX12_nearest_122 : decode cX12_nearest 122 = .ok (.iload_n 2, 1) := by decide +kernel
theorem dX12_nearest_123 : decode cX12_nearest 123 = .ok (.if_icmp .ge 48, 3) := by decide +kernel
theorem dX12_nearest_126 : decode cX12_nearest 126 = .ok (.iload_n 1, 1) := by decide +kernel
theorem dX12_nearest_127 : decode cX12_nearest 127 = .ok (.ifCond .ne 22, 3) := by decide +kernel
theorem dX12_nearest_149 : decode cX12_nearest 149 = .ok (.aload_n 0, 1) := by decide +kernel
theorem dX12_nearest_150 : decode cX12_nearest 150 = .ok (.getfield 74, 3) := by decide +kernel
theorem dX12_nearest_153 : decode cX12_nearest 153 = .ok (.iload 8, 2) := by decide +kernel
theorem dX12_nearest_155 : decode cX12_nearest 155 = .ok (.iload 7, 2) := by decide +kernel
theorem dX12_nearest_157 : decode cX12_nearest 157 = .ok (.iconst 2, 1) := by decide +kernel
theorem dX12_nearest_158 : decode cX12_nearest 158 = .ok (.iload 8, 2) := by decide +kernel
theorem dX12_nearest_160 : decode cX12_nearest 160 = .ok (.imul, 1) := by decide +kernel
theorem dX12_nearest_161 : decode cX12_nearest 161 = .ok (.ishr, 1) := by decide +kernel
theorem dX12_nearest_162 : decode cX12_nearest 162 = .ok (.iconst 3, 1) := by decide +kernel
theorem dX12_nearest_163 : decode cX12_nearest 163 = .ok (.iand, 1) := by decide +kernel
theorem dX12_nearest_164 : decode cX12_nearest 164 = .ok (.iastore, 1) := by decide +kernel
theorem dX12_nearest_165 : decode cX12_nearest 165 = .ok (.iinc 8 1, 3) := by decide +kernel
theorem dX12_nearest_168 : decode cX12_nearest 168 = .ok (.goto (-48), 3) := by decide +kernel
theorem dX12_nearest_171 : decode cX12_nearest 171 = .ok (.aload_n 0, 1) := by decide +kernel
theorem dX12_nearest_172 : decode cX12_nearest 172 = .ok (.iconst 0, 1) := by decide +kernel
theorem dX12_nearest_173 : decode cX12_nearest 173 = .ok (.iconst 1, 1) := by decide +kernel
theorem dX12_nearest_174 : decode cX12_nearest 174 = .ok (.invokevirtual 362, 3) := by decide +kernel
theorem dX12_nearest_177 : decode cX12_nearest 177 = .ok (.iload_n 3, 1) := by decide +kernel
theorem dX12_nearest_178 : decode cX12_nearest 178 = .ok (.iconst (-1), 1) := by decide +kernel
theorem dX12_nearest_179 : decode cX12_nearest 179 = .ok (.if_icmp .eq 16, 3) := by decide +kernel
theorem dX12_nearest_182 : decode cX12_nearest 182 = .ok (.aload_n 0, 1) := by decide +kernel
theorem dX12_nearest_183 : decode cX12_nearest 183 = .ok (.getfield 345, 3) := by decide +kernel
theorem dX12_nearest_186 : decode cX12_nearest 186 = .ok (.lload 4, 2) := by decide +kernel
theorem dX12_nearest_188 : decode cX12_nearest 188 = .ok (.lcmp, 1) := by decide +kernel
theorem dX12_nearest_189 : decode cX12_nearest 189 = .ok (.ifCond .lt 6, 3) := by decide +kernel
theorem dX12_nearest_192 : decode cX12_nearest 192 = .ok (.goto 12, 3) := by decide +kernel
theorem dX12_nearest_195 : decode cX12_nearest 195 = .ok (.iload 7, 2) := by decide +kernel
theorem dX12_nearest_197 : decode cX12_nearest 197 = .ok (.istore_n 3, 1) := by decide +kernel
theorem dX12_nearest_198 : decode cX12_nearest 198 = .ok (.aload_n 0, 1) := by decide +kernel
theorem dX12_nearest_199 : decode cX12_nearest 199 = .ok (.getfield 345, 3) := by decide +kernel
theorem dX12_nearest_202 : decode cX12_nearest 202 = .ok (.lstore 4, 2) := by decide +kernel
theorem dX12_nearest_204 : decode cX12_nearest 204 = .ok (.iinc 6 1, 3) := by decide +kernel
theorem dX12_nearest_207 : decode cX12_nearest 207 = .ok (.goto (-153), 3) := by decide +kernel
theorem dX12_nearest_210 : decode cX12_nearest 210 = .ok (.iload_n 3, 1) := by decide +kernel
theorem dX12_nearest_211 : decode cX12_nearest 211 = .ok (.ireturn, 1) := by decide +kernel
theorem dX12_leads_0 : decode cX12_leads 0 = .ok (.aload_n 0, 1) := by decide +kernel
theorem dX12_leads_1 : decode cX12_leads 1 = .ok (.iconst 0, 1) := by decide +kernel
theorem dX12_leads_2 : decode cX12_leads 2 = .ok (.putfield 132, 3) := by decide +kernel
theorem dX12_leads_5 : decode cX12_leads 5 = .ok (.iload_n 1, 1) := by decide +kernel
theorem dX12_leads_6 : decode cX12_leads 6 = .ok (.ifCond .lt 18, 3) := by decide +kernel
theorem dX12_leads_9 : decode cX12_leads 9 = .ok (.iload_n 1, 1) := by decide +kernel
theorem dX12_leads_10 : decode cX12_leads 10 = .ok (.aload_n 0, 1) := by decide +kernel
theorem dX12_leads_11 : decode cX12_leads 11 = .ok (.getfield 248, 3) := by decide +kernel
theorem dX12_leads_14 : decode cX12_leads 14 = .ok (.if_icmp .ge 10, 3) := by decide +kernel
theorem dX12_leads_17 : decode cX12_leads 17 = .ok (.aload_n 0, 1) := by decide +kernel
theorem dX12_leads_18 : decode cX12_leads 18 = .ok (.getfield 251, 3) := by decide +kernel
theorem dX12_leads_21 : decode cX12_leads 21 = .ok (.ifCond .ne 5, 3) := by decide +kernel
theorem dX12_leads_24 : decode cX12_leads 24 = .ok (.iconst (-1), 1) := by decide +kernel
theorem dX12_leads_25 : decode cX12_leads 25 = .ok (.ireturn, 1) := by decide +kernel
theorem dX12_leads_26 : decode cX12_leads 26 = .ok (.aload_n 0, 1) := by decide +kernel
theorem dX12_leads_27 : decode cX12_leads 27 = .ok (.invokevirtual 304, 3) := by decide +kernel
theorem dX12_leads_30 : decode cX12_leads 30 = .ok (.aload_n 0, 1) := by decide +kernel
theorem dX12_leads_31 : decode cX12_leads 31 = .ok (.invokevirtual 311, 3) := by decide +kernel
theorem dX12_leads_34 : decode cX12_leads 34 = .ok (.iconst 0, 1) := by decide +kernel
theorem dX12_leads_35 : decode cX12_leads 35 = .ok (.istore_n 2, 1) := by decide +kernel
theorem dX12_leads_36 : decode cX12_leads 36 = .ok (.iconst 0, 1) := by decide +kernel
theorem dX12_leads_37 : decode cX12_leads 37 = .ok (.istore_n 3, 1) := by decide +kernel
theorem dX12_leads_38 : decode cX12_leads 38 = .ok (.iload_n 3, 1) := by decide +kernel
theorem dX12_leads_39 : decode cX12_leads 39 = .ok (.aload_n 0, 1) := by decide +kernel
theorem dX12_leads_40 : decode cX12_leads 40 = .ok (.getfield 188, 3) := by decide +kernel
theorem dX12_leads_43 : decode cX12_leads 43 = .ok (.if_icmp .ge 62, 3) := by decide +kernel
theorem dX12_leads_105 : decode cX12_leads 105 = .ok (.iconst 0, 1) := by decide +kernel
theorem dX12_leads_106 : decode cX12_leads 106 = .ok (.istore_n 3, 1) := by decide +kernel
theorem dX12_leads_107 : decode cX12_leads 107 = .ok (.iload_n 3, 1) := by decide +kernel
theorem dX12_leads_108 : decode cX12_leads 108 = .ok (.aload_n 0, 1) := by decide +kernel
theorem dX12_leads_109 : decode cX12_leads 109 = .ok (.getfield 248, 3) := by decide +kernel
theorem dX12_leads_112 : decode cX12_leads 112 = .ok (.if_icmp .ge 30, 3) := by decide +kernel
theorem dX12_leads_115 : decode cX12_leads 115 = .ok (.aload_n 0, 1) := by decide +kernel
theorem dX12_leads_116 : decode cX12_leads 116 = .ok (.getfield 47, 3) := by decide +kernel
theorem dX12_leads_119 : decode cX12_leads 119 = .ok (.iload_n 3, 1) := by decide +kernel
theorem dX12_leads_120 : decode cX12_leads 120 = .ok (.iaload, 1) := by decide +kernel
theorem dX12_leads_121 : decode cX12_leads 121 = .ok (.ifCond .ne 15, 3) := by decide +kernel
theorem dX12_leads_124 : decode cX12_leads 124 = .ok (.aload_n 0, 1) := by decide +kernel
theorem dX12_leads_125 : decode cX12_leads 125 = .ok (.getfield 87, 3) := by decide +kernel
theorem dX12_leads_128 : decode cX12_leads 128 = .ok (.iload_n 3, 1) := by decide +kernel
theorem dX12_leads_129 : decode cX12_leads 129 = .ok (.iaload, 1) := by decide +kernel
theorem dX12_leads_130 : decode cX12_leads 130 = .ok (.iload_n 2, 1) := by decide +kernel
theorem dX12_leads_131 : decode cX12_leads 131 = .ok (.if_icmp .ne 5, 3) := by decide +kernel
theorem dX12_leads_134 : decode cX12_leads 134 = .ok (.iload_n 3, 1) := by decide +kernel
theorem dX12_leads_135 : decode cX12_leads 135 = .ok (.ireturn, 1) := by decide +kernel
theorem dX12_moves_0 : decode cX12_moves 0 = .ok (.aload_n 0, 1) := by decide +kernel
theorem dX12_moves_1 : decode cX12_moves 1 = .ok (.iconst 0, 1) := by decide +kernel
theorem dX12_moves_2 : decode cX12_moves 2 = .ok (.putfield 132, 3) := by decide +kernel
theorem dX12_moves_5 : decode cX12_moves 5 = .ok (.iload_n 1, 1) := by decide +kernel
theorem dX12_moves_6 : decode cX12_moves 6 = .ok (.ifCond .lt 32, 3) := by decide +kernel
theorem dX12_moves_9 : decode cX12_moves 9 = .ok (.iload_n 1, 1) := by decide +kernel
theorem dX12_moves_10 : decode cX12_moves 10 = .ok (.aload_n 0, 1) := by decide +kernel
theorem dX12_moves_11 : decode cX12_moves 11 = .ok (.getfield 225, 3) := by decide +kernel
theorem dX12_moves_14 : decode cX12_moves 14 = .ok (.if_icmp .ge 24, 3) := by decide +kernel
theorem dX12_moves_38 : decode cX12_moves 38 = .ok (.ldc2_w 360, 3) := by decide +kernel
theorem dX12_moves_41 : decode cX12_moves 41 = .ok (.lreturn, 1) := by decide +kernel
theorem dX12_isEven_0 : decode cX12_isEven 0 = .ok (.aload_n 0, 1) := by decide +kernel
theorem dX12_isEven_1 : decode cX12_isEven 1 = .ok (.iload_n 1, 1) := by decide +kernel
theorem dX12_isEven_2 : decode cX12_isEven 2 = .ok (.invokevirtual 260, 3) := by decide +kernel
theorem dX12_isEven_5 : decode cX12_isEven 5 = .ok (.i2l, 1) := by decide +kernel
theorem dX12_isEven_6 : decode cX12_isEven 6 = .ok (.lstore_n 3, 1) := by decide +kernel
theorem dX12_isEven_7 : decode cX12_isEven 7 = .ok (.lload_n 3, 1) := by decide +kernel
theorem dX12_isEven_8 : decode cX12_isEven 8 = .ok (.lconst 0, 1) := by decide +kernel
theorem dX12_isEven_9 : decode cX12_isEven 9 = .ok (.lcmp, 1) := by decide +kernel
theorem dX12_isEven_10 : decode cX12_isEven 10 = .ok (.ifCond .ne 5, 3) := by decide +kernel
theorem dX12_isEven_15 : decode cX12_isEven 15 = .ok (.aload_n 0, 1) := by decide +kernel
theorem dX12_isEven_16 : decode cX12_isEven 16 = .ok (.iconst (-1), 1) := by decide +kernel
theorem dX12_isEven_17 : decode cX12_isEven 17 = .ok (.putfield 102, 3) := by decide +kernel
theorem dX12_isEven_20 : decode cX12_isEven 20 = .ok (.iconst 0, 1) := by decide +kernel
theorem dX12_isEven_21 : decode cX12_isEven 21 = .ok (.istore 5, 2) := by decide +kernel
theorem dX12_isEven_23 : decode cX12_isEven 23 = .ok (.iload 5, 2) := by decide +kernel
theorem dX12_isEven_25 : decode cX12_isEven 25 = .ok (.aload_n 0, 1) := by decide +kernel
theorem dX12_isEven_26 : decode cX12_isEven 26 = .ok (.getfield 248, 3) := by decide +kernel
theorem dX12_isEven_29 : decode cX12_isEven 29 = .ok (.if_icmp .ge 35, 3) := by decide +kernel
theorem dX12_isEven_32 : decode cX12_isEven 32 = .ok (.aload_n 0, 1) := by decide +kernel
theorem dX12_isEven_33 : decode cX12_isEven 33 = .ok (.getfield 99, 3) := by decide +kernel
theorem dX12_isEven_36 : decode cX12_isEven 36 = .ok (.iload 5, 2) := by decide +kernel
theorem dX12_isEven_38 : decode cX12_isEven 38 = .ok (.aload_n 0, 1) := by decide +kernel
theorem dX12_isEven_39 : decode cX12_isEven 39 = .ok (.getfield 47, 3) := by decide +kernel
theorem dX12_isEven_42 : decode cX12_isEven 42 = .ok (.iload 5, 2) := by decide +kernel
theorem dX12_isEven_44 : decode cX12_isEven 44 = .ok (.iaload, 1) := by decide +kernel
theorem dX12_isEven_45 : decode cX12_isEven 45 = .ok (.iload_n 1, 1) := by decide +kernel
theorem dX12_isEven_46 : decode cX12_isEven 46 = .ok (.iconst (-1), 1) := by decide +kernel
theorem dX12_isEven_47 : decode cX12_isEven 47 = .ok (.ixor, 1) := by decide +kernel
theorem dX12_isEven_48 : decode cX12_isEven 48 = .ok (.iand, 1) := by decide +kernel
theorem dX12_isEven_49 : decode cX12_isEven 49 = .ok (.ifCond .ne 7, 3) := by decide +kernel
theorem dX12_isEven_52 : decode cX12_isEven 52 = .ok (.lconst 1, 1) := by decide +kernel
theorem dX12_isEven_53 : decode cX12_isEven 53 = .ok (.goto 4, 3) := by decide +kernel
theorem dX12_isEven_57 : decode cX12_isEven 57 = .ok (.lastore, 1) := by decide +kernel
theorem dX12_isEven_58 : decode cX12_isEven 58 = .ok (.iinc 5 1, 3) := by decide +kernel
theorem dX12_isEven_61 : decode cX12_isEven 61 = .ok (.goto (-38), 3) := by decide +kernel
theorem dX12_isEven_64 : decode cX12_isEven 64 = .ok (.iconst 0, 1) := by decide +kernel
theorem dX12_isEven_65 : decode cX12_isEven 65 = .ok (.istore 5, 2) := by decide +kernel
theorem dX12_isEven_67 : decode cX12_isEven 67 = .ok (.iload 5, 2) := by decide +kernel
theorem dX12_isEven_69 : decode cX12_isEven 69 = .ok (.aload_n 0, 1) := by decide +kernel
theorem dX12_isEven_70 : decode cX12_isEven 70 = .ok (.invokevirtual 241, 3) := by decide +kernel
theorem dX12_isEven_73 : decode cX12_isEven 73 = .ok (.if_icmp .ge 69, 3) := by decide +kernel
theorem dX12_isEven_142 : decode cX12_isEven 142 = .ok (.iconst 1, 1) := by decide +kernel
theorem dX12_isEven_143 : decode cX12_isEven 143 = .ok (.ireturn, 1) := by decide +kernel
theorem dX12_leave_0 : decode cX12_leave 0 = .ok (.aload_n 0, 1) := by decide +kernel
theorem dX12_leave_1 : decode cX12_leave 1 = .ok (.iconst 0, 1) := by decide +kernel
theorem dX12_leave_2 : decode cX12_leave 2 = .ok (.putfield 132, 3) := by decide +kernel
theorem dX12_leave_5 : decode cX12_leave 5 = .ok (.iload_n 1, 1) := by decide +kernel
theorem dX12_leave_6 : decode cX12_leave 6 = .ok (.iconst 0, 1) := by decide +kernel
theorem dX12_leave_7 : decode cX12_leave 7 = .ok (.bipush 100, 2) := by decide +kernel
theorem dX12_leave_9 : decode cX12_leave 9 = .ok (.invokestatic 237, 3) := by decide +kernel
theorem dX12_leave_12 : decode cX12_leave 12 = .ok (.ifCond .ne 5, 3) := by decide +kernel
theorem dX12_leave_15 : decode cX12_leave 15 = .ok (.iconst (-1), 1) := by decide +kernel
theorem dX12_leave_16 : decode cX12_leave 16 = .ok (.ireturn, 1) := by decide +kernel
theorem dX12_leave_17 : decode cX12_leave 17 = .ok (.iconst 0, 1) := by decide +kernel
theorem dX12_leave_18 : decode cX12_leave 18 = .ok (.istore_n 2, 1) := by decide +kernel
theorem dX12_leave_19 : decode cX12_leave 19 = .ok (.iload_n 2, 1) := by decide +kernel
theorem dX12_leave_20 : decode cX12_leave 20 = .ok (.iconst 3, 1) := by decide +kernel
theorem dX12_leave_21 : decode cX12_leave 21 = .ok (.if_icmp .ge 46, 3) := by decide +kernel
theorem dX12_leave_24 : decode cX12_leave 24 = .ok (.iconst 0, 1) := by decide +kernel
theorem dX12_leave_25 : decode cX12_leave 25 = .ok (.istore_n 3, 1) := by decide +kernel
theorem dX12_leave_26 : decode cX12_leave 26 = .ok (.iload_n 3, 1) := by decide +kernel
theorem dX12_leave_27 : decode cX12_leave 27 = .ok (.iconst 1, 1) := by decide +kernel
theorem dX12_leave_28 : decode cX12_leave 28 = .ok (.aload_n 0, 1) := by decide +kernel
theorem dX12_leave_29 : decode cX12_leave 29 = .ok (.getfield 225, 3) := by decide +kernel
theorem dX12_leave_32 : decode cX12_leave 32 = .ok (.ishl, 1) := by decide +kernel
theorem dX12_leave_33 : decode cX12_leave 33 = .ok (.if_icmp .ge 28, 3) := by decide +kernel
theorem dX12_leave_36 : decode cX12_leave 36 = .ok (.iload_n 3, 1) := by decide +kernel
theorem dX12_leave_37 : decode cX12_leave 37 = .ok (.invokestatic 263, 3) := by decide +kernel
theorem dX12_leave_40 : decode cX12_leave 40 = .ok (.iload_n 2, 1) := by decide +kernel
theorem dX12_leave_41 : decode cX12_leave 41 = .ok (.if_icmp .ne 14, 3) := by decide +kernel
theorem dX12_leave_44 : decode cX12_leave 44 = .ok (.aload_n 0, 1) := by decide +kernel
theorem dX12_leave_45 : decode cX12_leave 45 = .ok (.iload_n 3, 1) := by decide +kernel
theorem dX12_leave_46 : decode cX12_leave 46 = .ok (.iload_n 1, 1) := by decide +kernel
theorem dX12_leave_47 : decode cX12_leave 47 = .ok (.invokevirtual 374, 3) := by decide +kernel
theorem dX12_leave_50 : decode cX12_leave 50 = .ok (.ifCond .eq 5, 3) := by decide +kernel
theorem dX12_leave_53 : decode cX12_leave 53 = .ok (.iload_n 3, 1) := by decide +kernel
theorem dX12_leave_54 : decode cX12_leave 54 = .ok (.ireturn, 1) := by decide +kernel
theorem dX12_laySwaps_0 : decode cX12_laySwaps 0 = .ok (.aload_n 0, 1) := by decide +kernel
theorem dX12_laySwaps_1 : decode cX12_laySwaps 1 = .ok (.invokevirtual 304, 3) := by decide +kernel
theorem dX12_laySwaps_4 : decode cX12_laySwaps 4 = .ok (.aload_n 0, 1) := by decide +kernel
theorem dX12_laySwaps_5 : decode cX12_laySwaps 5 = .ok (.invokevirtual 311, 3) := by decide +kernel
theorem dX12_laySwaps_8 : decode cX12_laySwaps 8 = .ok (.iconst 1, 1) := by decide +kernel
theorem dX12_laySwaps_9 : decode cX12_laySwaps 9 = .ok (.istore_n 1, 1) := by decide +kernel
theorem dX12_laySwaps_10 : decode cX12_laySwaps 10 = .ok (.aload_n 0, 1) := by decide +kernel
theorem dX12_laySwaps_11 : decode cX12_laySwaps 11 = .ok (.getfield 188, 3) := by decide +kernel
theorem dX12_laySwaps_14 : decode cX12_laySwaps 14 = .ok (.iconst 1, 1) := by decide +kernel
theorem dX12_laySwaps_15 : decode cX12_laySwaps 15 = .ok (.isub, 1) := by decide +kernel
theorem dX12_laySwaps_16 : decode cX12_laySwaps 16 = .ok (.istore_n 2, 1) := by decide +kernel
theorem dX12_laySwaps_17 : decode cX12_laySwaps 17 = .ok (.iload_n 2, 1) := by decide +kernel
theorem dX12_laySwaps_18 : decode cX12_laySwaps 18 = .ok (.ifCond .lt 23, 3) := by decide +kernel
theorem dX12_laySwaps_41 : decode cX12_laySwaps 41 = .ok (.iconst 0, 1) := by decide +kernel
theorem dX12_laySwaps_42 : decode cX12_laySwaps 42 = .ok (.istore_n 2, 1) := by decide +kernel
theorem dX12_laySwaps_43 : decode cX12_laySwaps 43 = .ok (.iload_n 2, 1) := by decide +kernel
theorem dX12_laySwaps_44 : decode cX12_laySwaps 44 = .ok (.aload_n 0, 1) := by decide +kernel
theorem dX12_laySwaps_45 : decode cX12_laySwaps 45 = .ok (.getfield 245, 3) := by decide +kernel
theorem dX12_laySwaps_48 : decode cX12_laySwaps 48 = .ok (.if_icmp .ge 136, 3) := by decide +kernel
theorem dX12_laySwaps_51 : decode cX12_laySwaps 51 = .ok (.iconst 0, 1) := by decide +kernel
theorem dX12_laySwaps_52 : decode cX12_laySwaps 52 = .ok (.istore_n 3, 1) := by decide +kernel
theorem dX12_laySwaps_53 : decode cX12_laySwaps 53 = .ok (.iload_n 3, 1) := by decide +kernel
theorem dX12_laySwaps_54 : decode cX12_laySwaps 54 = .ok (.aload_n 0, 1) := by decide +kernel
theorem dX12_laySwaps_55 : decode cX12_laySwaps 55 = .ok (.getfield 185, 3) := by decide +kernel
theorem dX12_laySwaps_58 : decode cX12_laySwaps 58 = .ok (.if_icmp .ge 120, 3) := by decide +kernel
theorem dX12_laySwaps_61 : decode cX12_laySwaps 61 = .ok (.iconst 0, 1) := by decide +kernel
theorem dX12_laySwaps_62 : decode cX12_laySwaps 62 = .ok (.istore 4, 2) := by decide +kernel
theorem dX12_laySwaps_64 : decode cX12_laySwaps 64 = .ok (.iload 4, 2) := by decide +kernel
theorem dX12_laySwaps_66 : decode cX12_laySwaps 66 = .ok (.aload_n 0, 1) := by decide +kernel
theorem dX12_laySwaps_67 : decode cX12_laySwaps 67 = .ok (.getfield 185, 3) := by decide +kernel
theorem dX12_laySwaps_70 : decode cX12_laySwaps 70 = .ok (.if_icmp .ge 102, 3) := by decide +kernel
theorem dX12_laySwaps_73 : decode cX12_laySwaps 73 = .ok (.iconst 0, 1) := by decide +kernel
theorem dX12_laySwaps_74 : decode cX12_laySwaps 74 = .ok (.istore 5, 2) := by decide +kernel
theorem dX12_laySwaps_76 : decode cX12_laySwaps 76 = .ok (.iconst 0, 1) := by decide +kernel
theorem dX12_laySwaps_77 : decode cX12_laySwaps 77 = .ok (.istore 6, 2) := by decide +kernel
theorem dX12_laySwaps_79 : decode cX12_laySwaps 79 = .ok (.iload 6, 2) := by decide +kernel
theorem dX12_laySwaps_81 : decode cX12_laySwaps 81 = .ok (.aload_n 0, 1) := by decide +kernel
theorem dX12_laySwaps_82 : decode cX12_laySwaps 82 = .ok (.getfield 185, 3) := by decide +kernel
theorem dX12_laySwaps_85 : decode cX12_laySwaps 85 = .ok (.if_icmp .ge 59, 3) := by decide +kernel
theorem dX12_laySwaps_88 : decode cX12_laySwaps 88 = .ok (.aload_n 0, 1) := by decide +kernel
theorem dX12_laySwaps_89 : decode cX12_laySwaps 89 = .ok (.getfield 44, 3) := by decide +kernel
theorem dX12_laySwaps_92 : decode cX12_laySwaps 92 = .ok (.iconst 4, 1) := by decide +kernel
theorem dX12_laySwaps_93 : decode cX12_laySwaps 93 = .ok (.iload_n 2, 1) := by decide +kernel
theorem dX12_laySwaps_94 : decode cX12_laySwaps 94 = .ok (.imul, 1) := by decide +kernel
theorem dX12_laySwaps_95 : decode cX12_laySwaps 95 = .ok (.iload 6, 2) := by decide +kernel
theorem dX12_laySwaps_97 : decode cX12_laySwaps 97 = .ok (.iadd, 1) := by decide +kernel
theorem dX12_laySwaps_98 : decode cX12_laySwaps 98 = .ok (.iaload, 1) := by decide +kernel
theorem dX12_laySwaps_99 : decode cX12_laySwaps 99 = .ok (.istore 7, 2) := by decide +kernel
theorem dX12_laySwaps_101 : decode cX12_laySwaps 101 = .ok (.iload 5, 2) := by decide +kernel
theorem dX12_laySwaps_103 : decode cX12_laySwaps 103 = .ok (.iload 7, 2) := by decide +kernel
theorem dX12_laySwaps_105 : decode cX12_laySwaps 105 = .ok (.iload_n 3, 1) := by decide +kernel
theorem dX12_laySwaps_106 : decode cX12_laySwaps 106 = .ok (.if_icmp .ne 8, 3) := by decide +kernel
theorem dX12_laySwaps_109 : decode cX12_laySwaps 109 = .ok (.iload 4, 2) := by decide +kernel
theorem dX12_laySwaps_111 : decode cX12_laySwaps 111 = .ok (.goto 16, 3) := by decide +kernel
theorem dX12_laySwaps_114 : decode cX12_laySwaps 114 = .ok (.iload 7, 2) := by decide +kernel
theorem dX12_laySwaps_116 : decode cX12_laySwaps 116 = .ok (.iload 4, 2) := by decide +kernel
theorem dX12_laySwaps_118 : decode cX12_laySwaps 118 = .ok (.if_icmp .ne 7, 3) := by decide +kernel
theorem dX12_laySwaps_121 : decode cX12_laySwaps 121 = .ok (.iload_n 3, 1) := by decide +kernel
theorem dX12_laySwaps_122 : decode cX12_laySwaps 122 = .ok (.goto 5, 3) := by decide +kernel
theorem dX12_laySwaps_125 : decode cX12_laySwaps 125 = .ok (.iload 7, 2) := by decide +kernel
theorem dX12_laySwaps_127 : decode cX12_laySwaps 127 = .ok (.aload_n 0, 1) := by decide +kernel
theorem dX12_laySwaps_128 : decode cX12_laySwaps 128 = .ok (.getfield 93, 3) := by decide +kernel
theorem dX12_laySwaps_131 : decode cX12_laySwaps 131 = .ok (.iload 6, 2) := by decide +kernel
theorem dX12_laySwaps_133 : decode cX12_laySwaps 133 = .ok (.iaload, 1) := by decide +kernel
theorem dX12_laySwaps_134 : decode cX12_laySwaps 134 = .ok (.imul, 1) := by decide +kernel
theorem dX12_laySwaps_135 : decode cX12_laySwaps 135 = .ok (.iadd, 1) := by decide +kernel
theorem dX12_laySwaps_136 : decode cX12_laySwaps 136 = .ok (.istore 5, 2) := by decide +kernel
theorem dX12_laySwaps_138 : decode cX12_laySwaps 138 = .ok (.iinc 6 1, 3) := by decide +kernel
theorem dX12_laySwaps_141 : decode cX12_laySwaps 141 = .ok (.goto (-62), 3) := by decide +kernel
theorem dX12_laySwaps_144 : decode cX12_laySwaps 144 = .ok (.aload_n 0, 1) := by decide +kernel
theorem dX12_laySwaps_145 : decode cX12_laySwaps 145 = .ok (.getfield 117, 3) := by decide +kernel
theorem dX12_laySwaps_148 : decode cX12_laySwaps 148 = .ok (.bipush 16, 2) := by decide +kernel
theorem dX12_laySwaps_150 : decode cX12_laySwaps 150 = .ok (.iload_n 2, 1) := by decide +kernel
theorem dX12_laySwaps_151 : decode cX12_laySwaps 151 = .ok (.imul, 1) := by decide +kernel
theorem dX12_laySwaps_152 : decode cX12_laySwaps 152 = .ok (.iconst 4, 1) := by decide +kernel
theorem dX12_laySwaps_153 : decode cX12_laySwaps 153 = .ok (.iload_n 3, 1) := by decide +kernel
theorem dX12_laySwaps_154 : decode cX12_laySwaps 154 = .ok (.imul, 1) := by decide +kernel
theorem dX12_laySwaps_155 : decode cX12_laySwaps 155 = .ok (.iadd, 1) := by decide +kernel
theorem dX12_laySwaps_156 : decode cX12_laySwaps 156 = .ok (.iload 4, 2) := by decide +kernel
theorem dX12_laySwaps_158 : decode cX12_laySwaps 158 = .ok (.iadd, 1) := by decide +kernel
theorem dX12_laySwaps_159 : decode cX12_laySwaps 159 = .ok (.aload_n 0, 1) := by decide +kernel
theorem dX12_laySwaps_160 : decode cX12_laySwaps 160 = .ok (.iload 5, 2) := by decide +kernel
theorem dX12_laySwaps_162 : decode cX12_laySwaps 162 = .ok (.invokevirtual 317, 3) := by decide +kernel
theorem dX12_laySwaps_165 : decode cX12_laySwaps 165 = .ok (.iastore, 1) := by decide +kernel
theorem dX12_laySwaps_166 : decode cX12_laySwaps 166 = .ok (.iinc 4 1, 3) := by decide +kernel
theorem dX12_laySwaps_169 : decode cX12_laySwaps 169 = .ok (.goto (-105), 3) := by decide +kernel
theorem dX12_laySwaps_172 : decode cX12_laySwaps 172 = .ok (.iinc 3 1, 3) := by decide +kernel
theorem dX12_laySwaps_175 : decode cX12_laySwaps 175 = .ok (.goto (-122), 3) := by decide +kernel
theorem dX12_laySwaps_178 : decode cX12_laySwaps 178 = .ok (.iinc 2 1, 3) := by decide +kernel
theorem dX12_laySwaps_181 : decode cX12_laySwaps 181 = .ok (.goto (-138), 3) := by decide +kernel
theorem dX12_laySwaps_184 : decode cX12_laySwaps 184 = .ok (.return_, 1) := by decide +kernel
theorem dX12_parts_0 : decode cX12_parts 0 = .ok (.aload_n 0, 1) := by decide +kernel
theorem dX12_parts_1 : decode cX12_parts 1 = .ok (.iconst 0, 1) := by decide +kernel
theorem dX12_parts_2 : decode cX12_parts 2 = .ok (.putfield 132, 3) := by decide +kernel
theorem dX12_parts_5 : decode cX12_parts 5 = .ok (.iload_n 1, 1) := by decide +kernel
theorem dX12_parts_6 : decode cX12_parts 6 = .ok (.iconst 0, 1) := by decide +kernel
theorem dX12_parts_7 : decode cX12_parts 7 = .ok (.iconst 2, 1) := by decide +kernel
theorem dX12_parts_8 : decode cX12_parts 8 = .ok (.invokestatic 237, 3) := by decide +kernel
theorem dX12_parts_11 : decode cX12_parts 11 = .ok (.ifCond .ne 5, 3) := by decide +kernel
theorem dX12_parts_14 : decode cX12_parts 14 = .ok (.iconst (-1), 1) := by decide +kernel
theorem dX12_parts_15 : decode cX12_parts 15 = .ok (.ireturn, 1) := by decide +kernel
theorem dX12_parts_16 : decode cX12_parts 16 = .ok (.aload_n 0, 1) := by decide +kernel
theorem dX12_parts_17 : decode cX12_parts 17 = .ok (.invokevirtual 377, 3) := by decide +kernel
theorem dX12_parts_20 : decode cX12_parts 20 = .ok (.iconst 0, 1) := by decide +kernel
theorem dX12_parts_21 : decode cX12_parts 21 = .ok (.istore_n 2, 1) := by decide +kernel
theorem dX12_parts_22 : decode cX12_parts 22 = .ok (.iload_n 2, 1) := by decide +kernel
theorem dX12_parts_23 : decode cX12_parts 23 = .ok (.aload_n 0, 1) := by decide +kernel
theorem dX12_parts_24 : decode cX12_parts 24 = .ok (.getfield 248, 3) := by decide +kernel
theorem dX12_parts_27 : decode cX12_parts 27 = .ok (.if_icmp .ge 16, 3) := by decide +kernel
theorem dX12_parts_30 : decode cX12_parts 30 = .ok (.aload_n 0, 1) := by decide +kernel
theorem dX12_parts_31 : decode cX12_parts 31 = .ok (.getfield 108, 3) := by decide +kernel
theorem dX12_parts_34 : decode cX12_parts 34 = .ok (.iload_n 2, 1) := by decide +kernel
theorem dX12_parts_35 : decode cX12_parts 35 = .ok (.iconst (-1), 1) := by decide +kernel
theorem dX12_parts_36 : decode cX12_parts 36 = .ok (.iastore, 1) := by decide +kernel
theorem dX12_parts_37 : decode cX12_parts 37 = .ok (.iinc 2 1, 3) := by decide +kernel
theorem dX12_parts_40 : decode cX12_parts 40 = .ok (.goto (-18), 3) := by decide +kernel
theorem dX12_parts_43 : decode cX12_parts 43 = .ok (.iconst 0, 1) := by decide +kernel
theorem dX12_parts_44 : decode cX12_parts 44 = .ok (.istore_n 2, 1) := by decide +kernel
theorem dX12_parts_45 : decode cX12_parts 45 = .ok (.iconst 0, 1) := by decide +kernel
theorem dX12_parts_46 : decode cX12_parts 46 = .ok (.istore_n 3, 1) := by decide +kernel
theorem dX12_parts_47 : decode cX12_parts 47 = .ok (.iconst 0, 1) := by decide +kernel
theorem dX12_parts_48 : decode cX12_parts 48 = .ok (.istore 4, 2) := by decide +kernel
theorem dX12_parts_50 : decode cX12_parts 50 = .ok (.iconst 0, 1) := by decide +kernel
theorem dX12_parts_51 : decode cX12_parts 51 = .ok (.istore 5, 2) := by decide +kernel
theorem dX12_parts_53 : decode cX12_parts 53 = .ok (.iload 5, 2) := by decide +kernel
theorem dX12_parts_55 : decode cX12_parts 55 = .ok (.aload_n 0, 1) := by decide +kernel
theorem dX12_parts_56 : decode cX12_parts 56 = .ok (.getfield 248, 3) := by decide +kernel
theorem dX12_parts_59 : decode cX12_parts 59 = .ok (.if_icmp .ge 72, 3) := by decide +kernel
theorem dX12_parts_62 : decode cX12_parts 62 = .ok (.aload_n 0, 1) := by decide +kernel
theorem dX12_parts_63 : decode cX12_parts 63 = .ok (.getfield 47, 3) := by decide +kernel
theorem dX12_parts_66 : decode cX12_parts 66 = .ok (.iload 5, 2) := by decide +kernel
theorem dX12_parts_68 : decode cX12_parts 68 = .ok (.iaload, 1) := by decide +kernel
theorem dX12_parts_69 : decode cX12_parts 69 = .ok (.ifCond .ne 56, 3) := by decide +kernel
theorem dX12_parts_72 : decode cX12_parts 72 = .ok (.aload_n 0, 1) := by decide +kernel
theorem dX12_parts_73 : decode cX12_parts 73 = .ok (.getfield 108, 3) := by decide +kernel
theorem dX12_parts_76 : decode cX12_parts 76 = .ok (.iload 5, 2) := by decide +kernel
theorem dX12_parts_78 : decode cX12_parts 78 = .ok (.iaload, 1) := by decide +kernel
theorem dX12_parts_79 : decode cX12_parts 79 = .ok (.iconst (-1), 1) := by decide +kernel
theorem dX12_parts_80 : decode cX12_parts 80 = .ok (.if_icmp .eq 6, 3) := by decide +kernel
theorem dX12_parts_86 : decode cX12_parts 86 = .ok (.aload_n 0, 1) := by decide +kernel
theorem dX12_parts_87 : decode cX12_parts 87 = .ok (.iload 5, 2) := by decide +kernel
theorem dX12_parts_89 : decode cX12_parts 89 = .ok (.iload_n 2, 1) := by decide +kernel
theorem dX12_parts_90 : decode cX12_parts 90 = .ok (.invokevirtual 380, 3) := by decide +kernel
theorem dX12_parts_93 : decode cX12_parts 93 = .ok (.istore 6, 2) := by decide +kernel
theorem dX12_parts_95 : decode cX12_parts 95 = .ok (.iload_n 2, 1) := by decide +kernel
theorem dX12_parts_96 : decode cX12_parts 96 = .ok (.ifCond .ne 8, 3) := by decide +kernel
theorem dX12_parts_99 : decode cX12_parts 99 = .ok (.iload 6, 2) := by decide +kernel
theorem dX12_parts_101 : decode cX12_parts 101 = .ok (.goto 4, 3) := by decide +kernel
theorem dX12_parts_105 : decode cX12_parts 105 = .ok (.istore_n 3, 1) := by decide +kernel
theorem dX12_parts_106 : decode cX12_parts 106 = .ok (.iload 6, 2) := by decide +kernel
theorem dX12_parts_108 : decode cX12_parts 108 = .ok (.iload 4, 2) := by decide +kernel
theorem dX12_parts_110 : decode cX12_parts 110 = .ok (.if_icmp .le 8, 3) := by decide +kernel
theorem dX12_parts_113 : decode cX12_parts 113 = .ok (.iload 6, 2) := by decide +kernel
theorem dX12_parts_115 : decode cX12_parts 115 = .ok (.goto 5, 3) := by decide +kernel
theorem dX12_parts_120 : decode cX12_parts 120 = .ok (.istore 4, 2) := by decide +kernel
theorem dX12_parts_122 : decode cX12_parts 122 = .ok (.iinc 2 1, 3) := by decide +kernel
theorem dX12_parts_125 : decode cX12_parts 125 = .ok (.iinc 5 1, 3) := by decide +kernel
theorem dX12_parts_128 : decode cX12_parts 128 = .ok (.goto (-75), 3) := by decide +kernel
theorem dX12_parts_131 : decode cX12_parts 131 = .ok (.iload_n 1, 1) := by decide +kernel
theorem dX12_parts_132 : decode cX12_parts 132 = .ok (.ifCond .ne 7, 3) := by decide +kernel
theorem dX12_parts_135 : decode cX12_parts 135 = .ok (.iload_n 2, 1) := by decide +kernel
theorem dX12_parts_136 : decode cX12_parts 136 = .ok (.goto 14, 3) := by decide +kernel
theorem dX12_parts_139 : decode cX12_parts 139 = .ok (.iload_n 1, 1) := by decide +kernel
theorem dX12_parts_140 : decode cX12_parts 140 = .ok (.iconst 1, 1) := by decide +kernel
theorem dX12_parts_141 : decode cX12_parts 141 = .ok (.if_icmp .ne 7, 3) := by decide +kernel
theorem dX12_parts_144 : decode cX12_parts 144 = .ok (.iload_n 3, 1) := by decide +kernel
theorem dX12_parts_145 : decode cX12_parts 145 = .ok (.goto 5, 3) := by decide +kernel
theorem dX12_parts_148 : decode cX12_parts 148 = .ok (.iload 4, 2) := by decide +kernel
theorem dX12_parts_150 : decode cX12_parts 150 = .ok (.ireturn, 1) := by decide +kernel
theorem dX12_fills_0 : decode cX12_fills 0 = .ok (.aload_n 0, 1) := by decide +kernel
theorem dX12_fills_1 : decode cX12_fills 1 = .ok (.getfield 108, 3) := by decide +kernel
theorem dX12_fills_4 : decode cX12_fills 4 = .ok (.iload_n 1, 1) := by decide +kernel
theorem dX12_fills_5 : decode cX12_fills 5 = .ok (.iload_n 2, 1) := by decide +kernel
theorem dX12_fills_6 : decode cX12_fills 6 = .ok (.iastore, 1) := by decide +kernel
theorem dX12_fills_7 : decode cX12_fills 7 = .ok (.aload_n 0, 1) := by decide +kernel
theorem dX12_fills_8 : decode cX12_fills 8 = .ok (.getfield 111, 3) := by decide +kernel
theorem dX12_fills_11 : decode cX12_fills 11 = .ok (.iconst 0, 1) := by decide +kernel
theorem dX12_fills_12 : decode cX12_fills 12 = .ok (.iload_n 1, 1) := by decide +kernel
theorem dX12_fills_13 : decode cX12_fills 13 = .ok (.iastore, 1) := by decide +kernel
theorem dX12_fills_14 : decode cX12_fills 14 = .ok (.iconst 0, 1) := by decide +kernel
theorem dX12_fills_15 : decode cX12_fills 15 = .ok (.istore_n 3, 1) := by decide +kernel
theorem dX12_fills_16 : decode cX12_fills 16 = .ok (.iconst 1, 1) := by decide +kernel
theorem dX12_fills_17 : decode cX12_fills 17 = .ok (.istore 4, 2) := by decide +kernel
theorem dX12_fills_19 : decode cX12_fills 19 = .ok (.iload_n 3, 1) := by decide +kernel
theorem dX12_fills_20 : decode cX12_fills 20 = .ok (.iload 4, 2) := by decide +kernel
theorem dX12_fills_22 : decode cX12_fills 22 = .ok (.if_icmp .ge 132, 3) := by decide +kernel
theorem dX12_fills_25 : decode cX12_fills 25 = .ok (.aload_n 0, 1) := by decide +kernel
theorem dX12_fills_26 : decode cX12_fills 26 = .ok (.getfield 111, 3) := by decide +kernel
theorem dX12_fills_29 : decode cX12_fills 29 = .ok (.iload_n 3, 1) := by decide +kernel
theorem dX12_fills_30 : decode cX12_fills 30 = .ok (.iaload, 1) := by decide +kernel
theorem dX12_fills_31 : decode cX12_fills 31 = .ok (.istore 5, 2) := by decide +kernel
theorem dX12_fills_33 : decode cX12_fills 33 = .ok (.iinc 3 1, 3) := by decide +kernel
theorem dX12_fills_36 : decode cX12_fills 36 = .ok (.iconst 0, 1) := by decide +kernel
theorem dX12_fills_37 : decode cX12_fills 37 = .ok (.istore 6, 2) := by decide +kernel
theorem dX12_fills_39 : decode cX12_fills 39 = .ok (.iload 6, 2) := by decide +kernel
theorem dX12_fills_41 : decode cX12_fills 41 = .ok (.aload_n 0, 1) := by decide +kernel
theorem dX12_fills_42 : decode cX12_fills 42 = .ok (.getfield 188, 3) := by decide +kernel
theorem dX12_fills_45 : decode cX12_fills 45 = .ok (.if_icmp .ge 106, 3) := by decide +kernel
theorem dX12_fills_151 : decode cX12_fills 151 = .ok (.goto (-132), 3) := by decide +kernel
theorem dX12_fills_154 : decode cX12_fills 154 = .ok (.iload 4, 2) := by decide +kernel
theorem dX12_fills_156 : decode cX12_fills 156 = .ok (.ireturn, 1) := by decide +kernel
theorem dX12_mixes_0 : decode cX12_mixes 0 = .ok (.aload_n 0, 1) := by decide +kernel
theorem dX12_mixes_1 : decode cX12_mixes 1 = .ok (.invokevirtual 377, 3) := by decide +kernel
theorem dX12_mixes_4 : decode cX12_mixes 4 = .ok (.iconst 0, 1) := by decide +kernel
theorem dX12_mixes_5 : decode cX12_mixes 5 = .ok (.istore_n 2, 1) := by decide +kernel
theorem dX12_mixes_6 : decode cX12_mixes 6 = .ok (.aload_n 0, 1) := by decide +kernel
theorem dX12_mixes_7 : decode cX12_mixes 7 = .ok (.getfield 47, 3) := by decide +kernel
theorem dX12_mixes_10 : decode cX12_mixes 10 = .ok (.iload_n 2, 1) := by decide +kernel
theorem dX12_mixes_11 : decode cX12_mixes 11 = .ok (.iaload, 1) := by decide +kernel
theorem dX12_mixes_12 : decode cX12_mixes 12 = .ok (.ifCond .eq 9, 3) := by decide +kernel
theorem dX12_mixes_21 : decode cX12_mixes 21 = .ok (.iconst 0, 1) := by decide +kernel
theorem dX12_mixes_22 : decode cX12_mixes 22 = .ok (.istore_n 3, 1) := by decide +kernel
theorem dX12_mixes_23 : decode cX12_mixes 23 = .ok (.iload_n 3, 1) := by decide +kernel
theorem dX12_mixes_24 : decode cX12_mixes 24 = .ok (.aload_n 0, 1) := by decide +kernel
theorem dX12_mixes_25 : decode cX12_mixes 25 = .ok (.getfield 248, 3) := by decide +kernel
theorem dX12_mixes_28 : decode cX12_mixes 28 = .ok (.if_icmp .ge 16, 3) := by decide +kernel
theorem dX12_mixes_31 : decode cX12_mixes 31 = .ok (.aload_n 0, 1) := by decide +kernel
theorem dX12_mixes_32 : decode cX12_mixes 32 = .ok (.getfield 120, 3) := by decide +kernel
theorem dX12_mixes_35 : decode cX12_mixes 35 = .ok (.iload_n 3, 1) := by decide +kernel
theorem dX12_mixes_36 : decode cX12_mixes 36 = .ok (.iconst 0, 1) := by decide +kernel
theorem dX12_mixes_37 : decode cX12_mixes 37 = .ok (.iastore, 1) := by decide +kernel
theorem dX12_mixes_38 : decode cX12_mixes 38 = .ok (.iinc 3 1, 3) := by decide +kernel
theorem dX12_mixes_41 : decode cX12_mixes 41 = .ok (.goto (-18), 3) := by decide +kernel
theorem dX12_mixes_44 : decode cX12_mixes 44 = .ok (.aload_n 0, 1) := by decide +kernel
theorem dX12_mixes_45 : decode cX12_mixes 45 = .ok (.getfield 120, 3) := by decide +kernel
theorem dX12_mixes_48 : decode cX12_mixes 48 = .ok (.iload_n 2, 1) := by decide +kernel
theorem dX12_mixes_49 : decode cX12_mixes 49 = .ok (.iconst 1, 1) := by decide +kernel
theorem dX12_mixes_50 : decode cX12_mixes 50 = .ok (.iastore, 1) := by decide +kernel
theorem dX12_mixes_51 : decode cX12_mixes 51 = .ok (.aload_n 0, 1) := by decide +kernel
theorem dX12_mixes_52 : decode cX12_mixes 52 = .ok (.lconst 1, 1) := by decide +kernel
theorem dX12_mixes_53 : decode cX12_mixes 53 = .ok (.putfield 387, 3) := by decide +kernel
theorem dX12_mixes_56 : decode cX12_mixes 56 = .ok (.iconst 0, 1) := by decide +kernel
theorem dX12_mixes_57 : decode cX12_mixes 57 = .ok (.istore_n 3, 1) := by decide +kernel
theorem dX12_mixes_58 : decode cX12_mixes 58 = .ok (.iload_n 3, 1) := by decide +kernel
theorem dX12_mixes_59 : decode cX12_mixes 59 = .ok (.iload_n 1, 1) := by decide +kernel
theorem dX12_mixes_60 : decode cX12_mixes 60 = .ok (.if_icmp .ge 129, 3) := by decide +kernel
theorem dX12_mixes_63 : decode cX12_mixes 63 = .ok (.iconst 0, 1) := by decide +kernel
theorem dX12_mixes_64 : decode cX12_mixes 64 = .ok (.istore 4, 2) := by decide +kernel
theorem dX12_mixes_66 : decode cX12_mixes 66 = .ok (.iload 4, 2) := by decide +kernel
theorem dX12_mixes_68 : decode cX12_mixes 68 = .ok (.aload_n 0, 1) := by decide +kernel
theorem dX12_mixes_69 : decode cX12_mixes 69 = .ok (.getfield 248, 3) := by decide +kernel
theorem dX12_mixes_72 : decode cX12_mixes 72 = .ok (.if_icmp .ge 17, 3) := by decide +kernel
theorem dX12_mixes_75 : decode cX12_mixes 75 = .ok (.aload_n 0, 1) := by decide +kernel
theorem dX12_mixes_76 : decode cX12_mixes 76 = .ok (.getfield 123, 3) := by decide +kernel
theorem dX12_mixes_79 : decode cX12_mixes 79 = .ok (.iload 4, 2) := by decide +kernel
theorem dX12_mixes_81 : decode cX12_mixes 81 = .ok (.iconst 0, 1) := by decide +kernel
theorem dX12_mixes_82 : decode cX12_mixes 82 = .ok (.iastore, 1) := by decide +kernel
theorem dX12_mixes_83 : decode cX12_mixes 83 = .ok (.iinc 4 1, 3) := by decide +kernel
theorem dX12_mixes_86 : decode cX12_mixes 86 = .ok (.goto (-20), 3) := by decide +kernel
theorem dX12_mixes_89 : decode cX12_mixes 89 = .ok (.iconst 0, 1) := by decide +kernel
theorem dX12_mixes_90 : decode cX12_mixes 90 = .ok (.istore 4, 2) := by decide +kernel
theorem dX12_mixes_92 : decode cX12_mixes 92 = .ok (.iload 4, 2) := by decide +kernel
theorem dX12_mixes_94 : decode cX12_mixes 94 = .ok (.aload_n 0, 1) := by decide +kernel
theorem dX12_mixes_95 : decode cX12_mixes 95 = .ok (.getfield 248, 3) := by decide +kernel
theorem dX12_mixes_98 : decode cX12_mixes 98 = .ok (.if_icmp .ge 25, 3) := by decide +kernel
theorem dX12_mixes_101 : decode cX12_mixes 101 = .ok (.aload_n 0, 1) := by decide +kernel
theorem dX12_mixes_102 : decode cX12_mixes 102 = .ok (.getfield 120, 3) := by decide +kernel
theorem dX12_mixes_105 : decode cX12_mixes 105 = .ok (.iload 4, 2) := by decide +kernel
theorem dX12_mixes_107 : decode cX12_mixes 107 = .ok (.iaload, 1) := by decide +kernel
theorem dX12_mixes_108 : decode cX12_mixes 108 = .ok (.ifCond .le 9, 3) := by decide +kernel
theorem dX12_mixes_111 : decode cX12_mixes 111 = .ok (.aload_n 0, 1) := by decide +kernel
theorem dX12_mixes_112 : decode cX12_mixes 112 = .ok (.iload 4, 2) := by decide +kernel
theorem dX12_mixes_114 : decode cX12_mixes 114 = .ok (.invokevirtual 390, 3) := by decide +kernel
theorem dX12_mixes_117 : decode cX12_mixes 117 = .ok (.iinc 4 1, 3) := by decide +kernel
theorem dX12_mixes_120 : decode cX12_mixes 120 = .ok (.goto (-28), 3) := by decide +kernel
theorem dX12_mixes_123 : decode cX12_mixes 123 = .ok (.iconst 0, 1) := by decide +kernel
theorem dX12_mixes_124 : decode cX12_mixes 124 = .ok (.istore 4, 2) := by decide +kernel
theorem dX12_mixes_126 : decode cX12_mixes 126 = .ok (.iload 4, 2) := by decide +kernel
theorem dX12_mixes_128 : decode cX12_mixes 128 = .ok (.aload_n 0, 1) := by decide +kernel
theorem dX12_mixes_129 : decode cX12_mixes 129 = .ok (.getfield 248, 3) := by decide +kernel
theorem dX12_mixes_132 : decode cX12_mixes 132 = .ok (.if_icmp .ge 23, 3) := by decide +kernel
theorem dX12_mixes_135 : decode cX12_mixes 135 = .ok (.aload_n 0, 1) := by decide +kernel
theorem dX12_mixes_136 : decode cX12_mixes 136 = .ok (.getfield 120, 3) := by decide +kernel
theorem dX12_mixes_139 : decode cX12_mixes 139 = .ok (.iload 4, 2) := by decide +kernel
theorem dX12_mixes_141 : decode cX12_mixes 141 = .ok (.aload_n 0, 1) := by decide +kernel
theorem dX12_mixes_142 : decode cX12_mixes 142 = .ok (.getfield 123, 3) := by decide +kernel
theorem dX12_mixes_145 : decode cX12_mixes 145 = .ok (.iload 4, 2) := by decide +kernel
theorem dX12_mixes_147 : decode cX12_mixes 147 = .ok (.iaload, 1) := by decide +kernel
theorem dX12_mixes_148 : decode cX12_mixes 148 = .ok (.iastore, 1) := by decide +kernel
theorem dX12_mixes_149 : decode cX12_mixes 149 = .ok (.iinc 4 1, 3) := by decide +kernel
theorem dX12_mixes_152 : decode cX12_mixes 152 = .ok (.goto (-26), 3) := by decide +kernel
theorem dX12_mixes_155 : decode cX12_mixes 155 = .ok (.aload_n 0, 1) := by decide +kernel
theorem dX12_mixes_156 : decode cX12_mixes 156 = .ok (.dup, 1) := by decide +kernel
theorem dX12_mixes_157 : decode cX12_mixes 157 = .ok (.getfield 387, 3) := by decide +kernel
theorem dX12_mixes_160 : decode cX12_mixes 160 = .ok (.aload_n 0, 1) := by decide +kernel
theorem dX12_mixes_161 : decode cX12_mixes 161 = .ok (.getfield 188, 3) := by decide +kernel
theorem dX12_mixes_164 : decode cX12_mixes 164 = .ok (.aload_n 0, 1) := by decide +kernel
theorem dX12_mixes_165 : decode cX12_mixes 165 = .ok (.getfield 185, 3) := by decide +kernel
theorem dX12_mixes_168 : decode cX12_mixes 168 = .ok (.imul, 1) := by decide +kernel
theorem dX12_mixes_169 : decode cX12_mixes 169 = .ok (.aload_n 0, 1) := by decide +kernel
theorem dX12_mixes_170 : decode cX12_mixes 170 = .ok (.getfield 185, 3) := by decide +kernel
theorem dX12_mixes_173 : decode cX12_mixes 173 = .ok (.iconst 1, 1) := by decide +kernel
theorem dX12_mixes_174 : decode cX12_mixes 174 = .ok (.isub, 1) := by decide +kernel
theorem dX12_mixes_175 : decode cX12_mixes 175 = .ok (.imul, 1) := by decide +kernel
theorem dX12_mixes_176 : decode cX12_mixes 176 = .ok (.iconst 2, 1) := by decide +kernel
theorem dX12_mixes_177 : decode cX12_mixes 177 = .ok (.idiv, 1) := by decide +kernel
theorem dX12_mixes_178 : decode cX12_mixes 178 = .ok (.i2l, 1) := by decide +kernel
theorem dX12_mixes_179 : decode cX12_mixes 179 = .ok (.lmul, 1) := by decide +kernel
theorem dX12_mixes_180 : decode cX12_mixes 180 = .ok (.putfield 387, 3) := by decide +kernel
theorem dX12_mixes_183 : decode cX12_mixes 183 = .ok (.iinc 3 1, 3) := by decide +kernel
theorem dX12_mixes_186 : decode cX12_mixes 186 = .ok (.goto (-128), 3) := by decide +kernel
theorem dX12_mixes_189 : decode cX12_mixes 189 = .ok (.return_, 1) := by decide +kernel
theorem dX12_mixesOne_0 : decode cX12_mixesOne 0 = .ok (.iconst 0, 1) := by decide +kernel
theorem dX12_mixesOne_1 : decode cX12_mixesOne 1 = .ok (.istore_n 2, 1) := by decide +kernel
theorem dX12_mixesOne_2 : decode cX12_mixesOne 2 = .ok (.iload_n 2, 1) := by decide +kernel
theorem dX12_mixesOne_3 : decode cX12_mixesOne 3 = .ok (.aload_n 0, 1) := by decide +kernel
theorem dX12_mixesOne_4 : decode cX12_mixesOne 4 = .ok (.getfield 188, 3) := by decide +kernel
theorem dX12_mixesOne_7 : decode cX12_mixesOne 7 = .ok (.if_icmp .ge 86, 3) := by decide +kernel
theorem dX12_mixesOne_93 : decode cX12_mixesOne 93 = .ok (.return_, 1) := by decide +kernel
theorem dX12_mix_0 : decode cX12_mix 0 = .ok (.aload_n 0, 1) := by decide +kernel
theorem dX12_mix_1 : decode cX12_mix 1 = .ok (.iconst 0, 1) := by decide +kernel
theorem dX12_mix_2 : decode cX12_mix 2 = .ok (.putfield 132, 3) := by decide +kernel
theorem dX12_mix_5 : decode cX12_mix 5 = .ok (.iload_n 1, 1) := by decide +kernel
theorem dX12_mix_6 : decode cX12_mix 6 = .ok (.iconst 0, 1) := by decide +kernel
theorem dX12_mix_7 : decode cX12_mix 7 = .ok (.iconst 5, 1) := by decide +kernel
theorem dX12_mix_8 : decode cX12_mix 8 = .ok (.invokestatic 237, 3) := by decide +kernel
theorem dX12_mix_11 : decode cX12_mix 11 = .ok (.ifCond .eq 22, 3) := by decide +kernel
theorem dX12_mix_14 : decode cX12_mix 14 = .ok (.iload_n 2, 1) := by decide +kernel
theorem dX12_mix_15 : decode cX12_mix 15 = .ok (.ifCond .lt 18, 3) := by decide +kernel
theorem dX12_mix_18 : decode cX12_mix 18 = .ok (.iload_n 2, 1) := by decide +kernel
theorem dX12_mix_19 : decode cX12_mix 19 = .ok (.aload_n 0, 1) := by decide +kernel
theorem dX12_mix_20 : decode cX12_mix 20 = .ok (.getfield 248, 3) := by decide +kernel
theorem dX12_mix_23 : decode cX12_mix 23 = .ok (.if_icmp .ge 10, 3) := by decide +kernel
theorem dX12_mix_26 : decode cX12_mix 26 = .ok (.aload_n 0, 1) := by decide +kernel
theorem dX12_mix_27 : decode cX12_mix 27 = .ok (.getfield 251, 3) := by decide +kernel
theorem dX12_mix_30 : decode cX12_mix 30 = .ok (.ifCond .ne 5, 3) := by decide +kernel
theorem dX12_mix_33 : decode cX12_mix 33 = .ok (.iconst (-1), 1) := by decide +kernel
theorem dX12_mix_34 : decode cX12_mix 34 = .ok (.ireturn, 1) := by decide +kernel
theorem dX12_mix_35 : decode cX12_mix 35 = .ok (.aload_n 0, 1) := by decide +kernel
theorem dX12_mix_36 : decode cX12_mix 36 = .ok (.iload_n 1, 1) := by decide +kernel
theorem dX12_mix_37 : decode cX12_mix 37 = .ok (.invokevirtual 393, 3) := by decide +kernel
theorem dX12_mix_40 : decode cX12_mix 40 = .ok (.aload_n 0, 1) := by decide +kernel
theorem dX12_mix_41 : decode cX12_mix 41 = .ok (.getfield 120, 3) := by decide +kernel
theorem dX12_mix_44 : decode cX12_mix 44 = .ok (.iload_n 2, 1) := by decide +kernel
theorem dX12_mix_45 : decode cX12_mix 45 = .ok (.iaload, 1) := by decide +kernel
theorem dX12_mix_46 : decode cX12_mix 46 = .ok (.ireturn, 1) := by decide +kernel
theorem dX12_mixed_0 : decode cX12_mixed 0 = .ok (.aload_n 0, 1) := by decide +kernel
theorem dX12_mixed_1 : decode cX12_mixed 1 = .ok (.iconst 0, 1) := by decide +kernel
theorem dX12_mixed_2 : decode cX12_mixed 2 = .ok (.putfield 132, 3) := by decide +kernel
theorem dX12_mixed_5 : decode cX12_mixed 5 = .ok (.iload_n 1, 1) := by decide +kernel
theorem dX12_mixed_6 : decode cX12_mixed 6 = .ok (.iconst 0, 1) := by decide +kernel
theorem dX12_mixed_7 : decode cX12_mixed 7 = .ok (.iconst 5, 1) := by decide +kernel
theorem dX12_mixed_8 : decode cX12_mixed 8 = .ok (.invokestatic 237, 3) := by decide +kernel
theorem dX12_mixed_11 : decode cX12_mixed 11 = .ok (.ifCond .eq 19, 3) := by decide +kernel
theorem dX12_mixed_14 : decode cX12_mixed 14 = .ok (.iload_n 2, 1) := by decide +kernel
theorem dX12_mixed_15 : decode cX12_mixed 15 = .ok (.iconst 0, 1) := by decide +kernel
theorem dX12_mixed_16 : decode cX12_mixed 16 = .ok (.iconst 1, 1) := by decide +kernel
theorem dX12_mixed_17 : decode cX12_mixed 17 = .ok (.invokestatic 237, 3) := by decide +kernel
theorem dX12_mixed_20 : decode cX12_mixed 20 = .ok (.ifCond .eq 10, 3) := by decide +kernel
theorem dX12_mixed_23 : decode cX12_mixed 23 = .ok (.aload_n 0, 1) := by decide +kernel
theorem dX12_mixed_24 : decode cX12_mixed 24 = .ok (.getfield 251, 3) := by decide +kernel
theorem dX12_mixed_27 : decode cX12_mixed 27 = .ok (.ifCond .ne 7, 3) := by decide +kernel
theorem dX12_mixed_30 : decode cX12_mixed 30 = .ok (.ldc2_w 327, 3) := by decide +kernel
theorem dX12_mixed_33 : decode cX12_mixed 33 = .ok (.lreturn, 1) := by decide +kernel
theorem dX12_mixed_34 : decode cX12_mixed 34 = .ok (.aload_n 0, 1) := by decide +kernel
theorem dX12_mixed_35 : decode cX12_mixed 35 = .ok (.iload_n 1, 1) := by decide +kernel
theorem dX12_mixed_36 : decode cX12_mixed 36 = .ok (.invokevirtual 393, 3) := by decide +kernel
theorem dX12_mixed_39 : decode cX12_mixed 39 = .ok (.iload_n 2, 1) := by decide +kernel
theorem dX12_mixed_40 : decode cX12_mixed 40 = .ok (.iconst 1, 1) := by decide +kernel
theorem dX12_mixed_41 : decode cX12_mixed 41 = .ok (.if_icmp .ne 14, 3) := by decide +kernel
theorem dX12_mixed_44 : decode cX12_mixed 44 = .ok (.aload_n 0, 1) := by decide +kernel
theorem dX12_mixed_45 : decode cX12_mixed 45 = .ok (.getfield 387, 3) := by decide +kernel
theorem dX12_mixed_48 : decode cX12_mixed 48 = .ok (.aload_n 0, 1) := by decide +kernel
theorem dX12_mixed_49 : decode cX12_mixed 49 = .ok (.getfield 251, 3) := by decide +kernel
theorem dX12_mixed_52 : decode cX12_mixed 52 = .ok (.i2l, 1) := by decide +kernel
theorem dX12_mixed_53 : decode cX12_mixed 53 = .ok (.lmul, 1) := by decide +kernel
theorem dX12_mixed_54 : decode cX12_mixed 54 = .ok (.lreturn, 1) := by decide +kernel
theorem dX12_mixed_55 : decode cX12_mixed 55 = .ok (.lconst 0, 1) := by decide +kernel
theorem dX12_mixed_56 : decode cX12_mixed 56 = .ok (.lstore_n 3, 1) := by decide +kernel
theorem dX12_mixed_57 : decode cX12_mixed 57 = .ok (.iconst 0, 1) := by decide +kernel
theorem dX12_mixed_58 : decode cX12_mixed 58 = .ok (.istore 5, 2) := by decide +kernel
theorem dX12_mixed_60 : decode cX12_mixed 60 = .ok (.iload 5, 2) := by decide +kernel
theorem dX12_mixed_62 : decode cX12_mixed 62 = .ok (.aload_n 0, 1) := by decide +kernel
theorem dX12_mixed_63 : decode cX12_mixed 63 = .ok (.getfield 248, 3) := by decide +kernel
theorem dX12_mixed_66 : decode cX12_mixed 66 = .ok (.if_icmp .ge 61, 3) := by decide +kernel
theorem dX12_mixed_69 : decode cX12_mixed 69 = .ok (.aload_n 0, 1) := by decide +kernel
theorem dX12_mixed_70 : decode cX12_mixed 70 = .ok (.getfield 47, 3) := by decide +kernel
theorem dX12_mixed_73 : decode cX12_mixed 73 = .ok (.iload 5, 2) := by decide +kernel
theorem dX12_mixed_75 : decode cX12_mixed 75 = .ok (.iaload, 1) := by decide +kernel
theorem dX12_mixed_76 : decode cX12_mixed 76 = .ok (.ifCond .eq 6, 3) := by decide +kernel
theorem dX12_mixed_82 : decode cX12_mixed 82 = .ok (.aload_n 0, 1) := by decide +kernel
theorem dX12_mixed_83 : decode cX12_mixed 83 = .ok (.getfield 120, 3) := by decide +kernel
theorem dX12_mixed_86 : decode cX12_mixed 86 = .ok (.iload 5, 2) := by decide +kernel
theorem dX12_mixed_88 : decode cX12_mixed 88 = .ok (.iaload, 1) := by decide +kernel
theorem dX12_mixed_89 : decode cX12_mixed 89 = .ok (.i2l, 1) := by decide +kernel
theorem dX12_mixed_90 : decode cX12_mixed 90 = .ok (.aload_n 0, 1) := by decide +kernel
theorem dX12_mixed_91 : decode cX12_mixed 91 = .ok (.getfield 251, 3) := by decide +kernel
theorem dX12_mixed_94 : decode cX12_mixed 94 = .ok (.i2l, 1) := by decide +kernel
theorem dX12_mixed_95 : decode cX12_mixed 95 = .ok (.lmul, 1) := by decide +kernel
theorem dX12_mixed_96 : decode cX12_mixed 96 = .ok (.aload_n 0, 1) := by decide +kernel
theorem dX12_mixed_97 : decode cX12_mixed 97 = .ok (.getfield 387, 3) := by decide +kernel
theorem dX12_mixed_100 : decode cX12_mixed 100 = .ok (.lsub, 1) := by decide +kernel
theorem dX12_mixed_101 : decode cX12_mixed 101 = .ok (.lstore 6, 2) := by decide +kernel
theorem dX12_mixed_103 : decode cX12_mixed 103 = .ok (.lload_n 3, 1) := by decide +kernel
theorem dX12_mixed_104 : decode cX12_mixed 104 = .ok (.lload 6, 2) := by decide +kernel
theorem dX12_mixed_106 : decode cX12_mixed 106 = .ok (.lconst 0, 1) := by decide +kernel
theorem dX12_mixed_107 : decode cX12_mixed 107 = .ok (.lcmp, 1) := by decide +kernel
theorem dX12_mixed_108 : decode cX12_mixed 108 = .ok (.ifCond .ge 9, 3) := by decide +kernel
theorem dX12_mixed_117 : decode cX12_mixed 117 = .ok (.lload 6, 2) := by decide +kernel
theorem dX12_mixed_119 : decode cX12_mixed 119 = .ok (.ladd, 1) := by decide +kernel
theorem dX12_mixed_120 : decode cX12_mixed 120 = .ok (.lstore_n 3, 1) := by decide +kernel
theorem dX12_mixed_121 : decode cX12_mixed 121 = .ok (.iinc 5 1, 3) := by decide +kernel
theorem dX12_mixed_124 : decode cX12_mixed 124 = .ok (.goto (-64), 3) := by decide +kernel
theorem dX12_mixed_127 : decode cX12_mixed 127 = .ok (.lload_n 3, 1) := by decide +kernel
theorem dX12_mixed_128 : decode cX12_mixed 128 = .ok (.lreturn, 1) := by decide +kernel
theorem dX12_run_0 : decode cX12_run 0 = .ok (.aload_n 0, 1) := by decide +kernel
theorem dX12_run_1 : decode cX12_run 1 = .ok (.iconst 0, 1) := by decide +kernel
theorem dX12_run_2 : decode cX12_run 2 = .ok (.putfield 132, 3) := by decide +kernel
theorem dX12_run_5 : decode cX12_run 5 = .ok (.iload_n 1, 1) := by decide +kernel
theorem dX12_run_6 : decode cX12_run 6 = .ok (.ifCond .lt 18, 3) := by decide +kernel
theorem dX12_run_9 : decode cX12_run 9 = .ok (.aload_n 0, 1) := by decide +kernel
theorem dX12_run_10 : decode cX12_run 10 = .ok (.iload_n 2, 1) := by decide +kernel
theorem dX12_run_11 : decode cX12_run 11 = .ok (.invokevirtual 269, 3) := by decide +kernel
theorem dX12_run_14 : decode cX12_run 14 = .ok (.ifCond .eq 10, 3) := by decide +kernel
theorem dX12_run_24 : decode cX12_run 24 = .ok (.iconst (-1), 1) := by decide +kernel
theorem dX12_run_25 : decode cX12_run 25 = .ok (.ireturn, 1) := by decide +kernel
theorem dX12_evenly_0 : decode cX12_evenly 0 = .ok (.aload_n 0, 1) := by decide +kernel
theorem dX12_evenly_1 : decode cX12_evenly 1 = .ok (.iconst 0, 1) := by decide +kernel
theorem dX12_evenly_2 : decode cX12_evenly 2 = .ok (.putfield 132, 3) := by decide +kernel
theorem dX12_evenly_5 : decode cX12_evenly 5 = .ok (.iload_n 1, 1) := by decide +kernel
theorem dX12_evenly_6 : decode cX12_evenly 6 = .ok (.ifCond .lt 19, 3) := by decide +kernel
theorem dX12_evenly_9 : decode cX12_evenly 9 = .ok (.iload_n 2, 1) := by decide +kernel
theorem dX12_evenly_10 : decode cX12_evenly 10 = .ok (.iconst 0, 1) := by decide +kernel
theorem dX12_evenly_11 : decode cX12_evenly 11 = .ok (.iconst 2, 1) := by decide +kernel
theorem dX12_evenly_12 : decode cX12_evenly 12 = .ok (.invokestatic 237, 3) := by decide +kernel
theorem dX12_evenly_15 : decode cX12_evenly 15 = .ok (.ifCond .eq 10, 3) := by decide +kernel
theorem dX12_evenly_25 : decode cX12_evenly 25 = .ok (.iconst (-1), 1) := by decide +kernel
theorem dX12_evenly_26 : decode cX12_evenly 26 = .ok (.ireturn, 1) := by decide +kernel
theorem dX12_count_0 : decode cX12_count 0 = .ok (.aload_n 0, 1) := by decide +kernel
theorem dX12_count_1 : decode cX12_count 1 = .ok (.iconst 0, 1) := by decide +kernel
theorem dX12_count_2 : decode cX12_count 2 = .ok (.putfield 132, 3) := by decide +kernel
theorem dX12_count_5 : decode cX12_count 5 = .ok (.iload_n 1, 1) := by decide +kernel
theorem dX12_count_6 : decode cX12_count 6 = .ok (.tableswitch 77 0 6 #[42, 47, 52, 57, 62, 67, 72], 42) := by decide +kernel
theorem dX12_count_48 : decode cX12_count 48 = .ok (.aload_n 0, 1) := by decide +kernel
theorem dX12_count_49 : decode cX12_count 49 = .ok (.getfield 185, 3) := by decide +kernel
theorem dX12_count_52 : decode cX12_count 52 = .ok (.ireturn, 1) := by decide +kernel
theorem dX12_count_53 : decode cX12_count 53 = .ok (.aload_n 0, 1) := by decide +kernel
theorem dX12_count_54 : decode cX12_count 54 = .ok (.getfield 188, 3) := by decide +kernel
theorem dX12_count_57 : decode cX12_count 57 = .ok (.ireturn, 1) := by decide +kernel
theorem dX12_count_58 : decode cX12_count 58 = .ok (.aload_n 0, 1) := by decide +kernel
theorem dX12_count_59 : decode cX12_count 59 = .ok (.invokevirtual 241, 3) := by decide +kernel
theorem dX12_count_62 : decode cX12_count 62 = .ok (.ireturn, 1) := by decide +kernel
theorem dX12_count_63 : decode cX12_count 63 = .ok (.aload_n 0, 1) := by decide +kernel
theorem dX12_count_64 : decode cX12_count 64 = .ok (.getfield 222, 3) := by decide +kernel
theorem dX12_count_67 : decode cX12_count 67 = .ok (.ireturn, 1) := by decide +kernel
theorem dX12_count_68 : decode cX12_count 68 = .ok (.aload_n 0, 1) := by decide +kernel
theorem dX12_count_69 : decode cX12_count 69 = .ok (.getfield 225, 3) := by decide +kernel
theorem dX12_count_72 : decode cX12_count 72 = .ok (.ireturn, 1) := by decide +kernel
theorem dX12_count_73 : decode cX12_count 73 = .ok (.aload_n 0, 1) := by decide +kernel
theorem dX12_count_74 : decode cX12_count 74 = .ok (.getfield 234, 3) := by decide +kernel
theorem dX12_count_77 : decode cX12_count 77 = .ok (.ireturn, 1) := by decide +kernel
theorem dX12_count_78 : decode cX12_count 78 = .ok (.aload_n 0, 1) := by decide +kernel
theorem dX12_count_79 : decode cX12_count 79 = .ok (.getfield 248, 3) := by decide +kernel
theorem dX12_count_82 : decode cX12_count 82 = .ok (.ireturn, 1) := by decide +kernel
theorem dX12_count_83 : decode cX12_count 83 = .ok (.iconst (-1), 1) := by decide +kernel
theorem dX12_count_84 : decode cX12_count 84 = .ok (.ireturn, 1) := by decide +kernel
theorem dJ6_bitCount_0f7a4_0 : decode cJ6_bitCount_0f7a4 0 = .ok (.iload_n 0, 1) := by decide +kernel
theorem dJ6_bitCount_0f7a4_1 : decode cJ6_bitCount_0f7a4 1 = .ok (.iload_n 0, 1) := by decide +kernel
theorem dJ6_bitCount_0f7a4_2 : decode cJ6_bitCount_0f7a4 2 = .ok (.iconst 1, 1) := by decide +kernel
theorem dJ6_bitCount_0f7a4_3 : decode cJ6_bitCount_0f7a4 3 = .ok (.iushr, 1) := by decide +kernel
theorem dJ6_bitCount_0f7a4_4 : decode cJ6_bitCount_0f7a4 4 = .ok (.ldc_w 265, 3) := by decide +kernel
theorem dJ6_bitCount_0f7a4_7 : decode cJ6_bitCount_0f7a4 7 = .ok (.iand, 1) := by decide +kernel
theorem dJ6_bitCount_0f7a4_8 : decode cJ6_bitCount_0f7a4 8 = .ok (.isub, 1) := by decide +kernel
theorem dJ6_bitCount_0f7a4_9 : decode cJ6_bitCount_0f7a4 9 = .ok (.istore_n 0, 1) := by decide +kernel
theorem dJ6_bitCount_0f7a4_10 : decode cJ6_bitCount_0f7a4 10 = .ok (.iload_n 0, 1) := by decide +kernel
theorem dJ6_bitCount_0f7a4_11 : decode cJ6_bitCount_0f7a4 11 = .ok (.ldc_w 266, 3) := by decide +kernel
theorem dJ6_bitCount_0f7a4_14 : decode cJ6_bitCount_0f7a4 14 = .ok (.iand, 1) := by decide +kernel
theorem dJ6_bitCount_0f7a4_15 : decode cJ6_bitCount_0f7a4 15 = .ok (.iload_n 0, 1) := by decide +kernel
theorem dJ6_bitCount_0f7a4_16 : decode cJ6_bitCount_0f7a4 16 = .ok (.iconst 2, 1) := by decide +kernel
theorem dJ6_bitCount_0f7a4_17 : decode cJ6_bitCount_0f7a4 17 = .ok (.iushr, 1) := by decide +kernel
theorem dJ6_bitCount_0f7a4_18 : decode cJ6_bitCount_0f7a4 18 = .ok (.ldc_w 266, 3) := by decide +kernel
theorem dJ6_bitCount_0f7a4_21 : decode cJ6_bitCount_0f7a4 21 = .ok (.iand, 1) := by decide +kernel
theorem dJ6_bitCount_0f7a4_22 : decode cJ6_bitCount_0f7a4 22 = .ok (.iadd, 1) := by decide +kernel
theorem dJ6_bitCount_0f7a4_23 : decode cJ6_bitCount_0f7a4 23 = .ok (.istore_n 0, 1) := by decide +kernel
theorem dJ6_bitCount_0f7a4_24 : decode cJ6_bitCount_0f7a4 24 = .ok (.iload_n 0, 1) := by decide +kernel
theorem dJ6_bitCount_0f7a4_25 : decode cJ6_bitCount_0f7a4 25 = .ok (.iload_n 0, 1) := by decide +kernel
theorem dJ6_bitCount_0f7a4_26 : decode cJ6_bitCount_0f7a4 26 = .ok (.iconst 4, 1) := by decide +kernel
theorem dJ6_bitCount_0f7a4_27 : decode cJ6_bitCount_0f7a4 27 = .ok (.iushr, 1) := by decide +kernel
theorem dJ6_bitCount_0f7a4_28 : decode cJ6_bitCount_0f7a4 28 = .ok (.iadd, 1) := by decide +kernel
theorem dJ6_bitCount_0f7a4_29 : decode cJ6_bitCount_0f7a4 29 = .ok (.ldc_w 267, 3) := by decide +kernel
theorem dJ6_bitCount_0f7a4_32 : decode cJ6_bitCount_0f7a4 32 = .ok (.iand, 1) := by decide +kernel
theorem dJ6_bitCount_0f7a4_33 : decode cJ6_bitCount_0f7a4 33 = .ok (.istore_n 0, 1) := by decide +kernel
theorem dJ6_bitCount_0f7a4_34 : decode cJ6_bitCount_0f7a4 34 = .ok (.iload_n 0, 1) := by decide +kernel
theorem dJ6_bitCount_0f7a4_35 : decode cJ6_bitCount_0f7a4 35 = .ok (.iload_n 0, 1) := by decide +kernel
theorem dJ6_bitCount_0f7a4_36 : decode cJ6_bitCount_0f7a4 36 = .ok (.bipush 8, 2) := by decide +kernel
theorem dJ6_bitCount_0f7a4_38 : decode cJ6_bitCount_0f7a4 38 = .ok (.iushr, 1) := by decide +kernel
theorem dJ6_bitCount_0f7a4_39 : decode cJ6_bitCount_0f7a4 39 = .ok (.iadd, 1) := by decide +kernel
theorem dJ6_bitCount_0f7a4_40 : decode cJ6_bitCount_0f7a4 40 = .ok (.istore_n 0, 1) := by decide +kernel
theorem dJ6_bitCount_0f7a4_41 : decode cJ6_bitCount_0f7a4 41 = .ok (.iload_n 0, 1) := by decide +kernel
theorem dJ6_bitCount_0f7a4_42 : decode cJ6_bitCount_0f7a4 42 = .ok (.iload_n 0, 1) := by decide +kernel
theorem dJ6_bitCount_0f7a4_43 : decode cJ6_bitCount_0f7a4 43 = .ok (.bipush 16, 2) := by decide +kernel
theorem dJ6_bitCount_0f7a4_45 : decode cJ6_bitCount_0f7a4 45 = .ok (.iushr, 1) := by decide +kernel
theorem dJ6_bitCount_0f7a4_46 : decode cJ6_bitCount_0f7a4 46 = .ok (.iadd, 1) := by decide +kernel
theorem dJ6_bitCount_0f7a4_47 : decode cJ6_bitCount_0f7a4 47 = .ok (.istore_n 0, 1) := by decide +kernel
theorem dJ6_bitCount_0f7a4_48 : decode cJ6_bitCount_0f7a4 48 = .ok (.iload_n 0, 1) := by decide +kernel
theorem dJ6_bitCount_0f7a4_49 : decode cJ6_bitCount_0f7a4 49 = .ok (.bipush 63, 2) := by decide +kernel
theorem dJ6_bitCount_0f7a4_51 : decode cJ6_bitCount_0f7a4 51 = .ok (.iand, 1) := by decide +kernel
theorem dJ6_bitCount_0f7a4_52 : decode cJ6_bitCount_0f7a4 52 = .ok (.ireturn, 1) := by decide +kernel
theorem dJ7_rangeCheck_23922_0 : decode cJ7_rangeCheck_23922 0 = .ok (.iload_n 1, 1) := by decide +kernel
theorem dJ7_rangeCheck_23922_1 : decode cJ7_rangeCheck_23922 1 = .ok (.iload_n 2, 1) := by decide +kernel
theorem dJ7_rangeCheck_23922_2 : decode cJ7_rangeCheck_23922 2 = .ok (.if_icmp .le 44, 3) := by decide +kernel
theorem dJ7_rangeCheck_23922_46 : decode cJ7_rangeCheck_23922 46 = .ok (.iload_n 1, 1) := by decide +kernel
theorem dJ7_rangeCheck_23922_47 : decode cJ7_rangeCheck_23922 47 = .ok (.ifCond .ge 12, 3) := by decide +kernel
theorem dJ7_rangeCheck_23922_59 : decode cJ7_rangeCheck_23922 59 = .ok (.iload_n 2, 1) := by decide +kernel
theorem dJ7_rangeCheck_23922_60 : decode cJ7_rangeCheck_23922 60 = .ok (.iload_n 0, 1) := by decide +kernel
theorem dJ7_rangeCheck_23922_61 : decode cJ7_rangeCheck_23922 61 = .ok (.if_icmp .le 12, 3) := by decide +kernel
theorem dJ7_rangeCheck_23922_73 : decode cJ7_rangeCheck_23922 73 = .ok (.return_, 1) := by decide +kernel
theorem dJ7_fill_d0a16_0 : decode cJ7_fill_d0a16 0 = .ok (.iconst 0, 1) := by decide +kernel
theorem dJ7_fill_d0a16_1 : decode cJ7_fill_d0a16 1 = .ok (.istore_n 3, 1) := by decide +kernel
theorem dJ7_fill_d0a16_2 : decode cJ7_fill_d0a16 2 = .ok (.aload_n 0, 1) := by decide +kernel
theorem dJ7_fill_d0a16_3 : decode cJ7_fill_d0a16 3 = .ok (.arraylength, 1) := by decide +kernel
theorem dJ7_fill_d0a16_4 : decode cJ7_fill_d0a16 4 = .ok (.istore 4, 2) := by decide +kernel
theorem dJ7_fill_d0a16_6 : decode cJ7_fill_d0a16 6 = .ok (.iload_n 3, 1) := by decide +kernel
theorem dJ7_fill_d0a16_7 : decode cJ7_fill_d0a16 7 = .ok (.iload 4, 2) := by decide +kernel
theorem dJ7_fill_d0a16_9 : decode cJ7_fill_d0a16 9 = .ok (.if_icmp .ge 13, 3) := by decide +kernel
theorem dJ7_fill_d0a16_12 : decode cJ7_fill_d0a16 12 = .ok (.aload_n 0, 1) := by decide +kernel
theorem dJ7_fill_d0a16_13 : decode cJ7_fill_d0a16 13 = .ok (.iload_n 3, 1) := by decide +kernel
theorem dJ7_fill_d0a16_14 : decode cJ7_fill_d0a16 14 = .ok (.lload_n 1, 1) := by decide +kernel
theorem dJ7_fill_d0a16_15 : decode cJ7_fill_d0a16 15 = .ok (.lastore, 1) := by decide +kernel
theorem dJ7_fill_d0a16_16 : decode cJ7_fill_d0a16 16 = .ok (.iinc 3 1, 3) := by decide +kernel
theorem dJ7_fill_d0a16_19 : decode cJ7_fill_d0a16 19 = .ok (.goto (-13), 3) := by decide +kernel
theorem dJ7_fill_d0a16_22 : decode cJ7_fill_d0a16 22 = .ok (.return_, 1) := by decide +kernel
theorem dJ7_fill_53178_0 : decode cJ7_fill_53178 0 = .ok (.iconst 0, 1) := by decide +kernel
theorem dJ7_fill_53178_1 : decode cJ7_fill_53178 1 = .ok (.istore_n 2, 1) := by decide +kernel
theorem dJ7_fill_53178_2 : decode cJ7_fill_53178 2 = .ok (.aload_n 0, 1) := by decide +kernel
theorem dJ7_fill_53178_3 : decode cJ7_fill_53178 3 = .ok (.arraylength, 1) := by decide +kernel
theorem dJ7_fill_53178_4 : decode cJ7_fill_53178 4 = .ok (.istore_n 3, 1) := by decide +kernel
theorem dJ7_fill_53178_5 : decode cJ7_fill_53178 5 = .ok (.iload_n 2, 1) := by decide +kernel
theorem dJ7_fill_53178_6 : decode cJ7_fill_53178 6 = .ok (.iload_n 3, 1) := by decide +kernel
theorem dJ7_fill_53178_7 : decode cJ7_fill_53178 7 = .ok (.if_icmp .ge 13, 3) := by decide +kernel
theorem dJ7_fill_53178_10 : decode cJ7_fill_53178 10 = .ok (.aload_n 0, 1) := by decide +kernel
theorem dJ7_fill_53178_11 : decode cJ7_fill_53178 11 = .ok (.iload_n 2, 1) := by decide +kernel
theorem dJ7_fill_53178_12 : decode cJ7_fill_53178 12 = .ok (.iload_n 1, 1) := by decide +kernel
theorem dJ7_fill_53178_13 : decode cJ7_fill_53178 13 = .ok (.iastore, 1) := by decide +kernel
theorem dJ7_fill_53178_14 : decode cJ7_fill_53178 14 = .ok (.iinc 2 1, 3) := by decide +kernel
theorem dJ7_fill_53178_17 : decode cJ7_fill_53178 17 = .ok (.goto (-12), 3) := by decide +kernel
theorem dJ7_fill_53178_20 : decode cJ7_fill_53178 20 = .ok (.return_, 1) := by decide +kernel
theorem dJ7_fill_fda19_0 : decode cJ7_fill_fda19 0 = .ok (.aload_n 0, 1) := by decide +kernel
theorem dJ7_fill_fda19_1 : decode cJ7_fill_fda19 1 = .ok (.arraylength, 1) := by decide +kernel
theorem dJ7_fill_fda19_2 : decode cJ7_fill_fda19 2 = .ok (.iload_n 1, 1) := by decide +kernel
theorem dJ7_fill_fda19_3 : decode cJ7_fill_fda19 3 = .ok (.iload_n 2, 1) := by decide +kernel
theorem dJ7_fill_fda19_4 : decode cJ7_fill_fda19 4 = .ok (.invokestatic 13, 3) := by decide +kernel
theorem dJ7_fill_fda19_7 : decode cJ7_fill_fda19 7 = .ok (.iload_n 1, 1) := by decide +kernel
theorem dJ7_fill_fda19_8 : decode cJ7_fill_fda19 8 = .ok (.istore 4, 2) := by decide +kernel
theorem dJ7_fill_fda19_10 : decode cJ7_fill_fda19 10 = .ok (.iload 4, 2) := by decide +kernel
theorem dJ7_fill_fda19_12 : decode cJ7_fill_fda19 12 = .ok (.iload_n 2, 1) := by decide +kernel
theorem dJ7_fill_fda19_13 : decode cJ7_fill_fda19 13 = .ok (.if_icmp .ge 14, 3) := by decide +kernel
theorem dJ7_fill_fda19_16 : decode cJ7_fill_fda19 16 = .ok (.aload_n 0, 1) := by decide +kernel
theorem dJ7_fill_fda19_17 : decode cJ7_fill_fda19 17 = .ok (.iload 4, 2) := by decide +kernel
theorem dJ7_fill_fda19_19 : decode cJ7_fill_fda19 19 = .ok (.iload_n 3, 1) := by decide +kernel
theorem dJ7_fill_fda19_20 : decode cJ7_fill_fda19 20 = .ok (.iastore, 1) := by decide +kernel
theorem dJ7_fill_fda19_21 : decode cJ7_fill_fda19 21 = .ok (.iinc 4 1, 3) := by decide +kernel
theorem dJ7_fill_fda19_24 : decode cJ7_fill_fda19 24 = .ok (.goto (-14), 3) := by decide +kernel
theorem dJ7_fill_fda19_27 : decode cJ7_fill_fda19 27 = .ok (.return_, 1) := by decide +kernel
abbrev vwCl : List vw_C := [(RJ0, TJ0, 4), (RJ4, TJ4, 4), (RJx00060, TJx00060, 6), (RX0, TX0, 5), (RX1, TX1, 4), (RX2, TX2, 10), (RX3, TX3, 11), (RX4, TX4, 9), (RX5, TX5, 9), (RX6, TX6, 10), (RX7, TX7, 6), (RX8, TX8, 8), (RX9, TX9, 10), (RX10, TX10, 5), (RX11, TX11, 18), (RX12, TX12, 66)]
