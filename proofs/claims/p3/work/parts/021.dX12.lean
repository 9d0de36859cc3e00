theorem dX12_init_0 : decode cX12_init 0 = .ok (.aload_n 0, 1) := by decide +kernel
theorem dX12_init_1 : decode cX12_init 1 = .ok (.invokespecial 3, 3) := by decide +kernel
theorem dX12_init_4 : decode cX12_init 4 = .ok (.aload_n 0, 1) := by decide +kernel
theorem dX12_init_5 : decode cX12_init 5 = .ok (.iconst (-1), 1) := by decide +kernel
theorem dX12_init_6 : decode cX12_init 6 = .ok (.putfield 9, 3) := by decide +kernel
theorem dX12_init_9 : decode cX12_init 9 = .ok (.aload_n 0, 1) := by decide +kernel
theorem dX12_init_10 : decode cX12_init 10 = .ok (.sipush 3000, 3) := by decide +kernel
theorem dX12_init_13 : decode cX12_init 13 = .ok (.newarray .int, 2) := by decide +kernel
theorem dX12_init_15 : decode cX12_init 15 = .ok (.putfield 13, 3) := by decide +kernel
theorem dX12_init_18 : decode cX12_init 18 = .ok (.aload_n 0, 1) := by decide +kernel
theorem dX12_init_19 : decode cX12_init 19 = .ok (.bipush 30, 2) := by decide +kernel
theorem dX12_init_21 : decode cX12_init 21 = .ok (.newarray .boolean, 2) := by decide +kernel
theorem dX12_init_23 : decode cX12_init 23 = .ok (.putfield 17, 3) := by decide +kernel
theorem dX12_init_26 : decode cX12_init 26 = .ok (.aload_n 0, 1) := by decide +kernel
theorem dX12_init_27 : decode cX12_init 27 = .ok (.bipush 30, 2) := by decide +kernel
theorem dX12_init_29 : decode cX12_init 29 = .ok (.newarray .int, 2) := by decide +kernel
theorem dX12_init_31 : decode cX12_init 31 = .ok (.putfield 21, 3) := by decide +kernel
theorem dX12_init_34 : decode cX12_init 34 = .ok (.aload_n 0, 1) := by decide +kernel
theorem dX12_init_35 : decode cX12_init 35 = .ok (.bipush 30, 2) := by decide +kernel
theorem dX12_init_37 : decode cX12_init 37 = .ok (.newarray .int, 2) := by decide +kernel
theorem dX12_init_39 : decode cX12_init 39 = .ok (.putfield 24, 3) := by decide +kernel
theorem dX12_init_42 : decode cX12_init 42 = .ok (.aload_n 0, 1) := by decide +kernel
theorem dX12_init_43 : decode cX12_init 43 = .ok (.bipush 30, 2) := by decide +kernel
theorem dX12_init_45 : decode cX12_init 45 = .ok (.newarray .int, 2) := by decide +kernel
theorem dX12_init_47 : decode cX12_init 47 = .ok (.putfield 27, 3) := by decide +kernel
theorem dX12_init_50 : decode cX12_init 50 = .ok (.aload_n 0, 1) := by decide +kernel
theorem dX12_init_51 : decode cX12_init 51 = .ok (.bipush 30, 2) := by decide +kernel
theorem dX12_init_53 : decode cX12_init 53 = .ok (.newarray .int, 2) := by decide +kernel
theorem dX12_init_55 : decode cX12_init 55 = .ok (.putfield 30, 3) := by decide +kernel
theorem dX12_init_58 : decode cX12_init 58 = .ok (.aload_n 0, 1) := by decide +kernel
theorem dX12_init_59 : decode cX12_init 59 = .ok (.bipush 30, 2) := by decide +kernel
theorem dX12_init_61 : decode cX12_init 61 = .ok (.newarray .int, 2) := by decide +kernel
theorem dX12_init_63 : decode cX12_init 63 = .ok (.putfield 33, 3) := by decide +kernel
theorem dX12_init_66 : decode cX12_init 66 = .ok (.aload_n 0, 1) := by decide +kernel
theorem dX12_init_67 : decode cX12_init 67 = .ok (.sipush 6000, 3) := by decide +kernel
theorem dX12_init_70 : decode cX12_init 70 = .ok (.newarray .int, 2) := by decide +kernel
theorem dX12_init_72 : decode cX12_init 72 = .ok (.putfield 36, 3) := by decide +kernel
theorem dX12_init_75 : decode cX12_init 75 = .ok (.aload_n 0, 1) := by decide +kernel
theorem dX12_init_76 : decode cX12_init 76 = .ok (.sipush 6000, 3) := by decide +kernel
theorem dX12_init_79 : decode cX12_init 79 = .ok (.newarray .int, 2) := by decide +kernel
theorem dX12_init_81 : decode cX12_init 81 = .ok (.putfield 39, 3) := by decide +kernel
theorem dX12_init_84 : decode cX12_init 84 = .ok (.aload_n 0, 1) := by decide +kernel
theorem dX12_init_85 : decode cX12_init 85 = .ok (.sipush 6000, 3) := by decide +kernel
theorem dX12_init_88 : decode cX12_init 88 = .ok (.newarray .int, 2) := by decide +kernel
theorem dX12_init_90 : decode cX12_init 90 = .ok (.putfield 42, 3) := by decide +kernel
theorem dX12_init_93 : decode cX12_init 93 = .ok (.aload_n 0, 1) := by decide +kernel
theorem dX12_init_94 : decode cX12_init 94 = .ok (.ldc 45, 2) := by decide +kernel
theorem dX12_init_96 : decode cX12_init 96 = .ok (.newarray .int, 2) := by decide +kernel
theorem dX12_init_98 : decode cX12_init 98 = .ok (.putfield 46, 3) := by decide +kernel
theorem dX12_init_101 : decode cX12_init 101 = .ok (.aload_n 0, 1) := by decide +kernel
theorem dX12_init_102 : decode cX12_init 102 = .ok (.sipush 24000, 3) := by decide +kernel
theorem dX12_init_105 : decode cX12_init 105 = .ok (.newarray .int, 2) := by decide +kernel
theorem dX12_init_107 : decode cX12_init 107 = .ok (.putfield 49, 3) := by decide +kernel
theorem dX12_init_110 : decode cX12_init 110 = .ok (.aload_n 0, 1) := by decide +kernel
theorem dX12_init_111 : decode cX12_init 111 = .ok (.bipush 120, 2) := by decide +kernel
theorem dX12_init_113 : decode cX12_init 113 = .ok (.newarray .int, 2) := by decide +kernel
theorem dX12_init_115 : decode cX12_init 115 = .ok (.putfield 52, 3) := by decide +kernel
theorem dX12_init_118 : decode cX12_init 118 = .ok (.aload_n 0, 1) := by decide +kernel
theorem dX12_init_119 : decode cX12_init 119 = .ok (.sipush 480, 3) := by decide +kernel
theorem dX12_init_122 : decode cX12_init 122 = .ok (.newarray .int, 2) := by decide +kernel
theorem dX12_init_124 : decode cX12_init 124 = .ok (.putfield 55, 3) := by decide +kernel
theorem dX12_init_127 : decode cX12_init 127 = .ok (.aload_n 0, 1) := by decide +kernel
theorem dX12_init_128 : decode cX12_init 128 = .ok (.bipush 64, 2) := by decide +kernel
theorem dX12_init_130 : decode cX12_init 130 = .ok (.newarray .int, 2) := by decide +kernel
theorem dX12_init_132 : decode cX12_init 132 = .ok (.putfield 58, 3) := by decide +kernel
theorem dX12_init_135 : decode cX12_init 135 = .ok (.aload_n 0, 1) := by decide +kernel
theorem dX12_init_136 : decode cX12_init 136 = .ok (.sipush 512, 3) := by decide +kernel
theorem dX12_init_139 : decode cX12_init 139 = .ok (.newarray .int, 2) := by decide +kernel
theorem dX12_init_141 : decode cX12_init 141 = .ok (.putfield 61, 3) := by decide +kernel
theorem dX12_init_144 : decode cX12_init 144 = .ok (.aload_n 0, 1) := by decide +kernel
theorem dX12_init_145 : decode cX12_init 145 = .ok (.sipush 512, 3) := by decide +kernel
theorem dX12_init_148 : decode cX12_init 148 = .ok (.newarray .int, 2) := by decide +kernel
theorem dX12_init_150 : decode cX12_init 150 = .ok (.putfield 64, 3) := by decide +kernel
theorem dX12_init_153 : decode cX12_init 153 = .ok (.aload_n 0, 1) := by decide +kernel
theorem dX12_init_154 : decode cX12_init 154 = .ok (.sipush 513, 3) := by decide +kernel
theorem dX12_init_157 : decode cX12_init 157 = .ok (.newarray .boolean, 2) := by decide +kernel
theorem dX12_init_159 : decode cX12_init 159 = .ok (.putfield 67, 3) := by decide +kernel
theorem dX12_init_162 : decode cX12_init 162 = .ok (.aload_n 0, 1) := by decide +kernel
theorem dX12_init_163 : decode cX12_init 163 = .ok (.sipush 6144, 3) := by decide +kernel
theorem dX12_init_166 : decode cX12_init 166 = .ok (.newarray .int, 2) := by decide +kernel
theorem dX12_init_168 : decode cX12_init 168 = .ok (.putfield 70, 3) := by decide +kernel
theorem dX12_init_171 : decode cX12_init 171 = .ok (.aload_n 0, 1) := by decide +kernel
theorem dX12_init_172 : decode cX12_init 172 = .ok (.sipush 513, 3) := by decide +kernel
theorem dX12_init_175 : decode cX12_init 175 = .ok (.newarray .int, 2) := by decide +kernel
theorem dX12_init_177 : decode cX12_init 177 = .ok (.putfield 73, 3) := by decide +kernel
theorem dX12_init_180 : decode cX12_init 180 = .ok (.aload_n 0, 1) := by decide +kernel
theorem dX12_init_181 : decode cX12_init 181 = .ok (.iconst 5, 1) := by decide +kernel
theorem dX12_init_182 : decode cX12_init 182 = .ok (.newarray .int, 2) := by decide +kernel
theorem dX12_init_184 : decode cX12_init 184 = .ok (.putfield 76, 3) := by decide +kernel
theorem dX12_init_187 : decode cX12_init 187 = .ok (.aload_n 0, 1) := by decide +kernel
theorem dX12_init_188 : decode cX12_init 188 = .ok (.sipush 500, 3) := by decide +kernel
theorem dX12_init_191 : decode cX12_init 191 = .ok (.newarray .int, 2) := by decide +kernel
theorem dX12_init_193 : decode cX12_init 193 = .ok (.putfield 79, 3) := by decide +kernel
theorem dX12_init_196 : decode cX12_init 196 = .ok (.aload_n 0, 1) := by decide +kernel
theorem dX12_init_197 : decode cX12_init 197 = .ok (.bipush 32, 2) := by decide +kernel
theorem dX12_init_199 : decode cX12_init 199 = .ok (.putfield 82, 3) := by decide +kernel
theorem dX12_init_202 : decode cX12_init 202 = .ok (.aload_n 0, 1) := by decide +kernel
theorem dX12_init_203 : decode cX12_init 203 = .ok (.bipush 25, 2) := by decide +kernel
theorem dX12_init_205 : decode cX12_init 205 = .ok (.putfield 85, 3) := by decide +kernel
theorem dX12_init_208 : decode cX12_init 208 = .ok (.aload_n 0, 1) := by decide +kernel
theorem dX12_init_209 : decode cX12_init 209 = .ok (.bipush 36, 2) := by decide +kernel
theorem dX12_init_211 : decode cX12_init 211 = .ok (.putfield 88, 3) := by decide +kernel
theorem dX12_init_214 : decode cX12_init 214 = .ok (.aload_n 0, 1) := by decide +kernel
theorem dX12_init_215 : decode cX12_init 215 = .ok (.sipush 200, 3) := by decide +kernel
theorem dX12_init_218 : decode cX12_init 218 = .ok (.newarray .int, 2) := by decide +kernel
theorem dX12_init_220 : decode cX12_init 220 = .ok (.putfield 91, 3) := by decide +kernel
theorem dX12_init_223 : decode cX12_init 223 = .ok (.aload_n 0, 1) := by decide +kernel
theorem dX12_init_224 : decode cX12_init 224 = .ok (.ldc 94, 2) := by decide +kernel
theorem dX12_init_226 : decode cX12_init 226 = .ok (.newarray .int, 2) := by decide +kernel
theorem dX12_init_228 : decode cX12_init 228 = .ok (.putfield 95, 3) := by decide +kernel
theorem dX12_init_231 : decode cX12_init 231 = .ok (.aload_n 0, 1) := by decide +kernel
theorem dX12_init_232 : decode cX12_init 232 = .ok (.sipush 200, 3) := by decide +kernel
theorem dX12_init_235 : decode cX12_init 235 = .ok (.newarray .int, 2) := by decide +kernel
theorem dX12_init_237 : decode cX12_init 237 = .ok (.putfield 98, 3) := by decide +kernel
theorem dX12_init_240 : decode cX12_init 240 = .ok (.aload_n 0, 1) := by decide +kernel
theorem dX12_init_241 : decode cX12_init 241 = .ok (.ldc 94, 2) := by decide +kernel
theorem dX12_init_243 : decode cX12_init 243 = .ok (.newarray .int, 2) := by decide +kernel
theorem dX12_init_245 : decode cX12_init 245 = .ok (.putfield 101, 3) := by decide +kernel
theorem dX12_init_248 : decode cX12_init 248 = .ok (.aload_n 0, 1) := by decide +kernel
theorem dX12_init_249 : decode cX12_init 249 = .ok (.sipush 200, 3) := by decide +kernel
theorem dX12_init_252 : decode cX12_init 252 = .ok (.newarray .int, 2) := by decide +kernel
theorem dX12_init_254 : decode cX12_init 254 = .ok (.putfield 104, 3) := by decide +kernel
theorem dX12_init_257 : decode cX12_init 257 = .ok (.aload_n 0, 1) := by decide +kernel
theorem dX12_init_258 : decode cX12_init 258 = .ok (.sipush 12016, 3) := by decide +kernel
theorem dX12_init_261 : decode cX12_init 261 = .ok (.newarray .int, 2) := by decide +kernel
theorem dX12_init_263 : decode cX12_init 263 = .ok (.putfield 107, 3) := by decide +kernel
theorem dX12_init_266 : decode cX12_init 266 = .ok (.aload_n 0, 1) := by decide +kernel
theorem dX12_init_267 : decode cX12_init 267 = .ok (.sipush 12016, 3) := by decide +kernel
theorem dX12_init_270 : decode cX12_init 270 = .ok (.newarray .int, 2) := by decide +kernel
theorem dX12_init_272 : decode cX12_init 272 = .ok (.putfield 110, 3) := by decide +kernel
theorem dX12_init_275 : decode cX12_init 275 = .ok (.aload_n 0, 1) := by decide +kernel
theorem dX12_init_276 : decode cX12_init 276 = .ok (.sipush 12016, 3) := by decide +kernel
theorem dX12_init_279 : decode cX12_init 279 = .ok (.newarray .int, 2) := by decide +kernel
theorem dX12_init_281 : decode cX12_init 281 = .ok (.putfield 113, 3) := by decide +kernel
theorem dX12_init_284 : decode cX12_init 284 = .ok (.aload_n 0, 1) := by decide +kernel
theorem dX12_init_285 : decode cX12_init 285 = .ok (.iconst 2, 1) := by decide +kernel
theorem dX12_init_286 : decode cX12_init 286 = .ok (.newarray .int, 2) := by decide +kernel
theorem dX12_init_288 : decode cX12_init 288 = .ok (.putfield 116, 3) := by decide +kernel
theorem dX12_init_291 : decode cX12_init 291 = .ok (.aload_n 0, 1) := by decide +kernel
theorem dX12_init_292 : decode cX12_init 292 = .ok (.ldc 119, 2) := by decide +kernel
theorem dX12_init_294 : decode cX12_init 294 = .ok (.newarray .int, 2) := by decide +kernel
theorem dX12_init_296 : decode cX12_init 296 = .ok (.putfield 120, 3) := by decide +kernel
theorem dX12_init_299 : decode cX12_init 299 = .ok (.aload_n 0, 1) := by decide +kernel
theorem dX12_init_300 : decode cX12_init 300 = .ok (.ldc 119, 2) := by decide +kernel
theorem dX12_init_302 : decode cX12_init 302 = .ok (.newarray .int, 2) := by decide +kernel
theorem dX12_init_304 : decode cX12_init 304 = .ok (.putfield 123, 3) := by decide +kernel
theorem dX12_init_307 : decode cX12_init 307 = .ok (.aload_n 0, 1) := by decide +kernel
theorem dX12_init_308 : decode cX12_init 308 = .ok (.sipush 4000, 3) := by decide +kernel
theorem dX12_init_311 : decode cX12_init 311 = .ok (.newarray .int, 2) := by decide +kernel
theorem dX12_init_313 : decode cX12_init 313 = .ok (.putfield 126, 3) := by decide +kernel
theorem dX12_init_316 : decode cX12_init 316 = .ok (.aload_n 0, 1) := by decide +kernel
theorem dX12_init_317 : decode cX12_init 317 = .ok (.sipush 4000, 3) := by decide +kernel
theorem dX12_init_320 : decode cX12_init 320 = .ok (.newarray .int, 2) := by decide +kernel
theorem dX12_init_322 : decode cX12_init 322 = .ok (.putfield 129, 3) := by decide +kernel
theorem dX12_init_325 : decode cX12_init 325 = .ok (.aload_n 0, 1) := by decide +kernel
theorem dX12_init_326 : decode cX12_init 326 = .ok (.sipush 404, 3) := by decide +kernel
theorem dX12_init_329 : decode cX12_init 329 = .ok (.newarray .boolean, 2) := by decide +kernel
theorem dX12_init_331 : decode cX12_init 331 = .ok (.putfield 132, 3) := by decide +kernel
theorem dX12_init_334 : decode cX12_init 334 = .ok (.aload_n 0, 1) := by decide +kernel
theorem dX12_init_335 : decode cX12_init 335 = .ok (.ldc 135, 2) := by decide +kernel
theorem dX12_init_337 : decode cX12_init 337 = .ok (.newarray .int, 2) := by decide +kernel
theorem dX12_init_339 : decode cX12_init 339 = .ok (.putfield 136, 3) := by decide +kernel
theorem dX12_init_342 : decode cX12_init 342 = .ok (.aload_n 0, 1) := by decide +kernel
theorem dX12_init_343 : decode cX12_init 343 = .ok (.bipush 50, 2) := by decide +kernel
theorem dX12_init_345 : decode cX12_init 345 = .ok (.newarray .int, 2) := by decide +kernel
theorem dX12_init_347 : decode cX12_init 347 = .ok (.putfield 139, 3) := by decide +kernel
theorem dX12_init_350 : decode cX12_init 350 = .ok (.aload_n 0, 1) := by decide +kernel
theorem dX12_init_351 : decode cX12_init 351 = .ok (.sipush 1000, 3) := by decide +kernel
theorem dX12_init_354 : decode cX12_init 354 = .ok (.newarray .int, 2) := by decide +kernel
theorem dX12_init_356 : decode cX12_init 356 = .ok (.putfield 142, 3) := by decide +kernel
theorem dX12_init_359 : decode cX12_init 359 = .ok (.aload_n 0, 1) := by decide +kernel
theorem dX12_init_360 : decode cX12_init 360 = .ok (.sipush 256, 3) := by decide +kernel
theorem dX12_init_363 : decode cX12_init 363 = .ok (.newarray .int, 2) := by decide +kernel
theorem dX12_init_365 : decode cX12_init 365 = .ok (.putfield 145, 3) := by decide +kernel
theorem dX12_init_368 : decode cX12_init 368 = .ok (.return_, 1) := by decide +kernel
theorem dX12_fine_0 : decode cX12_fine 0 = .ok (.aload_n 0, 1) := by decide +kernel
theorem dX12_fine_1 : decode cX12_fine 1 = .ok (.iconst 0, 1) := by decide +kernel
theorem dX12_fine_2 : decode cX12_fine 2 = .ok (.putfield 148, 3) := by decide +kernel
theorem dX12_fine_5 : decode cX12_fine 5 = .ok (.aload_n 0, 1) := by decide +kernel
theorem dX12_fine_6 : decode cX12_fine 6 = .ok (.iconst (-1), 1) := by decide +kernel
theorem dX12_fine_7 : decode cX12_fine 7 = .ok (.putfield 9, 3) := by decide +kernel
theorem dX12_fine_10 : decode cX12_fine 10 = .ok (.iload_n 1, 1) := by decide +kernel
theorem dX12_fine_11 : decode cX12_fine 11 = .ok (.ireturn, 1) := by decide +kernel
theorem dX12_bad_0 : decode cX12_bad 0 = .ok (.aload_n 0, 1) := by decide +kernel
theorem dX12_bad_1 : decode cX12_bad 1 = .ok (.iload_n 1, 1) := by decide +kernel
theorem dX12_bad_2 : decode cX12_bad 2 = .ok (.putfield 148, 3) := by decide +kernel
theorem dX12_bad_5 : decode cX12_bad 5 = .ok (.aload_n 0, 1) := by decide +kernel
theorem dX12_bad_6 : decode cX12_bad 6 = .ok (.iconst (-1), 1) := by decide +kernel
theorem dX12_bad_7 : decode cX12_bad 7 = .ok (.putfield 9, 3) := by decide +kernel
theorem dX12_bad_10 : decode cX12_bad 10 = .ok (.iconst (-1), 1) := by decide +kernel
theorem dX12_bad_11 : decode cX12_bad 11 = .ok (.ireturn, 1) := by decide +kernel
theorem dX12_badAt_0 : decode cX12_badAt 0 = .ok (.aload_n 0, 1) := by decide +kernel
theorem dX12_badAt_1 : decode cX12_badAt 1 = .ok (.iload_n 1, 1) := by decide +kernel
theorem dX12_badAt_2 : decode cX12_badAt 2 = .ok (.putfield 148, 3) := by decide +kernel
theorem dX12_badAt_5 : decode cX12_badAt 5 = .ok (.aload_n 0, 1) := by decide +kernel
theorem dX12_badAt_6 : decode cX12_badAt 6 = .ok (.iload_n 1, 1) := by decide +kernel
theorem dX12_badAt_7 : decode cX12_badAt 7 = .ok (.bipush 7, 2) := by decide +kernel
theorem dX12_badAt_9 : decode cX12_badAt 9 = .ok (.if_icmp .eq 9, 3) := by decide +kernel
theorem dX12_badAt_12 : decode cX12_badAt 12 = .ok (.iload_n 1, 1) := by decide +kernel
theorem dX12_badAt_13 : decode cX12_badAt 13 = .ok (.bipush 9, 2) := by decide +kernel
theorem dX12_badAt_15 : decode cX12_badAt 15 = .ok (.if_icmp .ne 7, 3) := by decide +kernel
theorem dX12_badAt_18 : decode cX12_badAt 18 = .ok (.iload_n 2, 1) := by decide +kernel
theorem dX12_badAt_19 : decode cX12_badAt 19 = .ok (.goto 4, 3) := by decide +kernel
theorem dX12_badAt_22 : decode cX12_badAt 22 = .ok (.iconst (-1), 1) := by decide +kernel
theorem dX12_badAt_23 : decode cX12_badAt 23 = .ok (.putfield 9, 3) := by decide +kernel
theorem dX12_badAt_26 : decode cX12_badAt 26 = .ok (.iconst (-1), 1) := by decide +kernel
theorem dX12_badAt_27 : decode cX12_badAt 27 = .ok (.ireturn, 1) := by decide +kernel
theorem dX12_feed_0 : decode cX12_feed 0 = .ok (.aload_n 0, 1) := by decide +kernel
theorem dX12_feed_1 : decode cX12_feed 1 = .ok (.getfield 151, 3) := by decide +kernel
theorem dX12_feed_4 : decode cX12_feed 4 = .ok (.bipush 20, 2) := by decide +kernel
theorem dX12_feed_6 : decode cX12_feed 6 = .ok (.iadd, 1) := by decide +kernel
theorem dX12_feed_7 : decode cX12_feed 7 = .ok (.sipush 3000, 3) := by decide +kernel
theorem dX12_feed_10 : decode cX12_feed 10 = .ok (.if_icmp .le 10, 3) := by decide +kernel
theorem dX12_feed_13 : decode cX12_feed 13 = .ok (.aload_n 0, 1) := by decide +kernel
theorem dX12_feed_14 : decode cX12_feed 14 = .ok (.bipush 6, 2) := by decide +kernel
theorem dX12_feed_16 : decode cX12_feed 16 = .ok (.invokevirtual 154, 3) := by decide +kernel
theorem dX12_feed_19 : decode cX12_feed 19 = .ok (.ireturn, 1) := by decide +kernel
theorem dX12_feed_20 : decode cX12_feed 20 = .ok (.iconst 0, 1) := by decide +kernel
theorem dX12_feed_21 : decode cX12_feed 21 = .ok (.istore 6, 2) := by decide +kernel
theorem dX12_feed_23 : decode cX12_feed 23 = .ok (.iload 6, 2) := by decide +kernel
theorem dX12_feed_25 : decode cX12_feed 25 = .ok (.bipush 20, 2) := by decide +kernel
theorem dX12_feed_27 : decode cX12_feed 27 = .ok (.if_icmp .ge 93, 3) := by decide +kernel
theorem dX12_feed_30 : decode cX12_feed 30 = .ok (.iload 6, 2) := by decide +kernel
theorem dX12_feed_32 : decode cX12_feed 32 = .ok (.iconst 4, 1) := by decide +kernel
theorem dX12_feed_33 : decode cX12_feed 33 = .ok (.if_icmp .ge 7, 3) := by decide +kernel
theorem dX12_feed_36 : decode cX12_feed 36 = .ok (.iload_n 1, 1) := by decide +kernel
theorem dX12_feed_37 : decode cX12_feed 37 = .ok (.goto 39, 3) := by decide +kernel
theorem dX12_feed_40 : decode cX12_feed 40 = .ok (.iload 6, 2) := by decide +kernel
theorem dX12_feed_42 : decode cX12_feed 42 = .ok (.bipush 8, 2) := by decide +kernel
theorem dX12_feed_44 : decode cX12_feed 44 = .ok (.if_icmp .ge 7, 3) := by decide +kernel
theorem dX12_feed_47 : decode cX12_feed 47 = .ok (.iload_n 2, 1) := by decide +kernel
theorem dX12_feed_48 : decode cX12_feed 48 = .ok (.goto 28, 3) := by decide +kernel
theorem dX12_feed_51 : decode cX12_feed 51 = .ok (.iload 6, 2) := by decide +kernel
theorem dX12_feed_53 : decode cX12_feed 53 = .ok (.bipush 12, 2) := by decide +kernel
theorem dX12_feed_55 : decode cX12_feed 55 = .ok (.if_icmp .ge 7, 3) := by decide +kernel
theorem dX12_feed_58 : decode cX12_feed 58 = .ok (.iload_n 3, 1) := by decide +kernel
theorem dX12_feed_59 : decode cX12_feed 59 = .ok (.goto 17, 3) := by decide +kernel
theorem dX12_feed_62 : decode cX12_feed 62 = .ok (.iload 6, 2) := by decide +kernel
theorem dX12_feed_64 : decode cX12_feed 64 = .ok (.bipush 16, 2) := by decide +kernel
theorem dX12_feed_66 : decode cX12_feed 66 = .ok (.if_icmp .ge 8, 3) := by decide +kernel
theorem dX12_feed_69 : decode cX12_feed 69 = .ok (.iload 4, 2) := by decide +kernel
theorem dX12_feed_71 : decode cX12_feed 71 = .ok (.goto 5, 3) := by decide +kernel
theorem dX12_feed_74 : decode cX12_feed 74 = .ok (.iload 5, 2) := by decide +kernel
theorem dX12_feed_76 : decode cX12_feed 76 = .ok (.istore 7, 2) := by decide +kernel
theorem dX12_feed_78 : decode cX12_feed 78 = .ok (.aload_n 0, 1) := by decide +kernel
theorem dX12_feed_79 : decode cX12_feed 79 = .ok (.getfield 13, 3) := by decide +kernel
theorem dX12_feed_82 : decode cX12_feed 82 = .ok (.aload_n 0, 1) := by decide +kernel
theorem dX12_feed_83 : decode cX12_feed 83 = .ok (.getfield 151, 3) := by decide +kernel
theorem dX12_feed_86 : decode cX12_feed 86 = .ok (.iload 7, 2) := by decide +kernel
theorem dX12_feed_88 : decode cX12_feed 88 = .ok (.bipush 24, 2) := by decide +kernel
theorem dX12_feed_90 : decode cX12_feed 90 = .ok (.bipush 8, 2) := by decide +kernel
theorem dX12_feed_92 : decode cX12_feed 92 = .ok (.iload 6, 2) := by decide +kernel
theorem dX12_feed_94 : decode cX12_feed 94 = .ok (.iconst 3, 1) := by decide +kernel
theorem dX12_feed_95 : decode cX12_feed 95 = .ok (.iand, 1) := by decide +kernel
theorem dX12_feed_96 : decode cX12_feed 96 = .ok (.imul, 1) := by decide +kernel
theorem dX12_feed_97 : decode cX12_feed 97 = .ok (.isub, 1) := by decide +kernel
theorem dX12_feed_98 : decode cX12_feed 98 = .ok (.ishr, 1) := by decide +kernel
theorem dX12_feed_99 : decode cX12_feed 99 = .ok (.sipush 255, 3) := by decide +kernel
theorem dX12_feed_102 : decode cX12_feed 102 = .ok (.iand, 1) := by decide +kernel
theorem dX12_feed_103 : decode cX12_feed 103 = .ok (.iastore, 1) := by decide +kernel
theorem dX12_feed_104 : decode cX12_feed 104 = .ok (.aload_n 0, 1) := by decide +kernel
theorem dX12_feed_105 : decode cX12_feed 105 = .ok (.dup, 1) := by decide +kernel
theorem dX12_feed_106 : decode cX12_feed 106 = .ok (.getfield 151, 3) := by decide +kernel
theorem dX12_feed_109 : decode cX12_feed 109 = .ok (.iconst 1, 1) := by decide +kernel
theorem dX12_feed_110 : decode cX12_feed 110 = .ok (.iadd, 1) := by decide +kernel
theorem dX12_feed_111 : decode cX12_feed 111 = .ok (.putfield 151, 3) := by decide +kernel
theorem dX12_feed_114 : decode cX12_feed 114 = .ok (.iinc 6 1, 3) := by decide +kernel
theorem dX12_feed_117 : decode cX12_feed 117 = .ok (.goto (-94), 3) := by decide +kernel
theorem dX12_feed_120 : decode cX12_feed 120 = .ok (.aload_n 0, 1) := by decide +kernel
theorem dX12_feed_121 : decode cX12_feed 121 = .ok (.aload_n 0, 1) := by decide +kernel
theorem dX12_feed_122 : decode cX12_feed 122 = .ok (.getfield 151, 3) := by decide +kernel
theorem dX12_feed_125 : decode cX12_feed 125 = .ok (.invokevirtual 158, 3) := by decide +kernel
theorem dX12_feed_128 : decode cX12_feed 128 = .ok (.ireturn, 1) := by decide +kernel
theorem dX12_end_0 : decode cX12_end 0 = .ok (.iload_n 1, 1) := by decide +kernel
theorem dX12_end_1 : decode cX12_end 1 = .ok (.ifCond .ge 9, 3) := by decide +kernel
theorem dX12_end_4 : decode cX12_end 4 = .ok (.aload_n 0, 1) := by decide +kernel
theorem dX12_end_5 : decode cX12_end 5 = .ok (.iconst 5, 1) := by decide +kernel
theorem dX12_end_6 : decode cX12_end 6 = .ok (.invokevirtual 154, 3) := by decide +kernel
theorem dX12_end_9 : decode cX12_end 9 = .ok (.ireturn, 1) := by decide +kernel
theorem dX12_end_10 : decode cX12_end 10 = .ok (.iload_n 1, 1) := by decide +kernel
theorem dX12_end_11 : decode cX12_end 11 = .ok (.aload_n 0, 1) := by decide +kernel
theorem dX12_end_12 : decode cX12_end 12 = .ok (.getfield 151, 3) := by decide +kernel
theorem dX12_end_15 : decode cX12_end 15 = .ok (.if_icmp .le 10, 3) := by decide +kernel
theorem dX12_end_18 : decode cX12_end 18 = .ok (.aload_n 0, 1) := by decide +kernel
theorem dX12_end_19 : decode cX12_end 19 = .ok (.bipush 6, 2) := by decide +kernel
theorem dX12_end_21 : decode cX12_end 21 = .ok (.invokevirtual 154, 3) := by decide +kernel
theorem dX12_end_24 : decode cX12_end 24 = .ok (.ireturn, 1) := by decide +kernel
theorem dX12_end_25 : decode cX12_end 25 = .ok (.aload_n 0, 1) := by decide +kernel
theorem dX12_end_26 : decode cX12_end 26 = .ok (.iload_n 1, 1) := by decide +kernel
theorem dX12_end_27 : decode cX12_end 27 = .ok (.putfield 151, 3) := by decide +kernel
theorem dX12_end_30 : decode cX12_end 30 = .ok (.aload_n 0, 1) := by decide +kernel
theorem dX12_end_31 : decode cX12_end 31 = .ok (.iload_n 1, 1) := by decide +kernel
theorem dX12_end_32 : decode cX12_end 32 = .ok (.invokevirtual 158, 3) := by decide +kernel
theorem dX12_end_35 : decode cX12_end 35 = .ok (.ireturn, 1) := by decide +kernel
theorem dX12_taken_0 : decode cX12_taken 0 = .ok (.aload_n 0, 1) := by decide +kernel
theorem dX12_taken_1 : decode cX12_taken 1 = .ok (.getfield 151, 3) := by decide +kernel
theorem dX12_taken_4 : decode cX12_taken 4 = .ok (.istore_n 1, 1) := by decide +kernel
theorem dX12_taken_5 : decode cX12_taken 5 = .ok (.aload_n 0, 1) := by decide +kernel
theorem dX12_taken_6 : decode cX12_taken 6 = .ok (.iconst 0, 1) := by decide +kernel
theorem dX12_taken_7 : decode cX12_taken 7 = .ok (.putfield 151, 3) := by decide +kernel
theorem dX12_taken_10 : decode cX12_taken 10 = .ok (.iload_n 1, 1) := by decide +kernel
theorem dX12_taken_11 : decode cX12_taken 11 = .ok (.ireturn, 1) := by decide +kernel
theorem dX12_step_0 : decode cX12_step 0 = .ok (.aload_n 0, 1) := by decide +kernel
theorem dX12_step_1 : decode cX12_step 1 = .ok (.getfield 161, 3) := by decide +kernel
theorem dX12_step_4 : decode cX12_step 4 = .ok (.bipush 8, 2) := by decide +kernel
theorem dX12_step_6 : decode cX12_step 6 = .ok (.iadd, 1) := by decide +kernel
theorem dX12_step_7 : decode cX12_step 7 = .ok (.aload_n 0, 1) := by decide +kernel
theorem dX12_step_8 : decode cX12_step 8 = .ok (.getfield 58, 3) := by decide +kernel
theorem dX12_step_11 : decode cX12_step 11 = .ok (.arraylength, 1) := by decide +kernel
theorem dX12_step_12 : decode cX12_step 12 = .ok (.if_icmp .le 50, 3) := by decide +kernel
theorem dX12_step_15 : decode cX12_step 15 = .ok (.iconst 2, 1) := by decide +kernel
theorem dX12_step_16 : decode cX12_step 16 = .ok (.aload_n 0, 1) := by decide +kernel
theorem dX12_step_17 : decode cX12_step 17 = .ok (.getfield 58, 3) := by decide +kernel
theorem dX12_step_20 : decode cX12_step 20 = .ok (.arraylength, 1) := by decide +kernel
theorem dX12_step_21 : decode cX12_step 21 = .ok (.imul, 1) := by decide +kernel
theorem dX12_step_22 : decode cX12_step 22 = .ok (.newarray .int, 2) := by decide +kernel
theorem dX12_step_24 : decode cX12_step 24 = .ok (.astore 5, 2) := by decide +kernel
theorem dX12_step_26 : decode cX12_step 26 = .ok (.iconst 0, 1) := by decide +kernel
theorem dX12_step_27 : decode cX12_step 27 = .ok (.istore 6, 2) := by decide +kernel
theorem dX12_step_29 : decode cX12_step 29 = .ok (.iload 6, 2) := by decide +kernel
theorem dX12_step_31 : decode cX12_step 31 = .ok (.aload_n 0, 1) := by decide +kernel
theorem dX12_step_32 : decode cX12_step 32 = .ok (.getfield 161, 3) := by decide +kernel
theorem dX12_step_35 : decode cX12_step 35 = .ok (.if_icmp .ge 21, 3) := by decide +kernel
theorem dX12_step_38 : decode cX12_step 38 = .ok (.aload 5, 2) := by decide +kernel
theorem dX12_step_40 : decode cX12_step 40 = .ok (.iload 6, 2) := by decide +kernel
theorem dX12_step_42 : decode cX12_step 42 = .ok (.aload_n 0, 1) := by decide +kernel
theorem dX12_step_43 : decode cX12_step 43 = .ok (.getfield 58, 3) := by decide +kernel
theorem dX12_step_46 : decode cX12_step 46 = .ok (.iload 6, 2) := by decide +kernel
theorem dX12_step_48 : decode cX12_step 48 = .ok (.iaload, 1) := by decide +kernel
theorem dX12_step_49 : decode cX12_step 49 = .ok (.iastore, 1) := by decide +kernel
theorem dX12_step_50 : decode cX12_step 50 = .ok (.iinc 6 1, 3) := by decide +kernel
theorem dX12_step_53 : decode cX12_step 53 = .ok (.goto (-24), 3) := by decide +kernel
theorem dX12_step_56 : decode cX12_step 56 = .ok (.aload_n 0, 1) := by decide +kernel
theorem dX12_step_57 : decode cX12_step 57 = .ok (.aload 5, 2) := by decide +kernel
theorem dX12_step_59 : decode cX12_step 59 = .ok (.putfield 58, 3) := by decide +kernel
theorem dX12_step_62 : decode cX12_step 62 = .ok (.aload_n 0, 1) := by decide +kernel
theorem dX12_step_63 : decode cX12_step 63 = .ok (.getfield 58, 3) := by decide +kernel
theorem dX12_step_66 : decode cX12_step 66 = .ok (.aload_n 0, 1) := by decide +kernel
theorem dX12_step_67 : decode cX12_step 67 = .ok (.getfield 161, 3) := by decide +kernel
theorem dX12_step_70 : decode cX12_step 70 = .ok (.iload_n 1, 1) := by decide +kernel
theorem dX12_step_71 : decode cX12_step 71 = .ok (.iastore, 1) := by decide +kernel
theorem dX12_step_72 : decode cX12_step 72 = .ok (.aload_n 0, 1) := by decide +kernel
theorem dX12_step_73 : decode cX12_step 73 = .ok (.getfield 58, 3) := by decide +kernel
theorem dX12_step_76 : decode cX12_step 76 = .ok (.aload_n 0, 1) := by decide +kernel
theorem dX12_step_77 : decode cX12_step 77 = .ok (.getfield 161, 3) := by decide +kernel
theorem dX12_step_80 : decode cX12_step 80 = .ok (.iconst 1, 1) := by decide +kernel
theorem dX12_step_81 : decode cX12_step 81 = .ok (.iadd, 1) := by decide +kernel
theorem dX12_step_82 : decode cX12_step 82 = .ok (.iload_n 2, 1) := by decide +kernel
theorem dX12_step_83 : decode cX12_step 83 = .ok (.iastore, 1) := by decide +kernel
theorem dX12_step_84 : decode cX12_step 84 = .ok (.aload_n 0, 1) := by decide +kernel
theorem dX12_step_85 : decode cX12_step 85 = .ok (.getfield 58, 3) := by decide +kernel
theorem dX12_step_88 : decode cX12_step 88 = .ok (.aload_n 0, 1) := by decide +kernel
theorem dX12_step_89 : decode cX12_step 89 = .ok (.getfield 161, 3) := by decide +kernel
theorem dX12_step_92 : decode cX12_step 92 = .ok (.iconst 2, 1) := by decide +kernel
theorem dX12_step_93 : decode cX12_step 93 = .ok (.iadd, 1) := by decide +kernel
theorem dX12_step_94 : decode cX12_step 94 = .ok (.iload_n 3, 1) := by decide +kernel
theorem dX12_step_95 : decode cX12_step 95 = .ok (.iastore, 1) := by decide +kernel
theorem dX12_step_96 : decode cX12_step 96 = .ok (.aload_n 0, 1) := by decide +kernel
theorem dX12_step_97 : decode cX12_step 97 = .ok (.getfield 58, 3) := by decide +kernel
theorem dX12_step_100 : decode cX12_step 100 = .ok (.aload_n 0, 1) := by decide +kernel
theorem dX12_step_101 : decode cX12_step 101 = .ok (.getfield 161, 3) := by decide +kernel
theorem dX12_step_104 : decode cX12_step 104 = .ok (.iconst 3, 1) := by decide +kernel
theorem dX12_step_105 : decode cX12_step 105 = .ok (.iadd, 1) := by decide +kernel
theorem dX12_step_106 : decode cX12_step 106 = .ok (.iload 4, 2) := by decide +kernel
theorem dX12_step_108 : decode cX12_step 108 = .ok (.iastore, 1) := by decide +kernel
theorem dX12_step_109 : decode cX12_step 109 = .ok (.aload_n 0, 1) := by decide +kernel
theorem dX12_step_110 : decode cX12_step 110 = .ok (.dup, 1) := by decide +kernel
theorem dX12_step_111 : decode cX12_step 111 = .ok (.getfield 161, 3) := by decide +kernel
theorem dX12_step_114 : decode cX12_step 114 = .ok (.iconst 4, 1) := by decide +kernel
theorem dX12_step_115 : decode cX12_step 115 = .ok (.iadd, 1) := by decide +kernel
theorem dX12_step_116 : decode cX12_step 116 = .ok (.putfield 161, 3) := by decide +kernel
theorem dX12_step_119 : decode cX12_step 119 = .ok (.return_, 1) := by decide +kernel
theorem dX12_isTable_0 : decode cX12_isTable 0 = .ok (.iload_n 1, 1) := by decide +kernel
theorem dX12_isTable_1 : decode cX12_isTable 1 = .ok (.ifCond .lt 24, 3) := by decide +kernel
theorem dX12_isTable_4 : decode cX12_isTable 4 = .ok (.iload_n 1, 1) := by decide +kernel
theorem dX12_isTable_5 : decode cX12_isTable 5 = .ok (.aload_n 0, 1) := by decide +kernel
theorem dX12_isTable_6 : decode cX12_isTable 6 = .ok (.getfield 164, 3) := by decide +kernel
theorem dX12_isTable_9 : decode cX12_isTable 9 = .ok (.if_icmp .ge 16, 3) := by decide +kernel
theorem dX12_isTable_12 : decode cX12_isTable 12 = .ok (.aload_n 0, 1) := by decide +kernel
theorem dX12_isTable_13 : decode cX12_isTable 13 = .ok (.getfield 17, 3) := by decide +kernel
theorem dX12_isTable_16 : decode cX12_isTable 16 = .ok (.iload_n 1, 1) := by decide +kernel
theorem dX12_isTable_17 : decode cX12_isTable 17 = .ok (.baload, 1) := by decide +kernel
theorem dX12_isTable_18 : decode cX12_isTable 18 = .ok (.ifCond .eq 7, 3) := by decide +kernel
theorem dX12_isTable_21 : decode cX12_isTable 21 = .ok (.iconst 1, 1) := by decide +kernel
theorem dX12_isTable_22 : decode cX12_isTable 22 = .ok (.goto 4, 3) := by decide +kernel
theorem dX12_isTable_25 : decode cX12_isTable 25 = .ok (.iconst 0, 1) := by decide +kernel
theorem dX12_isTable_26 : decode cX12_isTable 26 = .ok (.ireturn, 1) := by decide +kernel
theorem dX12_isWhole_0 : decode cX12_isWhole 0 = .ok (.aload_n 0, 1) := by decide +kernel
theorem dX12_isWhole_1 : decode cX12_isWhole 1 = .ok (.iload_n 1, 1) := by decide +kernel
theorem dX12_isWhole_2 : decode cX12_isWhole 2 = .ok (.invokevirtual 167, 3) := by decide +kernel
theorem dX12_isWhole_5 : decode cX12_isWhole 5 = .ok (.ifCond .ne 5, 3) := by decide +kernel
theorem dX12_isWhole_8 : decode cX12_isWhole 8 = .ok (.iconst 0, 1) := by decide +kernel
theorem dX12_isWhole_9 : decode cX12_isWhole 9 = .ok (.ireturn, 1) := by decide +kernel
theorem dX12_isWhole_10 : decode cX12_isWhole 10 = .ok (.aload_n 0, 1) := by decide +kernel
theorem dX12_isWhole_11 : decode cX12_isWhole 11 = .ok (.getfield 21, 3) := by decide +kernel
theorem dX12_isWhole_14 : decode cX12_isWhole 14 = .ok (.iload_n 1, 1) := by decide +kernel
theorem dX12_isWhole_15 : decode cX12_isWhole 15 = .ok (.iaload, 1) := by decide +kernel
theorem dX12_isWhole_16 : decode cX12_isWhole 16 = .ok (.iconst 5, 1) := by decide +kernel
theorem dX12_isWhole_17 : decode cX12_isWhole 17 = .ok (.if_icmp .ne 35, 3) := by decide +kernel
theorem dX12_isWhole_20 : decode cX12_isWhole 20 = .ok (.aload_n 0, 1) := by decide +kernel
theorem dX12_isWhole_21 : decode cX12_isWhole 21 = .ok (.aload_n 0, 1) := by decide +kernel
theorem dX12_isWhole_22 : decode cX12_isWhole 22 = .ok (.getfield 27, 3) := by decide +kernel
theorem dX12_isWhole_25 : decode cX12_isWhole 25 = .ok (.iload_n 1, 1) := by decide +kernel
theorem dX12_isWhole_26 : decode cX12_isWhole 26 = .ok (.iaload, 1) := by decide +kernel
theorem dX12_isWhole_27 : decode cX12_isWhole 27 = .ok (.invokevirtual 171, 3) := by decide +kernel
theorem dX12_isWhole_30 : decode cX12_isWhole 30 = .ok (.ifCond .eq 20, 3) := by decide +kernel
theorem dX12_isWhole_33 : decode cX12_isWhole 33 = .ok (.aload_n 0, 1) := by decide +kernel
theorem dX12_isWhole_34 : decode cX12_isWhole 34 = .ok (.aload_n 0, 1) := by decide +kernel
theorem dX12_isWhole_35 : decode cX12_isWhole 35 = .ok (.getfield 30, 3) := by decide +kernel
theorem dX12_isWhole_38 : decode cX12_isWhole 38 = .ok (.iload_n 1, 1) := by decide +kernel
theorem dX12_isWhole_39 : decode cX12_isWhole 39 = .ok (.iaload, 1) := by decide +kernel
theorem dX12_isWhole_40 : decode cX12_isWhole 40 = .ok (.invokevirtual 171, 3) := by decide +kernel
theorem dX12_isWhole_43 : decode cX12_isWhole 43 = .ok (.ifCond .eq 7, 3) := by decide +kernel
theorem dX12_isWhole_46 : decode cX12_isWhole 46 = .ok (.iconst 1, 1) := by decide +kernel
theorem dX12_isWhole_47 : decode cX12_isWhole 47 = .ok (.goto 4, 3) := by decide +kernel
theorem dX12_isWhole_50 : decode cX12_isWhole 50 = .ok (.iconst 0, 1) := by decide +kernel
theorem dX12_isWhole_51 : decode cX12_isWhole 51 = .ok (.ireturn, 1) := by decide +kernel
theorem dX12_isWhole_52 : decode cX12_isWhole 52 = .ok (.aload_n 0, 1) := by decide +kernel
theorem dX12_isWhole_53 : decode cX12_isWhole 53 = .ok (.getfield 21, 3) := by decide +kernel
theorem dX12_isWhole_56 : decode cX12_isWhole 56 = .ok (.iload_n 1, 1) := by decide +kernel
theorem dX12_isWhole_57 : decode cX12_isWhole 57 = .ok (.iaload, 1) := by decide +kernel
theorem dX12_isWhole_58 : decode cX12_isWhole 58 = .ok (.iconst 1, 1) := by decide +kernel
theorem dX12_isWhole_59 : decode cX12_isWhole 59 = .ok (.if_icmp .lt 26, 3) := by decide +kernel
theorem dX12_isWhole_62 : decode cX12_isWhole 62 = .ok (.aload_n 0, 1) := by decide +kernel
theorem dX12_isWhole_63 : decode cX12_isWhole 63 = .ok (.getfield 21, 3) := by decide +kernel
theorem dX12_isWhole_66 : decode cX12_isWhole 66 = .ok (.iload_n 1, 1) := by decide +kernel
theorem dX12_isWhole_67 : decode cX12_isWhole 67 = .ok (.iaload, 1) := by decide +kernel
theorem dX12_isWhole_68 : decode cX12_isWhole 68 = .ok (.iconst 3, 1) := by decide +kernel
theorem dX12_isWhole_69 : decode cX12_isWhole 69 = .ok (.if_icmp .gt 16, 3) := by decide +kernel
theorem dX12_isWhole_72 : decode cX12_isWhole 72 = .ok (.aload_n 0, 1) := by decide +kernel
theorem dX12_isWhole_73 : decode cX12_isWhole 73 = .ok (.aload_n 0, 1) := by decide +kernel
theorem dX12_isWhole_74 : decode cX12_isWhole 74 = .ok (.getfield 27, 3) := by decide +kernel
theorem dX12_isWhole_77 : decode cX12_isWhole 77 = .ok (.iload_n 1, 1) := by decide +kernel
theorem dX12_isWhole_78 : decode cX12_isWhole 78 = .ok (.iaload, 1) := by decide +kernel
theorem dX12_isWhole_79 : decode cX12_isWhole 79 = .ok (.invokevirtual 171, 3) := by decide +kernel
theorem dX12_isWhole_82 : decode cX12_isWhole 82 = .ok (.ifCond .eq 7, 3) := by decide +kernel
theorem dX12_isWhole_85 : decode cX12_isWhole 85 = .ok (.iconst 1, 1) := by decide +kernel
theorem dX12_isWhole_86 : decode cX12_isWhole 86 = .ok (.goto 4, 3) := by decide +kernel
theorem dX12_isWhole_89 : decode cX12_isWhole 89 = .ok (.iconst 0, 1) := by decide +kernel
theorem dX12_isWhole_90 : decode cX12_isWhole 90 = .ok (.ireturn, 1) := by decide +kernel
theorem dX12_isIn_0 : decode cX12_isIn 0 = .ok (.iload_n 0, 1) := by decide +kernel
theorem dX12_isIn_1 : decode cX12_isIn 1 = .ok (.iload_n 1, 1) := by decide +kernel
theorem dX12_isIn_2 : decode cX12_isIn 2 = .ok (.if_icmp .lt 12, 3) := by decide +kernel
theorem dX12_isIn_5 : decode cX12_isIn 5 = .ok (.iload_n 0, 1) := by decide +kernel
theorem dX12_isIn_6 : decode cX12_isIn 6 = .ok (.iload_n 2, 1) := by decide +kernel
theorem dX12_isIn_7 : decode cX12_isIn 7 = .ok (.if_icmp .gt 7, 3) := by decide +kernel
theorem dX12_isIn_10 : decode cX12_isIn 10 = .ok (.iconst 1, 1) := by decide +kernel
theorem dX12_isIn_11 : decode cX12_isIn 11 = .ok (.goto 4, 3) := by decide +kernel
theorem dX12_isIn_14 : decode cX12_isIn 14 = .ok (.iconst 0, 1) := by decide +kernel
theorem dX12_isIn_15 : decode cX12_isIn 15 = .ok (.ireturn, 1) := by decide +kernel
theorem dX12_table_0 : decode cX12_table 0 = .ok (.iload_n 1, 1) := by decide +kernel
theorem dX12_table_1 : decode cX12_table 1 = .ok (.iconst 1, 1) := by decide +kernel
theorem dX12_table_2 : decode cX12_table 2 = .ok (.iconst 3, 1) := by decide +kernel
theorem dX12_table_3 : decode cX12_table 3 = .ok (.invokestatic 174, 3) := by decide +kernel
theorem dX12_table_6 : decode cX12_table 6 = .ok (.istore 4, 2) := by decide +kernel
theorem dX12_table_8 : decode cX12_table 8 = .ok (.iload_n 1, 1) := by decide +kernel
theorem dX12_table_9 : decode cX12_table 9 = .ok (.iconst 0, 1) := by decide +kernel
theorem dX12_table_10 : decode cX12_table 10 = .ok (.iconst 4, 1) := by decide +kernel
theorem dX12_table_11 : decode cX12_table 11 = .ok (.invokestatic 174, 3) := by decide +kernel
theorem dX12_table_14 : decode cX12_table 14 = .ok (.ifCond .eq 24, 3) := by decide +kernel
theorem dX12_table_17 : decode cX12_table 17 = .ok (.iload_n 2, 1) := by decide +kernel
theorem dX12_table_18 : decode cX12_table 18 = .ok (.bipush 6, 2) := by decide +kernel
theorem dX12_table_20 : decode cX12_table 20 = .ok (.if_icmp .eq 9, 3) := by decide +kernel
theorem dX12_table_23 : decode cX12_table 23 = .ok (.iload_n 2, 1) := by decide +kernel
theorem dX12_table_24 : decode cX12_table 24 = .ok (.bipush 8, 2) := by decide +kernel
theorem dX12_table_26 : decode cX12_table 26 = .ok (.if_icmp .ne 12, 3) := by decide +kernel
theorem dX12_table_29 : decode cX12_table 29 = .ok (.aload_n 0, 1) := by decide +kernel
theorem dX12_table_30 : decode cX12_table 30 = .ok (.getfield 164, 3) := by decide +kernel
theorem dX12_table_33 : decode cX12_table 33 = .ok (.bipush 30, 2) := by decide +kernel
theorem dX12_table_35 : decode cX12_table 35 = .ok (.if_icmp .ne 10, 3) := by decide +kernel
theorem dX12_table_38 : decode cX12_table 38 = .ok (.aload_n 0, 1) := by decide +kernel
theorem dX12_table_39 : decode cX12_table 39 = .ok (.bipush 6, 2) := by decide +kernel
theorem dX12_table_41 : decode cX12_table 41 = .ok (.invokevirtual 154, 3) := by decide +kernel
theorem dX12_table_44 : decode cX12_table 44 = .ok (.ireturn, 1) := by decide +kernel
theorem dX12_table_45 : decode cX12_table 45 = .ok (.iload 4, 2) := by decide +kernel
theorem dX12_table_47 : decode cX12_table 47 = .ok (.ifCond .eq 17, 3) := by decide +kernel
theorem dX12_table_50 : decode cX12_table 50 = .ok (.aload_n 0, 1) := by decide +kernel
theorem dX12_table_51 : decode cX12_table 51 = .ok (.iload_n 3, 1) := by decide +kernel
theorem dX12_table_52 : decode cX12_table 52 = .ok (.invokevirtual 167, 3) := by decide +kernel
theorem dX12_table_55 : decode cX12_table 55 = .ok (.ifCond .ne 9, 3) := by decide +kernel
theorem dX12_table_58 : decode cX12_table 58 = .ok (.aload_n 0, 1) := by decide +kernel
theorem dX12_table_59 : decode cX12_table 59 = .ok (.iconst 3, 1) := by decide +kernel
theorem dX12_table_60 : decode cX12_table 60 = .ok (.invokevirtual 154, 3) := by decide +kernel
theorem dX12_table_63 : decode cX12_table 63 = .ok (.ireturn, 1) := by decide +kernel
theorem dX12_table_64 : decode cX12_table 64 = .ok (.iload 4, 2) := by decide +kernel
theorem dX12_table_66 : decode cX12_table 66 = .ok (.ifCond .eq 19, 3) := by decide +kernel
theorem dX12_table_69 : decode cX12_table 69 = .ok (.aload_n 0, 1) := by decide +kernel
theorem dX12_table_70 : decode cX12_table 70 = .ok (.getfield 21, 3) := by decide +kernel
theorem dX12_table_73 : decode cX12_table 73 = .ok (.iload_n 3, 1) := by decide +kernel
theorem dX12_table_74 : decode cX12_table 74 = .ok (.iaload, 1) := by decide +kernel
theorem dX12_table_75 : decode cX12_table 75 = .ok (.iconst 3, 1) := by decide +kernel
theorem dX12_table_76 : decode cX12_table 76 = .ok (.if_icmp .le 9, 3) := by decide +kernel
theorem dX12_table_79 : decode cX12_table 79 = .ok (.aload_n 0, 1) := by decide +kernel
theorem dX12_table_80 : decode cX12_table 80 = .ok (.iconst 4, 1) := by decide +kernel
theorem dX12_table_81 : decode cX12_table 81 = .ok (.invokevirtual 154, 3) := by decide +kernel
theorem dX12_table_84 : decode cX12_table 84 = .ok (.ireturn, 1) := by decide +kernel
theorem dX12_table_85 : decode cX12_table 85 = .ok (.aload_n 0, 1) := by decide +kernel
theorem dX12_table_86 : decode cX12_table 86 = .ok (.aload_n 0, 1) := by decide +kernel
theorem dX12_table_87 : decode cX12_table 87 = .ok (.iload_n 1, 1) := by decide +kernel
theorem dX12_table_88 : decode cX12_table 88 = .ok (.iload_n 2, 1) := by decide +kernel
theorem dX12_table_89 : decode cX12_table 89 = .ok (.iload 4, 2) := by decide +kernel
theorem dX12_table_91 : decode cX12_table 91 = .ok (.ifCond .eq 7, 3) := by decide +kernel
theorem dX12_table_94 : decode cX12_table 94 = .ok (.iload_n 3, 1) := by decide +kernel
theorem dX12_table_95 : decode cX12_table 95 = .ok (.goto 4, 3) := by decide +kernel
theorem dX12_table_98 : decode cX12_table 98 = .ok (.iconst (-1), 1) := by decide +kernel
theorem dX12_table_99 : decode cX12_table 99 = .ok (.iconst (-1), 1) := by decide +kernel
theorem dX12_table_100 : decode cX12_table 100 = .ok (.invokevirtual 178, 3) := by decide +kernel
theorem dX12_table_103 : decode cX12_table 103 = .ok (.invokevirtual 158, 3) := by decide +kernel
theorem dX12_table_106 : decode cX12_table 106 = .ok (.ireturn, 1) := by decide +kernel
theorem dX12_newTable_0 : decode cX12_newTable 0 = .ok (.aload_n 0, 1) := by decide +kernel
theorem dX12_newTable_1 : decode cX12_newTable 1 = .ok (.getfield 164, 3) := by decide +kernel
theorem dX12_newTable_4 : decode cX12_newTable 4 = .ok (.istore 5, 2) := by decide +kernel
theorem dX12_newTable_6 : decode cX12_newTable 6 = .ok (.aload_n 0, 1) := by decide +kernel
theorem dX12_newTable_7 : decode cX12_newTable 7 = .ok (.dup, 1) := by decide +kernel
theorem dX12_newTable_8 : decode cX12_newTable 8 = .ok (.getfield 164, 3) := by decide +kernel
theorem dX12_newTable_11 : decode cX12_newTable 11 = .ok (.iconst 1, 1) := by decide +kernel
theorem dX12_newTable_12 : decode cX12_newTable 12 = .ok (.iadd, 1) := by decide +kernel
theorem dX12_newTable_13 : decode cX12_newTable 13 = .ok (.putfield 164, 3) := by decide +kernel
theorem dX12_newTable_16 : decode cX12_newTable 16 = .ok (.aload_n 0, 1) := by decide +kernel
theorem dX12_newTable_17 : decode cX12_newTable 17 = .ok (.getfield 17, 3) := by decide +kernel
theorem dX12_newTable_20 : decode cX12_newTable 20 = .ok (.iload 5, 2) := by decide +kernel
theorem dX12_newTable_22 : decode cX12_newTable 22 = .ok (.iconst 1, 1) := by decide +kernel
theorem dX12_newTable_23 : decode cX12_newTable 23 = .ok (.bastore, 1) := by decide +kernel
theorem dX12_newTable_24 : decode cX12_newTable 24 = .ok (.aload_n 0, 1) := by decide +kernel
theorem dX12_newTable_25 : decode cX12_newTable 25 = .ok (.getfield 21, 3) := by decide +kernel
theorem dX12_newTable_28 : decode cX12_newTable 28 = .ok (.iload 5, 2) := by decide +kernel
theorem dX12_newTable_30 : decode cX12_newTable 30 = .ok (.iload_n 1, 1) := by decide +kernel
theorem dX12_newTable_31 : decode cX12_newTable 31 = .ok (.iastore, 1) := by decide +kernel
theorem dX12_newTable_32 : decode cX12_newTable 32 = .ok (.aload_n 0, 1) := by decide +kernel
theorem dX12_newTable_33 : decode cX12_newTable 33 = .ok (.getfield 24, 3) := by decide +kernel
theorem dX12_newTable_36 : decode cX12_newTable 36 = .ok (.iload 5, 2) := by decide +kernel
theorem dX12_newTable_38 : decode cX12_newTable 38 = .ok (.iload_n 2, 1) := by decide +kernel
theorem dX12_newTable_39 : decode cX12_newTable 39 = .ok (.iastore, 1) := by decide +kernel
theorem dX12_newTable_40 : decode cX12_newTable 40 = .ok (.aload_n 0, 1) := by decide +kernel
theorem dX12_newTable_41 : decode cX12_newTable 41 = .ok (.getfield 27, 3) := by decide +kernel
theorem dX12_newTable_44 : decode cX12_newTable 44 = .ok (.iload 5, 2) := by decide +kernel
theorem dX12_newTable_46 : decode cX12_newTable 46 = .ok (.iload_n 3, 1) := by decide +kernel
theorem dX12_newTable_47 : decode cX12_newTable 47 = .ok (.iastore, 1) := by decide +kernel
theorem dX12_newTable_48 : decode cX12_newTable 48 = .ok (.aload_n 0, 1) := by decide +kernel
theorem dX12_newTable_49 : decode cX12_newTable 49 = .ok (.getfield 30, 3) := by decide +kernel
theorem dX12_newTable_52 : decode cX12_newTable 52 = .ok (.iload 5, 2) := by decide +kernel
theorem dX12_newTable_54 : decode cX12_newTable 54 = .ok (.iload 4, 2) := by decide +kernel
theorem dX12_newTable_56 : decode cX12_newTable 56 = .ok (.iastore, 1) := by decide +kernel
theorem dX12_newTable_57 : decode cX12_newTable 57 = .ok (.aload_n 0, 1) := by decide +kernel
theorem dX12_newTable_58 : decode cX12_newTable 58 = .ok (.getfield 33, 3) := by decide +kernel
theorem dX12_newTable_61 : decode cX12_newTable 61 = .ok (.iload 5, 2) := by decide +kernel
theorem dX12_newTable_63 : decode cX12_newTable 63 = .ok (.iconst 0, 1) := by decide +kernel
theorem dX12_newTable_64 : decode cX12_newTable 64 = .ok (.iastore, 1) := by decide +kernel
theorem dX12_newTable_65 : decode cX12_newTable 65 = .ok (.iconst 0, 1) := by decide +kernel
theorem dX12_newTable_66 : decode cX12_newTable 66 = .ok (.istore 6, 2) := by decide +kernel
theorem dX12_newTable_68 : decode cX12_newTable 68 = .ok (.iload 6, 2) := by decide +kernel
theorem dX12_newTable_70 : decode cX12_newTable 70 = .ok (.iconst 4, 1) := by decide +kernel
theorem dX12_newTable_71 : decode cX12_newTable 71 = .ok (.if_icmp .ge 22, 3) := by decide +kernel
theorem dX12_newTable_74 : decode cX12_newTable 74 = .ok (.aload_n 0, 1) := by decide +kernel
theorem dX12_newTable_75 : decode cX12_newTable 75 = .ok (.getfield 52, 3) := by decide +kernel
theorem dX12_newTable_78 : decode cX12_newTable 78 = .ok (.iconst 4, 1) := by decide +kernel
theorem dX12_newTable_79 : decode cX12_newTable 79 = .ok (.iload 5, 2) := by decide +kernel
theorem dX12_newTable_81 : decode cX12_newTable 81 = .ok (.imul, 1) := by decide +kernel
theorem dX12_newTable_82 : decode cX12_newTable 82 = .ok (.iload 6, 2) := by decide +kernel
theorem dX12_newTable_84 : decode cX12_newTable 84 = .ok (.iadd, 1) := by decide +kernel
theorem dX12_newTable_85 : decode cX12_newTable 85 = .ok (.iconst 0, 1) := by decide +kernel
theorem dX12_newTable_86 : decode cX12_newTable 86 = .ok (.iastore, 1) := by decide +kernel
theorem dX12_newTable_87 : decode cX12_newTable 87 = .ok (.iinc 6 1, 3) := by decide +kernel
theorem dX12_newTable_90 : decode cX12_newTable 90 = .ok (.goto (-22), 3) := by decide +kernel
theorem dX12_newTable_93 : decode cX12_newTable 93 = .ok (.aload_n 0, 1) := by decide +kernel
theorem dX12_newTable_94 : decode cX12_newTable 94 = .ok (.iconst 0, 1) := by decide +kernel
theorem dX12_newTable_95 : decode cX12_newTable 95 = .ok (.iload 5, 2) := by decide +kernel
theorem dX12_newTable_97 : decode cX12_newTable 97 = .ok (.iconst 0, 1) := by decide +kernel
theorem dX12_newTable_98 : decode cX12_newTable 98 = .ok (.iconst 0, 1) := by decide +kernel
theorem dX12_newTable_99 : decode cX12_newTable 99 = .ok (.invokevirtual 182, 3) := by decide +kernel
theorem dX12_newTable_102 : decode cX12_newTable 102 = .ok (.iload 5, 2) := by decide +kernel
theorem dX12_newTable_104 : decode cX12_newTable 104 = .ok (.ireturn, 1) := by decide +kernel
theorem dX12_join_0 : decode cX12_join 0 = .ok (.aload_n 0, 1) := by decide +kernel
theorem dX12_join_1 : decode cX12_join 1 = .ok (.iload_n 1, 1) := by decide +kernel
theorem dX12_join_2 : decode cX12_join 2 = .ok (.invokevirtual 167, 3) := by decide +kernel
theorem dX12_join_5 : decode cX12_join 5 = .ok (.ifCond .ne 9, 3) := by decide +kernel
theorem dX12_join_8 : decode cX12_join 8 = .ok (.aload_n 0, 1) := by decide +kernel
theorem dX12_join_9 : decode cX12_join 9 = .ok (.iconst 3, 1) := by decide +kernel
theorem dX12_join_10 : decode cX12_join 10 = .ok (.invokevirtual 154, 3) := by decide +kernel
theorem dX12_join_13 : decode cX12_join 13 = .ok (.ireturn, 1) := by decide +kernel
theorem dX12_join_14 : decode cX12_join 14 = .ok (.aload_n 0, 1) := by decide +kernel
theorem dX12_join_15 : decode cX12_join 15 = .ok (.getfield 21, 3) := by decide +kernel
theorem dX12_join_18 : decode cX12_join 18 = .ok (.iload_n 1, 1) := by decide +kernel
theorem dX12_join_19 : decode cX12_join 19 = .ok (.iaload, 1) := by decide +kernel
theorem dX12_join_20 : decode cX12_join 20 = .ok (.iconst 3, 1) := by decide +kernel
theorem dX12_join_21 : decode cX12_join 21 = .ok (.if_icmp .le 9, 3) := by decide +kernel
theorem dX12_join_24 : decode cX12_join 24 = .ok (.aload_n 0, 1) := by decide +kernel
theorem dX12_join_25 : decode cX12_join 25 = .ok (.iconst 4, 1) := by decide +kernel
theorem dX12_join_26 : decode cX12_join 26 = .ok (.invokevirtual 154, 3) := by decide +kernel
theorem dX12_join_29 : decode cX12_join 29 = .ok (.ireturn, 1) := by decide +kernel
theorem dX12_join_30 : decode cX12_join 30 = .ok (.aload_n 0, 1) := by decide +kernel
theorem dX12_join_31 : decode cX12_join 31 = .ok (.iload_n 2, 1) := by decide +kernel
theorem dX12_join_32 : decode cX12_join 32 = .ok (.invokevirtual 167, 3) := by decide +kernel
theorem dX12_join_35 : decode cX12_join 35 = .ok (.ifCond .ne 9, 3) := by decide +kernel
theorem dX12_join_38 : decode cX12_join 38 = .ok (.aload_n 0, 1) := by decide +kernel
theorem dX12_join_39 : decode cX12_join 39 = .ok (.iconst 3, 1) := by decide +kernel
theorem dX12_join_40 : decode cX12_join 40 = .ok (.invokevirtual 154, 3) := by decide +kernel
theorem dX12_join_43 : decode cX12_join 43 = .ok (.ireturn, 1) := by decide +kernel
theorem dX12_join_44 : decode cX12_join 44 = .ok (.aload_n 0, 1) := by decide +kernel
theorem dX12_join_45 : decode cX12_join 45 = .ok (.getfield 21, 3) := by decide +kernel
theorem dX12_join_48 : decode cX12_join 48 = .ok (.iload_n 2, 1) := by decide +kernel
theorem dX12_join_49 : decode cX12_join 49 = .ok (.iaload, 1) := by decide +kernel
theorem dX12_join_50 : decode cX12_join 50 = .ok (.iconst 3, 1) := by decide +kernel
theorem dX12_join_51 : decode cX12_join 51 = .ok (.if_icmp .le 9, 3) := by decide +kernel
theorem dX12_join_54 : decode cX12_join 54 = .ok (.aload_n 0, 1) := by decide +kernel
theorem dX12_join_55 : decode cX12_join 55 = .ok (.iconst 4, 1) := by decide +kernel
theorem dX12_join_56 : decode cX12_join 56 = .ok (.invokevirtual 154, 3) := by decide +kernel
theorem dX12_join_59 : decode cX12_join 59 = .ok (.ireturn, 1) := by decide +kernel
theorem dX12_join_60 : decode cX12_join 60 = .ok (.aload_n 0, 1) := by decide +kernel
theorem dX12_join_61 : decode cX12_join 61 = .ok (.getfield 164, 3) := by decide +kernel
theorem dX12_join_64 : decode cX12_join 64 = .ok (.bipush 30, 2) := by decide +kernel
theorem dX12_join_66 : decode cX12_join 66 = .ok (.if_icmp .ne 10, 3) := by decide +kernel
theorem dX12_join_69 : decode cX12_join 69 = .ok (.aload_n 0, 1) := by decide +kernel
theorem dX12_join_70 : decode cX12_join 70 = .ok (.bipush 6, 2) := by decide +kernel
theorem dX12_join_72 : decode cX12_join 72 = .ok (.invokevirtual 154, 3) := by decide +kernel
theorem dX12_join_75 : decode cX12_join 75 = .ok (.ireturn, 1) := by decide +kernel
theorem dX12_join_76 : decode cX12_join 76 = .ok (.aload_n 0, 1) := by decide +kernel
theorem dX12_join_77 : decode cX12_join 77 = .ok (.aload_n 0, 1) := by decide +kernel
theorem dX12_join_78 : decode cX12_join 78 = .ok (.iconst 5, 1) := by decide +kernel
theorem dX12_join_79 : decode cX12_join 79 = .ok (.aload_n 0, 1) := by decide +kernel
theorem dX12_join_80 : decode cX12_join 80 = .ok (.getfield 24, 3) := by decide +kernel
theorem dX12_join_83 : decode cX12_join 83 = .ok (.iload_n 1, 1) := by decide +kernel
theorem dX12_join_84 : decode cX12_join 84 = .ok (.iaload, 1) := by decide +kernel
theorem dX12_join_85 : decode cX12_join 85 = .ok (.aload_n 0, 1) := by decide +kernel
theorem dX12_join_86 : decode cX12_join 86 = .ok (.getfield 24, 3) := by decide +kernel
theorem dX12_join_89 : decode cX12_join 89 = .ok (.iload_n 2, 1) := by decide +kernel
theorem dX12_join_90 : decode cX12_join 90 = .ok (.iaload, 1) := by decide +kernel
theorem dX12_join_91 : decode cX12_join 91 = .ok (.invokestatic 186, 3) := by decide +kernel
theorem dX12_join_94 : decode cX12_join 94 = .ok (.iload_n 1, 1) := by decide +kernel
theorem dX12_join_95 : decode cX12_join 95 = .ok (.iload_n 2, 1) := by decide +kernel
theorem dX12_join_96 : decode cX12_join 96 = .ok (.invokevirtual 178, 3) := by decide +kernel
theorem dX12_join_99 : decode cX12_join 99 = .ok (.invokevirtual 158, 3) := by decide +kernel
theorem dX12_join_102 : decode cX12_join 102 = .ok (.ireturn, 1) := by decide +kernel
theorem dX12_drop_0 : decode cX12_drop 0 = .ok (.aload_n 0, 1) := by decide +kernel
theorem dX12_drop_1 : decode cX12_drop 1 = .ok (.iload_n 1, 1) := by decide +kernel
theorem dX12_drop_2 : decode cX12_drop 2 = .ok (.invokevirtual 167, 3) := by decide +kernel
theorem dX12_drop_5 : decode cX12_drop 5 = .ok (.ifCond .ne 9, 3) := by decide +kernel
theorem dX12_drop_8 : decode cX12_drop 8 = .ok (.aload_n 0, 1) := by decide +kernel
theorem dX12_drop_9 : decode cX12_drop 9 = .ok (.iconst 3, 1) := by decide +kernel
theorem dX12_drop_10 : decode cX12_drop 10 = .ok (.invokevirtual 154, 3) := by decide +kernel
theorem dX12_drop_13 : decode cX12_drop 13 = .ok (.ireturn, 1) := by decide +kernel
theorem dX12_drop_14 : decode cX12_drop 14 = .ok (.aload_n 0, 1) := by decide +kernel
theorem dX12_drop_15 : decode cX12_drop 15 = .ok (.getfield 17, 3) := by decide +kernel
theorem dX12_drop_18 : decode cX12_drop 18 = .ok (.iload_n 1, 1) := by decide +kernel
theorem dX12_drop_19 : decode cX12_drop 19 = .ok (.iconst 0, 1) := by decide +kernel
theorem dX12_drop_20 : decode cX12_drop 20 = .ok (.bastore, 1) := by decide +kernel
theorem dX12_drop_21 : decode cX12_drop 21 = .ok (.aload_n 0, 1) := by decide +kernel
theorem dX12_drop_22 : decode cX12_drop 22 = .ok (.iconst 1, 1) := by decide +kernel
theorem dX12_drop_23 : decode cX12_drop 23 = .ok (.iload_n 1, 1) := by decide +kernel
theorem dX12_drop_24 : decode cX12_drop 24 = .ok (.iconst 0, 1) := by decide +kernel
theorem dX12_drop_25 : decode cX12_drop 25 = .ok (.iconst 0, 1) := by decide +kernel
theorem dX12_drop_26 : decode cX12_drop 26 = .ok (.invokevirtual 182, 3) := by decide +kernel
theorem dX12_drop_29 : decode cX12_drop 29 = .ok (.aload_n 0, 1) := by decide +kernel
theorem dX12_drop_30 : decode cX12_drop 30 = .ok (.iconst 1, 1) := by decide +kernel
theorem dX12_drop_31 : decode cX12_drop 31 = .ok (.invokevirtual 158, 3) := by decide +kernel
theorem dX12_drop_34 : decode cX12_drop 34 = .ok (.ireturn, 1) := by decide +kernel
theorem dX12_isLetter_0 : decode cX12_isLetter 0 = .ok (.iload_n 0, 1) := by decide +kernel
theorem dX12_isLetter_1 : decode cX12_isLetter 1 = .ok (.bipush 33, 2) := by decide +kernel
theorem dX12_isLetter_3 : decode cX12_isLetter 3 = .ok (.bipush 125, 2) := by decide +kernel
theorem dX12_isLetter_5 : decode cX12_isLetter 5 = .ok (.invokestatic 174, 3) := by decide +kernel
theorem dX12_isLetter_8 : decode cX12_isLetter 8 = .ok (.ireturn, 1) := by decide +kernel
theorem dX12_areCells_0 : decode cX12_areCells 0 = .ok (.iconst 1, 1) := by decide +kernel
theorem dX12_areCells_1 : decode cX12_areCells 1 = .ok (.istore 4, 2) := by decide +kernel
theorem dX12_areCells_3 : decode cX12_areCells 3 = .ok (.iload_n 2, 1) := by decide +kernel
theorem dX12_areCells_4 : decode cX12_areCells 4 = .ok (.istore 5, 2) := by decide +kernel
theorem dX12_areCells_6 : decode cX12_areCells 6 = .ok (.iload 5, 2) := by decide +kernel
theorem dX12_areCells_8 : decode cX12_areCells 8 = .ok (.iload_n 2, 1) := by decide +kernel
theorem dX12_areCells_9 : decode cX12_areCells 9 = .ok (.iload_n 3, 1) := by decide +kernel
theorem dX12_areCells_10 : decode cX12_areCells 10 = .ok (.iadd, 1) := by decide +kernel
theorem dX12_areCells_11 : decode cX12_areCells 11 = .ok (.if_icmp .ge 54, 3) := by decide +kernel
theorem dX12_areCells_14 : decode cX12_areCells 14 = .ok (.iload 4, 2) := by decide +kernel
theorem dX12_areCells_16 : decode cX12_areCells 16 = .ok (.ifCond .eq 40, 3) := by decide +kernel
theorem dX12_areCells_19 : decode cX12_areCells 19 = .ok (.aload_n 0, 1) := by decide +kernel
theorem dX12_areCells_20 : decode cX12_areCells 20 = .ok (.getfield 13, 3) := by decide +kernel
theorem dX12_areCells_23 : decode cX12_areCells 23 = .ok (.iload 5, 2) := by decide +kernel
theorem dX12_areCells_25 : decode cX12_areCells 25 = .ok (.iaload, 1) := by decide +kernel
theorem dX12_areCells_26 : decode cX12_areCells 26 = .ok (.iconst 1, 1) := by decide +kernel
theorem dX12_areCells_27 : decode cX12_areCells 27 = .ok (.aload_n 0, 1) := by decide +kernel
theorem dX12_areCells_28 : decode cX12_areCells 28 = .ok (.getfield 24, 3) := by decide +kernel
theorem dX12_areCells_31 : decode cX12_areCells 31 = .ok (.iload_n 1, 1) := by decide +kernel
theorem dX12_areCells_32 : decode cX12_areCells 32 = .ok (.iaload, 1) := by decide +kernel
theorem dX12_areCells_33 : decode cX12_areCells 33 = .ok (.bipush 6, 2) := by decide +kernel
theorem dX12_areCells_35 : decode cX12_areCells 35 = .ok (.if_icmp .ne 8, 3) := by decide +kernel
theorem dX12_areCells_38 : decode cX12_areCells 38 = .ok (.bipush 63, 2) := by decide +kernel
theorem dX12_areCells_40 : decode cX12_areCells 40 = .ok (.goto 6, 3) := by decide +kernel
theorem dX12_areCells_43 : decode cX12_areCells 43 = .ok (.sipush 255, 3) := by decide +kernel
theorem dX12_areCells_46 : decode cX12_areCells 46 = .ok (.invokestatic 174, 3) := by decide +kernel
theorem dX12_areCells_49 : decode cX12_areCells 49 = .ok (.ifCond .eq 7, 3) := by decide +kernel
theorem dX12_areCells_52 : decode cX12_areCells 52 = .ok (.iconst 1, 1) := by decide +kernel
theorem dX12_areCells_53 : decode cX12_areCells 53 = .ok (.goto 4, 3) := by decide +kernel
theorem dX12_areCells_56 : decode cX12_areCells 56 = .ok (.iconst 0, 1) := by decide +kernel
theorem dX12_areCells_57 : decode cX12_areCells 57 = .ok (.istore 4, 2) := by decide +kernel
theorem dX12_areCells_59 : decode cX12_areCells 59 = .ok (.iinc 5 1, 3) := by decide +kernel
theorem dX12_areCells_62 : decode cX12_areCells 62 = .ok (.goto (-56), 3) := by decide +kernel
theorem dX12_areCells_65 : decode cX12_areCells 65 = .ok (.iload 4, 2) := by decide +kernel
theorem dX12_areCells_67 : decode cX12_areCells 67 = .ok (.ireturn, 1) := by decide +kernel
theorem dX12_rule_0 : decode cX12_rule 0 = .ok (.aload_n 0, 1) := by decide +kernel
theorem dX12_rule_1 : decode cX12_rule 1 = .ok (.invokevirtual 192, 3) := by decide +kernel
theorem dX12_rule_4 : decode cX12_rule 4 = .ok (.istore 4, 2) := by decide +kernel
theorem dX12_rule_6 : decode cX12_rule 6 = .ok (.aload_n 0, 1) := by decide +kernel
theorem dX12_rule_7 : decode cX12_rule 7 = .ok (.iload_n 1, 1) := by decide +kernel
theorem dX12_rule_8 : decode cX12_rule 8 = .ok (.invokevirtual 167, 3) := by decide +kernel
theorem dX12_rule_11 : decode cX12_rule 11 = .ok (.ifCond .ne 9, 3) := by decide +kernel
theorem dX12_rule_14 : decode cX12_rule 14 = .ok (.aload_n 0, 1) := by decide +kernel
theorem dX12_rule_15 : decode cX12_rule 15 = .ok (.iconst 3, 1) := by decide +kernel
theorem dX12_rule_16 : decode cX12_rule 16 = .ok (.invokevirtual 154, 3) := by decide +kernel
theorem dX12_rule_19 : decode cX12_rule 19 = .ok (.ireturn, 1) := by decide +kernel
theorem dX12_rule_20 : decode cX12_rule 20 = .ok (.aload_n 0, 1) := by decide +kernel
theorem dX12_rule_21 : decode cX12_rule 21 = .ok (.getfield 21, 3) := by decide +kernel
theorem dX12_rule_24 : decode cX12_rule 24 = .ok (.iload_n 1, 1) := by decide +kernel
theorem dX12_rule_25 : decode cX12_rule 25 = .ok (.iaload, 1) := by decide +kernel
theorem dX12_rule_26 : decode cX12_rule 26 = .ok (.iconst 5, 1) := by decide +kernel
theorem dX12_rule_27 : decode cX12_rule 27 = .ok (.if_icmp .ne 9, 3) := by decide +kernel
theorem dX12_rule_30 : decode cX12_rule 30 = .ok (.aload_n 0, 1) := by decide +kernel
theorem dX12_rule_31 : decode cX12_rule 31 = .ok (.iconst 4, 1) := by decide +kernel
theorem dX12_rule_32 : decode cX12_rule 32 = .ok (.invokevirtual 154, 3) := by decide +kernel
theorem dX12_rule_35 : decode cX12_rule 35 = .ok (.ireturn, 1) := by decide +kernel
theorem dX12_rule_36 : decode cX12_rule 36 = .ok (.iload_n 3, 1) := by decide +kernel
theorem dX12_rule_37 : decode cX12_rule 37 = .ok (.ifCond .ge 9, 3) := by decide +kernel
theorem dX12_rule_40 : decode cX12_rule 40 = .ok (.aload_n 0, 1) := by decide +kernel
theorem dX12_rule_41 : decode cX12_rule 41 = .ok (.iconst 5, 1) := by decide +kernel
theorem dX12_rule_42 : decode cX12_rule 42 = .ok (.invokevirtual 154, 3) := by decide +kernel
theorem dX12_rule_45 : decode cX12_rule 45 = .ok (.ireturn, 1) := by decide +kernel
theorem dX12_rule_46 : decode cX12_rule 46 = .ok (.iload_n 2, 1) := by decide +kernel
theorem dX12_rule_47 : decode cX12_rule 47 = .ok (.iconst 0, 1) := by decide +kernel
theorem dX12_rule_48 : decode cX12_rule 48 = .ok (.iconst 5, 1) := by decide +kernel
theorem dX12_rule_49 : decode cX12_rule 49 = .ok (.invokestatic 174, 3) := by decide +kernel
theorem dX12_rule_52 : decode cX12_rule 52 = .ok (.ifCond .eq 50, 3) := by decide +kernel
theorem dX12_rule_55 : decode cX12_rule 55 = .ok (.iload_n 3, 1) := by decide +kernel
theorem dX12_rule_56 : decode cX12_rule 56 = .ok (.iconst 1, 1) := by decide +kernel
theorem dX12_rule_57 : decode cX12_rule 57 = .ok (.bipush 8, 2) := by decide +kernel
theorem dX12_rule_59 : decode cX12_rule 59 = .ok (.invokestatic 174, 3) := by decide +kernel
theorem dX12_rule_62 : decode cX12_rule 62 = .ok (.ifCond .eq 40, 3) := by decide +kernel
theorem dX12_rule_65 : decode cX12_rule 65 = .ok (.iload 4, 2) := by decide +kernel
theorem dX12_rule_67 : decode cX12_rule 67 = .ok (.iload_n 3, 1) := by decide +kernel
theorem dX12_rule_68 : decode cX12_rule 68 = .ok (.isub, 1) := by decide +kernel
theorem dX12_rule_69 : decode cX12_rule 69 = .ok (.iconst 1, 1) := by decide +kernel
theorem dX12_rule_70 : decode cX12_rule 70 = .ok (.iconst 4, 1) := by decide +kernel
theorem dX12_rule_71 : decode cX12_rule 71 = .ok (.invokestatic 174, 3) := by decide +kernel
theorem dX12_rule_74 : decode cX12_rule 74 = .ok (.ifCond .eq 28, 3) := by decide +kernel
theorem dX12_rule_77 : decode cX12_rule 77 = .ok (.aload_n 0, 1) := by decide +kernel
theorem dX12_rule_78 : decode cX12_rule 78 = .ok (.getfield 33, 3) := by decide +kernel
theorem dX12_rule_81 : decode cX12_rule 81 = .ok (.iload_n 1, 1) := by decide +kernel
theorem dX12_rule_82 : decode cX12_rule 82 = .ok (.iaload, 1) := by decide +kernel
theorem dX12_rule_83 : decode cX12_rule 83 = .ok (.sipush 200, 3) := by decide +kernel
theorem dX12_rule_86 : decode cX12_rule 86 = .ok (.if_icmp .eq 16, 3) := by decide +kernel
theorem dX12_rule_89 : decode cX12_rule 89 = .ok (.aload_n 0, 1) := by decide +kernel
theorem dX12_rule_90 : decode cX12_rule 90 = .ok (.iload_n 1, 1) := by decide +kernel
theorem dX12_rule_91 : decode cX12_rule 91 = .ok (.iload_n 3, 1) := by decide +kernel
theorem dX12_rule_92 : decode cX12_rule 92 = .ok (.iload 4, 2) := by decide +kernel
theorem dX12_rule_94 : decode cX12_rule 94 = .ok (.iload_n 3, 1) := by decide +kernel
theorem dX12_rule_95 : decode cX12_rule 95 = .ok (.isub, 1) := by decide +kernel
theorem dX12_rule_96 : decode cX12_rule 96 = .ok (.invokevirtual 196, 3) := by decide +kernel
theorem dX12_rule_99 : decode cX12_rule 99 = .ok (.ifCond .ne 10, 3) := by decide +kernel
theorem dX12_rule_102 : decode cX12_rule 102 = .ok (.aload_n 0, 1) := by decide +kernel
theorem dX12_rule_103 : decode cX12_rule 103 = .ok (.bipush 6, 2) := by decide +kernel
theorem dX12_rule_105 : decode cX12_rule 105 = .ok (.invokevirtual 154, 3) := by decide +kernel
theorem dX12_rule_108 : decode cX12_rule 108 = .ok (.ireturn, 1) := by decide +kernel
theorem dX12_rule_109 : decode cX12_rule 109 = .ok (.iconst 1, 1) := by decide +kernel
theorem dX12_rule_110 : decode cX12_rule 110 = .ok (.istore 5, 2) := by decide +kernel
theorem dX12_rule_112 : decode cX12_rule 112 = .ok (.iconst 0, 1) := by decide +kernel
theorem dX12_rule_113 : decode cX12_rule 113 = .ok (.istore 6, 2) := by decide +kernel
theorem dX12_rule_115 : decode cX12_rule 115 = .ok (.iload 6, 2) := by decide +kernel
theorem dX12_rule_117 : decode cX12_rule 117 = .ok (.iload_n 3, 1) := by decide +kernel
theorem dX12_rule_118 : decode cX12_rule 118 = .ok (.if_icmp .ge 34, 3) := by decide +kernel
theorem dX12_rule_121 : decode cX12_rule 121 = .ok (.iload 5, 2) := by decide +kernel
theorem dX12_rule_123 : decode cX12_rule 123 = .ok (.ifCond .eq 20, 3) := by decide +kernel
theorem dX12_rule_126 : decode cX12_rule 126 = .ok (.aload_n 0, 1) := by decide +kernel
theorem dX12_rule_127 : decode cX12_rule 127 = .ok (.getfield 13, 3) := by decide +kernel
theorem dX12_rule_130 : decode cX12_rule 130 = .ok (.iload 6, 2) := by decide +kernel
theorem dX12_rule_132 : decode cX12_rule 132 = .ok (.iaload, 1) := by decide +kernel
theorem dX12_rule_133 : decode cX12_rule 133 = .ok (.invokestatic 199, 3) := by decide +kernel
theorem dX12_rule_136 : decode cX12_rule 136 = .ok (.ifCond .eq 7, 3) := by decide +kernel
theorem dX12_rule_139 : decode cX12_rule 139 = .ok (.iconst 1, 1) := by decide +kernel
theorem dX12_rule_140 : decode cX12_rule 140 = .ok (.goto 4, 3) := by decide +kernel
theorem dX12_rule_143 : decode cX12_rule 143 = .ok (.iconst 0, 1) := by decide +kernel
theorem dX12_rule_144 : decode cX12_rule 144 = .ok (.istore 5, 2) := by decide +kernel
theorem dX12_rule_146 : decode cX12_rule 146 = .ok (.iinc 6 1, 3) := by decide +kernel
theorem dX12_rule_149 : decode cX12_rule 149 = .ok (.goto (-34), 3) := by decide +kernel
theorem dX12_rule_152 : decode cX12_rule 152 = .ok (.iload 5, 2) := by decide +kernel
theorem dX12_rule_154 : decode cX12_rule 154 = .ok (.ifCond .ne 10, 3) := by decide +kernel
theorem dX12_rule_157 : decode cX12_rule 157 = .ok (.aload_n 0, 1) := by decide +kernel
theorem dX12_rule_158 : decode cX12_rule 158 = .ok (.bipush 6, 2) := by decide +kernel
theorem dX12_rule_160 : decode cX12_rule 160 = .ok (.invokevirtual 154, 3) := by decide +kernel
theorem dX12_rule_163 : decode cX12_rule 163 = .ok (.ireturn, 1) := by decide +kernel
theorem dX12_rule_164 : decode cX12_rule 164 = .ok (.sipush 200, 3) := by decide +kernel
theorem dX12_rule_167 : decode cX12_rule 167 = .ok (.iload_n 1, 1) := by decide +kernel
theorem dX12_rule_168 : decode cX12_rule 168 = .ok (.imul, 1) := by decide +kernel
theorem dX12_rule_169 : decode cX12_rule 169 = .ok (.aload_n 0, 1) := by decide +kernel
theorem dX12_rule_170 : decode cX12_rule 170 = .ok (.getfield 33, 3) := by decide +kernel
theorem dX12_rule_173 : decode cX12_rule 173 = .ok (.iload_n 1, 1) := by decide +kernel
theorem dX12_rule_174 : decode cX12_rule 174 = .ok (.iaload, 1) := by decide +kernel
theorem dX12_rule_175 : decode cX12_rule 175 = .ok (.iadd, 1) := by decide +kernel
theorem dX12_rule_176 : decode cX12_rule 176 = .ok (.istore 6, 2) := by decide +kernel
theorem dX12_rule_178 : decode cX12_rule 178 = .ok (.aload_n 0, 1) := by decide +kernel
theorem dX12_rule_179 : decode cX12_rule 179 = .ok (.getfield 36, 3) := by decide +kernel
theorem dX12_rule_182 : decode cX12_rule 182 = .ok (.iload 6, 2) := by decide +kernel
theorem dX12_rule_184 : decode cX12_rule 184 = .ok (.iload_n 2, 1) := by decide +kernel
theorem dX12_rule_185 : decode cX12_rule 185 = .ok (.iastore, 1) := by decide +kernel
theorem dX12_rule_186 : decode cX12_rule 186 = .ok (.aload_n 0, 1) := by decide +kernel
theorem dX12_rule_187 : decode cX12_rule 187 = .ok (.getfield 39, 3) := by decide +kernel
theorem dX12_rule_190 : decode cX12_rule 190 = .ok (.iload 6, 2) := by decide +kernel
theorem dX12_rule_192 : decode cX12_rule 192 = .ok (.iload_n 3, 1) := by decide +kernel
theorem dX12_rule_193 : decode cX12_rule 193 = .ok (.iastore, 1) := by decide +kernel
theorem dX12_rule_194 : decode cX12_rule 194 = .ok (.aload_n 0, 1) := by decide +kernel
theorem dX12_rule_195 : decode cX12_rule 195 = .ok (.getfield 42, 3) := by decide +kernel
theorem dX12_rule_198 : decode cX12_rule 198 = .ok (.iload 6, 2) := by decide +kernel
theorem dX12_rule_200 : decode cX12_rule 200 = .ok (.iload 4, 2) := by decide +kernel
theorem dX12_rule_202 : decode cX12_rule 202 = .ok (.iload_n 3, 1) := by decide +kernel
theorem dX12_rule_203 : decode cX12_rule 203 = .ok (.isub, 1) := by decide +kernel
theorem dX12_rule_204 : decode cX12_rule 204 = .ok (.iastore, 1) := by decide +kernel
theorem dX12_rule_205 : decode cX12_rule 205 = .ok (.iconst 0, 1) := by decide +kernel
theorem dX12_rule_206 : decode cX12_rule 206 = .ok (.istore 7, 2) := by decide +kernel
theorem dX12_rule_208 : decode cX12_rule 208 = .ok (.iload 7, 2) := by decide +kernel
theorem dX12_rule_210 : decode cX12_rule 210 = .ok (.iload_n 3, 1) := by decide +kernel
theorem dX12_rule_211 : decode cX12_rule 211 = .ok (.if_icmp .ge 29, 3) := by decide +kernel
theorem dX12_rule_214 : decode cX12_rule 214 = .ok (.aload_n 0, 1) := by decide +kernel
theorem dX12_rule_215 : decode cX12_rule 215 = .ok (.getfield 46, 3) := by decide +kernel
theorem dX12_rule_218 : decode cX12_rule 218 = .ok (.bipush 8, 2) := by decide +kernel
theorem dX12_rule_220 : decode cX12_rule 220 = .ok (.iload 6, 2) := by decide +kernel
theorem dX12_rule_222 : decode cX12_rule 222 = .ok (.imul, 1) := by decide +kernel
theorem dX12_rule_223 : decode cX12_rule 223 = .ok (.iload 7, 2) := by decide +kernel
theorem dX12_rule_225 : decode cX12_rule 225 = .ok (.iadd, 1) := by decide +kernel
theorem dX12_rule_226 : decode cX12_rule 226 = .ok (.aload_n 0, 1) := by decide +kernel
theorem dX12_rule_227 : decode cX12_rule 227 = .ok (.getfield 13, 3) := by decide +kernel
theorem dX12_rule_230 : decode cX12_rule 230 = .ok (.iload 7, 2) := by decide +kernel
theorem dX12_rule_232 : decode cX12_rule 232 = .ok (.iaload, 1) := by decide +kernel
theorem dX12_rule_233 : decode cX12_rule 233 = .ok (.iastore, 1) := by decide +kernel
theorem dX12_rule_234 : decode cX12_rule 234 = .ok (.iinc 7 1, 3) := by decide +kernel
theorem dX12_rule_237 : decode cX12_rule 237 = .ok (.goto (-29), 3) := by decide +kernel
theorem dX12_rule_240 : decode cX12_rule 240 = .ok (.iload_n 3, 1) := by decide +kernel
theorem dX12_rule_241 : decode cX12_rule 241 = .ok (.istore 7, 2) := by decide +kernel
theorem dX12_rule_243 : decode cX12_rule 243 = .ok (.iload 7, 2) := by decide +kernel
theorem dX12_rule_245 : decode cX12_rule 245 = .ok (.iload 4, 2) := by decide +kernel
theorem dX12_rule_247 : decode cX12_rule 247 = .ok (.if_icmp .ge 30, 3) := by decide +kernel
theorem dX12_rule_250 : decode cX12_rule 250 = .ok (.aload_n 0, 1) := by decide +kernel
theorem dX12_rule_251 : decode cX12_rule 251 = .ok (.getfield 49, 3) := by decide +kernel
theorem dX12_rule_254 : decode cX12_rule 254 = .ok (.iconst 4, 1) := by decide +kernel
theorem dX12_rule_255 : decode cX12_rule 255 = .ok (.iload 6, 2) := by decide +kernel
theorem dX12_rule_257 : decode cX12_rule 257 = .ok (.imul, 1) := by decide +kernel
theorem dX12_rule_258 : decode cX12_rule 258 = .ok (.iload 7, 2) := by decide +kernel
theorem dX12_rule_260 : decode cX12_rule 260 = .ok (.iadd, 1) := by decide +kernel
theorem dX12_rule_261 : decode cX12_rule 261 = .ok (.iload_n 3, 1) := by decide +kernel
theorem dX12_rule_262 : decode cX12_rule 262 = .ok (.isub, 1) := by decide +kernel
theorem dX12_rule_263 : decode cX12_rule 263 = .ok (.aload_n 0, 1) := by decide +kernel
theorem dX12_rule_264 : decode cX12_rule 264 = .ok (.getfield 13, 3) := by decide +kernel
theorem dX12_rule_267 : decode cX12_rule 267 = .ok (.iload 7, 2) := by decide +kernel
theorem dX12_rule_269 : decode cX12_rule 269 = .ok (.iaload, 1) := by decide +kernel
theorem dX12_rule_270 : decode cX12_rule 270 = .ok (.iastore, 1) := by decide +kernel
theorem dX12_rule_271 : decode cX12_rule 271 = .ok (.iinc 7 1, 3) := by decide +kernel
theorem dX12_rule_274 : decode cX12_rule 274 = .ok (.goto (-31), 3) := by decide +kernel
theorem dX12_rule_277 : decode cX12_rule 277 = .ok (.aload_n 0, 1) := by decide +kernel
theorem dX12_rule_278 : decode cX12_rule 278 = .ok (.getfield 33, 3) := by decide +kernel
theorem dX12_rule_281 : decode cX12_rule 281 = .ok (.iload_n 1, 1) := by decide +kernel
theorem dX12_rule_282 : decode cX12_rule 282 = .ok (.dup2, 1) := by decide +kernel
theorem dX12_rule_283 : decode cX12_rule 283 = .ok (.iaload, 1) := by decide +kernel
theorem dX12_rule_284 : decode cX12_rule 284 = .ok (.iconst 1, 1) := by decide +kernel
theorem dX12_rule_285 : decode cX12_rule 285 = .ok (.iadd, 1) := by decide +kernel
theorem dX12_rule_286 : decode cX12_rule 286 = .ok (.iastore, 1) := by decide +kernel
theorem dX12_rule_287 : decode cX12_rule 287 = .ok (.aload_n 0, 1) := by decide +kernel
theorem dX12_rule_288 : decode cX12_rule 288 = .ok (.iconst 2, 1) := by decide +kernel
theorem dX12_rule_289 : decode cX12_rule 289 = .ok (.iload_n 1, 1) := by decide +kernel
theorem dX12_rule_290 : decode cX12_rule 290 = .ok (.iconst 0, 1) := by decide +kernel
theorem dX12_rule_291 : decode cX12_rule 291 = .ok (.iconst 0, 1) := by decide +kernel
theorem dX12_rule_292 : decode cX12_rule 292 = .ok (.invokevirtual 182, 3) := by decide +kernel
theorem dX12_rule_295 : decode cX12_rule 295 = .ok (.aload_n 0, 1) := by decide +kernel
theorem dX12_rule_296 : decode cX12_rule 296 = .ok (.aload_n 0, 1) := by decide +kernel
theorem dX12_rule_297 : decode cX12_rule 297 = .ok (.getfield 33, 3) := by decide +kernel
theorem dX12_rule_300 : decode cX12_rule 300 = .ok (.iload_n 1, 1) := by decide +kernel
theorem dX12_rule_301 : decode cX12_rule 301 = .ok (.iaload, 1) := by decide +kernel
theorem dX12_rule_302 : decode cX12_rule 302 = .ok (.iconst 1, 1) := by decide +kernel
theorem dX12_rule_303 : decode cX12_rule 303 = .ok (.isub, 1) := by decide +kernel
theorem dX12_rule_304 : decode cX12_rule 304 = .ok (.invokevirtual 158, 3) := by decide +kernel
theorem dX12_rule_307 : decode cX12_rule 307 = .ok (.ireturn, 1) := by decide +kernel
theorem dX12_condition_0 : decode cX12_condition 0 = .ok (.aload_n 0, 1) := by decide +kernel
theorem dX12_condition_1 : decode cX12_condition 1 = .ok (.iload_n 1, 1) := by decide +kernel
theorem dX12_condition_2 : decode cX12_condition 2 = .ok (.invokevirtual 167, 3) := by decide +kernel
theorem dX12_condition_5 : decode cX12_condition 5 = .ok (.ifCond .ne 9, 3) := by decide +kernel
theorem dX12_condition_8 : decode cX12_condition 8 = .ok (.aload_n 0, 1) := by decide +kernel
theorem dX12_condition_9 : decode cX12_condition 9 = .ok (.iconst 3, 1) := by decide +kernel
theorem dX12_condition_10 : decode cX12_condition 10 = .ok (.invokevirtual 154, 3) := by decide +kernel
theorem dX12_condition_13 : decode cX12_condition 13 = .ok (.ireturn, 1) := by decide +kernel
theorem dX12_condition_14 : decode cX12_condition 14 = .ok (.aload_n 0, 1) := by decide +kernel
theorem dX12_condition_15 : decode cX12_condition 15 = .ok (.getfield 21, 3) := by decide +kernel
theorem dX12_condition_18 : decode cX12_condition 18 = .ok (.iload_n 1, 1) := by decide +kernel
theorem dX12_condition_19 : decode cX12_condition 19 = .ok (.iaload, 1) := by decide +kernel
theorem dX12_condition_20 : decode cX12_condition 20 = .ok (.iconst 5, 1) := by decide +kernel
theorem dX12_condition_21 : decode cX12_condition 21 = .ok (.if_icmp .ne 9, 3) := by decide +kernel
theorem dX12_condition_24 : decode cX12_condition 24 = .ok (.aload_n 0, 1) := by decide +kernel
theorem dX12_condition_25 : decode cX12_condition 25 = .ok (.iconst 4, 1) := by decide +kernel
theorem dX12_condition_26 : decode cX12_condition 26 = .ok (.invokevirtual 154, 3) := by decide +kernel
theorem dX12_condition_29 : decode cX12_condition 29 = .ok (.ireturn, 1) := by decide +kernel
theorem dX12_condition_30 : decode cX12_condition 30 = .ok (.iload_n 2, 1) := by decide +kernel
theorem dX12_condition_31 : decode cX12_condition 31 = .ok (.iconst 0, 1) := by decide +kernel
theorem dX12_condition_32 : decode cX12_condition 32 = .ok (.aload_n 0, 1) := by decide +kernel
theorem dX12_condition_33 : decode cX12_condition 33 = .ok (.getfield 33, 3) := by decide +kernel
theorem dX12_condition_36 : decode cX12_condition 36 = .ok (.iload_n 1, 1) := by decide +kernel
theorem dX12_condition_37 : decode cX12_condition 37 = .ok (.iaload, 1) := by decide +kernel
theorem dX12_condition_38 : decode cX12_condition 38 = .ok (.iconst 1, 1) := by decide +kernel
theorem dX12_condition_39 : decode cX12_condition 39 = .ok (.isub, 1) := by decide +kernel
theorem dX12_condition_40 : decode cX12_condition 40 = .ok (.invokestatic 174, 3) := by decide +kernel
theorem dX12_condition_43 : decode cX12_condition 43 = .ok (.ifCond .ne 9, 3) := by decide +kernel
theorem dX12_condition_46 : decode cX12_condition 46 = .ok (.aload_n 0, 1) := by decide +kernel
theorem dX12_condition_47 : decode cX12_condition 47 = .ok (.iconst 2, 1) := by decide +kernel
theorem dX12_condition_48 : decode cX12_condition 48 = .ok (.invokevirtual 154, 3) := by decide +kernel
theorem dX12_condition_51 : decode cX12_condition 51 = .ok (.ireturn, 1) := by decide +kernel
theorem dX12_condition_52 : decode cX12_condition 52 = .ok (.iload_n 3, 1) := by decide +kernel
theorem dX12_condition_53 : decode cX12_condition 53 = .ok (.iconst 0, 1) := by decide +kernel
theorem dX12_condition_54 : decode cX12_condition 54 = .ok (.iconst 5, 1) := by decide +kernel
theorem dX12_condition_55 : decode cX12_condition 55 = .ok (.invokestatic 174, 3) := by decide +kernel
theorem dX12_condition_58 : decode cX12_condition 58 = .ok (.ifCond .ne 10, 3) := by decide +kernel
theorem dX12_condition_61 : decode cX12_condition 61 = .ok (.aload_n 0, 1) := by decide +kernel
theorem dX12_condition_62 : decode cX12_condition 62 = .ok (.bipush 6, 2) := by decide +kernel
theorem dX12_condition_64 : decode cX12_condition 64 = .ok (.invokevirtual 154, 3) := by decide +kernel
theorem dX12_condition_67 : decode cX12_condition 67 = .ok (.ireturn, 1) := by decide +kernel
theorem dX12_condition_68 : decode cX12_condition 68 = .ok (.aload_n 0, 1) := by decide +kernel
theorem dX12_condition_69 : decode cX12_condition 69 = .ok (.getfield 36, 3) := by decide +kernel
theorem dX12_condition_72 : decode cX12_condition 72 = .ok (.sipush 200, 3) := by decide +kernel
theorem dX12_condition_75 : decode cX12_condition 75 = .ok (.iload_n 1, 1) := by decide +kernel
theorem dX12_condition_76 : decode cX12_condition 76 = .ok (.imul, 1) := by decide +kernel
theorem dX12_condition_77 : decode cX12_condition 77 = .ok (.iload_n 2, 1) := by decide +kernel
theorem dX12_condition_78 : decode cX12_condition 78 = .ok (.iadd, 1) := by decide +kernel
theorem dX12_condition_79 : decode cX12_condition 79 = .ok (.iaload, 1) := by decide +kernel
theorem dX12_condition_80 : decode cX12_condition 80 = .ok (.istore 4, 2) := by decide +kernel
theorem dX12_condition_82 : decode cX12_condition 82 = .ok (.aload_n 0, 1) := by decide +kernel
theorem dX12_condition_83 : decode cX12_condition 83 = .ok (.getfield 36, 3) := by decide +kernel
theorem dX12_condition_86 : decode cX12_condition 86 = .ok (.sipush 200, 3) := by decide +kernel
theorem dX12_condition_89 : decode cX12_condition 89 = .ok (.iload_n 1, 1) := by decide +kernel
theorem dX12_condition_90 : decode cX12_condition 90 = .ok (.imul, 1) := by decide +kernel
theorem dX12_condition_91 : decode cX12_condition 91 = .ok (.iload_n 2, 1) := by decide +kernel
theorem dX12_condition_92 : decode cX12_condition 92 = .ok (.iadd, 1) := by decide +kernel
theorem dX12_condition_93 : decode cX12_condition 93 = .ok (.iload_n 3, 1) := by decide +kernel
theorem dX12_condition_94 : decode cX12_condition 94 = .ok (.iastore, 1) := by decide +kernel
theorem dX12_condition_95 : decode cX12_condition 95 = .ok (.aload_n 0, 1) := by decide +kernel
theorem dX12_condition_96 : decode cX12_condition 96 = .ok (.iconst 3, 1) := by decide +kernel
theorem dX12_condition_97 : decode cX12_condition 97 = .ok (.iload_n 1, 1) := by decide +kernel
theorem dX12_condition_98 : decode cX12_condition 98 = .ok (.iload_n 2, 1) := by decide +kernel
theorem dX12_condition_99 : decode cX12_condition 99 = .ok (.iload 4, 2) := by decide +kernel
theorem dX12_condition_101 : decode cX12_condition 101 = .ok (.invokevirtual 182, 3) := by decide +kernel
theorem dX12_condition_104 : decode cX12_condition 104 = .ok (.aload_n 0, 1) := by decide +kernel
theorem dX12_condition_105 : decode cX12_condition 105 = .ok (.iload 4, 2) := by decide +kernel
theorem dX12_condition_107 : decode cX12_condition 107 = .ok (.invokevirtual 158, 3) := by decide +kernel
theorem dX12_condition_110 : decode cX12_condition 110 = .ok (.ireturn, 1) := by decide +kernel
theorem dX12_indicator_0 : decode cX12_indicator 0 = .ok (.aload_n 0, 1) := by decide +kernel
theorem dX12_indicator_1 : decode cX12_indicator 1 = .ok (.invokevirtual 192, 3) := by decide +kernel
theorem dX12_indicator_4 : decode cX12_indicator 4 = .ok (.istore_n 3, 1) := by decide +kernel
theorem dX12_indicator_5 : decode cX12_indicator 5 = .ok (.iload_n 2, 1) := by decide +kernel
theorem dX12_indicator_6 : decode cX12_indicator 6 = .ok (.iconst 0, 1) := by decide +kernel
theorem dX12_indicator_7 : decode cX12_indicator 7 = .ok (.iconst 3, 1) := by decide +kernel
theorem dX12_indicator_8 : decode cX12_indicator 8 = .ok (.invokestatic 174, 3) := by decide +kernel
theorem dX12_indicator_11 : decode cX12_indicator 11 = .ok (.ifCond .ne 10, 3) := by decide +kernel
theorem dX12_indicator_14 : decode cX12_indicator 14 = .ok (.aload_n 0, 1) := by decide +kernel
theorem dX12_indicator_15 : decode cX12_indicator 15 = .ok (.bipush 6, 2) := by decide +kernel
theorem dX12_indicator_17 : decode cX12_indicator 17 = .ok (.invokevirtual 154, 3) := by decide +kernel
theorem dX12_indicator_20 : decode cX12_indicator 20 = .ok (.ireturn, 1) := by decide +kernel
theorem dX12_indicator_21 : decode cX12_indicator 21 = .ok (.aload_n 0, 1) := by decide +kernel
theorem dX12_indicator_22 : decode cX12_indicator 22 = .ok (.iload_n 1, 1) := by decide +kernel
theorem dX12_indicator_23 : decode cX12_indicator 23 = .ok (.invokevirtual 167, 3) := by decide +kernel
theorem dX12_indicator_26 : decode cX12_indicator 26 = .ok (.ifCond .ne 9, 3) := by decide +kernel
theorem dX12_indicator_29 : decode cX12_indicator 29 = .ok (.aload_n 0, 1) := by decide +kernel
theorem dX12_indicator_30 : decode cX12_indicator 30 = .ok (.iconst 3, 1) := by decide +kernel
theorem dX12_indicator_31 : decode cX12_indicator 31 = .ok (.invokevirtual 154, 3) := by decide +kernel
theorem dX12_indicator_34 : decode cX12_indicator 34 = .ok (.ireturn, 1) := by decide +kernel
theorem dX12_indicator_35 : decode cX12_indicator 35 = .ok (.iload_n 2, 1) := by decide +kernel
theorem dX12_indicator_36 : decode cX12_indicator 36 = .ok (.ifCond .ne 21, 3) := by decide +kernel
theorem dX12_indicator_39 : decode cX12_indicator 39 = .ok (.aload_n 0, 1) := by decide +kernel
theorem dX12_indicator_40 : decode cX12_indicator 40 = .ok (.getfield 21, 3) := by decide +kernel
theorem dX12_indicator_43 : decode cX12_indicator 43 = .ok (.iload_n 1, 1) := by decide +kernel
theorem dX12_indicator_44 : decode cX12_indicator 44 = .ok (.iaload, 1) := by decide +kernel
theorem dX12_indicator_45 : decode cX12_indicator 45 = .ok (.iconst 2, 1) := by decide +kernel
theorem dX12_indicator_46 : decode cX12_indicator 46 = .ok (.if_icmp .gt 7, 3) := by decide +kernel
theorem dX12_indicator_49 : decode cX12_indicator 49 = .ok (.iconst 1, 1) := by decide +kernel
theorem dX12_indicator_50 : decode cX12_indicator 50 = .ok (.goto 45, 3) := by decide +kernel
theorem dX12_indicator_53 : decode cX12_indicator 53 = .ok (.iconst 0, 1) := by decide +kernel
theorem dX12_indicator_54 : decode cX12_indicator 54 = .ok (.goto 41, 3) := by decide +kernel
theorem dX12_indicator_57 : decode cX12_indicator 57 = .ok (.iload_n 2, 1) := by decide +kernel
theorem dX12_indicator_58 : decode cX12_indicator 58 = .ok (.iconst 1, 1) := by decide +kernel
theorem dX12_indicator_59 : decode cX12_indicator 59 = .ok (.if_icmp .ne 21, 3) := by decide +kernel
theorem dX12_indicator_62 : decode cX12_indicator 62 = .ok (.aload_n 0, 1) := by decide +kernel
theorem dX12_indicator_63 : decode cX12_indicator 63 = .ok (.getfield 21, 3) := by decide +kernel
theorem dX12_indicator_66 : decode cX12_indicator 66 = .ok (.iload_n 1, 1) := by decide +kernel
theorem dX12_indicator_67 : decode cX12_indicator 67 = .ok (.iaload, 1) := by decide +kernel
theorem dX12_indicator_68 : decode cX12_indicator 68 = .ok (.iconst 2, 1) := by decide +kernel
theorem dX12_indicator_69 : decode cX12_indicator 69 = .ok (.if_icmp .ne 7, 3) := by decide +kernel
theorem dX12_indicator_72 : decode cX12_indicator 72 = .ok (.iconst 1, 1) := by decide +kernel
theorem dX12_indicator_73 : decode cX12_indicator 73 = .ok (.goto 22, 3) := by decide +kernel
theorem dX12_indicator_76 : decode cX12_indicator 76 = .ok (.iconst 0, 1) := by decide +kernel
theorem dX12_indicator_77 : decode cX12_indicator 77 = .ok (.goto 18, 3) := by decide +kernel
theorem dX12_indicator_80 : decode cX12_indicator 80 = .ok (.aload_n 0, 1) := by decide +kernel
theorem dX12_indicator_81 : decode cX12_indicator 81 = .ok (.getfield 21, 3) := by decide +kernel
theorem dX12_indicator_84 : decode cX12_indicator 84 = .ok (.iload_n 1, 1) := by decide +kernel
theorem dX12_indicator_85 : decode cX12_indicator 85 = .ok (.iaload, 1) := by decide +kernel
theorem dX12_indicator_86 : decode cX12_indicator 86 = .ok (.iconst 5, 1) := by decide +kernel
theorem dX12_indicator_87 : decode cX12_indicator 87 = .ok (.if_icmp .ne 7, 3) := by decide +kernel
theorem dX12_indicator_90 : decode cX12_indicator 90 = .ok (.iconst 1, 1) := by decide +kernel
theorem dX12_indicator_91 : decode cX12_indicator 91 = .ok (.goto 4, 3) := by decide +kernel
theorem dX12_indicator_94 : decode cX12_indicator 94 = .ok (.iconst 0, 1) := by decide +kernel
theorem dX12_indicator_95 : decode cX12_indicator 95 = .ok (.istore 4, 2) := by decide +kernel
theorem dX12_indicator_97 : decode cX12_indicator 97 = .ok (.iload 4, 2) := by decide +kernel
theorem dX12_indicator_99 : decode cX12_indicator 99 = .ok (.ifCond .ne 9, 3) := by decide +kernel
theorem dX12_indicator_102 : decode cX12_indicator 102 = .ok (.aload_n 0, 1) := by decide +kernel
theorem dX12_indicator_103 : decode cX12_indicator 103 = .ok (.iconst 4, 1) := by decide +kernel
theorem dX12_indicator_104 : decode cX12_indicator 104 = .ok (.invokevirtual 154, 3) := by decide +kernel
theorem dX12_indicator_107 : decode cX12_indicator 107 = .ok (.ireturn, 1) := by decide +kernel
theorem dX12_indicator_108 : decode cX12_indicator 108 = .ok (.iload_n 3, 1) := by decide +kernel
theorem dX12_indicator_109 : decode cX12_indicator 109 = .ok (.iconst 4, 1) := by decide +kernel
theorem dX12_indicator_110 : decode cX12_indicator 110 = .ok (.if_icmp .gt 13, 3) := by decide +kernel
theorem dX12_indicator_113 : decode cX12_indicator 113 = .ok (.aload_n 0, 1) := by decide +kernel
theorem dX12_indicator_114 : decode cX12_indicator 114 = .ok (.iload_n 1, 1) := by decide +kernel
theorem dX12_indicator_115 : decode cX12_indicator 115 = .ok (.iconst 0, 1) := by decide +kernel
theorem dX12_indicator_116 : decode cX12_indicator 116 = .ok (.iload_n 3, 1) := by decide +kernel
theorem dX12_indicator_117 : decode cX12_indicator 117 = .ok (.invokevirtual 196, 3) := by decide +kernel
theorem dX12_indicator_120 : decode cX12_indicator 120 = .ok (.ifCond .ne 10, 3) := by decide +kernel
theorem dX12_indicator_123 : decode cX12_indicator 123 = .ok (.aload_n 0, 1) := by decide +kernel
theorem dX12_indicator_124 : decode cX12_indicator 124 = .ok (.bipush 6, 2) := by decide +kernel
theorem dX12_indicator_126 : decode cX12_indicator 126 = .ok (.invokevirtual 154, 3) := by decide +kernel
theorem dX12_indicator_129 : decode cX12_indicator 129 = .ok (.ireturn, 1) := by decide +kernel
theorem dX12_indicator_130 : decode cX12_indicator 130 = .ok (.iconst 4, 1) := by decide +kernel
theorem dX12_indicator_131 : decode cX12_indicator 131 = .ok (.iload_n 1, 1) := by decide +kernel
theorem dX12_indicator_132 : decode cX12_indicator 132 = .ok (.imul, 1) := by decide +kernel
theorem dX12_indicator_133 : decode cX12_indicator 133 = .ok (.iload_n 2, 1) := by decide +kernel
theorem dX12_indicator_134 : decode cX12_indicator 134 = .ok (.iadd, 1) := by decide +kernel
theorem dX12_indicator_135 : decode cX12_indicator 135 = .ok (.istore 5, 2) := by decide +kernel
theorem dX12_indicator_137 : decode cX12_indicator 137 = .ok (.iconst 0, 1) := by decide +kernel
theorem dX12_indicator_138 : decode cX12_indicator 138 = .ok (.istore 6, 2) := by decide +kernel
theorem dX12_indicator_140 : decode cX12_indicator 140 = .ok (.iconst 0, 1) := by decide +kernel
theorem dX12_indicator_141 : decode cX12_indicator 141 = .ok (.istore 7, 2) := by decide +kernel
theorem dX12_indicator_143 : decode cX12_indicator 143 = .ok (.iload 7, 2) := by decide +kernel
theorem dX12_indicator_145 : decode cX12_indicator 145 = .ok (.aload_n 0, 1) := by decide +kernel
theorem dX12_indicator_146 : decode cX12_indicator 146 = .ok (.getfield 52, 3) := by decide +kernel
theorem dX12_indicator_149 : decode cX12_indicator 149 = .ok (.iload 5, 2) := by decide +kernel
theorem dX12_indicator_151 : decode cX12_indicator 151 = .ok (.iaload, 1) := by decide +kernel
theorem dX12_indicator_152 : decode cX12_indicator 152 = .ok (.if_icmp .ge 29, 3) := by decide +kernel
theorem dX12_indicator_155 : decode cX12_indicator 155 = .ok (.iload 6, 2) := by decide +kernel
theorem dX12_indicator_157 : decode cX12_indicator 157 = .ok (.bipush 8, 2) := by decide +kernel
theorem dX12_indicator_159 : decode cX12_indicator 159 = .ok (.ishl, 1) := by decide +kernel
theorem dX12_indicator_160 : decode cX12_indicator 160 = .ok (.aload_n 0, 1) := by decide +kernel
theorem dX12_indicator_161 : decode cX12_indicator 161 = .ok (.getfield 55, 3) := by decide +kernel
theorem dX12_indicator_164 : decode cX12_indicator 164 = .ok (.iconst 4, 1) := by decide +kernel
theorem dX12_indicator_165 : decode cX12_indicator 165 = .ok (.iload 5, 2) := by decide +kernel
theorem dX12_indicator_167 : decode cX12_indicator 167 = .ok (.imul, 1) := by decide +kernel
theorem dX12_indicator_168 : decode cX12_indicator 168 = .ok (.iload 7, 2) := by decide +kernel
theorem dX12_indicator_170 : decode cX12_indicator 170 = .ok (.iadd, 1) := by decide +kernel
theorem dX12_indicator_171 : decode cX12_indicator 171 = .ok (.iaload, 1) := by decide +kernel
theorem dX12_indicator_172 : decode cX12_indicator 172 = .ok (.ior, 1) := by decide +kernel
theorem dX12_indicator_173 : decode cX12_indicator 173 = .ok (.istore 6, 2) := by decide +kernel
theorem dX12_indicator_175 : decode cX12_indicator 175 = .ok (.iinc 7 1, 3) := by decide +kernel
theorem dX12_indicator_178 : decode cX12_indicator 178 = .ok (.goto (-35), 3) := by decide +kernel
theorem dX12_indicator_181 : decode cX12_indicator 181 = .ok (.aload_n 0, 1) := by decide +kernel
theorem dX12_indicator_182 : decode cX12_indicator 182 = .ok (.iconst 4, 1) := by decide +kernel
theorem dX12_indicator_183 : decode cX12_indicator 183 = .ok (.iload 5, 2) := by decide +kernel
theorem dX12_indicator_185 : decode cX12_indicator 185 = .ok (.aload_n 0, 1) := by decide +kernel
theorem dX12_indicator_186 : decode cX12_indicator 186 = .ok (.getfield 52, 3) := by decide +kernel
theorem dX12_indicator_189 : decode cX12_indicator 189 = .ok (.iload 5, 2) := by decide +kernel
theorem dX12_indicator_191 : decode cX12_indicator 191 = .ok (.iaload, 1) := by decide +kernel
theorem dX12_indicator_192 : decode cX12_indicator 192 = .ok (.iload 6, 2) := by decide +kernel
theorem dX12_indicator_194 : decode cX12_indicator 194 = .ok (.invokevirtual 182, 3) := by decide +kernel
theorem dX12_indicator_197 : decode cX12_indicator 197 = .ok (.aload_n 0, 1) := by decide +kernel
theorem dX12_indicator_198 : decode cX12_indicator 198 = .ok (.getfield 52, 3) := by decide +kernel
theorem dX12_indicator_201 : decode cX12_indicator 201 = .ok (.iload 5, 2) := by decide +kernel
theorem dX12_indicator_203 : decode cX12_indicator 203 = .ok (.iload_n 3, 1) := by decide +kernel
theorem dX12_indicator_204 : decode cX12_indicator 204 = .ok (.iastore, 1) := by decide +kernel
theorem dX12_indicator_205 : decode cX12_indicator 205 = .ok (.iconst 0, 1) := by decide +kernel
theorem dX12_indicator_206 : decode cX12_indicator 206 = .ok (.istore 7, 2) := by decide +kernel
theorem dX12_indicator_208 : decode cX12_indicator 208 = .ok (.iload 7, 2) := by decide +kernel
theorem dX12_indicator_210 : decode cX12_indicator 210 = .ok (.iload_n 3, 1) := by decide +kernel
theorem dX12_indicator_211 : decode cX12_indicator 211 = .ok (.if_icmp .ge 28, 3) := by decide +kernel
theorem dX12_indicator_214 : decode cX12_indicator 214 = .ok (.aload_n 0, 1) := by decide +kernel
theorem dX12_indicator_215 : decode cX12_indicator 215 = .ok (.getfield 55, 3) := by decide +kernel
theorem dX12_indicator_218 : decode cX12_indicator 218 = .ok (.iconst 4, 1) := by decide +kernel
theorem dX12_indicator_219 : decode cX12_indicator 219 = .ok (.iload 5, 2) := by decide +kernel
theorem dX12_indicator_221 : decode cX12_indicator 221 = .ok (.imul, 1) := by decide +kernel
theorem dX12_indicator_222 : decode cX12_indicator 222 = .ok (.iload 7, 2) := by decide +kernel
theorem dX12_indicator_224 : decode cX12_indicator 224 = .ok (.iadd, 1) := by decide +kernel
theorem dX12_indicator_225 : decode cX12_indicator 225 = .ok (.aload_n 0, 1) := by decide +kernel
theorem dX12_indicator_226 : decode cX12_indicator 226 = .ok (.getfield 13, 3) := by decide +kernel
theorem dX12_indicator_229 : decode cX12_indicator 229 = .ok (.iload 7, 2) := by decide +kernel
theorem dX12_indicator_231 : decode cX12_indicator 231 = .ok (.iaload, 1) := by decide +kernel
theorem dX12_indicator_232 : decode cX12_indicator 232 = .ok (.iastore, 1) := by decide +kernel
theorem dX12_indicator_233 : decode cX12_indicator 233 = .ok (.iinc 7 1, 3) := by decide +kernel
theorem dX12_indicator_236 : decode cX12_indicator 236 = .ok (.goto (-28), 3) := by decide +kernel
theorem dX12_indicator_239 : decode cX12_indicator 239 = .ok (.aload_n 0, 1) := by decide +kernel
theorem dX12_indicator_240 : decode cX12_indicator 240 = .ok (.iload_n 3, 1) := by decide +kernel
theorem dX12_indicator_241 : decode cX12_indicator 241 = .ok (.invokevirtual 158, 3) := by decide +kernel
theorem dX12_indicator_244 : decode cX12_indicator 244 = .ok (.ireturn, 1) := by decide +kernel
theorem dX12_undo_0 : decode cX12_undo 0 = .ok (.aload_n 0, 1) := by decide +kernel
theorem dX12_undo_1 : decode cX12_undo 1 = .ok (.getfield 161, 3) := by decide +kernel
theorem dX12_undo_4 : decode cX12_undo 4 = .ok (.ifCond .ne 9, 3) := by decide +kernel
theorem dX12_undo_7 : decode cX12_undo 7 = .ok (.aload_n 0, 1) := by decide +kernel
theorem dX12_undo_8 : decode cX12_undo 8 = .ok (.iconst 0, 1) := by decide +kernel
theorem dX12_undo_9 : decode cX12_undo 9 = .ok (.invokevirtual 158, 3) := by decide +kernel
theorem dX12_undo_12 : decode cX12_undo 12 = .ok (.ireturn, 1) := by decide +kernel
theorem dX12_undo_13 : decode cX12_undo 13 = .ok (.aload_n 0, 1) := by decide +kernel
theorem dX12_undo_14 : decode cX12_undo 14 = .ok (.dup, 1) := by decide +kernel
theorem dX12_undo_15 : decode cX12_undo 15 = .ok (.getfield 161, 3) := by decide +kernel
theorem dX12_undo_18 : decode cX12_undo 18 = .ok (.iconst 4, 1) := by decide +kernel
theorem dX12_undo_19 : decode cX12_undo 19 = .ok (.isub, 1) := by decide +kernel
theorem dX12_undo_20 : decode cX12_undo 20 = .ok (.putfield 161, 3) := by decide +kernel
theorem dX12_undo_23 : decode cX12_undo 23 = .ok (.aload_n 0, 1) := by decide +kernel
theorem dX12_undo_24 : decode cX12_undo 24 = .ok (.getfield 58, 3) := by decide +kernel
theorem dX12_undo_27 : decode cX12_undo 27 = .ok (.aload_n 0, 1) := by decide +kernel
theorem dX12_undo_28 : decode cX12_undo 28 = .ok (.getfield 161, 3) := by decide +kernel
theorem dX12_undo_31 : decode cX12_undo 31 = .ok (.iconst 1, 1) := by decide +kernel
theorem dX12_undo_32 : decode cX12_undo 32 = .ok (.iadd, 1) := by decide +kernel
theorem dX12_undo_33 : decode cX12_undo 33 = .ok (.iaload, 1) := by decide +kernel
theorem dX12_undo_34 : decode cX12_undo 34 = .ok (.istore_n 1, 1) := by decide +kernel
theorem dX12_undo_35 : decode cX12_undo 35 = .ok (.aload_n 0, 1) := by decide +kernel
theorem dX12_undo_36 : decode cX12_undo 36 = .ok (.getfield 58, 3) := by decide +kernel
theorem dX12_undo_39 : decode cX12_undo 39 = .ok (.aload_n 0, 1) := by decide +kernel
theorem dX12_undo_40 : decode cX12_undo 40 = .ok (.getfield 161, 3) := by decide +kernel
theorem dX12_undo_43 : decode cX12_undo 43 = .ok (.iconst 2, 1) := by decide +kernel
theorem dX12_undo_44 : decode cX12_undo 44 = .ok (.iadd, 1) := by decide +kernel
theorem dX12_undo_45 : decode cX12_undo 45 = .ok (.iaload, 1) := by decide +kernel
theorem dX12_undo_46 : decode cX12_undo 46 = .ok (.istore_n 2, 1) := by decide +kernel
theorem dX12_undo_47 : decode cX12_undo 47 = .ok (.aload_n 0, 1) := by decide +kernel
theorem dX12_undo_48 : decode cX12_undo 48 = .ok (.getfield 58, 3) := by decide +kernel
theorem dX12_undo_51 : decode cX12_undo 51 = .ok (.aload_n 0, 1) := by decide +kernel
theorem dX12_undo_52 : decode cX12_undo 52 = .ok (.getfield 161, 3) := by decide +kernel
theorem dX12_undo_55 : decode cX12_undo 55 = .ok (.iconst 3, 1) := by decide +kernel
theorem dX12_undo_56 : decode cX12_undo 56 = .ok (.iadd, 1) := by decide +kernel
theorem dX12_undo_57 : decode cX12_undo 57 = .ok (.iaload, 1) := by decide +kernel
theorem dX12_undo_58 : decode cX12_undo 58 = .ok (.istore_n 3, 1) := by decide +kernel
theorem dX12_undo_59 : decode cX12_undo 59 = .ok (.aload_n 0, 1) := by decide +kernel
theorem dX12_undo_60 : decode cX12_undo 60 = .ok (.getfield 58, 3) := by decide +kernel
theorem dX12_undo_63 : decode cX12_undo 63 = .ok (.aload_n 0, 1) := by decide +kernel
theorem dX12_undo_64 : decode cX12_undo 64 = .ok (.getfield 161, 3) := by decide +kernel
theorem dX12_undo_67 : decode cX12_undo 67 = .ok (.iaload, 1) := by decide +kernel
theorem dX12_undo_68 : decode cX12_undo 68 = .ok (.tableswitch 84 0 3 #[32, 45, 55, 68], 32) := by decide +kernel
theorem dX12_undo_100 : decode cX12_undo 100 = .ok (.aload_n 0, 1) := by decide +kernel
theorem dX12_undo_101 : decode cX12_undo 101 = .ok (.dup, 1) := by decide +kernel
theorem dX12_undo_102 : decode cX12_undo 102 = .ok (.getfield 164, 3) := by decide +kernel
theorem dX12_undo_105 : decode cX12_undo 105 = .ok (.iconst 1, 1) := by decide +kernel
theorem dX12_undo_106 : decode cX12_undo 106 = .ok (.isub, 1) := by decide +kernel
theorem dX12_undo_107 : decode cX12_undo 107 = .ok (.putfield 164, 3) := by decide +kernel
theorem dX12_undo_110 : decode cX12_undo 110 = .ok (.goto 90, 3) := by decide +kernel
theorem dX12_undo_113 : decode cX12_undo 113 = .ok (.aload_n 0, 1) := by decide +kernel
theorem dX12_undo_114 : decode cX12_undo 114 = .ok (.getfield 17, 3) := by decide +kernel
theorem dX12_undo_117 : decode cX12_undo 117 = .ok (.iload_n 1, 1) := by decide +kernel
theorem dX12_undo_118 : decode cX12_undo 118 = .ok (.iconst 1, 1) := by decide +kernel
theorem dX12_undo_119 : decode cX12_undo 119 = .ok (.bastore, 1) := by decide +kernel
theorem dX12_undo_120 : decode cX12_undo 120 = .ok (.goto 80, 3) := by decide +kernel
theorem dX12_undo_123 : decode cX12_undo 123 = .ok (.aload_n 0, 1) := by decide +kernel
theorem dX12_undo_124 : decode cX12_undo 124 = .ok (.getfield 33, 3) := by decide +kernel
theorem dX12_undo_127 : decode cX12_undo 127 = .ok (.iload_n 1, 1) := by decide +kernel
theorem dX12_undo_128 : decode cX12_undo 128 = .ok (.dup2, 1) := by decide +kernel
theorem dX12_undo_129 : decode cX12_undo 129 = .ok (.iaload, 1) := by decide +kernel
theorem dX12_undo_130 : decode cX12_undo 130 = .ok (.iconst 1, 1) := by decide +kernel
theorem dX12_undo_131 : decode cX12_undo 131 = .ok (.isub, 1) := by decide +kernel
theorem dX12_undo_132 : decode cX12_undo 132 = .ok (.iastore, 1) := by decide +kernel
theorem dX12_undo_133 : decode cX12_undo 133 = .ok (.goto 67, 3) := by decide +kernel
theorem dX12_undo_136 : decode cX12_undo 136 = .ok (.aload_n 0, 1) := by decide +kernel
theorem dX12_undo_137 : decode cX12_undo 137 = .ok (.getfield 36, 3) := by decide +kernel
theorem dX12_undo_140 : decode cX12_undo 140 = .ok (.sipush 200, 3) := by decide +kernel
theorem dX12_undo_143 : decode cX12_undo 143 = .ok (.iload_n 1, 1) := by decide +kernel
theorem dX12_undo_144 : decode cX12_undo 144 = .ok (.imul, 1) := by decide +kernel
theorem dX12_undo_145 : decode cX12_undo 145 = .ok (.iload_n 2, 1) := by decide +kernel
theorem dX12_undo_146 : decode cX12_undo 146 = .ok (.iadd, 1) := by decide +kernel
theorem dX12_undo_147 : decode cX12_undo 147 = .ok (.iload_n 3, 1) := by decide +kernel
theorem dX12_undo_148 : decode cX12_undo 148 = .ok (.iastore, 1) := by decide +kernel
theorem dX12_undo_149 : decode cX12_undo 149 = .ok (.goto 51, 3) := by decide +kernel
theorem dX12_undo_152 : decode cX12_undo 152 = .ok (.aload_n 0, 1) := by decide +kernel
theorem dX12_undo_153 : decode cX12_undo 153 = .ok (.getfield 52, 3) := by decide +kernel
theorem dX12_undo_156 : decode cX12_undo 156 = .ok (.iload_n 1, 1) := by decide +kernel
theorem dX12_undo_157 : decode cX12_undo 157 = .ok (.iload_n 2, 1) := by decide +kernel
theorem dX12_undo_158 : decode cX12_undo 158 = .ok (.iastore, 1) := by decide +kernel
theorem dX12_undo_159 : decode cX12_undo 159 = .ok (.iconst 0, 1) := by decide +kernel
theorem dX12_undo_160 : decode cX12_undo 160 = .ok (.istore 4, 2) := by decide +kernel
theorem dX12_undo_162 : decode cX12_undo 162 = .ok (.iload 4, 2) := by decide +kernel
theorem dX12_undo_164 : decode cX12_undo 164 = .ok (.iload_n 2, 1) := by decide +kernel
theorem dX12_undo_165 : decode cX12_undo 165 = .ok (.if_icmp .ge 35, 3) := by decide +kernel
theorem dX12_undo_168 : decode cX12_undo 168 = .ok (.aload_n 0, 1) := by decide +kernel
theorem dX12_undo_169 : decode cX12_undo 169 = .ok (.getfield 55, 3) := by decide +kernel
theorem dX12_undo_172 : decode cX12_undo 172 = .ok (.iconst 4, 1) := by decide +kernel
theorem dX12_undo_173 : decode cX12_undo 173 = .ok (.iload_n 1, 1) := by decide +kernel
theorem dX12_undo_174 : decode cX12_undo 174 = .ok (.imul, 1) := by decide +kernel
theorem dX12_undo_175 : decode cX12_undo 175 = .ok (.iload 4, 2) := by decide +kernel
theorem dX12_undo_177 : decode cX12_undo 177 = .ok (.iadd, 1) := by decide +kernel
theorem dX12_undo_178 : decode cX12_undo 178 = .ok (.iload_n 3, 1) := by decide +kernel
theorem dX12_undo_179 : decode cX12_undo 179 = .ok (.bipush 8, 2) := by decide +kernel
theorem dX12_undo_181 : decode cX12_undo 181 = .ok (.iload_n 2, 1) := by decide +kernel
theorem dX12_undo_182 : decode cX12_undo 182 = .ok (.iconst 1, 1) := by decide +kernel
theorem dX12_undo_183 : decode cX12_undo 183 = .ok (.isub, 1) := by decide +kernel
theorem dX12_undo_184 : decode cX12_undo 184 = .ok (.iload 4, 2) := by decide +kernel
theorem dX12_undo_186 : decode cX12_undo 186 = .ok (.isub, 1) := by decide +kernel
theorem dX12_undo_187 : decode cX12_undo 187 = .ok (.imul, 1) := by decide +kernel
theorem dX12_undo_188 : decode cX12_undo 188 = .ok (.ishr, 1) := by decide +kernel
theorem dX12_undo_189 : decode cX12_undo 189 = .ok (.sipush 255, 3) := by decide +kernel
theorem dX12_undo_192 : decode cX12_undo 192 = .ok (.iand, 1) := by decide +kernel
theorem dX12_undo_193 : decode cX12_undo 193 = .ok (.iastore, 1) := by decide +kernel
theorem dX12_undo_194 : decode cX12_undo 194 = .ok (.iinc 4 1, 3) := by decide +kernel
theorem dX12_undo_197 : decode cX12_undo 197 = .ok (.goto (-35), 3) := by decide +kernel
theorem dX12_undo_200 : decode cX12_undo 200 = .ok (.aload_n 0, 1) := by decide +kernel
theorem dX12_undo_201 : decode cX12_undo 201 = .ok (.iconst 1, 1) := by decide +kernel
theorem dX12_undo_202 : decode cX12_undo 202 = .ok (.invokevirtual 158, 3) := by decide +kernel
theorem dX12_undo_205 : decode cX12_undo 205 = .ok (.ireturn, 1) := by decide +kernel
theorem dX12_finds_0 : decode cX12_finds 0 = .ok (.iload_n 1, 1) := by decide +kernel
theorem dX12_finds_1 : decode cX12_finds 1 = .ok (.iconst 0, 1) := by decide +kernel
theorem dX12_finds_2 : decode cX12_finds 2 = .ok (.iconst 4, 1) := by decide +kernel
theorem dX12_finds_3 : decode cX12_finds 3 = .ok (.invokestatic 174, 3) := by decide +kernel
theorem dX12_finds_6 : decode cX12_finds 6 = .ok (.ifCond .eq 12, 3) := by decide +kernel
theorem dX12_finds_9 : decode cX12_finds 9 = .ok (.aload_n 0, 1) := by decide +kernel
theorem dX12_finds_10 : decode cX12_finds 10 = .ok (.getfield 76, 3) := by decide +kernel
theorem dX12_finds_13 : decode cX12_finds 13 = .ok (.iload_n 1, 1) := by decide +kernel
theorem dX12_finds_14 : decode cX12_finds 14 = .ok (.iaload, 1) := by decide +kernel
theorem dX12_finds_15 : decode cX12_finds 15 = .ok (.goto 4, 3) := by decide +kernel
theorem dX12_finds_18 : decode cX12_finds 18 = .ok (.iconst 0, 1) := by decide +kernel
theorem dX12_finds_19 : decode cX12_finds 19 = .ok (.ireturn, 1) := by decide +kernel
theorem dX12_isDigit_0 : decode cX12_isDigit 0 = .ok (.iload_n 0, 1) := by decide +kernel
theorem dX12_isDigit_1 : decode cX12_isDigit 1 = .ok (.bipush 48, 2) := by decide +kernel
theorem dX12_isDigit_3 : decode cX12_isDigit 3 = .ok (.if_icmp .lt 13, 3) := by decide +kernel
theorem dX12_isDigit_6 : decode cX12_isDigit 6 = .ok (.iload_n 0, 1) := by decide +kernel
theorem dX12_isDigit_7 : decode cX12_isDigit 7 = .ok (.bipush 57, 2) := by decide +kernel
theorem dX12_isDigit_9 : decode cX12_isDigit 9 = .ok (.if_icmp .gt 7, 3) := by decide +kernel
theorem dX12_isDigit_12 : decode cX12_isDigit 12 = .ok (.iconst 1, 1) := by decide +kernel
theorem dX12_isDigit_13 : decode cX12_isDigit 13 = .ok (.goto 4, 3) := by decide +kernel
theorem dX12_isDigit_16 : decode cX12_isDigit 16 = .ok (.iconst 0, 1) := by decide +kernel
theorem dX12_isDigit_17 : decode cX12_isDigit 17 = .ok (.ireturn, 1) := by decide +kernel
theorem dX12_isGreat_0 : decode cX12_isGreat 0 = .ok (.iload_n 0, 1) := by decide +kernel
theorem dX12_isGreat_1 : decode cX12_isGreat 1 = .ok (.bipush 65, 2) := by decide +kernel
theorem dX12_isGreat_3 : decode cX12_isGreat 3 = .ok (.if_icmp .lt 13, 3) := by decide +kernel
theorem dX12_isGreat_6 : decode cX12_isGreat 6 = .ok (.iload_n 0, 1) := by decide +kernel
theorem dX12_isGreat_7 : decode cX12_isGreat 7 = .ok (.bipush 90, 2) := by decide +kernel
theorem dX12_isGreat_9 : decode cX12_isGreat 9 = .ok (.if_icmp .gt 7, 3) := by decide +kernel
theorem dX12_isGreat_12 : decode cX12_isGreat 12 = .ok (.iconst 1, 1) := by decide +kernel
theorem dX12_isGreat_13 : decode cX12_isGreat 13 = .ok (.goto 4, 3) := by decide +kernel
theorem dX12_isGreat_16 : decode cX12_isGreat 16 = .ok (.iconst 0, 1) := by decide +kernel
theorem dX12_isGreat_17 : decode cX12_isGreat 17 = .ok (.ireturn, 1) := by decide +kernel
theorem dX12_isSmall_0 : decode cX12_isSmall 0 = .ok (.iload_n 0, 1) := by decide +kernel
theorem dX12_isSmall_1 : decode cX12_isSmall 1 = .ok (.bipush 97, 2) := by decide +kernel
theorem dX12_isSmall_3 : decode cX12_isSmall 3 = .ok (.if_icmp .lt 13, 3) := by decide +kernel
theorem dX12_isSmall_6 : decode cX12_isSmall 6 = .ok (.iload_n 0, 1) := by decide +kernel
theorem dX12_isSmall_7 : decode cX12_isSmall 7 = .ok (.bipush 122, 2) := by decide +kernel
theorem dX12_isSmall_9 : decode cX12_isSmall 9 = .ok (.if_icmp .gt 7, 3) := by decide +kernel
theorem dX12_isSmall_12 : decode cX12_isSmall 12 = .ok (.iconst 1, 1) := by decide +kernel
theorem dX12_isSmall_13 : decode cX12_isSmall 13 = .ok (.goto 4, 3) := by decide +kernel
theorem dX12_isSmall_16 : decode cX12_isSmall 16 = .ok (.iconst 0, 1) := by decide +kernel
theorem dX12_isSmall_17 : decode cX12_isSmall 17 = .ok (.ireturn, 1) := by decide +kernel
theorem dX12_fits_0 : decode cX12_fits 0 = .ok (.aload_n 0, 1) := by decide +kernel
theorem dX12_fits_1 : decode cX12_fits 1 = .ok (.getfield 39, 3) := by decide +kernel
theorem dX12_fits_4 : decode cX12_fits 4 = .ok (.iload_n 1, 1) := by decide +kernel
theorem dX12_fits_5 : decode cX12_fits 5 = .ok (.iaload, 1) := by decide +kernel
theorem dX12_fits_6 : decode cX12_fits 6 = .ok (.istore 5, 2) := by decide +kernel
theorem dX12_fits_8 : decode cX12_fits 8 = .ok (.iload 4, 2) := by decide +kernel
theorem dX12_fits_10 : decode cX12_fits 10 = .ok (.iload 5, 2) := by decide +kernel
theorem dX12_fits_12 : decode cX12_fits 12 = .ok (.iadd, 1) := by decide +kernel
theorem dX12_fits_13 : decode cX12_fits 13 = .ok (.iload_n 3, 1) := by decide +kernel
theorem dX12_fits_14 : decode cX12_fits 14 = .ok (.if_icmp .gt 7, 3) := by decide +kernel
theorem dX12_fits_17 : decode cX12_fits 17 = .ok (.iconst 1, 1) := by decide +kernel
theorem dX12_fits_18 : decode cX12_fits 18 = .ok (.goto 4, 3) := by decide +kernel
theorem dX12_fits_21 : decode cX12_fits 21 = .ok (.iconst 0, 1) := by decide +kernel
theorem dX12_fits_22 : decode cX12_fits 22 = .ok (.istore 6, 2) := by decide +kernel
theorem dX12_fits_24 : decode cX12_fits 24 = .ok (.iconst 0, 1) := by decide +kernel
theorem dX12_fits_25 : decode cX12_fits 25 = .ok (.istore 7, 2) := by decide +kernel
theorem dX12_fits_27 : decode cX12_fits 27 = .ok (.iload 7, 2) := by decide +kernel
theorem dX12_fits_29 : decode cX12_fits 29 = .ok (.iload 5, 2) := by decide +kernel
theorem dX12_fits_31 : decode cX12_fits 31 = .ok (.if_icmp .ge 46, 3) := by decide +kernel
theorem dX12_fits_34 : decode cX12_fits 34 = .ok (.iload 6, 2) := by decide +kernel
theorem dX12_fits_36 : decode cX12_fits 36 = .ok (.ifCond .eq 41, 3) := by decide +kernel
theorem dX12_fits_39 : decode cX12_fits 39 = .ok (.aload_n 0, 1) := by decide +kernel
theorem dX12_fits_40 : decode cX12_fits 40 = .ok (.getfield 46, 3) := by decide +kernel
theorem dX12_fits_43 : decode cX12_fits 43 = .ok (.bipush 8, 2) := by decide +kernel
theorem dX12_fits_45 : decode cX12_fits 45 = .ok (.iload_n 1, 1) := by decide +kernel
theorem dX12_fits_46 : decode cX12_fits 46 = .ok (.imul, 1) := by decide +kernel
theorem dX12_fits_47 : decode cX12_fits 47 = .ok (.iload 7, 2) := by decide +kernel
theorem dX12_fits_49 : decode cX12_fits 49 = .ok (.iadd, 1) := by decide +kernel
theorem dX12_fits_50 : decode cX12_fits 50 = .ok (.iaload, 1) := by decide +kernel
theorem dX12_fits_51 : decode cX12_fits 51 = .ok (.aload_n 0, 1) := by decide +kernel
theorem dX12_fits_52 : decode cX12_fits 52 = .ok (.getfield 61, 3) := by decide +kernel
theorem dX12_fits_55 : decode cX12_fits 55 = .ok (.iload 4, 2) := by decide +kernel
theorem dX12_fits_57 : decode cX12_fits 57 = .ok (.iload 7, 2) := by decide +kernel
theorem dX12_fits_59 : decode cX12_fits 59 = .ok (.iadd, 1) := by decide +kernel
theorem dX12_fits_60 : decode cX12_fits 60 = .ok (.iaload, 1) := by decide +kernel
theorem dX12_fits_61 : decode cX12_fits 61 = .ok (.if_icmp .ne 7, 3) := by decide +kernel
theorem dX12_fits_64 : decode cX12_fits 64 = .ok (.iconst 1, 1) := by decide +kernel
theorem dX12_fits_65 : decode cX12_fits 65 = .ok (.goto 4, 3) := by decide +kernel
theorem dX12_fits_68 : decode cX12_fits 68 = .ok (.iconst 0, 1) := by decide +kernel
theorem dX12_fits_69 : decode cX12_fits 69 = .ok (.istore 6, 2) := by decide +kernel
theorem dX12_fits_71 : decode cX12_fits 71 = .ok (.iinc 7 1, 3) := by decide +kernel
theorem dX12_fits_74 : decode cX12_fits 74 = .ok (.goto (-47), 3) := by decide +kernel
theorem dX12_fits_77 : decode cX12_fits 77 = .ok (.iload 6, 2) := by decide +kernel
theorem dX12_fits_79 : decode cX12_fits 79 = .ok (.ifCond .ne 5, 3) := by decide +kernel
theorem dX12_fits_82 : decode cX12_fits 82 = .ok (.iconst 0, 1) := by decide +kernel
theorem dX12_fits_83 : decode cX12_fits 83 = .ok (.ireturn, 1) := by decide +kernel
theorem dX12_fits_84 : decode cX12_fits 84 = .ok (.iload 4, 2) := by decide +kernel
theorem dX12_fits_86 : decode cX12_fits 86 = .ok (.iload_n 2, 1) := by decide +kernel
theorem dX12_fits_87 : decode cX12_fits 87 = .ok (.if_icmp .ne 7, 3) := by decide +kernel
theorem dX12_fits_90 : decode cX12_fits 90 = .ok (.iconst 1, 1) := by decide +kernel
theorem dX12_fits_91 : decode cX12_fits 91 = .ok (.goto 4, 3) := by decide +kernel
theorem dX12_fits_94 : decode cX12_fits 94 = .ok (.iconst 0, 1) := by decide +kernel
theorem dX12_fits_95 : decode cX12_fits 95 = .ok (.istore 7, 2) := by decide +kernel
theorem dX12_fits_97 : decode cX12_fits 97 = .ok (.iload 4, 2) := by decide +kernel
theorem dX12_fits_99 : decode cX12_fits 99 = .ok (.iload 5, 2) := by decide +kernel
theorem dX12_fits_101 : decode cX12_fits 101 = .ok (.iadd, 1) := by decide +kernel
theorem dX12_fits_102 : decode cX12_fits 102 = .ok (.iload_n 3, 1) := by decide +kernel
theorem dX12_fits_103 : decode cX12_fits 103 = .ok (.if_icmp .ne 7, 3) := by decide +kernel
theorem dX12_fits_106 : decode cX12_fits 106 = .ok (.iconst 1, 1) := by decide +kernel
theorem dX12_fits_107 : decode cX12_fits 107 = .ok (.goto 4, 3) := by decide +kernel
theorem dX12_fits_110 : decode cX12_fits 110 = .ok (.iconst 0, 1) := by decide +kernel
theorem dX12_fits_111 : decode cX12_fits 111 = .ok (.istore 8, 2) := by decide +kernel
theorem dX12_fits_113 : decode cX12_fits 113 = .ok (.aload_n 0, 1) := by decide +kernel
theorem dX12_fits_114 : decode cX12_fits 114 = .ok (.getfield 36, 3) := by decide +kernel
theorem dX12_fits_117 : decode cX12_fits 117 = .ok (.iload_n 1, 1) := by decide +kernel
theorem dX12_fits_118 : decode cX12_fits 118 = .ok (.iaload, 1) := by decide +kernel
theorem dX12_fits_119 : decode cX12_fits 119 = .ok (.tableswitch 73 0 4 #[33, 35, 38, 54, 57], 33) := by decide +kernel
theorem dX12_fits_152 : decode cX12_fits 152 = .ok (.iconst 1, 1) := by decide +kernel
theorem dX12_fits_153 : decode cX12_fits 153 = .ok (.ireturn, 1) := by decide +kernel
theorem dX12_fits_154 : decode cX12_fits 154 = .ok (.iload 7, 2) := by decide +kernel
theorem dX12_fits_156 : decode cX12_fits 156 = .ok (.ireturn, 1) := by decide +kernel
theorem dX12_fits_157 : decode cX12_fits 157 = .ok (.iload 7, 2) := by decide +kernel
theorem dX12_fits_159 : decode cX12_fits 159 = .ok (.ifCond .ne 12, 3) := by decide +kernel
theorem dX12_fits_162 : decode cX12_fits 162 = .ok (.iload 8, 2) := by decide +kernel
theorem dX12_fits_164 : decode cX12_fits 164 = .ok (.ifCond .ne 7, 3) := by decide +kernel
theorem dX12_fits_167 : decode cX12_fits 167 = .ok (.iconst 1, 1) := by decide +kernel
theorem dX12_fits_168 : decode cX12_fits 168 = .ok (.goto 4, 3) := by decide +kernel
theorem dX12_fits_171 : decode cX12_fits 171 = .ok (.iconst 0, 1) := by decide +kernel
theorem dX12_fits_172 : decode cX12_fits 172 = .ok (.ireturn, 1) := by decide +kernel
theorem dX12_fits_173 : decode cX12_fits 173 = .ok (.iload 8, 2) := by decide +kernel
theorem dX12_fits_175 : decode cX12_fits 175 = .ok (.ireturn, 1) := by decide +kernel
theorem dX12_fits_176 : decode cX12_fits 176 = .ok (.iload 7, 2) := by decide +kernel
theorem dX12_fits_178 : decode cX12_fits 178 = .ok (.ifCond .eq 12, 3) := by decide +kernel
theorem dX12_fits_181 : decode cX12_fits 181 = .ok (.iload 8, 2) := by decide +kernel
theorem dX12_fits_183 : decode cX12_fits 183 = .ok (.ifCond .eq 7, 3) := by decide +kernel
theorem dX12_fits_186 : decode cX12_fits 186 = .ok (.iconst 1, 1) := by decide +kernel
theorem dX12_fits_187 : decode cX12_fits 187 = .ok (.goto 4, 3) := by decide +kernel
theorem dX12_fits_190 : decode cX12_fits 190 = .ok (.iconst 0, 1) := by decide +kernel
theorem dX12_fits_191 : decode cX12_fits 191 = .ok (.ireturn, 1) := by decide +kernel
theorem dX12_fits_192 : decode cX12_fits 192 = .ok (.iload 8, 2) := by decide +kernel
theorem dX12_fits_194 : decode cX12_fits 194 = .ok (.ifCond .ne 55, 3) := by decide +kernel
theorem dX12_fits_197 : decode cX12_fits 197 = .ok (.aload_n 0, 1) := by decide +kernel
theorem dX12_fits_198 : decode cX12_fits 198 = .ok (.getfield 61, 3) := by decide +kernel
theorem dX12_fits_201 : decode cX12_fits 201 = .ok (.iload 4, 2) := by decide +kernel
theorem dX12_fits_203 : decode cX12_fits 203 = .ok (.iload 5, 2) := by decide +kernel
theorem dX12_fits_205 : decode cX12_fits 205 = .ok (.iadd, 1) := by decide +kernel
theorem dX12_fits_206 : decode cX12_fits 206 = .ok (.iaload, 1) := by decide +kernel
theorem dX12_fits_207 : decode cX12_fits 207 = .ok (.invokestatic 202, 3) := by decide +kernel
theorem dX12_fits_210 : decode cX12_fits 210 = .ok (.ifCond .ne 39, 3) := by decide +kernel
theorem dX12_fits_213 : decode cX12_fits 213 = .ok (.aload_n 0, 1) := by decide +kernel
theorem dX12_fits_214 : decode cX12_fits 214 = .ok (.getfield 61, 3) := by decide +kernel
theorem dX12_fits_217 : decode cX12_fits 217 = .ok (.iload 4, 2) := by decide +kernel
theorem dX12_fits_219 : decode cX12_fits 219 = .ok (.iload 5, 2) := by decide +kernel
theorem dX12_fits_221 : decode cX12_fits 221 = .ok (.iadd, 1) := by decide +kernel
theorem dX12_fits_222 : decode cX12_fits 222 = .ok (.iaload, 1) := by decide +kernel
theorem dX12_fits_223 : decode cX12_fits 223 = .ok (.invokestatic 205, 3) := by decide +kernel
theorem dX12_fits_226 : decode cX12_fits 226 = .ok (.ifCond .ne 23, 3) := by decide +kernel
theorem dX12_fits_229 : decode cX12_fits 229 = .ok (.aload_n 0, 1) := by decide +kernel
theorem dX12_fits_230 : decode cX12_fits 230 = .ok (.getfield 61, 3) := by decide +kernel
theorem dX12_fits_233 : decode cX12_fits 233 = .ok (.iload 4, 2) := by decide +kernel
theorem dX12_fits_235 : decode cX12_fits 235 = .ok (.iload 5, 2) := by decide +kernel
theorem dX12_fits_237 : decode cX12_fits 237 = .ok (.iadd, 1) := by decide +kernel
theorem dX12_fits_238 : decode cX12_fits 238 = .ok (.iaload, 1) := by decide +kernel
theorem dX12_fits_239 : decode cX12_fits 239 = .ok (.invokestatic 208, 3) := by decide +kernel
theorem dX12_fits_242 : decode cX12_fits 242 = .ok (.ifCond .ne 7, 3) := by decide +kernel
theorem dX12_fits_245 : decode cX12_fits 245 = .ok (.iconst 1, 1) := by decide +kernel
theorem dX12_fits_246 : decode cX12_fits 246 = .ok (.goto 4, 3) := by decide +kernel
theorem dX12_fits_249 : decode cX12_fits 249 = .ok (.iconst 0, 1) := by decide +kernel
theorem dX12_fits_250 : decode cX12_fits 250 = .ok (.ireturn, 1) := by decide +kernel
theorem dX12_own_0 : decode cX12_own 0 = .ok (.iconst (-1), 1) := by decide +kernel
theorem dX12_own_1 : decode cX12_own 1 = .ok (.istore 5, 2) := by decide +kernel
theorem dX12_own_3 : decode cX12_own 3 = .ok (.sipush 200, 3) := by decide +kernel
theorem dX12_own_6 : decode cX12_own 6 = .ok (.iload_n 1, 1) := by decide +kernel
theorem dX12_own_7 : decode cX12_own 7 = .ok (.imul, 1) := by decide +kernel
theorem dX12_own_8 : decode cX12_own 8 = .ok (.istore 6, 2) := by decide +kernel
theorem dX12_own_10 : decode cX12_own 10 = .ok (.iload 6, 2) := by decide +kernel
theorem dX12_own_12 : decode cX12_own 12 = .ok (.sipush 200, 3) := by decide +kernel
theorem dX12_own_15 : decode cX12_own 15 = .ok (.iload_n 1, 1) := by decide +kernel
theorem dX12_own_16 : decode cX12_own 16 = .ok (.imul, 1) := by decide +kernel
theorem dX12_own_17 : decode cX12_own 17 = .ok (.aload_n 0, 1) := by decide +kernel
theorem dX12_own_18 : decode cX12_own 18 = .ok (.getfield 33, 3) := by decide +kernel
theorem dX12_own_21 : decode cX12_own 21 = .ok (.iload_n 1, 1) := by decide +kernel
theorem dX12_own_22 : decode cX12_own 22 = .ok (.iaload, 1) := by decide +kernel
theorem dX12_own_23 : decode cX12_own 23 = .ok (.iadd, 1) := by decide +kernel
theorem dX12_own_24 : decode cX12_own 24 = .ok (.if_icmp .ge 48, 3) := by decide +kernel
theorem dX12_own_27 : decode cX12_own 27 = .ok (.iload 5, 2) := by decide +kernel
theorem dX12_own_29 : decode cX12_own 29 = .ok (.ifCond .lt 20, 3) := by decide +kernel
theorem dX12_own_32 : decode cX12_own 32 = .ok (.aload_n 0, 1) := by decide +kernel
theorem dX12_own_33 : decode cX12_own 33 = .ok (.getfield 39, 3) := by decide +kernel
theorem dX12_own_36 : decode cX12_own 36 = .ok (.iload 6, 2) := by decide +kernel
theorem dX12_own_38 : decode cX12_own 38 = .ok (.iaload, 1) := by decide +kernel
theorem dX12_own_39 : decode cX12_own 39 = .ok (.aload_n 0, 1) := by decide +kernel
theorem dX12_own_40 : decode cX12_own 40 = .ok (.getfield 39, 3) := by decide +kernel
theorem dX12_own_43 : decode cX12_own 43 = .ok (.iload 5, 2) := by decide +kernel
theorem dX12_own_45 : decode cX12_own 45 = .ok (.iaload, 1) := by decide +kernel
theorem dX12_own_46 : decode cX12_own 46 = .ok (.if_icmp .le 20, 3) := by decide +kernel
theorem dX12_own_49 : decode cX12_own 49 = .ok (.aload_n 0, 1) := by decide +kernel
theorem dX12_own_50 : decode cX12_own 50 = .ok (.iload 6, 2) := by decide +kernel
theorem dX12_own_52 : decode cX12_own 52 = .ok (.iload_n 2, 1) := by decide +kernel
theorem dX12_own_53 : decode cX12_own 53 = .ok (.iload_n 3, 1) := by decide +kernel
theorem dX12_own_54 : decode cX12_own 54 = .ok (.iload 4, 2) := by decide +kernel
theorem dX12_own_56 : decode cX12_own 56 = .ok (.invokevirtual 211, 3) := by decide +kernel
theorem dX12_own_59 : decode cX12_own 59 = .ok (.ifCond .eq 7, 3) := by decide +kernel
theorem dX12_own_62 : decode cX12_own 62 = .ok (.iload 6, 2) := by decide +kernel
theorem dX12_own_64 : decode cX12_own 64 = .ok (.istore 5, 2) := by decide +kernel
theorem dX12_own_66 : decode cX12_own 66 = .ok (.iinc 6 1, 3) := by decide +kernel
theorem dX12_own_69 : decode cX12_own 69 = .ok (.goto (-59), 3) := by decide +kernel
theorem dX12_own_72 : decode cX12_own 72 = .ok (.iload 5, 2) := by decide +kernel
theorem dX12_own_74 : decode cX12_own 74 = .ok (.ireturn, 1) := by decide +kernel
theorem dX12_find_0 : decode cX12_find 0 = .ok (.aload_n 0, 1) := by decide +kernel
theorem dX12_find_1 : decode cX12_find 1 = .ok (.getfield 76, 3) := by decide +kernel
theorem dX12_find_4 : decode cX12_find 4 = .ok (.aload_n 0, 1) := by decide +kernel
theorem dX12_find_5 : decode cX12_find 5 = .ok (.getfield 21, 3) := by decide +kernel
theorem dX12_find_8 : decode cX12_find 8 = .ok (.iload_n 1, 1) := by decide +kernel
theorem dX12_find_9 : decode cX12_find 9 = .ok (.iaload, 1) := by decide +kernel
theorem dX12_find_10 : decode cX12_find 10 = .ok (.dup2, 1) := by decide +kernel
theorem dX12_find_11 : decode cX12_find 11 = .ok (.iaload, 1) := by decide +kernel
theorem dX12_find_12 : decode cX12_find 12 = .ok (.iconst 1, 1) := by decide +kernel
theorem dX12_find_13 : decode cX12_find 13 = .ok (.iadd, 1) := by decide +kernel
theorem dX12_find_14 : decode cX12_find 14 = .ok (.iastore, 1) := by decide +kernel
theorem dX12_find_15 : decode cX12_find 15 = .ok (.aload_n 0, 1) := by decide +kernel
theorem dX12_find_16 : decode cX12_find 16 = .ok (.getfield 21, 3) := by decide +kernel
theorem dX12_find_19 : decode cX12_find 19 = .ok (.iload_n 1, 1) := by decide +kernel
theorem dX12_find_20 : decode cX12_find 20 = .ok (.iaload, 1) := by decide +kernel
theorem dX12_find_21 : decode cX12_find 21 = .ok (.tableswitch 152 1 3 #[27, 37, 85], 27) := by decide +kernel
theorem dX12_find_48 : decode cX12_find 48 = .ok (.aload_n 0, 1) := by decide +kernel
theorem dX12_find_49 : decode cX12_find 49 = .ok (.iload_n 1, 1) := by decide +kernel
theorem dX12_find_50 : decode cX12_find 50 = .ok (.iload_n 2, 1) := by decide +kernel
theorem dX12_find_51 : decode cX12_find 51 = .ok (.iload_n 3, 1) := by decide +kernel
theorem dX12_find_52 : decode cX12_find 52 = .ok (.iload 4, 2) := by decide +kernel
theorem dX12_find_54 : decode cX12_find 54 = .ok (.invokevirtual 215, 3) := by decide +kernel
theorem dX12_find_57 : decode cX12_find 57 = .ok (.ireturn, 1) := by decide +kernel
theorem dX12_find_58 : decode cX12_find 58 = .ok (.aload_n 0, 1) := by decide +kernel
theorem dX12_find_59 : decode cX12_find 59 = .ok (.getfield 61, 3) := by decide +kernel
theorem dX12_find_62 : decode cX12_find 62 = .ok (.iload 4, 2) := by decide +kernel
theorem dX12_find_64 : decode cX12_find 64 = .ok (.iaload, 1) := by decide +kernel
theorem dX12_find_65 : decode cX12_find 65 = .ok (.invokestatic 202, 3) := by decide +kernel
theorem dX12_find_68 : decode cX12_find 68 = .ok (.ifCond .ne 18, 3) := by decide +kernel
theorem dX12_find_71 : decode cX12_find 71 = .ok (.aload_n 0, 1) := by decide +kernel
theorem dX12_find_72 : decode cX12_find 72 = .ok (.aload_n 0, 1) := by decide +kernel
theorem dX12_find_73 : decode cX12_find 73 = .ok (.getfield 27, 3) := by decide +kernel
theorem dX12_find_76 : decode cX12_find 76 = .ok (.iload_n 1, 1) := by decide +kernel
theorem dX12_find_77 : decode cX12_find 77 = .ok (.iaload, 1) := by decide +kernel
theorem dX12_find_78 : decode cX12_find 78 = .ok (.iload_n 2, 1) := by decide +kernel
theorem dX12_find_79 : decode cX12_find 79 = .ok (.iload_n 3, 1) := by decide +kernel
theorem dX12_find_80 : decode cX12_find 80 = .ok (.iload 4, 2) := by decide +kernel
theorem dX12_find_82 : decode cX12_find 82 = .ok (.invokevirtual 218, 3) := by decide +kernel
theorem dX12_find_85 : decode cX12_find 85 = .ok (.ireturn, 1) := by decide +kernel
theorem dX12_find_86 : decode cX12_find 86 = .ok (.aload_n 0, 1) := by decide +kernel
theorem dX12_find_87 : decode cX12_find 87 = .ok (.getfield 76, 3) := by decide +kernel
theorem dX12_find_90 : decode cX12_find 90 = .ok (.iconst 0, 1) := by decide +kernel
theorem dX12_find_91 : decode cX12_find 91 = .ok (.dup2, 1) := by decide +kernel
theorem dX12_find_92 : decode cX12_find 92 = .ok (.iaload, 1) := by decide +kernel
theorem dX12_find_93 : decode cX12_find 93 = .ok (.iconst 1, 1) := by decide +kernel
theorem dX12_find_94 : decode cX12_find 94 = .ok (.iadd, 1) := by decide +kernel
theorem dX12_find_95 : decode cX12_find 95 = .ok (.iastore, 1) := by decide +kernel
theorem dX12_find_96 : decode cX12_find 96 = .ok (.aload_n 0, 1) := by decide +kernel
theorem dX12_find_97 : decode cX12_find 97 = .ok (.iload_n 1, 1) := by decide +kernel
theorem dX12_find_98 : decode cX12_find 98 = .ok (.iload_n 2, 1) := by decide +kernel
theorem dX12_find_99 : decode cX12_find 99 = .ok (.iload_n 3, 1) := by decide +kernel
theorem dX12_find_100 : decode cX12_find 100 = .ok (.iload 4, 2) := by decide +kernel
theorem dX12_find_102 : decode cX12_find 102 = .ok (.invokevirtual 221, 3) := by decide +kernel
theorem dX12_find_105 : decode cX12_find 105 = .ok (.ireturn, 1) := by decide +kernel
theorem dX12_find_106 : decode cX12_find 106 = .ok (.aload_n 0, 1) := by decide +kernel
theorem dX12_find_107 : decode cX12_find 107 = .ok (.getfield 76, 3) := by decide +kernel
theorem dX12_find_110 : decode cX12_find 110 = .ok (.iconst 1, 1) := by decide +kernel
theorem dX12_find_111 : decode cX12_find 111 = .ok (.dup2, 1) := by decide +kernel
theorem dX12_find_112 : decode cX12_find 112 = .ok (.iaload, 1) := by decide +kernel
theorem dX12_find_113 : decode cX12_find 113 = .ok (.iconst 1, 1) := by decide +kernel
theorem dX12_find_114 : decode cX12_find 114 = .ok (.iadd, 1) := by decide +kernel
theorem dX12_find_115 : decode cX12_find 115 = .ok (.iastore, 1) := by decide +kernel
theorem dX12_find_116 : decode cX12_find 116 = .ok (.aload_n 0, 1) := by decide +kernel
theorem dX12_find_117 : decode cX12_find 117 = .ok (.getfield 61, 3) := by decide +kernel
theorem dX12_find_120 : decode cX12_find 120 = .ok (.iload 4, 2) := by decide +kernel
theorem dX12_find_122 : decode cX12_find 122 = .ok (.iaload, 1) := by decide +kernel
theorem dX12_find_123 : decode cX12_find 123 = .ok (.istore 5, 2) := by decide +kernel
theorem dX12_find_125 : decode cX12_find 125 = .ok (.aload_n 0, 1) := by decide +kernel
theorem dX12_find_126 : decode cX12_find 126 = .ok (.getfield 61, 3) := by decide +kernel
theorem dX12_find_129 : decode cX12_find 129 = .ok (.iload 4, 2) := by decide +kernel
theorem dX12_find_131 : decode cX12_find 131 = .ok (.iload 5, 2) := by decide +kernel
theorem dX12_find_133 : decode cX12_find 133 = .ok (.invokestatic 205, 3) := by decide +kernel
theorem dX12_find_136 : decode cX12_find 136 = .ok (.ifCond .eq 11, 3) := by decide +kernel
theorem dX12_find_139 : decode cX12_find 139 = .ok (.iload 5, 2) := by decide +kernel
theorem dX12_find_141 : decode cX12_find 141 = .ok (.bipush 32, 2) := by decide +kernel
theorem dX12_find_143 : decode cX12_find 143 = .ok (.iadd, 1) := by decide +kernel
theorem dX12_find_144 : decode cX12_find 144 = .ok (.goto 5, 3) := by decide +kernel
theorem dX12_find_147 : decode cX12_find 147 = .ok (.iload 5, 2) := by decide +kernel
theorem dX12_find_149 : decode cX12_find 149 = .ok (.iastore, 1) := by decide +kernel
theorem dX12_find_150 : decode cX12_find 150 = .ok (.aload_n 0, 1) := by decide +kernel
theorem dX12_find_151 : decode cX12_find 151 = .ok (.iload_n 1, 1) := by decide +kernel
theorem dX12_find_152 : decode cX12_find 152 = .ok (.iload_n 2, 1) := by decide +kernel
theorem dX12_find_153 : decode cX12_find 153 = .ok (.iload_n 3, 1) := by decide +kernel
theorem dX12_find_154 : decode cX12_find 154 = .ok (.iload 4, 2) := by decide +kernel
theorem dX12_find_156 : decode cX12_find 156 = .ok (.invokevirtual 215, 3) := by decide +kernel
theorem dX12_find_159 : decode cX12_find 159 = .ok (.istore 6, 2) := by decide +kernel
theorem dX12_find_161 : decode cX12_find 161 = .ok (.aload_n 0, 1) := by decide +kernel
theorem dX12_find_162 : decode cX12_find 162 = .ok (.getfield 61, 3) := by decide +kernel
theorem dX12_find_165 : decode cX12_find 165 = .ok (.iload 4, 2) := by decide +kernel
theorem dX12_find_167 : decode cX12_find 167 = .ok (.iload 5, 2) := by decide +kernel
theorem dX12_find_169 : decode cX12_find 169 = .ok (.iastore, 1) := by decide +kernel
theorem dX12_find_170 : decode cX12_find 170 = .ok (.iload 6, 2) := by decide +kernel
theorem dX12_find_172 : decode cX12_find 172 = .ok (.ireturn, 1) := by decide +kernel
theorem dX12_find_173 : decode cX12_find 173 = .ok (.aload_n 0, 1) := by decide +kernel
theorem dX12_find_174 : decode cX12_find 174 = .ok (.iload_n 1, 1) := by decide +kernel
theorem dX12_find_175 : decode cX12_find 175 = .ok (.iload_n 2, 1) := by decide +kernel
theorem dX12_find_176 : decode cX12_find 176 = .ok (.iload_n 3, 1) := by decide +kernel
theorem dX12_find_177 : decode cX12_find 177 = .ok (.iload 4, 2) := by decide +kernel
theorem dX12_find_179 : decode cX12_find 179 = .ok (.invokevirtual 221, 3) := by decide +kernel
theorem dX12_find_182 : decode cX12_find 182 = .ok (.ireturn, 1) := by decide +kernel
theorem dX12_contracted_0 : decode cX12_contracted 0 = .ok (.aload_n 0, 1) := by decide +kernel
theorem dX12_contracted_1 : decode cX12_contracted 1 = .ok (.getfield 76, 3) := by decide +kernel
theorem dX12_contracted_4 : decode cX12_contracted 4 = .ok (.iconst 0, 1) := by decide +kernel
theorem dX12_contracted_5 : decode cX12_contracted 5 = .ok (.dup2, 1) := by decide +kernel
theorem dX12_contracted_6 : decode cX12_contracted 6 = .ok (.iaload, 1) := by decide +kernel
theorem dX12_contracted_7 : decode cX12_contracted 7 = .ok (.iconst 1, 1) := by decide +kernel
theorem dX12_contracted_8 : decode cX12_contracted 8 = .ok (.iadd, 1) := by decide +kernel
theorem dX12_contracted_9 : decode cX12_contracted 9 = .ok (.iastore, 1) := by decide +kernel
theorem dX12_contracted_10 : decode cX12_contracted 10 = .ok (.aload_n 0, 1) := by decide +kernel
theorem dX12_contracted_11 : decode cX12_contracted 11 = .ok (.iload_n 1, 1) := by decide +kernel
theorem dX12_contracted_12 : decode cX12_contracted 12 = .ok (.iload_n 2, 1) := by decide +kernel
theorem dX12_contracted_13 : decode cX12_contracted 13 = .ok (.iload_n 3, 1) := by decide +kernel
theorem dX12_contracted_14 : decode cX12_contracted 14 = .ok (.iload 4, 2) := by decide +kernel
theorem dX12_contracted_16 : decode cX12_contracted 16 = .ok (.invokevirtual 221, 3) := by decide +kernel
theorem dX12_contracted_19 : decode cX12_contracted 19 = .ok (.istore 5, 2) := by decide +kernel
theorem dX12_contracted_21 : decode cX12_contracted 21 = .ok (.aload_n 0, 1) := by decide +kernel
theorem dX12_contracted_22 : decode cX12_contracted 22 = .ok (.aload_n 0, 1) := by decide +kernel
theorem dX12_contracted_23 : decode cX12_contracted 23 = .ok (.getfield 27, 3) := by decide +kernel
theorem dX12_contracted_26 : decode cX12_contracted 26 = .ok (.iload_n 1, 1) := by decide +kernel
theorem dX12_contracted_27 : decode cX12_contracted 27 = .ok (.iaload, 1) := by decide +kernel
theorem dX12_contracted_28 : decode cX12_contracted 28 = .ok (.iload_n 2, 1) := by decide +kernel
theorem dX12_contracted_29 : decode cX12_contracted 29 = .ok (.iload_n 3, 1) := by decide +kernel
theorem dX12_contracted_30 : decode cX12_contracted 30 = .ok (.iload 4, 2) := by decide +kernel
theorem dX12_contracted_32 : decode cX12_contracted 32 = .ok (.invokevirtual 218, 3) := by decide +kernel
theorem dX12_contracted_35 : decode cX12_contracted 35 = .ok (.istore 6, 2) := by decide +kernel
theorem dX12_contracted_37 : decode cX12_contracted 37 = .ok (.iload 5, 2) := by decide +kernel
theorem dX12_contracted_39 : decode cX12_contracted 39 = .ok (.ifCond .lt 25, 3) := by decide +kernel
theorem dX12_contracted_42 : decode cX12_contracted 42 = .ok (.iload 6, 2) := by decide +kernel
theorem dX12_contracted_44 : decode cX12_contracted 44 = .ok (.ifCond .lt 25, 3) := by decide +kernel
theorem dX12_contracted_47 : decode cX12_contracted 47 = .ok (.aload_n 0, 1) := by decide +kernel
theorem dX12_contracted_48 : decode cX12_contracted 48 = .ok (.getfield 39, 3) := by decide +kernel
theorem dX12_contracted_51 : decode cX12_contracted 51 = .ok (.iload 6, 2) := by decide +kernel
theorem dX12_contracted_53 : decode cX12_contracted 53 = .ok (.iaload, 1) := by decide +kernel
theorem dX12_contracted_54 : decode cX12_contracted 54 = .ok (.aload_n 0, 1) := by decide +kernel
theorem dX12_contracted_55 : decode cX12_contracted 55 = .ok (.getfield 39, 3) := by decide +kernel
theorem dX12_contracted_58 : decode cX12_contracted 58 = .ok (.iload 5, 2) := by decide +kernel
theorem dX12_contracted_60 : decode cX12_contracted 60 = .ok (.iaload, 1) := by decide +kernel
theorem dX12_contracted_61 : decode cX12_contracted 61 = .ok (.if_icmp .le 8, 3) := by decide +kernel
theorem dX12_contracted_64 : decode cX12_contracted 64 = .ok (.iload 6, 2) := by decide +kernel
theorem dX12_contracted_66 : decode cX12_contracted 66 = .ok (.goto 5, 3) := by decide +kernel
theorem dX12_contracted_69 : decode cX12_contracted 69 = .ok (.iload 5, 2) := by decide +kernel
theorem dX12_contracted_71 : decode cX12_contracted 71 = .ok (.ireturn, 1) := by decide +kernel
theorem dX12_putIndicator_0 : decode cX12_putIndicator 0 = .ok (.iconst 4, 1) := by decide +kernel
theorem dX12_putIndicator_1 : decode cX12_putIndicator 1 = .ok (.iload_n 1, 1) := by decide +kernel
theorem dX12_putIndicator_2 : decode cX12_putIndicator 2 = .ok (.imul, 1) := by decide +kernel
theorem dX12_putIndicator_3 : decode cX12_putIndicator 3 = .ok (.iload_n 2, 1) := by decide +kernel
theorem dX12_putIndicator_4 : decode cX12_putIndicator 4 = .ok (.iadd, 1) := by decide +kernel
theorem dX12_putIndicator_5 : decode cX12_putIndicator 5 = .ok (.istore_n 3, 1) := by decide +kernel
theorem dX12_putIndicator_6 : decode cX12_putIndicator 6 = .ok (.iconst 0, 1) := by decide +kernel
theorem dX12_putIndicator_7 : decode cX12_putIndicator 7 = .ok (.istore 4, 2) := by decide +kernel
theorem dX12_putIndicator_9 : decode cX12_putIndicator 9 = .ok (.iload 4, 2) := by decide +kernel
theorem dX12_putIndicator_11 : decode cX12_putIndicator 11 = .ok (.aload_n 0, 1) := by decide +kernel
theorem dX12_putIndicator_12 : decode cX12_putIndicator 12 = .ok (.getfield 52, 3) := by decide +kernel
theorem dX12_putIndicator_15 : decode cX12_putIndicator 15 = .ok (.iload_n 3, 1) := by decide +kernel
theorem dX12_putIndicator_16 : decode cX12_putIndicator 16 = .ok (.iaload, 1) := by decide +kernel
theorem dX12_putIndicator_17 : decode cX12_putIndicator 17 = .ok (.if_icmp .ge 32, 3) := by decide +kernel
theorem dX12_putIndicator_20 : decode cX12_putIndicator 20 = .ok (.aload_n 0, 1) := by decide +kernel
theorem dX12_putIndicator_21 : decode cX12_putIndicator 21 = .ok (.getfield 70, 3) := by decide +kernel
theorem dX12_putIndicator_24 : decode cX12_putIndicator 24 = .ok (.aload_n 0, 1) := by decide +kernel
theorem dX12_putIndicator_25 : decode cX12_putIndicator 25 = .ok (.getfield 224, 3) := by decide +kernel
theorem dX12_putIndicator_28 : decode cX12_putIndicator 28 = .ok (.iload 4, 2) := by decide +kernel
theorem dX12_putIndicator_30 : decode cX12_putIndicator 30 = .ok (.iadd, 1) := by decide +kernel
theorem dX12_putIndicator_31 : decode cX12_putIndicator 31 = .ok (.aload_n 0, 1) := by decide +kernel
theorem dX12_putIndicator_32 : decode cX12_putIndicator 32 = .ok (.getfield 55, 3) := by decide +kernel
theorem dX12_putIndicator_35 : decode cX12_putIndicator 35 = .ok (.iconst 4, 1) := by decide +kernel
theorem dX12_putIndicator_36 : decode cX12_putIndicator 36 = .ok (.iload_n 3, 1) := by decide +kernel
theorem dX12_putIndicator_37 : decode cX12_putIndicator 37 = .ok (.imul, 1) := by decide +kernel
theorem dX12_putIndicator_38 : decode cX12_putIndicator 38 = .ok (.iload 4, 2) := by decide +kernel
theorem dX12_putIndicator_40 : decode cX12_putIndicator 40 = .ok (.iadd, 1) := by decide +kernel
theorem dX12_putIndicator_41 : decode cX12_putIndicator 41 = .ok (.iaload, 1) := by decide +kernel
theorem dX12_putIndicator_42 : decode cX12_putIndicator 42 = .ok (.iastore, 1) := by decide +kernel
theorem dX12_putIndicator_43 : decode cX12_putIndicator 43 = .ok (.iinc 4 1, 3) := by decide +kernel
theorem dX12_putIndicator_46 : decode cX12_putIndicator 46 = .ok (.goto (-37), 3) := by decide +kernel
theorem dX12_putIndicator_49 : decode cX12_putIndicator 49 = .ok (.aload_n 0, 1) := by decide +kernel
theorem dX12_putIndicator_50 : decode cX12_putIndicator 50 = .ok (.dup, 1) := by decide +kernel
theorem dX12_putIndicator_51 : decode cX12_putIndicator 51 = .ok (.getfield 224, 3) := by decide +kernel
theorem dX12_putIndicator_54 : decode cX12_putIndicator 54 = .ok (.aload_n 0, 1) := by decide +kernel
theorem dX12_putIndicator_55 : decode cX12_putIndicator 55 = .ok (.getfield 52, 3) := by decide +kernel
theorem dX12_putIndicator_58 : decode cX12_putIndicator 58 = .ok (.iload_n 3, 1) := by decide +kernel
theorem dX12_putIndicator_59 : decode cX12_putIndicator 59 = .ok (.iaload, 1) := by decide +kernel
theorem dX12_putIndicator_60 : decode cX12_putIndicator 60 = .ok (.iadd, 1) := by decide +kernel
theorem dX12_putIndicator_61 : decode cX12_putIndicator 61 = .ok (.putfield 224, 3) := by decide +kernel
theorem dX12_putIndicator_64 : decode cX12_putIndicator 64 = .ok (.return_, 1) := by decide +kernel
theorem dX12_setPart_0 : decode cX12_setPart 0 = .ok (.iload_n 2, 1) := by decide +kernel
theorem dX12_setPart_1 : decode cX12_setPart 1 = .ok (.istore 4, 2) := by decide +kernel
theorem dX12_setPart_3 : decode cX12_setPart 3 = .ok (.iload 4, 2) := by decide +kernel
theorem dX12_setPart_5 : decode cX12_setPart 5 = .ok (.iload_n 3, 1) := by decide +kernel
theorem dX12_setPart_6 : decode cX12_setPart 6 = .ok (.if_icmp .ge 272, 3) := by decide +kernel
theorem dX12_setPart_9 : decode cX12_setPart 9 = .ok (.aload_n 0, 1) := by decide +kernel
theorem dX12_setPart_10 : decode cX12_setPart 10 = .ok (.getfield 61, 3) := by decide +kernel
theorem dX12_setPart_13 : decode cX12_setPart 13 = .ok (.iload 4, 2) := by decide +kernel
theorem dX12_setPart_15 : decode cX12_setPart 15 = .ok (.iaload, 1) := by decide +kernel
theorem dX12_setPart_16 : decode cX12_setPart 16 = .ok (.istore 5, 2) := by decide +kernel
theorem dX12_setPart_18 : decode cX12_setPart 18 = .ok (.aload_n 0, 1) := by decide +kernel
theorem dX12_setPart_19 : decode cX12_setPart 19 = .ok (.getfield 73, 3) := by decide +kernel
theorem dX12_setPart_22 : decode cX12_setPart 22 = .ok (.iload 4, 2) := by decide +kernel
theorem dX12_setPart_24 : decode cX12_setPart 24 = .ok (.aload_n 0, 1) := by decide +kernel
theorem dX12_setPart_25 : decode cX12_setPart 25 = .ok (.getfield 224, 3) := by decide +kernel
theorem dX12_setPart_28 : decode cX12_setPart 28 = .ok (.iastore, 1) := by decide +kernel
theorem dX12_setPart_29 : decode cX12_setPart 29 = .ok (.aload_n 0, 1) := by decide +kernel
theorem dX12_setPart_30 : decode cX12_setPart 30 = .ok (.getfield 21, 3) := by decide +kernel
theorem dX12_setPart_33 : decode cX12_setPart 33 = .ok (.iload_n 1, 1) := by decide +kernel
theorem dX12_setPart_34 : decode cX12_setPart 34 = .ok (.iaload, 1) := by decide +kernel
theorem dX12_setPart_35 : decode cX12_setPart 35 = .ok (.iconst 2, 1) := by decide +kernel
theorem dX12_setPart_36 : decode cX12_setPart 36 = .ok (.if_icmp .ne 38, 3) := by decide +kernel
theorem dX12_setPart_39 : decode cX12_setPart 39 = .ok (.iload 5, 2) := by decide +kernel
theorem dX12_setPart_41 : decode cX12_setPart 41 = .ok (.invokestatic 202, 3) := by decide +kernel
theorem dX12_setPart_44 : decode cX12_setPart 44 = .ok (.ifCond .eq 30, 3) := by decide +kernel
theorem dX12_setPart_47 : decode cX12_setPart 47 = .ok (.iload 4, 2) := by decide +kernel
theorem dX12_setPart_49 : decode cX12_setPart 49 = .ok (.iload_n 2, 1) := by decide +kernel
theorem dX12_setPart_50 : decode cX12_setPart 50 = .ok (.if_icmp .eq 18, 3) := by decide +kernel
theorem dX12_setPart_53 : decode cX12_setPart 53 = .ok (.aload_n 0, 1) := by decide +kernel
theorem dX12_setPart_54 : decode cX12_setPart 54 = .ok (.getfield 61, 3) := by decide +kernel
theorem dX12_setPart_57 : decode cX12_setPart 57 = .ok (.iload 4, 2) := by decide +kernel
theorem dX12_setPart_59 : decode cX12_setPart 59 = .ok (.iconst 1, 1) := by decide +kernel
theorem dX12_setPart_60 : decode cX12_setPart 60 = .ok (.isub, 1) := by decide +kernel
theorem dX12_setPart_61 : decode cX12_setPart 61 = .ok (.iaload, 1) := by decide +kernel
theorem dX12_setPart_62 : decode cX12_setPart 62 = .ok (.invokestatic 202, 3) := by decide +kernel
theorem dX12_setPart_65 : decode cX12_setPart 65 = .ok (.ifCond .ne 9, 3) := by decide +kernel
theorem dX12_setPart_68 : decode cX12_setPart 68 = .ok (.aload_n 0, 1) := by decide +kernel
theorem dX12_setPart_69 : decode cX12_setPart 69 = .ok (.iload_n 1, 1) := by decide +kernel
theorem dX12_setPart_70 : decode cX12_setPart 70 = .ok (.iconst 1, 1) := by decide +kernel
theorem dX12_setPart_71 : decode cX12_setPart 71 = .ok (.invokevirtual 227, 3) := by decide +kernel
theorem dX12_setPart_74 : decode cX12_setPart 74 = .ok (.aload_n 0, 1) := by decide +kernel
theorem dX12_setPart_75 : decode cX12_setPart 75 = .ok (.iload_n 1, 1) := by decide +kernel
theorem dX12_setPart_76 : decode cX12_setPart 76 = .ok (.iload_n 2, 1) := by decide +kernel
theorem dX12_setPart_77 : decode cX12_setPart 77 = .ok (.iload_n 3, 1) := by decide +kernel
theorem dX12_setPart_78 : decode cX12_setPart 78 = .ok (.iload 4, 2) := by decide +kernel
theorem dX12_setPart_80 : decode cX12_setPart 80 = .ok (.invokevirtual 218, 3) := by decide +kernel
theorem dX12_setPart_83 : decode cX12_setPart 83 = .ok (.istore 6, 2) := by decide +kernel
theorem dX12_setPart_85 : decode cX12_setPart 85 = .ok (.iload 6, 2) := by decide +kernel
theorem dX12_setPart_87 : decode cX12_setPart 87 = .ok (.ifCond .ge 72, 3) := by decide +kernel
theorem dX12_setPart_90 : decode cX12_setPart 90 = .ok (.aload_n 0, 1) := by decide +kernel
theorem dX12_setPart_91 : decode cX12_setPart 91 = .ok (.getfield 21, 3) := by decide +kernel
theorem dX12_setPart_94 : decode cX12_setPart 94 = .ok (.iload_n 1, 1) := by decide +kernel
theorem dX12_setPart_95 : decode cX12_setPart 95 = .ok (.iaload, 1) := by decide +kernel
theorem dX12_setPart_96 : decode cX12_setPart 96 = .ok (.iconst 2, 1) := by decide +kernel
theorem dX12_setPart_97 : decode cX12_setPart 97 = .ok (.if_icmp .gt 62, 3) := by decide +kernel
theorem dX12_setPart_100 : decode cX12_setPart 100 = .ok (.iload 5, 2) := by decide +kernel
theorem dX12_setPart_102 : decode cX12_setPart 102 = .ok (.invokestatic 205, 3) := by decide +kernel
theorem dX12_setPart_105 : decode cX12_setPart 105 = .ok (.ifCond .eq 54, 3) := by decide +kernel
theorem dX12_setPart_108 : decode cX12_setPart 108 = .ok (.aload_n 0, 1) := by decide +kernel
theorem dX12_setPart_109 : decode cX12_setPart 109 = .ok (.getfield 52, 3) := by decide +kernel
theorem dX12_setPart_112 : decode cX12_setPart 112 = .ok (.iconst 4, 1) := by decide +kernel
theorem dX12_setPart_113 : decode cX12_setPart 113 = .ok (.iload_n 1, 1) := by decide +kernel
theorem dX12_setPart_114 : decode cX12_setPart 114 = .ok (.imul, 1) := by decide +kernel
theorem dX12_setPart_115 : decode cX12_setPart 115 = .ok (.iconst 0, 1) := by decide +kernel
theorem dX12_setPart_116 : decode cX12_setPart 116 = .ok (.iadd, 1) := by decide +kernel
theorem dX12_setPart_117 : decode cX12_setPart 117 = .ok (.iaload, 1) := by decide +kernel
theorem dX12_setPart_118 : decode cX12_setPart 118 = .ok (.ifCond .le 41, 3) := by decide +kernel
theorem dX12_setPart_121 : decode cX12_setPart 121 = .ok (.aload_n 0, 1) := by decide +kernel
theorem dX12_setPart_122 : decode cX12_setPart 122 = .ok (.iload_n 1, 1) := by decide +kernel
theorem dX12_setPart_123 : decode cX12_setPart 123 = .ok (.iconst 0, 1) := by decide +kernel
theorem dX12_setPart_124 : decode cX12_setPart 124 = .ok (.invokevirtual 227, 3) := by decide +kernel
theorem dX12_setPart_127 : decode cX12_setPart 127 = .ok (.aload_n 0, 1) := by decide +kernel
theorem dX12_setPart_128 : decode cX12_setPart 128 = .ok (.getfield 61, 3) := by decide +kernel
theorem dX12_setPart_131 : decode cX12_setPart 131 = .ok (.iload 4, 2) := by decide +kernel
theorem dX12_setPart_133 : decode cX12_setPart 133 = .ok (.iload 5, 2) := by decide +kernel
theorem dX12_setPart_135 : decode cX12_setPart 135 = .ok (.bipush 32, 2) := by decide +kernel
theorem dX12_setPart_137 : decode cX12_setPart 137 = .ok (.iadd, 1) := by decide +kernel
theorem dX12_setPart_138 : decode cX12_setPart 138 = .ok (.iastore, 1) := by decide +kernel
theorem dX12_setPart_139 : decode cX12_setPart 139 = .ok (.aload_n 0, 1) := by decide +kernel
theorem dX12_setPart_140 : decode cX12_setPart 140 = .ok (.iload_n 1, 1) := by decide +kernel
theorem dX12_setPart_141 : decode cX12_setPart 141 = .ok (.iload_n 2, 1) := by decide +kernel
theorem dX12_setPart_142 : decode cX12_setPart 142 = .ok (.iload_n 3, 1) := by decide +kernel
theorem dX12_setPart_143 : decode cX12_setPart 143 = .ok (.iload 4, 2) := by decide +kernel
theorem dX12_setPart_145 : decode cX12_setPart 145 = .ok (.invokevirtual 218, 3) := by decide +kernel
theorem dX12_setPart_148 : decode cX12_setPart 148 = .ok (.istore 6, 2) := by decide +kernel
theorem dX12_setPart_150 : decode cX12_setPart 150 = .ok (.aload_n 0, 1) := by decide +kernel
theorem dX12_setPart_151 : decode cX12_setPart 151 = .ok (.getfield 61, 3) := by decide +kernel
theorem dX12_setPart_154 : decode cX12_setPart 154 = .ok (.iload 4, 2) := by decide +kernel
theorem dX12_setPart_156 : decode cX12_setPart 156 = .ok (.iload 5, 2) := by decide +kernel
theorem dX12_setPart_158 : decode cX12_setPart 158 = .ok (.iastore, 1) := by decide +kernel
theorem dX12_setPart_159 : decode cX12_setPart 159 = .ok (.iload 6, 2) := by decide +kernel
theorem dX12_setPart_161 : decode cX12_setPart 161 = .ok (.ifCond .ge 16, 3) := by decide +kernel
theorem dX12_setPart_164 : decode cX12_setPart 164 = .ok (.aload_n 0, 1) := by decide +kernel
theorem dX12_setPart_165 : decode cX12_setPart 165 = .ok (.aload_n 0, 1) := by decide +kernel
theorem dX12_setPart_166 : decode cX12_setPart 166 = .ok (.getfield 64, 3) := by decide +kernel
theorem dX12_setPart_169 : decode cX12_setPart 169 = .ok (.iload 4, 2) := by decide +kernel
theorem dX12_setPart_171 : decode cX12_setPart 171 = .ok (.iaload, 1) := by decide +kernel
theorem dX12_setPart_172 : decode cX12_setPart 172 = .ok (.putfield 231, 3) := by decide +kernel
theorem dX12_setPart_175 : decode cX12_setPart 175 = .ok (.iconst 0, 1) := by decide +kernel
theorem dX12_setPart_176 : decode cX12_setPart 176 = .ok (.ireturn, 1) := by decide +kernel
theorem dX12_setPart_177 : decode cX12_setPart 177 = .ok (.aload_n 0, 1) := by decide +kernel
theorem dX12_setPart_178 : decode cX12_setPart 178 = .ok (.getfield 224, 3) := by decide +kernel
theorem dX12_setPart_181 : decode cX12_setPart 181 = .ok (.aload_n 0, 1) := by decide +kernel
theorem dX12_setPart_182 : decode cX12_setPart 182 = .ok (.getfield 42, 3) := by decide +kernel
theorem dX12_setPart_185 : decode cX12_setPart 185 = .ok (.iload 6, 2) := by decide +kernel
theorem dX12_setPart_187 : decode cX12_setPart 187 = .ok (.iaload, 1) := by decide +kernel
theorem dX12_setPart_188 : decode cX12_setPart 188 = .ok (.iadd, 1) := by decide +kernel
theorem dX12_setPart_189 : decode cX12_setPart 189 = .ok (.sipush 200, 3) := by decide +kernel
theorem dX12_setPart_192 : decode cX12_setPart 192 = .ok (.if_icmp .le 10, 3) := by decide +kernel
theorem dX12_setPart_195 : decode cX12_setPart 195 = .ok (.aload_n 0, 1) := by decide +kernel
theorem dX12_setPart_196 : decode cX12_setPart 196 = .ok (.iconst (-1), 1) := by decide +kernel
theorem dX12_setPart_197 : decode cX12_setPart 197 = .ok (.putfield 231, 3) := by decide +kernel
theorem dX12_setPart_200 : decode cX12_setPart 200 = .ok (.iconst 0, 1) := by decide +kernel
theorem dX12_setPart_201 : decode cX12_setPart 201 = .ok (.ireturn, 1) := by decide +kernel
theorem dX12_setPart_202 : decode cX12_setPart 202 = .ok (.iconst 0, 1) := by decide +kernel
theorem dX12_setPart_203 : decode cX12_setPart 203 = .ok (.istore 7, 2) := by decide +kernel
theorem dX12_setPart_205 : decode cX12_setPart 205 = .ok (.iload 7, 2) := by decide +kernel
theorem dX12_setPart_207 : decode cX12_setPart 207 = .ok (.aload_n 0, 1) := by decide +kernel
theorem dX12_setPart_208 : decode cX12_setPart 208 = .ok (.getfield 42, 3) := by decide +kernel
theorem dX12_setPart_211 : decode cX12_setPart 211 = .ok (.iload 6, 2) := by decide +kernel
theorem dX12_setPart_213 : decode cX12_setPart 213 = .ok (.iaload, 1) := by decide +kernel
theorem dX12_setPart_214 : decode cX12_setPart 214 = .ok (.if_icmp .ge 33, 3) := by decide +kernel
theorem dX12_setPart_217 : decode cX12_setPart 217 = .ok (.aload_n 0, 1) := by decide +kernel
theorem dX12_setPart_218 : decode cX12_setPart 218 = .ok (.getfield 70, 3) := by decide +kernel
theorem dX12_setPart_221 : decode cX12_setPart 221 = .ok (.aload_n 0, 1) := by decide +kernel
theorem dX12_setPart_222 : decode cX12_setPart 222 = .ok (.getfield 224, 3) := by decide +kernel
theorem dX12_setPart_225 : decode cX12_setPart 225 = .ok (.iload 7, 2) := by decide +kernel
theorem dX12_setPart_227 : decode cX12_setPart 227 = .ok (.iadd, 1) := by decide +kernel
theorem dX12_setPart_228 : decode cX12_setPart 228 = .ok (.aload_n 0, 1) := by decide +kernel
theorem dX12_setPart_229 : decode cX12_setPart 229 = .ok (.getfield 49, 3) := by decide +kernel
theorem dX12_setPart_232 : decode cX12_setPart 232 = .ok (.iconst 4, 1) := by decide +kernel
theorem dX12_setPart_233 : decode cX12_setPart 233 = .ok (.iload 6, 2) := by decide +kernel
theorem dX12_setPart_235 : decode cX12_setPart 235 = .ok (.imul, 1) := by decide +kernel
theorem dX12_setPart_236 : decode cX12_setPart 236 = .ok (.iload 7, 2) := by decide +kernel
theorem dX12_setPart_238 : decode cX12_setPart 238 = .ok (.iadd, 1) := by decide +kernel
theorem dX12_setPart_239 : decode cX12_setPart 239 = .ok (.iaload, 1) := by decide +kernel
theorem dX12_setPart_240 : decode cX12_setPart 240 = .ok (.iastore, 1) := by decide +kernel
theorem dX12_setPart_241 : decode cX12_setPart 241 = .ok (.iinc 7 1, 3) := by decide +kernel
theorem dX12_setPart_244 : decode cX12_setPart 244 = .ok (.goto (-39), 3) := by decide +kernel
theorem dX12_setPart_247 : decode cX12_setPart 247 = .ok (.aload_n 0, 1) := by decide +kernel
theorem dX12_setPart_248 : decode cX12_setPart 248 = .ok (.dup, 1) := by decide +kernel
theorem dX12_setPart_249 : decode cX12_setPart 249 = .ok (.getfield 224, 3) := by decide +kernel
theorem dX12_setPart_252 : decode cX12_setPart 252 = .ok (.aload_n 0, 1) := by decide +kernel
theorem dX12_setPart_253 : decode cX12_setPart 253 = .ok (.getfield 42, 3) := by decide +kernel
theorem dX12_setPart_256 : decode cX12_setPart 256 = .ok (.iload 6, 2) := by decide +kernel
theorem dX12_setPart_258 : decode cX12_setPart 258 = .ok (.iaload, 1) := by decide +kernel
theorem dX12_setPart_259 : decode cX12_setPart 259 = .ok (.iadd, 1) := by decide +kernel
theorem dX12_setPart_260 : decode cX12_setPart 260 = .ok (.putfield 224, 3) := by decide +kernel
theorem dX12_setPart_263 : decode cX12_setPart 263 = .ok (.iload 4, 2) := by decide +kernel
theorem dX12_setPart_265 : decode cX12_setPart 265 = .ok (.aload_n 0, 1) := by decide +kernel
theorem dX12_setPart_266 : decode cX12_setPart 266 = .ok (.getfield 39, 3) := by decide +kernel
theorem dX12_setPart_269 : decode cX12_setPart 269 = .ok (.iload 6, 2) := by decide +kernel
theorem dX12_setPart_271 : decode cX12_setPart 271 = .ok (.iaload, 1) := by decide +kernel
theorem dX12_setPart_272 : decode cX12_setPart 272 = .ok (.iadd, 1) := by decide +kernel
theorem dX12_setPart_273 : decode cX12_setPart 273 = .ok (.istore 4, 2) := by decide +kernel
theorem dX12_setPart_275 : decode cX12_setPart 275 = .ok (.goto (-272), 3) := by decide +kernel
theorem dX12_setPart_278 : decode cX12_setPart 278 = .ok (.iconst 1, 1) := by decide +kernel
theorem dX12_setPart_279 : decode cX12_setPart 279 = .ok (.ireturn, 1) := by decide +kernel
theorem dX12_setWord_0 : decode cX12_setWord 0 = .ok (.aload_n 0, 1) := by decide +kernel
theorem dX12_setWord_1 : decode cX12_setWord 1 = .ok (.iconst 0, 1) := by decide +kernel
theorem dX12_setWord_2 : decode cX12_setWord 2 = .ok (.putfield 224, 3) := by decide +kernel
theorem dX12_setWord_5 : decode cX12_setWord 5 = .ok (.iconst 0, 1) := by decide +kernel
theorem dX12_setWord_6 : decode cX12_setWord 6 = .ok (.istore_n 2, 1) := by decide +kernel
theorem dX12_setWord_7 : decode cX12_setWord 7 = .ok (.iload_n 2, 1) := by decide +kernel
theorem dX12_setWord_8 : decode cX12_setWord 8 = .ok (.aload_n 0, 1) := by decide +kernel
theorem dX12_setWord_9 : decode cX12_setWord 9 = .ok (.getfield 234, 3) := by decide +kernel
theorem dX12_setWord_12 : decode cX12_setWord 12 = .ok (.if_icmp .gt 16, 3) := by decide +kernel
theorem dX12_setWord_15 : decode cX12_setWord 15 = .ok (.aload_n 0, 1) := by decide +kernel
theorem dX12_setWord_16 : decode cX12_setWord 16 = .ok (.getfield 73, 3) := by decide +kernel
theorem dX12_setWord_19 : decode cX12_setWord 19 = .ok (.iload_n 2, 1) := by decide +kernel
theorem dX12_setWord_20 : decode cX12_setWord 20 = .ok (.iconst (-1), 1) := by decide +kernel
theorem dX12_setWord_21 : decode cX12_setWord 21 = .ok (.iastore, 1) := by decide +kernel
theorem dX12_setWord_22 : decode cX12_setWord 22 = .ok (.iinc 2 1, 3) := by decide +kernel
theorem dX12_setWord_25 : decode cX12_setWord 25 = .ok (.goto (-18), 3) := by decide +kernel
theorem dX12_setWord_28 : decode cX12_setWord 28 = .ok (.aload_n 0, 1) := by decide +kernel
theorem dX12_setWord_29 : decode cX12_setWord 29 = .ok (.getfield 21, 3) := by decide +kernel
theorem dX12_setWord_32 : decode cX12_setWord 32 = .ok (.iload_n 1, 1) := by decide +kernel
theorem dX12_setWord_33 : decode cX12_setWord 33 = .ok (.iaload, 1) := by decide +kernel
theorem dX12_setWord_34 : decode cX12_setWord 34 = .ok (.iconst 5, 1) := by decide +kernel
theorem dX12_setWord_35 : decode cX12_setWord 35 = .ok (.if_icmp .eq 14, 3) := by decide +kernel
theorem dX12_setWord_38 : decode cX12_setWord 38 = .ok (.aload_n 0, 1) := by decide +kernel
theorem dX12_setWord_39 : decode cX12_setWord 39 = .ok (.iload_n 1, 1) := by decide +kernel
theorem dX12_setWord_40 : decode cX12_setWord 40 = .ok (.iconst 0, 1) := by decide +kernel
theorem dX12_setWord_41 : decode cX12_setWord 41 = .ok (.aload_n 0, 1) := by decide +kernel
theorem dX12_setWord_42 : decode cX12_setWord 42 = .ok (.getfield 234, 3) := by decide +kernel
theorem dX12_setWord_45 : decode cX12_setWord 45 = .ok (.invokevirtual 237, 3) := by decide +kernel
theorem dX12_setWord_48 : decode cX12_setWord 48 = .ok (.ireturn, 1) := by decide +kernel
theorem dX12_setWord_49 : decode cX12_setWord 49 = .ok (.iconst 0, 1) := by decide +kernel
theorem dX12_setWord_50 : decode cX12_setWord 50 = .ok (.istore_n 2, 1) := by decide +kernel
theorem dX12_setWord_51 : decode cX12_setWord 51 = .ok (.iconst 0, 1) := by decide +kernel
theorem dX12_setWord_52 : decode cX12_setWord 52 = .ok (.istore_n 3, 1) := by decide +kernel
theorem dX12_setWord_53 : decode cX12_setWord 53 = .ok (.iload_n 3, 1) := by decide +kernel
theorem dX12_setWord_54 : decode cX12_setWord 54 = .ok (.aload_n 0, 1) := by decide +kernel
theorem dX12_setWord_55 : decode cX12_setWord 55 = .ok (.getfield 234, 3) := by decide +kernel
theorem dX12_setWord_58 : decode cX12_setWord 58 = .ok (.if_icmp .gt 168, 3) := by decide +kernel
theorem dX12_setWord_61 : decode cX12_setWord 61 = .ok (.iload_n 2, 1) := by decide +kernel
theorem dX12_setWord_62 : decode cX12_setWord 62 = .ok (.ifCond .eq 8, 3) := by decide +kernel
theorem dX12_setWord_65 : decode cX12_setWord 65 = .ok (.bipush 62, 2) := by decide +kernel
theorem dX12_setWord_67 : decode cX12_setWord 67 = .ok (.goto 5, 3) := by decide +kernel
theorem dX12_setWord_70 : decode cX12_setWord 70 = .ok (.bipush 60, 2) := by decide +kernel
theorem dX12_setWord_72 : decode cX12_setWord 72 = .ok (.istore 4, 2) := by decide +kernel
theorem dX12_setWord_74 : decode cX12_setWord 74 = .ok (.iload_n 3, 1) := by decide +kernel
theorem dX12_setWord_75 : decode cX12_setWord 75 = .ok (.istore 5, 2) := by decide +kernel
theorem dX12_setWord_77 : decode cX12_setWord 77 = .ok (.iload 5, 2) := by decide +kernel
theorem dX12_setWord_79 : decode cX12_setWord 79 = .ok (.aload_n 0, 1) := by decide +kernel
theorem dX12_setWord_80 : decode cX12_setWord 80 = .ok (.getfield 234, 3) := by decide +kernel
theorem dX12_setWord_83 : decode cX12_setWord 83 = .ok (.if_icmp .ge 21, 3) := by decide +kernel
theorem dX12_setWord_86 : decode cX12_setWord 86 = .ok (.aload_n 0, 1) := by decide +kernel
theorem dX12_setWord_87 : decode cX12_setWord 87 = .ok (.getfield 61, 3) := by decide +kernel
theorem dX12_setWord_90 : decode cX12_setWord 90 = .ok (.iload 5, 2) := by decide +kernel
theorem dX12_setWord_92 : decode cX12_setWord 92 = .ok (.iaload, 1) := by decide +kernel
theorem dX12_setWord_93 : decode cX12_setWord 93 = .ok (.iload 4, 2) := by decide +kernel
theorem dX12_setWord_95 : decode cX12_setWord 95 = .ok (.if_icmp .eq 9, 3) := by decide +kernel
theorem dX12_setWord_98 : decode cX12_setWord 98 = .ok (.iinc 5 1, 3) := by decide +kernel
theorem dX12_setWord_101 : decode cX12_setWord 101 = .ok (.goto (-24), 3) := by decide +kernel
theorem dX12_setWord_104 : decode cX12_setWord 104 = .ok (.aload_n 0, 1) := by decide +kernel
theorem dX12_setWord_105 : decode cX12_setWord 105 = .ok (.iload_n 2, 1) := by decide +kernel
theorem dX12_setWord_106 : decode cX12_setWord 106 = .ok (.ifCond .eq 12, 3) := by decide +kernel
theorem dX12_setWord_109 : decode cX12_setWord 109 = .ok (.aload_n 0, 1) := by decide +kernel
theorem dX12_setWord_110 : decode cX12_setWord 110 = .ok (.getfield 30, 3) := by decide +kernel
theorem dX12_setWord_113 : decode cX12_setWord 113 = .ok (.iload_n 1, 1) := by decide +kernel
theorem dX12_setWord_114 : decode cX12_setWord 114 = .ok (.iaload, 1) := by decide +kernel
theorem dX12_setWord_115 : decode cX12_setWord 115 = .ok (.goto 9, 3) := by decide +kernel
theorem dX12_setWord_118 : decode cX12_setWord 118 = .ok (.aload_n 0, 1) := by decide +kernel
theorem dX12_setWord_119 : decode cX12_setWord 119 = .ok (.getfield 27, 3) := by decide +kernel
theorem dX12_setWord_122 : decode cX12_setWord 122 = .ok (.iload_n 1, 1) := by decide +kernel
theorem dX12_setWord_123 : decode cX12_setWord 123 = .ok (.iaload, 1) := by decide +kernel
theorem dX12_setWord_124 : decode cX12_setWord 124 = .ok (.iload_n 3, 1) := by decide +kernel
theorem dX12_setWord_125 : decode cX12_setWord 125 = .ok (.iload 5, 2) := by decide +kernel
theorem dX12_setWord_127 : decode cX12_setWord 127 = .ok (.invokevirtual 237, 3) := by decide +kernel
theorem dX12_setWord_130 : decode cX12_setWord 130 = .ok (.ifCond .ne 5, 3) := by decide +kernel
theorem dX12_setWord_133 : decode cX12_setWord 133 = .ok (.iconst 0, 1) := by decide +kernel
theorem dX12_setWord_134 : decode cX12_setWord 134 = .ok (.ireturn, 1) := by decide +kernel
theorem dX12_setWord_135 : decode cX12_setWord 135 = .ok (.iload 5, 2) := by decide +kernel
theorem dX12_setWord_137 : decode cX12_setWord 137 = .ok (.aload_n 0, 1) := by decide +kernel
theorem dX12_setWord_138 : decode cX12_setWord 138 = .ok (.getfield 234, 3) := by decide +kernel
theorem dX12_setWord_141 : decode cX12_setWord 141 = .ok (.if_icmp .ne 5, 3) := by decide +kernel
theorem dX12_setWord_144 : decode cX12_setWord 144 = .ok (.iconst 1, 1) := by decide +kernel
theorem dX12_setWord_145 : decode cX12_setWord 145 = .ok (.ireturn, 1) := by decide +kernel
theorem dX12_setWord_146 : decode cX12_setWord 146 = .ok (.iload_n 2, 1) := by decide +kernel
theorem dX12_setWord_147 : decode cX12_setWord 147 = .ok (.ifCond .eq 7, 3) := by decide +kernel
theorem dX12_setWord_150 : decode cX12_setWord 150 = .ok (.iconst 3, 1) := by decide +kernel
theorem dX12_setWord_151 : decode cX12_setWord 151 = .ok (.goto 4, 3) := by decide +kernel
theorem dX12_setWord_154 : decode cX12_setWord 154 = .ok (.iconst 2, 1) := by decide +kernel
theorem dX12_setWord_155 : decode cX12_setWord 155 = .ok (.istore 6, 2) := by decide +kernel
theorem dX12_setWord_157 : decode cX12_setWord 157 = .ok (.aload_n 0, 1) := by decide +kernel
theorem dX12_setWord_158 : decode cX12_setWord 158 = .ok (.getfield 52, 3) := by decide +kernel
theorem dX12_setWord_161 : decode cX12_setWord 161 = .ok (.iconst 4, 1) := by decide +kernel
theorem dX12_setWord_162 : decode cX12_setWord 162 = .ok (.iload_n 1, 1) := by decide +kernel
theorem dX12_setWord_163 : decode cX12_setWord 163 = .ok (.imul, 1) := by decide +kernel
theorem dX12_setWord_164 : decode cX12_setWord 164 = .ok (.iload 6, 2) := by decide +kernel
theorem dX12_setWord_166 : decode cX12_setWord 166 = .ok (.iadd, 1) := by decide +kernel
theorem dX12_setWord_167 : decode cX12_setWord 167 = .ok (.iaload, 1) := by decide +kernel
theorem dX12_setWord_168 : decode cX12_setWord 168 = .ok (.ifCond .ne 16, 3) := by decide +kernel
theorem dX12_setWord_171 : decode cX12_setWord 171 = .ok (.aload_n 0, 1) := by decide +kernel
theorem dX12_setWord_172 : decode cX12_setWord 172 = .ok (.aload_n 0, 1) := by decide +kernel
theorem dX12_setWord_173 : decode cX12_setWord 173 = .ok (.getfield 64, 3) := by decide +kernel
theorem dX12_setWord_176 : decode cX12_setWord 176 = .ok (.iload 5, 2) := by decide +kernel
theorem dX12_setWord_178 : decode cX12_setWord 178 = .ok (.iaload, 1) := by decide +kernel
theorem dX12_setWord_179 : decode cX12_setWord 179 = .ok (.putfield 231, 3) := by decide +kernel
theorem dX12_setWord_182 : decode cX12_setWord 182 = .ok (.iconst 0, 1) := by decide +kernel
theorem dX12_setWord_183 : decode cX12_setWord 183 = .ok (.ireturn, 1) := by decide +kernel
theorem dX12_setWord_184 : decode cX12_setWord 184 = .ok (.aload_n 0, 1) := by decide +kernel
theorem dX12_setWord_185 : decode cX12_setWord 185 = .ok (.iload_n 1, 1) := by decide +kernel
theorem dX12_setWord_186 : decode cX12_setWord 186 = .ok (.iload 6, 2) := by decide +kernel
theorem dX12_setWord_188 : decode cX12_setWord 188 = .ok (.invokevirtual 227, 3) := by decide +kernel
theorem dX12_setWord_191 : decode cX12_setWord 191 = .ok (.aload_n 0, 1) := by decide +kernel
theorem dX12_setWord_192 : decode cX12_setWord 192 = .ok (.getfield 224, 3) := by decide +kernel
theorem dX12_setWord_195 : decode cX12_setWord 195 = .ok (.sipush 200, 3) := by decide +kernel
theorem dX12_setWord_198 : decode cX12_setWord 198 = .ok (.if_icmp .le 10, 3) := by decide +kernel
theorem dX12_setWord_201 : decode cX12_setWord 201 = .ok (.aload_n 0, 1) := by decide +kernel
theorem dX12_setWord_202 : decode cX12_setWord 202 = .ok (.iconst (-1), 1) := by decide +kernel
theorem dX12_setWord_203 : decode cX12_setWord 203 = .ok (.putfield 231, 3) := by decide +kernel
theorem dX12_setWord_206 : decode cX12_setWord 206 = .ok (.iconst 0, 1) := by decide +kernel
theorem dX12_setWord_207 : decode cX12_setWord 207 = .ok (.ireturn, 1) := by decide +kernel
theorem dX12_setWord_208 : decode cX12_setWord 208 = .ok (.iload_n 2, 1) := by decide +kernel
theorem dX12_setWord_209 : decode cX12_setWord 209 = .ok (.ifCond .ne 7, 3) := by decide +kernel
theorem dX12_setWord_212 : decode cX12_setWord 212 = .ok (.iconst 1, 1) := by decide +kernel
theorem dX12_setWord_213 : decode cX12_setWord 213 = .ok (.goto 4, 3) := by decide +kernel
theorem dX12_setWord_216 : decode cX12_setWord 216 = .ok (.iconst 0, 1) := by decide +kernel
theorem dX12_setWord_217 : decode cX12_setWord 217 = .ok (.istore_n 2, 1) := by decide +kernel
theorem dX12_setWord_218 : decode cX12_setWord 218 = .ok (.iload 5, 2) := by decide +kernel
theorem dX12_setWord_220 : decode cX12_setWord 220 = .ok (.iconst 1, 1) := by decide +kernel
theorem dX12_setWord_221 : decode cX12_setWord 221 = .ok (.iadd, 1) := by decide +kernel
theorem dX12_setWord_222 : decode cX12_setWord 222 = .ok (.istore_n 3, 1) := by decide +kernel
theorem dX12_setWord_223 : decode cX12_setWord 223 = .ok (.goto (-170), 3) := by decide +kernel
theorem dX12_setWord_226 : decode cX12_setWord 226 = .ok (.iconst 1, 1) := by decide +kernel
theorem dX12_setWord_227 : decode cX12_setWord 227 = .ok (.ireturn, 1) := by decide +kernel
theorem dX12_notSet_0 : decode cX12_notSet 0 = .ok (.aload_n 0, 1) := by decide +kernel
theorem dX12_notSet_1 : decode cX12_notSet 1 = .ok (.getfield 231, 3) := by decide +kernel
theorem dX12_notSet_4 : decode cX12_notSet 4 = .ok (.ifCond .ge 12, 3) := by decide +kernel
theorem dX12_notSet_7 : decode cX12_notSet 7 = .ok (.aload_n 0, 1) := by decide +kernel
theorem dX12_notSet_8 : decode cX12_notSet 8 = .ok (.bipush 6, 2) := by decide +kernel
theorem dX12_notSet_10 : decode cX12_notSet 10 = .ok (.invokevirtual 154, 3) := by decide +kernel
theorem dX12_notSet_13 : decode cX12_notSet 13 = .ok (.goto 13, 3) := by decide +kernel
theorem dX12_notSet_16 : decode cX12_notSet 16 = .ok (.aload_n 0, 1) := by decide +kernel
theorem dX12_notSet_17 : decode cX12_notSet 17 = .ok (.bipush 7, 2) := by decide +kernel
theorem dX12_notSet_19 : decode cX12_notSet 19 = .ok (.aload_n 0, 1) := by decide +kernel
theorem dX12_notSet_20 : decode cX12_notSet 20 = .ok (.getfield 231, 3) := by decide +kernel
theorem dX12_notSet_23 : decode cX12_notSet 23 = .ok (.invokevirtual 240, 3) := by decide +kernel
theorem dX12_notSet_26 : decode cX12_notSet 26 = .ok (.ireturn, 1) := by decide +kernel
theorem dX12_text_0 : decode cX12_text 0 = .ok (.aload_n 0, 1) := by decide +kernel
theorem dX12_text_1 : decode cX12_text 1 = .ok (.invokevirtual 192, 3) := by decide +kernel
theorem dX12_text_4 : decode cX12_text 4 = .ok (.istore_n 1, 1) := by decide +kernel
theorem dX12_text_5 : decode cX12_text 5 = .ok (.iconst 1, 1) := by decide +kernel
theorem dX12_text_6 : decode cX12_text 6 = .ok (.istore_n 2, 1) := by decide +kernel
theorem dX12_text_7 : decode cX12_text 7 = .ok (.iconst 0, 1) := by decide +kernel
theorem dX12_text_8 : decode cX12_text 8 = .ok (.istore_n 3, 1) := by decide +kernel
theorem dX12_text_9 : decode cX12_text 9 = .ok (.iload_n 3, 1) := by decide +kernel
theorem dX12_text_10 : decode cX12_text 10 = .ok (.iload_n 1, 1) := by decide +kernel
theorem dX12_text_11 : decode cX12_text 11 = .ok (.if_icmp .ge 46, 3) := by decide +kernel
theorem dX12_text_14 : decode cX12_text 14 = .ok (.iload_n 2, 1) := by decide +kernel
theorem dX12_text_15 : decode cX12_text 15 = .ok (.ifCond .eq 34, 3) := by decide +kernel
theorem dX12_text_18 : decode cX12_text 18 = .ok (.aload_n 0, 1) := by decide +kernel
theorem dX12_text_19 : decode cX12_text 19 = .ok (.getfield 13, 3) := by decide +kernel
theorem dX12_text_22 : decode cX12_text 22 = .ok (.iload_n 3, 1) := by decide +kernel
theorem dX12_text_23 : decode cX12_text 23 = .ok (.iaload, 1) := by decide +kernel
theorem dX12_text_24 : decode cX12_text 24 = .ok (.bipush 10, 2) := by decide +kernel
theorem dX12_text_26 : decode cX12_text 26 = .ok (.if_icmp .eq 19, 3) := by decide +kernel
theorem dX12_text_29 : decode cX12_text 29 = .ok (.aload_n 0, 1) := by decide +kernel
theorem dX12_text_30 : decode cX12_text 30 = .ok (.getfield 13, 3) := by decide +kernel
theorem dX12_text_33 : decode cX12_text 33 = .ok (.iload_n 3, 1) := by decide +kernel
theorem dX12_text_34 : decode cX12_text 34 = .ok (.iaload, 1) := by decide +kernel
theorem dX12_text_35 : decode cX12_text 35 = .ok (.bipush 32, 2) := by decide +kernel
theorem dX12_text_37 : decode cX12_text 37 = .ok (.bipush 126, 2) := by decide +kernel
theorem dX12_text_39 : decode cX12_text 39 = .ok (.invokestatic 174, 3) := by decide +kernel
theorem dX12_text_42 : decode cX12_text 42 = .ok (.ifCond .eq 7, 3) := by decide +kernel
theorem dX12_text_45 : decode cX12_text 45 = .ok (.iconst 1, 1) := by decide +kernel
theorem dX12_text_46 : decode cX12_text 46 = .ok (.goto 4, 3) := by decide +kernel
theorem dX12_text_49 : decode cX12_text 49 = .ok (.iconst 0, 1) := by decide +kernel
theorem dX12_text_50 : decode cX12_text 50 = .ok (.istore_n 2, 1) := by decide +kernel
theorem dX12_text_51 : decode cX12_text 51 = .ok (.iinc 3 1, 3) := by decide +kernel
theorem dX12_text_54 : decode cX12_text 54 = .ok (.goto (-45), 3) := by decide +kernel
theorem dX12_text_57 : decode cX12_text 57 = .ok (.iload_n 2, 1) := by decide +kernel
theorem dX12_text_58 : decode cX12_text 58 = .ok (.ifCond .eq 15, 3) := by decide +kernel
theorem dX12_text_61 : decode cX12_text 61 = .ok (.aload_n 0, 1) := by decide +kernel
theorem dX12_text_62 : decode cX12_text 62 = .ok (.getfield 243, 3) := by decide +kernel
theorem dX12_text_65 : decode cX12_text 65 = .ok (.iload_n 1, 1) := by decide +kernel
theorem dX12_text_66 : decode cX12_text 66 = .ok (.iadd, 1) := by decide +kernel
theorem dX12_text_67 : decode cX12_text 67 = .ok (.sipush 500, 3) := by decide +kernel
theorem dX12_text_70 : decode cX12_text 70 = .ok (.if_icmp .le 10, 3) := by decide +kernel
theorem dX12_text_73 : decode cX12_text 73 = .ok (.aload_n 0, 1) := by decide +kernel
theorem dX12_text_74 : decode cX12_text 74 = .ok (.bipush 6, 2) := by decide +kernel
theorem dX12_text_76 : decode cX12_text 76 = .ok (.invokevirtual 154, 3) := by decide +kernel
theorem dX12_text_79 : decode cX12_text 79 = .ok (.ireturn, 1) := by decide +kernel
theorem dX12_text_80 : decode cX12_text 80 = .ok (.iconst 0, 1) := by decide +kernel
theorem dX12_text_81 : decode cX12_text 81 = .ok (.istore_n 3, 1) := by decide +kernel
theorem dX12_text_82 : decode cX12_text 82 = .ok (.iload_n 3, 1) := by decide +kernel
theorem dX12_text_83 : decode cX12_text 83 = .ok (.iload_n 1, 1) := by decide +kernel
theorem dX12_text_84 : decode cX12_text 84 = .ok (.if_icmp .ge 26, 3) := by decide +kernel
theorem dX12_text_87 : decode cX12_text 87 = .ok (.aload_n 0, 1) := by decide +kernel
theorem dX12_text_88 : decode cX12_text 88 = .ok (.getfield 79, 3) := by decide +kernel
theorem dX12_text_91 : decode cX12_text 91 = .ok (.aload_n 0, 1) := by decide +kernel
theorem dX12_text_92 : decode cX12_text 92 = .ok (.getfield 243, 3) := by decide +kernel
theorem dX12_text_95 : decode cX12_text 95 = .ok (.iload_n 3, 1) := by decide +kernel
theorem dX12_text_96 : decode cX12_text 96 = .ok (.iadd, 1) := by decide +kernel
theorem dX12_text_97 : decode cX12_text 97 = .ok (.aload_n 0, 1) := by decide +kernel
theorem dX12_text_98 : decode cX12_text 98 = .ok (.getfield 13, 3) := by decide +kernel
theorem dX12_text_101 : decode cX12_text 101 = .ok (.iload_n 3, 1) := by decide +kernel
theorem dX12_text_102 : decode cX12_text 102 = .ok (.iaload, 1) := by decide +kernel
theorem dX12_text_103 : decode cX12_text 103 = .ok (.iastore, 1) := by decide +kernel
theorem dX12_text_104 : decode cX12_text 104 = .ok (.iinc 3 1, 3) := by decide +kernel
theorem dX12_text_107 : decode cX12_text 107 = .ok (.goto (-25), 3) := by decide +kernel
theorem dX12_text_110 : decode cX12_text 110 = .ok (.aload_n 0, 1) := by decide +kernel
theorem dX12_text_111 : decode cX12_text 111 = .ok (.iload_n 1, 1) := by decide +kernel
theorem dX12_text_112 : decode cX12_text 112 = .ok (.ifCond .ne 7, 3) := by decide +kernel
theorem dX12_text_115 : decode cX12_text 115 = .ok (.iconst 0, 1) := by decide +kernel
theorem dX12_text_116 : decode cX12_text 116 = .ok (.goto 9, 3) := by decide +kernel
theorem dX12_text_119 : decode cX12_text 119 = .ok (.aload_n 0, 1) := by decide +kernel
theorem dX12_text_120 : decode cX12_text 120 = .ok (.getfield 243, 3) := by decide +kernel
theorem dX12_text_123 : decode cX12_text 123 = .ok (.iload_n 1, 1) := by decide +kernel
theorem dX12_text_124 : decode cX12_text 124 = .ok (.iadd, 1) := by decide +kernel
theorem dX12_text_125 : decode cX12_text 125 = .ok (.putfield 243, 3) := by decide +kernel
theorem dX12_text_128 : decode cX12_text 128 = .ok (.aload_n 0, 1) := by decide +kernel
theorem dX12_text_129 : decode cX12_text 129 = .ok (.aload_n 0, 1) := by decide +kernel
theorem dX12_text_130 : decode cX12_text 130 = .ok (.getfield 243, 3) := by decide +kernel
theorem dX12_text_133 : decode cX12_text 133 = .ok (.invokevirtual 158, 3) := by decide +kernel
theorem dX12_text_136 : decode cX12_text 136 = .ok (.ireturn, 1) := by decide +kernel
theorem dX12_measure_0 : decode cX12_measure 0 = .ok (.iload_n 1, 1) := by decide +kernel
theorem dX12_measure_1 : decode cX12_measure 1 = .ok (.iconst 1, 1) := by decide +kernel
theorem dX12_measure_2 : decode cX12_measure 2 = .ok (.bipush 100, 2) := by decide +kernel
theorem dX12_measure_4 : decode cX12_measure 4 = .ok (.invokestatic 174, 3) := by decide +kernel
theorem dX12_measure_7 : decode cX12_measure 7 = .ok (.ifCond .eq 24, 3) := by decide +kernel
theorem dX12_measure_10 : decode cX12_measure 10 = .ok (.iload_n 2, 1) := by decide +kernel
theorem dX12_measure_11 : decode cX12_measure 11 = .ok (.iconst 1, 1) := by decide +kernel
theorem dX12_measure_12 : decode cX12_measure 12 = .ok (.bipush 50, 2) := by decide +kernel
theorem dX12_measure_14 : decode cX12_measure 14 = .ok (.invokestatic 174, 3) := by decide +kernel
theorem dX12_measure_17 : decode cX12_measure 17 = .ok (.ifCond .eq 14, 3) := by decide +kernel
theorem dX12_measure_20 : decode cX12_measure 20 = .ok (.iload_n 3, 1) := by decide +kernel
theorem dX12_measure_21 : decode cX12_measure 21 = .ok (.iconst 1, 1) := by decide +kernel
theorem dX12_measure_22 : decode cX12_measure 22 = .ok (.sipush 255, 3) := by decide +kernel
theorem dX12_measure_25 : decode cX12_measure 25 = .ok (.invokestatic 174, 3) := by decide +kernel
theorem dX12_measure_28 : decode cX12_measure 28 = .ok (.ifCond .ne 10, 3) := by decide +kernel
theorem dX12_measure_31 : decode cX12_measure 31 = .ok (.aload_n 0, 1) := by decide +kernel
theorem dX12_measure_32 : decode cX12_measure 32 = .ok (.bipush 6, 2) := by decide +kernel
theorem dX12_measure_34 : decode cX12_measure 34 = .ok (.invokevirtual 154, 3) := by decide +kernel
theorem dX12_measure_37 : decode cX12_measure 37 = .ok (.ireturn, 1) := by decide +kernel
theorem dX12_measure_38 : decode cX12_measure 38 = .ok (.aload_n 0, 1) := by decide +kernel
theorem dX12_measure_39 : decode cX12_measure 39 = .ok (.iload_n 1, 1) := by decide +kernel
theorem dX12_measure_40 : decode cX12_measure 40 = .ok (.putfield 82, 3) := by decide +kernel
theorem dX12_measure_43 : decode cX12_measure 43 = .ok (.aload_n 0, 1) := by decide +kernel
theorem dX12_measure_44 : decode cX12_measure 44 = .ok (.iload_n 2, 1) := by decide +kernel
theorem dX12_measure_45 : decode cX12_measure 45 = .ok (.putfield 85, 3) := by decide +kernel
theorem dX12_measure_48 : decode cX12_measure 48 = .ok (.aload_n 0, 1) := by decide +kernel
theorem dX12_measure_49 : decode cX12_measure 49 = .ok (.iload_n 3, 1) := by decide +kernel
theorem dX12_measure_50 : decode cX12_measure 50 = .ok (.putfield 88, 3) := by decide +kernel
theorem dX12_measure_53 : decode cX12_measure 53 = .ok (.aload_n 0, 1) := by decide +kernel
theorem dX12_measure_54 : decode cX12_measure 54 = .ok (.iconst 1, 1) := by decide +kernel
theorem dX12_measure_55 : decode cX12_measure 55 = .ok (.invokevirtual 158, 3) := by decide +kernel
theorem dX12_measure_58 : decode cX12_measure 58 = .ok (.ireturn, 1) := by decide +kernel
theorem dX12_takeWord_0 : decode cX12_takeWord 0 = .ok (.iload_n 1, 1) := by decide +kernel
theorem dX12_takeWord_1 : decode cX12_takeWord 1 = .ok (.istore_n 3, 1) := by decide +kernel
theorem dX12_takeWord_2 : decode cX12_takeWord 2 = .ok (.aload_n 0, 1) := by decide +kernel
theorem dX12_takeWord_3 : decode cX12_takeWord 3 = .ok (.iconst 0, 1) := by decide +kernel
theorem dX12_takeWord_4 : decode cX12_takeWord 4 = .ok (.putfield 234, 3) := by decide +kernel
theorem dX12_takeWord_7 : decode cX12_takeWord 7 = .ok (.iload_n 3, 1) := by decide +kernel
theorem dX12_takeWord_8 : decode cX12_takeWord 8 = .ok (.iload_n 2, 1) := by decide +kernel
theorem dX12_takeWord_9 : decode cX12_takeWord 9 = .ok (.if_icmp .ge 141, 3) := by decide +kernel
theorem dX12_takeWord_12 : decode cX12_takeWord 12 = .ok (.aload_n 0, 1) := by decide +kernel
theorem dX12_takeWord_13 : decode cX12_takeWord 13 = .ok (.getfield 234, 3) := by decide +kernel
theorem dX12_takeWord_16 : decode cX12_takeWord 16 = .ok (.ifCond .ne 134, 3) := by decide +kernel
theorem dX12_takeWord_19 : decode cX12_takeWord 19 = .ok (.iload_n 3, 1) := by decide +kernel
theorem dX12_takeWord_20 : decode cX12_takeWord 20 = .ok (.iload_n 2, 1) := by decide +kernel
theorem dX12_takeWord_21 : decode cX12_takeWord 21 = .ok (.if_icmp .ge 20, 3) := by decide +kernel
theorem dX12_takeWord_24 : decode cX12_takeWord 24 = .ok (.aload_n 0, 1) := by decide +kernel
theorem dX12_takeWord_25 : decode cX12_takeWord 25 = .ok (.getfield 79, 3) := by decide +kernel
theorem dX12_takeWord_28 : decode cX12_takeWord 28 = .ok (.iload_n 3, 1) := by decide +kernel
theorem dX12_takeWord_29 : decode cX12_takeWord 29 = .ok (.iaload, 1) := by decide +kernel
theorem dX12_takeWord_30 : decode cX12_takeWord 30 = .ok (.bipush 32, 2) := by decide +kernel
theorem dX12_takeWord_32 : decode cX12_takeWord 32 = .ok (.if_icmp .ne 9, 3) := by decide +kernel
theorem dX12_takeWord_35 : decode cX12_takeWord 35 = .ok (.iinc 3 1, 3) := by decide +kernel
theorem dX12_takeWord_38 : decode cX12_takeWord 38 = .ok (.goto (-19), 3) := by decide +kernel
theorem dX12_takeWord_41 : decode cX12_takeWord 41 = .ok (.aload_n 0, 1) := by decide +kernel
theorem dX12_takeWord_42 : decode cX12_takeWord 42 = .ok (.getfield 67, 3) := by decide +kernel
theorem dX12_takeWord_45 : decode cX12_takeWord 45 = .ok (.iconst 0, 1) := by decide +kernel
theorem dX12_takeWord_46 : decode cX12_takeWord 46 = .ok (.iconst 0, 1) := by decide +kernel
theorem dX12_takeWord_47 : decode cX12_takeWord 47 = .ok (.bastore, 1) := by decide +kernel
theorem dX12_takeWord_48 : decode cX12_takeWord 48 = .ok (.iload_n 3, 1) := by decide +kernel
theorem dX12_takeWord_49 : decode cX12_takeWord 49 = .ok (.iload_n 2, 1) := by decide +kernel
theorem dX12_takeWord_50 : decode cX12_takeWord 50 = .ok (.if_icmp .ge (-43), 3) := by decide +kernel
theorem dX12_takeWord_53 : decode cX12_takeWord 53 = .ok (.aload_n 0, 1) := by decide +kernel
theorem dX12_takeWord_54 : decode cX12_takeWord 54 = .ok (.getfield 79, 3) := by decide +kernel
theorem dX12_takeWord_57 : decode cX12_takeWord 57 = .ok (.iload_n 3, 1) := by decide +kernel
theorem dX12_takeWord_58 : decode cX12_takeWord 58 = .ok (.iaload, 1) := by decide +kernel
theorem dX12_takeWord_59 : decode cX12_takeWord 59 = .ok (.bipush 32, 2) := by decide +kernel
theorem dX12_takeWord_61 : decode cX12_takeWord 61 = .ok (.if_icmp .eq (-54), 3) := by decide +kernel
theorem dX12_takeWord_64 : decode cX12_takeWord 64 = .ok (.aload_n 0, 1) := by decide +kernel
theorem dX12_takeWord_65 : decode cX12_takeWord 65 = .ok (.getfield 79, 3) := by decide +kernel
theorem dX12_takeWord_68 : decode cX12_takeWord 68 = .ok (.iload_n 3, 1) := by decide +kernel
theorem dX12_takeWord_69 : decode cX12_takeWord 69 = .ok (.iaload, 1) := by decide +kernel
theorem dX12_takeWord_70 : decode cX12_takeWord 70 = .ok (.bipush 126, 2) := by decide +kernel
theorem dX12_takeWord_72 : decode cX12_takeWord 72 = .ok (.if_icmp .ne 27, 3) := by decide +kernel
theorem dX12_takeWord_75 : decode cX12_takeWord 75 = .ok (.aload_n 0, 1) := by decide +kernel
theorem dX12_takeWord_76 : decode cX12_takeWord 76 = .ok (.getfield 67, 3) := by decide +kernel
theorem dX12_takeWord_79 : decode cX12_takeWord 79 = .ok (.aload_n 0, 1) := by decide +kernel
theorem dX12_takeWord_80 : decode cX12_takeWord 80 = .ok (.getfield 234, 3) := by decide +kernel
theorem dX12_takeWord_83 : decode cX12_takeWord 83 = .ok (.aload_n 0, 1) := by decide +kernel
theorem dX12_takeWord_84 : decode cX12_takeWord 84 = .ok (.getfield 234, 3) := by decide +kernel
theorem dX12_takeWord_87 : decode cX12_takeWord 87 = .ok (.ifCond .le 7, 3) := by decide +kernel
theorem dX12_takeWord_90 : decode cX12_takeWord 90 = .ok (.iconst 1, 1) := by decide +kernel
theorem dX12_takeWord_91 : decode cX12_takeWord 91 = .ok (.goto 4, 3) := by decide +kernel
theorem dX12_takeWord_94 : decode cX12_takeWord 94 = .ok (.iconst 0, 1) := by decide +kernel
theorem dX12_takeWord_95 : decode cX12_takeWord 95 = .ok (.bastore, 1) := by decide +kernel
theorem dX12_takeWord_96 : decode cX12_takeWord 96 = .ok (.goto 48, 3) := by decide +kernel
theorem dX12_takeWord_99 : decode cX12_takeWord 99 = .ok (.aload_n 0, 1) := by decide +kernel
theorem dX12_takeWord_100 : decode cX12_takeWord 100 = .ok (.getfield 61, 3) := by decide +kernel
theorem dX12_takeWord_103 : decode cX12_takeWord 103 = .ok (.aload_n 0, 1) := by decide +kernel
theorem dX12_takeWord_104 : decode cX12_takeWord 104 = .ok (.getfield 234, 3) := by decide +kernel
theorem dX12_takeWord_107 : decode cX12_takeWord 107 = .ok (.aload_n 0, 1) := by decide +kernel
theorem dX12_takeWord_108 : decode cX12_takeWord 108 = .ok (.getfield 79, 3) := by decide +kernel
theorem dX12_takeWord_111 : decode cX12_takeWord 111 = .ok (.iload_n 3, 1) := by decide +kernel
theorem dX12_takeWord_112 : decode cX12_takeWord 112 = .ok (.iaload, 1) := by decide +kernel
theorem dX12_takeWord_113 : decode cX12_takeWord 113 = .ok (.iastore, 1) := by decide +kernel
theorem dX12_takeWord_114 : decode cX12_takeWord 114 = .ok (.aload_n 0, 1) := by decide +kernel
theorem dX12_takeWord_115 : decode cX12_takeWord 115 = .ok (.getfield 64, 3) := by decide +kernel
theorem dX12_takeWord_118 : decode cX12_takeWord 118 = .ok (.aload_n 0, 1) := by decide +kernel
theorem dX12_takeWord_119 : decode cX12_takeWord 119 = .ok (.getfield 234, 3) := by decide +kernel
theorem dX12_takeWord_122 : decode cX12_takeWord 122 = .ok (.iload_n 3, 1) := by decide +kernel
theorem dX12_takeWord_123 : decode cX12_takeWord 123 = .ok (.iastore, 1) := by decide +kernel
theorem dX12_takeWord_124 : decode cX12_takeWord 124 = .ok (.aload_n 0, 1) := by decide +kernel
theorem dX12_takeWord_125 : decode cX12_takeWord 125 = .ok (.dup, 1) := by decide +kernel
theorem dX12_takeWord_126 : decode cX12_takeWord 126 = .ok (.getfield 234, 3) := by decide +kernel
theorem dX12_takeWord_129 : decode cX12_takeWord 129 = .ok (.iconst 1, 1) := by decide +kernel
theorem dX12_takeWord_130 : decode cX12_takeWord 130 = .ok (.iadd, 1) := by decide +kernel
theorem dX12_takeWord_131 : decode cX12_takeWord 131 = .ok (.putfield 234, 3) := by decide +kernel
theorem dX12_takeWord_134 : decode cX12_takeWord 134 = .ok (.aload_n 0, 1) := by decide +kernel
theorem dX12_takeWord_135 : decode cX12_takeWord 135 = .ok (.getfield 67, 3) := by decide +kernel
theorem dX12_takeWord_138 : decode cX12_takeWord 138 = .ok (.aload_n 0, 1) := by decide +kernel
theorem dX12_takeWord_139 : decode cX12_takeWord 139 = .ok (.getfield 234, 3) := by decide +kernel
theorem dX12_takeWord_142 : decode cX12_takeWord 142 = .ok (.iconst 0, 1) := by decide +kernel
theorem dX12_takeWord_143 : decode cX12_takeWord 143 = .ok (.bastore, 1) := by decide +kernel
theorem dX12_takeWord_144 : decode cX12_takeWord 144 = .ok (.iinc 3 1, 3) := by decide +kernel
theorem dX12_takeWord_147 : decode cX12_takeWord 147 = .ok (.goto (-99), 3) := by decide +kernel
theorem dX12_takeWord_150 : decode cX12_takeWord 150 = .ok (.iload_n 3, 1) := by decide +kernel
theorem dX12_takeWord_151 : decode cX12_takeWord 151 = .ok (.ireturn, 1) := by decide +kernel
theorem dX12_lineEnd_0 : decode cX12_lineEnd 0 = .ok (.iload_n 1, 1) := by decide +kernel
theorem dX12_lineEnd_1 : decode cX12_lineEnd 1 = .ok (.istore_n 2, 1) := by decide +kernel
theorem dX12_lineEnd_2 : decode cX12_lineEnd 2 = .ok (.iload_n 2, 1) := by decide +kernel
theorem dX12_lineEnd_3 : decode cX12_lineEnd 3 = .ok (.aload_n 0, 1) := by decide +kernel
theorem dX12_lineEnd_4 : decode cX12_lineEnd 4 = .ok (.getfield 243, 3) := by decide +kernel
theorem dX12_lineEnd_7 : decode cX12_lineEnd 7 = .ok (.if_icmp .ge 20, 3) := by decide +kernel
theorem dX12_lineEnd_10 : decode cX12_lineEnd 10 = .ok (.aload_n 0, 1) := by decide +kernel
theorem dX12_lineEnd_11 : decode cX12_lineEnd 11 = .ok (.getfield 79, 3) := by decide +kernel
theorem dX12_lineEnd_14 : decode cX12_lineEnd 14 = .ok (.iload_n 2, 1) := by decide +kernel
theorem dX12_lineEnd_15 : decode cX12_lineEnd 15 = .ok (.iaload, 1) := by decide +kernel
theorem dX12_lineEnd_16 : decode cX12_lineEnd 16 = .ok (.bipush 10, 2) := by decide +kernel
theorem dX12_lineEnd_18 : decode cX12_lineEnd 18 = .ok (.if_icmp .eq 9, 3) := by decide +kernel
theorem dX12_lineEnd_21 : decode cX12_lineEnd 21 = .ok (.iinc 2 1, 3) := by decide +kernel
theorem dX12_lineEnd_24 : decode cX12_lineEnd 24 = .ok (.goto (-22), 3) := by decide +kernel
theorem dX12_lineEnd_27 : decode cX12_lineEnd 27 = .ok (.iload_n 2, 1) := by decide +kernel
theorem dX12_lineEnd_28 : decode cX12_lineEnd 28 = .ok (.ireturn, 1) := by decide +kernel
theorem dX12_newLine_0 : decode cX12_newLine 0 = .ok (.aload_n 0, 1) := by decide +kernel
theorem dX12_newLine_1 : decode cX12_newLine 1 = .ok (.getfield 246, 3) := by decide +kernel
theorem dX12_newLine_4 : decode cX12_newLine 4 = .ok (.sipush 200, 3) := by decide +kernel
theorem dX12_newLine_7 : decode cX12_newLine 7 = .ok (.if_icmp .ne 5, 3) := by decide +kernel
theorem dX12_newLine_10 : decode cX12_newLine 10 = .ok (.iconst 0, 1) := by decide +kernel
theorem dX12_newLine_11 : decode cX12_newLine 11 = .ok (.ireturn, 1) := by decide +kernel
theorem dX12_newLine_12 : decode cX12_newLine 12 = .ok (.aload_n 0, 1) := by decide +kernel
theorem dX12_newLine_13 : decode cX12_newLine 13 = .ok (.getfield 98, 3) := by decide +kernel
theorem dX12_newLine_16 : decode cX12_newLine 16 = .ok (.aload_n 0, 1) := by decide +kernel
theorem dX12_newLine_17 : decode cX12_newLine 17 = .ok (.getfield 246, 3) := by decide +kernel
theorem dX12_newLine_20 : decode cX12_newLine 20 = .ok (.iconst 0, 1) := by decide +kernel
theorem dX12_newLine_21 : decode cX12_newLine 21 = .ok (.iastore, 1) := by decide +kernel
theorem dX12_newLine_22 : decode cX12_newLine 22 = .ok (.aload_n 0, 1) := by decide +kernel
theorem dX12_newLine_23 : decode cX12_newLine 23 = .ok (.dup, 1) := by decide +kernel
theorem dX12_newLine_24 : decode cX12_newLine 24 = .ok (.getfield 246, 3) := by decide +kernel
theorem dX12_newLine_27 : decode cX12_newLine 27 = .ok (.iconst 1, 1) := by decide +kernel
theorem dX12_newLine_28 : decode cX12_newLine 28 = .ok (.iadd, 1) := by decide +kernel
theorem dX12_newLine_29 : decode cX12_newLine 29 = .ok (.putfield 246, 3) := by decide +kernel
theorem dX12_newLine_32 : decode cX12_newLine 32 = .ok (.iconst 1, 1) := by decide +kernel
theorem dX12_newLine_33 : decode cX12_newLine 33 = .ok (.ireturn, 1) := by decide +kernel
theorem dX12_putCell_0 : decode cX12_putCell 0 = .ok (.aload_n 0, 1) := by decide +kernel
theorem dX12_putCell_1 : decode cX12_putCell 1 = .ok (.getfield 246, 3) := by decide +kernel
theorem dX12_putCell_4 : decode cX12_putCell 4 = .ok (.iconst 1, 1) := by decide +kernel
theorem dX12_putCell_5 : decode cX12_putCell 5 = .ok (.isub, 1) := by decide +kernel
theorem dX12_putCell_6 : decode cX12_putCell 6 = .ok (.istore_n 2, 1) := by decide +kernel
theorem dX12_putCell_7 : decode cX12_putCell 7 = .ok (.aload_n 0, 1) := by decide +kernel
theorem dX12_putCell_8 : decode cX12_putCell 8 = .ok (.getfield 101, 3) := by decide +kernel
theorem dX12_putCell_11 : decode cX12_putCell 11 = .ok (.sipush 200, 3) := by decide +kernel
theorem dX12_putCell_14 : decode cX12_putCell 14 = .ok (.iload_n 2, 1) := by decide +kernel
theorem dX12_putCell_15 : decode cX12_putCell 15 = .ok (.imul, 1) := by decide +kernel
theorem dX12_putCell_16 : decode cX12_putCell 16 = .ok (.aload_n 0, 1) := by decide +kernel
theorem dX12_putCell_17 : decode cX12_putCell 17 = .ok (.getfield 98, 3) := by decide +kernel
theorem dX12_putCell_20 : decode cX12_putCell 20 = .ok (.iload_n 2, 1) := by decide +kernel
theorem dX12_putCell_21 : decode cX12_putCell 21 = .ok (.iaload, 1) := by decide +kernel
theorem dX12_putCell_22 : decode cX12_putCell 22 = .ok (.iadd, 1) := by decide +kernel
theorem dX12_putCell_23 : decode cX12_putCell 23 = .ok (.iload_n 1, 1) := by decide +kernel
theorem dX12_putCell_24 : decode cX12_putCell 24 = .ok (.iastore, 1) := by decide +kernel
theorem dX12_putCell_25 : decode cX12_putCell 25 = .ok (.aload_n 0, 1) := by decide +kernel
theorem dX12_putCell_26 : decode cX12_putCell 26 = .ok (.getfield 98, 3) := by decide +kernel
theorem dX12_putCell_29 : decode cX12_putCell 29 = .ok (.iload_n 2, 1) := by decide +kernel
theorem dX12_putCell_30 : decode cX12_putCell 30 = .ok (.dup2, 1) := by decide +kernel
theorem dX12_putCell_31 : decode cX12_putCell 31 = .ok (.iaload, 1) := by decide +kernel
theorem dX12_putCell_32 : decode cX12_putCell 32 = .ok (.iconst 1, 1) := by decide +kernel
theorem dX12_putCell_33 : decode cX12_putCell 33 = .ok (.iadd, 1) := by decide +kernel
theorem dX12_putCell_34 : decode cX12_putCell 34 = .ok (.iastore, 1) := by decide +kernel
theorem dX12_putCell_35 : decode cX12_putCell 35 = .ok (.return_, 1) := by decide +kernel
theorem dX12_breakOf_0 : decode cX12_breakOf 0 = .ok (.iconst (-1), 1) := by decide +kernel
theorem dX12_breakOf_1 : decode cX12_breakOf 1 = .ok (.istore 4, 2) := by decide +kernel
theorem dX12_breakOf_3 : decode cX12_breakOf 3 = .ok (.iconst 1, 1) := by decide +kernel
theorem dX12_breakOf_4 : decode cX12_breakOf 4 = .ok (.istore 5, 2) := by decide +kernel
theorem dX12_breakOf_6 : decode cX12_breakOf 6 = .ok (.iload 5, 2) := by decide +kernel
theorem dX12_breakOf_8 : decode cX12_breakOf 8 = .ok (.aload_n 0, 1) := by decide +kernel
theorem dX12_breakOf_9 : decode cX12_breakOf 9 = .ok (.getfield 234, 3) := by decide +kernel
theorem dX12_breakOf_12 : decode cX12_breakOf 12 = .ok (.if_icmp .ge 136, 3) := by decide +kernel
theorem dX12_breakOf_15 : decode cX12_breakOf 15 = .ok (.aload_n 0, 1) := by decide +kernel
theorem dX12_breakOf_16 : decode cX12_breakOf 16 = .ok (.getfield 67, 3) := by decide +kernel
theorem dX12_breakOf_19 : decode cX12_breakOf 19 = .ok (.iload 5, 2) := by decide +kernel
theorem dX12_breakOf_21 : decode cX12_breakOf 21 = .ok (.baload, 1) := by decide +kernel
theorem dX12_breakOf_22 : decode cX12_breakOf 22 = .ok (.ifCond .eq 120, 3) := by decide +kernel
theorem dX12_breakOf_25 : decode cX12_breakOf 25 = .ok (.aload_n 0, 1) := by decide +kernel
theorem dX12_breakOf_26 : decode cX12_breakOf 26 = .ok (.getfield 73, 3) := by decide +kernel
theorem dX12_breakOf_29 : decode cX12_breakOf 29 = .ok (.iload 5, 2) := by decide +kernel
theorem dX12_breakOf_31 : decode cX12_breakOf 31 = .ok (.iaload, 1) := by decide +kernel
theorem dX12_breakOf_32 : decode cX12_breakOf 32 = .ok (.iload_n 2, 1) := by decide +kernel
theorem dX12_breakOf_33 : decode cX12_breakOf 33 = .ok (.if_icmp .le 109, 3) := by decide +kernel
theorem dX12_breakOf_36 : decode cX12_breakOf 36 = .ok (.aload_n 0, 1) := by decide +kernel
theorem dX12_breakOf_37 : decode cX12_breakOf 37 = .ok (.getfield 73, 3) := by decide +kernel
theorem dX12_breakOf_40 : decode cX12_breakOf 40 = .ok (.iload 5, 2) := by decide +kernel
theorem dX12_breakOf_42 : decode cX12_breakOf 42 = .ok (.iaload, 1) := by decide +kernel
theorem dX12_breakOf_43 : decode cX12_breakOf 43 = .ok (.iload_n 2, 1) := by decide +kernel
theorem dX12_breakOf_44 : decode cX12_breakOf 44 = .ok (.isub, 1) := by decide +kernel
theorem dX12_breakOf_45 : decode cX12_breakOf 45 = .ok (.iconst 1, 1) := by decide +kernel
theorem dX12_breakOf_46 : decode cX12_breakOf 46 = .ok (.iadd, 1) := by decide +kernel
theorem dX12_breakOf_47 : decode cX12_breakOf 47 = .ok (.iload_n 3, 1) := by decide +kernel
theorem dX12_breakOf_48 : decode cX12_breakOf 48 = .ok (.if_icmp .le 6, 3) := by decide +kernel
theorem dX12_breakOf_51 : decode cX12_breakOf 51 = .ok (.goto 91, 3) := by decide +kernel
theorem dX12_breakOf_54 : decode cX12_breakOf 54 = .ok (.aload_n 0, 1) := by decide +kernel
theorem dX12_breakOf_55 : decode cX12_breakOf 55 = .ok (.getfield 21, 3) := by decide +kernel
theorem dX12_breakOf_58 : decode cX12_breakOf 58 = .ok (.iload_n 1, 1) := by decide +kernel
theorem dX12_breakOf_59 : decode cX12_breakOf 59 = .ok (.iaload, 1) := by decide +kernel
theorem dX12_breakOf_60 : decode cX12_breakOf 60 = .ok (.iconst 3, 1) := by decide +kernel
theorem dX12_breakOf_61 : decode cX12_breakOf 61 = .ok (.if_icmp .gt 64, 3) := by decide +kernel
theorem dX12_breakOf_64 : decode cX12_breakOf 64 = .ok (.aload_n 0, 1) := by decide +kernel
theorem dX12_breakOf_65 : decode cX12_breakOf 65 = .ok (.getfield 21, 3) := by decide +kernel
theorem dX12_breakOf_68 : decode cX12_breakOf 68 = .ok (.iload_n 1, 1) := by decide +kernel
theorem dX12_breakOf_69 : decode cX12_breakOf 69 = .ok (.iaload, 1) := by decide +kernel
theorem dX12_breakOf_70 : decode cX12_breakOf 70 = .ok (.iconst 2, 1) := by decide +kernel
theorem dX12_breakOf_71 : decode cX12_breakOf 71 = .ok (.if_icmp .ne 31, 3) := by decide +kernel
theorem dX12_breakOf_74 : decode cX12_breakOf 74 = .ok (.aload_n 0, 1) := by decide +kernel
theorem dX12_breakOf_75 : decode cX12_breakOf 75 = .ok (.getfield 61, 3) := by decide +kernel
theorem dX12_breakOf_78 : decode cX12_breakOf 78 = .ok (.iload 5, 2) := by decide +kernel
theorem dX12_breakOf_80 : decode cX12_breakOf 80 = .ok (.iconst 1, 1) := by decide +kernel
theorem dX12_breakOf_81 : decode cX12_breakOf 81 = .ok (.isub, 1) := by decide +kernel
theorem dX12_breakOf_82 : decode cX12_breakOf 82 = .ok (.iaload, 1) := by decide +kernel
theorem dX12_breakOf_83 : decode cX12_breakOf 83 = .ok (.invokestatic 202, 3) := by decide +kernel
theorem dX12_breakOf_86 : decode cX12_breakOf 86 = .ok (.ifCond .ne 39, 3) := by decide +kernel
theorem dX12_breakOf_89 : decode cX12_breakOf 89 = .ok (.aload_n 0, 1) := by decide +kernel
theorem dX12_breakOf_90 : decode cX12_breakOf 90 = .ok (.getfield 61, 3) := by decide +kernel
theorem dX12_breakOf_93 : decode cX12_breakOf 93 = .ok (.iload 5, 2) := by decide +kernel
theorem dX12_breakOf_95 : decode cX12_breakOf 95 = .ok (.iaload, 1) := by decide +kernel
theorem dX12_breakOf_96 : decode cX12_breakOf 96 = .ok (.invokestatic 202, 3) := by decide +kernel
theorem dX12_breakOf_99 : decode cX12_breakOf 99 = .ok (.ifCond .ne 26, 3) := by decide +kernel
theorem dX12_breakOf_102 : decode cX12_breakOf 102 = .ok (.aload_n 0, 1) := by decide +kernel
theorem dX12_breakOf_103 : decode cX12_breakOf 103 = .ok (.getfield 21, 3) := by decide +kernel
theorem dX12_breakOf_106 : decode cX12_breakOf 106 = .ok (.iload_n 1, 1) := by decide +kernel
theorem dX12_breakOf_107 : decode cX12_breakOf 107 = .ok (.iaload, 1) := by decide +kernel
theorem dX12_breakOf_108 : decode cX12_breakOf 108 = .ok (.iconst 3, 1) := by decide +kernel
theorem dX12_breakOf_109 : decode cX12_breakOf 109 = .ok (.if_icmp .ne 12, 3) := by decide +kernel
theorem dX12_breakOf_112 : decode cX12_breakOf 112 = .ok (.aload_n 0, 1) := by decide +kernel
theorem dX12_breakOf_113 : decode cX12_breakOf 113 = .ok (.getfield 234, 3) := by decide +kernel
theorem dX12_breakOf_116 : decode cX12_breakOf 116 = .ok (.bipush 6, 2) := by decide +kernel
theorem dX12_breakOf_118 : decode cX12_breakOf 118 = .ok (.if_icmp .lt 7, 3) := by decide +kernel
theorem dX12_breakOf_121 : decode cX12_breakOf 121 = .ok (.iconst 1, 1) := by decide +kernel
theorem dX12_breakOf_122 : decode cX12_breakOf 122 = .ok (.goto 4, 3) := by decide +kernel
theorem dX12_breakOf_125 : decode cX12_breakOf 125 = .ok (.iconst 0, 1) := by decide +kernel
theorem dX12_breakOf_126 : decode cX12_breakOf 126 = .ok (.istore 6, 2) := by decide +kernel
theorem dX12_breakOf_128 : decode cX12_breakOf 128 = .ok (.iload 6, 2) := by decide +kernel
theorem dX12_breakOf_130 : decode cX12_breakOf 130 = .ok (.ifCond .eq 12, 3) := by decide +kernel
theorem dX12_breakOf_133 : decode cX12_breakOf 133 = .ok (.aload_n 0, 1) := by decide +kernel
theorem dX12_breakOf_134 : decode cX12_breakOf 134 = .ok (.getfield 73, 3) := by decide +kernel
theorem dX12_breakOf_137 : decode cX12_breakOf 137 = .ok (.iload 5, 2) := by decide +kernel
theorem dX12_breakOf_139 : decode cX12_breakOf 139 = .ok (.iaload, 1) := by decide +kernel
theorem dX12_breakOf_140 : decode cX12_breakOf 140 = .ok (.istore 4, 2) := by decide +kernel
theorem dX12_breakOf_142 : decode cX12_breakOf 142 = .ok (.iinc 5 1, 3) := by decide +kernel
theorem dX12_breakOf_145 : decode cX12_breakOf 145 = .ok (.goto (-139), 3) := by decide +kernel
theorem dX12_breakOf_148 : decode cX12_breakOf 148 = .ok (.iload 4, 2) := by decide +kernel
theorem dX12_breakOf_150 : decode cX12_breakOf 150 = .ok (.ireturn, 1) := by decide +kernel
theorem dX12_flow_0 : decode cX12_flow 0 = .ok (.iconst 0, 1) := by decide +kernel
theorem dX12_flow_1 : decode cX12_flow 1 = .ok (.istore_n 2, 1) := by decide +kernel
theorem dX12_flow_2 : decode cX12_flow 2 = .ok (.iload_n 2, 1) := by decide +kernel
theorem dX12_flow_3 : decode cX12_flow 3 = .ok (.aload_n 0, 1) := by decide +kernel
theorem dX12_flow_4 : decode cX12_flow 4 = .ok (.getfield 224, 3) := by decide +kernel
theorem dX12_flow_7 : decode cX12_flow 7 = .ok (.if_icmp .ge 157, 3) := by decide +kernel
theorem dX12_flow_10 : decode cX12_flow 10 = .ok (.aload_n 0, 1) := by decide +kernel
theorem dX12_flow_11 : decode cX12_flow 11 = .ok (.getfield 98, 3) := by decide +kernel
theorem dX12_flow_14 : decode cX12_flow 14 = .ok (.aload_n 0, 1) := by decide +kernel
theorem dX12_flow_15 : decode cX12_flow 15 = .ok (.getfield 246, 3) := by decide +kernel
theorem dX12_flow_18 : decode cX12_flow 18 = .ok (.iconst 1, 1) := by decide +kernel
theorem dX12_flow_19 : decode cX12_flow 19 = .ok (.isub, 1) := by decide +kernel
theorem dX12_flow_20 : decode cX12_flow 20 = .ok (.iaload, 1) := by decide +kernel
theorem dX12_flow_21 : decode cX12_flow 21 = .ok (.istore_n 3, 1) := by decide +kernel
theorem dX12_flow_22 : decode cX12_flow 22 = .ok (.aload_n 0, 1) := by decide +kernel
theorem dX12_flow_23 : decode cX12_flow 23 = .ok (.getfield 82, 3) := by decide +kernel
theorem dX12_flow_26 : decode cX12_flow 26 = .ok (.iload_n 3, 1) := by decide +kernel
theorem dX12_flow_27 : decode cX12_flow 27 = .ok (.ifCond .ne 7, 3) := by decide +kernel
theorem dX12_flow_30 : decode cX12_flow 30 = .ok (.iconst 0, 1) := by decide +kernel
theorem dX12_flow_31 : decode cX12_flow 31 = .ok (.goto 6, 3) := by decide +kernel
theorem dX12_flow_34 : decode cX12_flow 34 = .ok (.iload_n 3, 1) := by decide +kernel
theorem dX12_flow_35 : decode cX12_flow 35 = .ok (.iconst 1, 1) := by decide +kernel
theorem dX12_flow_36 : decode cX12_flow 36 = .ok (.iadd, 1) := by decide +kernel
theorem dX12_flow_37 : decode cX12_flow 37 = .ok (.isub, 1) := by decide +kernel
theorem dX12_flow_38 : decode cX12_flow 38 = .ok (.istore 4, 2) := by decide +kernel
theorem dX12_flow_40 : decode cX12_flow 40 = .ok (.aload_n 0, 1) := by decide +kernel
theorem dX12_flow_41 : decode cX12_flow 41 = .ok (.getfield 224, 3) := by decide +kernel
theorem dX12_flow_44 : decode cX12_flow 44 = .ok (.iload_n 2, 1) := by decide +kernel
theorem dX12_flow_45 : decode cX12_flow 45 = .ok (.isub, 1) := by decide +kernel
theorem dX12_flow_46 : decode cX12_flow 46 = .ok (.iload 4, 2) := by decide +kernel
theorem dX12_flow_48 : decode cX12_flow 48 = .ok (.if_icmp .gt 10, 3) := by decide +kernel
theorem dX12_flow_51 : decode cX12_flow 51 = .ok (.aload_n 0, 1) := by decide +kernel
theorem dX12_flow_52 : decode cX12_flow 52 = .ok (.getfield 224, 3) := by decide +kernel
theorem dX12_flow_55 : decode cX12_flow 55 = .ok (.goto 11, 3) := by decide +kernel
theorem dX12_flow_58 : decode cX12_flow 58 = .ok (.aload_n 0, 1) := by decide +kernel
theorem dX12_flow_59 : decode cX12_flow 59 = .ok (.iload_n 1, 1) := by decide +kernel
theorem dX12_flow_60 : decode cX12_flow 60 = .ok (.iload_n 2, 1) := by decide +kernel
theorem dX12_flow_61 : decode cX12_flow 61 = .ok (.iload 4, 2) := by decide +kernel
theorem dX12_flow_63 : decode cX12_flow 63 = .ok (.invokevirtual 249, 3) := by decide +kernel
theorem dX12_flow_66 : decode cX12_flow 66 = .ok (.istore 5, 2) := by decide +kernel
theorem dX12_flow_68 : decode cX12_flow 68 = .ok (.iload 5, 2) := by decide +kernel
theorem dX12_flow_70 : decode cX12_flow 70 = .ok (.ifCond .ge 13, 3) := by decide +kernel
theorem dX12_flow_73 : decode cX12_flow 73 = .ok (.iload_n 3, 1) := by decide +kernel
theorem dX12_flow_74 : decode cX12_flow 74 = .ok (.ifCond .ne 9, 3) := by decide +kernel
theorem dX12_flow_77 : decode cX12_flow 77 = .ok (.aload_n 0, 1) := by decide +kernel
theorem dX12_flow_78 : decode cX12_flow 78 = .ok (.getfield 224, 3) := by decide +kernel
theorem dX12_flow_81 : decode cX12_flow 81 = .ok (.istore 5, 2) := by decide +kernel
theorem dX12_flow_83 : decode cX12_flow 83 = .ok (.iload 5, 2) := by decide +kernel
theorem dX12_flow_85 : decode cX12_flow 85 = .ok (.ifCond .lt 59, 3) := by decide +kernel
theorem dX12_flow_88 : decode cX12_flow 88 = .ok (.iload_n 3, 1) := by decide +kernel
theorem dX12_flow_89 : decode cX12_flow 89 = .ok (.ifCond .le 8, 3) := by decide +kernel
theorem dX12_flow_92 : decode cX12_flow 92 = .ok (.aload_n 0, 1) := by decide +kernel
theorem dX12_flow_93 : decode cX12_flow 93 = .ok (.iconst 0, 1) := by decide +kernel
theorem dX12_flow_94 : decode cX12_flow 94 = .ok (.invokevirtual 253, 3) := by decide +kernel
theorem dX12_flow_97 : decode cX12_flow 97 = .ok (.iload_n 2, 1) := by decide +kernel
theorem dX12_flow_98 : decode cX12_flow 98 = .ok (.istore 6, 2) := by decide +kernel
theorem dX12_flow_100 : decode cX12_flow 100 = .ok (.iload 6, 2) := by decide +kernel
theorem dX12_flow_102 : decode cX12_flow 102 = .ok (.iload 5, 2) := by decide +kernel
theorem dX12_flow_104 : decode cX12_flow 104 = .ok (.if_icmp .ge 20, 3) := by decide +kernel
theorem dX12_flow_107 : decode cX12_flow 107 = .ok (.aload_n 0, 1) := by decide +kernel
theorem dX12_flow_108 : decode cX12_flow 108 = .ok (.aload_n 0, 1) := by decide +kernel
theorem dX12_flow_109 : decode cX12_flow 109 = .ok (.getfield 70, 3) := by decide +kernel
theorem dX12_flow_112 : decode cX12_flow 112 = .ok (.iload 6, 2) := by decide +kernel
theorem dX12_flow_114 : decode cX12_flow 114 = .ok (.iaload, 1) := by decide +kernel
theorem dX12_flow_115 : decode cX12_flow 115 = .ok (.invokevirtual 253, 3) := by decide +kernel
theorem dX12_flow_118 : decode cX12_flow 118 = .ok (.iinc 6 1, 3) := by decide +kernel
theorem dX12_flow_121 : decode cX12_flow 121 = .ok (.goto (-21), 3) := by decide +kernel
theorem dX12_flow_124 : decode cX12_flow 124 = .ok (.iload 5, 2) := by decide +kernel
theorem dX12_flow_126 : decode cX12_flow 126 = .ok (.aload_n 0, 1) := by decide +kernel
theorem dX12_flow_127 : decode cX12_flow 127 = .ok (.getfield 224, 3) := by decide +kernel
theorem dX12_flow_130 : decode cX12_flow 130 = .ok (.if_icmp .ge 11, 3) := by decide +kernel
theorem dX12_flow_133 : decode cX12_flow 133 = .ok (.aload_n 0, 1) := by decide +kernel
theorem dX12_flow_134 : decode cX12_flow 134 = .ok (.aload_n 0, 1) := by decide +kernel
theorem dX12_flow_135 : decode cX12_flow 135 = .ok (.getfield 88, 3) := by decide +kernel
theorem dX12_flow_138 : decode cX12_flow 138 = .ok (.invokevirtual 253, 3) := by decide +kernel
theorem dX12_flow_141 : decode cX12_flow 141 = .ok (.iload 5, 2) := by decide +kernel
theorem dX12_flow_143 : decode cX12_flow 143 = .ok (.istore_n 2, 1) := by decide +kernel
theorem dX12_flow_144 : decode cX12_flow 144 = .ok (.iload_n 2, 1) := by decide +kernel
theorem dX12_flow_145 : decode cX12_flow 145 = .ok (.aload_n 0, 1) := by decide +kernel
theorem dX12_flow_146 : decode cX12_flow 146 = .ok (.getfield 224, 3) := by decide +kernel
theorem dX12_flow_149 : decode cX12_flow 149 = .ok (.if_icmp .ge 12, 3) := by decide +kernel
theorem dX12_flow_152 : decode cX12_flow 152 = .ok (.aload_n 0, 1) := by decide +kernel
theorem dX12_flow_153 : decode cX12_flow 153 = .ok (.invokevirtual 257, 3) := by decide +kernel
theorem dX12_flow_156 : decode cX12_flow 156 = .ok (.ifCond .ne 5, 3) := by decide +kernel
theorem dX12_flow_159 : decode cX12_flow 159 = .ok (.iconst 0, 1) := by decide +kernel
theorem dX12_flow_160 : decode cX12_flow 160 = .ok (.ireturn, 1) := by decide +kernel
theorem dX12_flow_161 : decode cX12_flow 161 = .ok (.goto (-159), 3) := by decide +kernel
theorem dX12_flow_164 : decode cX12_flow 164 = .ok (.iconst 1, 1) := by decide +kernel
theorem dX12_flow_165 : decode cX12_flow 165 = .ok (.ireturn, 1) := by decide +kernel
theorem dX12_centre_0 : decode cX12_centre 0 = .ok (.iload_n 1, 1) := by decide +kernel
theorem dX12_centre_1 : decode cX12_centre 1 = .ok (.istore_n 2, 1) := by decide +kernel
theorem dX12_centre_2 : decode cX12_centre 2 = .ok (.iload_n 2, 1) := by decide +kernel
theorem dX12_centre_3 : decode cX12_centre 3 = .ok (.aload_n 0, 1) := by decide +kernel
theorem dX12_centre_4 : decode cX12_centre 4 = .ok (.getfield 246, 3) := by decide +kernel
theorem dX12_centre_7 : decode cX12_centre 7 = .ok (.if_icmp .ge 137, 3) := by decide +kernel
theorem dX12_centre_10 : decode cX12_centre 10 = .ok (.aload_n 0, 1) := by decide +kernel
theorem dX12_centre_11 : decode cX12_centre 11 = .ok (.getfield 98, 3) := by decide +kernel
theorem dX12_centre_14 : decode cX12_centre 14 = .ok (.iload_n 2, 1) := by decide +kernel
theorem dX12_centre_15 : decode cX12_centre 15 = .ok (.iaload, 1) := by decide +kernel
theorem dX12_centre_16 : decode cX12_centre 16 = .ok (.ifCond .eq 16, 3) := by decide +kernel
theorem dX12_centre_19 : decode cX12_centre 19 = .ok (.aload_n 0, 1) := by decide +kernel
theorem dX12_centre_20 : decode cX12_centre 20 = .ok (.getfield 98, 3) := by decide +kernel
theorem dX12_centre_23 : decode cX12_centre 23 = .ok (.iload_n 2, 1) := by decide +kernel
theorem dX12_centre_24 : decode cX12_centre 24 = .ok (.iaload, 1) := by decide +kernel
theorem dX12_centre_25 : decode cX12_centre 25 = .ok (.aload_n 0, 1) := by decide +kernel
theorem dX12_centre_26 : decode cX12_centre 26 = .ok (.getfield 82, 3) := by decide +kernel
theorem dX12_centre_29 : decode cX12_centre 29 = .ok (.if_icmp .lt 7, 3) := by decide +kernel
theorem dX12_centre_32 : decode cX12_centre 32 = .ok (.iconst 0, 1) := by decide +kernel
theorem dX12_centre_33 : decode cX12_centre 33 = .ok (.goto 16, 3) := by decide +kernel
theorem dX12_centre_36 : decode cX12_centre 36 = .ok (.aload_n 0, 1) := by decide +kernel
theorem dX12_centre_37 : decode cX12_centre 37 = .ok (.getfield 82, 3) := by decide +kernel
theorem dX12_centre_40 : decode cX12_centre 40 = .ok (.aload_n 0, 1) := by decide +kernel
theorem dX12_centre_41 : decode cX12_centre 41 = .ok (.getfield 98, 3) := by decide +kernel
theorem dX12_centre_44 : decode cX12_centre 44 = .ok (.iload_n 2, 1) := by decide +kernel
theorem dX12_centre_45 : decode cX12_centre 45 = .ok (.iaload, 1) := by decide +kernel
theorem dX12_centre_46 : decode cX12_centre 46 = .ok (.isub, 1) := by decide +kernel
theorem dX12_centre_47 : decode cX12_centre 47 = .ok (.iconst 2, 1) := by decide +kernel
theorem dX12_centre_48 : decode cX12_centre 48 = .ok (.idiv, 1) := by decide +kernel
theorem dX12_centre_49 : decode cX12_centre 49 = .ok (.istore_n 3, 1) := by decide +kernel
theorem dX12_centre_50 : decode cX12_centre 50 = .ok (.aload_n 0, 1) := by decide +kernel
theorem dX12_centre_51 : decode cX12_centre 51 = .ok (.getfield 98, 3) := by decide +kernel
theorem dX12_centre_54 : decode cX12_centre 54 = .ok (.iload_n 2, 1) := by decide +kernel
theorem dX12_centre_55 : decode cX12_centre 55 = .ok (.iaload, 1) := by decide +kernel
theorem dX12_centre_56 : decode cX12_centre 56 = .ok (.iconst 1, 1) := by decide +kernel
theorem dX12_centre_57 : decode cX12_centre 57 = .ok (.isub, 1) := by decide +kernel
theorem dX12_centre_58 : decode cX12_centre 58 = .ok (.istore 4, 2) := by decide +kernel
theorem dX12_centre_60 : decode cX12_centre 60 = .ok (.iload 4, 2) := by decide +kernel
theorem dX12_centre_62 : decode cX12_centre 62 = .ok (.ifCond .lt 37, 3) := by decide +kernel
theorem dX12_centre_65 : decode cX12_centre 65 = .ok (.aload_n 0, 1) := by decide +kernel
theorem dX12_centre_66 : decode cX12_centre 66 = .ok (.getfield 101, 3) := by decide +kernel
theorem dX12_centre_69 : decode cX12_centre 69 = .ok (.sipush 200, 3) := by decide +kernel
theorem dX12_centre_72 : decode cX12_centre 72 = .ok (.iload_n 2, 1) := by decide +kernel
theorem dX12_centre_73 : decode cX12_centre 73 = .ok (.imul, 1) := by decide +kernel
theorem dX12_centre_74 : decode cX12_centre 74 = .ok (.iload 4, 2) := by decide +kernel
theorem dX12_centre_76 : decode cX12_centre 76 = .ok (.iadd, 1) := by decide +kernel
theorem dX12_centre_77 : decode cX12_centre 77 = .ok (.iload_n 3, 1) := by decide +kernel
theorem dX12_centre_78 : decode cX12_centre 78 = .ok (.iadd, 1) := by decide +kernel
theorem dX12_centre_79 : decode cX12_centre 79 = .ok (.aload_n 0, 1) := by decide +kernel
theorem dX12_centre_80 : decode cX12_centre 80 = .ok (.getfield 101, 3) := by decide +kernel
theorem dX12_centre_83 : decode cX12_centre 83 = .ok (.sipush 200, 3) := by decide +kernel
theorem dX12_centre_86 : decode cX12_centre 86 = .ok (.iload_n 2, 1) := by decide +kernel
theorem dX12_centre_87 : decode cX12_centre 87 = .ok (.imul, 1) := by decide +kernel
theorem dX12_centre_88 : decode cX12_centre 88 = .ok (.iload 4, 2) := by decide +kernel
theorem dX12_centre_90 : decode cX12_centre 90 = .ok (.iadd, 1) := by decide +kernel
theorem dX12_centre_91 : decode cX12_centre 91 = .ok (.iaload, 1) := by decide +kernel
theorem dX12_centre_92 : decode cX12_centre 92 = .ok (.iastore, 1) := by decide +kernel
theorem dX12_centre_93 : decode cX12_centre 93 = .ok (.iinc 4 (-1), 3) := by decide +kernel
theorem dX12_centre_96 : decode cX12_centre 96 = .ok (.goto (-36), 3) := by decide +kernel
theorem dX12_centre_99 : decode cX12_centre 99 = .ok (.iconst 0, 1) := by decide +kernel
theorem dX12_centre_100 : decode cX12_centre 100 = .ok (.istore 4, 2) := by decide +kernel
theorem dX12_centre_102 : decode cX12_centre 102 = .ok (.iload 4, 2) := by decide +kernel
theorem dX12_centre_104 : decode cX12_centre 104 = .ok (.iload_n 3, 1) := by decide +kernel
theorem dX12_centre_105 : decode cX12_centre 105 = .ok (.if_icmp .ge 23, 3) := by decide +kernel
theorem dX12_centre_108 : decode cX12_centre 108 = .ok (.aload_n 0, 1) := by decide +kernel
theorem dX12_centre_109 : decode cX12_centre 109 = .ok (.getfield 101, 3) := by decide +kernel
theorem dX12_centre_112 : decode cX12_centre 112 = .ok (.sipush 200, 3) := by decide +kernel
theorem dX12_centre_115 : decode cX12_centre 115 = .ok (.iload_n 2, 1) := by decide +kernel
theorem dX12_centre_116 : decode cX12_centre 116 = .ok (.imul, 1) := by decide +kernel
theorem dX12_centre_117 : decode cX12_centre 117 = .ok (.iload 4, 2) := by decide +kernel
theorem dX12_centre_119 : decode cX12_centre 119 = .ok (.iadd, 1) := by decide +kernel
theorem dX12_centre_120 : decode cX12_centre 120 = .ok (.iconst 0, 1) := by decide +kernel
theorem dX12_centre_121 : decode cX12_centre 121 = .ok (.iastore, 1) := by decide +kernel
theorem dX12_centre_122 : decode cX12_centre 122 = .ok (.iinc 4 1, 3) := by decide +kernel
theorem dX12_centre_125 : decode cX12_centre 125 = .ok (.goto (-23), 3) := by decide +kernel
theorem dX12_centre_128 : decode cX12_centre 128 = .ok (.aload_n 0, 1) := by decide +kernel
theorem dX12_centre_129 : decode cX12_centre 129 = .ok (.getfield 98, 3) := by decide +kernel
theorem dX12_centre_132 : decode cX12_centre 132 = .ok (.iload_n 2, 1) := by decide +kernel
theorem dX12_centre_133 : decode cX12_centre 133 = .ok (.dup2, 1) := by decide +kernel
theorem dX12_centre_134 : decode cX12_centre 134 = .ok (.iaload, 1) := by decide +kernel
theorem dX12_centre_135 : decode cX12_centre 135 = .ok (.iload_n 3, 1) := by decide +kernel
theorem dX12_centre_136 : decode cX12_centre 136 = .ok (.iadd, 1) := by decide +kernel
theorem dX12_centre_137 : decode cX12_centre 137 = .ok (.iastore, 1) := by decide +kernel
theorem dX12_centre_138 : decode cX12_centre 138 = .ok (.iinc 2 1, 3) := by decide +kernel
theorem dX12_centre_141 : decode cX12_centre 141 = .ok (.goto (-139), 3) := by decide +kernel
theorem dX12_centre_144 : decode cX12_centre 144 = .ok (.return_, 1) := by decide +kernel
theorem dX12_set_0 : decode cX12_set 0 = .ok (.aload_n 0, 1) := by decide +kernel
theorem dX12_set_1 : decode cX12_set 1 = .ok (.iload_n 1, 1) := by decide +kernel
theorem dX12_set_2 : decode cX12_set 2 = .ok (.invokevirtual 171, 3) := by decide +kernel
theorem dX12_set_5 : decode cX12_set 5 = .ok (.ifCond .ne 9, 3) := by decide +kernel
theorem dX12_set_8 : decode cX12_set 8 = .ok (.aload_n 0, 1) := by decide +kernel
theorem dX12_set_9 : decode cX12_set 9 = .ok (.iconst 3, 1) := by decide +kernel
theorem dX12_set_10 : decode cX12_set 10 = .ok (.invokevirtual 154, 3) := by decide +kernel
theorem dX12_set_13 : decode cX12_set 13 = .ok (.ireturn, 1) := by decide +kernel
theorem dX12_set_14 : decode cX12_set 14 = .ok (.aload_n 0, 1) := by decide +kernel
theorem dX12_set_15 : decode cX12_set 15 = .ok (.iconst 0, 1) := by decide +kernel
theorem dX12_set_16 : decode cX12_set 16 = .ok (.putfield 246, 3) := by decide +kernel
theorem dX12_set_19 : decode cX12_set 19 = .ok (.iconst 0, 1) := by decide +kernel
theorem dX12_set_20 : decode cX12_set 20 = .ok (.istore_n 2, 1) := by decide +kernel
theorem dX12_set_21 : decode cX12_set 21 = .ok (.iload_n 2, 1) := by decide +kernel
theorem dX12_set_22 : decode cX12_set 22 = .ok (.aload_n 0, 1) := by decide +kernel
theorem dX12_set_23 : decode cX12_set 23 = .ok (.getfield 243, 3) := by decide +kernel
theorem dX12_set_26 : decode cX12_set 26 = .ok (.if_icmp .ge 131, 3) := by decide +kernel
theorem dX12_set_29 : decode cX12_set 29 = .ok (.aload_n 0, 1) := by decide +kernel
theorem dX12_set_30 : decode cX12_set 30 = .ok (.iload_n 2, 1) := by decide +kernel
theorem dX12_set_31 : decode cX12_set 31 = .ok (.invokevirtual 261, 3) := by decide +kernel
theorem dX12_set_34 : decode cX12_set 34 = .ok (.istore_n 3, 1) := by decide +kernel
theorem dX12_set_35 : decode cX12_set 35 = .ok (.aload_n 0, 1) := by decide +kernel
theorem dX12_set_36 : decode cX12_set 36 = .ok (.getfield 79, 3) := by decide +kernel
theorem dX12_set_39 : decode cX12_set 39 = .ok (.iload_n 2, 1) := by decide +kernel
theorem dX12_set_40 : decode cX12_set 40 = .ok (.iaload, 1) := by decide +kernel
theorem dX12_set_41 : decode cX12_set 41 = .ok (.bipush 94, 2) := by decide +kernel
theorem dX12_set_43 : decode cX12_set 43 = .ok (.if_icmp .ne 7, 3) := by decide +kernel
theorem dX12_set_46 : decode cX12_set 46 = .ok (.iconst 1, 1) := by decide +kernel
theorem dX12_set_47 : decode cX12_set 47 = .ok (.goto 4, 3) := by decide +kernel
theorem dX12_set_50 : decode cX12_set 50 = .ok (.iconst 0, 1) := by decide +kernel
theorem dX12_set_51 : decode cX12_set 51 = .ok (.istore 4, 2) := by decide +kernel
theorem dX12_set_53 : decode cX12_set 53 = .ok (.aload_n 0, 1) := by decide +kernel
theorem dX12_set_54 : decode cX12_set 54 = .ok (.getfield 246, 3) := by decide +kernel
theorem dX12_set_57 : decode cX12_set 57 = .ok (.istore 5, 2) := by decide +kernel
theorem dX12_set_59 : decode cX12_set 59 = .ok (.aload_n 0, 1) := by decide +kernel
theorem dX12_set_60 : decode cX12_set 60 = .ok (.invokevirtual 257, 3) := by decide +kernel
theorem dX12_set_63 : decode cX12_set 63 = .ok (.ifCond .ne 10, 3) := by decide +kernel
theorem dX12_set_66 : decode cX12_set 66 = .ok (.aload_n 0, 1) := by decide +kernel
theorem dX12_set_67 : decode cX12_set 67 = .ok (.bipush 6, 2) := by decide +kernel
theorem dX12_set_69 : decode cX12_set 69 = .ok (.invokevirtual 154, 3) := by decide +kernel
theorem dX12_set_72 : decode cX12_set 72 = .ok (.ireturn, 1) := by decide +kernel
theorem dX12_set_73 : decode cX12_set 73 = .ok (.aload_n 0, 1) := by decide +kernel
theorem dX12_set_74 : decode cX12_set 74 = .ok (.iload 4, 2) := by decide +kernel
theorem dX12_set_76 : decode cX12_set 76 = .ok (.ifCond .eq 9, 3) := by decide +kernel
theorem dX12_set_79 : decode cX12_set 79 = .ok (.iload_n 2, 1) := by decide +kernel
theorem dX12_set_80 : decode cX12_set 80 = .ok (.iconst 1, 1) := by decide +kernel
theorem dX12_set_81 : decode cX12_set 81 = .ok (.iadd, 1) := by decide +kernel
theorem dX12_set_82 : decode cX12_set 82 = .ok (.goto 4, 3) := by decide +kernel
theorem dX12_set_85 : decode cX12_set 85 = .ok (.iload_n 2, 1) := by decide +kernel
theorem dX12_set_86 : decode cX12_set 86 = .ok (.iload_n 3, 1) := by decide +kernel
theorem dX12_set_87 : decode cX12_set 87 = .ok (.invokevirtual 264, 3) := by decide +kernel
theorem dX12_set_90 : decode cX12_set 90 = .ok (.istore 6, 2) := by decide +kernel
theorem dX12_set_92 : decode cX12_set 92 = .ok (.aload_n 0, 1) := by decide +kernel
theorem dX12_set_93 : decode cX12_set 93 = .ok (.getfield 234, 3) := by decide +kernel
theorem dX12_set_96 : decode cX12_set 96 = .ok (.ifCond .le 43, 3) := by decide +kernel
theorem dX12_set_99 : decode cX12_set 99 = .ok (.aload_n 0, 1) := by decide +kernel
theorem dX12_set_100 : decode cX12_set 100 = .ok (.iload_n 1, 1) := by decide +kernel
theorem dX12_set_101 : decode cX12_set 101 = .ok (.invokevirtual 267, 3) := by decide +kernel
theorem dX12_set_104 : decode cX12_set 104 = .ok (.ifCond .ne 8, 3) := by decide +kernel
theorem dX12_set_107 : decode cX12_set 107 = .ok (.aload_n 0, 1) := by decide +kernel
theorem dX12_set_108 : decode cX12_set 108 = .ok (.invokevirtual 270, 3) := by decide +kernel
theorem dX12_set_111 : decode cX12_set 111 = .ok (.ireturn, 1) := by decide +kernel
theorem dX12_set_112 : decode cX12_set 112 = .ok (.aload_n 0, 1) := by decide +kernel
theorem dX12_set_113 : decode cX12_set 113 = .ok (.iload_n 1, 1) := by decide +kernel
theorem dX12_set_114 : decode cX12_set 114 = .ok (.invokevirtual 273, 3) := by decide +kernel
theorem dX12_set_117 : decode cX12_set 117 = .ok (.ifCond .ne 10, 3) := by decide +kernel
theorem dX12_set_120 : decode cX12_set 120 = .ok (.aload_n 0, 1) := by decide +kernel
theorem dX12_set_121 : decode cX12_set 121 = .ok (.bipush 6, 2) := by decide +kernel
theorem dX12_set_123 : decode cX12_set 123 = .ok (.invokevirtual 154, 3) := by decide +kernel
theorem dX12_set_126 : decode cX12_set 126 = .ok (.ireturn, 1) := by decide +kernel
theorem dX12_set_127 : decode cX12_set 127 = .ok (.aload_n 0, 1) := by decide +kernel
theorem dX12_set_128 : decode cX12_set 128 = .ok (.iload 6, 2) := by decide +kernel
theorem dX12_set_130 : decode cX12_set 130 = .ok (.iload_n 3, 1) := by decide +kernel
theorem dX12_set_131 : decode cX12_set 131 = .ok (.invokevirtual 264, 3) := by decide +kernel
theorem dX12_set_134 : decode cX12_set 134 = .ok (.istore 6, 2) := by decide +kernel
theorem dX12_set_136 : decode cX12_set 136 = .ok (.goto (-44), 3) := by decide +kernel
theorem dX12_set_139 : decode cX12_set 139 = .ok (.iload 4, 2) := by decide +kernel
theorem dX12_set_141 : decode cX12_set 141 = .ok (.ifCond .eq 9, 3) := by decide +kernel
theorem dX12_set_144 : decode cX12_set 144 = .ok (.aload_n 0, 1) := by decide +kernel
theorem dX12_set_145 : decode cX12_set 145 = .ok (.iload 5, 2) := by decide +kernel
theorem dX12_set_147 : decode cX12_set 147 = .ok (.invokevirtual 276, 3) := by decide +kernel
theorem dX12_set_150 : decode cX12_set 150 = .ok (.iload_n 3, 1) := by decide +kernel
theorem dX12_set_151 : decode cX12_set 151 = .ok (.iconst 1, 1) := by decide +kernel
theorem dX12_set_152 : decode cX12_set 152 = .ok (.iadd, 1) := by decide +kernel
theorem dX12_set_153 : decode cX12_set 153 = .ok (.istore_n 2, 1) := by decide +kernel
theorem dX12_set_154 : decode cX12_set 154 = .ok (.goto (-133), 3) := by decide +kernel
theorem dX12_set_157 : decode cX12_set 157 = .ok (.aload_n 0, 1) := by decide +kernel
theorem dX12_set_158 : decode cX12_set 158 = .ok (.aload_n 0, 1) := by decide +kernel
theorem dX12_set_159 : decode cX12_set 159 = .ok (.getfield 246, 3) := by decide +kernel
theorem dX12_set_162 : decode cX12_set 162 = .ok (.putfield 279, 3) := by decide +kernel
theorem dX12_set_165 : decode cX12_set 165 = .ok (.iconst 0, 1) := by decide +kernel
theorem dX12_set_166 : decode cX12_set 166 = .ok (.istore_n 3, 1) := by decide +kernel
theorem dX12_set_167 : decode cX12_set 167 = .ok (.iload_n 3, 1) := by decide +kernel
theorem dX12_set_168 : decode cX12_set 168 = .ok (.aload_n 0, 1) := by decide +kernel
theorem dX12_set_169 : decode cX12_set 169 = .ok (.getfield 279, 3) := by decide +kernel
theorem dX12_set_172 : decode cX12_set 172 = .ok (.if_icmp .ge 67, 3) := by decide +kernel
theorem dX12_set_175 : decode cX12_set 175 = .ok (.aload_n 0, 1) := by decide +kernel
theorem dX12_set_176 : decode cX12_set 176 = .ok (.getfield 91, 3) := by decide +kernel
theorem dX12_set_179 : decode cX12_set 179 = .ok (.iload_n 3, 1) := by decide +kernel
theorem dX12_set_180 : decode cX12_set 180 = .ok (.aload_n 0, 1) := by decide +kernel
theorem dX12_set_181 : decode cX12_set 181 = .ok (.getfield 98, 3) := by decide +kernel
theorem dX12_set_184 : decode cX12_set 184 = .ok (.iload_n 3, 1) := by decide +kernel
theorem dX12_set_185 : decode cX12_set 185 = .ok (.iaload, 1) := by decide +kernel
theorem dX12_set_186 : decode cX12_set 186 = .ok (.iastore, 1) := by decide +kernel
theorem dX12_set_187 : decode cX12_set 187 = .ok (.iconst 0, 1) := by decide +kernel
theorem dX12_set_188 : decode cX12_set 188 = .ok (.istore 4, 2) := by decide +kernel
theorem dX12_set_190 : decode cX12_set 190 = .ok (.iload 4, 2) := by decide +kernel
theorem dX12_set_192 : decode cX12_set 192 = .ok (.aload_n 0, 1) := by decide +kernel
theorem dX12_set_193 : decode cX12_set 193 = .ok (.getfield 98, 3) := by decide +kernel
theorem dX12_set_196 : decode cX12_set 196 = .ok (.iload_n 3, 1) := by decide +kernel
theorem dX12_set_197 : decode cX12_set 197 = .ok (.iaload, 1) := by decide +kernel
theorem dX12_set_198 : decode cX12_set 198 = .ok (.if_icmp .ge 35, 3) := by decide +kernel
theorem dX12_set_201 : decode cX12_set 201 = .ok (.aload_n 0, 1) := by decide +kernel
theorem dX12_set_202 : decode cX12_set 202 = .ok (.getfield 95, 3) := by decide +kernel
theorem dX12_set_205 : decode cX12_set 205 = .ok (.sipush 200, 3) := by decide +kernel
theorem dX12_set_208 : decode cX12_set 208 = .ok (.iload_n 3, 1) := by decide +kernel
theorem dX12_set_209 : decode cX12_set 209 = .ok (.imul, 1) := by decide +kernel
theorem dX12_set_210 : decode cX12_set 210 = .ok (.iload 4, 2) := by decide +kernel
theorem dX12_set_212 : decode cX12_set 212 = .ok (.iadd, 1) := by decide +kernel
theorem dX12_set_213 : decode cX12_set 213 = .ok (.aload_n 0, 1) := by decide +kernel
theorem dX12_set_214 : decode cX12_set 214 = .ok (.getfield 101, 3) := by decide +kernel
theorem dX12_set_217 : decode cX12_set 217 = .ok (.sipush 200, 3) := by decide +kernel
theorem dX12_set_220 : decode cX12_set 220 = .ok (.iload_n 3, 1) := by decide +kernel
theorem dX12_set_221 : decode cX12_set 221 = .ok (.imul, 1) := by decide +kernel
theorem dX12_set_222 : decode cX12_set 222 = .ok (.iload 4, 2) := by decide +kernel
theorem dX12_set_224 : decode cX12_set 224 = .ok (.iadd, 1) := by decide +kernel
theorem dX12_set_225 : decode cX12_set 225 = .ok (.iaload, 1) := by decide +kernel
theorem dX12_set_226 : decode cX12_set 226 = .ok (.iastore, 1) := by decide +kernel
theorem dX12_set_227 : decode cX12_set 227 = .ok (.iinc 4 1, 3) := by decide +kernel
theorem dX12_set_230 : decode cX12_set 230 = .ok (.goto (-40), 3) := by decide +kernel
theorem dX12_set_233 : decode cX12_set 233 = .ok (.iinc 3 1, 3) := by decide +kernel
theorem dX12_set_236 : decode cX12_set 236 = .ok (.goto (-69), 3) := by decide +kernel
theorem dX12_set_239 : decode cX12_set 239 = .ok (.aload_n 0, 1) := by decide +kernel
theorem dX12_set_240 : decode cX12_set 240 = .ok (.aload_n 0, 1) := by decide +kernel
theorem dX12_set_241 : decode cX12_set 241 = .ok (.getfield 279, 3) := by decide +kernel
theorem dX12_set_244 : decode cX12_set 244 = .ok (.invokevirtual 158, 3) := by decide +kernel
theorem dX12_set_247 : decode cX12_set 247 = .ok (.ireturn, 1) := by decide +kernel
theorem dX12_head_0 : decode cX12_head 0 = .ok (.aload_n 0, 1) := by decide +kernel
theorem dX12_head_1 : decode cX12_head 1 = .ok (.invokevirtual 192, 3) := by decide +kernel
theorem dX12_head_4 : decode cX12_head 4 = .ok (.istore_n 2, 1) := by decide +kernel
theorem dX12_head_5 : decode cX12_head 5 = .ok (.iload_n 2, 1) := by decide +kernel
theorem dX12_head_6 : decode cX12_head 6 = .ok (.bipush 40, 2) := by decide +kernel
theorem dX12_head_8 : decode cX12_head 8 = .ok (.if_icmp .gt 7, 3) := by decide +kernel
theorem dX12_head_11 : decode cX12_head 11 = .ok (.iconst 1, 1) := by decide +kernel
theorem dX12_head_12 : decode cX12_head 12 = .ok (.goto 4, 3) := by decide +kernel
theorem dX12_head_15 : decode cX12_head 15 = .ok (.iconst 0, 1) := by decide +kernel
theorem dX12_head_16 : decode cX12_head 16 = .ok (.istore_n 3, 1) := by decide +kernel
theorem dX12_head_17 : decode cX12_head 17 = .ok (.iconst 0, 1) := by decide +kernel
theorem dX12_head_18 : decode cX12_head 18 = .ok (.istore 4, 2) := by decide +kernel
theorem dX12_head_20 : decode cX12_head 20 = .ok (.iload 4, 2) := by decide +kernel
theorem dX12_head_22 : decode cX12_head 22 = .ok (.iload_n 2, 1) := by decide +kernel
theorem dX12_head_23 : decode cX12_head 23 = .ok (.if_icmp .ge 24, 3) := by decide +kernel
theorem dX12_head_26 : decode cX12_head 26 = .ok (.iload_n 3, 1) := by decide +kernel
theorem dX12_head_27 : decode cX12_head 27 = .ok (.ifCond .eq 20, 3) := by decide +kernel
theorem dX12_head_30 : decode cX12_head 30 = .ok (.aload_n 0, 1) := by decide +kernel
theorem dX12_head_31 : decode cX12_head 31 = .ok (.getfield 13, 3) := by decide +kernel
theorem dX12_head_34 : decode cX12_head 34 = .ok (.iload 4, 2) := by decide +kernel
theorem dX12_head_36 : decode cX12_head 36 = .ok (.iaload, 1) := by decide +kernel
theorem dX12_head_37 : decode cX12_head 37 = .ok (.invokestatic 199, 3) := by decide +kernel
theorem dX12_head_40 : decode cX12_head 40 = .ok (.istore_n 3, 1) := by decide +kernel
theorem dX12_head_41 : decode cX12_head 41 = .ok (.iinc 4 1, 3) := by decide +kernel
theorem dX12_head_44 : decode cX12_head 44 = .ok (.goto (-24), 3) := by decide +kernel
theorem dX12_head_47 : decode cX12_head 47 = .ok (.iload_n 3, 1) := by decide +kernel
theorem dX12_head_48 : decode cX12_head 48 = .ok (.ifCond .ne 10, 3) := by decide +kernel
theorem dX12_head_51 : decode cX12_head 51 = .ok (.aload_n 0, 1) := by decide +kernel
theorem dX12_head_52 : decode cX12_head 52 = .ok (.bipush 6, 2) := by decide +kernel
theorem dX12_head_54 : decode cX12_head 54 = .ok (.invokevirtual 154, 3) := by decide +kernel
theorem dX12_head_57 : decode cX12_head 57 = .ok (.ireturn, 1) := by decide +kernel
theorem dX12_head_58 : decode cX12_head 58 = .ok (.aload_n 0, 1) := by decide +kernel
theorem dX12_head_59 : decode cX12_head 59 = .ok (.iload_n 1, 1) := by decide +kernel
theorem dX12_head_60 : decode cX12_head 60 = .ok (.invokevirtual 171, 3) := by decide +kernel
theorem dX12_head_63 : decode cX12_head 63 = .ok (.ifCond .ne 9, 3) := by decide +kernel
theorem dX12_head_66 : decode cX12_head 66 = .ok (.aload_n 0, 1) := by decide +kernel
theorem dX12_head_67 : decode cX12_head 67 = .ok (.iconst 3, 1) := by decide +kernel
theorem dX12_head_68 : decode cX12_head 68 = .ok (.invokevirtual 154, 3) := by decide +kernel
theorem dX12_head_71 : decode cX12_head 71 = .ok (.ireturn, 1) := by decide +kernel
theorem dX12_head_72 : decode cX12_head 72 = .ok (.aload_n 0, 1) := by decide +kernel
theorem dX12_head_73 : decode cX12_head 73 = .ok (.iload_n 2, 1) := by decide +kernel
theorem dX12_head_74 : decode cX12_head 74 = .ok (.putfield 234, 3) := by decide +kernel
theorem dX12_head_77 : decode cX12_head 77 = .ok (.iconst 0, 1) := by decide +kernel
theorem dX12_head_78 : decode cX12_head 78 = .ok (.istore 4, 2) := by decide +kernel
theorem dX12_head_80 : decode cX12_head 80 = .ok (.iload 4, 2) := by decide +kernel
theorem dX12_head_82 : decode cX12_head 82 = .ok (.iload_n 2, 1) := by decide +kernel
theorem dX12_head_83 : decode cX12_head 83 = .ok (.if_icmp .ge 32, 3) := by decide +kernel
theorem dX12_head_86 : decode cX12_head 86 = .ok (.aload_n 0, 1) := by decide +kernel
theorem dX12_head_87 : decode cX12_head 87 = .ok (.getfield 61, 3) := by decide +kernel
theorem dX12_head_90 : decode cX12_head 90 = .ok (.iload 4, 2) := by decide +kernel
theorem dX12_head_92 : decode cX12_head 92 = .ok (.aload_n 0, 1) := by decide +kernel
theorem dX12_head_93 : decode cX12_head 93 = .ok (.getfield 13, 3) := by decide +kernel
theorem dX12_head_96 : decode cX12_head 96 = .ok (.iload 4, 2) := by decide +kernel
theorem dX12_head_98 : decode cX12_head 98 = .ok (.iaload, 1) := by decide +kernel
theorem dX12_head_99 : decode cX12_head 99 = .ok (.iastore, 1) := by decide +kernel
theorem dX12_head_100 : decode cX12_head 100 = .ok (.aload_n 0, 1) := by decide +kernel
theorem dX12_head_101 : decode cX12_head 101 = .ok (.getfield 64, 3) := by decide +kernel
theorem dX12_head_104 : decode cX12_head 104 = .ok (.iload 4, 2) := by decide +kernel
theorem dX12_head_106 : decode cX12_head 106 = .ok (.iload 4, 2) := by decide +kernel
theorem dX12_head_108 : decode cX12_head 108 = .ok (.iastore, 1) := by decide +kernel
theorem dX12_head_109 : decode cX12_head 109 = .ok (.iinc 4 1, 3) := by decide +kernel
theorem dX12_head_112 : decode cX12_head 112 = .ok (.goto (-32), 3) := by decide +kernel
theorem dX12_head_115 : decode cX12_head 115 = .ok (.iload_n 2, 1) := by decide +kernel
theorem dX12_head_116 : decode cX12_head 116 = .ok (.ifCond .ne 11, 3) := by decide +kernel
theorem dX12_head_119 : decode cX12_head 119 = .ok (.aload_n 0, 1) := by decide +kernel
theorem dX12_head_120 : decode cX12_head 120 = .ok (.iconst 0, 1) := by decide +kernel
theorem dX12_head_121 : decode cX12_head 121 = .ok (.putfield 224, 3) := by decide +kernel
theorem dX12_head_124 : decode cX12_head 124 = .ok (.goto 16, 3) := by decide +kernel
theorem dX12_head_127 : decode cX12_head 127 = .ok (.aload_n 0, 1) := by decide +kernel
theorem dX12_head_128 : decode cX12_head 128 = .ok (.iload_n 1, 1) := by decide +kernel
theorem dX12_head_129 : decode cX12_head 129 = .ok (.invokevirtual 267, 3) := by decide +kernel
theorem dX12_head_132 : decode cX12_head 132 = .ok (.ifCond .ne 8, 3) := by decide +kernel
theorem dX12_head_135 : decode cX12_head 135 = .ok (.aload_n 0, 1) := by decide +kernel
theorem dX12_head_136 : decode cX12_head 136 = .ok (.invokevirtual 270, 3) := by decide +kernel
theorem dX12_head_139 : decode cX12_head 139 = .ok (.ireturn, 1) := by decide +kernel
theorem dX12_head_140 : decode cX12_head 140 = .ok (.aload_n 0, 1) := by decide +kernel
theorem dX12_head_141 : decode cX12_head 141 = .ok (.aload_n 0, 1) := by decide +kernel
theorem dX12_head_142 : decode cX12_head 142 = .ok (.getfield 224, 3) := by decide +kernel
theorem dX12_head_145 : decode cX12_head 145 = .ok (.aload_n 0, 1) := by decide +kernel
theorem dX12_head_146 : decode cX12_head 146 = .ok (.getfield 82, 3) := by decide +kernel
theorem dX12_head_149 : decode cX12_head 149 = .ok (.invokestatic 282, 3) := by decide +kernel
theorem dX12_head_152 : decode cX12_head 152 = .ok (.putfield 285, 3) := by decide +kernel
theorem dX12_head_155 : decode cX12_head 155 = .ok (.iconst 0, 1) := by decide +kernel
theorem dX12_head_156 : decode cX12_head 156 = .ok (.istore 4, 2) := by decide +kernel
theorem dX12_head_158 : decode cX12_head 158 = .ok (.iload 4, 2) := by decide +kernel
theorem dX12_head_160 : decode cX12_head 160 = .ok (.aload_n 0, 1) := by decide +kernel
theorem dX12_head_161 : decode cX12_head 161 = .ok (.getfield 285, 3) := by decide +kernel
theorem dX12_head_164 : decode cX12_head 164 = .ok (.if_icmp .ge 23, 3) := by decide +kernel
theorem dX12_head_167 : decode cX12_head 167 = .ok (.aload_n 0, 1) := by decide +kernel
theorem dX12_head_168 : decode cX12_head 168 = .ok (.getfield 104, 3) := by decide +kernel
theorem dX12_head_171 : decode cX12_head 171 = .ok (.iload 4, 2) := by decide +kernel
theorem dX12_head_173 : decode cX12_head 173 = .ok (.aload_n 0, 1) := by decide +kernel
theorem dX12_head_174 : decode cX12_head 174 = .ok (.getfield 70, 3) := by decide +kernel
theorem dX12_head_177 : decode cX12_head 177 = .ok (.iload 4, 2) := by decide +kernel
theorem dX12_head_179 : decode cX12_head 179 = .ok (.iaload, 1) := by decide +kernel
theorem dX12_head_180 : decode cX12_head 180 = .ok (.iastore, 1) := by decide +kernel
theorem dX12_head_181 : decode cX12_head 181 = .ok (.iinc 4 1, 3) := by decide +kernel
theorem dX12_head_184 : decode cX12_head 184 = .ok (.goto (-26), 3) := by decide +kernel
theorem dX12_head_187 : decode cX12_head 187 = .ok (.aload_n 0, 1) := by decide +kernel
theorem dX12_head_188 : decode cX12_head 188 = .ok (.aload_n 0, 1) := by decide +kernel
theorem dX12_head_189 : decode cX12_head 189 = .ok (.getfield 285, 3) := by decide +kernel
theorem dX12_head_192 : decode cX12_head 192 = .ok (.invokevirtual 158, 3) := by decide +kernel
theorem dX12_head_195 : decode cX12_head 195 = .ok (.ireturn, 1) := by decide +kernel
theorem dX12_lines_0 : decode cX12_lines 0 = .ok (.aload_n 0, 1) := by decide +kernel
theorem dX12_lines_1 : decode cX12_lines 1 = .ok (.getfield 279, 3) := by decide +kernel
theorem dX12_lines_4 : decode cX12_lines 4 = .ok (.ireturn, 1) := by decide +kernel
theorem dX12_hasHead_0 : decode cX12_hasHead 0 = .ok (.aload_n 0, 1) := by decide +kernel
theorem dX12_hasHead_1 : decode cX12_hasHead 1 = .ok (.getfield 285, 3) := by decide +kernel
theorem dX12_hasHead_4 : decode cX12_hasHead 4 = .ok (.ifCond .le 15, 3) := by decide +kernel
theorem dX12_hasHead_7 : decode cX12_hasHead 7 = .ok (.aload_n 0, 1) := by decide +kernel
theorem dX12_hasHead_8 : decode cX12_hasHead 8 = .ok (.getfield 85, 3) := by decide +kernel
theorem dX12_hasHead_11 : decode cX12_hasHead 11 = .ok (.iconst 2, 1) := by decide +kernel
theorem dX12_hasHead_12 : decode cX12_hasHead 12 = .ok (.if_icmp .lt 7, 3) := by decide +kernel
theorem dX12_hasHead_15 : decode cX12_hasHead 15 = .ok (.iconst 1, 1) := by decide +kernel
theorem dX12_hasHead_16 : decode cX12_hasHead 16 = .ok (.goto 4, 3) := by decide +kernel
theorem dX12_hasHead_19 : decode cX12_hasHead 19 = .ok (.iconst 0, 1) := by decide +kernel
theorem dX12_hasHead_20 : decode cX12_hasHead 20 = .ok (.ireturn, 1) := by decide +kernel
theorem dX12_onPage_0 : decode cX12_onPage 0 = .ok (.aload_n 0, 1) := by decide +kernel
theorem dX12_onPage_1 : decode cX12_onPage 1 = .ok (.invokevirtual 288, 3) := by decide +kernel
theorem dX12_onPage_4 : decode cX12_onPage 4 = .ok (.ifCond .eq 12, 3) := by decide +kernel
theorem dX12_onPage_7 : decode cX12_onPage 7 = .ok (.aload_n 0, 1) := by decide +kernel
theorem dX12_onPage_8 : decode cX12_onPage 8 = .ok (.getfield 85, 3) := by decide +kernel
theorem dX12_onPage_11 : decode cX12_onPage 11 = .ok (.iconst 1, 1) := by decide +kernel
theorem dX12_onPage_12 : decode cX12_onPage 12 = .ok (.isub, 1) := by decide +kernel
theorem dX12_onPage_13 : decode cX12_onPage 13 = .ok (.goto 7, 3) := by decide +kernel
theorem dX12_onPage_16 : decode cX12_onPage 16 = .ok (.aload_n 0, 1) := by decide +kernel
theorem dX12_onPage_17 : decode cX12_onPage 17 = .ok (.getfield 85, 3) := by decide +kernel
theorem dX12_onPage_20 : decode cX12_onPage 20 = .ok (.ireturn, 1) := by decide +kernel
theorem dX12_pages_0 : decode cX12_pages 0 = .ok (.aload_n 0, 1) := by decide +kernel
theorem dX12_pages_1 : decode cX12_pages 1 = .ok (.getfield 279, 3) := by decide +kernel
theorem dX12_pages_4 : decode cX12_pages 4 = .ok (.aload_n 0, 1) := by decide +kernel
theorem dX12_pages_5 : decode cX12_pages 5 = .ok (.invokevirtual 291, 3) := by decide +kernel
theorem dX12_pages_8 : decode cX12_pages 8 = .ok (.iadd, 1) := by decide +kernel
theorem dX12_pages_9 : decode cX12_pages 9 = .ok (.iconst 1, 1) := by decide +kernel
theorem dX12_pages_10 : decode cX12_pages 10 = .ok (.isub, 1) := by decide +kernel
theorem dX12_pages_11 : decode cX12_pages 11 = .ok (.aload_n 0, 1) := by decide +kernel
theorem dX12_pages_12 : decode cX12_pages 12 = .ok (.invokevirtual 291, 3) := by decide +kernel
theorem dX12_pages_15 : decode cX12_pages 15 = .ok (.idiv, 1) := by decide +kernel
theorem dX12_pages_16 : decode cX12_pages 16 = .ok (.ireturn, 1) := by decide +kernel
theorem dX12_lineFault_0 : decode cX12_lineFault 0 = .ok (.iload_n 1, 1) := by decide +kernel
theorem dX12_lineFault_1 : decode cX12_lineFault 1 = .ok (.iconst 0, 1) := by decide +kernel
theorem dX12_lineFault_2 : decode cX12_lineFault 2 = .ok (.aload_n 0, 1) := by decide +kernel
theorem dX12_lineFault_3 : decode cX12_lineFault 3 = .ok (.getfield 279, 3) := by decide +kernel
theorem dX12_lineFault_6 : decode cX12_lineFault 6 = .ok (.iconst 1, 1) := by decide +kernel
theorem dX12_lineFault_7 : decode cX12_lineFault 7 = .ok (.isub, 1) := by decide +kernel
theorem dX12_lineFault_8 : decode cX12_lineFault 8 = .ok (.invokestatic 174, 3) := by decide +kernel
theorem dX12_lineFault_11 : decode cX12_lineFault 11 = .ok (.ifCond .ne 7, 3) := by decide +kernel
theorem dX12_lineFault_14 : decode cX12_lineFault 14 = .ok (.iconst 2, 1) := by decide +kernel
theorem dX12_lineFault_15 : decode cX12_lineFault 15 = .ok (.goto 17, 3) := by decide +kernel
theorem dX12_lineFault_18 : decode cX12_lineFault 18 = .ok (.aload_n 0, 1) := by decide +kernel
theorem dX12_lineFault_19 : decode cX12_lineFault 19 = .ok (.getfield 91, 3) := by decide +kernel
theorem dX12_lineFault_22 : decode cX12_lineFault 22 = .ok (.iload_n 1, 1) := by decide +kernel
theorem dX12_lineFault_23 : decode cX12_lineFault 23 = .ok (.iaload, 1) := by decide +kernel
theorem dX12_lineFault_24 : decode cX12_lineFault 24 = .ok (.ifCond .ge 7, 3) := by decide +kernel
theorem dX12_lineFault_27 : decode cX12_lineFault 27 = .ok (.iconst 1, 1) := by decide +kernel
theorem dX12_lineFault_28 : decode cX12_lineFault 28 = .ok (.goto 4, 3) := by decide +kernel
theorem dX12_lineFault_31 : decode cX12_lineFault 31 = .ok (.iconst 0, 1) := by decide +kernel
theorem dX12_lineFault_32 : decode cX12_lineFault 32 = .ok (.ireturn, 1) := by decide +kernel
theorem dX12_length_0 : decode cX12_length 0 = .ok (.aload_n 0, 1) := by decide +kernel
theorem dX12_length_1 : decode cX12_length 1 = .ok (.iload_n 1, 1) := by decide +kernel
theorem dX12_length_2 : decode cX12_length 2 = .ok (.invokevirtual 294, 3) := by decide +kernel
theorem dX12_length_5 : decode cX12_length 5 = .ok (.ifCond .le 15, 3) := by decide +kernel
theorem dX12_length_8 : decode cX12_length 8 = .ok (.aload_n 0, 1) := by decide +kernel
theorem dX12_length_9 : decode cX12_length 9 = .ok (.aload_n 0, 1) := by decide +kernel
theorem dX12_length_10 : decode cX12_length 10 = .ok (.iload_n 1, 1) := by decide +kernel
theorem dX12_length_11 : decode cX12_length 11 = .ok (.invokevirtual 294, 3) := by decide +kernel
theorem dX12_length_14 : decode cX12_length 14 = .ok (.invokevirtual 154, 3) := by decide +kernel
theorem dX12_length_17 : decode cX12_length 17 = .ok (.goto 13, 3) := by decide +kernel
theorem dX12_length_20 : decode cX12_length 20 = .ok (.aload_n 0, 1) := by decide +kernel
theorem dX12_length_21 : decode cX12_length 21 = .ok (.aload_n 0, 1) := by decide +kernel
theorem dX12_length_22 : decode cX12_length 22 = .ok (.getfield 91, 3) := by decide +kernel
theorem dX12_length_25 : decode cX12_length 25 = .ok (.iload_n 1, 1) := by decide +kernel
theorem dX12_length_26 : decode cX12_length 26 = .ok (.iaload, 1) := by decide +kernel
theorem dX12_length_27 : decode cX12_length 27 = .ok (.invokevirtual 158, 3) := by decide +kernel
theorem dX12_length_30 : decode cX12_length 30 = .ok (.ireturn, 1) := by decide +kernel
theorem dX12_cell_0 : decode cX12_cell 0 = .ok (.aload_n 0, 1) := by decide +kernel
theorem dX12_cell_1 : decode cX12_cell 1 = .ok (.iload_n 1, 1) := by decide +kernel
theorem dX12_cell_2 : decode cX12_cell 2 = .ok (.invokevirtual 294, 3) := by decide +kernel
theorem dX12_cell_5 : decode cX12_cell 5 = .ok (.ifCond .le 13, 3) := by decide +kernel
theorem dX12_cell_8 : decode cX12_cell 8 = .ok (.aload_n 0, 1) := by decide +kernel
theorem dX12_cell_9 : decode cX12_cell 9 = .ok (.aload_n 0, 1) := by decide +kernel
theorem dX12_cell_10 : decode cX12_cell 10 = .ok (.iload_n 1, 1) := by decide +kernel
theorem dX12_cell_11 : decode cX12_cell 11 = .ok (.invokevirtual 294, 3) := by decide +kernel
theorem dX12_cell_14 : decode cX12_cell 14 = .ok (.invokevirtual 154, 3) := by decide +kernel
theorem dX12_cell_17 : decode cX12_cell 17 = .ok (.ireturn, 1) := by decide +kernel
theorem dX12_cell_18 : decode cX12_cell 18 = .ok (.iload_n 2, 1) := by decide +kernel
theorem dX12_cell_19 : decode cX12_cell 19 = .ok (.iconst 0, 1) := by decide +kernel
theorem dX12_cell_20 : decode cX12_cell 20 = .ok (.aload_n 0, 1) := by decide +kernel
theorem dX12_cell_21 : decode cX12_cell 21 = .ok (.getfield 91, 3) := by decide +kernel
theorem dX12_cell_24 : decode cX12_cell 24 = .ok (.iload_n 1, 1) := by decide +kernel
theorem dX12_cell_25 : decode cX12_cell 25 = .ok (.iaload, 1) := by decide +kernel
theorem dX12_cell_26 : decode cX12_cell 26 = .ok (.iconst 1, 1) := by decide +kernel
theorem dX12_cell_27 : decode cX12_cell 27 = .ok (.isub, 1) := by decide +kernel
theorem dX12_cell_28 : decode cX12_cell 28 = .ok (.invokestatic 174, 3) := by decide +kernel
theorem dX12_cell_31 : decode cX12_cell 31 = .ok (.ifCond .eq 22, 3) := by decide +kernel
theorem dX12_cell_34 : decode cX12_cell 34 = .ok (.aload_n 0, 1) := by decide +kernel
theorem dX12_cell_35 : decode cX12_cell 35 = .ok (.aload_n 0, 1) := by decide +kernel
theorem dX12_cell_36 : decode cX12_cell 36 = .ok (.getfield 95, 3) := by decide +kernel
theorem dX12_cell_39 : decode cX12_cell 39 = .ok (.sipush 200, 3) := by decide +kernel
theorem dX12_cell_42 : decode cX12_cell 42 = .ok (.iload_n 1, 1) := by decide +kernel
theorem dX12_cell_43 : decode cX12_cell 43 = .ok (.imul, 1) := by decide +kernel
theorem dX12_cell_44 : decode cX12_cell 44 = .ok (.iload_n 2, 1) := by decide +kernel
theorem dX12_cell_45 : decode cX12_cell 45 = .ok (.iadd, 1) := by decide +kernel
theorem dX12_cell_46 : decode cX12_cell 46 = .ok (.iaload, 1) := by decide +kernel
theorem dX12_cell_47 : decode cX12_cell 47 = .ok (.invokevirtual 158, 3) := by decide +kernel
theorem dX12_cell_50 : decode cX12_cell 50 = .ok (.goto 8, 3) := by decide +kernel
theorem dX12_cell_53 : decode cX12_cell 53 = .ok (.aload_n 0, 1) := by decide +kernel
theorem dX12_cell_54 : decode cX12_cell 54 = .ok (.iconst 2, 1) := by decide +kernel
theorem dX12_cell_55 : decode cX12_cell 55 = .ok (.invokevirtual 154, 3) := by decide +kernel
theorem dX12_cell_58 : decode cX12_cell 58 = .ok (.ireturn, 1) := by decide +kernel
theorem dX12_page_0 : decode cX12_page 0 = .ok (.iload_n 1, 1) := by decide +kernel
theorem dX12_page_1 : decode cX12_page 1 = .ok (.iconst 0, 1) := by decide +kernel
theorem dX12_page_2 : decode cX12_page 2 = .ok (.aload_n 0, 1) := by decide +kernel
theorem dX12_page_3 : decode cX12_page 3 = .ok (.invokevirtual 297, 3) := by decide +kernel
theorem dX12_page_6 : decode cX12_page 6 = .ok (.iconst 1, 1) := by decide +kernel
theorem dX12_page_7 : decode cX12_page 7 = .ok (.isub, 1) := by decide +kernel
theorem dX12_page_8 : decode cX12_page 8 = .ok (.invokestatic 174, 3) := by decide +kernel
theorem dX12_page_11 : decode cX12_page 11 = .ok (.ifCond .ne 9, 3) := by decide +kernel
theorem dX12_page_14 : decode cX12_page 14 = .ok (.aload_n 0, 1) := by decide +kernel
theorem dX12_page_15 : decode cX12_page 15 = .ok (.iconst 2, 1) := by decide +kernel
theorem dX12_page_16 : decode cX12_page 16 = .ok (.invokevirtual 154, 3) := by decide +kernel
theorem dX12_page_19 : decode cX12_page 19 = .ok (.ireturn, 1) := by decide +kernel
theorem dX12_page_20 : decode cX12_page 20 = .ok (.aload_n 0, 1) := by decide +kernel
theorem dX12_page_21 : decode cX12_page 21 = .ok (.invokevirtual 288, 3) := by decide +kernel
theorem dX12_page_24 : decode cX12_page 24 = .ok (.ifCond .eq 40, 3) := by decide +kernel
theorem dX12_page_27 : decode cX12_page 27 = .ok (.iload_n 2, 1) := by decide +kernel
theorem dX12_page_28 : decode cX12_page 28 = .ok (.ifCond .ne 36, 3) := by decide +kernel
theorem dX12_page_31 : decode cX12_page 31 = .ok (.iload_n 3, 1) := by decide +kernel
theorem dX12_page_32 : decode cX12_page 32 = .ok (.iconst 0, 1) := by decide +kernel
theorem dX12_page_33 : decode cX12_page 33 = .ok (.aload_n 0, 1) := by decide +kernel
theorem dX12_page_34 : decode cX12_page 34 = .ok (.getfield 285, 3) := by decide +kernel
theorem dX12_page_37 : decode cX12_page 37 = .ok (.iconst 1, 1) := by decide +kernel
theorem dX12_page_38 : decode cX12_page 38 = .ok (.isub, 1) := by decide +kernel
theorem dX12_page_39 : decode cX12_page 39 = .ok (.invokestatic 174, 3) := by decide +kernel
theorem dX12_page_42 : decode cX12_page 42 = .ok (.ifCond .eq 16, 3) := by decide +kernel
theorem dX12_page_45 : decode cX12_page 45 = .ok (.aload_n 0, 1) := by decide +kernel
theorem dX12_page_46 : decode cX12_page 46 = .ok (.aload_n 0, 1) := by decide +kernel
theorem dX12_page_47 : decode cX12_page 47 = .ok (.getfield 104, 3) := by decide +kernel
theorem dX12_page_50 : decode cX12_page 50 = .ok (.iload_n 3, 1) := by decide +kernel
theorem dX12_page_51 : decode cX12_page 51 = .ok (.iaload, 1) := by decide +kernel
theorem dX12_page_52 : decode cX12_page 52 = .ok (.invokevirtual 158, 3) := by decide +kernel
theorem dX12_page_55 : decode cX12_page 55 = .ok (.goto 8, 3) := by decide +kernel
theorem dX12_page_58 : decode cX12_page 58 = .ok (.aload_n 0, 1) := by decide +kernel
theorem dX12_page_59 : decode cX12_page 59 = .ok (.iconst 2, 1) := by decide +kernel
theorem dX12_page_60 : decode cX12_page 60 = .ok (.invokevirtual 154, 3) := by decide +kernel
theorem dX12_page_63 : decode cX12_page 63 = .ok (.ireturn, 1) := by decide +kernel
theorem dX12_page_64 : decode cX12_page 64 = .ok (.aload_n 0, 1) := by decide +kernel
theorem dX12_page_65 : decode cX12_page 65 = .ok (.invokevirtual 288, 3) := by decide +kernel
theorem dX12_page_68 : decode cX12_page 68 = .ok (.ifCond .eq 9, 3) := by decide +kernel
theorem dX12_page_71 : decode cX12_page 71 = .ok (.iload_n 2, 1) := by decide +kernel
theorem dX12_page_72 : decode cX12_page 72 = .ok (.iconst 1, 1) := by decide +kernel
theorem dX12_page_73 : decode cX12_page 73 = .ok (.isub, 1) := by decide +kernel
theorem dX12_page_74 : decode cX12_page 74 = .ok (.goto 4, 3) := by decide +kernel
theorem dX12_page_77 : decode cX12_page 77 = .ok (.iload_n 2, 1) := by decide +kernel
theorem dX12_page_78 : decode cX12_page 78 = .ok (.istore 4, 2) := by decide +kernel
theorem dX12_page_80 : decode cX12_page 80 = .ok (.iload 4, 2) := by decide +kernel
theorem dX12_page_82 : decode cX12_page 82 = .ok (.iconst 0, 1) := by decide +kernel
theorem dX12_page_83 : decode cX12_page 83 = .ok (.aload_n 0, 1) := by decide +kernel
theorem dX12_page_84 : decode cX12_page 84 = .ok (.invokevirtual 291, 3) := by decide +kernel
theorem dX12_page_87 : decode cX12_page 87 = .ok (.iconst 1, 1) := by decide +kernel
theorem dX12_page_88 : decode cX12_page 88 = .ok (.isub, 1) := by decide +kernel
theorem dX12_page_89 : decode cX12_page 89 = .ok (.invokestatic 174, 3) := by decide +kernel
theorem dX12_page_92 : decode cX12_page 92 = .ok (.ifCond .ne 9, 3) := by decide +kernel
theorem dX12_page_95 : decode cX12_page 95 = .ok (.aload_n 0, 1) := by decide +kernel
theorem dX12_page_96 : decode cX12_page 96 = .ok (.iconst 2, 1) := by decide +kernel
theorem dX12_page_97 : decode cX12_page 97 = .ok (.invokevirtual 154, 3) := by decide +kernel
theorem dX12_page_100 : decode cX12_page 100 = .ok (.ireturn, 1) := by decide +kernel
theorem dX12_page_101 : decode cX12_page 101 = .ok (.aload_n 0, 1) := by decide +kernel
theorem dX12_page_102 : decode cX12_page 102 = .ok (.iload_n 1, 1) := by decide +kernel
theorem dX12_page_103 : decode cX12_page 103 = .ok (.aload_n 0, 1) := by decide +kernel
theorem dX12_page_104 : decode cX12_page 104 = .ok (.invokevirtual 291, 3) := by decide +kernel
theorem dX12_page_107 : decode cX12_page 107 = .ok (.imul, 1) := by decide +kernel
theorem dX12_page_108 : decode cX12_page 108 = .ok (.iload 4, 2) := by decide +kernel
theorem dX12_page_110 : decode cX12_page 110 = .ok (.iadd, 1) := by decide +kernel
theorem dX12_page_111 : decode cX12_page 111 = .ok (.iload_n 3, 1) := by decide +kernel
theorem dX12_page_112 : decode cX12_page 112 = .ok (.invokevirtual 300, 3) := by decide +kernel
theorem dX12_page_115 : decode cX12_page 115 = .ok (.ireturn, 1) := by decide +kernel
theorem dX12_cut_0 : decode cX12_cut 0 = .ok (.iload_n 2, 1) := by decide +kernel
theorem dX12_cut_1 : decode cX12_cut 1 = .ok (.sipush 200, 3) := by decide +kernel
theorem dX12_cut_4 : decode cX12_cut 4 = .ok (.if_icmp .le 10, 3) := by decide +kernel
theorem dX12_cut_7 : decode cX12_cut 7 = .ok (.aload_n 0, 1) := by decide +kernel
theorem dX12_cut_8 : decode cX12_cut 8 = .ok (.bipush 6, 2) := by decide +kernel
theorem dX12_cut_10 : decode cX12_cut 10 = .ok (.invokevirtual 154, 3) := by decide +kernel
theorem dX12_cut_13 : decode cX12_cut 13 = .ok (.ireturn, 1) := by decide +kernel
theorem dX12_cut_14 : decode cX12_cut 14 = .ok (.iload_n 2, 1) := by decide +kernel
theorem dX12_cut_15 : decode cX12_cut 15 = .ok (.ifCond .ge 9, 3) := by decide +kernel
theorem dX12_cut_18 : decode cX12_cut 18 = .ok (.aload_n 0, 1) := by decide +kernel
theorem dX12_cut_19 : decode cX12_cut 19 = .ok (.iconst 5, 1) := by decide +kernel
theorem dX12_cut_20 : decode cX12_cut 20 = .ok (.invokevirtual 154, 3) := by decide +kernel
theorem dX12_cut_23 : decode cX12_cut 23 = .ok (.ireturn, 1) := by decide +kernel
theorem dX12_cut_24 : decode cX12_cut 24 = .ok (.aload_n 0, 1) := by decide +kernel
theorem dX12_cut_25 : decode cX12_cut 25 = .ok (.iload_n 1, 1) := by decide +kernel
theorem dX12_cut_26 : decode cX12_cut 26 = .ok (.invokevirtual 294, 3) := by decide +kernel
theorem dX12_cut_29 : decode cX12_cut 29 = .ok (.ifCond .le 13, 3) := by decide +kernel
theorem dX12_cut_32 : decode cX12_cut 32 = .ok (.aload_n 0, 1) := by decide +kernel
theorem dX12_cut_33 : decode cX12_cut 33 = .ok (.aload_n 0, 1) := by decide +kernel
theorem dX12_cut_34 : decode cX12_cut 34 = .ok (.iload_n 1, 1) := by decide +kernel
theorem dX12_cut_35 : decode cX12_cut 35 = .ok (.invokevirtual 294, 3) := by decide +kernel
theorem dX12_cut_38 : decode cX12_cut 38 = .ok (.invokevirtual 154, 3) := by decide +kernel
theorem dX12_cut_41 : decode cX12_cut 41 = .ok (.ireturn, 1) := by decide +kernel
theorem dX12_cut_42 : decode cX12_cut 42 = .ok (.aload_n 0, 1) := by decide +kernel
theorem dX12_cut_43 : decode cX12_cut 43 = .ok (.getfield 91, 3) := by decide +kernel
theorem dX12_cut_46 : decode cX12_cut 46 = .ok (.iload_n 1, 1) := by decide +kernel
theorem dX12_cut_47 : decode cX12_cut 47 = .ok (.iaload, 1) := by decide +kernel
theorem dX12_cut_48 : decode cX12_cut 48 = .ok (.istore_n 3, 1) := by decide +kernel
theorem dX12_cut_49 : decode cX12_cut 49 = .ok (.iload_n 3, 1) := by decide +kernel
theorem dX12_cut_50 : decode cX12_cut 50 = .ok (.iload_n 2, 1) := by decide +kernel
theorem dX12_cut_51 : decode cX12_cut 51 = .ok (.if_icmp .ge 22, 3) := by decide +kernel
theorem dX12_cut_54 : decode cX12_cut 54 = .ok (.aload_n 0, 1) := by decide +kernel
theorem dX12_cut_55 : decode cX12_cut 55 = .ok (.getfield 95, 3) := by decide +kernel
theorem dX12_cut_58 : decode cX12_cut 58 = .ok (.sipush 200, 3) := by decide +kernel
theorem dX12_cut_61 : decode cX12_cut 61 = .ok (.iload_n 1, 1) := by decide +kernel
theorem dX12_cut_62 : decode cX12_cut 62 = .ok (.imul, 1) := by decide +kernel
theorem dX12_cut_63 : decode cX12_cut 63 = .ok (.iload_n 3, 1) := by decide +kernel
theorem dX12_cut_64 : decode cX12_cut 64 = .ok (.iadd, 1) := by decide +kernel
theorem dX12_cut_65 : decode cX12_cut 65 = .ok (.iconst 0, 1) := by decide +kernel
theorem dX12_cut_66 : decode cX12_cut 66 = .ok (.iastore, 1) := by decide +kernel
theorem dX12_cut_67 : decode cX12_cut 67 = .ok (.iinc 3 1, 3) := by decide +kernel
theorem dX12_cut_70 : decode cX12_cut 70 = .ok (.goto (-21), 3) := by decide +kernel
theorem dX12_cut_73 : decode cX12_cut 73 = .ok (.aload_n 0, 1) := by decide +kernel
theorem dX12_cut_74 : decode cX12_cut 74 = .ok (.getfield 91, 3) := by decide +kernel
theorem dX12_cut_77 : decode cX12_cut 77 = .ok (.iload_n 1, 1) := by decide +kernel
theorem dX12_cut_78 : decode cX12_cut 78 = .ok (.iload_n 2, 1) := by decide +kernel
theorem dX12_cut_79 : decode cX12_cut 79 = .ok (.iastore, 1) := by decide +kernel
theorem dX12_cut_80 : decode cX12_cut 80 = .ok (.aload_n 0, 1) := by decide +kernel
theorem dX12_cut_81 : decode cX12_cut 81 = .ok (.iload_n 2, 1) := by decide +kernel
theorem dX12_cut_82 : decode cX12_cut 82 = .ok (.invokevirtual 158, 3) := by decide +kernel
theorem dX12_cut_85 : decode cX12_cut 85 = .ok (.ireturn, 1) := by decide +kernel
theorem dX12_lose_0 : decode cX12_lose 0 = .ok (.iload_n 1, 1) := by decide +kernel
theorem dX12_lose_1 : decode cX12_lose 1 = .ok (.iconst 0, 1) := by decide +kernel
theorem dX12_lose_2 : decode cX12_lose 2 = .ok (.aload_n 0, 1) := by decide +kernel
theorem dX12_lose_3 : decode cX12_lose 3 = .ok (.getfield 279, 3) := by decide +kernel
theorem dX12_lose_6 : decode cX12_lose 6 = .ok (.iconst 1, 1) := by decide +kernel
theorem dX12_lose_7 : decode cX12_lose 7 = .ok (.isub, 1) := by decide +kernel
theorem dX12_lose_8 : decode cX12_lose 8 = .ok (.invokestatic 174, 3) := by decide +kernel
theorem dX12_lose_11 : decode cX12_lose 11 = .ok (.ifCond .ne 9, 3) := by decide +kernel
theorem dX12_lose_14 : decode cX12_lose 14 = .ok (.aload_n 0, 1) := by decide +kernel
theorem dX12_lose_15 : decode cX12_lose 15 = .ok (.iconst 2, 1) := by decide +kernel
theorem dX12_lose_16 : decode cX12_lose 16 = .ok (.invokevirtual 154, 3) := by decide +kernel
theorem dX12_lose_19 : decode cX12_lose 19 = .ok (.ireturn, 1) := by decide +kernel
theorem dX12_lose_20 : decode cX12_lose 20 = .ok (.aload_n 0, 1) := by decide +kernel
theorem dX12_lose_21 : decode cX12_lose 21 = .ok (.getfield 91, 3) := by decide +kernel
theorem dX12_lose_24 : decode cX12_lose 24 = .ok (.iload_n 1, 1) := by decide +kernel
theorem dX12_lose_25 : decode cX12_lose 25 = .ok (.iconst (-1), 1) := by decide +kernel
theorem dX12_lose_26 : decode cX12_lose 26 = .ok (.iastore, 1) := by decide +kernel
theorem dX12_lose_27 : decode cX12_lose 27 = .ok (.aload_n 0, 1) := by decide +kernel
theorem dX12_lose_28 : decode cX12_lose 28 = .ok (.iconst 1, 1) := by decide +kernel
theorem dX12_lose_29 : decode cX12_lose 29 = .ok (.invokevirtual 158, 3) := by decide +kernel
theorem dX12_lose_32 : decode cX12_lose 32 = .ok (.ireturn, 1) := by decide +kernel
theorem dX12_copyRow_0 : decode cX12_copyRow 0 = .ok (.iload_n 1, 1) := by decide +kernel
theorem dX12_copyRow_1 : decode cX12_copyRow 1 = .ok (.iconst 0, 1) := by decide +kernel
theorem dX12_copyRow_2 : decode cX12_copyRow 2 = .ok (.aload_n 0, 1) := by decide +kernel
theorem dX12_copyRow_3 : decode cX12_copyRow 3 = .ok (.getfield 279, 3) := by decide +kernel
theorem dX12_copyRow_6 : decode cX12_copyRow 6 = .ok (.iconst 1, 1) := by decide +kernel
theorem dX12_copyRow_7 : decode cX12_copyRow 7 = .ok (.isub, 1) := by decide +kernel
theorem dX12_copyRow_8 : decode cX12_copyRow 8 = .ok (.invokestatic 174, 3) := by decide +kernel
theorem dX12_copyRow_11 : decode cX12_copyRow 11 = .ok (.ifCond .eq 17, 3) := by decide +kernel
theorem dX12_copyRow_14 : decode cX12_copyRow 14 = .ok (.iload_n 3, 1) := by decide +kernel
theorem dX12_copyRow_15 : decode cX12_copyRow 15 = .ok (.iconst 0, 1) := by decide +kernel
theorem dX12_copyRow_16 : decode cX12_copyRow 16 = .ok (.aload_n 0, 1) := by decide +kernel
theorem dX12_copyRow_17 : decode cX12_copyRow 17 = .ok (.getfield 279, 3) := by decide +kernel
theorem dX12_copyRow_20 : decode cX12_copyRow 20 = .ok (.iconst 1, 1) := by decide +kernel
theorem dX12_copyRow_21 : decode cX12_copyRow 21 = .ok (.isub, 1) := by decide +kernel
theorem dX12_copyRow_22 : decode cX12_copyRow 22 = .ok (.invokestatic 174, 3) := by decide +kernel
theorem dX12_copyRow_25 : decode cX12_copyRow 25 = .ok (.ifCond .ne 9, 3) := by decide +kernel
theorem dX12_copyRow_28 : decode cX12_copyRow 28 = .ok (.aload_n 0, 1) := by decide +kernel
theorem dX12_copyRow_29 : decode cX12_copyRow 29 = .ok (.iconst 2, 1) := by decide +kernel
theorem dX12_copyRow_30 : decode cX12_copyRow 30 = .ok (.invokevirtual 154, 3) := by decide +kernel
theorem dX12_copyRow_33 : decode cX12_copyRow 33 = .ok (.ireturn, 1) := by decide +kernel
theorem dX12_copyRow_34 : decode cX12_copyRow 34 = .ok (.aload_n 0, 1) := by decide +kernel
theorem dX12_copyRow_35 : decode cX12_copyRow 35 = .ok (.getfield 91, 3) := by decide +kernel
theorem dX12_copyRow_38 : decode cX12_copyRow 38 = .ok (.iload_n 1, 1) := by decide +kernel
theorem dX12_copyRow_39 : decode cX12_copyRow 39 = .ok (.iaload, 1) := by decide +kernel
theorem dX12_copyRow_40 : decode cX12_copyRow 40 = .ok (.ifCond .lt 12, 3) := by decide +kernel
theorem dX12_copyRow_43 : decode cX12_copyRow 43 = .ok (.aload_n 0, 1) := by decide +kernel
theorem dX12_copyRow_44 : decode cX12_copyRow 44 = .ok (.getfield 91, 3) := by decide +kernel
theorem dX12_copyRow_47 : decode cX12_copyRow 47 = .ok (.iload_n 3, 1) := by decide +kernel
theorem dX12_copyRow_48 : decode cX12_copyRow 48 = .ok (.iaload, 1) := by decide +kernel
theorem dX12_copyRow_49 : decode cX12_copyRow 49 = .ok (.ifCond .ge 9, 3) := by decide +kernel
theorem dX12_copyRow_52 : decode cX12_copyRow 52 = .ok (.aload_n 0, 1) := by decide +kernel
theorem dX12_copyRow_53 : decode cX12_copyRow 53 = .ok (.iconst 1, 1) := by decide +kernel
theorem dX12_copyRow_54 : decode cX12_copyRow 54 = .ok (.invokevirtual 154, 3) := by decide +kernel
theorem dX12_copyRow_57 : decode cX12_copyRow 57 = .ok (.ireturn, 1) := by decide +kernel
theorem dX12_copyRow_58 : decode cX12_copyRow 58 = .ok (.iload 5, 2) := by decide +kernel
theorem dX12_copyRow_60 : decode cX12_copyRow 60 = .ok (.ifCond .lt 39, 3) := by decide +kernel
theorem dX12_copyRow_63 : decode cX12_copyRow 63 = .ok (.iload_n 2, 1) := by decide +kernel
theorem dX12_copyRow_64 : decode cX12_copyRow 64 = .ok (.ifCond .lt 35, 3) := by decide +kernel
theorem dX12_copyRow_67 : decode cX12_copyRow 67 = .ok (.iload 4, 2) := by decide +kernel
theorem dX12_copyRow_69 : decode cX12_copyRow 69 = .ok (.ifCond .lt 30, 3) := by decide +kernel
theorem dX12_copyRow_72 : decode cX12_copyRow 72 = .ok (.iload 5, 2) := by decide +kernel
theorem dX12_copyRow_74 : decode cX12_copyRow 74 = .ok (.aload_n 0, 1) := by decide +kernel
theorem dX12_copyRow_75 : decode cX12_copyRow 75 = .ok (.getfield 91, 3) := by decide +kernel
theorem dX12_copyRow_78 : decode cX12_copyRow 78 = .ok (.iload_n 1, 1) := by decide +kernel
theorem dX12_copyRow_79 : decode cX12_copyRow 79 = .ok (.iaload, 1) := by decide +kernel
theorem dX12_copyRow_80 : decode cX12_copyRow 80 = .ok (.iload_n 2, 1) := by decide +kernel
theorem dX12_copyRow_81 : decode cX12_copyRow 81 = .ok (.isub, 1) := by decide +kernel
theorem dX12_copyRow_82 : decode cX12_copyRow 82 = .ok (.if_icmp .gt 17, 3) := by decide +kernel
theorem dX12_copyRow_85 : decode cX12_copyRow 85 = .ok (.iload 5, 2) := by decide +kernel
theorem dX12_copyRow_87 : decode cX12_copyRow 87 = .ok (.aload_n 0, 1) := by decide +kernel
theorem dX12_copyRow_88 : decode cX12_copyRow 88 = .ok (.getfield 91, 3) := by decide +kernel
theorem dX12_copyRow_91 : decode cX12_copyRow 91 = .ok (.iload_n 3, 1) := by decide +kernel
theorem dX12_copyRow_92 : decode cX12_copyRow 92 = .ok (.iaload, 1) := by decide +kernel
theorem dX12_copyRow_93 : decode cX12_copyRow 93 = .ok (.iload 4, 2) := by decide +kernel
theorem dX12_copyRow_95 : decode cX12_copyRow 95 = .ok (.isub, 1) := by decide +kernel
theorem dX12_copyRow_96 : decode cX12_copyRow 96 = .ok (.if_icmp .le 9, 3) := by decide +kernel
theorem dX12_copyRow_99 : decode cX12_copyRow 99 = .ok (.aload_n 0, 1) := by decide +kernel
theorem dX12_copyRow_100 : decode cX12_copyRow 100 = .ok (.iconst 2, 1) := by decide +kernel
theorem dX12_copyRow_101 : decode cX12_copyRow 101 = .ok (.invokevirtual 154, 3) := by decide +kernel
theorem dX12_copyRow_104 : decode cX12_copyRow 104 = .ok (.ireturn, 1) := by decide +kernel
theorem dX12_copyRow_105 : decode cX12_copyRow 105 = .ok (.sipush 200, 3) := by decide +kernel
theorem dX12_copyRow_108 : decode cX12_copyRow 108 = .ok (.iload_n 1, 1) := by decide +kernel
theorem dX12_copyRow_109 : decode cX12_copyRow 109 = .ok (.imul, 1) := by decide +kernel
theorem dX12_copyRow_110 : decode cX12_copyRow 110 = .ok (.iload_n 2, 1) := by decide +kernel
theorem dX12_copyRow_111 : decode cX12_copyRow 111 = .ok (.iadd, 1) := by decide +kernel
theorem dX12_copyRow_112 : decode cX12_copyRow 112 = .ok (.istore 6, 2) := by decide +kernel
theorem dX12_copyRow_114 : decode cX12_copyRow 114 = .ok (.sipush 200, 3) := by decide +kernel
theorem dX12_copyRow_117 : decode cX12_copyRow 117 = .ok (.iload_n 3, 1) := by decide +kernel
theorem dX12_copyRow_118 : decode cX12_copyRow 118 = .ok (.imul, 1) := by decide +kernel
theorem dX12_copyRow_119 : decode cX12_copyRow 119 = .ok (.iload 4, 2) := by decide +kernel
theorem dX12_copyRow_121 : decode cX12_copyRow 121 = .ok (.iadd, 1) := by decide +kernel
theorem dX12_copyRow_122 : decode cX12_copyRow 122 = .ok (.istore 7, 2) := by decide +kernel
theorem dX12_copyRow_124 : decode cX12_copyRow 124 = .ok (.iload_n 1, 1) := by decide +kernel
theorem dX12_copyRow_125 : decode cX12_copyRow 125 = .ok (.iload_n 3, 1) := by decide +kernel
theorem dX12_copyRow_126 : decode cX12_copyRow 126 = .ok (.if_icmp .ne 13, 3) := by decide +kernel
theorem dX12_copyRow_129 : decode cX12_copyRow 129 = .ok (.iload_n 2, 1) := by decide +kernel
theorem dX12_copyRow_130 : decode cX12_copyRow 130 = .ok (.iload 4, 2) := by decide +kernel
theorem dX12_copyRow_132 : decode cX12_copyRow 132 = .ok (.if_icmp .ge 7, 3) := by decide +kernel
theorem dX12_copyRow_135 : decode cX12_copyRow 135 = .ok (.iconst 1, 1) := by decide +kernel
theorem dX12_copyRow_136 : decode cX12_copyRow 136 = .ok (.goto 4, 3) := by decide +kernel
theorem dX12_copyRow_139 : decode cX12_copyRow 139 = .ok (.iconst 0, 1) := by decide +kernel
theorem dX12_copyRow_140 : decode cX12_copyRow 140 = .ok (.istore 8, 2) := by decide +kernel
theorem dX12_copyRow_142 : decode cX12_copyRow 142 = .ok (.iconst 0, 1) := by decide +kernel
theorem dX12_copyRow_143 : decode cX12_copyRow 143 = .ok (.istore 9, 2) := by decide +kernel
theorem dX12_copyRow_145 : decode cX12_copyRow 145 = .ok (.iload 9, 2) := by decide +kernel
theorem dX12_copyRow_147 : decode cX12_copyRow 147 = .ok (.iload 5, 2) := by decide +kernel
theorem dX12_copyRow_149 : decode cX12_copyRow 149 = .ok (.if_icmp .ge 48, 3) := by decide +kernel
theorem dX12_copyRow_152 : decode cX12_copyRow 152 = .ok (.iload 8, 2) := by decide +kernel
theorem dX12_copyRow_154 : decode cX12_copyRow 154 = .ok (.ifCond .eq 13, 3) := by decide +kernel
theorem dX12_copyRow_157 : decode cX12_copyRow 157 = .ok (.iload 5, 2) := by decide +kernel
theorem dX12_copyRow_159 : decode cX12_copyRow 159 = .ok (.iconst 1, 1) := by decide +kernel
theorem dX12_copyRow_160 : decode cX12_copyRow 160 = .ok (.isub, 1) := by decide +kernel
theorem dX12_copyRow_161 : decode cX12_copyRow 161 = .ok (.iload 9, 2) := by decide +kernel
theorem dX12_copyRow_163 : decode cX12_copyRow 163 = .ok (.isub, 1) := by decide +kernel
theorem dX12_copyRow_164 : decode cX12_copyRow 164 = .ok (.goto 5, 3) := by decide +kernel
theorem dX12_copyRow_167 : decode cX12_copyRow 167 = .ok (.iload 9, 2) := by decide +kernel
theorem dX12_copyRow_169 : decode cX12_copyRow 169 = .ok (.istore 10, 2) := by decide +kernel
theorem dX12_copyRow_171 : decode cX12_copyRow 171 = .ok (.aload_n 0, 1) := by decide +kernel
theorem dX12_copyRow_172 : decode cX12_copyRow 172 = .ok (.getfield 95, 3) := by decide +kernel
theorem dX12_copyRow_175 : decode cX12_copyRow 175 = .ok (.iload 7, 2) := by decide +kernel
theorem dX12_copyRow_177 : decode cX12_copyRow 177 = .ok (.iload 10, 2) := by decide +kernel
theorem dX12_copyRow_179 : decode cX12_copyRow 179 = .ok (.iadd, 1) := by decide +kernel
theorem dX12_copyRow_180 : decode cX12_copyRow 180 = .ok (.aload_n 0, 1) := by decide +kernel
theorem dX12_copyRow_181 : decode cX12_copyRow 181 = .ok (.getfield 95, 3) := by decide +kernel
theorem dX12_copyRow_184 : decode cX12_copyRow 184 = .ok (.iload 6, 2) := by decide +kernel
theorem dX12_copyRow_186 : decode cX12_copyRow 186 = .ok (.iload 10, 2) := by decide +kernel
theorem dX12_copyRow_188 : decode cX12_copyRow 188 = .ok (.iadd, 1) := by decide +kernel
theorem dX12_copyRow_189 : decode cX12_copyRow 189 = .ok (.iaload, 1) := by decide +kernel
theorem dX12_copyRow_190 : decode cX12_copyRow 190 = .ok (.iastore, 1) := by decide +kernel
theorem dX12_copyRow_191 : decode cX12_copyRow 191 = .ok (.iinc 9 1, 3) := by decide +kernel
theorem dX12_copyRow_194 : decode cX12_copyRow 194 = .ok (.goto (-49), 3) := by decide +kernel
theorem dX12_copyRow_197 : decode cX12_copyRow 197 = .ok (.aload_n 0, 1) := by decide +kernel
theorem dX12_copyRow_198 : decode cX12_copyRow 198 = .ok (.iload 5, 2) := by decide +kernel
theorem dX12_copyRow_200 : decode cX12_copyRow 200 = .ok (.invokevirtual 158, 3) := by decide +kernel
theorem dX12_copyRow_203 : decode cX12_copyRow 203 = .ok (.ireturn, 1) := by decide +kernel
theorem dX12_copyLines_0 : decode cX12_copyLines 0 = .ok (.iload_n 3, 1) := by decide +kernel
theorem dX12_copyLines_1 : decode cX12_copyLines 1 = .ok (.bipush 10, 2) := by decide +kernel
theorem dX12_copyLines_3 : decode cX12_copyLines 3 = .ok (.if_icmp .le 10, 3) := by decide +kernel
theorem dX12_copyLines_6 : decode cX12_copyLines 6 = .ok (.aload_n 0, 1) := by decide +kernel
theorem dX12_copyLines_7 : decode cX12_copyLines 7 = .ok (.bipush 6, 2) := by decide +kernel
theorem dX12_copyLines_9 : decode cX12_copyLines 9 = .ok (.invokevirtual 154, 3) := by decide +kernel
theorem dX12_copyLines_12 : decode cX12_copyLines 12 = .ok (.ireturn, 1) := by decide +kernel
theorem dX12_copyLines_13 : decode cX12_copyLines 13 = .ok (.iload_n 3, 1) := by decide +kernel
theorem dX12_copyLines_14 : decode cX12_copyLines 14 = .ok (.ifCond .ge 9, 3) := by decide +kernel
theorem dX12_copyLines_17 : decode cX12_copyLines 17 = .ok (.aload_n 0, 1) := by decide +kernel
theorem dX12_copyLines_18 : decode cX12_copyLines 18 = .ok (.iconst 5, 1) := by decide +kernel
theorem dX12_copyLines_19 : decode cX12_copyLines 19 = .ok (.invokevirtual 154, 3) := by decide +kernel
theorem dX12_copyLines_22 : decode cX12_copyLines 22 = .ok (.ireturn, 1) := by decide +kernel
theorem dX12_copyLines_23 : decode cX12_copyLines 23 = .ok (.aload_n 0, 1) := by decide +kernel
theorem dX12_copyLines_24 : decode cX12_copyLines 24 = .ok (.iconst 0, 1) := by decide +kernel
theorem dX12_copyLines_25 : decode cX12_copyLines 25 = .ok (.putfield 303, 3) := by decide +kernel
theorem dX12_copyLines_28 : decode cX12_copyLines 28 = .ok (.iconst 0, 1) := by decide +kernel
theorem dX12_copyLines_29 : decode cX12_copyLines 29 = .ok (.istore 4, 2) := by decide +kernel
theorem dX12_copyLines_31 : decode cX12_copyLines 31 = .ok (.iload 4, 2) := by decide +kernel
theorem dX12_copyLines_33 : decode cX12_copyLines 33 = .ok (.iload_n 3, 1) := by decide +kernel
theorem dX12_copyLines_34 : decode cX12_copyLines 34 = .ok (.if_icmp .ge 162, 3) := by decide +kernel
theorem dX12_copyLines_37 : decode cX12_copyLines 37 = .ok (.iload_n 1, 1) := by decide +kernel
theorem dX12_copyLines_38 : decode cX12_copyLines 38 = .ok (.i2l, 1) := by decide +kernel
theorem dX12_copyLines_39 : decode cX12_copyLines 39 = .ok (.iload 4, 2) := by decide +kernel
theorem dX12_copyLines_41 : decode cX12_copyLines 41 = .ok (.i2l, 1) := by decide +kernel
theorem dX12_copyLines_42 : decode cX12_copyLines 42 = .ok (.ladd, 1) := by decide +kernel
theorem dX12_copyLines_43 : decode cX12_copyLines 43 = .ok (.lstore 5, 2) := by decide +kernel
theorem dX12_copyLines_45 : decode cX12_copyLines 45 = .ok (.iload_n 2, 1) := by decide +kernel
theorem dX12_copyLines_46 : decode cX12_copyLines 46 = .ok (.i2l, 1) := by decide +kernel
theorem dX12_copyLines_47 : decode cX12_copyLines 47 = .ok (.iload 4, 2) := by decide +kernel
theorem dX12_copyLines_49 : decode cX12_copyLines 49 = .ok (.i2l, 1) := by decide +kernel
theorem dX12_copyLines_50 : decode cX12_copyLines 50 = .ok (.ladd, 1) := by decide +kernel
theorem dX12_copyLines_51 : decode cX12_copyLines 51 = .ok (.lstore 7, 2) := by decide +kernel
theorem dX12_copyLines_53 : decode cX12_copyLines 53 = .ok (.lload 5, 2) := by decide +kernel
theorem dX12_copyLines_55 : decode cX12_copyLines 55 = .ok (.lconst 0, 1) := by decide +kernel
theorem dX12_copyLines_56 : decode cX12_copyLines 56 = .ok (.lcmp, 1) := by decide +kernel
theorem dX12_copyLines_57 : decode cX12_copyLines 57 = .ok (.ifCond .lt 32, 3) := by decide +kernel
theorem dX12_copyLines_60 : decode cX12_copyLines 60 = .ok (.lload 5, 2) := by decide +kernel
theorem dX12_copyLines_62 : decode cX12_copyLines 62 = .ok (.aload_n 0, 1) := by decide +kernel
theorem dX12_copyLines_63 : decode cX12_copyLines 63 = .ok (.getfield 279, 3) := by decide +kernel
theorem dX12_copyLines_66 : decode cX12_copyLines 66 = .ok (.i2l, 1) := by decide +kernel
theorem dX12_copyLines_67 : decode cX12_copyLines 67 = .ok (.lcmp, 1) := by decide +kernel
theorem dX12_copyLines_68 : decode cX12_copyLines 68 = .ok (.ifCond .ge 21, 3) := by decide +kernel
theorem dX12_copyLines_71 : decode cX12_copyLines 71 = .ok (.lload 7, 2) := by decide +kernel
theorem dX12_copyLines_73 : decode cX12_copyLines 73 = .ok (.lconst 0, 1) := by decide +kernel
theorem dX12_copyLines_74 : decode cX12_copyLines 74 = .ok (.lcmp, 1) := by decide +kernel
theorem dX12_copyLines_75 : decode cX12_copyLines 75 = .ok (.ifCond .lt 14, 3) := by decide +kernel
theorem dX12_copyLines_78 : decode cX12_copyLines 78 = .ok (.lload 7, 2) := by decide +kernel
theorem dX12_copyLines_80 : decode cX12_copyLines 80 = .ok (.aload_n 0, 1) := by decide +kernel
theorem dX12_copyLines_81 : decode cX12_copyLines 81 = .ok (.getfield 279, 3) := by decide +kernel
theorem dX12_copyLines_84 : decode cX12_copyLines 84 = .ok (.i2l, 1) := by decide +kernel
theorem dX12_copyLines_85 : decode cX12_copyLines 85 = .ok (.lcmp, 1) := by decide +kernel
theorem dX12_copyLines_86 : decode cX12_copyLines 86 = .ok (.ifCond .lt 9, 3) := by decide +kernel
theorem dX12_copyLines_89 : decode cX12_copyLines 89 = .ok (.aload_n 0, 1) := by decide +kernel
theorem dX12_copyLines_90 : decode cX12_copyLines 90 = .ok (.iconst 2, 1) := by decide +kernel
theorem dX12_copyLines_91 : decode cX12_copyLines 91 = .ok (.invokevirtual 154, 3) := by decide +kernel
theorem dX12_copyLines_94 : decode cX12_copyLines 94 = .ok (.ireturn, 1) := by decide +kernel
theorem dX12_copyLines_95 : decode cX12_copyLines 95 = .ok (.aload_n 0, 1) := by decide +kernel
theorem dX12_copyLines_96 : decode cX12_copyLines 96 = .ok (.getfield 91, 3) := by decide +kernel
theorem dX12_copyLines_99 : decode cX12_copyLines 99 = .ok (.lload 5, 2) := by decide +kernel
theorem dX12_copyLines_101 : decode cX12_copyLines 101 = .ok (.l2i, 1) := by decide +kernel
theorem dX12_copyLines_102 : decode cX12_copyLines 102 = .ok (.iaload, 1) := by decide +kernel
theorem dX12_copyLines_103 : decode cX12_copyLines 103 = .ok (.ifCond .ge 9, 3) := by decide +kernel
theorem dX12_copyLines_106 : decode cX12_copyLines 106 = .ok (.aload_n 0, 1) := by decide +kernel
theorem dX12_copyLines_107 : decode cX12_copyLines 107 = .ok (.iconst 1, 1) := by decide +kernel
theorem dX12_copyLines_108 : decode cX12_copyLines 108 = .ok (.invokevirtual 154, 3) := by decide +kernel
theorem dX12_copyLines_111 : decode cX12_copyLines 111 = .ok (.ireturn, 1) := by decide +kernel
theorem dX12_copyLines_112 : decode cX12_copyLines 112 = .ok (.aload_n 0, 1) := by decide +kernel
theorem dX12_copyLines_113 : decode cX12_copyLines 113 = .ok (.getfield 91, 3) := by decide +kernel
theorem dX12_copyLines_116 : decode cX12_copyLines 116 = .ok (.lload 7, 2) := by decide +kernel
theorem dX12_copyLines_118 : decode cX12_copyLines 118 = .ok (.l2i, 1) := by decide +kernel
theorem dX12_copyLines_119 : decode cX12_copyLines 119 = .ok (.aload_n 0, 1) := by decide +kernel
theorem dX12_copyLines_120 : decode cX12_copyLines 120 = .ok (.getfield 91, 3) := by decide +kernel
theorem dX12_copyLines_123 : decode cX12_copyLines 123 = .ok (.lload 5, 2) := by decide +kernel
theorem dX12_copyLines_125 : decode cX12_copyLines 125 = .ok (.l2i, 1) := by decide +kernel
theorem dX12_copyLines_126 : decode cX12_copyLines 126 = .ok (.iaload, 1) := by decide +kernel
theorem dX12_copyLines_127 : decode cX12_copyLines 127 = .ok (.iastore, 1) := by decide +kernel
theorem dX12_copyLines_128 : decode cX12_copyLines 128 = .ok (.iconst 0, 1) := by decide +kernel
theorem dX12_copyLines_129 : decode cX12_copyLines 129 = .ok (.istore 9, 2) := by decide +kernel
theorem dX12_copyLines_131 : decode cX12_copyLines 131 = .ok (.iload 9, 2) := by decide +kernel
theorem dX12_copyLines_133 : decode cX12_copyLines 133 = .ok (.aload_n 0, 1) := by decide +kernel
theorem dX12_copyLines_134 : decode cX12_copyLines 134 = .ok (.getfield 91, 3) := by decide +kernel
theorem dX12_copyLines_137 : decode cX12_copyLines 137 = .ok (.lload 5, 2) := by decide +kernel
theorem dX12_copyLines_139 : decode cX12_copyLines 139 = .ok (.l2i, 1) := by decide +kernel
theorem dX12_copyLines_140 : decode cX12_copyLines 140 = .ok (.iaload, 1) := by decide +kernel
theorem dX12_copyLines_141 : decode cX12_copyLines 141 = .ok (.if_icmp .ge 39, 3) := by decide +kernel
theorem dX12_copyLines_144 : decode cX12_copyLines 144 = .ok (.aload_n 0, 1) := by decide +kernel
theorem dX12_copyLines_145 : decode cX12_copyLines 145 = .ok (.getfield 95, 3) := by decide +kernel
theorem dX12_copyLines_148 : decode cX12_copyLines 148 = .ok (.sipush 200, 3) := by decide +kernel
theorem dX12_copyLines_151 : decode cX12_copyLines 151 = .ok (.lload 7, 2) := by decide +kernel
theorem dX12_copyLines_153 : decode cX12_copyLines 153 = .ok (.l2i, 1) := by decide +kernel
theorem dX12_copyLines_154 : decode cX12_copyLines 154 = .ok (.imul, 1) := by decide +kernel
theorem dX12_copyLines_155 : decode cX12_copyLines 155 = .ok (.iload 9, 2) := by decide +kernel
theorem dX12_copyLines_157 : decode cX12_copyLines 157 = .ok (.iadd, 1) := by decide +kernel
theorem dX12_copyLines_158 : decode cX12_copyLines 158 = .ok (.aload_n 0, 1) := by decide +kernel
theorem dX12_copyLines_159 : decode cX12_copyLines 159 = .ok (.getfield 95, 3) := by decide +kernel
theorem dX12_copyLines_162 : decode cX12_copyLines 162 = .ok (.sipush 200, 3) := by decide +kernel
theorem dX12_copyLines_165 : decode cX12_copyLines 165 = .ok (.lload 5, 2) := by decide +kernel
theorem dX12_copyLines_167 : decode cX12_copyLines 167 = .ok (.l2i, 1) := by decide +kernel
theorem dX12_copyLines_168 : decode cX12_copyLines 168 = .ok (.imul, 1) := by decide +kernel
theorem dX12_copyLines_169 : decode cX12_copyLines 169 = .ok (.iload 9, 2) := by decide +kernel
theorem dX12_copyLines_171 : decode cX12_copyLines 171 = .ok (.iadd, 1) := by decide +kernel
theorem dX12_copyLines_172 : decode cX12_copyLines 172 = .ok (.iaload, 1) := by decide +kernel
theorem dX12_copyLines_173 : decode cX12_copyLines 173 = .ok (.iastore, 1) := by decide +kernel
theorem dX12_copyLines_174 : decode cX12_copyLines 174 = .ok (.iinc 9 1, 3) := by decide +kernel
theorem dX12_copyLines_177 : decode cX12_copyLines 177 = .ok (.goto (-46), 3) := by decide +kernel
theorem dX12_copyLines_180 : decode cX12_copyLines 180 = .ok (.aload_n 0, 1) := by decide +kernel
theorem dX12_copyLines_181 : decode cX12_copyLines 181 = .ok (.dup, 1) := by decide +kernel
theorem dX12_copyLines_182 : decode cX12_copyLines 182 = .ok (.getfield 303, 3) := by decide +kernel
theorem dX12_copyLines_185 : decode cX12_copyLines 185 = .ok (.iconst 1, 1) := by decide +kernel
theorem dX12_copyLines_186 : decode cX12_copyLines 186 = .ok (.iadd, 1) := by decide +kernel
theorem dX12_copyLines_187 : decode cX12_copyLines 187 = .ok (.putfield 303, 3) := by decide +kernel
theorem dX12_copyLines_190 : decode cX12_copyLines 190 = .ok (.iinc 4 1, 3) := by decide +kernel
theorem dX12_copyLines_193 : decode cX12_copyLines 193 = .ok (.goto (-162), 3) := by decide +kernel
theorem dX12_copyLines_196 : decode cX12_copyLines 196 = .ok (.aload_n 0, 1) := by decide +kernel
theorem dX12_copyLines_197 : decode cX12_copyLines 197 = .ok (.iload_n 3, 1) := by decide +kernel
theorem dX12_copyLines_198 : decode cX12_copyLines 198 = .ok (.invokevirtual 158, 3) := by decide +kernel
theorem dX12_copyLines_201 : decode cX12_copyLines 201 = .ok (.ireturn, 1) := by decide +kernel
theorem dX12_copied_0 : decode cX12_copied 0 = .ok (.aload_n 0, 1) := by decide +kernel
theorem dX12_copied_1 : decode cX12_copied 1 = .ok (.getfield 303, 3) := by decide +kernel
theorem dX12_copied_4 : decode cX12_copied 4 = .ok (.ireturn, 1) := by decide +kernel
theorem dX12_emboss_0 : decode cX12_emboss 0 = .ok (.iload_n 2, 1) := by decide +kernel
theorem dX12_emboss_1 : decode cX12_emboss 1 = .ok (.sipush 200, 3) := by decide +kernel
theorem dX12_emboss_4 : decode cX12_emboss 4 = .ok (.if_icmp .le 10, 3) := by decide +kernel
theorem dX12_emboss_7 : decode cX12_emboss 7 = .ok (.aload_n 0, 1) := by decide +kernel
theorem dX12_emboss_8 : decode cX12_emboss 8 = .ok (.bipush 6, 2) := by decide +kernel
theorem dX12_emboss_10 : decode cX12_emboss 10 = .ok (.invokevirtual 154, 3) := by decide +kernel
theorem dX12_emboss_13 : decode cX12_emboss 13 = .ok (.ireturn, 1) := by decide +kernel
theorem dX12_emboss_14 : decode cX12_emboss 14 = .ok (.iload_n 2, 1) := by decide +kernel
theorem dX12_emboss_15 : decode cX12_emboss 15 = .ok (.ifCond .ge 9, 3) := by decide +kernel
theorem dX12_emboss_18 : decode cX12_emboss 18 = .ok (.aload_n 0, 1) := by decide +kernel
theorem dX12_emboss_19 : decode cX12_emboss 19 = .ok (.iconst 5, 1) := by decide +kernel
theorem dX12_emboss_20 : decode cX12_emboss 20 = .ok (.invokevirtual 154, 3) := by decide +kernel
theorem dX12_emboss_23 : decode cX12_emboss 23 = .ok (.ireturn, 1) := by decide +kernel
theorem dX12_emboss_24 : decode cX12_emboss 24 = .ok (.iconst 0, 1) := by decide +kernel
theorem dX12_emboss_25 : decode cX12_emboss 25 = .ok (.istore_n 3, 1) := by decide +kernel
theorem dX12_emboss_26 : decode cX12_emboss 26 = .ok (.iconst 0, 1) := by decide +kernel
theorem dX12_emboss_27 : decode cX12_emboss 27 = .ok (.istore 4, 2) := by decide +kernel
theorem dX12_emboss_29 : decode cX12_emboss 29 = .ok (.iload 4, 2) := by decide +kernel
theorem dX12_emboss_31 : decode cX12_emboss 31 = .ok (.iload_n 2, 1) := by decide +kernel
theorem dX12_emboss_32 : decode cX12_emboss 32 = .ok (.if_icmp .ge 110, 3) := by decide +kernel
theorem dX12_emboss_35 : decode cX12_emboss 35 = .ok (.iload_n 1, 1) := by decide +kernel
theorem dX12_emboss_36 : decode cX12_emboss 36 = .ok (.i2l, 1) := by decide +kernel
theorem dX12_emboss_37 : decode cX12_emboss 37 = .ok (.iload 4, 2) := by decide +kernel
theorem dX12_emboss_39 : decode cX12_emboss 39 = .ok (.i2l, 1) := by decide +kernel
theorem dX12_emboss_40 : decode cX12_emboss 40 = .ok (.ladd, 1) := by decide +kernel
theorem dX12_emboss_41 : decode cX12_emboss 41 = .ok (.lstore 5, 2) := by decide +kernel
theorem dX12_emboss_43 : decode cX12_emboss 43 = .ok (.aload_n 0, 1) := by decide +kernel
theorem dX12_emboss_44 : decode cX12_emboss 44 = .ok (.dup, 1) := by decide +kernel
theorem dX12_emboss_45 : decode cX12_emboss 45 = .ok (.getfield 306, 3) := by decide +kernel
theorem dX12_emboss_48 : decode cX12_emboss 48 = .ok (.iconst 1, 1) := by decide +kernel
theorem dX12_emboss_49 : decode cX12_emboss 49 = .ok (.iadd, 1) := by decide +kernel
theorem dX12_emboss_50 : decode cX12_emboss 50 = .ok (.putfield 306, 3) := by decide +kernel
theorem dX12_emboss_53 : decode cX12_emboss 53 = .ok (.lload 5, 2) := by decide +kernel
theorem dX12_emboss_55 : decode cX12_emboss 55 = .ok (.lconst 0, 1) := by decide +kernel
theorem dX12_emboss_56 : decode cX12_emboss 56 = .ok (.lcmp, 1) := by decide +kernel
theorem dX12_emboss_57 : decode cX12_emboss 57 = .ok (.ifCond .lt 14, 3) := by decide +kernel
theorem dX12_emboss_60 : decode cX12_emboss 60 = .ok (.lload 5, 2) := by decide +kernel
theorem dX12_emboss_62 : decode cX12_emboss 62 = .ok (.aload_n 0, 1) := by decide +kernel
theorem dX12_emboss_63 : decode cX12_emboss 63 = .ok (.getfield 279, 3) := by decide +kernel
theorem dX12_emboss_66 : decode cX12_emboss 66 = .ok (.i2l, 1) := by decide +kernel
theorem dX12_emboss_67 : decode cX12_emboss 67 = .ok (.lcmp, 1) := by decide +kernel
theorem dX12_emboss_68 : decode cX12_emboss 68 = .ok (.ifCond .lt 9, 3) := by decide +kernel
theorem dX12_emboss_71 : decode cX12_emboss 71 = .ok (.aload_n 0, 1) := by decide +kernel
theorem dX12_emboss_72 : decode cX12_emboss 72 = .ok (.iconst 2, 1) := by decide +kernel
theorem dX12_emboss_73 : decode cX12_emboss 73 = .ok (.invokevirtual 154, 3) := by decide +kernel
theorem dX12_emboss_76 : decode cX12_emboss 76 = .ok (.ireturn, 1) := by decide +kernel
theorem dX12_emboss_77 : decode cX12_emboss 77 = .ok (.aload_n 0, 1) := by decide +kernel
theorem dX12_emboss_78 : decode cX12_emboss 78 = .ok (.getfield 91, 3) := by decide +kernel
theorem dX12_emboss_81 : decode cX12_emboss 81 = .ok (.lload 5, 2) := by decide +kernel
theorem dX12_emboss_83 : decode cX12_emboss 83 = .ok (.l2i, 1) := by decide +kernel
theorem dX12_emboss_84 : decode cX12_emboss 84 = .ok (.iaload, 1) := by decide +kernel
theorem dX12_emboss_85 : decode cX12_emboss 85 = .ok (.istore 7, 2) := by decide +kernel
theorem dX12_emboss_87 : decode cX12_emboss 87 = .ok (.iload 7, 2) := by decide +kernel
theorem dX12_emboss_89 : decode cX12_emboss 89 = .ok (.aload_n 0, 1) := by decide +kernel
theorem dX12_emboss_90 : decode cX12_emboss 90 = .ok (.getfield 82, 3) := by decide +kernel
theorem dX12_emboss_93 : decode cX12_emboss 93 = .ok (.if_icmp .le 6, 3) := by decide +kernel
theorem dX12_emboss_96 : decode cX12_emboss 96 = .ok (.goto 46, 3) := by decide +kernel
theorem dX12_emboss_99 : decode cX12_emboss 99 = .ok (.iconst 0, 1) := by decide +kernel
theorem dX12_emboss_100 : decode cX12_emboss 100 = .ok (.istore 8, 2) := by decide +kernel
theorem dX12_emboss_102 : decode cX12_emboss 102 = .ok (.iload 8, 2) := by decide +kernel
theorem dX12_emboss_104 : decode cX12_emboss 104 = .ok (.iload 7, 2) := by decide +kernel
theorem dX12_emboss_106 : decode cX12_emboss 106 = .ok (.if_icmp .ge 30, 3) := by decide +kernel
theorem dX12_emboss_109 : decode cX12_emboss 109 = .ok (.iload_n 3, 1) := by decide +kernel
theorem dX12_emboss_110 : decode cX12_emboss 110 = .ok (.aload_n 0, 1) := by decide +kernel
theorem dX12_emboss_111 : decode cX12_emboss 111 = .ok (.getfield 95, 3) := by decide +kernel
theorem dX12_emboss_114 : decode cX12_emboss 114 = .ok (.sipush 200, 3) := by decide +kernel
theorem dX12_emboss_117 : decode cX12_emboss 117 = .ok (.lload 5, 2) := by decide +kernel
theorem dX12_emboss_119 : decode cX12_emboss 119 = .ok (.l2i, 1) := by decide +kernel
theorem dX12_emboss_120 : decode cX12_emboss 120 = .ok (.imul, 1) := by decide +kernel
theorem dX12_emboss_121 : decode cX12_emboss 121 = .ok (.iload 8, 2) := by decide +kernel
theorem dX12_emboss_123 : decode cX12_emboss 123 = .ok (.iadd, 1) := by decide +kernel
theorem dX12_emboss_124 : decode cX12_emboss 124 = .ok (.iaload, 1) := by decide +kernel
theorem dX12_emboss_125 : decode cX12_emboss 125 = .ok (.invokestatic 309, 3) := by decide +kernel
theorem dX12_emboss_128 : decode cX12_emboss 128 = .ok (.iadd, 1) := by decide +kernel
theorem dX12_emboss_129 : decode cX12_emboss 129 = .ok (.istore_n 3, 1) := by decide +kernel
theorem dX12_emboss_130 : decode cX12_emboss 130 = .ok (.iinc 8 1, 3) := by decide +kernel
theorem dX12_emboss_133 : decode cX12_emboss 133 = .ok (.goto (-31), 3) := by decide +kernel
theorem dX12_emboss_136 : decode cX12_emboss 136 = .ok (.iinc 4 1, 3) := by decide +kernel
theorem dX12_emboss_139 : decode cX12_emboss 139 = .ok (.goto (-110), 3) := by decide +kernel
theorem dX12_emboss_142 : decode cX12_emboss 142 = .ok (.aload_n 0, 1) := by decide +kernel
theorem dX12_emboss_143 : decode cX12_emboss 143 = .ok (.iload_n 3, 1) := by decide +kernel
theorem dX12_emboss_144 : decode cX12_emboss 144 = .ok (.invokevirtual 158, 3) := by decide +kernel
theorem dX12_emboss_147 : decode cX12_emboss 147 = .ok (.ireturn, 1) := by decide +kernel
theorem dX12_closed_0 : decode cX12_closed 0 = .ok (.aload_n 0, 1) := by decide +kernel
theorem dX12_closed_1 : decode cX12_closed 1 = .ok (.getfield 306, 3) := by decide +kernel
theorem dX12_closed_4 : decode cX12_closed 4 = .ok (.ireturn, 1) := by decide +kernel
theorem dX12_saved_0 : decode cX12_saved 0 = .ok (.aload_n 0, 1) := by decide +kernel
theorem dX12_saved_1 : decode cX12_saved 1 = .ok (.iload_n 1, 1) := by decide +kernel
theorem dX12_saved_2 : decode cX12_saved 2 = .ok (.invokevirtual 171, 3) := by decide +kernel
theorem dX12_saved_5 : decode cX12_saved 5 = .ok (.ifCond .eq 11, 3) := by decide +kernel
theorem dX12_saved_8 : decode cX12_saved 8 = .ok (.aload_n 0, 1) := by decide +kernel
theorem dX12_saved_9 : decode cX12_saved 9 = .ok (.iload_n 2, 1) := by decide +kernel
theorem dX12_saved_10 : decode cX12_saved 10 = .ok (.invokevirtual 171, 3) := by decide +kernel
theorem dX12_saved_13 : decode cX12_saved 13 = .ok (.ifCond .ne 9, 3) := by decide +kernel
theorem dX12_saved_16 : decode cX12_saved 16 = .ok (.aload_n 0, 1) := by decide +kernel
theorem dX12_saved_17 : decode cX12_saved 17 = .ok (.iconst 3, 1) := by decide +kernel
theorem dX12_saved_18 : decode cX12_saved 18 = .ok (.invokevirtual 154, 3) := by decide +kernel
theorem dX12_saved_21 : decode cX12_saved 21 = .ok (.ireturn, 1) := by decide +kernel
theorem dX12_saved_22 : decode cX12_saved 22 = .ok (.iconst 0, 1) := by decide +kernel
theorem dX12_saved_23 : decode cX12_saved 23 = .ok (.istore_n 3, 1) := by decide +kernel
theorem dX12_saved_24 : decode cX12_saved 24 = .ok (.iconst 0, 1) := by decide +kernel
theorem dX12_saved_25 : decode cX12_saved 25 = .ok (.istore 4, 2) := by decide +kernel
theorem dX12_saved_27 : decode cX12_saved 27 = .ok (.iload 4, 2) := by decide +kernel
theorem dX12_saved_29 : decode cX12_saved 29 = .ok (.iconst 2, 1) := by decide +kernel
theorem dX12_saved_30 : decode cX12_saved 30 = .ok (.if_icmp .ge 131, 3) := by decide +kernel
theorem dX12_saved_33 : decode cX12_saved 33 = .ok (.iconst 0, 1) := by decide +kernel
theorem dX12_saved_34 : decode cX12_saved 34 = .ok (.istore 5, 2) := by decide +kernel
theorem dX12_saved_36 : decode cX12_saved 36 = .ok (.iload 5, 2) := by decide +kernel
theorem dX12_saved_38 : decode cX12_saved 38 = .ok (.aload_n 0, 1) := by decide +kernel
theorem dX12_saved_39 : decode cX12_saved 39 = .ok (.getfield 243, 3) := by decide +kernel
theorem dX12_saved_42 : decode cX12_saved 42 = .ok (.if_icmp .ge 113, 3) := by decide +kernel
theorem dX12_saved_45 : decode cX12_saved 45 = .ok (.aload_n 0, 1) := by decide +kernel
theorem dX12_saved_46 : decode cX12_saved 46 = .ok (.iload 5, 2) := by decide +kernel
theorem dX12_saved_48 : decode cX12_saved 48 = .ok (.invokevirtual 261, 3) := by decide +kernel
theorem dX12_saved_51 : decode cX12_saved 51 = .ok (.istore 6, 2) := by decide +kernel
theorem dX12_saved_53 : decode cX12_saved 53 = .ok (.aload_n 0, 1) := by decide +kernel
theorem dX12_saved_54 : decode cX12_saved 54 = .ok (.aload_n 0, 1) := by decide +kernel
theorem dX12_saved_55 : decode cX12_saved 55 = .ok (.getfield 79, 3) := by decide +kernel
theorem dX12_saved_58 : decode cX12_saved 58 = .ok (.iload 5, 2) := by decide +kernel
theorem dX12_saved_60 : decode cX12_saved 60 = .ok (.iaload, 1) := by decide +kernel
theorem dX12_saved_61 : decode cX12_saved 61 = .ok (.bipush 94, 2) := by decide +kernel
theorem dX12_saved_63 : decode cX12_saved 63 = .ok (.if_icmp .ne 10, 3) := by decide +kernel
theorem dX12_saved_66 : decode cX12_saved 66 = .ok (.iload 5, 2) := by decide +kernel
theorem dX12_saved_68 : decode cX12_saved 68 = .ok (.iconst 1, 1) := by decide +kernel
theorem dX12_saved_69 : decode cX12_saved 69 = .ok (.iadd, 1) := by decide +kernel
theorem dX12_saved_70 : decode cX12_saved 70 = .ok (.goto 5, 3) := by decide +kernel
theorem dX12_saved_73 : decode cX12_saved 73 = .ok (.iload 5, 2) := by decide +kernel
theorem dX12_saved_75 : decode cX12_saved 75 = .ok (.iload 6, 2) := by decide +kernel
theorem dX12_saved_77 : decode cX12_saved 77 = .ok (.invokevirtual 264, 3) := by decide +kernel
theorem dX12_saved_80 : decode cX12_saved 80 = .ok (.istore 7, 2) := by decide +kernel
theorem dX12_saved_82 : decode cX12_saved 82 = .ok (.aload_n 0, 1) := by decide +kernel
theorem dX12_saved_83 : decode cX12_saved 83 = .ok (.getfield 234, 3) := by decide +kernel
theorem dX12_saved_86 : decode cX12_saved 86 = .ok (.ifCond .le 60, 3) := by decide +kernel
theorem dX12_saved_89 : decode cX12_saved 89 = .ok (.aload_n 0, 1) := by decide +kernel
theorem dX12_saved_90 : decode cX12_saved 90 = .ok (.iload 4, 2) := by decide +kernel
theorem dX12_saved_92 : decode cX12_saved 92 = .ok (.ifCond .ne 7, 3) := by decide +kernel
theorem dX12_saved_95 : decode cX12_saved 95 = .ok (.iload_n 1, 1) := by decide +kernel
theorem dX12_saved_96 : decode cX12_saved 96 = .ok (.goto 4, 3) := by decide +kernel
theorem dX12_saved_99 : decode cX12_saved 99 = .ok (.iload_n 2, 1) := by decide +kernel
theorem dX12_saved_100 : decode cX12_saved 100 = .ok (.invokevirtual 267, 3) := by decide +kernel
theorem dX12_saved_103 : decode cX12_saved 103 = .ok (.ifCond .ne 10, 3) := by decide +kernel
theorem dX12_saved_106 : decode cX12_saved 106 = .ok (.aload_n 0, 1) := by decide +kernel
theorem dX12_saved_107 : decode cX12_saved 107 = .ok (.invokevirtual 270, 3) := by decide +kernel
theorem dX12_saved_110 : decode cX12_saved 110 = .ok (.iconst 1, 1) := by decide +kernel
theorem dX12_saved_111 : decode cX12_saved 111 = .ok (.iadd, 1) := by decide +kernel
theorem dX12_saved_112 : decode cX12_saved 112 = .ok (.ireturn, 1) := by decide +kernel
theorem dX12_saved_113 : decode cX12_saved 113 = .ok (.iload_n 3, 1) := by decide +kernel
theorem dX12_saved_114 : decode cX12_saved 114 = .ok (.iload 4, 2) := by decide +kernel
theorem dX12_saved_116 : decode cX12_saved 116 = .ok (.ifCond .ne 10, 3) := by decide +kernel
theorem dX12_saved_119 : decode cX12_saved 119 = .ok (.aload_n 0, 1) := by decide +kernel
theorem dX12_saved_120 : decode cX12_saved 120 = .ok (.getfield 224, 3) := by decide +kernel
theorem dX12_saved_123 : decode cX12_saved 123 = .ok (.goto 8, 3) := by decide +kernel
theorem dX12_saved_126 : decode cX12_saved 126 = .ok (.aload_n 0, 1) := by decide +kernel
theorem dX12_saved_127 : decode cX12_saved 127 = .ok (.getfield 224, 3) := by decide +kernel
theorem dX12_saved_130 : decode cX12_saved 130 = .ok (.ineg, 1) := by decide +kernel
theorem dX12_saved_131 : decode cX12_saved 131 = .ok (.iadd, 1) := by decide +kernel
theorem dX12_saved_132 : decode cX12_saved 132 = .ok (.istore_n 3, 1) := by decide +kernel
theorem dX12_saved_133 : decode cX12_saved 133 = .ok (.aload_n 0, 1) := by decide +kernel
theorem dX12_saved_134 : decode cX12_saved 134 = .ok (.iload 7, 2) := by decide +kernel
theorem dX12_saved_136 : decode cX12_saved 136 = .ok (.iload 6, 2) := by decide +kernel
theorem dX12_saved_138 : decode cX12_saved 138 = .ok (.invokevirtual 264, 3) := by decide +kernel
theorem dX12_saved_141 : decode cX12_saved 141 = .ok (.istore 7, 2) := by decide +kernel
theorem dX12_saved_143 : decode cX12_saved 143 = .ok (.goto (-61), 3) := by decide +kernel
theorem dX12_saved_146 : decode cX12_saved 146 = .ok (.iload 6, 2) := by decide +kernel
theorem dX12_saved_148 : decode cX12_saved 148 = .ok (.iconst 1, 1) := by decide +kernel
theorem dX12_saved_149 : decode cX12_saved 149 = .ok (.iadd, 1) := by decide +kernel
theorem dX12_saved_150 : decode cX12_saved 150 = .ok (.istore 5, 2) := by decide +kernel
theorem dX12_saved_152 : decode cX12_saved 152 = .ok (.goto (-116), 3) := by decide +kernel
theorem dX12_saved_155 : decode cX12_saved 155 = .ok (.iinc 4 1, 3) := by decide +kernel
theorem dX12_saved_158 : decode cX12_saved 158 = .ok (.goto (-131), 3) := by decide +kernel
theorem dX12_saved_161 : decode cX12_saved 161 = .ok (.aload_n 0, 1) := by decide +kernel
theorem dX12_saved_162 : decode cX12_saved 162 = .ok (.iload_n 3, 1) := by decide +kernel
theorem dX12_saved_163 : decode cX12_saved 163 = .ok (.invokevirtual 158, 3) := by decide +kernel
theorem dX12_saved_166 : decode cX12_saved 166 = .ok (.ireturn, 1) := by decide +kernel
theorem dX12_addRow_0 : decode cX12_addRow 0 = .ok (.sipush 6008, 3) := by decide +kernel
theorem dX12_addRow_3 : decode cX12_addRow 3 = .ok (.iload_n 1, 1) := by decide +kernel
theorem dX12_addRow_4 : decode cX12_addRow 4 = .ok (.imul, 1) := by decide +kernel
theorem dX12_addRow_5 : decode cX12_addRow 5 = .ok (.aload_n 0, 1) := by decide +kernel
theorem dX12_addRow_6 : decode cX12_addRow 6 = .ok (.getfield 116, 3) := by decide +kernel
theorem dX12_addRow_9 : decode cX12_addRow 9 = .ok (.iload_n 1, 1) := by decide +kernel
theorem dX12_addRow_10 : decode cX12_addRow 10 = .ok (.iaload, 1) := by decide +kernel
theorem dX12_addRow_11 : decode cX12_addRow 11 = .ok (.iadd, 1) := by decide +kernel
theorem dX12_addRow_12 : decode cX12_addRow 12 = .ok (.istore 5, 2) := by decide +kernel
theorem dX12_addRow_14 : decode cX12_addRow 14 = .ok (.aload_n 0, 1) := by decide +kernel
theorem dX12_addRow_15 : decode cX12_addRow 15 = .ok (.getfield 107, 3) := by decide +kernel
theorem dX12_addRow_18 : decode cX12_addRow 18 = .ok (.iload 5, 2) := by decide +kernel
theorem dX12_addRow_20 : decode cX12_addRow 20 = .ok (.iload_n 2, 1) := by decide +kernel
theorem dX12_addRow_21 : decode cX12_addRow 21 = .ok (.iastore, 1) := by decide +kernel
theorem dX12_addRow_22 : decode cX12_addRow 22 = .ok (.aload_n 0, 1) := by decide +kernel
theorem dX12_addRow_23 : decode cX12_addRow 23 = .ok (.getfield 110, 3) := by decide +kernel
theorem dX12_addRow_26 : decode cX12_addRow 26 = .ok (.iload 5, 2) := by decide +kernel
theorem dX12_addRow_28 : decode cX12_addRow 28 = .ok (.iload_n 3, 1) := by decide +kernel
theorem dX12_addRow_29 : decode cX12_addRow 29 = .ok (.iastore, 1) := by decide +kernel
theorem dX12_addRow_30 : decode cX12_addRow 30 = .ok (.aload_n 0, 1) := by decide +kernel
theorem dX12_addRow_31 : decode cX12_addRow 31 = .ok (.getfield 113, 3) := by decide +kernel
theorem dX12_addRow_34 : decode cX12_addRow 34 = .ok (.iload 5, 2) := by decide +kernel
theorem dX12_addRow_36 : decode cX12_addRow 36 = .ok (.iload 4, 2) := by decide +kernel
theorem dX12_addRow_38 : decode cX12_addRow 38 = .ok (.iastore, 1) := by decide +kernel
theorem dX12_addRow_39 : decode cX12_addRow 39 = .ok (.aload_n 0, 1) := by decide +kernel
theorem dX12_addRow_40 : decode cX12_addRow 40 = .ok (.getfield 116, 3) := by decide +kernel
theorem dX12_addRow_43 : decode cX12_addRow 43 = .ok (.iload_n 1, 1) := by decide +kernel
theorem dX12_addRow_44 : decode cX12_addRow 44 = .ok (.dup2, 1) := by decide +kernel
theorem dX12_addRow_45 : decode cX12_addRow 45 = .ok (.iaload, 1) := by decide +kernel
theorem dX12_addRow_46 : decode cX12_addRow 46 = .ok (.iconst 1, 1) := by decide +kernel
theorem dX12_addRow_47 : decode cX12_addRow 47 = .ok (.iadd, 1) := by decide +kernel
theorem dX12_addRow_48 : decode cX12_addRow 48 = .ok (.iastore, 1) := by decide +kernel
theorem dX12_addRow_49 : decode cX12_addRow 49 = .ok (.return_, 1) := by decide +kernel
theorem dX12_addIndicator_0 : decode cX12_addIndicator 0 = .ok (.iconst 4, 1) := by decide +kernel
theorem dX12_addIndicator_1 : decode cX12_addIndicator 1 = .ok (.iload_n 2, 1) := by decide +kernel
theorem dX12_addIndicator_2 : decode cX12_addIndicator 2 = .ok (.imul, 1) := by decide +kernel
theorem dX12_addIndicator_3 : decode cX12_addIndicator 3 = .ok (.iload_n 3, 1) := by decide +kernel
theorem dX12_addIndicator_4 : decode cX12_addIndicator 4 = .ok (.iadd, 1) := by decide +kernel
theorem dX12_addIndicator_5 : decode cX12_addIndicator 5 = .ok (.istore 4, 2) := by decide +kernel
theorem dX12_addIndicator_7 : decode cX12_addIndicator 7 = .ok (.aload_n 0, 1) := by decide +kernel
theorem dX12_addIndicator_8 : decode cX12_addIndicator 8 = .ok (.getfield 52, 3) := by decide +kernel
theorem dX12_addIndicator_11 : decode cX12_addIndicator 11 = .ok (.iload 4, 2) := by decide +kernel
theorem dX12_addIndicator_13 : decode cX12_addIndicator 13 = .ok (.iaload, 1) := by decide +kernel
theorem dX12_addIndicator_14 : decode cX12_addIndicator 14 = .ok (.ifCond .le 22, 3) := by decide +kernel
theorem dX12_addIndicator_17 : decode cX12_addIndicator 17 = .ok (.aload_n 0, 1) := by decide +kernel
theorem dX12_addIndicator_18 : decode cX12_addIndicator 18 = .ok (.iload_n 1, 1) := by decide +kernel
theorem dX12_addIndicator_19 : decode cX12_addIndicator 19 = .ok (.iconst (-1), 1) := by decide +kernel
theorem dX12_addIndicator_20 : decode cX12_addIndicator 20 = .ok (.iload_n 3, 1) := by decide +kernel
theorem dX12_addIndicator_21 : decode cX12_addIndicator 21 = .ok (.isub, 1) := by decide +kernel
theorem dX12_addIndicator_22 : decode cX12_addIndicator 22 = .ok (.iconst 4, 1) := by decide +kernel
theorem dX12_addIndicator_23 : decode cX12_addIndicator 23 = .ok (.iload 4, 2) := by decide +kernel
theorem dX12_addIndicator_25 : decode cX12_addIndicator 25 = .ok (.imul, 1) := by decide +kernel
theorem dX12_addIndicator_26 : decode cX12_addIndicator 26 = .ok (.aload_n 0, 1) := by decide +kernel
theorem dX12_addIndicator_27 : decode cX12_addIndicator 27 = .ok (.getfield 52, 3) := by decide +kernel
theorem dX12_addIndicator_30 : decode cX12_addIndicator 30 = .ok (.iload 4, 2) := by decide +kernel
theorem dX12_addIndicator_32 : decode cX12_addIndicator 32 = .ok (.iaload, 1) := by decide +kernel
theorem dX12_addIndicator_33 : decode cX12_addIndicator 33 = .ok (.invokevirtual 314, 3) := by decide +kernel
theorem dX12_addIndicator_36 : decode cX12_addIndicator 36 = .ok (.return_, 1) := by decide +kernel
theorem dX12_addRows_0 : decode cX12_addRows 0 = .ok (.aload_n 0, 1) := by decide +kernel
theorem dX12_addRows_1 : decode cX12_addRows 1 = .ok (.getfield 116, 3) := by decide +kernel
theorem dX12_addRows_4 : decode cX12_addRows 4 = .ok (.iload_n 1, 1) := by decide +kernel
theorem dX12_addRows_5 : decode cX12_addRows 5 = .ok (.iconst 0, 1) := by decide +kernel
theorem dX12_addRows_6 : decode cX12_addRows 6 = .ok (.iastore, 1) := by decide +kernel
theorem dX12_addRows_7 : decode cX12_addRows 7 = .ok (.iload_n 2, 1) := by decide +kernel
theorem dX12_addRows_8 : decode cX12_addRows 8 = .ok (.istore_n 3, 1) := by decide +kernel
theorem dX12_addRows_9 : decode cX12_addRows 9 = .ok (.iload_n 3, 1) := by decide +kernel
theorem dX12_addRows_10 : decode cX12_addRows 10 = .ok (.ifCond .lt 61, 3) := by decide +kernel
theorem dX12_addRows_13 : decode cX12_addRows 13 = .ok (.sipush 200, 3) := by decide +kernel
theorem dX12_addRows_16 : decode cX12_addRows 16 = .ok (.iload_n 3, 1) := by decide +kernel
theorem dX12_addRows_17 : decode cX12_addRows 17 = .ok (.imul, 1) := by decide +kernel
theorem dX12_addRows_18 : decode cX12_addRows 18 = .ok (.istore 4, 2) := by decide +kernel
theorem dX12_addRows_20 : decode cX12_addRows 20 = .ok (.iload 4, 2) := by decide +kernel
theorem dX12_addRows_22 : decode cX12_addRows 22 = .ok (.sipush 200, 3) := by decide +kernel
theorem dX12_addRows_25 : decode cX12_addRows 25 = .ok (.iload_n 3, 1) := by decide +kernel
theorem dX12_addRows_26 : decode cX12_addRows 26 = .ok (.imul, 1) := by decide +kernel
theorem dX12_addRows_27 : decode cX12_addRows 27 = .ok (.aload_n 0, 1) := by decide +kernel
theorem dX12_addRows_28 : decode cX12_addRows 28 = .ok (.getfield 33, 3) := by decide +kernel
theorem dX12_addRows_31 : decode cX12_addRows 31 = .ok (.iload_n 3, 1) := by decide +kernel
theorem dX12_addRows_32 : decode cX12_addRows 32 = .ok (.iaload, 1) := by decide +kernel
theorem dX12_addRows_33 : decode cX12_addRows 33 = .ok (.iadd, 1) := by decide +kernel
theorem dX12_addRows_34 : decode cX12_addRows 34 = .ok (.if_icmp .ge 27, 3) := by decide +kernel
theorem dX12_addRows_37 : decode cX12_addRows 37 = .ok (.aload_n 0, 1) := by decide +kernel
theorem dX12_addRows_38 : decode cX12_addRows 38 = .ok (.iload_n 1, 1) := by decide +kernel
theorem dX12_addRows_39 : decode cX12_addRows 39 = .ok (.iload 4, 2) := by decide +kernel
theorem dX12_addRows_41 : decode cX12_addRows 41 = .ok (.iconst 4, 1) := by decide +kernel
theorem dX12_addRows_42 : decode cX12_addRows 42 = .ok (.iload 4, 2) := by decide +kernel
theorem dX12_addRows_44 : decode cX12_addRows 44 = .ok (.imul, 1) := by decide +kernel
theorem dX12_addRows_45 : decode cX12_addRows 45 = .ok (.aload_n 0, 1) := by decide +kernel
theorem dX12_addRows_46 : decode cX12_addRows 46 = .ok (.getfield 42, 3) := by decide +kernel
theorem dX12_addRows_49 : decode cX12_addRows 49 = .ok (.iload 4, 2) := by decide +kernel
theorem dX12_addRows_51 : decode cX12_addRows 51 = .ok (.iaload, 1) := by decide +kernel
theorem dX12_addRows_52 : decode cX12_addRows 52 = .ok (.invokevirtual 314, 3) := by decide +kernel
theorem dX12_addRows_55 : decode cX12_addRows 55 = .ok (.iinc 4 1, 3) := by decide +kernel
theorem dX12_addRows_58 : decode cX12_addRows 58 = .ok (.goto (-38), 3) := by decide +kernel
theorem dX12_addRows_61 : decode cX12_addRows 61 = .ok (.aload_n 0, 1) := by decide +kernel
theorem dX12_addRows_62 : decode cX12_addRows 62 = .ok (.getfield 27, 3) := by decide +kernel
theorem dX12_addRows_65 : decode cX12_addRows 65 = .ok (.iload_n 3, 1) := by decide +kernel
theorem dX12_addRows_66 : decode cX12_addRows 66 = .ok (.iaload, 1) := by decide +kernel
theorem dX12_addRows_67 : decode cX12_addRows 67 = .ok (.istore_n 3, 1) := by decide +kernel
theorem dX12_addRows_68 : decode cX12_addRows 68 = .ok (.goto (-59), 3) := by decide +kernel
theorem dX12_addRows_71 : decode cX12_addRows 71 = .ok (.aload_n 0, 1) := by decide +kernel
theorem dX12_addRows_72 : decode cX12_addRows 72 = .ok (.iload_n 1, 1) := by decide +kernel
theorem dX12_addRows_73 : decode cX12_addRows 73 = .ok (.iload_n 2, 1) := by decide +kernel
theorem dX12_addRows_74 : decode cX12_addRows 74 = .ok (.iconst 0, 1) := by decide +kernel
theorem dX12_addRows_75 : decode cX12_addRows 75 = .ok (.invokevirtual 317, 3) := by decide +kernel
theorem dX12_addRows_78 : decode cX12_addRows 78 = .ok (.aload_n 0, 1) := by decide +kernel
theorem dX12_addRows_79 : decode cX12_addRows 79 = .ok (.iload_n 1, 1) := by decide +kernel
theorem dX12_addRows_80 : decode cX12_addRows 80 = .ok (.iload_n 2, 1) := by decide +kernel
theorem dX12_addRows_81 : decode cX12_addRows 81 = .ok (.iconst 1, 1) := by decide +kernel
theorem dX12_addRows_82 : decode cX12_addRows 82 = .ok (.invokevirtual 317, 3) := by decide +kernel
theorem dX12_addRows_85 : decode cX12_addRows 85 = .ok (.return_, 1) := by decide +kernel
theorem dX12_gather_0 : decode cX12_gather 0 = .ok (.aload_n 0, 1) := by decide +kernel
theorem dX12_gather_1 : decode cX12_gather 1 = .ok (.getfield 116, 3) := by decide +kernel
theorem dX12_gather_4 : decode cX12_gather 4 = .ok (.iconst 1, 1) := by decide +kernel
theorem dX12_gather_5 : decode cX12_gather 5 = .ok (.iconst 0, 1) := by decide +kernel
theorem dX12_gather_6 : decode cX12_gather 6 = .ok (.iastore, 1) := by decide +kernel
theorem dX12_gather_7 : decode cX12_gather 7 = .ok (.aload_n 0, 1) := by decide +kernel
theorem dX12_gather_8 : decode cX12_gather 8 = .ok (.getfield 21, 3) := by decide +kernel
theorem dX12_gather_11 : decode cX12_gather 11 = .ok (.iload_n 1, 1) := by decide +kernel
theorem dX12_gather_12 : decode cX12_gather 12 = .ok (.iaload, 1) := by decide +kernel
theorem dX12_gather_13 : decode cX12_gather 13 = .ok (.iconst 5, 1) := by decide +kernel
theorem dX12_gather_14 : decode cX12_gather 14 = .ok (.if_icmp .eq 10, 3) := by decide +kernel
theorem dX12_gather_17 : decode cX12_gather 17 = .ok (.aload_n 0, 1) := by decide +kernel
theorem dX12_gather_18 : decode cX12_gather 18 = .ok (.iconst 0, 1) := by decide +kernel
theorem dX12_gather_19 : decode cX12_gather 19 = .ok (.iload_n 1, 1) := by decide +kernel
theorem dX12_gather_20 : decode cX12_gather 20 = .ok (.invokevirtual 321, 3) := by decide +kernel
theorem dX12_gather_23 : decode cX12_gather 23 = .ok (.return_, 1) := by decide +kernel
theorem dX12_gather_24 : decode cX12_gather 24 = .ok (.aload_n 0, 1) := by decide +kernel
theorem dX12_gather_25 : decode cX12_gather 25 = .ok (.iconst 0, 1) := by decide +kernel
theorem dX12_gather_26 : decode cX12_gather 26 = .ok (.aload_n 0, 1) := by decide +kernel
theorem dX12_gather_27 : decode cX12_gather 27 = .ok (.getfield 27, 3) := by decide +kernel
theorem dX12_gather_30 : decode cX12_gather 30 = .ok (.iload_n 1, 1) := by decide +kernel
theorem dX12_gather_31 : decode cX12_gather 31 = .ok (.iaload, 1) := by decide +kernel
theorem dX12_gather_32 : decode cX12_gather 32 = .ok (.invokevirtual 321, 3) := by decide +kernel
theorem dX12_gather_35 : decode cX12_gather 35 = .ok (.aload_n 0, 1) := by decide +kernel
theorem dX12_gather_36 : decode cX12_gather 36 = .ok (.iconst 0, 1) := by decide +kernel
theorem dX12_gather_37 : decode cX12_gather 37 = .ok (.iload_n 1, 1) := by decide +kernel
theorem dX12_gather_38 : decode cX12_gather 38 = .ok (.iconst 2, 1) := by decide +kernel
theorem dX12_gather_39 : decode cX12_gather 39 = .ok (.invokevirtual 317, 3) := by decide +kernel
theorem dX12_gather_42 : decode cX12_gather 42 = .ok (.aload_n 0, 1) := by decide +kernel
theorem dX12_gather_43 : decode cX12_gather 43 = .ok (.iconst 1, 1) := by decide +kernel
theorem dX12_gather_44 : decode cX12_gather 44 = .ok (.aload_n 0, 1) := by decide +kernel
theorem dX12_gather_45 : decode cX12_gather 45 = .ok (.getfield 30, 3) := by decide +kernel
theorem dX12_gather_48 : decode cX12_gather 48 = .ok (.iload_n 1, 1) := by decide +kernel
theorem dX12_gather_49 : decode cX12_gather 49 = .ok (.iaload, 1) := by decide +kernel
theorem dX12_gather_50 : decode cX12_gather 50 = .ok (.invokevirtual 321, 3) := by decide +kernel
theorem dX12_gather_53 : decode cX12_gather 53 = .ok (.aload_n 0, 1) := by decide +kernel
theorem dX12_gather_54 : decode cX12_gather 54 = .ok (.iconst 1, 1) := by decide +kernel
theorem dX12_gather_55 : decode cX12_gather 55 = .ok (.iload_n 1, 1) := by decide +kernel
theorem dX12_gather_56 : decode cX12_gather 56 = .ok (.iconst 3, 1) := by decide +kernel
theorem dX12_gather_57 : decode cX12_gather 57 = .ok (.invokevirtual 317, 3) := by decide +kernel
theorem dX12_gather_60 : decode cX12_gather 60 = .ok (.return_, 1) := by decide +kernel
theorem dX12_rowCell_0 : decode cX12_rowCell 0 = .ok (.aload_n 0, 1) := by decide +kernel
theorem dX12_rowCell_1 : decode cX12_rowCell 1 = .ok (.getfield 107, 3) := by decide +kernel
theorem dX12_rowCell_4 : decode cX12_rowCell 4 = .ok (.iload_n 1, 1) := by decide +kernel
theorem dX12_rowCell_5 : decode cX12_rowCell 5 = .ok (.iaload, 1) := by decide +kernel
theorem dX12_rowCell_6 : decode cX12_rowCell 6 = .ok (.ifCond .lt 19, 3) := by decide +kernel
theorem dX12_rowCell_9 : decode cX12_rowCell 9 = .ok (.aload_n 0, 1) := by decide +kernel
theorem dX12_rowCell_10 : decode cX12_rowCell 10 = .ok (.getfield 49, 3) := by decide +kernel
theorem dX12_rowCell_13 : decode cX12_rowCell 13 = .ok (.aload_n 0, 1) := by decide +kernel
theorem dX12_rowCell_14 : decode cX12_rowCell 14 = .ok (.getfield 110, 3) := by decide +kernel
theorem dX12_rowCell_17 : decode cX12_rowCell 17 = .ok (.iload_n 1, 1) := by decide +kernel
theorem dX12_rowCell_18 : decode cX12_rowCell 18 = .ok (.iaload, 1) := by decide +kernel
theorem dX12_rowCell_19 : decode cX12_rowCell 19 = .ok (.iload_n 2, 1) := by decide +kernel
theorem dX12_rowCell_20 : decode cX12_rowCell 20 = .ok (.iadd, 1) := by decide +kernel
theorem dX12_rowCell_21 : decode cX12_rowCell 21 = .ok (.iaload, 1) := by decide +kernel
theorem dX12_rowCell_22 : decode cX12_rowCell 22 = .ok (.goto 16, 3) := by decide +kernel
theorem dX12_rowCell_25 : decode cX12_rowCell 25 = .ok (.aload_n 0, 1) := by decide +kernel
theorem dX12_rowCell_26 : decode cX12_rowCell 26 = .ok (.getfield 55, 3) := by decide +kernel
theorem dX12_rowCell_29 : decode cX12_rowCell 29 = .ok (.aload_n 0, 1) := by decide +kernel
theorem dX12_rowCell_30 : decode cX12_rowCell 30 = .ok (.getfield 110, 3) := by decide +kernel
theorem dX12_rowCell_33 : decode cX12_rowCell 33 = .ok (.iload_n 1, 1) := by decide +kernel
theorem dX12_rowCell_34 : decode cX12_rowCell 34 = .ok (.iaload, 1) := by decide +kernel
theorem dX12_rowCell_35 : decode cX12_rowCell 35 = .ok (.iload_n 2, 1) := by decide +kernel
theorem dX12_rowCell_36 : decode cX12_rowCell 36 = .ok (.iadd, 1) := by decide +kernel
theorem dX12_rowCell_37 : decode cX12_rowCell 37 = .ok (.iaload, 1) := by decide +kernel
theorem dX12_rowCell_38 : decode cX12_rowCell 38 = .ok (.ireturn, 1) := by decide +kernel
theorem dX12_isSmallRule_0 : decode cX12_isSmallRule 0 = .ok (.aload_n 0, 1) := by decide +kernel
theorem dX12_isSmallRule_1 : decode cX12_isSmallRule 1 = .ok (.getfield 107, 3) := by decide +kernel
theorem dX12_isSmallRule_4 : decode cX12_isSmallRule 4 = .ok (.iload_n 1, 1) := by decide +kernel
theorem dX12_isSmallRule_5 : decode cX12_isSmallRule 5 = .ok (.iaload, 1) := by decide +kernel
theorem dX12_isSmallRule_6 : decode cX12_isSmallRule 6 = .ok (.ifCond .lt 27, 3) := by decide +kernel
theorem dX12_isSmallRule_9 : decode cX12_isSmallRule 9 = .ok (.aload_n 0, 1) := by decide +kernel
theorem dX12_isSmallRule_10 : decode cX12_isSmallRule 10 = .ok (.getfield 46, 3) := by decide +kernel
theorem dX12_isSmallRule_13 : decode cX12_isSmallRule 13 = .ok (.bipush 8, 2) := by decide +kernel
theorem dX12_isSmallRule_15 : decode cX12_isSmallRule 15 = .ok (.aload_n 0, 1) := by decide +kernel
theorem dX12_isSmallRule_16 : decode cX12_isSmallRule 16 = .ok (.getfield 107, 3) := by decide +kernel
theorem dX12_isSmallRule_19 : decode cX12_isSmallRule 19 = .ok (.iload_n 1, 1) := by decide +kernel
theorem dX12_isSmallRule_20 : decode cX12_isSmallRule 20 = .ok (.iaload, 1) := by decide +kernel
theorem dX12_isSmallRule_21 : decode cX12_isSmallRule 21 = .ok (.imul, 1) := by decide +kernel
theorem dX12_isSmallRule_22 : decode cX12_isSmallRule 22 = .ok (.iaload, 1) := by decide +kernel
theorem dX12_isSmallRule_23 : decode cX12_isSmallRule 23 = .ok (.invokestatic 208, 3) := by decide +kernel
theorem dX12_isSmallRule_26 : decode cX12_isSmallRule 26 = .ok (.ifCond .eq 7, 3) := by decide +kernel
theorem dX12_isSmallRule_29 : decode cX12_isSmallRule 29 = .ok (.iconst 1, 1) := by decide +kernel
theorem dX12_isSmallRule_30 : decode cX12_isSmallRule 30 = .ok (.goto 4, 3) := by decide +kernel
theorem dX12_isSmallRule_33 : decode cX12_isSmallRule 33 = .ok (.iconst 0, 1) := by decide +kernel
theorem dX12_isSmallRule_34 : decode cX12_isSmallRule 34 = .ok (.ireturn, 1) := by decide +kernel
theorem dX12_stands_0 : decode cX12_stands 0 = .ok (.iload_n 2, 1) := by decide +kernel
theorem dX12_stands_1 : decode cX12_stands 1 = .ok (.aload_n 0, 1) := by decide +kernel
theorem dX12_stands_2 : decode cX12_stands 2 = .ok (.getfield 113, 3) := by decide +kernel
theorem dX12_stands_5 : decode cX12_stands 5 = .ok (.iload_n 1, 1) := by decide +kernel
theorem dX12_stands_6 : decode cX12_stands 6 = .ok (.iaload, 1) := by decide +kernel
theorem dX12_stands_7 : decode cX12_stands 7 = .ok (.iadd, 1) := by decide +kernel
theorem dX12_stands_8 : decode cX12_stands 8 = .ok (.iload_n 3, 1) := by decide +kernel
theorem dX12_stands_9 : decode cX12_stands 9 = .ok (.if_icmp .gt 7, 3) := by decide +kernel
theorem dX12_stands_12 : decode cX12_stands 12 = .ok (.iconst 1, 1) := by decide +kernel
theorem dX12_stands_13 : decode cX12_stands 13 = .ok (.goto 4, 3) := by decide +kernel
theorem dX12_stands_16 : decode cX12_stands 16 = .ok (.iconst 0, 1) := by decide +kernel
theorem dX12_stands_17 : decode cX12_stands 17 = .ok (.istore 4, 2) := by decide +kernel
theorem dX12_stands_19 : decode cX12_stands 19 = .ok (.iconst 0, 1) := by decide +kernel
theorem dX12_stands_20 : decode cX12_stands 20 = .ok (.istore 5, 2) := by decide +kernel
theorem dX12_stands_22 : decode cX12_stands 22 = .ok (.iload 5, 2) := by decide +kernel
theorem dX12_stands_24 : decode cX12_stands 24 = .ok (.aload_n 0, 1) := by decide +kernel
theorem dX12_stands_25 : decode cX12_stands 25 = .ok (.getfield 113, 3) := by decide +kernel
theorem dX12_stands_28 : decode cX12_stands 28 = .ok (.iload_n 1, 1) := by decide +kernel
theorem dX12_stands_29 : decode cX12_stands 29 = .ok (.iaload, 1) := by decide +kernel
theorem dX12_stands_30 : decode cX12_stands 30 = .ok (.if_icmp .ge 40, 3) := by decide +kernel
theorem dX12_stands_33 : decode cX12_stands 33 = .ok (.iload 4, 2) := by decide +kernel
theorem dX12_stands_35 : decode cX12_stands 35 = .ok (.ifCond .eq 35, 3) := by decide +kernel
theorem dX12_stands_38 : decode cX12_stands 38 = .ok (.aload_n 0, 1) := by decide +kernel
theorem dX12_stands_39 : decode cX12_stands 39 = .ok (.iload_n 1, 1) := by decide +kernel
theorem dX12_stands_40 : decode cX12_stands 40 = .ok (.iload 5, 2) := by decide +kernel
theorem dX12_stands_42 : decode cX12_stands 42 = .ok (.invokevirtual 324, 3) := by decide +kernel
theorem dX12_stands_45 : decode cX12_stands 45 = .ok (.aload_n 0, 1) := by decide +kernel
theorem dX12_stands_46 : decode cX12_stands 46 = .ok (.getfield 120, 3) := by decide +kernel
theorem dX12_stands_49 : decode cX12_stands 49 = .ok (.iload_n 2, 1) := by decide +kernel
theorem dX12_stands_50 : decode cX12_stands 50 = .ok (.iload 5, 2) := by decide +kernel
theorem dX12_stands_52 : decode cX12_stands 52 = .ok (.iadd, 1) := by decide +kernel
theorem dX12_stands_53 : decode cX12_stands 53 = .ok (.iaload, 1) := by decide +kernel
theorem dX12_stands_54 : decode cX12_stands 54 = .ok (.if_icmp .ne 7, 3) := by decide +kernel
theorem dX12_stands_57 : decode cX12_stands 57 = .ok (.iconst 1, 1) := by decide +kernel
theorem dX12_stands_58 : decode cX12_stands 58 = .ok (.goto 4, 3) := by decide +kernel
theorem dX12_stands_61 : decode cX12_stands 61 = .ok (.iconst 0, 1) := by decide +kernel
theorem dX12_stands_62 : decode cX12_stands 62 = .ok (.istore 4, 2) := by decide +kernel
theorem dX12_stands_64 : decode cX12_stands 64 = .ok (.iinc 5 1, 3) := by decide +kernel
theorem dX12_stands_67 : decode cX12_stands 67 = .ok (.goto (-45), 3) := by decide +kernel
theorem dX12_stands_70 : decode cX12_stands 70 = .ok (.iload 4, 2) := by decide +kernel
theorem dX12_stands_72 : decode cX12_stands 72 = .ok (.ireturn, 1) := by decide +kernel
theorem dX12_longest_0 : decode cX12_longest 0 = .ok (.iconst (-1), 1) := by decide +kernel
theorem dX12_longest_1 : decode cX12_longest 1 = .ok (.istore 4, 2) := by decide +kernel
theorem dX12_longest_3 : decode cX12_longest 3 = .ok (.sipush 6008, 3) := by decide +kernel
theorem dX12_longest_6 : decode cX12_longest 6 = .ok (.iload_n 1, 1) := by decide +kernel
theorem dX12_longest_7 : decode cX12_longest 7 = .ok (.imul, 1) := by decide +kernel
theorem dX12_longest_8 : decode cX12_longest 8 = .ok (.istore 5, 2) := by decide +kernel
theorem dX12_longest_10 : decode cX12_longest 10 = .ok (.iload 5, 2) := by decide +kernel
theorem dX12_longest_12 : decode cX12_longest 12 = .ok (.sipush 6008, 3) := by decide +kernel
theorem dX12_longest_15 : decode cX12_longest 15 = .ok (.iload_n 1, 1) := by decide +kernel
theorem dX12_longest_16 : decode cX12_longest 16 = .ok (.imul, 1) := by decide +kernel
theorem dX12_longest_17 : decode cX12_longest 17 = .ok (.aload_n 0, 1) := by decide +kernel
theorem dX12_longest_18 : decode cX12_longest 18 = .ok (.getfield 116, 3) := by decide +kernel
theorem dX12_longest_21 : decode cX12_longest 21 = .ok (.iload_n 1, 1) := by decide +kernel
theorem dX12_longest_22 : decode cX12_longest 22 = .ok (.iaload, 1) := by decide +kernel
theorem dX12_longest_23 : decode cX12_longest 23 = .ok (.iadd, 1) := by decide +kernel
theorem dX12_longest_24 : decode cX12_longest 24 = .ok (.if_icmp .ge 46, 3) := by decide +kernel
theorem dX12_longest_27 : decode cX12_longest 27 = .ok (.iload 4, 2) := by decide +kernel
theorem dX12_longest_29 : decode cX12_longest 29 = .ok (.ifCond .lt 20, 3) := by decide +kernel
theorem dX12_longest_32 : decode cX12_longest 32 = .ok (.aload_n 0, 1) := by decide +kernel
theorem dX12_longest_33 : decode cX12_longest 33 = .ok (.getfield 113, 3) := by decide +kernel
theorem dX12_longest_36 : decode cX12_longest 36 = .ok (.iload 5, 2) := by decide +kernel
theorem dX12_longest_38 : decode cX12_longest 38 = .ok (.iaload, 1) := by decide +kernel
theorem dX12_longest_39 : decode cX12_longest 39 = .ok (.aload_n 0, 1) := by decide +kernel
theorem dX12_longest_40 : decode cX12_longest 40 = .ok (.getfield 113, 3) := by decide +kernel
theorem dX12_longest_43 : decode cX12_longest 43 = .ok (.iload 4, 2) := by decide +kernel
theorem dX12_longest_45 : decode cX12_longest 45 = .ok (.iaload, 1) := by decide +kernel
theorem dX12_longest_46 : decode cX12_longest 46 = .ok (.if_icmp .le 18, 3) := by decide +kernel
theorem dX12_longest_49 : decode cX12_longest 49 = .ok (.aload_n 0, 1) := by decide +kernel
theorem dX12_longest_50 : decode cX12_longest 50 = .ok (.iload 5, 2) := by decide +kernel
theorem dX12_longest_52 : decode cX12_longest 52 = .ok (.iload_n 2, 1) := by decide +kernel
theorem dX12_longest_53 : decode cX12_longest 53 = .ok (.iload_n 3, 1) := by decide +kernel
theorem dX12_longest_54 : decode cX12_longest 54 = .ok (.invokevirtual 327, 3) := by decide +kernel
theorem dX12_longest_57 : decode cX12_longest 57 = .ok (.ifCond .eq 7, 3) := by decide +kernel
theorem dX12_longest_60 : decode cX12_longest 60 = .ok (.iload 5, 2) := by decide +kernel
theorem dX12_longest_62 : decode cX12_longest 62 = .ok (.istore 4, 2) := by decide +kernel
theorem dX12_longest_64 : decode cX12_longest 64 = .ok (.iinc 5 1, 3) := by decide +kernel
theorem dX12_longest_67 : decode cX12_longest 67 = .ok (.goto (-57), 3) := by decide +kernel
theorem dX12_longest_70 : decode cX12_longest 70 = .ok (.iload 4, 2) := by decide +kernel
theorem dX12_longest_72 : decode cX12_longest 72 = .ok (.ireturn, 1) := by decide +kernel
theorem dX12_tell_0 : decode cX12_tell 0 = .ok (.aload_n 0, 1) := by decide +kernel
theorem dX12_tell_1 : decode cX12_tell 1 = .ok (.getfield 330, 3) := by decide +kernel
theorem dX12_tell_4 : decode cX12_tell 4 = .ok (.sipush 4000, 3) := by decide +kernel
theorem dX12_tell_7 : decode cX12_tell 7 = .ok (.if_icmp .ne 5, 3) := by decide +kernel
theorem dX12_tell_10 : decode cX12_tell 10 = .ok (.iconst 0, 1) := by decide +kernel
theorem dX12_tell_11 : decode cX12_tell 11 = .ok (.ireturn, 1) := by decide +kernel
theorem dX12_tell_12 : decode cX12_tell 12 = .ok (.aload_n 0, 1) := by decide +kernel
theorem dX12_tell_13 : decode cX12_tell 13 = .ok (.getfield 126, 3) := by decide +kernel
theorem dX12_tell_16 : decode cX12_tell 16 = .ok (.aload_n 0, 1) := by decide +kernel
theorem dX12_tell_17 : decode cX12_tell 17 = .ok (.getfield 330, 3) := by decide +kernel
theorem dX12_tell_20 : decode cX12_tell 20 = .ok (.iload_n 1, 1) := by decide +kernel
theorem dX12_tell_21 : decode cX12_tell 21 = .ok (.iastore, 1) := by decide +kernel
theorem dX12_tell_22 : decode cX12_tell 22 = .ok (.aload_n 0, 1) := by decide +kernel
theorem dX12_tell_23 : decode cX12_tell 23 = .ok (.dup, 1) := by decide +kernel
theorem dX12_tell_24 : decode cX12_tell 24 = .ok (.getfield 330, 3) := by decide +kernel
theorem dX12_tell_27 : decode cX12_tell 27 = .ok (.iconst 1, 1) := by decide +kernel
theorem dX12_tell_28 : decode cX12_tell 28 = .ok (.iadd, 1) := by decide +kernel
theorem dX12_tell_29 : decode cX12_tell 29 = .ok (.putfield 330, 3) := by decide +kernel
theorem dX12_tell_32 : decode cX12_tell 32 = .ok (.iconst 1, 1) := by decide +kernel
theorem dX12_tell_33 : decode cX12_tell 33 = .ok (.ireturn, 1) := by decide +kernel
theorem dX12_readAll_0 : decode cX12_readAll 0 = .ok (.aload_n 0, 1) := by decide +kernel
theorem dX12_readAll_1 : decode cX12_readAll 1 = .ok (.iconst 0, 1) := by decide +kernel
theorem dX12_readAll_2 : decode cX12_readAll 2 = .ok (.putfield 330, 3) := by decide +kernel
theorem dX12_readAll_5 : decode cX12_readAll 5 = .ok (.iconst 0, 1) := by decide +kernel
theorem dX12_readAll_6 : decode cX12_readAll 6 = .ok (.istore_n 1, 1) := by decide +kernel
theorem dX12_readAll_7 : decode cX12_readAll 7 = .ok (.iconst 0, 1) := by decide +kernel
theorem dX12_readAll_8 : decode cX12_readAll 8 = .ok (.istore_n 2, 1) := by decide +kernel
theorem dX12_readAll_9 : decode cX12_readAll 9 = .ok (.iload_n 2, 1) := by decide +kernel
theorem dX12_readAll_10 : decode cX12_readAll 10 = .ok (.aload_n 0, 1) := by decide +kernel
theorem dX12_readAll_11 : decode cX12_readAll 11 = .ok (.getfield 333, 3) := by decide +kernel
theorem dX12_readAll_14 : decode cX12_readAll 14 = .ok (.if_icmp .ge 82, 3) := by decide +kernel
theorem dX12_readAll_17 : decode cX12_readAll 17 = .ok (.aload_n 0, 1) := by decide +kernel
theorem dX12_readAll_18 : decode cX12_readAll 18 = .ok (.getfield 120, 3) := by decide +kernel
theorem dX12_readAll_21 : decode cX12_readAll 21 = .ok (.iload_n 2, 1) := by decide +kernel
theorem dX12_readAll_22 : decode cX12_readAll 22 = .ok (.iaload, 1) := by decide +kernel
theorem dX12_readAll_23 : decode cX12_readAll 23 = .ok (.ifCond .ne 9, 3) := by decide +kernel
theorem dX12_readAll_26 : decode cX12_readAll 26 = .ok (.iinc 2 1, 3) := by decide +kernel
theorem dX12_readAll_29 : decode cX12_readAll 29 = .ok (.goto (-20), 3) := by decide +kernel
theorem dX12_readAll_32 : decode cX12_readAll 32 = .ok (.iload_n 2, 1) := by decide +kernel
theorem dX12_readAll_33 : decode cX12_readAll 33 = .ok (.istore_n 3, 1) := by decide +kernel
theorem dX12_readAll_34 : decode cX12_readAll 34 = .ok (.iload_n 3, 1) := by decide +kernel
theorem dX12_readAll_35 : decode cX12_readAll 35 = .ok (.aload_n 0, 1) := by decide +kernel
theorem dX12_readAll_36 : decode cX12_readAll 36 = .ok (.getfield 333, 3) := by decide +kernel
theorem dX12_readAll_39 : decode cX12_readAll 39 = .ok (.if_icmp .ge 18, 3) := by decide +kernel
theorem dX12_readAll_42 : decode cX12_readAll 42 = .ok (.aload_n 0, 1) := by decide +kernel
theorem dX12_readAll_43 : decode cX12_readAll 43 = .ok (.getfield 120, 3) := by decide +kernel
theorem dX12_readAll_46 : decode cX12_readAll 46 = .ok (.iload_n 3, 1) := by decide +kernel
theorem dX12_readAll_47 : decode cX12_readAll 47 = .ok (.iaload, 1) := by decide +kernel
theorem dX12_readAll_48 : decode cX12_readAll 48 = .ok (.ifCond .eq 9, 3) := by decide +kernel
theorem dX12_readAll_51 : decode cX12_readAll 51 = .ok (.iinc 3 1, 3) := by decide +kernel
theorem dX12_readAll_54 : decode cX12_readAll 54 = .ok (.goto (-20), 3) := by decide +kernel
theorem dX12_readAll_57 : decode cX12_readAll 57 = .ok (.iload_n 1, 1) := by decide +kernel
theorem dX12_readAll_58 : decode cX12_readAll 58 = .ok (.ifCond .eq 15, 3) := by decide +kernel
theorem dX12_readAll_61 : decode cX12_readAll 61 = .ok (.aload_n 0, 1) := by decide +kernel
theorem dX12_readAll_62 : decode cX12_readAll 62 = .ok (.bipush 32, 2) := by decide +kernel
theorem dX12_readAll_64 : decode cX12_readAll 64 = .ok (.invokevirtual 336, 3) := by decide +kernel
theorem dX12_readAll_67 : decode cX12_readAll 67 = .ok (.ifCond .ne 6, 3) := by decide +kernel
theorem dX12_readAll_70 : decode cX12_readAll 70 = .ok (.bipush 6, 2) := by decide +kernel
theorem dX12_readAll_72 : decode cX12_readAll 72 = .ok (.ireturn, 1) := by decide +kernel
theorem dX12_readAll_73 : decode cX12_readAll 73 = .ok (.iconst 1, 1) := by decide +kernel
theorem dX12_readAll_74 : decode cX12_readAll 74 = .ok (.istore_n 1, 1) := by decide +kernel
theorem dX12_readAll_75 : decode cX12_readAll 75 = .ok (.aload_n 0, 1) := by decide +kernel
theorem dX12_readAll_76 : decode cX12_readAll 76 = .ok (.iload_n 2, 1) := by decide +kernel
theorem dX12_readAll_77 : decode cX12_readAll 77 = .ok (.iload_n 3, 1) := by decide +kernel
theorem dX12_readAll_78 : decode cX12_readAll 78 = .ok (.invokevirtual 339, 3) := by decide +kernel
theorem dX12_readAll_81 : decode cX12_readAll 81 = .ok (.istore 4, 2) := by decide +kernel
theorem dX12_readAll_83 : decode cX12_readAll 83 = .ok (.iload 4, 2) := by decide +kernel
theorem dX12_readAll_85 : decode cX12_readAll 85 = .ok (.ifCond .le 6, 3) := by decide +kernel
theorem dX12_readAll_88 : decode cX12_readAll 88 = .ok (.iload 4, 2) := by decide +kernel
theorem dX12_readAll_90 : decode cX12_readAll 90 = .ok (.ireturn, 1) := by decide +kernel
theorem dX12_readAll_91 : decode cX12_readAll 91 = .ok (.iload_n 3, 1) := by decide +kernel
theorem dX12_readAll_92 : decode cX12_readAll 92 = .ok (.istore_n 2, 1) := by decide +kernel
theorem dX12_readAll_93 : decode cX12_readAll 93 = .ok (.goto (-84), 3) := by decide +kernel
theorem dX12_readAll_96 : decode cX12_readAll 96 = .ok (.iconst 0, 1) := by decide +kernel
theorem dX12_readAll_97 : decode cX12_readAll 97 = .ok (.ireturn, 1) := by decide +kernel
theorem dX12_readWord_0 : decode cX12_readWord 0 = .ok (.iconst 0, 1) := by decide +kernel
theorem dX12_readWord_1 : decode cX12_readWord 1 = .ok (.istore_n 3, 1) := by decide +kernel
theorem dX12_readWord_2 : decode cX12_readWord 2 = .ok (.iconst 0, 1) := by decide +kernel
theorem dX12_readWord_3 : decode cX12_readWord 3 = .ok (.istore 4, 2) := by decide +kernel
theorem dX12_readWord_5 : decode cX12_readWord 5 = .ok (.iload_n 1, 1) := by decide +kernel
theorem dX12_readWord_6 : decode cX12_readWord 6 = .ok (.istore 5, 2) := by decide +kernel
theorem dX12_readWord_8 : decode cX12_readWord 8 = .ok (.iload 5, 2) := by decide +kernel
theorem dX12_readWord_10 : decode cX12_readWord 10 = .ok (.iload_n 2, 1) := by decide +kernel
theorem dX12_readWord_11 : decode cX12_readWord 11 = .ok (.if_icmp .ge 186, 3) := by decide +kernel
theorem dX12_readWord_14 : decode cX12_readWord 14 = .ok (.aload_n 0, 1) := by decide +kernel
theorem dX12_readWord_15 : decode cX12_readWord 15 = .ok (.iload_n 3, 1) := by decide +kernel
theorem dX12_readWord_16 : decode cX12_readWord 16 = .ok (.iload 5, 2) := by decide +kernel
theorem dX12_readWord_18 : decode cX12_readWord 18 = .ok (.iload_n 2, 1) := by decide +kernel
theorem dX12_readWord_19 : decode cX12_readWord 19 = .ok (.invokevirtual 342, 3) := by decide +kernel
theorem dX12_readWord_22 : decode cX12_readWord 22 = .ok (.istore 6, 2) := by decide +kernel
theorem dX12_readWord_24 : decode cX12_readWord 24 = .ok (.aload_n 0, 1) := by decide +kernel
theorem dX12_readWord_25 : decode cX12_readWord 25 = .ok (.iload 5, 2) := by decide +kernel
theorem dX12_readWord_27 : decode cX12_readWord 27 = .ok (.putfield 345, 3) := by decide +kernel
theorem dX12_readWord_30 : decode cX12_readWord 30 = .ok (.iload 6, 2) := by decide +kernel
theorem dX12_readWord_32 : decode cX12_readWord 32 = .ok (.ifCond .lt 17, 3) := by decide +kernel
theorem dX12_readWord_35 : decode cX12_readWord 35 = .ok (.iload 4, 2) := by decide +kernel
theorem dX12_readWord_37 : decode cX12_readWord 37 = .ok (.ifCond .eq 15, 3) := by decide +kernel
theorem dX12_readWord_40 : decode cX12_readWord 40 = .ok (.aload_n 0, 1) := by decide +kernel
theorem dX12_readWord_41 : decode cX12_readWord 41 = .ok (.iload 6, 2) := by decide +kernel
theorem dX12_readWord_43 : decode cX12_readWord 43 = .ok (.invokevirtual 348, 3) := by decide +kernel
theorem dX12_readWord_46 : decode cX12_readWord 46 = .ok (.ifCond .ne 6, 3) := by decide +kernel
theorem dX12_readWord_49 : decode cX12_readWord 49 = .ok (.bipush 9, 2) := by decide +kernel
theorem dX12_readWord_51 : decode cX12_readWord 51 = .ok (.ireturn, 1) := by decide +kernel
theorem dX12_readWord_52 : decode cX12_readWord 52 = .ok (.aload_n 0, 1) := by decide +kernel
theorem dX12_readWord_53 : decode cX12_readWord 53 = .ok (.getfield 107, 3) := by decide +kernel
theorem dX12_readWord_56 : decode cX12_readWord 56 = .ok (.iload 6, 2) := by decide +kernel
theorem dX12_readWord_58 : decode cX12_readWord 58 = .ok (.iaload, 1) := by decide +kernel
theorem dX12_readWord_59 : decode cX12_readWord 59 = .ok (.istore 7, 2) := by decide +kernel
theorem dX12_readWord_61 : decode cX12_readWord 61 = .ok (.iload 7, 2) := by decide +kernel
theorem dX12_readWord_63 : decode cX12_readWord 63 = .ok (.ifCond .lt 64, 3) := by decide +kernel
theorem dX12_readWord_66 : decode cX12_readWord 66 = .ok (.iconst 0, 1) := by decide +kernel
theorem dX12_readWord_67 : decode cX12_readWord 67 = .ok (.istore 8, 2) := by decide +kernel
theorem dX12_readWord_69 : decode cX12_readWord 69 = .ok (.iload 8, 2) := by decide +kernel
theorem dX12_readWord_71 : decode cX12_readWord 71 = .ok (.aload_n 0, 1) := by decide +kernel
theorem dX12_readWord_72 : decode cX12_readWord 72 = .ok (.getfield 39, 3) := by decide +kernel
theorem dX12_readWord_75 : decode cX12_readWord 75 = .ok (.iload 7, 2) := by decide +kernel
theorem dX12_readWord_77 : decode cX12_readWord 77 = .ok (.iaload, 1) := by decide +kernel
theorem dX12_readWord_78 : decode cX12_readWord 78 = .ok (.if_icmp .ge 49, 3) := by decide +kernel
theorem dX12_readWord_81 : decode cX12_readWord 81 = .ok (.aload_n 0, 1) := by decide +kernel
theorem dX12_readWord_82 : decode cX12_readWord 82 = .ok (.aload_n 0, 1) := by decide +kernel
theorem dX12_readWord_83 : decode cX12_readWord 83 = .ok (.getfield 46, 3) := by decide +kernel
theorem dX12_readWord_86 : decode cX12_readWord 86 = .ok (.bipush 8, 2) := by decide +kernel
theorem dX12_readWord_88 : decode cX12_readWord 88 = .ok (.iload 7, 2) := by decide +kernel
theorem dX12_readWord_90 : decode cX12_readWord 90 = .ok (.imul, 1) := by decide +kernel
theorem dX12_readWord_91 : decode cX12_readWord 91 = .ok (.iload 8, 2) := by decide +kernel
theorem dX12_readWord_93 : decode cX12_readWord 93 = .ok (.iadd, 1) := by decide +kernel
theorem dX12_readWord_94 : decode cX12_readWord 94 = .ok (.iaload, 1) := by decide +kernel
theorem dX12_readWord_95 : decode cX12_readWord 95 = .ok (.iload 4, 2) := by decide +kernel
theorem dX12_readWord_97 : decode cX12_readWord 97 = .ok (.ifCond .eq 13, 3) := by decide +kernel
theorem dX12_readWord_100 : decode cX12_readWord 100 = .ok (.iload 8, 2) := by decide +kernel
theorem dX12_readWord_102 : decode cX12_readWord 102 = .ok (.ifCond .ne 8, 3) := by decide +kernel
theorem dX12_readWord_105 : decode cX12_readWord 105 = .ok (.bipush 32, 2) := by decide +kernel
theorem dX12_readWord_107 : decode cX12_readWord 107 = .ok (.goto 4, 3) := by decide +kernel
theorem dX12_readWord_110 : decode cX12_readWord 110 = .ok (.iconst 0, 1) := by decide +kernel
theorem dX12_readWord_111 : decode cX12_readWord 111 = .ok (.isub, 1) := by decide +kernel
theorem dX12_readWord_112 : decode cX12_readWord 112 = .ok (.invokevirtual 336, 3) := by decide +kernel
theorem dX12_readWord_115 : decode cX12_readWord 115 = .ok (.ifCond .ne 6, 3) := by decide +kernel
theorem dX12_readWord_118 : decode cX12_readWord 118 = .ok (.bipush 6, 2) := by decide +kernel
theorem dX12_readWord_120 : decode cX12_readWord 120 = .ok (.ireturn, 1) := by decide +kernel
theorem dX12_readWord_121 : decode cX12_readWord 121 = .ok (.iinc 8 1, 3) := by decide +kernel
theorem dX12_readWord_124 : decode cX12_readWord 124 = .ok (.goto (-55), 3) := by decide +kernel
theorem dX12_readWord_127 : decode cX12_readWord 127 = .ok (.iload 7, 2) := by decide +kernel
theorem dX12_readWord_129 : decode cX12_readWord 129 = .ok (.iconst (-1), 1) := by decide +kernel
theorem dX12_readWord_130 : decode cX12_readWord 130 = .ok (.if_icmp .ne 7, 3) := by decide +kernel
theorem dX12_readWord_133 : decode cX12_readWord 133 = .ok (.iconst 1, 1) := by decide +kernel
theorem dX12_readWord_134 : decode cX12_readWord 134 = .ok (.goto 4, 3) := by decide +kernel
theorem dX12_readWord_137 : decode cX12_readWord 137 = .ok (.iconst 0, 1) := by decide +kernel
theorem dX12_readWord_138 : decode cX12_readWord 138 = .ok (.istore 4, 2) := by decide +kernel
theorem dX12_readWord_140 : decode cX12_readWord 140 = .ok (.iload 7, 2) := by decide +kernel
theorem dX12_readWord_142 : decode cX12_readWord 142 = .ok (.bipush (-3), 2) := by decide +kernel
theorem dX12_readWord_144 : decode cX12_readWord 144 = .ok (.if_icmp .eq 10, 3) := by decide +kernel
theorem dX12_readWord_147 : decode cX12_readWord 147 = .ok (.iload 7, 2) := by decide +kernel
theorem dX12_readWord_149 : decode cX12_readWord 149 = .ok (.bipush (-4), 2) := by decide +kernel
theorem dX12_readWord_151 : decode cX12_readWord 151 = .ok (.if_icmp .ne 31, 3) := by decide +kernel
theorem dX12_readWord_154 : decode cX12_readWord 154 = .ok (.iconst 1, 1) := by decide +kernel
theorem dX12_readWord_155 : decode cX12_readWord 155 = .ok (.iload_n 3, 1) := by decide +kernel
theorem dX12_readWord_156 : decode cX12_readWord 156 = .ok (.isub, 1) := by decide +kernel
theorem dX12_readWord_157 : decode cX12_readWord 157 = .ok (.istore_n 3, 1) := by decide +kernel
theorem dX12_readWord_158 : decode cX12_readWord 158 = .ok (.aload_n 0, 1) := by decide +kernel
theorem dX12_readWord_159 : decode cX12_readWord 159 = .ok (.iload 7, 2) := by decide +kernel
theorem dX12_readWord_161 : decode cX12_readWord 161 = .ok (.bipush (-3), 2) := by decide +kernel
theorem dX12_readWord_163 : decode cX12_readWord 163 = .ok (.if_icmp .ne 8, 3) := by decide +kernel
theorem dX12_readWord_166 : decode cX12_readWord 166 = .ok (.bipush 60, 2) := by decide +kernel
theorem dX12_readWord_168 : decode cX12_readWord 168 = .ok (.goto 5, 3) := by decide +kernel
theorem dX12_readWord_171 : decode cX12_readWord 171 = .ok (.bipush 62, 2) := by decide +kernel
theorem dX12_readWord_173 : decode cX12_readWord 173 = .ok (.invokevirtual 336, 3) := by decide +kernel
theorem dX12_readWord_176 : decode cX12_readWord 176 = .ok (.ifCond .ne 6, 3) := by decide +kernel
theorem dX12_readWord_179 : decode cX12_readWord 179 = .ok (.bipush 6, 2) := by decide +kernel
theorem dX12_readWord_181 : decode cX12_readWord 181 = .ok (.ireturn, 1) := by decide +kernel
theorem dX12_readWord_182 : decode cX12_readWord 182 = .ok (.iload 5, 2) := by decide +kernel
theorem dX12_readWord_184 : decode cX12_readWord 184 = .ok (.aload_n 0, 1) := by decide +kernel
theorem dX12_readWord_185 : decode cX12_readWord 185 = .ok (.getfield 113, 3) := by decide +kernel
theorem dX12_readWord_188 : decode cX12_readWord 188 = .ok (.iload 6, 2) := by decide +kernel
theorem dX12_readWord_190 : decode cX12_readWord 190 = .ok (.iaload, 1) := by decide +kernel
theorem dX12_readWord_191 : decode cX12_readWord 191 = .ok (.iadd, 1) := by decide +kernel
theorem dX12_readWord_192 : decode cX12_readWord 192 = .ok (.istore 5, 2) := by decide +kernel
theorem dX12_readWord_194 : decode cX12_readWord 194 = .ok (.goto (-186), 3) := by decide +kernel
theorem dX12_readWord_197 : decode cX12_readWord 197 = .ok (.aload_n 0, 1) := by decide +kernel
theorem dX12_readWord_198 : decode cX12_readWord 198 = .ok (.iload_n 2, 1) := by decide +kernel
theorem dX12_readWord_199 : decode cX12_readWord 199 = .ok (.putfield 345, 3) := by decide +kernel
theorem dX12_readWord_202 : decode cX12_readWord 202 = .ok (.iload 4, 2) := by decide +kernel
theorem dX12_readWord_204 : decode cX12_readWord 204 = .ok (.ifCond .eq 8, 3) := by decide +kernel
theorem dX12_readWord_207 : decode cX12_readWord 207 = .ok (.bipush 9, 2) := by decide +kernel
theorem dX12_readWord_209 : decode cX12_readWord 209 = .ok (.goto 4, 3) := by decide +kernel
theorem dX12_readWord_212 : decode cX12_readWord 212 = .ok (.iconst 0, 1) := by decide +kernel
theorem dX12_readWord_213 : decode cX12_readWord 213 = .ok (.ireturn, 1) := by decide +kernel
theorem dX12_read_0 : decode cX12_read 0 = .ok (.aload_n 0, 1) := by decide +kernel
theorem dX12_read_1 : decode cX12_read 1 = .ok (.iload_n 1, 1) := by decide +kernel
theorem dX12_read_2 : decode cX12_read 2 = .ok (.invokevirtual 171, 3) := by decide +kernel
theorem dX12_read_5 : decode cX12_read 5 = .ok (.ifCond .ne 9, 3) := by decide +kernel
theorem dX12_read_8 : decode cX12_read 8 = .ok (.aload_n 0, 1) := by decide +kernel
theorem dX12_read_9 : decode cX12_read 9 = .ok (.iconst 3, 1) := by decide +kernel
theorem dX12_read_10 : decode cX12_read 10 = .ok (.invokevirtual 154, 3) := by decide +kernel
theorem dX12_read_13 : decode cX12_read 13 = .ok (.ireturn, 1) := by decide +kernel
theorem dX12_read_14 : decode cX12_read 14 = .ok (.iload_n 3, 1) := by decide +kernel
theorem dX12_read_15 : decode cX12_read 15 = .ok (.ifCond .ge 9, 3) := by decide +kernel
theorem dX12_read_18 : decode cX12_read 18 = .ok (.aload_n 0, 1) := by decide +kernel
theorem dX12_read_19 : decode cX12_read 19 = .ok (.iconst 5, 1) := by decide +kernel
theorem dX12_read_20 : decode cX12_read 20 = .ok (.invokevirtual 154, 3) := by decide +kernel
theorem dX12_read_23 : decode cX12_read 23 = .ok (.ireturn, 1) := by decide +kernel
theorem dX12_read_24 : decode cX12_read 24 = .ok (.aload_n 0, 1) := by decide +kernel
theorem dX12_read_25 : decode cX12_read 25 = .ok (.iconst 0, 1) := by decide +kernel
theorem dX12_read_26 : decode cX12_read 26 = .ok (.putfield 333, 3) := by decide +kernel
theorem dX12_read_29 : decode cX12_read 29 = .ok (.iconst 0, 1) := by decide +kernel
theorem dX12_read_30 : decode cX12_read 30 = .ok (.istore 4, 2) := by decide +kernel
theorem dX12_read_32 : decode cX12_read 32 = .ok (.iload 4, 2) := by decide +kernel
theorem dX12_read_34 : decode cX12_read 34 = .ok (.iload_n 3, 1) := by decide +kernel
theorem dX12_read_35 : decode cX12_read 35 = .ok (.if_icmp .ge 174, 3) := by decide +kernel
theorem dX12_read_38 : decode cX12_read 38 = .ok (.iload_n 2, 1) := by decide +kernel
theorem dX12_read_39 : decode cX12_read 39 = .ok (.i2l, 1) := by decide +kernel
theorem dX12_read_40 : decode cX12_read 40 = .ok (.iload 4, 2) := by decide +kernel
theorem dX12_read_42 : decode cX12_read 42 = .ok (.i2l, 1) := by decide +kernel
theorem dX12_read_43 : decode cX12_read 43 = .ok (.ladd, 1) := by decide +kernel
theorem dX12_read_44 : decode cX12_read 44 = .ok (.lstore 5, 2) := by decide +kernel
theorem dX12_read_46 : decode cX12_read 46 = .ok (.lload 5, 2) := by decide +kernel
theorem dX12_read_48 : decode cX12_read 48 = .ok (.lconst 0, 1) := by decide +kernel
theorem dX12_read_49 : decode cX12_read 49 = .ok (.lcmp, 1) := by decide +kernel
theorem dX12_read_50 : decode cX12_read 50 = .ok (.ifCond .lt 14, 3) := by decide +kernel
theorem dX12_read_53 : decode cX12_read 53 = .ok (.lload 5, 2) := by decide +kernel
theorem dX12_read_55 : decode cX12_read 55 = .ok (.aload_n 0, 1) := by decide +kernel
theorem dX12_read_56 : decode cX12_read 56 = .ok (.getfield 279, 3) := by decide +kernel
theorem dX12_read_59 : decode cX12_read 59 = .ok (.i2l, 1) := by decide +kernel
theorem dX12_read_60 : decode cX12_read 60 = .ok (.lcmp, 1) := by decide +kernel
theorem dX12_read_61 : decode cX12_read 61 = .ok (.ifCond .lt 7, 3) := by decide +kernel
theorem dX12_read_64 : decode cX12_read 64 = .ok (.iconst (-1), 1) := by decide +kernel
theorem dX12_read_65 : decode cX12_read 65 = .ok (.goto 6, 3) := by decide +kernel
theorem dX12_read_68 : decode cX12_read 68 = .ok (.lload 5, 2) := by decide +kernel
theorem dX12_read_70 : decode cX12_read 70 = .ok (.l2i, 1) := by decide +kernel
theorem dX12_read_71 : decode cX12_read 71 = .ok (.istore 7, 2) := by decide +kernel
theorem dX12_read_73 : decode cX12_read 73 = .ok (.aload_n 0, 1) := by decide +kernel
theorem dX12_read_74 : decode cX12_read 74 = .ok (.iload 7, 2) := by decide +kernel
theorem dX12_read_76 : decode cX12_read 76 = .ok (.invokevirtual 294, 3) := by decide +kernel
theorem dX12_read_79 : decode cX12_read 79 = .ok (.ifCond .le 14, 3) := by decide +kernel
theorem dX12_read_82 : decode cX12_read 82 = .ok (.aload_n 0, 1) := by decide +kernel
theorem dX12_read_83 : decode cX12_read 83 = .ok (.aload_n 0, 1) := by decide +kernel
theorem dX12_read_84 : decode cX12_read 84 = .ok (.iload 7, 2) := by decide +kernel
theorem dX12_read_86 : decode cX12_read 86 = .ok (.invokevirtual 294, 3) := by decide +kernel
theorem dX12_read_89 : decode cX12_read 89 = .ok (.invokevirtual 154, 3) := by decide +kernel
theorem dX12_read_92 : decode cX12_read 92 = .ok (.ireturn, 1) := by decide +kernel
theorem dX12_read_93 : decode cX12_read 93 = .ok (.aload_n 0, 1) := by decide +kernel
theorem dX12_read_94 : decode cX12_read 94 = .ok (.getfield 91, 3) := by decide +kernel
theorem dX12_read_97 : decode cX12_read 97 = .ok (.iload 7, 2) := by decide +kernel
theorem dX12_read_99 : decode cX12_read 99 = .ok (.iaload, 1) := by decide +kernel
theorem dX12_read_100 : decode cX12_read 100 = .ok (.istore 8, 2) := by decide +kernel
theorem dX12_read_102 : decode cX12_read 102 = .ok (.iload 8, 2) := by decide +kernel
theorem dX12_read_104 : decode cX12_read 104 = .ok (.ifCond .le 30, 3) := by decide +kernel
theorem dX12_read_107 : decode cX12_read 107 = .ok (.aload_n 0, 1) := by decide +kernel
theorem dX12_read_108 : decode cX12_read 108 = .ok (.getfield 95, 3) := by decide +kernel
theorem dX12_read_111 : decode cX12_read 111 = .ok (.sipush 200, 3) := by decide +kernel
theorem dX12_read_114 : decode cX12_read 114 = .ok (.iload 7, 2) := by decide +kernel
theorem dX12_read_116 : decode cX12_read 116 = .ok (.imul, 1) := by decide +kernel
theorem dX12_read_117 : decode cX12_read 117 = .ok (.iload 8, 2) := by decide +kernel
theorem dX12_read_119 : decode cX12_read 119 = .ok (.iadd, 1) := by decide +kernel
theorem dX12_read_120 : decode cX12_read 120 = .ok (.iconst 1, 1) := by decide +kernel
theorem dX12_read_121 : decode cX12_read 121 = .ok (.isub, 1) := by decide +kernel
theorem dX12_read_122 : decode cX12_read 122 = .ok (.iaload, 1) := by decide +kernel
theorem dX12_read_123 : decode cX12_read 123 = .ok (.aload_n 0, 1) := by decide +kernel
theorem dX12_read_124 : decode cX12_read 124 = .ok (.getfield 88, 3) := by decide +kernel
theorem dX12_read_127 : decode cX12_read 127 = .ok (.if_icmp .ne 7, 3) := by decide +kernel
theorem dX12_read_130 : decode cX12_read 130 = .ok (.iconst 1, 1) := by decide +kernel
theorem dX12_read_131 : decode cX12_read 131 = .ok (.goto 4, 3) := by decide +kernel
theorem dX12_read_134 : decode cX12_read 134 = .ok (.iconst 0, 1) := by decide +kernel
theorem dX12_read_135 : decode cX12_read 135 = .ok (.istore 9, 2) := by decide +kernel
theorem dX12_read_137 : decode cX12_read 137 = .ok (.iconst 0, 1) := by decide +kernel
theorem dX12_read_138 : decode cX12_read 138 = .ok (.istore 10, 2) := by decide +kernel
theorem dX12_read_140 : decode cX12_read 140 = .ok (.iload 10, 2) := by decide +kernel
theorem dX12_read_142 : decode cX12_read 142 = .ok (.iload 9, 2) := by decide +kernel
theorem dX12_read_144 : decode cX12_read 144 = .ok (.ifCond .eq 10, 3) := by decide +kernel
theorem dX12_read_147 : decode cX12_read 147 = .ok (.iload 8, 2) := by decide +kernel
theorem dX12_read_149 : decode cX12_read 149 = .ok (.iconst 1, 1) := by decide +kernel
theorem dX12_read_150 : decode cX12_read 150 = .ok (.isub, 1) := by decide +kernel
theorem dX12_read_151 : decode cX12_read 151 = .ok (.goto 5, 3) := by decide +kernel
theorem dX12_read_154 : decode cX12_read 154 = .ok (.iload 8, 2) := by decide +kernel
theorem dX12_read_156 : decode cX12_read 156 = .ok (.if_icmp .ge 36, 3) := by decide +kernel
theorem dX12_read_159 : decode cX12_read 159 = .ok (.aload_n 0, 1) := by decide +kernel
theorem dX12_read_160 : decode cX12_read 160 = .ok (.aload_n 0, 1) := by decide +kernel
theorem dX12_read_161 : decode cX12_read 161 = .ok (.getfield 95, 3) := by decide +kernel
theorem dX12_read_164 : decode cX12_read 164 = .ok (.sipush 200, 3) := by decide +kernel
theorem dX12_read_167 : decode cX12_read 167 = .ok (.iload 7, 2) := by decide +kernel
theorem dX12_read_169 : decode cX12_read 169 = .ok (.imul, 1) := by decide +kernel
theorem dX12_read_170 : decode cX12_read 170 = .ok (.iload 10, 2) := by decide +kernel
theorem dX12_read_172 : decode cX12_read 172 = .ok (.iadd, 1) := by decide +kernel
theorem dX12_read_173 : decode cX12_read 173 = .ok (.iaload, 1) := by decide +kernel
theorem dX12_read_174 : decode cX12_read 174 = .ok (.sipush 1000, 3) := by decide +kernel
theorem dX12_read_177 : decode cX12_read 177 = .ok (.iload 7, 2) := by decide +kernel
theorem dX12_read_179 : decode cX12_read 179 = .ok (.imul, 1) := by decide +kernel
theorem dX12_read_180 : decode cX12_read 180 = .ok (.iload 10, 2) := by decide +kernel
theorem dX12_read_182 : decode cX12_read 182 = .ok (.iadd, 1) := by decide +kernel
theorem dX12_read_183 : decode cX12_read 183 = .ok (.invokevirtual 351, 3) := by decide +kernel
theorem dX12_read_186 : decode cX12_read 186 = .ok (.iinc 10 1, 3) := by decide +kernel
theorem dX12_read_189 : decode cX12_read 189 = .ok (.goto (-49), 3) := by decide +kernel
theorem dX12_read_192 : decode cX12_read 192 = .ok (.iload 9, 2) := by decide +kernel
theorem dX12_read_194 : decode cX12_read 194 = .ok (.ifCond .ne 9, 3) := by decide +kernel
theorem dX12_read_197 : decode cX12_read 197 = .ok (.aload_n 0, 1) := by decide +kernel
theorem dX12_read_198 : decode cX12_read 198 = .ok (.iconst 0, 1) := by decide +kernel
theorem dX12_read_199 : decode cX12_read 199 = .ok (.iconst 0, 1) := by decide +kernel
theorem dX12_read_200 : decode cX12_read 200 = .ok (.invokevirtual 351, 3) := by decide +kernel
theorem dX12_read_203 : decode cX12_read 203 = .ok (.iinc 4 1, 3) := by decide +kernel
theorem dX12_read_206 : decode cX12_read 206 = .ok (.goto (-174), 3) := by decide +kernel
theorem dX12_read_209 : decode cX12_read 209 = .ok (.aload_n 0, 1) := by decide +kernel
theorem dX12_read_210 : decode cX12_read 210 = .ok (.iload_n 1, 1) := by decide +kernel
theorem dX12_read_211 : decode cX12_read 211 = .ok (.invokevirtual 354, 3) := by decide +kernel
theorem dX12_read_214 : decode cX12_read 214 = .ok (.aload_n 0, 1) := by decide +kernel
theorem dX12_read_215 : decode cX12_read 215 = .ok (.invokevirtual 357, 3) := by decide +kernel
theorem dX12_read_218 : decode cX12_read 218 = .ok (.istore 4, 2) := by decide +kernel
theorem dX12_read_220 : decode cX12_read 220 = .ok (.iload 4, 2) := by decide +kernel
theorem dX12_read_222 : decode cX12_read 222 = .ok (.ifCond .ne 12, 3) := by decide +kernel
theorem dX12_read_225 : decode cX12_read 225 = .ok (.aload_n 0, 1) := by decide +kernel
theorem dX12_read_226 : decode cX12_read 226 = .ok (.aload_n 0, 1) := by decide +kernel
theorem dX12_read_227 : decode cX12_read 227 = .ok (.getfield 330, 3) := by decide +kernel
theorem dX12_read_230 : decode cX12_read 230 = .ok (.invokevirtual 158, 3) := by decide +kernel
theorem dX12_read_233 : decode cX12_read 233 = .ok (.ireturn, 1) := by decide +kernel
theorem dX12_read_234 : decode cX12_read 234 = .ok (.aload_n 0, 1) := by decide +kernel
theorem dX12_read_235 : decode cX12_read 235 = .ok (.iconst 0, 1) := by decide +kernel
theorem dX12_read_236 : decode cX12_read 236 = .ok (.putfield 330, 3) := by decide +kernel
theorem dX12_read_239 : decode cX12_read 239 = .ok (.aload_n 0, 1) := by decide +kernel
theorem dX12_read_240 : decode cX12_read 240 = .ok (.getfield 345, 3) := by decide +kernel
theorem dX12_read_243 : decode cX12_read 243 = .ok (.aload_n 0, 1) := by decide +kernel
theorem dX12_read_244 : decode cX12_read 244 = .ok (.getfield 333, 3) := by decide +kernel
theorem dX12_read_247 : decode cX12_read 247 = .ok (.if_icmp .ge 27, 3) := by decide +kernel
theorem dX12_read_250 : decode cX12_read 250 = .ok (.aload_n 0, 1) := by decide +kernel
theorem dX12_read_251 : decode cX12_read 251 = .ok (.getfield 120, 3) := by decide +kernel
theorem dX12_read_254 : decode cX12_read 254 = .ok (.aload_n 0, 1) := by decide +kernel
theorem dX12_read_255 : decode cX12_read 255 = .ok (.getfield 345, 3) := by decide +kernel
theorem dX12_read_258 : decode cX12_read 258 = .ok (.iaload, 1) := by decide +kernel
theorem dX12_read_259 : decode cX12_read 259 = .ok (.ifCond .eq 15, 3) := by decide +kernel
theorem dX12_read_262 : decode cX12_read 262 = .ok (.aload_n 0, 1) := by decide +kernel
theorem dX12_read_263 : decode cX12_read 263 = .ok (.getfield 123, 3) := by decide +kernel
theorem dX12_read_266 : decode cX12_read 266 = .ok (.aload_n 0, 1) := by decide +kernel
theorem dX12_read_267 : decode cX12_read 267 = .ok (.getfield 345, 3) := by decide +kernel
theorem dX12_read_270 : decode cX12_read 270 = .ok (.iaload, 1) := by decide +kernel
theorem dX12_read_271 : decode cX12_read 271 = .ok (.goto 27, 3) := by decide +kernel
theorem dX12_read_274 : decode cX12_read 274 = .ok (.aload_n 0, 1) := by decide +kernel
theorem dX12_read_275 : decode cX12_read 275 = .ok (.getfield 345, 3) := by decide +kernel
theorem dX12_read_278 : decode cX12_read 278 = .ok (.ifCond .le 19, 3) := by decide +kernel
theorem dX12_read_281 : decode cX12_read 281 = .ok (.aload_n 0, 1) := by decide +kernel
theorem dX12_read_282 : decode cX12_read 282 = .ok (.getfield 123, 3) := by decide +kernel
theorem dX12_read_285 : decode cX12_read 285 = .ok (.aload_n 0, 1) := by decide +kernel
theorem dX12_read_286 : decode cX12_read 286 = .ok (.getfield 345, 3) := by decide +kernel
theorem dX12_read_289 : decode cX12_read 289 = .ok (.iconst 1, 1) := by decide +kernel
theorem dX12_read_290 : decode cX12_read 290 = .ok (.isub, 1) := by decide +kernel
theorem dX12_read_291 : decode cX12_read 291 = .ok (.iaload, 1) := by decide +kernel
theorem dX12_read_292 : decode cX12_read 292 = .ok (.iconst 1, 1) := by decide +kernel
theorem dX12_read_293 : decode cX12_read 293 = .ok (.iadd, 1) := by decide +kernel
theorem dX12_read_294 : decode cX12_read 294 = .ok (.goto 4, 3) := by decide +kernel
theorem dX12_read_297 : decode cX12_read 297 = .ok (.iconst 0, 1) := by decide +kernel
theorem dX12_read_298 : decode cX12_read 298 = .ok (.istore 5, 2) := by decide +kernel
theorem dX12_read_300 : decode cX12_read 300 = .ok (.aload_n 0, 1) := by decide +kernel
theorem dX12_read_301 : decode cX12_read 301 = .ok (.iload 4, 2) := by decide +kernel
theorem dX12_read_303 : decode cX12_read 303 = .ok (.iload 5, 2) := by decide +kernel
theorem dX12_read_305 : decode cX12_read 305 = .ok (.invokevirtual 240, 3) := by decide +kernel
theorem dX12_read_308 : decode cX12_read 308 = .ok (.ireturn, 1) := by decide +kernel
theorem dX12_putRow_0 : decode cX12_putRow 0 = .ok (.aload_n 0, 1) := by decide +kernel
theorem dX12_putRow_1 : decode cX12_putRow 1 = .ok (.getfield 120, 3) := by decide +kernel
theorem dX12_putRow_4 : decode cX12_putRow 4 = .ok (.aload_n 0, 1) := by decide +kernel
theorem dX12_putRow_5 : decode cX12_putRow 5 = .ok (.getfield 333, 3) := by decide +kernel
theorem dX12_putRow_8 : decode cX12_putRow 8 = .ok (.iload_n 1, 1) := by decide +kernel
theorem dX12_putRow_9 : decode cX12_putRow 9 = .ok (.iastore, 1) := by decide +kernel
theorem dX12_putRow_10 : decode cX12_putRow 10 = .ok (.aload_n 0, 1) := by decide +kernel
theorem dX12_putRow_11 : decode cX12_putRow 11 = .ok (.getfield 123, 3) := by decide +kernel
theorem dX12_putRow_14 : decode cX12_putRow 14 = .ok (.aload_n 0, 1) := by decide +kernel
theorem dX12_putRow_15 : decode cX12_putRow 15 = .ok (.getfield 333, 3) := by decide +kernel
theorem dX12_putRow_18 : decode cX12_putRow 18 = .ok (.iload_n 2, 1) := by decide +kernel
theorem dX12_putRow_19 : decode cX12_putRow 19 = .ok (.iastore, 1) := by decide +kernel
theorem dX12_putRow_20 : decode cX12_putRow 20 = .ok (.aload_n 0, 1) := by decide +kernel
theorem dX12_putRow_21 : decode cX12_putRow 21 = .ok (.dup, 1) := by decide +kernel
theorem dX12_putRow_22 : decode cX12_putRow 22 = .ok (.getfield 333, 3) := by decide +kernel
theorem dX12_putRow_25 : decode cX12_putRow 25 = .ok (.iconst 1, 1) := by decide +kernel
theorem dX12_putRow_26 : decode cX12_putRow 26 = .ok (.iadd, 1) := by decide +kernel
theorem dX12_putRow_27 : decode cX12_putRow 27 = .ok (.putfield 333, 3) := by decide +kernel
theorem dX12_putRow_30 : decode cX12_putRow 30 = .ok (.return_, 1) := by decide +kernel
theorem dX12_letter_0 : decode cX12_letter 0 = .ok (.iload_n 1, 1) := by decide +kernel
theorem dX12_letter_1 : decode cX12_letter 1 = .ok (.iconst 0, 1) := by decide +kernel
theorem dX12_letter_2 : decode cX12_letter 2 = .ok (.aload_n 0, 1) := by decide +kernel
theorem dX12_letter_3 : decode cX12_letter 3 = .ok (.getfield 330, 3) := by decide +kernel
theorem dX12_letter_6 : decode cX12_letter 6 = .ok (.iconst 1, 1) := by decide +kernel
theorem dX12_letter_7 : decode cX12_letter 7 = .ok (.isub, 1) := by decide +kernel
theorem dX12_letter_8 : decode cX12_letter 8 = .ok (.invokestatic 174, 3) := by decide +kernel
theorem dX12_letter_11 : decode cX12_letter 11 = .ok (.ifCond .eq 16, 3) := by decide +kernel
theorem dX12_letter_14 : decode cX12_letter 14 = .ok (.aload_n 0, 1) := by decide +kernel
theorem dX12_letter_15 : decode cX12_letter 15 = .ok (.aload_n 0, 1) := by decide +kernel
theorem dX12_letter_16 : decode cX12_letter 16 = .ok (.getfield 126, 3) := by decide +kernel
theorem dX12_letter_19 : decode cX12_letter 19 = .ok (.iload_n 1, 1) := by decide +kernel
theorem dX12_letter_20 : decode cX12_letter 20 = .ok (.iaload, 1) := by decide +kernel
theorem dX12_letter_21 : decode cX12_letter 21 = .ok (.invokevirtual 158, 3) := by decide +kernel
theorem dX12_letter_24 : decode cX12_letter 24 = .ok (.goto 8, 3) := by decide +kernel
theorem dX12_letter_27 : decode cX12_letter 27 = .ok (.aload_n 0, 1) := by decide +kernel
theorem dX12_letter_28 : decode cX12_letter 28 = .ok (.iconst 2, 1) := by decide +kernel
theorem dX12_letter_29 : decode cX12_letter 29 = .ok (.invokevirtual 154, 3) := by decide +kernel
theorem dX12_letter_32 : decode cX12_letter 32 = .ok (.ireturn, 1) := by decide +kernel
theorem dX12_failed_0 : decode cX12_failed 0 = .ok (.iload_n 1, 1) := by decide +kernel
theorem dX12_failed_1 : decode cX12_failed 1 = .ok (.iconst 0, 1) := by decide +kernel
theorem dX12_failed_2 : decode cX12_failed 2 = .ok (.bipush 7, 2) := by decide +kernel
theorem dX12_failed_4 : decode cX12_failed 4 = .ok (.invokestatic 174, 3) := by decide +kernel
theorem dX12_failed_7 : decode cX12_failed 7 = .ok (.ifCond .ne 10, 3) := by decide +kernel
theorem dX12_failed_10 : decode cX12_failed 10 = .ok (.aload_n 0, 1) := by decide +kernel
theorem dX12_failed_11 : decode cX12_failed 11 = .ok (.bipush 6, 2) := by decide +kernel
theorem dX12_failed_13 : decode cX12_failed 13 = .ok (.invokevirtual 154, 3) := by decide +kernel
theorem dX12_failed_16 : decode cX12_failed 16 = .ok (.ireturn, 1) := by decide +kernel
theorem dX12_failed_17 : decode cX12_failed 17 = .ok (.aload_n 0, 1) := by decide +kernel
theorem dX12_failed_18 : decode cX12_failed 18 = .ok (.iload_n 2, 1) := by decide +kernel
theorem dX12_failed_19 : decode cX12_failed 19 = .ok (.ifCond .eq 14, 3) := by decide +kernel
theorem dX12_failed_22 : decode cX12_failed 22 = .ok (.aload_n 0, 1) := by decide +kernel
theorem dX12_failed_23 : decode cX12_failed 23 = .ok (.getfield 360, 3) := by decide +kernel
theorem dX12_failed_26 : decode cX12_failed 26 = .ok (.iconst 1, 1) := by decide +kernel
theorem dX12_failed_27 : decode cX12_failed 27 = .ok (.iload_n 1, 1) := by decide +kernel
theorem dX12_failed_28 : decode cX12_failed 28 = .ok (.ishl, 1) := by decide +kernel
theorem dX12_failed_29 : decode cX12_failed 29 = .ok (.ior, 1) := by decide +kernel
theorem dX12_failed_30 : decode cX12_failed 30 = .ok (.goto 13, 3) := by decide +kernel
theorem dX12_failed_33 : decode cX12_failed 33 = .ok (.aload_n 0, 1) := by decide +kernel
theorem dX12_failed_34 : decode cX12_failed 34 = .ok (.getfield 360, 3) := by decide +kernel
theorem dX12_failed_37 : decode cX12_failed 37 = .ok (.iconst 1, 1) := by decide +kernel
theorem dX12_failed_38 : decode cX12_failed 38 = .ok (.iload_n 1, 1) := by decide +kernel
theorem dX12_failed_39 : decode cX12_failed 39 = .ok (.ishl, 1) := by decide +kernel
theorem dX12_failed_40 : decode cX12_failed 40 = .ok (.iconst (-1), 1) := by decide +kernel
theorem dX12_failed_41 : decode cX12_failed 41 = .ok (.ixor, 1) := by decide +kernel
theorem dX12_failed_42 : decode cX12_failed 42 = .ok (.iand, 1) := by decide +kernel
theorem dX12_failed_43 : decode cX12_failed 43 = .ok (.putfield 360, 3) := by decide +kernel
theorem dX12_failed_46 : decode cX12_failed 46 = .ok (.aload_n 0, 1) := by decide +kernel
theorem dX12_failed_47 : decode cX12_failed 47 = .ok (.aload_n 0, 1) := by decide +kernel
theorem dX12_failed_48 : decode cX12_failed 48 = .ok (.getfield 360, 3) := by decide +kernel
theorem dX12_failed_51 : decode cX12_failed 51 = .ok (.invokestatic 309, 3) := by decide +kernel
theorem dX12_failed_54 : decode cX12_failed 54 = .ok (.invokevirtual 158, 3) := by decide +kernel
theorem dX12_failed_57 : decode cX12_failed 57 = .ok (.ireturn, 1) := by decide +kernel
theorem dX12_looksLike_0 : decode cX12_looksLike 0 = .ok (.iload_n 1, 1) := by decide +kernel
theorem dX12_looksLike_1 : decode cX12_looksLike 1 = .ok (.iload_n 2, 1) := by decide +kernel
theorem dX12_looksLike_2 : decode cX12_looksLike 2 = .ok (.ixor, 1) := by decide +kernel
theorem dX12_looksLike_3 : decode cX12_looksLike 3 = .ok (.sipush 255, 3) := by decide +kernel
theorem dX12_looksLike_6 : decode cX12_looksLike 6 = .ok (.iand, 1) := by decide +kernel
theorem dX12_looksLike_7 : decode cX12_looksLike 7 = .ok (.aload_n 0, 1) := by decide +kernel
theorem dX12_looksLike_8 : decode cX12_looksLike 8 = .ok (.getfield 360, 3) := by decide +kernel
theorem dX12_looksLike_11 : decode cX12_looksLike 11 = .ok (.iconst (-1), 1) := by decide +kernel
theorem dX12_looksLike_12 : decode cX12_looksLike 12 = .ok (.ixor, 1) := by decide +kernel
theorem dX12_looksLike_13 : decode cX12_looksLike 13 = .ok (.iand, 1) := by decide +kernel
theorem dX12_looksLike_14 : decode cX12_looksLike 14 = .ok (.ifCond .ne 7, 3) := by decide +kernel
theorem dX12_looksLike_17 : decode cX12_looksLike 17 = .ok (.iconst 1, 1) := by decide +kernel
theorem dX12_looksLike_18 : decode cX12_looksLike 18 = .ok (.goto 4, 3) := by decide +kernel
theorem dX12_looksLike_21 : decode cX12_looksLike 21 = .ok (.iconst 0, 1) := by decide +kernel
theorem dX12_looksLike_22 : decode cX12_looksLike 22 = .ok (.ireturn, 1) := by decide +kernel
theorem dX12_next_0 : decode cX12_next 0 = .ok (.aload_n 0, 1) := by decide +kernel
theorem dX12_next_1 : decode cX12_next 1 = .ok (.getfield 107, 3) := by decide +kernel
theorem dX12_next_4 : decode cX12_next 4 = .ok (.iload_n 1, 1) := by decide +kernel
theorem dX12_next_5 : decode cX12_next 5 = .ok (.iaload, 1) := by decide +kernel
theorem dX12_next_6 : decode cX12_next 6 = .ok (.bipush (-3), 2) := by decide +kernel
theorem dX12_next_8 : decode cX12_next 8 = .ok (.if_icmp .ne 7, 3) := by decide +kernel
theorem dX12_next_11 : decode cX12_next 11 = .ok (.iconst 1, 1) := by decide +kernel
theorem dX12_next_12 : decode cX12_next 12 = .ok (.goto 19, 3) := by decide +kernel
theorem dX12_next_15 : decode cX12_next 15 = .ok (.aload_n 0, 1) := by decide +kernel
theorem dX12_next_16 : decode cX12_next 16 = .ok (.getfield 107, 3) := by decide +kernel
theorem dX12_next_19 : decode cX12_next 19 = .ok (.iload_n 1, 1) := by decide +kernel
theorem dX12_next_20 : decode cX12_next 20 = .ok (.iaload, 1) := by decide +kernel
theorem dX12_next_21 : decode cX12_next 21 = .ok (.bipush (-4), 2) := by decide +kernel
theorem dX12_next_23 : decode cX12_next 23 = .ok (.if_icmp .ne 7, 3) := by decide +kernel
theorem dX12_next_26 : decode cX12_next 26 = .ok (.iconst 0, 1) := by decide +kernel
theorem dX12_next_27 : decode cX12_next 27 = .ok (.goto 4, 3) := by decide +kernel
theorem dX12_next_30 : decode cX12_next 30 = .ok (.iload_n 2, 1) := by decide +kernel
theorem dX12_next_31 : decode cX12_next 31 = .ok (.ireturn, 1) := by decide +kernel
theorem dX12_state_0 : decode cX12_state 0 = .ok (.iconst 4, 1) := by decide +kernel
theorem dX12_state_1 : decode cX12_state 1 = .ok (.iload_n 0, 1) := by decide +kernel
theorem dX12_state_2 : decode cX12_state 2 = .ok (.imul, 1) := by decide +kernel
theorem dX12_state_3 : decode cX12_state 3 = .ok (.iconst 2, 1) := by decide +kernel
theorem dX12_state_4 : decode cX12_state 4 = .ok (.iload_n 1, 1) := by decide +kernel
theorem dX12_state_5 : decode cX12_state 5 = .ok (.imul, 1) := by decide +kernel
theorem dX12_state_6 : decode cX12_state 6 = .ok (.iadd, 1) := by decide +kernel
theorem dX12_state_7 : decode cX12_state 7 = .ok (.iload_n 2, 1) := by decide +kernel
theorem dX12_state_8 : decode cX12_state 8 = .ok (.ifCond .eq 7, 3) := by decide +kernel
theorem dX12_state_11 : decode cX12_state 11 = .ok (.iconst 1, 1) := by decide +kernel
theorem dX12_state_12 : decode cX12_state 12 = .ok (.goto 4, 3) := by decide +kernel
theorem dX12_state_15 : decode cX12_state 15 = .ok (.iconst 0, 1) := by decide +kernel
theorem dX12_state_16 : decode cX12_state 16 = .ok (.iadd, 1) := by decide +kernel
theorem dX12_state_17 : decode cX12_state 17 = .ok (.ireturn, 1) := by decide +kernel
theorem dX12_may_0 : decode cX12_may 0 = .ok (.iload_n 2, 1) := by decide +kernel
theorem dX12_may_1 : decode cX12_may 1 = .ok (.aload_n 0, 1) := by decide +kernel
theorem dX12_may_2 : decode cX12_may 2 = .ok (.getfield 113, 3) := by decide +kernel
theorem dX12_may_5 : decode cX12_may 5 = .ok (.iload_n 1, 1) := by decide +kernel
theorem dX12_may_6 : decode cX12_may 6 = .ok (.iaload, 1) := by decide +kernel
theorem dX12_may_7 : decode cX12_may 7 = .ok (.iadd, 1) := by decide +kernel
theorem dX12_may_8 : decode cX12_may 8 = .ok (.aload_n 0, 1) := by decide +kernel
theorem dX12_may_9 : decode cX12_may 9 = .ok (.getfield 333, 3) := by decide +kernel
theorem dX12_may_12 : decode cX12_may 12 = .ok (.if_icmp .gt 16, 3) := by decide +kernel
theorem dX12_may_15 : decode cX12_may 15 = .ok (.iload 4, 2) := by decide +kernel
theorem dX12_may_17 : decode cX12_may 17 = .ok (.ifCond .eq 13, 3) := by decide +kernel
theorem dX12_may_20 : decode cX12_may 20 = .ok (.aload_n 0, 1) := by decide +kernel
theorem dX12_may_21 : decode cX12_may 21 = .ok (.iload_n 1, 1) := by decide +kernel
theorem dX12_may_22 : decode cX12_may 22 = .ok (.invokevirtual 348, 3) := by decide +kernel
theorem dX12_may_25 : decode cX12_may 25 = .ok (.ifCond .ne 5, 3) := by decide +kernel
theorem dX12_may_28 : decode cX12_may 28 = .ok (.iconst 0, 1) := by decide +kernel
theorem dX12_may_29 : decode cX12_may 29 = .ok (.ireturn, 1) := by decide +kernel
theorem dX12_may_30 : decode cX12_may 30 = .ok (.iconst 0, 1) := by decide +kernel
theorem dX12_may_31 : decode cX12_may 31 = .ok (.istore 5, 2) := by decide +kernel
theorem dX12_may_33 : decode cX12_may 33 = .ok (.iload 5, 2) := by decide +kernel
theorem dX12_may_35 : decode cX12_may 35 = .ok (.aload_n 0, 1) := by decide +kernel
theorem dX12_may_36 : decode cX12_may 36 = .ok (.getfield 113, 3) := by decide +kernel
theorem dX12_may_39 : decode cX12_may 39 = .ok (.iload_n 1, 1) := by decide +kernel
theorem dX12_may_40 : decode cX12_may 40 = .ok (.iaload, 1) := by decide +kernel
theorem dX12_may_41 : decode cX12_may 41 = .ok (.if_icmp .ge 34, 3) := by decide +kernel
theorem dX12_may_44 : decode cX12_may 44 = .ok (.aload_n 0, 1) := by decide +kernel
theorem dX12_may_45 : decode cX12_may 45 = .ok (.aload_n 0, 1) := by decide +kernel
theorem dX12_may_46 : decode cX12_may 46 = .ok (.iload_n 1, 1) := by decide +kernel
theorem dX12_may_47 : decode cX12_may 47 = .ok (.iload 5, 2) := by decide +kernel
theorem dX12_may_49 : decode cX12_may 49 = .ok (.invokevirtual 324, 3) := by decide +kernel
theorem dX12_may_52 : decode cX12_may 52 = .ok (.aload_n 0, 1) := by decide +kernel
theorem dX12_may_53 : decode cX12_may 53 = .ok (.getfield 120, 3) := by decide +kernel
theorem dX12_may_56 : decode cX12_may 56 = .ok (.iload_n 2, 1) := by decide +kernel
theorem dX12_may_57 : decode cX12_may 57 = .ok (.iload 5, 2) := by decide +kernel
theorem dX12_may_59 : decode cX12_may 59 = .ok (.iadd, 1) := by decide +kernel
theorem dX12_may_60 : decode cX12_may 60 = .ok (.iaload, 1) := by decide +kernel
theorem dX12_may_61 : decode cX12_may 61 = .ok (.invokevirtual 363, 3) := by decide +kernel
theorem dX12_may_64 : decode cX12_may 64 = .ok (.ifCond .ne 5, 3) := by decide +kernel
theorem dX12_may_67 : decode cX12_may 67 = .ok (.iconst 0, 1) := by decide +kernel
theorem dX12_may_68 : decode cX12_may 68 = .ok (.ireturn, 1) := by decide +kernel
theorem dX12_may_69 : decode cX12_may 69 = .ok (.iinc 5 1, 3) := by decide +kernel
theorem dX12_may_72 : decode cX12_may 72 = .ok (.goto (-39), 3) := by decide +kernel
theorem dX12_may_75 : decode cX12_may 75 = .ok (.aload_n 0, 1) := by decide +kernel
theorem dX12_may_76 : decode cX12_may 76 = .ok (.getfield 132, 3) := by decide +kernel
theorem dX12_may_79 : decode cX12_may 79 = .ok (.iload_n 2, 1) := by decide +kernel
theorem dX12_may_80 : decode cX12_may 80 = .ok (.aload_n 0, 1) := by decide +kernel
theorem dX12_may_81 : decode cX12_may 81 = .ok (.getfield 113, 3) := by decide +kernel
theorem dX12_may_84 : decode cX12_may 84 = .ok (.iload_n 1, 1) := by decide +kernel
theorem dX12_may_85 : decode cX12_may 85 = .ok (.iaload, 1) := by decide +kernel
theorem dX12_may_86 : decode cX12_may 86 = .ok (.iadd, 1) := by decide +kernel
theorem dX12_may_87 : decode cX12_may 87 = .ok (.aload_n 0, 1) := by decide +kernel
theorem dX12_may_88 : decode cX12_may 88 = .ok (.iload_n 1, 1) := by decide +kernel
theorem dX12_may_89 : decode cX12_may 89 = .ok (.iload_n 3, 1) := by decide +kernel
theorem dX12_may_90 : decode cX12_may 90 = .ok (.invokevirtual 367, 3) := by decide +kernel
theorem dX12_may_93 : decode cX12_may 93 = .ok (.aload_n 0, 1) := by decide +kernel
theorem dX12_may_94 : decode cX12_may 94 = .ok (.getfield 107, 3) := by decide +kernel
theorem dX12_may_97 : decode cX12_may 97 = .ok (.iload_n 1, 1) := by decide +kernel
theorem dX12_may_98 : decode cX12_may 98 = .ok (.iaload, 1) := by decide +kernel
theorem dX12_may_99 : decode cX12_may 99 = .ok (.iconst (-1), 1) := by decide +kernel
theorem dX12_may_100 : decode cX12_may 100 = .ok (.if_icmp .ne 7, 3) := by decide +kernel
theorem dX12_may_103 : decode cX12_may 103 = .ok (.iconst 1, 1) := by decide +kernel
theorem dX12_may_104 : decode cX12_may 104 = .ok (.goto 4, 3) := by decide +kernel
theorem dX12_may_107 : decode cX12_may 107 = .ok (.iconst 0, 1) := by decide +kernel
theorem dX12_may_108 : decode cX12_may 108 = .ok (.invokestatic 370, 3) := by decide +kernel
theorem dX12_may_111 : decode cX12_may 111 = .ok (.baload, 1) := by decide +kernel
theorem dX12_may_112 : decode cX12_may 112 = .ok (.ireturn, 1) := by decide +kernel
theorem dX12_mayBlank_0 : decode cX12_mayBlank 0 = .ok (.iload_n 2, 1) := by decide +kernel
theorem dX12_mayBlank_1 : decode cX12_mayBlank 1 = .ok (.ifCond .ne 37, 3) := by decide +kernel
theorem dX12_mayBlank_4 : decode cX12_mayBlank 4 = .ok (.aload_n 0, 1) := by decide +kernel
theorem dX12_mayBlank_5 : decode cX12_mayBlank 5 = .ok (.iconst 0, 1) := by decide +kernel
theorem dX12_mayBlank_6 : decode cX12_mayBlank 6 = .ok (.aload_n 0, 1) := by decide +kernel
theorem dX12_mayBlank_7 : decode cX12_mayBlank 7 = .ok (.getfield 120, 3) := by decide +kernel
theorem dX12_mayBlank_10 : decode cX12_mayBlank 10 = .ok (.iload_n 1, 1) := by decide +kernel
theorem dX12_mayBlank_11 : decode cX12_mayBlank 11 = .ok (.iaload, 1) := by decide +kernel
theorem dX12_mayBlank_12 : decode cX12_mayBlank 12 = .ok (.invokevirtual 363, 3) := by decide +kernel
theorem dX12_mayBlank_15 : decode cX12_mayBlank 15 = .ok (.ifCond .eq 23, 3) := by decide +kernel
theorem dX12_mayBlank_18 : decode cX12_mayBlank 18 = .ok (.aload_n 0, 1) := by decide +kernel
theorem dX12_mayBlank_19 : decode cX12_mayBlank 19 = .ok (.getfield 132, 3) := by decide +kernel
theorem dX12_mayBlank_22 : decode cX12_mayBlank 22 = .ok (.iload_n 1, 1) := by decide +kernel
theorem dX12_mayBlank_23 : decode cX12_mayBlank 23 = .ok (.iconst 1, 1) := by decide +kernel
theorem dX12_mayBlank_24 : decode cX12_mayBlank 24 = .ok (.iadd, 1) := by decide +kernel
theorem dX12_mayBlank_25 : decode cX12_mayBlank 25 = .ok (.iconst 0, 1) := by decide +kernel
theorem dX12_mayBlank_26 : decode cX12_mayBlank 26 = .ok (.iconst 0, 1) := by decide +kernel
theorem dX12_mayBlank_27 : decode cX12_mayBlank 27 = .ok (.invokestatic 370, 3) := by decide +kernel
theorem dX12_mayBlank_30 : decode cX12_mayBlank 30 = .ok (.baload, 1) := by decide +kernel
theorem dX12_mayBlank_31 : decode cX12_mayBlank 31 = .ok (.ifCond .eq 7, 3) := by decide +kernel
theorem dX12_mayBlank_34 : decode cX12_mayBlank 34 = .ok (.iconst 1, 1) := by decide +kernel
theorem dX12_mayBlank_35 : decode cX12_mayBlank 35 = .ok (.goto 4, 3) := by decide +kernel
theorem dX12_mayBlank_38 : decode cX12_mayBlank 38 = .ok (.iconst 0, 1) := by decide +kernel
theorem dX12_mayBlank_39 : decode cX12_mayBlank 39 = .ok (.ireturn, 1) := by decide +kernel
theorem dX12_findCan_0 : decode cX12_findCan 0 = .ok (.aload_n 0, 1) := by decide +kernel
theorem dX12_findCan_1 : decode cX12_findCan 1 = .ok (.getfield 333, 3) := by decide +kernel
theorem dX12_findCan_4 : decode cX12_findCan 4 = .ok (.istore_n 1, 1) := by decide +kernel
theorem dX12_findCan_5 : decode cX12_findCan 5 = .ok (.iload_n 1, 1) := by decide +kernel
theorem dX12_findCan_6 : decode cX12_findCan 6 = .ok (.ifCond .lt 145, 3) := by decide +kernel
theorem dX12_findCan_9 : decode cX12_findCan 9 = .ok (.iconst 0, 1) := by decide +kernel
theorem dX12_findCan_10 : decode cX12_findCan 10 = .ok (.istore_n 2, 1) := by decide +kernel
theorem dX12_findCan_11 : decode cX12_findCan 11 = .ok (.iload_n 2, 1) := by decide +kernel
theorem dX12_findCan_12 : decode cX12_findCan 12 = .ok (.iconst 4, 1) := by decide +kernel
theorem dX12_findCan_13 : decode cX12_findCan 13 = .ok (.if_icmp .ge 132, 3) := by decide +kernel
theorem dX12_findCan_16 : decode cX12_findCan 16 = .ok (.iload_n 2, 1) := by decide +kernel
theorem dX12_findCan_17 : decode cX12_findCan 17 = .ok (.iconst 2, 1) := by decide +kernel
theorem dX12_findCan_18 : decode cX12_findCan 18 = .ok (.idiv, 1) := by decide +kernel
theorem dX12_findCan_19 : decode cX12_findCan 19 = .ok (.istore_n 3, 1) := by decide +kernel
theorem dX12_findCan_20 : decode cX12_findCan 20 = .ok (.iload_n 2, 1) := by decide +kernel
theorem dX12_findCan_21 : decode cX12_findCan 21 = .ok (.iconst 2, 1) := by decide +kernel
theorem dX12_findCan_22 : decode cX12_findCan 22 = .ok (.irem, 1) := by decide +kernel
theorem dX12_findCan_23 : decode cX12_findCan 23 = .ok (.iconst 1, 1) := by decide +kernel
theorem dX12_findCan_24 : decode cX12_findCan 24 = .ok (.if_icmp .ne 7, 3) := by decide +kernel
theorem dX12_findCan_27 : decode cX12_findCan 27 = .ok (.iconst 1, 1) := by decide +kernel
theorem dX12_findCan_28 : decode cX12_findCan 28 = .ok (.goto 4, 3) := by decide +kernel
theorem dX12_findCan_31 : decode cX12_findCan 31 = .ok (.iconst 0, 1) := by decide +kernel
theorem dX12_findCan_32 : decode cX12_findCan 32 = .ok (.istore 4, 2) := by decide +kernel
theorem dX12_findCan_34 : decode cX12_findCan 34 = .ok (.iload_n 1, 1) := by decide +kernel
theorem dX12_findCan_35 : decode cX12_findCan 35 = .ok (.aload_n 0, 1) := by decide +kernel
theorem dX12_findCan_36 : decode cX12_findCan 36 = .ok (.getfield 333, 3) := by decide +kernel
theorem dX12_findCan_39 : decode cX12_findCan 39 = .ok (.if_icmp .ne 8, 3) := by decide +kernel
theorem dX12_findCan_42 : decode cX12_findCan 42 = .ok (.iload 4, 2) := by decide +kernel
theorem dX12_findCan_44 : decode cX12_findCan 44 = .ok (.ifCond .eq 21, 3) := by decide +kernel
theorem dX12_findCan_47 : decode cX12_findCan 47 = .ok (.iload_n 1, 1) := by decide +kernel
theorem dX12_findCan_48 : decode cX12_findCan 48 = .ok (.aload_n 0, 1) := by decide +kernel
theorem dX12_findCan_49 : decode cX12_findCan 49 = .ok (.getfield 333, 3) := by decide +kernel
theorem dX12_findCan_52 : decode cX12_findCan 52 = .ok (.if_icmp .ge 17, 3) := by decide +kernel
theorem dX12_findCan_55 : decode cX12_findCan 55 = .ok (.aload_n 0, 1) := by decide +kernel
theorem dX12_findCan_56 : decode cX12_findCan 56 = .ok (.iload_n 1, 1) := by decide +kernel
theorem dX12_findCan_57 : decode cX12_findCan 57 = .ok (.iload 4, 2) := by decide +kernel
theorem dX12_findCan_59 : decode cX12_findCan 59 = .ok (.invokevirtual 374, 3) := by decide +kernel
theorem dX12_findCan_62 : decode cX12_findCan 62 = .ok (.ifCond .eq 7, 3) := by decide +kernel
theorem dX12_findCan_65 : decode cX12_findCan 65 = .ok (.iconst 1, 1) := by decide +kernel
theorem dX12_findCan_66 : decode cX12_findCan 66 = .ok (.goto 4, 3) := by decide +kernel
theorem dX12_findCan_69 : decode cX12_findCan 69 = .ok (.iconst 0, 1) := by decide +kernel
theorem dX12_findCan_70 : decode cX12_findCan 70 = .ok (.istore 5, 2) := by decide +kernel
theorem dX12_findCan_72 : decode cX12_findCan 72 = .ok (.sipush 6008, 3) := by decide +kernel
theorem dX12_findCan_75 : decode cX12_findCan 75 = .ok (.iload_n 3, 1) := by decide +kernel
theorem dX12_findCan_76 : decode cX12_findCan 76 = .ok (.imul, 1) := by decide +kernel
theorem dX12_findCan_77 : decode cX12_findCan 77 = .ok (.istore 6, 2) := by decide +kernel
theorem dX12_findCan_79 : decode cX12_findCan 79 = .ok (.iload 6, 2) := by decide +kernel
theorem dX12_findCan_81 : decode cX12_findCan 81 = .ok (.sipush 6008, 3) := by decide +kernel
theorem dX12_findCan_84 : decode cX12_findCan 84 = .ok (.iload_n 3, 1) := by decide +kernel
theorem dX12_findCan_85 : decode cX12_findCan 85 = .ok (.imul, 1) := by decide +kernel
theorem dX12_findCan_86 : decode cX12_findCan 86 = .ok (.aload_n 0, 1) := by decide +kernel
theorem dX12_findCan_87 : decode cX12_findCan 87 = .ok (.getfield 116, 3) := by decide +kernel
theorem dX12_findCan_90 : decode cX12_findCan 90 = .ok (.iload_n 3, 1) := by decide +kernel
theorem dX12_findCan_91 : decode cX12_findCan 91 = .ok (.iaload, 1) := by decide +kernel
theorem dX12_findCan_92 : decode cX12_findCan 92 = .ok (.iadd, 1) := by decide +kernel
theorem dX12_findCan_93 : decode cX12_findCan 93 = .ok (.if_icmp .ge 34, 3) := by decide +kernel
theorem dX12_findCan_96 : decode cX12_findCan 96 = .ok (.iload 5, 2) := by decide +kernel
theorem dX12_findCan_98 : decode cX12_findCan 98 = .ok (.ifCond .ne 29, 3) := by decide +kernel
theorem dX12_findCan_101 : decode cX12_findCan 101 = .ok (.iload_n 1, 1) := by decide +kernel
theorem dX12_findCan_102 : decode cX12_findCan 102 = .ok (.aload_n 0, 1) := by decide +kernel
theorem dX12_findCan_103 : decode cX12_findCan 103 = .ok (.getfield 333, 3) := by decide +kernel
theorem dX12_findCan_106 : decode cX12_findCan 106 = .ok (.if_icmp .ge 21, 3) := by decide +kernel
theorem dX12_findCan_109 : decode cX12_findCan 109 = .ok (.aload_n 0, 1) := by decide +kernel
theorem dX12_findCan_110 : decode cX12_findCan 110 = .ok (.iload 6, 2) := by decide +kernel
theorem dX12_findCan_112 : decode cX12_findCan 112 = .ok (.iload_n 1, 1) := by decide +kernel
theorem dX12_findCan_113 : decode cX12_findCan 113 = .ok (.iload_n 3, 1) := by decide +kernel
theorem dX12_findCan_114 : decode cX12_findCan 114 = .ok (.iload 4, 2) := by decide +kernel
theorem dX12_findCan_116 : decode cX12_findCan 116 = .ok (.invokevirtual 378, 3) := by decide +kernel
theorem dX12_findCan_119 : decode cX12_findCan 119 = .ok (.istore 5, 2) := by decide +kernel
theorem dX12_findCan_121 : decode cX12_findCan 121 = .ok (.iinc 6 1, 3) := by decide +kernel
theorem dX12_findCan_124 : decode cX12_findCan 124 = .ok (.goto (-45), 3) := by decide +kernel
theorem dX12_findCan_127 : decode cX12_findCan 127 = .ok (.aload_n 0, 1) := by decide +kernel
theorem dX12_findCan_128 : decode cX12_findCan 128 = .ok (.getfield 132, 3) := by decide +kernel
theorem dX12_findCan_131 : decode cX12_findCan 131 = .ok (.iconst 4, 1) := by decide +kernel
theorem dX12_findCan_132 : decode cX12_findCan 132 = .ok (.iload_n 1, 1) := by decide +kernel
theorem dX12_findCan_133 : decode cX12_findCan 133 = .ok (.imul, 1) := by decide +kernel
theorem dX12_findCan_134 : decode cX12_findCan 134 = .ok (.iload_n 2, 1) := by decide +kernel
theorem dX12_findCan_135 : decode cX12_findCan 135 = .ok (.iadd, 1) := by decide +kernel
theorem dX12_findCan_136 : decode cX12_findCan 136 = .ok (.iload 5, 2) := by decide +kernel
theorem dX12_findCan_138 : decode cX12_findCan 138 = .ok (.bastore, 1) := by decide +kernel
theorem dX12_findCan_139 : decode cX12_findCan 139 = .ok (.iinc 2 1, 3) := by decide +kernel
theorem dX12_findCan_142 : decode cX12_findCan 142 = .ok (.goto (-131), 3) := by decide +kernel
theorem dX12_findCan_145 : decode cX12_findCan 145 = .ok (.iinc 1 (-1), 3) := by decide +kernel
theorem dX12_findCan_148 : decode cX12_findCan 148 = .ok (.goto (-143), 3) := by decide +kernel
theorem dX12_findCan_151 : decode cX12_findCan 151 = .ok (.return_, 1) := by decide +kernel
theorem dX12_go_0 : decode cX12_go 0 = .ok (.aload_n 0, 1) := by decide +kernel
theorem dX12_go_1 : decode cX12_go 1 = .ok (.getfield 382, 3) := by decide +kernel
theorem dX12_go_4 : decode cX12_go 4 = .ok (.iconst 1, 1) := by decide +kernel
theorem dX12_go_5 : decode cX12_go 5 = .ok (.if_icmp .ne 4, 3) := by decide +kernel
theorem dX12_go_8 : decode cX12_go 8 = .ok (.return_, 1) := by decide +kernel
theorem dX12_go_9 : decode cX12_go 9 = .ok (.iload_n 1, 1) := by decide +kernel
theorem dX12_go_10 : decode cX12_go 10 = .ok (.aload_n 0, 1) := by decide +kernel
theorem dX12_go_11 : decode cX12_go 11 = .ok (.getfield 333, 3) := by decide +kernel
theorem dX12_go_14 : decode cX12_go 14 = .ok (.if_icmp .ne 8, 3) := by decide +kernel
theorem dX12_go_17 : decode cX12_go 17 = .ok (.aload_n 0, 1) := by decide +kernel
theorem dX12_go_18 : decode cX12_go 18 = .ok (.invokevirtual 385, 3) := by decide +kernel
theorem dX12_go_21 : decode cX12_go 21 = .ok (.return_, 1) := by decide +kernel
theorem dX12_go_22 : decode cX12_go 22 = .ok (.aload_n 0, 1) := by decide +kernel
theorem dX12_go_23 : decode cX12_go 23 = .ok (.getfield 388, 3) := by decide +kernel
theorem dX12_go_26 : decode cX12_go 26 = .ok (.istore 4, 2) := by decide +kernel
theorem dX12_go_28 : decode cX12_go 28 = .ok (.aload_n 0, 1) := by decide +kernel
theorem dX12_go_29 : decode cX12_go 29 = .ok (.iload_n 1, 1) := by decide +kernel
theorem dX12_go_30 : decode cX12_go 30 = .ok (.iload_n 3, 1) := by decide +kernel
theorem dX12_go_31 : decode cX12_go 31 = .ok (.invokevirtual 374, 3) := by decide +kernel
theorem dX12_go_34 : decode cX12_go 34 = .ok (.ifCond .eq 39, 3) := by decide +kernel
theorem dX12_go_37 : decode cX12_go 37 = .ok (.aload_n 0, 1) := by decide +kernel
theorem dX12_go_38 : decode cX12_go 38 = .ok (.getfield 142, 3) := by decide +kernel
theorem dX12_go_41 : decode cX12_go 41 = .ok (.aload_n 0, 1) := by decide +kernel
theorem dX12_go_42 : decode cX12_go 42 = .ok (.getfield 388, 3) := by decide +kernel
theorem dX12_go_45 : decode cX12_go 45 = .ok (.bipush 32, 2) := by decide +kernel
theorem dX12_go_47 : decode cX12_go 47 = .ok (.iastore, 1) := by decide +kernel
theorem dX12_go_48 : decode cX12_go 48 = .ok (.aload_n 0, 1) := by decide +kernel
theorem dX12_go_49 : decode cX12_go 49 = .ok (.dup, 1) := by decide +kernel
theorem dX12_go_50 : decode cX12_go 50 = .ok (.getfield 388, 3) := by decide +kernel
theorem dX12_go_53 : decode cX12_go 53 = .ok (.iconst 1, 1) := by decide +kernel
theorem dX12_go_54 : decode cX12_go 54 = .ok (.iadd, 1) := by decide +kernel
theorem dX12_go_55 : decode cX12_go 55 = .ok (.putfield 388, 3) := by decide +kernel
theorem dX12_go_58 : decode cX12_go 58 = .ok (.aload_n 0, 1) := by decide +kernel
theorem dX12_go_59 : decode cX12_go 59 = .ok (.iload_n 1, 1) := by decide +kernel
theorem dX12_go_60 : decode cX12_go 60 = .ok (.iconst 1, 1) := by decide +kernel
theorem dX12_go_61 : decode cX12_go 61 = .ok (.iadd, 1) := by decide +kernel
theorem dX12_go_62 : decode cX12_go 62 = .ok (.iconst 0, 1) := by decide +kernel
theorem dX12_go_63 : decode cX12_go 63 = .ok (.iconst 0, 1) := by decide +kernel
theorem dX12_go_64 : decode cX12_go 64 = .ok (.invokevirtual 391, 3) := by decide +kernel
theorem dX12_go_67 : decode cX12_go 67 = .ok (.aload_n 0, 1) := by decide +kernel
theorem dX12_go_68 : decode cX12_go 68 = .ok (.iload 4, 2) := by decide +kernel
theorem dX12_go_70 : decode cX12_go 70 = .ok (.putfield 388, 3) := by decide +kernel
theorem dX12_go_73 : decode cX12_go 73 = .ok (.sipush 6008, 3) := by decide +kernel
theorem dX12_go_76 : decode cX12_go 76 = .ok (.iload_n 2, 1) := by decide +kernel
theorem dX12_go_77 : decode cX12_go 77 = .ok (.imul, 1) := by decide +kernel
theorem dX12_go_78 : decode cX12_go 78 = .ok (.istore 5, 2) := by decide +kernel
theorem dX12_go_80 : decode cX12_go 80 = .ok (.iload 5, 2) := by decide +kernel
theorem dX12_go_82 : decode cX12_go 82 = .ok (.sipush 6008, 3) := by decide +kernel
theorem dX12_go_85 : decode cX12_go 85 = .ok (.iload_n 2, 1) := by decide +kernel
theorem dX12_go_86 : decode cX12_go 86 = .ok (.imul, 1) := by decide +kernel
theorem dX12_go_87 : decode cX12_go 87 = .ok (.aload_n 0, 1) := by decide +kernel
theorem dX12_go_88 : decode cX12_go 88 = .ok (.getfield 116, 3) := by decide +kernel
theorem dX12_go_91 : decode cX12_go 91 = .ok (.iload_n 2, 1) := by decide +kernel
theorem dX12_go_92 : decode cX12_go 92 = .ok (.iaload, 1) := by decide +kernel
theorem dX12_go_93 : decode cX12_go 93 = .ok (.iadd, 1) := by decide +kernel
theorem dX12_go_94 : decode cX12_go 94 = .ok (.if_icmp .ge 216, 3) := by decide +kernel
theorem dX12_go_97 : decode cX12_go 97 = .ok (.aload_n 0, 1) := by decide +kernel
theorem dX12_go_98 : decode cX12_go 98 = .ok (.getfield 382, 3) := by decide +kernel
theorem dX12_go_101 : decode cX12_go 101 = .ok (.ifCond .ne 209, 3) := by decide +kernel
theorem dX12_go_104 : decode cX12_go 104 = .ok (.aload_n 0, 1) := by decide +kernel
theorem dX12_go_105 : decode cX12_go 105 = .ok (.iload 5, 2) := by decide +kernel
theorem dX12_go_107 : decode cX12_go 107 = .ok (.iload_n 1, 1) := by decide +kernel
theorem dX12_go_108 : decode cX12_go 108 = .ok (.iload_n 2, 1) := by decide +kernel
theorem dX12_go_109 : decode cX12_go 109 = .ok (.iload_n 3, 1) := by decide +kernel
theorem dX12_go_110 : decode cX12_go 110 = .ok (.invokevirtual 378, 3) := by decide +kernel
theorem dX12_go_113 : decode cX12_go 113 = .ok (.ifCond .ne 6, 3) := by decide +kernel
theorem dX12_go_116 : decode cX12_go 116 = .ok (.goto 188, 3) := by decide +kernel
theorem dX12_go_119 : decode cX12_go 119 = .ok (.aload_n 0, 1) := by decide +kernel
theorem dX12_go_120 : decode cX12_go 120 = .ok (.getfield 107, 3) := by decide +kernel
theorem dX12_go_123 : decode cX12_go 123 = .ok (.iload 5, 2) := by decide +kernel
theorem dX12_go_125 : decode cX12_go 125 = .ok (.iaload, 1) := by decide +kernel
theorem dX12_go_126 : decode cX12_go 126 = .ok (.istore 6, 2) := by decide +kernel
theorem dX12_go_128 : decode cX12_go 128 = .ok (.iconst 0, 1) := by decide +kernel
theorem dX12_go_129 : decode cX12_go 129 = .ok (.istore 7, 2) := by decide +kernel
theorem dX12_go_131 : decode cX12_go 131 = .ok (.iload 6, 2) := by decide +kernel
theorem dX12_go_133 : decode cX12_go 133 = .ok (.ifCond .lt 62, 3) := by decide +kernel
theorem dX12_go_136 : decode cX12_go 136 = .ok (.iload 7, 2) := by decide +kernel
theorem dX12_go_138 : decode cX12_go 138 = .ok (.aload_n 0, 1) := by decide +kernel
theorem dX12_go_139 : decode cX12_go 139 = .ok (.getfield 39, 3) := by decide +kernel
theorem dX12_go_142 : decode cX12_go 142 = .ok (.iload 6, 2) := by decide +kernel
theorem dX12_go_144 : decode cX12_go 144 = .ok (.iaload, 1) := by decide +kernel
theorem dX12_go_145 : decode cX12_go 145 = .ok (.if_icmp .ge 50, 3) := by decide +kernel
theorem dX12_go_148 : decode cX12_go 148 = .ok (.aload_n 0, 1) := by decide +kernel
theorem dX12_go_149 : decode cX12_go 149 = .ok (.getfield 142, 3) := by decide +kernel
theorem dX12_go_152 : decode cX12_go 152 = .ok (.aload_n 0, 1) := by decide +kernel
theorem dX12_go_153 : decode cX12_go 153 = .ok (.getfield 388, 3) := by decide +kernel
theorem dX12_go_156 : decode cX12_go 156 = .ok (.iload 7, 2) := by decide +kernel
theorem dX12_go_158 : decode cX12_go 158 = .ok (.iadd, 1) := by decide +kernel
theorem dX12_go_159 : decode cX12_go 159 = .ok (.aload_n 0, 1) := by decide +kernel
theorem dX12_go_160 : decode cX12_go 160 = .ok (.getfield 46, 3) := by decide +kernel
theorem dX12_go_163 : decode cX12_go 163 = .ok (.bipush 8, 2) := by decide +kernel
theorem dX12_go_165 : decode cX12_go 165 = .ok (.iload 6, 2) := by decide +kernel
theorem dX12_go_167 : decode cX12_go 167 = .ok (.imul, 1) := by decide +kernel
theorem dX12_go_168 : decode cX12_go 168 = .ok (.iload 7, 2) := by decide +kernel
theorem dX12_go_170 : decode cX12_go 170 = .ok (.iadd, 1) := by decide +kernel
theorem dX12_go_171 : decode cX12_go 171 = .ok (.iaload, 1) := by decide +kernel
theorem dX12_go_172 : decode cX12_go 172 = .ok (.iload_n 3, 1) := by decide +kernel
theorem dX12_go_173 : decode cX12_go 173 = .ok (.ifCond .eq 13, 3) := by decide +kernel
theorem dX12_go_176 : decode cX12_go 176 = .ok (.iload 7, 2) := by decide +kernel
theorem dX12_go_178 : decode cX12_go 178 = .ok (.ifCond .ne 8, 3) := by decide +kernel
theorem dX12_go_181 : decode cX12_go 181 = .ok (.bipush 32, 2) := by decide +kernel
theorem dX12_go_183 : decode cX12_go 183 = .ok (.goto 4, 3) := by decide +kernel
theorem dX12_go_186 : decode cX12_go 186 = .ok (.iconst 0, 1) := by decide +kernel
theorem dX12_go_187 : decode cX12_go 187 = .ok (.isub, 1) := by decide +kernel
theorem dX12_go_188 : decode cX12_go 188 = .ok (.iastore, 1) := by decide +kernel
theorem dX12_go_189 : decode cX12_go 189 = .ok (.iinc 7 1, 3) := by decide +kernel
theorem dX12_go_192 : decode cX12_go 192 = .ok (.goto (-61), 3) := by decide +kernel
theorem dX12_go_195 : decode cX12_go 195 = .ok (.aload_n 0, 1) := by decide +kernel
theorem dX12_go_196 : decode cX12_go 196 = .ok (.dup, 1) := by decide +kernel
theorem dX12_go_197 : decode cX12_go 197 = .ok (.getfield 388, 3) := by decide +kernel
theorem dX12_go_200 : decode cX12_go 200 = .ok (.iload 6, 2) := by decide +kernel
theorem dX12_go_202 : decode cX12_go 202 = .ok (.ifCond .lt 13, 3) := by decide +kernel
theorem dX12_go_205 : decode cX12_go 205 = .ok (.aload_n 0, 1) := by decide +kernel
theorem dX12_go_206 : decode cX12_go 206 = .ok (.getfield 39, 3) := by decide +kernel
theorem dX12_go_209 : decode cX12_go 209 = .ok (.iload 6, 2) := by decide +kernel
theorem dX12_go_211 : decode cX12_go 211 = .ok (.iaload, 1) := by decide +kernel
theorem dX12_go_212 : decode cX12_go 212 = .ok (.goto 4, 3) := by decide +kernel
theorem dX12_go_215 : decode cX12_go 215 = .ok (.iconst 0, 1) := by decide +kernel
theorem dX12_go_216 : decode cX12_go 216 = .ok (.iadd, 1) := by decide +kernel
theorem dX12_go_217 : decode cX12_go 217 = .ok (.putfield 388, 3) := by decide +kernel
theorem dX12_go_220 : decode cX12_go 220 = .ok (.iload 6, 2) := by decide +kernel
theorem dX12_go_222 : decode cX12_go 222 = .ok (.bipush (-3), 2) := by decide +kernel
theorem dX12_go_224 : decode cX12_go 224 = .ok (.if_icmp .eq 10, 3) := by decide +kernel
theorem dX12_go_227 : decode cX12_go 227 = .ok (.iload 6, 2) := by decide +kernel
theorem dX12_go_229 : decode cX12_go 229 = .ok (.bipush (-4), 2) := by decide +kernel
theorem dX12_go_231 : decode cX12_go 231 = .ok (.if_icmp .ne 36, 3) := by decide +kernel
theorem dX12_go_234 : decode cX12_go 234 = .ok (.aload_n 0, 1) := by decide +kernel
theorem dX12_go_235 : decode cX12_go 235 = .ok (.getfield 142, 3) := by decide +kernel
theorem dX12_go_238 : decode cX12_go 238 = .ok (.aload_n 0, 1) := by decide +kernel
theorem dX12_go_239 : decode cX12_go 239 = .ok (.getfield 388, 3) := by decide +kernel
theorem dX12_go_242 : decode cX12_go 242 = .ok (.iload 6, 2) := by decide +kernel
theorem dX12_go_244 : decode cX12_go 244 = .ok (.bipush (-3), 2) := by decide +kernel
theorem dX12_go_246 : decode cX12_go 246 = .ok (.if_icmp .ne 8, 3) := by decide +kernel
theorem dX12_go_249 : decode cX12_go 249 = .ok (.bipush 60, 2) := by decide +kernel
theorem dX12_go_251 : decode cX12_go 251 = .ok (.goto 5, 3) := by decide +kernel
theorem dX12_go_254 : decode cX12_go 254 = .ok (.bipush 62, 2) := by decide +kernel
theorem dX12_go_256 : decode cX12_go 256 = .ok (.iastore, 1) := by decide +kernel
theorem dX12_go_257 : decode cX12_go 257 = .ok (.aload_n 0, 1) := by decide +kernel
theorem dX12_go_258 : decode cX12_go 258 = .ok (.dup, 1) := by decide +kernel
theorem dX12_go_259 : decode cX12_go 259 = .ok (.getfield 388, 3) := by decide +kernel
theorem dX12_go_262 : decode cX12_go 262 = .ok (.iconst 1, 1) := by decide +kernel
theorem dX12_go_263 : decode cX12_go 263 = .ok (.iadd, 1) := by decide +kernel
theorem dX12_go_264 : decode cX12_go 264 = .ok (.putfield 388, 3) := by decide +kernel
theorem dX12_go_267 : decode cX12_go 267 = .ok (.aload_n 0, 1) := by decide +kernel
theorem dX12_go_268 : decode cX12_go 268 = .ok (.iload_n 1, 1) := by decide +kernel
theorem dX12_go_269 : decode cX12_go 269 = .ok (.aload_n 0, 1) := by decide +kernel
theorem dX12_go_270 : decode cX12_go 270 = .ok (.getfield 113, 3) := by decide +kernel
theorem dX12_go_273 : decode cX12_go 273 = .ok (.iload 5, 2) := by decide +kernel
theorem dX12_go_275 : decode cX12_go 275 = .ok (.iaload, 1) := by decide +kernel
theorem dX12_go_276 : decode cX12_go 276 = .ok (.iadd, 1) := by decide +kernel
theorem dX12_go_277 : decode cX12_go 277 = .ok (.aload_n 0, 1) := by decide +kernel
theorem dX12_go_278 : decode cX12_go 278 = .ok (.iload 5, 2) := by decide +kernel
theorem dX12_go_280 : decode cX12_go 280 = .ok (.iload_n 2, 1) := by decide +kernel
theorem dX12_go_281 : decode cX12_go 281 = .ok (.invokevirtual 367, 3) := by decide +kernel
theorem dX12_go_284 : decode cX12_go 284 = .ok (.iload 6, 2) := by decide +kernel
theorem dX12_go_286 : decode cX12_go 286 = .ok (.iconst (-1), 1) := by decide +kernel
theorem dX12_go_287 : decode cX12_go 287 = .ok (.if_icmp .ne 7, 3) := by decide +kernel
theorem dX12_go_290 : decode cX12_go 290 = .ok (.iconst 1, 1) := by decide +kernel
theorem dX12_go_291 : decode cX12_go 291 = .ok (.goto 4, 3) := by decide +kernel
theorem dX12_go_294 : decode cX12_go 294 = .ok (.iconst 0, 1) := by decide +kernel
theorem dX12_go_295 : decode cX12_go 295 = .ok (.invokevirtual 391, 3) := by decide +kernel
theorem dX12_go_298 : decode cX12_go 298 = .ok (.aload_n 0, 1) := by decide +kernel
theorem dX12_go_299 : decode cX12_go 299 = .ok (.iload 4, 2) := by decide +kernel
theorem dX12_go_301 : decode cX12_go 301 = .ok (.putfield 388, 3) := by decide +kernel
theorem dX12_go_304 : decode cX12_go 304 = .ok (.iinc 5 1, 3) := by decide +kernel
theorem dX12_go_307 : decode cX12_go 307 = .ok (.goto (-227), 3) := by decide +kernel
theorem dX12_go_310 : decode cX12_go 310 = .ok (.return_, 1) := by decide +kernel
theorem dX12_keep_0 : decode cX12_keep 0 = .ok (.aload_n 0, 1) := by decide +kernel
theorem dX12_keep_1 : decode cX12_keep 1 = .ok (.getfield 395, 3) := by decide +kernel
theorem dX12_keep_4 : decode cX12_keep 4 = .ok (.aload_n 0, 1) := by decide +kernel
theorem dX12_keep_5 : decode cX12_keep 5 = .ok (.getfield 398, 3) := by decide +kernel
theorem dX12_keep_8 : decode cX12_keep 8 = .ok (.if_icmp .ne 9, 3) := by decide +kernel
theorem dX12_keep_11 : decode cX12_keep 11 = .ok (.aload_n 0, 1) := by decide +kernel
theorem dX12_keep_12 : decode cX12_keep 12 = .ok (.iconst 1, 1) := by decide +kernel
theorem dX12_keep_13 : decode cX12_keep 13 = .ok (.putfield 382, 3) := by decide +kernel
theorem dX12_keep_16 : decode cX12_keep 16 = .ok (.return_, 1) := by decide +kernel
theorem dX12_keep_17 : decode cX12_keep 17 = .ok (.iconst 0, 1) := by decide +kernel
theorem dX12_keep_18 : decode cX12_keep 18 = .ok (.istore_n 1, 1) := by decide +kernel
theorem dX12_keep_19 : decode cX12_keep 19 = .ok (.iload_n 1, 1) := by decide +kernel
theorem dX12_keep_20 : decode cX12_keep 20 = .ok (.aload_n 0, 1) := by decide +kernel
theorem dX12_keep_21 : decode cX12_keep 21 = .ok (.getfield 388, 3) := by decide +kernel
theorem dX12_keep_24 : decode cX12_keep 24 = .ok (.if_icmp .ge 30, 3) := by decide +kernel
theorem dX12_keep_27 : decode cX12_keep 27 = .ok (.aload_n 0, 1) := by decide +kernel
theorem dX12_keep_28 : decode cX12_keep 28 = .ok (.getfield 136, 3) := by decide +kernel
theorem dX12_keep_31 : decode cX12_keep 31 = .ok (.sipush 808, 3) := by decide +kernel
theorem dX12_keep_34 : decode cX12_keep 34 = .ok (.aload_n 0, 1) := by decide +kernel
theorem dX12_keep_35 : decode cX12_keep 35 = .ok (.getfield 395, 3) := by decide +kernel
theorem dX12_keep_38 : decode cX12_keep 38 = .ok (.imul, 1) := by decide +kernel
theorem dX12_keep_39 : decode cX12_keep 39 = .ok (.iload_n 1, 1) := by decide +kernel
theorem dX12_keep_40 : decode cX12_keep 40 = .ok (.iadd, 1) := by decide +kernel
theorem dX12_keep_41 : decode cX12_keep 41 = .ok (.aload_n 0, 1) := by decide +kernel
theorem dX12_keep_42 : decode cX12_keep 42 = .ok (.getfield 142, 3) := by decide +kernel
theorem dX12_keep_45 : decode cX12_keep 45 = .ok (.iload_n 1, 1) := by decide +kernel
theorem dX12_keep_46 : decode cX12_keep 46 = .ok (.iaload, 1) := by decide +kernel
theorem dX12_keep_47 : decode cX12_keep 47 = .ok (.iastore, 1) := by decide +kernel
theorem dX12_keep_48 : decode cX12_keep 48 = .ok (.iinc 1 1, 3) := by decide +kernel
theorem dX12_keep_51 : decode cX12_keep 51 = .ok (.goto (-32), 3) := by decide +kernel
theorem dX12_keep_54 : decode cX12_keep 54 = .ok (.aload_n 0, 1) := by decide +kernel
theorem dX12_keep_55 : decode cX12_keep 55 = .ok (.getfield 139, 3) := by decide +kernel
theorem dX12_keep_58 : decode cX12_keep 58 = .ok (.aload_n 0, 1) := by decide +kernel
theorem dX12_keep_59 : decode cX12_keep 59 = .ok (.getfield 395, 3) := by decide +kernel
theorem dX12_keep_62 : decode cX12_keep 62 = .ok (.aload_n 0, 1) := by decide +kernel
theorem dX12_keep_63 : decode cX12_keep 63 = .ok (.getfield 388, 3) := by decide +kernel
theorem dX12_keep_66 : decode cX12_keep 66 = .ok (.iastore, 1) := by decide +kernel
theorem dX12_keep_67 : decode cX12_keep 67 = .ok (.aload_n 0, 1) := by decide +kernel
theorem dX12_keep_68 : decode cX12_keep 68 = .ok (.dup, 1) := by decide +kernel
theorem dX12_keep_69 : decode cX12_keep 69 = .ok (.getfield 395, 3) := by decide +kernel
theorem dX12_keep_72 : decode cX12_keep 72 = .ok (.iconst 1, 1) := by decide +kernel
theorem dX12_keep_73 : decode cX12_keep 73 = .ok (.iadd, 1) := by decide +kernel
theorem dX12_keep_74 : decode cX12_keep 74 = .ok (.putfield 395, 3) := by decide +kernel
theorem dX12_keep_77 : decode cX12_keep 77 = .ok (.return_, 1) := by decide +kernel
theorem dX12_readings_0 : decode cX12_readings 0 = .ok (.iload_n 3, 1) := by decide +kernel
theorem dX12_readings_1 : decode cX12_readings 1 = .ok (.iconst 1, 1) := by decide +kernel
theorem dX12_readings_2 : decode cX12_readings 2 = .ok (.bipush 50, 2) := by decide +kernel
theorem dX12_readings_4 : decode cX12_readings 4 = .ok (.invokestatic 174, 3) := by decide +kernel
theorem dX12_readings_7 : decode cX12_readings 7 = .ok (.ifCond .ne 10, 3) := by decide +kernel
theorem dX12_readings_10 : decode cX12_readings 10 = .ok (.aload_n 0, 1) := by decide +kernel
theorem dX12_readings_11 : decode cX12_readings 11 = .ok (.bipush 6, 2) := by decide +kernel
theorem dX12_readings_13 : decode cX12_readings 13 = .ok (.invokevirtual 154, 3) := by decide +kernel
theorem dX12_readings_16 : decode cX12_readings 16 = .ok (.ireturn, 1) := by decide +kernel
theorem dX12_readings_17 : decode cX12_readings 17 = .ok (.aload_n 0, 1) := by decide +kernel
theorem dX12_readings_18 : decode cX12_readings 18 = .ok (.iload_n 1, 1) := by decide +kernel
theorem dX12_readings_19 : decode cX12_readings 19 = .ok (.invokevirtual 171, 3) := by decide +kernel
theorem dX12_readings_22 : decode cX12_readings 22 = .ok (.ifCond .ne 9, 3) := by decide +kernel
theorem dX12_readings_25 : decode cX12_readings 25 = .ok (.aload_n 0, 1) := by decide +kernel
theorem dX12_readings_26 : decode cX12_readings 26 = .ok (.iconst 3, 1) := by decide +kernel
theorem dX12_readings_27 : decode cX12_readings 27 = .ok (.invokevirtual 154, 3) := by decide +kernel
theorem dX12_readings_30 : decode cX12_readings 30 = .ok (.ireturn, 1) := by decide +kernel
theorem dX12_readings_31 : decode cX12_readings 31 = .ok (.aload_n 0, 1) := by decide +kernel
theorem dX12_readings_32 : decode cX12_readings 32 = .ok (.iload_n 2, 1) := by decide +kernel
theorem dX12_readings_33 : decode cX12_readings 33 = .ok (.invokevirtual 294, 3) := by decide +kernel
theorem dX12_readings_36 : decode cX12_readings 36 = .ok (.ifCond .le 13, 3) := by decide +kernel
theorem dX12_readings_39 : decode cX12_readings 39 = .ok (.aload_n 0, 1) := by decide +kernel
theorem dX12_readings_40 : decode cX12_readings 40 = .ok (.aload_n 0, 1) := by decide +kernel
theorem dX12_readings_41 : decode cX12_readings 41 = .ok (.iload_n 2, 1) := by decide +kernel
theorem dX12_readings_42 : decode cX12_readings 42 = .ok (.invokevirtual 294, 3) := by decide +kernel
theorem dX12_readings_45 : decode cX12_readings 45 = .ok (.invokevirtual 154, 3) := by decide +kernel
theorem dX12_readings_48 : decode cX12_readings 48 = .ok (.ireturn, 1) := by decide +kernel
theorem dX12_readings_49 : decode cX12_readings 49 = .ok (.aload_n 0, 1) := by decide +kernel
theorem dX12_readings_50 : decode cX12_readings 50 = .ok (.getfield 91, 3) := by decide +kernel
theorem dX12_readings_53 : decode cX12_readings 53 = .ok (.iload_n 2, 1) := by decide +kernel
theorem dX12_readings_54 : decode cX12_readings 54 = .ok (.iaload, 1) := by decide +kernel
theorem dX12_readings_55 : decode cX12_readings 55 = .ok (.bipush 100, 2) := by decide +kernel
theorem dX12_readings_57 : decode cX12_readings 57 = .ok (.if_icmp .le 10, 3) := by decide +kernel
theorem dX12_readings_60 : decode cX12_readings 60 = .ok (.aload_n 0, 1) := by decide +kernel
theorem dX12_readings_61 : decode cX12_readings 61 = .ok (.bipush 6, 2) := by decide +kernel
theorem dX12_readings_63 : decode cX12_readings 63 = .ok (.invokevirtual 154, 3) := by decide +kernel
theorem dX12_readings_66 : decode cX12_readings 66 = .ok (.ireturn, 1) := by decide +kernel
theorem dX12_readings_67 : decode cX12_readings 67 = .ok (.aload_n 0, 1) := by decide +kernel
theorem dX12_readings_68 : decode cX12_readings 68 = .ok (.iconst 0, 1) := by decide +kernel
theorem dX12_readings_69 : decode cX12_readings 69 = .ok (.putfield 333, 3) := by decide +kernel
theorem dX12_readings_72 : decode cX12_readings 72 = .ok (.iconst 0, 1) := by decide +kernel
theorem dX12_readings_73 : decode cX12_readings 73 = .ok (.istore 4, 2) := by decide +kernel
theorem dX12_readings_75 : decode cX12_readings 75 = .ok (.iload 4, 2) := by decide +kernel
theorem dX12_readings_77 : decode cX12_readings 77 = .ok (.aload_n 0, 1) := by decide +kernel
theorem dX12_readings_78 : decode cX12_readings 78 = .ok (.getfield 91, 3) := by decide +kernel
theorem dX12_readings_81 : decode cX12_readings 81 = .ok (.iload_n 2, 1) := by decide +kernel
theorem dX12_readings_82 : decode cX12_readings 82 = .ok (.iaload, 1) := by decide +kernel
theorem dX12_readings_83 : decode cX12_readings 83 = .ok (.if_icmp .ge 27, 3) := by decide +kernel
theorem dX12_readings_86 : decode cX12_readings 86 = .ok (.aload_n 0, 1) := by decide +kernel
theorem dX12_readings_87 : decode cX12_readings 87 = .ok (.aload_n 0, 1) := by decide +kernel
theorem dX12_readings_88 : decode cX12_readings 88 = .ok (.getfield 95, 3) := by decide +kernel
theorem dX12_readings_91 : decode cX12_readings 91 = .ok (.sipush 200, 3) := by decide +kernel
theorem dX12_readings_94 : decode cX12_readings 94 = .ok (.iload_n 2, 1) := by decide +kernel
theorem dX12_readings_95 : decode cX12_readings 95 = .ok (.imul, 1) := by decide +kernel
theorem dX12_readings_96 : decode cX12_readings 96 = .ok (.iload 4, 2) := by decide +kernel
theorem dX12_readings_98 : decode cX12_readings 98 = .ok (.iadd, 1) := by decide +kernel
theorem dX12_readings_99 : decode cX12_readings 99 = .ok (.iaload, 1) := by decide +kernel
theorem dX12_readings_100 : decode cX12_readings 100 = .ok (.iconst 0, 1) := by decide +kernel
theorem dX12_readings_101 : decode cX12_readings 101 = .ok (.invokevirtual 351, 3) := by decide +kernel
theorem dX12_readings_104 : decode cX12_readings 104 = .ok (.iinc 4 1, 3) := by decide +kernel
theorem dX12_readings_107 : decode cX12_readings 107 = .ok (.goto (-32), 3) := by decide +kernel
theorem dX12_readings_110 : decode cX12_readings 110 = .ok (.aload_n 0, 1) := by decide +kernel
theorem dX12_readings_111 : decode cX12_readings 111 = .ok (.iload_n 1, 1) := by decide +kernel
theorem dX12_readings_112 : decode cX12_readings 112 = .ok (.invokevirtual 354, 3) := by decide +kernel
theorem dX12_readings_115 : decode cX12_readings 115 = .ok (.aload_n 0, 1) := by decide +kernel
theorem dX12_readings_116 : decode cX12_readings 116 = .ok (.invokevirtual 401, 3) := by decide +kernel
theorem dX12_readings_119 : decode cX12_readings 119 = .ok (.aload_n 0, 1) := by decide +kernel
theorem dX12_readings_120 : decode cX12_readings 120 = .ok (.iconst 0, 1) := by decide +kernel
theorem dX12_readings_121 : decode cX12_readings 121 = .ok (.putfield 395, 3) := by decide +kernel
theorem dX12_readings_124 : decode cX12_readings 124 = .ok (.aload_n 0, 1) := by decide +kernel
theorem dX12_readings_125 : decode cX12_readings 125 = .ok (.iconst 0, 1) := by decide +kernel
theorem dX12_readings_126 : decode cX12_readings 126 = .ok (.putfield 382, 3) := by decide +kernel
theorem dX12_readings_129 : decode cX12_readings 129 = .ok (.aload_n 0, 1) := by decide +kernel
theorem dX12_readings_130 : decode cX12_readings 130 = .ok (.iconst 0, 1) := by decide +kernel
theorem dX12_readings_131 : decode cX12_readings 131 = .ok (.putfield 388, 3) := by decide +kernel
theorem dX12_readings_134 : decode cX12_readings 134 = .ok (.aload_n 0, 1) := by decide +kernel
theorem dX12_readings_135 : decode cX12_readings 135 = .ok (.iload_n 3, 1) := by decide +kernel
theorem dX12_readings_136 : decode cX12_readings 136 = .ok (.putfield 398, 3) := by decide +kernel
theorem dX12_readings_139 : decode cX12_readings 139 = .ok (.aload_n 0, 1) := by decide +kernel
theorem dX12_readings_140 : decode cX12_readings 140 = .ok (.getfield 132, 3) := by decide +kernel
theorem dX12_readings_143 : decode cX12_readings 143 = .ok (.iconst 0, 1) := by decide +kernel
theorem dX12_readings_144 : decode cX12_readings 144 = .ok (.baload, 1) := by decide +kernel
theorem dX12_readings_145 : decode cX12_readings 145 = .ok (.ifCond .eq 10, 3) := by decide +kernel
theorem dX12_readings_148 : decode cX12_readings 148 = .ok (.aload_n 0, 1) := by decide +kernel
theorem dX12_readings_149 : decode cX12_readings 149 = .ok (.iconst 0, 1) := by decide +kernel
theorem dX12_readings_150 : decode cX12_readings 150 = .ok (.iconst 0, 1) := by decide +kernel
theorem dX12_readings_151 : decode cX12_readings 151 = .ok (.iconst 0, 1) := by decide +kernel
theorem dX12_readings_152 : decode cX12_readings 152 = .ok (.invokevirtual 391, 3) := by decide +kernel
theorem dX12_readings_155 : decode cX12_readings 155 = .ok (.aload_n 0, 1) := by decide +kernel
theorem dX12_readings_156 : decode cX12_readings 156 = .ok (.aload_n 0, 1) := by decide +kernel
theorem dX12_readings_157 : decode cX12_readings 157 = .ok (.getfield 395, 3) := by decide +kernel
theorem dX12_readings_160 : decode cX12_readings 160 = .ok (.invokevirtual 158, 3) := by decide +kernel
theorem dX12_readings_163 : decode cX12_readings 163 = .ok (.ireturn, 1) := by decide +kernel
theorem dX12_more_0 : decode cX12_more 0 = .ok (.aload_n 0, 1) := by decide +kernel
theorem dX12_more_1 : decode cX12_more 1 = .ok (.getfield 382, 3) := by decide +kernel
theorem dX12_more_4 : decode cX12_more 4 = .ok (.ireturn, 1) := by decide +kernel
theorem dX12_reading_0 : decode cX12_reading 0 = .ok (.iload_n 1, 1) := by decide +kernel
theorem dX12_reading_1 : decode cX12_reading 1 = .ok (.iconst 0, 1) := by decide +kernel
theorem dX12_reading_2 : decode cX12_reading 2 = .ok (.aload_n 0, 1) := by decide +kernel
theorem dX12_reading_3 : decode cX12_reading 3 = .ok (.getfield 395, 3) := by decide +kernel
theorem dX12_reading_6 : decode cX12_reading 6 = .ok (.iconst 1, 1) := by decide +kernel
theorem dX12_reading_7 : decode cX12_reading 7 = .ok (.isub, 1) := by decide +kernel
theorem dX12_reading_8 : decode cX12_reading 8 = .ok (.invokestatic 174, 3) := by decide +kernel
theorem dX12_reading_11 : decode cX12_reading 11 = .ok (.ifCond .eq 38, 3) := by decide +kernel
theorem dX12_reading_14 : decode cX12_reading 14 = .ok (.iload_n 2, 1) := by decide +kernel
theorem dX12_reading_15 : decode cX12_reading 15 = .ok (.iconst 0, 1) := by decide +kernel
theorem dX12_reading_16 : decode cX12_reading 16 = .ok (.aload_n 0, 1) := by decide +kernel
theorem dX12_reading_17 : decode cX12_reading 17 = .ok (.getfield 139, 3) := by decide +kernel
theorem dX12_reading_20 : decode cX12_reading 20 = .ok (.iload_n 1, 1) := by decide +kernel
theorem dX12_reading_21 : decode cX12_reading 21 = .ok (.iaload, 1) := by decide +kernel
theorem dX12_reading_22 : decode cX12_reading 22 = .ok (.iconst 1, 1) := by decide +kernel
theorem dX12_reading_23 : decode cX12_reading 23 = .ok (.isub, 1) := by decide +kernel
theorem dX12_reading_24 : decode cX12_reading 24 = .ok (.invokestatic 174, 3) := by decide +kernel
theorem dX12_reading_27 : decode cX12_reading 27 = .ok (.ifCond .eq 22, 3) := by decide +kernel
theorem dX12_reading_30 : decode cX12_reading 30 = .ok (.aload_n 0, 1) := by decide +kernel
theorem dX12_reading_31 : decode cX12_reading 31 = .ok (.aload_n 0, 1) := by decide +kernel
theorem dX12_reading_32 : decode cX12_reading 32 = .ok (.getfield 136, 3) := by decide +kernel
theorem dX12_reading_35 : decode cX12_reading 35 = .ok (.sipush 808, 3) := by decide +kernel
theorem dX12_reading_38 : decode cX12_reading 38 = .ok (.iload_n 1, 1) := by decide +kernel
theorem dX12_reading_39 : decode cX12_reading 39 = .ok (.imul, 1) := by decide +kernel
theorem dX12_reading_40 : decode cX12_reading 40 = .ok (.iload_n 2, 1) := by decide +kernel
theorem dX12_reading_41 : decode cX12_reading 41 = .ok (.iadd, 1) := by decide +kernel
theorem dX12_reading_42 : decode cX12_reading 42 = .ok (.iaload, 1) := by decide +kernel
theorem dX12_reading_43 : decode cX12_reading 43 = .ok (.invokevirtual 158, 3) := by decide +kernel
theorem dX12_reading_46 : decode cX12_reading 46 = .ok (.goto 8, 3) := by decide +kernel
theorem dX12_reading_49 : decode cX12_reading 49 = .ok (.aload_n 0, 1) := by decide +kernel
theorem dX12_reading_50 : decode cX12_reading 50 = .ok (.iconst 2, 1) := by decide +kernel
theorem dX12_reading_51 : decode cX12_reading 51 = .ok (.invokevirtual 154, 3) := by decide +kernel
theorem dX12_reading_54 : decode cX12_reading 54 = .ok (.ireturn, 1) := by decide +kernel
theorem dX12_isShort_0 : decode cX12_isShort 0 = .ok (.iconst 0, 1) := by decide +kernel
theorem dX12_isShort_1 : decode cX12_isShort 1 = .ok (.istore_n 2, 1) := by decide +kernel
theorem dX12_isShort_2 : decode cX12_isShort 2 = .ok (.iload_n 1, 1) := by decide +kernel
theorem dX12_isShort_3 : decode cX12_isShort 3 = .ok (.istore_n 3, 1) := by decide +kernel
theorem dX12_isShort_4 : decode cX12_isShort 4 = .ok (.iload_n 3, 1) := by decide +kernel
theorem dX12_isShort_5 : decode cX12_isShort 5 = .ok (.ifCond .lt 33, 3) := by decide +kernel
theorem dX12_isShort_8 : decode cX12_isShort 8 = .ok (.iload_n 2, 1) := by decide +kernel
theorem dX12_isShort_9 : decode cX12_isShort 9 = .ok (.ifCond .ne 13, 3) := by decide +kernel
theorem dX12_isShort_12 : decode cX12_isShort 12 = .ok (.aload_n 0, 1) := by decide +kernel
theorem dX12_isShort_13 : decode cX12_isShort 13 = .ok (.getfield 21, 3) := by decide +kernel
theorem dX12_isShort_16 : decode cX12_isShort 16 = .ok (.iload_n 3, 1) := by decide +kernel
theorem dX12_isShort_17 : decode cX12_isShort 17 = .ok (.iaload, 1) := by decide +kernel
theorem dX12_isShort_18 : decode cX12_isShort 18 = .ok (.iconst 3, 1) := by decide +kernel
theorem dX12_isShort_19 : decode cX12_isShort 19 = .ok (.if_icmp .ne 7, 3) := by decide +kernel
theorem dX12_isShort_22 : decode cX12_isShort 22 = .ok (.iconst 1, 1) := by decide +kernel
theorem dX12_isShort_23 : decode cX12_isShort 23 = .ok (.goto 4, 3) := by decide +kernel
theorem dX12_isShort_26 : decode cX12_isShort 26 = .ok (.iconst 0, 1) := by decide +kernel
theorem dX12_isShort_27 : decode cX12_isShort 27 = .ok (.istore_n 2, 1) := by decide +kernel
theorem dX12_isShort_28 : decode cX12_isShort 28 = .ok (.aload_n 0, 1) := by decide +kernel
theorem dX12_isShort_29 : decode cX12_isShort 29 = .ok (.getfield 27, 3) := by decide +kernel
theorem dX12_isShort_32 : decode cX12_isShort 32 = .ok (.iload_n 3, 1) := by decide +kernel
theorem dX12_isShort_33 : decode cX12_isShort 33 = .ok (.iaload, 1) := by decide +kernel
theorem dX12_isShort_34 : decode cX12_isShort 34 = .ok (.istore_n 3, 1) := by decide +kernel
theorem dX12_isShort_35 : decode cX12_isShort 35 = .ok (.goto (-31), 3) := by decide +kernel
theorem dX12_isShort_38 : decode cX12_isShort 38 = .ok (.iload_n 2, 1) := by decide +kernel
theorem dX12_isShort_39 : decode cX12_isShort 39 = .ok (.ireturn, 1) := by decide +kernel
theorem dX12_alike_0 : decode cX12_alike 0 = .ok (.iconst 0, 1) := by decide +kernel
theorem dX12_alike_1 : decode cX12_alike 1 = .ok (.istore_n 3, 1) := by decide +kernel
theorem dX12_alike_2 : decode cX12_alike 2 = .ok (.iload_n 3, 1) := by decide +kernel
theorem dX12_alike_3 : decode cX12_alike 3 = .ok (.aload_n 0, 1) := by decide +kernel
theorem dX12_alike_4 : decode cX12_alike 4 = .ok (.getfield 113, 3) := by decide +kernel
theorem dX12_alike_7 : decode cX12_alike 7 = .ok (.iload_n 1, 1) := by decide +kernel
theorem dX12_alike_8 : decode cX12_alike 8 = .ok (.iaload, 1) := by decide +kernel
theorem dX12_alike_9 : decode cX12_alike 9 = .ok (.if_icmp .ge 34, 3) := by decide +kernel
theorem dX12_alike_12 : decode cX12_alike 12 = .ok (.iload_n 3, 1) := by decide +kernel
theorem dX12_alike_13 : decode cX12_alike 13 = .ok (.aload_n 0, 1) := by decide +kernel
theorem dX12_alike_14 : decode cX12_alike 14 = .ok (.getfield 113, 3) := by decide +kernel
theorem dX12_alike_17 : decode cX12_alike 17 = .ok (.iload_n 2, 1) := by decide +kernel
theorem dX12_alike_18 : decode cX12_alike 18 = .ok (.iaload, 1) := by decide +kernel
theorem dX12_alike_19 : decode cX12_alike 19 = .ok (.if_icmp .ge 24, 3) := by decide +kernel
theorem dX12_alike_22 : decode cX12_alike 22 = .ok (.aload_n 0, 1) := by decide +kernel
theorem dX12_alike_23 : decode cX12_alike 23 = .ok (.iload_n 1, 1) := by decide +kernel
theorem dX12_alike_24 : decode cX12_alike 24 = .ok (.iload_n 3, 1) := by decide +kernel
theorem dX12_alike_25 : decode cX12_alike 25 = .ok (.invokevirtual 324, 3) := by decide +kernel
theorem dX12_alike_28 : decode cX12_alike 28 = .ok (.aload_n 0, 1) := by decide +kernel
theorem dX12_alike_29 : decode cX12_alike 29 = .ok (.iload_n 2, 1) := by decide +kernel
theorem dX12_alike_30 : decode cX12_alike 30 = .ok (.iload_n 3, 1) := by decide +kernel
theorem dX12_alike_31 : decode cX12_alike 31 = .ok (.invokevirtual 324, 3) := by decide +kernel
theorem dX12_alike_34 : decode cX12_alike 34 = .ok (.if_icmp .ne 9, 3) := by decide +kernel
theorem dX12_alike_37 : decode cX12_alike 37 = .ok (.iinc 3 1, 3) := by decide +kernel
theorem dX12_alike_40 : decode cX12_alike 40 = .ok (.goto (-38), 3) := by decide +kernel
theorem dX12_alike_43 : decode cX12_alike 43 = .ok (.iload_n 3, 1) := by decide +kernel
theorem dX12_alike_44 : decode cX12_alike 44 = .ok (.ireturn, 1) := by decide +kernel
theorem dX12_isReadable_0 : decode cX12_isReadable 0 = .ok (.sipush 6008, 3) := by decide +kernel
theorem dX12_isReadable_3 : decode cX12_isReadable 3 = .ok (.iload_n 1, 1) := by decide +kernel
theorem dX12_isReadable_4 : decode cX12_isReadable 4 = .ok (.imul, 1) := by decide +kernel
theorem dX12_isReadable_5 : decode cX12_isReadable 5 = .ok (.istore_n 2, 1) := by decide +kernel
theorem dX12_isReadable_6 : decode cX12_isReadable 6 = .ok (.iload_n 2, 1) := by decide +kernel
theorem dX12_isReadable_7 : decode cX12_isReadable 7 = .ok (.istore_n 3, 1) := by decide +kernel
theorem dX12_isReadable_8 : decode cX12_isReadable 8 = .ok (.iload_n 3, 1) := by decide +kernel
theorem dX12_isReadable_9 : decode cX12_isReadable 9 = .ok (.iload_n 2, 1) := by decide +kernel
theorem dX12_isReadable_10 : decode cX12_isReadable 10 = .ok (.aload_n 0, 1) := by decide +kernel
theorem dX12_isReadable_11 : decode cX12_isReadable 11 = .ok (.getfield 116, 3) := by decide +kernel
theorem dX12_isReadable_14 : decode cX12_isReadable 14 = .ok (.iload_n 1, 1) := by decide +kernel
theorem dX12_isReadable_15 : decode cX12_isReadable 15 = .ok (.iaload, 1) := by decide +kernel
theorem dX12_isReadable_16 : decode cX12_isReadable 16 = .ok (.iadd, 1) := by decide +kernel
theorem dX12_isReadable_17 : decode cX12_isReadable 17 = .ok (.if_icmp .ge 80, 3) := by decide +kernel
theorem dX12_isReadable_20 : decode cX12_isReadable 20 = .ok (.aload_n 0, 1) := by decide +kernel
theorem dX12_isReadable_21 : decode cX12_isReadable 21 = .ok (.iload_n 3, 1) := by decide +kernel
theorem dX12_isReadable_22 : decode cX12_isReadable 22 = .ok (.aload_n 0, 1) := by decide +kernel
theorem dX12_isReadable_23 : decode cX12_isReadable 23 = .ok (.getfield 113, 3) := by decide +kernel
theorem dX12_isReadable_26 : decode cX12_isReadable 26 = .ok (.iload_n 3, 1) := by decide +kernel
theorem dX12_isReadable_27 : decode cX12_isReadable 27 = .ok (.iaload, 1) := by decide +kernel
theorem dX12_isReadable_28 : decode cX12_isReadable 28 = .ok (.iconst 1, 1) := by decide +kernel
theorem dX12_isReadable_29 : decode cX12_isReadable 29 = .ok (.isub, 1) := by decide +kernel
theorem dX12_isReadable_30 : decode cX12_isReadable 30 = .ok (.invokevirtual 324, 3) := by decide +kernel
theorem dX12_isReadable_33 : decode cX12_isReadable 33 = .ok (.aload_n 0, 1) := by decide +kernel
theorem dX12_isReadable_34 : decode cX12_isReadable 34 = .ok (.getfield 88, 3) := by decide +kernel
theorem dX12_isReadable_37 : decode cX12_isReadable 37 = .ok (.if_icmp .ne 5, 3) := by decide +kernel
theorem dX12_isReadable_40 : decode cX12_isReadable 40 = .ok (.iconst 0, 1) := by decide +kernel
theorem dX12_isReadable_41 : decode cX12_isReadable 41 = .ok (.ireturn, 1) := by decide +kernel
theorem dX12_isReadable_42 : decode cX12_isReadable 42 = .ok (.iload_n 2, 1) := by decide +kernel
theorem dX12_isReadable_43 : decode cX12_isReadable 43 = .ok (.istore 4, 2) := by decide +kernel
theorem dX12_isReadable_45 : decode cX12_isReadable 45 = .ok (.iload 4, 2) := by decide +kernel
theorem dX12_isReadable_47 : decode cX12_isReadable 47 = .ok (.iload_n 3, 1) := by decide +kernel
theorem dX12_isReadable_48 : decode cX12_isReadable 48 = .ok (.if_icmp .ge 43, 3) := by decide +kernel
theorem dX12_isReadable_51 : decode cX12_isReadable 51 = .ok (.aload_n 0, 1) := by decide +kernel
theorem dX12_isReadable_52 : decode cX12_isReadable 52 = .ok (.iload_n 3, 1) := by decide +kernel
theorem dX12_isReadable_53 : decode cX12_isReadable 53 = .ok (.iload 4, 2) := by decide +kernel
theorem dX12_isReadable_55 : decode cX12_isReadable 55 = .ok (.invokevirtual 404, 3) := by decide +kernel
theorem dX12_isReadable_58 : decode cX12_isReadable 58 = .ok (.istore 5, 2) := by decide +kernel
theorem dX12_isReadable_60 : decode cX12_isReadable 60 = .ok (.iload 5, 2) := by decide +kernel
theorem dX12_isReadable_62 : decode cX12_isReadable 62 = .ok (.aload_n 0, 1) := by decide +kernel
theorem dX12_isReadable_63 : decode cX12_isReadable 63 = .ok (.getfield 113, 3) := by decide +kernel
theorem dX12_isReadable_66 : decode cX12_isReadable 66 = .ok (.iload_n 3, 1) := by decide +kernel
theorem dX12_isReadable_67 : decode cX12_isReadable 67 = .ok (.iaload, 1) := by decide +kernel
theorem dX12_isReadable_68 : decode cX12_isReadable 68 = .ok (.if_icmp .eq 15, 3) := by decide +kernel
theorem dX12_isReadable_71 : decode cX12_isReadable 71 = .ok (.iload 5, 2) := by decide +kernel
theorem dX12_isReadable_73 : decode cX12_isReadable 73 = .ok (.aload_n 0, 1) := by decide +kernel
theorem dX12_isReadable_74 : decode cX12_isReadable 74 = .ok (.getfield 113, 3) := by decide +kernel
theorem dX12_isReadable_77 : decode cX12_isReadable 77 = .ok (.iload 4, 2) := by decide +kernel
theorem dX12_isReadable_79 : decode cX12_isReadable 79 = .ok (.iaload, 1) := by decide +kernel
theorem dX12_isReadable_80 : decode cX12_isReadable 80 = .ok (.if_icmp .ne 5, 3) := by decide +kernel
theorem dX12_isReadable_83 : decode cX12_isReadable 83 = .ok (.iconst 0, 1) := by decide +kernel
theorem dX12_isReadable_84 : decode cX12_isReadable 84 = .ok (.ireturn, 1) := by decide +kernel
theorem dX12_isReadable_85 : decode cX12_isReadable 85 = .ok (.iinc 4 1, 3) := by decide +kernel
theorem dX12_isReadable_88 : decode cX12_isReadable 88 = .ok (.goto (-43), 3) := by decide +kernel
theorem dX12_isReadable_91 : decode cX12_isReadable 91 = .ok (.iinc 3 1, 3) := by decide +kernel
theorem dX12_isReadable_94 : decode cX12_isReadable 94 = .ok (.goto (-86), 3) := by decide +kernel
theorem dX12_isReadable_97 : decode cX12_isReadable 97 = .ok (.iconst 1, 1) := by decide +kernel
theorem dX12_isReadable_98 : decode cX12_isReadable 98 = .ok (.ireturn, 1) := by decide +kernel
theorem dX12_judge_0 : decode cX12_judge 0 = .ok (.aload_n 0, 1) := by decide +kernel
theorem dX12_judge_1 : decode cX12_judge 1 = .ok (.iload_n 1, 1) := by decide +kernel
theorem dX12_judge_2 : decode cX12_judge 2 = .ok (.invokevirtual 167, 3) := by decide +kernel
theorem dX12_judge_5 : decode cX12_judge 5 = .ok (.ifCond .ne 9, 3) := by decide +kernel
theorem dX12_judge_8 : decode cX12_judge 8 = .ok (.aload_n 0, 1) := by decide +kernel
theorem dX12_judge_9 : decode cX12_judge 9 = .ok (.iconst 3, 1) := by decide +kernel
theorem dX12_judge_10 : decode cX12_judge 10 = .ok (.invokevirtual 154, 3) := by decide +kernel
theorem dX12_judge_13 : decode cX12_judge 13 = .ok (.ireturn, 1) := by decide +kernel
theorem dX12_judge_14 : decode cX12_judge 14 = .ok (.aload_n 0, 1) := by decide +kernel
theorem dX12_judge_15 : decode cX12_judge 15 = .ok (.getfield 21, 3) := by decide +kernel
theorem dX12_judge_18 : decode cX12_judge 18 = .ok (.iload_n 1, 1) := by decide +kernel
theorem dX12_judge_19 : decode cX12_judge 19 = .ok (.iaload, 1) := by decide +kernel
theorem dX12_judge_20 : decode cX12_judge 20 = .ok (.iconst 4, 1) := by decide +kernel
theorem dX12_judge_21 : decode cX12_judge 21 = .ok (.if_icmp .ne 9, 3) := by decide +kernel
theorem dX12_judge_24 : decode cX12_judge 24 = .ok (.aload_n 0, 1) := by decide +kernel
theorem dX12_judge_25 : decode cX12_judge 25 = .ok (.iconst 4, 1) := by decide +kernel
theorem dX12_judge_26 : decode cX12_judge 26 = .ok (.invokevirtual 154, 3) := by decide +kernel
theorem dX12_judge_29 : decode cX12_judge 29 = .ok (.ireturn, 1) := by decide +kernel
theorem dX12_judge_30 : decode cX12_judge 30 = .ok (.aload_n 0, 1) := by decide +kernel
theorem dX12_judge_31 : decode cX12_judge 31 = .ok (.iload_n 1, 1) := by decide +kernel
theorem dX12_judge_32 : decode cX12_judge 32 = .ok (.invokevirtual 171, 3) := by decide +kernel
theorem dX12_judge_35 : decode cX12_judge 35 = .ok (.ifCond .ne 9, 3) := by decide +kernel
theorem dX12_judge_38 : decode cX12_judge 38 = .ok (.aload_n 0, 1) := by decide +kernel
theorem dX12_judge_39 : decode cX12_judge 39 = .ok (.iconst 3, 1) := by decide +kernel
theorem dX12_judge_40 : decode cX12_judge 40 = .ok (.invokevirtual 154, 3) := by decide +kernel
theorem dX12_judge_43 : decode cX12_judge 43 = .ok (.ireturn, 1) := by decide +kernel
theorem dX12_judge_44 : decode cX12_judge 44 = .ok (.aload_n 0, 1) := by decide +kernel
theorem dX12_judge_45 : decode cX12_judge 45 = .ok (.getfield 21, 3) := by decide +kernel
theorem dX12_judge_48 : decode cX12_judge 48 = .ok (.iload_n 1, 1) := by decide +kernel
theorem dX12_judge_49 : decode cX12_judge 49 = .ok (.iaload, 1) := by decide +kernel
theorem dX12_judge_50 : decode cX12_judge 50 = .ok (.iconst 5, 1) := by decide +kernel
theorem dX12_judge_51 : decode cX12_judge 51 = .ok (.if_icmp .ne 37, 3) := by decide +kernel
theorem dX12_judge_54 : decode cX12_judge 54 = .ok (.aload_n 0, 1) := by decide +kernel
theorem dX12_judge_55 : decode cX12_judge 55 = .ok (.aload_n 0, 1) := by decide +kernel
theorem dX12_judge_56 : decode cX12_judge 56 = .ok (.getfield 27, 3) := by decide +kernel
theorem dX12_judge_59 : decode cX12_judge 59 = .ok (.iload_n 1, 1) := by decide +kernel
theorem dX12_judge_60 : decode cX12_judge 60 = .ok (.iaload, 1) := by decide +kernel
theorem dX12_judge_61 : decode cX12_judge 61 = .ok (.invokevirtual 407, 3) := by decide +kernel
theorem dX12_judge_64 : decode cX12_judge 64 = .ok (.ifCond .ne 16, 3) := by decide +kernel
theorem dX12_judge_67 : decode cX12_judge 67 = .ok (.aload_n 0, 1) := by decide +kernel
theorem dX12_judge_68 : decode cX12_judge 68 = .ok (.aload_n 0, 1) := by decide +kernel
theorem dX12_judge_69 : decode cX12_judge 69 = .ok (.getfield 30, 3) := by decide +kernel
theorem dX12_judge_72 : decode cX12_judge 72 = .ok (.iload_n 1, 1) := by decide +kernel
theorem dX12_judge_73 : decode cX12_judge 73 = .ok (.iaload, 1) := by decide +kernel
theorem dX12_judge_74 : decode cX12_judge 74 = .ok (.invokevirtual 407, 3) := by decide +kernel
theorem dX12_judge_77 : decode cX12_judge 77 = .ok (.ifCond .eq 7, 3) := by decide +kernel
theorem dX12_judge_80 : decode cX12_judge 80 = .ok (.iconst 1, 1) := by decide +kernel
theorem dX12_judge_81 : decode cX12_judge 81 = .ok (.goto 12, 3) := by decide +kernel
theorem dX12_judge_84 : decode cX12_judge 84 = .ok (.iconst 0, 1) := by decide +kernel
theorem dX12_judge_85 : decode cX12_judge 85 = .ok (.goto 8, 3) := by decide +kernel
theorem dX12_judge_88 : decode cX12_judge 88 = .ok (.aload_n 0, 1) := by decide +kernel
theorem dX12_judge_89 : decode cX12_judge 89 = .ok (.iload_n 1, 1) := by decide +kernel
theorem dX12_judge_90 : decode cX12_judge 90 = .ok (.invokevirtual 407, 3) := by decide +kernel
theorem dX12_judge_93 : decode cX12_judge 93 = .ok (.istore_n 2, 1) := by decide +kernel
theorem dX12_judge_94 : decode cX12_judge 94 = .ok (.aload_n 0, 1) := by decide +kernel
theorem dX12_judge_95 : decode cX12_judge 95 = .ok (.iload_n 1, 1) := by decide +kernel
theorem dX12_judge_96 : decode cX12_judge 96 = .ok (.invokevirtual 354, 3) := by decide +kernel
theorem dX12_judge_99 : decode cX12_judge 99 = .ok (.aload_n 0, 1) := by decide +kernel
theorem dX12_judge_100 : decode cX12_judge 100 = .ok (.iload_n 2, 1) := by decide +kernel
theorem dX12_judge_101 : decode cX12_judge 101 = .ok (.ifCond .ne 23, 3) := by decide +kernel
theorem dX12_judge_104 : decode cX12_judge 104 = .ok (.aload_n 0, 1) := by decide +kernel
theorem dX12_judge_105 : decode cX12_judge 105 = .ok (.iconst 0, 1) := by decide +kernel
theorem dX12_judge_106 : decode cX12_judge 106 = .ok (.invokevirtual 410, 3) := by decide +kernel
theorem dX12_judge_109 : decode cX12_judge 109 = .ok (.ifCond .eq 15, 3) := by decide +kernel
theorem dX12_judge_112 : decode cX12_judge 112 = .ok (.aload_n 0, 1) := by decide +kernel
theorem dX12_judge_113 : decode cX12_judge 113 = .ok (.iconst 1, 1) := by decide +kernel
theorem dX12_judge_114 : decode cX12_judge 114 = .ok (.invokevirtual 410, 3) := by decide +kernel
theorem dX12_judge_117 : decode cX12_judge 117 = .ok (.ifCond .eq 7, 3) := by decide +kernel
theorem dX12_judge_120 : decode cX12_judge 120 = .ok (.iconst 1, 1) := by decide +kernel
theorem dX12_judge_121 : decode cX12_judge 121 = .ok (.goto 4, 3) := by decide +kernel
theorem dX12_judge_124 : decode cX12_judge 124 = .ok (.iconst 0, 1) := by decide +kernel
theorem dX12_judge_125 : decode cX12_judge 125 = .ok (.invokevirtual 158, 3) := by decide +kernel
theorem dX12_judge_128 : decode cX12_judge 128 = .ok (.ireturn, 1) := by decide +kernel
theorem dX12_parts_0 : decode cX12_parts 0 = .ok (.aload_n 0, 1) := by decide +kernel
theorem dX12_parts_1 : decode cX12_parts 1 = .ok (.iload_n 1, 1) := by decide +kernel
theorem dX12_parts_2 : decode cX12_parts 2 = .ok (.invokevirtual 171, 3) := by decide +kernel
theorem dX12_parts_5 : decode cX12_parts 5 = .ok (.ifCond .ne 9, 3) := by decide +kernel
theorem dX12_parts_8 : decode cX12_parts 8 = .ok (.aload_n 0, 1) := by decide +kernel
theorem dX12_parts_9 : decode cX12_parts 9 = .ok (.iconst 3, 1) := by decide +kernel
theorem dX12_parts_10 : decode cX12_parts 10 = .ok (.invokevirtual 154, 3) := by decide +kernel
theorem dX12_parts_13 : decode cX12_parts 13 = .ok (.ireturn, 1) := by decide +kernel
theorem dX12_parts_14 : decode cX12_parts 14 = .ok (.aload_n 0, 1) := by decide +kernel
theorem dX12_parts_15 : decode cX12_parts 15 = .ok (.iload_n 1, 1) := by decide +kernel
theorem dX12_parts_16 : decode cX12_parts 16 = .ok (.invokevirtual 354, 3) := by decide +kernel
theorem dX12_parts_19 : decode cX12_parts 19 = .ok (.iload_n 2, 1) := by decide +kernel
theorem dX12_parts_20 : decode cX12_parts 20 = .ok (.iconst 0, 1) := by decide +kernel
theorem dX12_parts_21 : decode cX12_parts 21 = .ok (.aload_n 0, 1) := by decide +kernel
theorem dX12_parts_22 : decode cX12_parts 22 = .ok (.getfield 116, 3) := by decide +kernel
theorem dX12_parts_25 : decode cX12_parts 25 = .ok (.iconst 0, 1) := by decide +kernel
theorem dX12_parts_26 : decode cX12_parts 26 = .ok (.iaload, 1) := by decide +kernel
theorem dX12_parts_27 : decode cX12_parts 27 = .ok (.iconst 1, 1) := by decide +kernel
theorem dX12_parts_28 : decode cX12_parts 28 = .ok (.isub, 1) := by decide +kernel
theorem dX12_parts_29 : decode cX12_parts 29 = .ok (.invokestatic 174, 3) := by decide +kernel
theorem dX12_parts_32 : decode cX12_parts 32 = .ok (.ifCond .eq 19, 3) := by decide +kernel
theorem dX12_parts_35 : decode cX12_parts 35 = .ok (.iload_n 3, 1) := by decide +kernel
theorem dX12_parts_36 : decode cX12_parts 36 = .ok (.iconst 0, 1) := by decide +kernel
theorem dX12_parts_37 : decode cX12_parts 37 = .ok (.aload_n 0, 1) := by decide +kernel
theorem dX12_parts_38 : decode cX12_parts 38 = .ok (.getfield 116, 3) := by decide +kernel
theorem dX12_parts_41 : decode cX12_parts 41 = .ok (.iconst 0, 1) := by decide +kernel
theorem dX12_parts_42 : decode cX12_parts 42 = .ok (.iaload, 1) := by decide +kernel
theorem dX12_parts_43 : decode cX12_parts 43 = .ok (.iconst 1, 1) := by decide +kernel
theorem dX12_parts_44 : decode cX12_parts 44 = .ok (.isub, 1) := by decide +kernel
theorem dX12_parts_45 : decode cX12_parts 45 = .ok (.invokestatic 174, 3) := by decide +kernel
theorem dX12_parts_48 : decode cX12_parts 48 = .ok (.ifCond .ne 9, 3) := by decide +kernel
theorem dX12_parts_51 : decode cX12_parts 51 = .ok (.aload_n 0, 1) := by decide +kernel
theorem dX12_parts_52 : decode cX12_parts 52 = .ok (.iconst 2, 1) := by decide +kernel
theorem dX12_parts_53 : decode cX12_parts 53 = .ok (.invokevirtual 154, 3) := by decide +kernel
theorem dX12_parts_56 : decode cX12_parts 56 = .ok (.ireturn, 1) := by decide +kernel
theorem dX12_parts_57 : decode cX12_parts 57 = .ok (.aload_n 0, 1) := by decide +kernel
theorem dX12_parts_58 : decode cX12_parts 58 = .ok (.iload_n 2, 1) := by decide +kernel
theorem dX12_parts_59 : decode cX12_parts 59 = .ok (.iload_n 3, 1) := by decide +kernel
theorem dX12_parts_60 : decode cX12_parts 60 = .ok (.invokevirtual 404, 3) := by decide +kernel
theorem dX12_parts_63 : decode cX12_parts 63 = .ok (.istore 4, 2) := by decide +kernel
theorem dX12_parts_65 : decode cX12_parts 65 = .ok (.aload_n 0, 1) := by decide +kernel
theorem dX12_parts_66 : decode cX12_parts 66 = .ok (.iload 4, 2) := by decide +kernel
theorem dX12_parts_68 : decode cX12_parts 68 = .ok (.aload_n 0, 1) := by decide +kernel
theorem dX12_parts_69 : decode cX12_parts 69 = .ok (.getfield 113, 3) := by decide +kernel
theorem dX12_parts_72 : decode cX12_parts 72 = .ok (.iload_n 2, 1) := by decide +kernel
theorem dX12_parts_73 : decode cX12_parts 73 = .ok (.iaload, 1) := by decide +kernel
theorem dX12_parts_74 : decode cX12_parts 74 = .ok (.if_icmp .eq 14, 3) := by decide +kernel
theorem dX12_parts_77 : decode cX12_parts 77 = .ok (.iload 4, 2) := by decide +kernel
theorem dX12_parts_79 : decode cX12_parts 79 = .ok (.aload_n 0, 1) := by decide +kernel
theorem dX12_parts_80 : decode cX12_parts 80 = .ok (.getfield 113, 3) := by decide +kernel
theorem dX12_parts_83 : decode cX12_parts 83 = .ok (.iload_n 3, 1) := by decide +kernel
theorem dX12_parts_84 : decode cX12_parts 84 = .ok (.iaload, 1) := by decide +kernel
theorem dX12_parts_85 : decode cX12_parts 85 = .ok (.if_icmp .ne 10, 3) := by decide +kernel
theorem dX12_parts_88 : decode cX12_parts 88 = .ok (.iconst (-1), 1) := by decide +kernel
theorem dX12_parts_89 : decode cX12_parts 89 = .ok (.iload 4, 2) := by decide +kernel
theorem dX12_parts_91 : decode cX12_parts 91 = .ok (.isub, 1) := by decide +kernel
theorem dX12_parts_92 : decode cX12_parts 92 = .ok (.goto 5, 3) := by decide +kernel
theorem dX12_parts_95 : decode cX12_parts 95 = .ok (.iload 4, 2) := by decide +kernel
theorem dX12_parts_97 : decode cX12_parts 97 = .ok (.invokevirtual 158, 3) := by decide +kernel
theorem dX12_parts_100 : decode cX12_parts 100 = .ok (.ireturn, 1) := by decide +kernel
theorem dX12_gatherSigns_0 : decode cX12_gatherSigns 0 = .ok (.sipush 256, 3) := by decide +kernel
theorem dX12_gatherSigns_3 : decode cX12_gatherSigns 3 = .ok (.newarray .boolean, 2) := by decide +kernel
theorem dX12_gatherSigns_5 : decode cX12_gatherSigns 5 = .ok (.astore_n 2, 1) := by decide +kernel
theorem dX12_gatherSigns_6 : decode cX12_gatherSigns 6 = .ok (.iconst 0, 1) := by decide +kernel
theorem dX12_gatherSigns_7 : decode cX12_gatherSigns 7 = .ok (.istore_n 3, 1) := by decide +kernel
theorem dX12_gatherSigns_8 : decode cX12_gatherSigns 8 = .ok (.iload_n 3, 1) := by decide +kernel
theorem dX12_gatherSigns_9 : decode cX12_gatherSigns 9 = .ok (.iconst 2, 1) := by decide +kernel
theorem dX12_gatherSigns_10 : decode cX12_gatherSigns 10 = .ok (.if_icmp .ge 110, 3) := by decide +kernel
theorem dX12_gatherSigns_13 : decode cX12_gatherSigns 13 = .ok (.sipush 6008, 3) := by decide +kernel
theorem dX12_gatherSigns_16 : decode cX12_gatherSigns 16 = .ok (.iload_n 3, 1) := by decide +kernel
theorem dX12_gatherSigns_17 : decode cX12_gatherSigns 17 = .ok (.imul, 1) := by decide +kernel
theorem dX12_gatherSigns_18 : decode cX12_gatherSigns 18 = .ok (.istore 4, 2) := by decide +kernel
theorem dX12_gatherSigns_20 : decode cX12_gatherSigns 20 = .ok (.iload 4, 2) := by decide +kernel
theorem dX12_gatherSigns_22 : decode cX12_gatherSigns 22 = .ok (.sipush 6008, 3) := by decide +kernel
theorem dX12_gatherSigns_25 : decode cX12_gatherSigns 25 = .ok (.iload_n 3, 1) := by decide +kernel
theorem dX12_gatherSigns_26 : decode cX12_gatherSigns 26 = .ok (.imul, 1) := by decide +kernel
theorem dX12_gatherSigns_27 : decode cX12_gatherSigns 27 = .ok (.aload_n 0, 1) := by decide +kernel
theorem dX12_gatherSigns_28 : decode cX12_gatherSigns 28 = .ok (.getfield 116, 3) := by decide +kernel
theorem dX12_gatherSigns_31 : decode cX12_gatherSigns 31 = .ok (.iload_n 3, 1) := by decide +kernel
theorem dX12_gatherSigns_32 : decode cX12_gatherSigns 32 = .ok (.iaload, 1) := by decide +kernel
theorem dX12_gatherSigns_33 : decode cX12_gatherSigns 33 = .ok (.iadd, 1) := by decide +kernel
theorem dX12_gatherSigns_34 : decode cX12_gatherSigns 34 = .ok (.if_icmp .ge 80, 3) := by decide +kernel
theorem dX12_gatherSigns_37 : decode cX12_gatherSigns 37 = .ok (.aload_n 0, 1) := by decide +kernel
theorem dX12_gatherSigns_38 : decode cX12_gatherSigns 38 = .ok (.getfield 107, 3) := by decide +kernel
theorem dX12_gatherSigns_41 : decode cX12_gatherSigns 41 = .ok (.iload 4, 2) := by decide +kernel
theorem dX12_gatherSigns_43 : decode cX12_gatherSigns 43 = .ok (.iaload, 1) := by decide +kernel
theorem dX12_gatherSigns_44 : decode cX12_gatherSigns 44 = .ok (.istore 5, 2) := by decide +kernel
theorem dX12_gatherSigns_46 : decode cX12_gatherSigns 46 = .ok (.iconst 0, 1) := by decide +kernel
theorem dX12_gatherSigns_47 : decode cX12_gatherSigns 47 = .ok (.istore 6, 2) := by decide +kernel
theorem dX12_gatherSigns_49 : decode cX12_gatherSigns 49 = .ok (.iload 5, 2) := by decide +kernel
theorem dX12_gatherSigns_51 : decode cX12_gatherSigns 51 = .ok (.ifCond .lt 57, 3) := by decide +kernel
theorem dX12_gatherSigns_54 : decode cX12_gatherSigns 54 = .ok (.iload 6, 2) := by decide +kernel
theorem dX12_gatherSigns_56 : decode cX12_gatherSigns 56 = .ok (.aload_n 0, 1) := by decide +kernel
theorem dX12_gatherSigns_57 : decode cX12_gatherSigns 57 = .ok (.getfield 39, 3) := by decide +kernel
theorem dX12_gatherSigns_60 : decode cX12_gatherSigns 60 = .ok (.iload 5, 2) := by decide +kernel
theorem dX12_gatherSigns_62 : decode cX12_gatherSigns 62 = .ok (.iaload, 1) := by decide +kernel
theorem dX12_gatherSigns_63 : decode cX12_gatherSigns 63 = .ok (.if_icmp .ge 45, 3) := by decide +kernel
theorem dX12_gatherSigns_66 : decode cX12_gatherSigns 66 = .ok (.aload_n 0, 1) := by decide +kernel
theorem dX12_gatherSigns_67 : decode cX12_gatherSigns 67 = .ok (.getfield 46, 3) := by decide +kernel
theorem dX12_gatherSigns_70 : decode cX12_gatherSigns 70 = .ok (.bipush 8, 2) := by decide +kernel
theorem dX12_gatherSigns_72 : decode cX12_gatherSigns 72 = .ok (.iload 5, 2) := by decide +kernel
theorem dX12_gatherSigns_74 : decode cX12_gatherSigns 74 = .ok (.imul, 1) := by decide +kernel
theorem dX12_gatherSigns_75 : decode cX12_gatherSigns 75 = .ok (.iload 6, 2) := by decide +kernel
theorem dX12_gatherSigns_77 : decode cX12_gatherSigns 77 = .ok (.iadd, 1) := by decide +kernel
theorem dX12_gatherSigns_78 : decode cX12_gatherSigns 78 = .ok (.iaload, 1) := by decide +kernel
theorem dX12_gatherSigns_79 : decode cX12_gatherSigns 79 = .ok (.istore 7, 2) := by decide +kernel
theorem dX12_gatherSigns_81 : decode cX12_gatherSigns 81 = .ok (.aload_n 2, 1) := by decide +kernel
theorem dX12_gatherSigns_82 : decode cX12_gatherSigns 82 = .ok (.iload 7, 2) := by decide +kernel
theorem dX12_gatherSigns_84 : decode cX12_gatherSigns 84 = .ok (.iconst 1, 1) := by decide +kernel
theorem dX12_gatherSigns_85 : decode cX12_gatherSigns 85 = .ok (.bastore, 1) := by decide +kernel
theorem dX12_gatherSigns_86 : decode cX12_gatherSigns 86 = .ok (.iload 7, 2) := by decide +kernel
theorem dX12_gatherSigns_88 : decode cX12_gatherSigns 88 = .ok (.invokestatic 208, 3) := by decide +kernel
theorem dX12_gatherSigns_91 : decode cX12_gatherSigns 91 = .ok (.ifCond .eq 11, 3) := by decide +kernel
theorem dX12_gatherSigns_94 : decode cX12_gatherSigns 94 = .ok (.aload_n 2, 1) := by decide +kernel
theorem dX12_gatherSigns_95 : decode cX12_gatherSigns 95 = .ok (.iload 7, 2) := by decide +kernel
theorem dX12_gatherSigns_97 : decode cX12_gatherSigns 97 = .ok (.bipush 32, 2) := by decide +kernel
theorem dX12_gatherSigns_99 : decode cX12_gatherSigns 99 = .ok (.isub, 1) := by decide +kernel
theorem dX12_gatherSigns_100 : decode cX12_gatherSigns 100 = .ok (.iconst 1, 1) := by decide +kernel
theorem dX12_gatherSigns_101 : decode cX12_gatherSigns 101 = .ok (.bastore, 1) := by decide +kernel
theorem dX12_gatherSigns_102 : decode cX12_gatherSigns 102 = .ok (.iinc 6 1, 3) := by decide +kernel
theorem dX12_gatherSigns_105 : decode cX12_gatherSigns 105 = .ok (.goto (-56), 3) := by decide +kernel
theorem dX12_gatherSigns_108 : decode cX12_gatherSigns 108 = .ok (.iinc 4 1, 3) := by decide +kernel
theorem dX12_gatherSigns_111 : decode cX12_gatherSigns 111 = .ok (.goto (-91), 3) := by decide +kernel
theorem dX12_gatherSigns_114 : decode cX12_gatherSigns 114 = .ok (.iinc 3 1, 3) := by decide +kernel
theorem dX12_gatherSigns_117 : decode cX12_gatherSigns 117 = .ok (.goto (-109), 3) := by decide +kernel
theorem dX12_gatherSigns_120 : decode cX12_gatherSigns 120 = .ok (.aload_n 0, 1) := by decide +kernel
theorem dX12_gatherSigns_121 : decode cX12_gatherSigns 121 = .ok (.getfield 21, 3) := by decide +kernel
theorem dX12_gatherSigns_124 : decode cX12_gatherSigns 124 = .ok (.iload_n 1, 1) := by decide +kernel
theorem dX12_gatherSigns_125 : decode cX12_gatherSigns 125 = .ok (.iaload, 1) := by decide +kernel
theorem dX12_gatherSigns_126 : decode cX12_gatherSigns 126 = .ok (.iconst 5, 1) := by decide +kernel
theorem dX12_gatherSigns_127 : decode cX12_gatherSigns 127 = .ok (.if_icmp .ne 13, 3) := by decide +kernel
theorem dX12_gatherSigns_130 : decode cX12_gatherSigns 130 = .ok (.aload_n 2, 1) := by decide +kernel
theorem dX12_gatherSigns_131 : decode cX12_gatherSigns 131 = .ok (.bipush 60, 2) := by decide +kernel
theorem dX12_gatherSigns_133 : decode cX12_gatherSigns 133 = .ok (.iconst 1, 1) := by decide +kernel
theorem dX12_gatherSigns_134 : decode cX12_gatherSigns 134 = .ok (.bastore, 1) := by decide +kernel
theorem dX12_gatherSigns_135 : decode cX12_gatherSigns 135 = .ok (.aload_n 2, 1) := by decide +kernel
theorem dX12_gatherSigns_136 : decode cX12_gatherSigns 136 = .ok (.bipush 62, 2) := by decide +kernel
theorem dX12_gatherSigns_138 : decode cX12_gatherSigns 138 = .ok (.iconst 1, 1) := by decide +kernel
theorem dX12_gatherSigns_139 : decode cX12_gatherSigns 139 = .ok (.bastore, 1) := by decide +kernel
theorem dX12_gatherSigns_140 : decode cX12_gatherSigns 140 = .ok (.aload_n 0, 1) := by decide +kernel
theorem dX12_gatherSigns_141 : decode cX12_gatherSigns 141 = .ok (.iconst 0, 1) := by decide +kernel
theorem dX12_gatherSigns_142 : decode cX12_gatherSigns 142 = .ok (.putfield 413, 3) := by decide +kernel
theorem dX12_gatherSigns_145 : decode cX12_gatherSigns 145 = .ok (.iconst 0, 1) := by decide +kernel
theorem dX12_gatherSigns_146 : decode cX12_gatherSigns 146 = .ok (.istore_n 3, 1) := by decide +kernel
theorem dX12_gatherSigns_147 : decode cX12_gatherSigns 147 = .ok (.iload_n 3, 1) := by decide +kernel
theorem dX12_gatherSigns_148 : decode cX12_gatherSigns 148 = .ok (.sipush 256, 3) := by decide +kernel
theorem dX12_gatherSigns_151 : decode cX12_gatherSigns 151 = .ok (.if_icmp .ge 38, 3) := by decide +kernel
theorem dX12_gatherSigns_154 : decode cX12_gatherSigns 154 = .ok (.aload_n 2, 1) := by decide +kernel
theorem dX12_gatherSigns_155 : decode cX12_gatherSigns 155 = .ok (.iload_n 3, 1) := by decide +kernel
theorem dX12_gatherSigns_156 : decode cX12_gatherSigns 156 = .ok (.baload, 1) := by decide +kernel
theorem dX12_gatherSigns_157 : decode cX12_gatherSigns 157 = .ok (.ifCond .ne 6, 3) := by decide +kernel
theorem dX12_gatherSigns_160 : decode cX12_gatherSigns 160 = .ok (.goto 23, 3) := by decide +kernel
theorem dX12_gatherSigns_163 : decode cX12_gatherSigns 163 = .ok (.aload_n 0, 1) := by decide +kernel
theorem dX12_gatherSigns_164 : decode cX12_gatherSigns 164 = .ok (.getfield 145, 3) := by decide +kernel
theorem dX12_gatherSigns_167 : decode cX12_gatherSigns 167 = .ok (.aload_n 0, 1) := by decide +kernel
theorem dX12_gatherSigns_168 : decode cX12_gatherSigns 168 = .ok (.getfield 413, 3) := by decide +kernel
theorem dX12_gatherSigns_171 : decode cX12_gatherSigns 171 = .ok (.iload_n 3, 1) := by decide +kernel
theorem dX12_gatherSigns_172 : decode cX12_gatherSigns 172 = .ok (.iastore, 1) := by decide +kernel
theorem dX12_gatherSigns_173 : decode cX12_gatherSigns 173 = .ok (.aload_n 0, 1) := by decide +kernel
theorem dX12_gatherSigns_174 : decode cX12_gatherSigns 174 = .ok (.dup, 1) := by decide +kernel
theorem dX12_gatherSigns_175 : decode cX12_gatherSigns 175 = .ok (.getfield 413, 3) := by decide +kernel
theorem dX12_gatherSigns_178 : decode cX12_gatherSigns 178 = .ok (.iconst 1, 1) := by decide +kernel
theorem dX12_gatherSigns_179 : decode cX12_gatherSigns 179 = .ok (.iadd, 1) := by decide +kernel
theorem dX12_gatherSigns_180 : decode cX12_gatherSigns 180 = .ok (.putfield 413, 3) := by decide +kernel
theorem dX12_gatherSigns_183 : decode cX12_gatherSigns 183 = .ok (.iinc 3 1, 3) := by decide +kernel
theorem dX12_gatherSigns_186 : decode cX12_gatherSigns 186 = .ok (.goto (-39), 3) := by decide +kernel
theorem dX12_gatherSigns_189 : decode cX12_gatherSigns 189 = .ok (.return_, 1) := by decide +kernel
theorem dX12_isUnreadable_0 : decode cX12_isUnreadable 0 = .ok (.aload_n 0, 1) := by decide +kernel
theorem dX12_isUnreadable_1 : decode cX12_isUnreadable 1 = .ok (.iload_n 1, 1) := by decide +kernel
theorem dX12_isUnreadable_2 : decode cX12_isUnreadable 2 = .ok (.invokevirtual 267, 3) := by decide +kernel
theorem dX12_isUnreadable_5 : decode cX12_isUnreadable 5 = .ok (.ifCond .ne 5, 3) := by decide +kernel
theorem dX12_isUnreadable_8 : decode cX12_isUnreadable 8 = .ok (.iconst 0, 1) := by decide +kernel
theorem dX12_isUnreadable_9 : decode cX12_isUnreadable 9 = .ok (.ireturn, 1) := by decide +kernel
theorem dX12_isUnreadable_10 : decode cX12_isUnreadable 10 = .ok (.aload_n 0, 1) := by decide +kernel
theorem dX12_isUnreadable_11 : decode cX12_isUnreadable 11 = .ok (.iconst 0, 1) := by decide +kernel
theorem dX12_isUnreadable_12 : decode cX12_isUnreadable 12 = .ok (.putfield 333, 3) := by decide +kernel
theorem dX12_isUnreadable_15 : decode cX12_isUnreadable 15 = .ok (.iconst 0, 1) := by decide +kernel
theorem dX12_isUnreadable_16 : decode cX12_isUnreadable 16 = .ok (.istore_n 2, 1) := by decide +kernel
theorem dX12_isUnreadable_17 : decode cX12_isUnreadable 17 = .ok (.iload_n 2, 1) := by decide +kernel
theorem dX12_isUnreadable_18 : decode cX12_isUnreadable 18 = .ok (.aload_n 0, 1) := by decide +kernel
theorem dX12_isUnreadable_19 : decode cX12_isUnreadable 19 = .ok (.getfield 224, 3) := by decide +kernel
theorem dX12_isUnreadable_22 : decode cX12_isUnreadable 22 = .ok (.if_icmp .ge 20, 3) := by decide +kernel
theorem dX12_isUnreadable_25 : decode cX12_isUnreadable 25 = .ok (.aload_n 0, 1) := by decide +kernel
theorem dX12_isUnreadable_26 : decode cX12_isUnreadable 26 = .ok (.aload_n 0, 1) := by decide +kernel
theorem dX12_isUnreadable_27 : decode cX12_isUnreadable 27 = .ok (.getfield 70, 3) := by decide +kernel
theorem dX12_isUnreadable_30 : decode cX12_isUnreadable 30 = .ok (.iload_n 2, 1) := by decide +kernel
theorem dX12_isUnreadable_31 : decode cX12_isUnreadable 31 = .ok (.iaload, 1) := by decide +kernel
theorem dX12_isUnreadable_32 : decode cX12_isUnreadable 32 = .ok (.iconst 0, 1) := by decide +kernel
theorem dX12_isUnreadable_33 : decode cX12_isUnreadable 33 = .ok (.invokevirtual 351, 3) := by decide +kernel
theorem dX12_isUnreadable_36 : decode cX12_isUnreadable 36 = .ok (.iinc 2 1, 3) := by decide +kernel
theorem dX12_isUnreadable_39 : decode cX12_isUnreadable 39 = .ok (.goto (-22), 3) := by decide +kernel
theorem dX12_isUnreadable_42 : decode cX12_isUnreadable 42 = .ok (.aload_n 0, 1) := by decide +kernel
theorem dX12_isUnreadable_43 : decode cX12_isUnreadable 43 = .ok (.invokevirtual 357, 3) := by decide +kernel
theorem dX12_isUnreadable_46 : decode cX12_isUnreadable 46 = .ok (.ifCond .ne 14, 3) := by decide +kernel
theorem dX12_isUnreadable_49 : decode cX12_isUnreadable 49 = .ok (.aload_n 0, 1) := by decide +kernel
theorem dX12_isUnreadable_50 : decode cX12_isUnreadable 50 = .ok (.getfield 330, 3) := by decide +kernel
theorem dX12_isUnreadable_53 : decode cX12_isUnreadable 53 = .ok (.aload_n 0, 1) := by decide +kernel
theorem dX12_isUnreadable_54 : decode cX12_isUnreadable 54 = .ok (.getfield 234, 3) := by decide +kernel
theorem dX12_isUnreadable_57 : decode cX12_isUnreadable 57 = .ok (.if_icmp .eq 5, 3) := by decide +kernel
theorem dX12_isUnreadable_60 : decode cX12_isUnreadable 60 = .ok (.iconst 1, 1) := by decide +kernel
theorem dX12_isUnreadable_61 : decode cX12_isUnreadable 61 = .ok (.ireturn, 1) := by decide +kernel
theorem dX12_isUnreadable_62 : decode cX12_isUnreadable 62 = .ok (.iconst 0, 1) := by decide +kernel
theorem dX12_isUnreadable_63 : decode cX12_isUnreadable 63 = .ok (.istore_n 2, 1) := by decide +kernel
theorem dX12_isUnreadable_64 : decode cX12_isUnreadable 64 = .ok (.iload_n 2, 1) := by decide +kernel
theorem dX12_isUnreadable_65 : decode cX12_isUnreadable 65 = .ok (.aload_n 0, 1) := by decide +kernel
theorem dX12_isUnreadable_66 : decode cX12_isUnreadable 66 = .ok (.getfield 330, 3) := by decide +kernel
theorem dX12_isUnreadable_69 : decode cX12_isUnreadable 69 = .ok (.if_icmp .ge 26, 3) := by decide +kernel
theorem dX12_isUnreadable_72 : decode cX12_isUnreadable 72 = .ok (.aload_n 0, 1) := by decide +kernel
theorem dX12_isUnreadable_73 : decode cX12_isUnreadable 73 = .ok (.getfield 126, 3) := by decide +kernel
theorem dX12_isUnreadable_76 : decode cX12_isUnreadable 76 = .ok (.iload_n 2, 1) := by decide +kernel
theorem dX12_isUnreadable_77 : decode cX12_isUnreadable 77 = .ok (.iaload, 1) := by decide +kernel
theorem dX12_isUnreadable_78 : decode cX12_isUnreadable 78 = .ok (.aload_n 0, 1) := by decide +kernel
theorem dX12_isUnreadable_79 : decode cX12_isUnreadable 79 = .ok (.getfield 61, 3) := by decide +kernel
theorem dX12_isUnreadable_82 : decode cX12_isUnreadable 82 = .ok (.iload_n 2, 1) := by decide +kernel
theorem dX12_isUnreadable_83 : decode cX12_isUnreadable 83 = .ok (.iaload, 1) := by decide +kernel
theorem dX12_isUnreadable_84 : decode cX12_isUnreadable 84 = .ok (.if_icmp .eq 5, 3) := by decide +kernel
theorem dX12_isUnreadable_87 : decode cX12_isUnreadable 87 = .ok (.iconst 1, 1) := by decide +kernel
theorem dX12_isUnreadable_88 : decode cX12_isUnreadable 88 = .ok (.ireturn, 1) := by decide +kernel
theorem dX12_isUnreadable_89 : decode cX12_isUnreadable 89 = .ok (.iinc 2 1, 3) := by decide +kernel
theorem dX12_isUnreadable_92 : decode cX12_isUnreadable 92 = .ok (.goto (-28), 3) := by decide +kernel
theorem dX12_isUnreadable_95 : decode cX12_isUnreadable 95 = .ok (.iconst 0, 1) := by decide +kernel
theorem dX12_isUnreadable_96 : decode cX12_isUnreadable 96 = .ok (.ireturn, 1) := by decide +kernel
theorem dX12_unreadable_0 : decode cX12_unreadable 0 = .ok (.iload_n 2, 1) := by decide +kernel
theorem dX12_unreadable_1 : decode cX12_unreadable 1 = .ok (.iconst 1, 1) := by decide +kernel
theorem dX12_unreadable_2 : decode cX12_unreadable 2 = .ok (.bipush 6, 2) := by decide +kernel
theorem dX12_unreadable_4 : decode cX12_unreadable 4 = .ok (.invokestatic 174, 3) := by decide +kernel
theorem dX12_unreadable_7 : decode cX12_unreadable 7 = .ok (.ifCond .eq 14, 3) := by decide +kernel
theorem dX12_unreadable_10 : decode cX12_unreadable 10 = .ok (.iload_n 3, 1) := by decide +kernel
theorem dX12_unreadable_11 : decode cX12_unreadable 11 = .ok (.iconst 1, 1) := by decide +kernel
theorem dX12_unreadable_12 : decode cX12_unreadable 12 = .ok (.sipush 5000, 3) := by decide +kernel
theorem dX12_unreadable_15 : decode cX12_unreadable 15 = .ok (.invokestatic 174, 3) := by decide +kernel
theorem dX12_unreadable_18 : decode cX12_unreadable 18 = .ok (.ifCond .ne 10, 3) := by decide +kernel
theorem dX12_unreadable_21 : decode cX12_unreadable 21 = .ok (.aload_n 0, 1) := by decide +kernel
theorem dX12_unreadable_22 : decode cX12_unreadable 22 = .ok (.bipush 6, 2) := by decide +kernel
theorem dX12_unreadable_24 : decode cX12_unreadable 24 = .ok (.invokevirtual 154, 3) := by decide +kernel
theorem dX12_unreadable_27 : decode cX12_unreadable 27 = .ok (.ireturn, 1) := by decide +kernel
theorem dX12_unreadable_28 : decode cX12_unreadable 28 = .ok (.aload_n 0, 1) := by decide +kernel
theorem dX12_unreadable_29 : decode cX12_unreadable 29 = .ok (.iload_n 1, 1) := by decide +kernel
theorem dX12_unreadable_30 : decode cX12_unreadable 30 = .ok (.invokevirtual 171, 3) := by decide +kernel
theorem dX12_unreadable_33 : decode cX12_unreadable 33 = .ok (.ifCond .ne 9, 3) := by decide +kernel
theorem dX12_unreadable_36 : decode cX12_unreadable 36 = .ok (.aload_n 0, 1) := by decide +kernel
theorem dX12_unreadable_37 : decode cX12_unreadable 37 = .ok (.iconst 3, 1) := by decide +kernel
theorem dX12_unreadable_38 : decode cX12_unreadable 38 = .ok (.invokevirtual 154, 3) := by decide +kernel
theorem dX12_unreadable_41 : decode cX12_unreadable 41 = .ok (.ireturn, 1) := by decide +kernel
theorem dX12_unreadable_42 : decode cX12_unreadable 42 = .ok (.aload_n 0, 1) := by decide +kernel
theorem dX12_unreadable_43 : decode cX12_unreadable 43 = .ok (.iload_n 1, 1) := by decide +kernel
theorem dX12_unreadable_44 : decode cX12_unreadable 44 = .ok (.invokevirtual 354, 3) := by decide +kernel
theorem dX12_unreadable_47 : decode cX12_unreadable 47 = .ok (.aload_n 0, 1) := by decide +kernel
theorem dX12_unreadable_48 : decode cX12_unreadable 48 = .ok (.iload_n 1, 1) := by decide +kernel
theorem dX12_unreadable_49 : decode cX12_unreadable 49 = .ok (.invokevirtual 416, 3) := by decide +kernel
theorem dX12_unreadable_52 : decode cX12_unreadable 52 = .ok (.aload_n 0, 1) := by decide +kernel
theorem dX12_unreadable_53 : decode cX12_unreadable 53 = .ok (.aload_n 0, 1) := by decide +kernel
theorem dX12_unreadable_54 : decode cX12_unreadable 54 = .ok (.getfield 330, 3) := by decide +kernel
theorem dX12_unreadable_57 : decode cX12_unreadable 57 = .ok (.putfield 419, 3) := by decide +kernel
theorem dX12_unreadable_60 : decode cX12_unreadable 60 = .ok (.iconst 0, 1) := by decide +kernel
theorem dX12_unreadable_61 : decode cX12_unreadable 61 = .ok (.istore 4, 2) := by decide +kernel
theorem dX12_unreadable_63 : decode cX12_unreadable 63 = .ok (.iload 4, 2) := by decide +kernel
theorem dX12_unreadable_65 : decode cX12_unreadable 65 = .ok (.aload_n 0, 1) := by decide +kernel
theorem dX12_unreadable_66 : decode cX12_unreadable 66 = .ok (.getfield 330, 3) := by decide +kernel
theorem dX12_unreadable_69 : decode cX12_unreadable 69 = .ok (.if_icmp .ge 23, 3) := by decide +kernel
theorem dX12_unreadable_72 : decode cX12_unreadable 72 = .ok (.aload_n 0, 1) := by decide +kernel
theorem dX12_unreadable_73 : decode cX12_unreadable 73 = .ok (.getfield 129, 3) := by decide +kernel
theorem dX12_unreadable_76 : decode cX12_unreadable 76 = .ok (.iload 4, 2) := by decide +kernel
theorem dX12_unreadable_78 : decode cX12_unreadable 78 = .ok (.aload_n 0, 1) := by decide +kernel
theorem dX12_unreadable_79 : decode cX12_unreadable 79 = .ok (.getfield 126, 3) := by decide +kernel
theorem dX12_unreadable_82 : decode cX12_unreadable 82 = .ok (.iload 4, 2) := by decide +kernel
theorem dX12_unreadable_84 : decode cX12_unreadable 84 = .ok (.iaload, 1) := by decide +kernel
theorem dX12_unreadable_85 : decode cX12_unreadable 85 = .ok (.iastore, 1) := by decide +kernel
theorem dX12_unreadable_86 : decode cX12_unreadable 86 = .ok (.iinc 4 1, 3) := by decide +kernel
theorem dX12_unreadable_89 : decode cX12_unreadable 89 = .ok (.goto (-26), 3) := by decide +kernel
theorem dX12_unreadable_92 : decode cX12_unreadable 92 = .ok (.iconst 0, 1) := by decide +kernel
theorem dX12_unreadable_93 : decode cX12_unreadable 93 = .ok (.istore 4, 2) := by decide +kernel
theorem dX12_unreadable_95 : decode cX12_unreadable 95 = .ok (.bipush 6, 2) := by decide +kernel
theorem dX12_unreadable_97 : decode cX12_unreadable 97 = .ok (.newarray .int, 2) := by decide +kernel
theorem dX12_unreadable_99 : decode cX12_unreadable 99 = .ok (.astore 5, 2) := by decide +kernel
theorem dX12_unreadable_101 : decode cX12_unreadable 101 = .ok (.iconst 1, 1) := by decide +kernel
theorem dX12_unreadable_102 : decode cX12_unreadable 102 = .ok (.istore 6, 2) := by decide +kernel
theorem dX12_unreadable_104 : decode cX12_unreadable 104 = .ok (.iload 6, 2) := by decide +kernel
theorem dX12_unreadable_106 : decode cX12_unreadable 106 = .ok (.iload_n 2, 1) := by decide +kernel
theorem dX12_unreadable_107 : decode cX12_unreadable 107 = .ok (.if_icmp .gt 222, 3) := by decide +kernel
theorem dX12_unreadable_110 : decode cX12_unreadable 110 = .ok (.aload_n 0, 1) := by decide +kernel
theorem dX12_unreadable_111 : decode cX12_unreadable 111 = .ok (.getfield 413, 3) := by decide +kernel
theorem dX12_unreadable_114 : decode cX12_unreadable 114 = .ok (.ifCond .le 215, 3) := by decide +kernel
theorem dX12_unreadable_117 : decode cX12_unreadable 117 = .ok (.iconst 0, 1) := by decide +kernel
theorem dX12_unreadable_118 : decode cX12_unreadable 118 = .ok (.istore 7, 2) := by decide +kernel
theorem dX12_unreadable_120 : decode cX12_unreadable 120 = .ok (.iload 7, 2) := by decide +kernel
theorem dX12_unreadable_122 : decode cX12_unreadable 122 = .ok (.iload 6, 2) := by decide +kernel
theorem dX12_unreadable_124 : decode cX12_unreadable 124 = .ok (.if_icmp .ge 15, 3) := by decide +kernel
theorem dX12_unreadable_127 : decode cX12_unreadable 127 = .ok (.aload 5, 2) := by decide +kernel
theorem dX12_unreadable_129 : decode cX12_unreadable 129 = .ok (.iload 7, 2) := by decide +kernel
theorem dX12_unreadable_131 : decode cX12_unreadable 131 = .ok (.iconst 0, 1) := by decide +kernel
theorem dX12_unreadable_132 : decode cX12_unreadable 132 = .ok (.iastore, 1) := by decide +kernel
theorem dX12_unreadable_133 : decode cX12_unreadable 133 = .ok (.iinc 7 1, 3) := by decide +kernel
theorem dX12_unreadable_136 : decode cX12_unreadable 136 = .ok (.goto (-16), 3) := by decide +kernel
theorem dX12_unreadable_139 : decode cX12_unreadable 139 = .ok (.iconst 1, 1) := by decide +kernel
theorem dX12_unreadable_140 : decode cX12_unreadable 140 = .ok (.istore 7, 2) := by decide +kernel
theorem dX12_unreadable_142 : decode cX12_unreadable 142 = .ok (.iload 7, 2) := by decide +kernel
theorem dX12_unreadable_144 : decode cX12_unreadable 144 = .ok (.ifCond .eq 179, 3) := by decide +kernel
theorem dX12_unreadable_147 : decode cX12_unreadable 147 = .ok (.iload 4, 2) := by decide +kernel
theorem dX12_unreadable_149 : decode cX12_unreadable 149 = .ok (.iload_n 3, 1) := by decide +kernel
theorem dX12_unreadable_150 : decode cX12_unreadable 150 = .ok (.if_icmp .ne 14, 3) := by decide +kernel
theorem dX12_unreadable_153 : decode cX12_unreadable 153 = .ok (.aload_n 0, 1) := by decide +kernel
theorem dX12_unreadable_154 : decode cX12_unreadable 154 = .ok (.invokevirtual 422, 3) := by decide +kernel
theorem dX12_unreadable_157 : decode cX12_unreadable 157 = .ok (.aload_n 0, 1) := by decide +kernel
theorem dX12_unreadable_158 : decode cX12_unreadable 158 = .ok (.bipush 8, 2) := by decide +kernel
theorem dX12_unreadable_160 : decode cX12_unreadable 160 = .ok (.invokevirtual 154, 3) := by decide +kernel
theorem dX12_unreadable_163 : decode cX12_unreadable 163 = .ok (.ireturn, 1) := by decide +kernel
theorem dX12_unreadable_164 : decode cX12_unreadable 164 = .ok (.iinc 4 1, 3) := by decide +kernel
theorem dX12_unreadable_167 : decode cX12_unreadable 167 = .ok (.aload_n 0, 1) := by decide +kernel
theorem dX12_unreadable_168 : decode cX12_unreadable 168 = .ok (.iload 6, 2) := by decide +kernel
theorem dX12_unreadable_170 : decode cX12_unreadable 170 = .ok (.putfield 234, 3) := by decide +kernel
theorem dX12_unreadable_173 : decode cX12_unreadable 173 = .ok (.iconst 0, 1) := by decide +kernel
theorem dX12_unreadable_174 : decode cX12_unreadable 174 = .ok (.istore 8, 2) := by decide +kernel
theorem dX12_unreadable_176 : decode cX12_unreadable 176 = .ok (.iload 8, 2) := by decide +kernel
theorem dX12_unreadable_178 : decode cX12_unreadable 178 = .ok (.iload 6, 2) := by decide +kernel
theorem dX12_unreadable_180 : decode cX12_unreadable 180 = .ok (.if_icmp .ge 26, 3) := by decide +kernel
theorem dX12_unreadable_183 : decode cX12_unreadable 183 = .ok (.aload_n 0, 1) := by decide +kernel
theorem dX12_unreadable_184 : decode cX12_unreadable 184 = .ok (.getfield 61, 3) := by decide +kernel
theorem dX12_unreadable_187 : decode cX12_unreadable 187 = .ok (.iload 8, 2) := by decide +kernel
theorem dX12_unreadable_189 : decode cX12_unreadable 189 = .ok (.aload_n 0, 1) := by decide +kernel
theorem dX12_unreadable_190 : decode cX12_unreadable 190 = .ok (.getfield 145, 3) := by decide +kernel
theorem dX12_unreadable_193 : decode cX12_unreadable 193 = .ok (.aload 5, 2) := by decide +kernel
theorem dX12_unreadable_195 : decode cX12_unreadable 195 = .ok (.iload 8, 2) := by decide +kernel
theorem dX12_unreadable_197 : decode cX12_unreadable 197 = .ok (.iaload, 1) := by decide +kernel
theorem dX12_unreadable_198 : decode cX12_unreadable 198 = .ok (.iaload, 1) := by decide +kernel
theorem dX12_unreadable_199 : decode cX12_unreadable 199 = .ok (.iastore, 1) := by decide +kernel
theorem dX12_unreadable_200 : decode cX12_unreadable 200 = .ok (.iinc 8 1, 3) := by decide +kernel
theorem dX12_unreadable_203 : decode cX12_unreadable 203 = .ok (.goto (-27), 3) := by decide +kernel
theorem dX12_unreadable_206 : decode cX12_unreadable 206 = .ok (.aload_n 0, 1) := by decide +kernel
theorem dX12_unreadable_207 : decode cX12_unreadable 207 = .ok (.iload_n 1, 1) := by decide +kernel
theorem dX12_unreadable_208 : decode cX12_unreadable 208 = .ok (.invokevirtual 425, 3) := by decide +kernel
theorem dX12_unreadable_211 : decode cX12_unreadable 211 = .ok (.ifCond .eq 46, 3) := by decide +kernel
theorem dX12_unreadable_214 : decode cX12_unreadable 214 = .ok (.aload_n 0, 1) := by decide +kernel
theorem dX12_unreadable_215 : decode cX12_unreadable 215 = .ok (.iload 6, 2) := by decide +kernel
theorem dX12_unreadable_217 : decode cX12_unreadable 217 = .ok (.putfield 330, 3) := by decide +kernel
theorem dX12_unreadable_220 : decode cX12_unreadable 220 = .ok (.iconst 0, 1) := by decide +kernel
theorem dX12_unreadable_221 : decode cX12_unreadable 221 = .ok (.istore 8, 2) := by decide +kernel
theorem dX12_unreadable_223 : decode cX12_unreadable 223 = .ok (.iload 8, 2) := by decide +kernel
theorem dX12_unreadable_225 : decode cX12_unreadable 225 = .ok (.iload 6, 2) := by decide +kernel
theorem dX12_unreadable_227 : decode cX12_unreadable 227 = .ok (.if_icmp .ge 23, 3) := by decide +kernel
theorem dX12_unreadable_230 : decode cX12_unreadable 230 = .ok (.aload_n 0, 1) := by decide +kernel
theorem dX12_unreadable_231 : decode cX12_unreadable 231 = .ok (.getfield 126, 3) := by decide +kernel
theorem dX12_unreadable_234 : decode cX12_unreadable 234 = .ok (.iload 8, 2) := by decide +kernel
theorem dX12_unreadable_236 : decode cX12_unreadable 236 = .ok (.aload_n 0, 1) := by decide +kernel
theorem dX12_unreadable_237 : decode cX12_unreadable 237 = .ok (.getfield 61, 3) := by decide +kernel
theorem dX12_unreadable_240 : decode cX12_unreadable 240 = .ok (.iload 8, 2) := by decide +kernel
theorem dX12_unreadable_242 : decode cX12_unreadable 242 = .ok (.iaload, 1) := by decide +kernel
theorem dX12_unreadable_243 : decode cX12_unreadable 243 = .ok (.iastore, 1) := by decide +kernel
theorem dX12_unreadable_244 : decode cX12_unreadable 244 = .ok (.iinc 8 1, 3) := by decide +kernel
theorem dX12_unreadable_247 : decode cX12_unreadable 247 = .ok (.goto (-24), 3) := by decide +kernel
theorem dX12_unreadable_250 : decode cX12_unreadable 250 = .ok (.aload_n 0, 1) := by decide +kernel
theorem dX12_unreadable_251 : decode cX12_unreadable 251 = .ok (.iload 6, 2) := by decide +kernel
theorem dX12_unreadable_253 : decode cX12_unreadable 253 = .ok (.invokevirtual 158, 3) := by decide +kernel
theorem dX12_unreadable_256 : decode cX12_unreadable 256 = .ok (.ireturn, 1) := by decide +kernel
theorem dX12_unreadable_257 : decode cX12_unreadable 257 = .ok (.iload 6, 2) := by decide +kernel
theorem dX12_unreadable_259 : decode cX12_unreadable 259 = .ok (.iconst 1, 1) := by decide +kernel
theorem dX12_unreadable_260 : decode cX12_unreadable 260 = .ok (.isub, 1) := by decide +kernel
theorem dX12_unreadable_261 : decode cX12_unreadable 261 = .ok (.istore 8, 2) := by decide +kernel
theorem dX12_unreadable_263 : decode cX12_unreadable 263 = .ok (.iload 8, 2) := by decide +kernel
theorem dX12_unreadable_265 : decode cX12_unreadable 265 = .ok (.ifCond .lt 29, 3) := by decide +kernel
theorem dX12_unreadable_268 : decode cX12_unreadable 268 = .ok (.aload 5, 2) := by decide +kernel
theorem dX12_unreadable_270 : decode cX12_unreadable 270 = .ok (.iload 8, 2) := by decide +kernel
theorem dX12_unreadable_272 : decode cX12_unreadable 272 = .ok (.iaload, 1) := by decide +kernel
theorem dX12_unreadable_273 : decode cX12_unreadable 273 = .ok (.aload_n 0, 1) := by decide +kernel
theorem dX12_unreadable_274 : decode cX12_unreadable 274 = .ok (.getfield 413, 3) := by decide +kernel
theorem dX12_unreadable_277 : decode cX12_unreadable 277 = .ok (.iconst 1, 1) := by decide +kernel
theorem dX12_unreadable_278 : decode cX12_unreadable 278 = .ok (.isub, 1) := by decide +kernel
theorem dX12_unreadable_279 : decode cX12_unreadable 279 = .ok (.if_icmp .ne 15, 3) := by decide +kernel
theorem dX12_unreadable_282 : decode cX12_unreadable 282 = .ok (.aload 5, 2) := by decide +kernel
theorem dX12_unreadable_284 : decode cX12_unreadable 284 = .ok (.iload 8, 2) := by decide +kernel
theorem dX12_unreadable_286 : decode cX12_unreadable 286 = .ok (.iconst 0, 1) := by decide +kernel
theorem dX12_unreadable_287 : decode cX12_unreadable 287 = .ok (.iastore, 1) := by decide +kernel
theorem dX12_unreadable_288 : decode cX12_unreadable 288 = .ok (.iinc 8 (-1), 3) := by decide +kernel
theorem dX12_unreadable_291 : decode cX12_unreadable 291 = .ok (.goto (-28), 3) := by decide +kernel
theorem dX12_unreadable_294 : decode cX12_unreadable 294 = .ok (.iload 8, 2) := by decide +kernel
theorem dX12_unreadable_296 : decode cX12_unreadable 296 = .ok (.ifCond .lt 7, 3) := by decide +kernel
theorem dX12_unreadable_299 : decode cX12_unreadable 299 = .ok (.iconst 1, 1) := by decide +kernel
theorem dX12_unreadable_300 : decode cX12_unreadable 300 = .ok (.goto 4, 3) := by decide +kernel
theorem dX12_unreadable_303 : decode cX12_unreadable 303 = .ok (.iconst 0, 1) := by decide +kernel
theorem dX12_unreadable_304 : decode cX12_unreadable 304 = .ok (.istore 7, 2) := by decide +kernel
theorem dX12_unreadable_306 : decode cX12_unreadable 306 = .ok (.iload 7, 2) := by decide +kernel
theorem dX12_unreadable_308 : decode cX12_unreadable 308 = .ok (.ifCond .eq 12, 3) := by decide +kernel
theorem dX12_unreadable_311 : decode cX12_unreadable 311 = .ok (.aload 5, 2) := by decide +kernel
theorem dX12_unreadable_313 : decode cX12_unreadable 313 = .ok (.iload 8, 2) := by decide +kernel
theorem dX12_unreadable_315 : decode cX12_unreadable 315 = .ok (.dup2, 1) := by decide +kernel
theorem dX12_unreadable_316 : decode cX12_unreadable 316 = .ok (.iaload, 1) := by decide +kernel
theorem dX12_unreadable_317 : decode cX12_unreadable 317 = .ok (.iconst 1, 1) := by decide +kernel
theorem dX12_unreadable_318 : decode cX12_unreadable 318 = .ok (.iadd, 1) := by decide +kernel
theorem dX12_unreadable_319 : decode cX12_unreadable 319 = .ok (.iastore, 1) := by decide +kernel
theorem dX12_unreadable_320 : decode cX12_unreadable 320 = .ok (.goto (-178), 3) := by decide +kernel
theorem dX12_unreadable_323 : decode cX12_unreadable 323 = .ok (.iinc 6 1, 3) := by decide +kernel
theorem dX12_unreadable_326 : decode cX12_unreadable 326 = .ok (.goto (-222), 3) := by decide +kernel
theorem dX12_unreadable_329 : decode cX12_unreadable 329 = .ok (.aload_n 0, 1) := by decide +kernel
theorem dX12_unreadable_330 : decode cX12_unreadable 330 = .ok (.invokevirtual 422, 3) := by decide +kernel
theorem dX12_unreadable_333 : decode cX12_unreadable 333 = .ok (.aload_n 0, 1) := by decide +kernel
theorem dX12_unreadable_334 : decode cX12_unreadable 334 = .ok (.iconst 0, 1) := by decide +kernel
theorem dX12_unreadable_335 : decode cX12_unreadable 335 = .ok (.invokevirtual 158, 3) := by decide +kernel
theorem dX12_unreadable_338 : decode cX12_unreadable 338 = .ok (.ireturn, 1) := by decide +kernel
theorem dX12_putBack_0 : decode cX12_putBack 0 = .ok (.aload_n 0, 1) := by decide +kernel
theorem dX12_putBack_1 : decode cX12_putBack 1 = .ok (.aload_n 0, 1) := by decide +kernel
theorem dX12_putBack_2 : decode cX12_putBack 2 = .ok (.getfield 419, 3) := by decide +kernel
theorem dX12_putBack_5 : decode cX12_putBack 5 = .ok (.putfield 330, 3) := by decide +kernel
theorem dX12_putBack_8 : decode cX12_putBack 8 = .ok (.iconst 0, 1) := by decide +kernel
theorem dX12_putBack_9 : decode cX12_putBack 9 = .ok (.istore_n 1, 1) := by decide +kernel
theorem dX12_putBack_10 : decode cX12_putBack 10 = .ok (.iload_n 1, 1) := by decide +kernel
theorem dX12_putBack_11 : decode cX12_putBack 11 = .ok (.aload_n 0, 1) := by decide +kernel
theorem dX12_putBack_12 : decode cX12_putBack 12 = .ok (.getfield 330, 3) := by decide +kernel
theorem dX12_putBack_15 : decode cX12_putBack 15 = .ok (.if_icmp .ge 21, 3) := by decide +kernel
theorem dX12_putBack_18 : decode cX12_putBack 18 = .ok (.aload_n 0, 1) := by decide +kernel
theorem dX12_putBack_19 : decode cX12_putBack 19 = .ok (.getfield 126, 3) := by decide +kernel
theorem dX12_putBack_22 : decode cX12_putBack 22 = .ok (.iload_n 1, 1) := by decide +kernel
theorem dX12_putBack_23 : decode cX12_putBack 23 = .ok (.aload_n 0, 1) := by decide +kernel
theorem dX12_putBack_24 : decode cX12_putBack 24 = .ok (.getfield 129, 3) := by decide +kernel
theorem dX12_putBack_27 : decode cX12_putBack 27 = .ok (.iload_n 1, 1) := by decide +kernel
theorem dX12_putBack_28 : decode cX12_putBack 28 = .ok (.iaload, 1) := by decide +kernel
theorem dX12_putBack_29 : decode cX12_putBack 29 = .ok (.iastore, 1) := by decide +kernel
theorem dX12_putBack_30 : decode cX12_putBack 30 = .ok (.iinc 1 1, 3) := by decide +kernel
theorem dX12_putBack_33 : decode cX12_putBack 33 = .ok (.goto (-23), 3) := by decide +kernel
theorem dX12_putBack_36 : decode cX12_putBack 36 = .ok (.return_, 1) := by decide +kernel
theorem dX12_place_0 : decode cX12_place 0 = .ok (.aload_n 0, 1) := by decide +kernel
theorem dX12_place_1 : decode cX12_place 1 = .ok (.getfield 9, 3) := by decide +kernel
theorem dX12_place_4 : decode cX12_place 4 = .ok (.ireturn, 1) := by decide +kernel
theorem dX12_status_0 : decode cX12_status 0 = .ok (.aload_n 0, 1) := by decide +kernel
theorem dX12_status_1 : decode cX12_status 1 = .ok (.getfield 148, 3) := by decide +kernel
theorem dX12_status_4 : decode cX12_status 4 = .ok (.ireturn, 1) := by decide +kernel
theorem dX12_digest_0 : decode cX12_digest 0 = .ok (.sipush 527, 3) := by decide +kernel
theorem dX12_digest_3 : decode cX12_digest 3 = .ok (.aload_n 0, 1) := by decide +kernel
theorem dX12_digest_4 : decode cX12_digest 4 = .ok (.getfield 279, 3) := by decide +kernel
theorem dX12_digest_7 : decode cX12_digest 7 = .ok (.iadd, 1) := by decide +kernel
theorem dX12_digest_8 : decode cX12_digest 8 = .ok (.istore_n 1, 1) := by decide +kernel
theorem dX12_digest_9 : decode cX12_digest 9 = .ok (.iconst 0, 1) := by decide +kernel
theorem dX12_digest_10 : decode cX12_digest 10 = .ok (.istore_n 2, 1) := by decide +kernel
theorem dX12_digest_11 : decode cX12_digest 11 = .ok (.iload_n 2, 1) := by decide +kernel
theorem dX12_digest_12 : decode cX12_digest 12 = .ok (.aload_n 0, 1) := by decide +kernel
theorem dX12_digest_13 : decode cX12_digest 13 = .ok (.getfield 279, 3) := by decide +kernel
theorem dX12_digest_16 : decode cX12_digest 16 = .ok (.if_icmp .ge 57, 3) := by decide +kernel
theorem dX12_digest_19 : decode cX12_digest 19 = .ok (.iload_n 1, 1) := by decide +kernel
theorem dX12_digest_20 : decode cX12_digest 20 = .ok (.bipush 31, 2) := by decide +kernel
theorem dX12_digest_22 : decode cX12_digest 22 = .ok (.imul, 1) := by decide +kernel
theorem dX12_digest_23 : decode cX12_digest 23 = .ok (.aload_n 0, 1) := by decide +kernel
theorem dX12_digest_24 : decode cX12_digest 24 = .ok (.getfield 91, 3) := by decide +kernel
theorem dX12_digest_27 : decode cX12_digest 27 = .ok (.iload_n 2, 1) := by decide +kernel
theorem dX12_digest_28 : decode cX12_digest 28 = .ok (.iaload, 1) := by decide +kernel
theorem dX12_digest_29 : decode cX12_digest 29 = .ok (.iadd, 1) := by decide +kernel
theorem dX12_digest_30 : decode cX12_digest 30 = .ok (.istore_n 1, 1) := by decide +kernel
theorem dX12_digest_31 : decode cX12_digest 31 = .ok (.iconst 0, 1) := by decide +kernel
theorem dX12_digest_32 : decode cX12_digest 32 = .ok (.istore_n 3, 1) := by decide +kernel
theorem dX12_digest_33 : decode cX12_digest 33 = .ok (.iload_n 3, 1) := by decide +kernel
theorem dX12_digest_34 : decode cX12_digest 34 = .ok (.aload_n 0, 1) := by decide +kernel
theorem dX12_digest_35 : decode cX12_digest 35 = .ok (.getfield 91, 3) := by decide +kernel
theorem dX12_digest_38 : decode cX12_digest 38 = .ok (.iload_n 2, 1) := by decide +kernel
theorem dX12_digest_39 : decode cX12_digest 39 = .ok (.iaload, 1) := by decide +kernel
theorem dX12_digest_40 : decode cX12_digest 40 = .ok (.if_icmp .ge 27, 3) := by decide +kernel
theorem dX12_digest_43 : decode cX12_digest 43 = .ok (.iload_n 1, 1) := by decide +kernel
theorem dX12_digest_44 : decode cX12_digest 44 = .ok (.bipush 31, 2) := by decide +kernel
theorem dX12_digest_46 : decode cX12_digest 46 = .ok (.imul, 1) := by decide +kernel
theorem dX12_digest_47 : decode cX12_digest 47 = .ok (.aload_n 0, 1) := by decide +kernel
theorem dX12_digest_48 : decode cX12_digest 48 = .ok (.getfield 95, 3) := by decide +kernel
theorem dX12_digest_51 : decode cX12_digest 51 = .ok (.sipush 200, 3) := by decide +kernel
theorem dX12_digest_54 : decode cX12_digest 54 = .ok (.iload_n 2, 1) := by decide +kernel
theorem dX12_digest_55 : decode cX12_digest 55 = .ok (.imul, 1) := by decide +kernel
theorem dX12_digest_56 : decode cX12_digest 56 = .ok (.iload_n 3, 1) := by decide +kernel
theorem dX12_digest_57 : decode cX12_digest 57 = .ok (.iadd, 1) := by decide +kernel
theorem dX12_digest_58 : decode cX12_digest 58 = .ok (.iaload, 1) := by decide +kernel
theorem dX12_digest_59 : decode cX12_digest 59 = .ok (.iadd, 1) := by decide +kernel
theorem dX12_digest_60 : decode cX12_digest 60 = .ok (.istore_n 1, 1) := by decide +kernel
theorem dX12_digest_61 : decode cX12_digest 61 = .ok (.iinc 3 1, 3) := by decide +kernel
theorem dX12_digest_64 : decode cX12_digest 64 = .ok (.goto (-31), 3) := by decide +kernel
theorem dX12_digest_67 : decode cX12_digest 67 = .ok (.iinc 2 1, 3) := by decide +kernel
theorem dX12_digest_70 : decode cX12_digest 70 = .ok (.goto (-59), 3) := by decide +kernel
theorem dX12_digest_73 : decode cX12_digest 73 = .ok (.iload_n 1, 1) := by decide +kernel
theorem dX12_digest_74 : decode cX12_digest 74 = .ok (.bipush 31, 2) := by decide +kernel
theorem dX12_digest_76 : decode cX12_digest 76 = .ok (.imul, 1) := by decide +kernel
theorem dX12_digest_77 : decode cX12_digest 77 = .ok (.aload_n 0, 1) := by decide +kernel
theorem dX12_digest_78 : decode cX12_digest 78 = .ok (.getfield 330, 3) := by decide +kernel
theorem dX12_digest_81 : decode cX12_digest 81 = .ok (.iadd, 1) := by decide +kernel
theorem dX12_digest_82 : decode cX12_digest 82 = .ok (.istore_n 1, 1) := by decide +kernel
theorem dX12_digest_83 : decode cX12_digest 83 = .ok (.iconst 0, 1) := by decide +kernel
theorem dX12_digest_84 : decode cX12_digest 84 = .ok (.istore_n 2, 1) := by decide +kernel
theorem dX12_digest_85 : decode cX12_digest 85 = .ok (.iload_n 2, 1) := by decide +kernel
theorem dX12_digest_86 : decode cX12_digest 86 = .ok (.aload_n 0, 1) := by decide +kernel
theorem dX12_digest_87 : decode cX12_digest 87 = .ok (.getfield 330, 3) := by decide +kernel
theorem dX12_digest_90 : decode cX12_digest 90 = .ok (.if_icmp .ge 21, 3) := by decide +kernel
theorem dX12_digest_93 : decode cX12_digest 93 = .ok (.iload_n 1, 1) := by decide +kernel
theorem dX12_digest_94 : decode cX12_digest 94 = .ok (.bipush 31, 2) := by decide +kernel
theorem dX12_digest_96 : decode cX12_digest 96 = .ok (.imul, 1) := by decide +kernel
theorem dX12_digest_97 : decode cX12_digest 97 = .ok (.aload_n 0, 1) := by decide +kernel
theorem dX12_digest_98 : decode cX12_digest 98 = .ok (.getfield 126, 3) := by decide +kernel
theorem dX12_digest_101 : decode cX12_digest 101 = .ok (.iload_n 2, 1) := by decide +kernel
theorem dX12_digest_102 : decode cX12_digest 102 = .ok (.iaload, 1) := by decide +kernel
theorem dX12_digest_103 : decode cX12_digest 103 = .ok (.iadd, 1) := by decide +kernel
theorem dX12_digest_104 : decode cX12_digest 104 = .ok (.istore_n 1, 1) := by decide +kernel
theorem dX12_digest_105 : decode cX12_digest 105 = .ok (.iinc 2 1, 3) := by decide +kernel
theorem dX12_digest_108 : decode cX12_digest 108 = .ok (.goto (-23), 3) := by decide +kernel
theorem dX12_digest_111 : decode cX12_digest 111 = .ok (.iconst 0, 1) := by decide +kernel
theorem dX12_digest_112 : decode cX12_digest 112 = .ok (.istore_n 2, 1) := by decide +kernel
theorem dX12_digest_113 : decode cX12_digest 113 = .ok (.iload_n 2, 1) := by decide +kernel
theorem dX12_digest_114 : decode cX12_digest 114 = .ok (.iconst 5, 1) := by decide +kernel
theorem dX12_digest_115 : decode cX12_digest 115 = .ok (.if_icmp .ge 21, 3) := by decide +kernel
theorem dX12_digest_118 : decode cX12_digest 118 = .ok (.iload_n 1, 1) := by decide +kernel
theorem dX12_digest_119 : decode cX12_digest 119 = .ok (.bipush 31, 2) := by decide +kernel
theorem dX12_digest_121 : decode cX12_digest 121 = .ok (.imul, 1) := by decide +kernel
theorem dX12_digest_122 : decode cX12_digest 122 = .ok (.aload_n 0, 1) := by decide +kernel
theorem dX12_digest_123 : decode cX12_digest 123 = .ok (.getfield 76, 3) := by decide +kernel
theorem dX12_digest_126 : decode cX12_digest 126 = .ok (.iload_n 2, 1) := by decide +kernel
theorem dX12_digest_127 : decode cX12_digest 127 = .ok (.iaload, 1) := by decide +kernel
theorem dX12_digest_128 : decode cX12_digest 128 = .ok (.iadd, 1) := by decide +kernel
theorem dX12_digest_129 : decode cX12_digest 129 = .ok (.istore_n 1, 1) := by decide +kernel
theorem dX12_digest_130 : decode cX12_digest 130 = .ok (.iinc 2 1, 3) := by decide +kernel
theorem dX12_digest_133 : decode cX12_digest 133 = .ok (.goto (-20), 3) := by decide +kernel
theorem dX12_digest_136 : decode cX12_digest 136 = .ok (.iload_n 1, 1) := by decide +kernel
theorem dX12_digest_137 : decode cX12_digest 137 = .ok (.bipush 31, 2) := by decide +kernel
theorem dX12_digest_139 : decode cX12_digest 139 = .ok (.imul, 1) := by decide +kernel
theorem dX12_digest_140 : decode cX12_digest 140 = .ok (.aload_n 0, 1) := by decide +kernel
theorem dX12_digest_141 : decode cX12_digest 141 = .ok (.getfield 303, 3) := by decide +kernel
theorem dX12_digest_144 : decode cX12_digest 144 = .ok (.iadd, 1) := by decide +kernel
theorem dX12_digest_145 : decode cX12_digest 145 = .ok (.bipush 31, 2) := by decide +kernel
theorem dX12_digest_147 : decode cX12_digest 147 = .ok (.imul, 1) := by decide +kernel
theorem dX12_digest_148 : decode cX12_digest 148 = .ok (.aload_n 0, 1) := by decide +kernel
theorem dX12_digest_149 : decode cX12_digest 149 = .ok (.getfield 306, 3) := by decide +kernel
theorem dX12_digest_152 : decode cX12_digest 152 = .ok (.iadd, 1) := by decide +kernel
theorem dX12_digest_153 : decode cX12_digest 153 = .ok (.ireturn, 1) := by decide +kernel
