theorem dkg_L_0 : dkp cL_law [(0, .new 7, 3), (3, .dup, 1), (4, .invokespecial 9, 3), (7, .astore_n 1, 1), (8, .new 10, 3), (11, .dup, 1), (12, .invokespecial 12, 3), (15, .astore_n 2, 1), (16, .iconst 0, 1), (17, .istore_n 3, 1)] := dkf (by decide +kernel)
theorem dL_law_0 : decode cL_law 0 = .ok (.new 7, 3) := dkg_L_0.1
theorem dL_law_3 : decode cL_law 3 = .ok (.dup, 1) := dkg_L_0.2.1
theorem dL_law_4 : decode cL_law 4 = .ok (.invokespecial 9, 3) := dkg_L_0.2.2.1
theorem dL_law_7 : decode cL_law 7 = .ok (.astore_n 1, 1) := dkg_L_0.2.2.2.1
theorem dL_law_8 : decode cL_law 8 = .ok (.new 10, 3) := dkg_L_0.2.2.2.2.1
theorem dL_law_11 : decode cL_law 11 = .ok (.dup, 1) := dkg_L_0.2.2.2.2.2.1
theorem dL_law_12 : decode cL_law 12 = .ok (.invokespecial 12, 3) := dkg_L_0.2.2.2.2.2.2.1
theorem dL_law_15 : decode cL_law 15 = .ok (.astore_n 2, 1) := dkg_L_0.2.2.2.2.2.2.2.1
theorem dL_law_16 : decode cL_law 16 = .ok (.iconst 0, 1) := dkg_L_0.2.2.2.2.2.2.2.2.1
theorem dL_law_17 : decode cL_law 17 = .ok (.istore_n 3, 1) := dkg_L_0.2.2.2.2.2.2.2.2.2.1
theorem dkg_L_1 : dkp cL_law [(18, .iload_n 3, 1), (19, .aload_n 0, 1), (20, .arraylength, 1), (21, .bipush 6, 2), (23, .isub, 1), (24, .if_icmp .gt 1359, 3), (27, .aload_n 0, 1), (28, .iload_n 3, 1), (29, .iaload, 1), (30, .bipush 63, 2)] := dkf (by decide +kernel)
theorem dL_law_18 : decode cL_law 18 = .ok (.iload_n 3, 1) := dkg_L_1.1
theorem dL_law_19 : decode cL_law 19 = .ok (.aload_n 0, 1) := dkg_L_1.2.1
theorem dL_law_20 : decode cL_law 20 = .ok (.arraylength, 1) := dkg_L_1.2.2.1
theorem dL_law_21 : decode cL_law 21 = .ok (.bipush 6, 2) := dkg_L_1.2.2.2.1
theorem dL_law_23 : decode cL_law 23 = .ok (.isub, 1) := dkg_L_1.2.2.2.2.1
theorem dL_law_24 : decode cL_law 24 = .ok (.if_icmp .gt 1359, 3) := dkg_L_1.2.2.2.2.2.1
theorem dL_law_27 : decode cL_law 27 = .ok (.aload_n 0, 1) := dkg_L_1.2.2.2.2.2.2.1
theorem dL_law_28 : decode cL_law 28 = .ok (.iload_n 3, 1) := dkg_L_1.2.2.2.2.2.2.2.1
theorem dL_law_29 : decode cL_law 29 = .ok (.iaload, 1) := dkg_L_1.2.2.2.2.2.2.2.2.1
theorem dL_law_30 : decode cL_law 30 = .ok (.bipush 63, 2) := dkg_L_1.2.2.2.2.2.2.2.2.2.1
theorem dkg_L_2 : dkp cL_law [(32, .iand, 1), (204, .aload_n 1, 1), (205, .aload_n 0, 1), (206, .iload_n 3, 1), (207, .iconst 1, 1), (208, .iadd, 1), (209, .iaload, 1), (210, .aload_n 0, 1), (211, .iload_n 3, 1), (212, .iconst 2, 1)] := dkf (by decide +kernel)
theorem dL_law_32 : decode cL_law 32 = .ok (.iand, 1) := dkg_L_2.1
theorem dL_law_204 : decode cL_law 204 = .ok (.aload_n 1, 1) := dkg_L_2.2.1
theorem dL_law_205 : decode cL_law 205 = .ok (.aload_n 0, 1) := dkg_L_2.2.2.1
theorem dL_law_206 : decode cL_law 206 = .ok (.iload_n 3, 1) := dkg_L_2.2.2.2.1
theorem dL_law_207 : decode cL_law 207 = .ok (.iconst 1, 1) := dkg_L_2.2.2.2.2.1
theorem dL_law_208 : decode cL_law 208 = .ok (.iadd, 1) := dkg_L_2.2.2.2.2.2.1
theorem dL_law_209 : decode cL_law 209 = .ok (.iaload, 1) := dkg_L_2.2.2.2.2.2.2.1
theorem dL_law_210 : decode cL_law 210 = .ok (.aload_n 0, 1) := dkg_L_2.2.2.2.2.2.2.2.1
theorem dL_law_211 : decode cL_law 211 = .ok (.iload_n 3, 1) := dkg_L_2.2.2.2.2.2.2.2.2.1
theorem dL_law_212 : decode cL_law 212 = .ok (.iconst 2, 1) := dkg_L_2.2.2.2.2.2.2.2.2.2.1
theorem dkg_L_3 : dkp cL_law [(213, .iadd, 1), (214, .iaload, 1), (215, .aload_n 0, 1), (216, .iload_n 3, 1), (217, .iconst 3, 1), (218, .iadd, 1), (219, .iaload, 1), (220, .aload_n 0, 1), (221, .iload_n 3, 1), (222, .iconst 4, 1)] := dkf (by decide +kernel)
theorem dL_law_213 : decode cL_law 213 = .ok (.iadd, 1) := dkg_L_3.1
theorem dL_law_214 : decode cL_law 214 = .ok (.iaload, 1) := dkg_L_3.2.1
theorem dL_law_215 : decode cL_law 215 = .ok (.aload_n 0, 1) := dkg_L_3.2.2.1
theorem dL_law_216 : decode cL_law 216 = .ok (.iload_n 3, 1) := dkg_L_3.2.2.2.1
theorem dL_law_217 : decode cL_law 217 = .ok (.iconst 3, 1) := dkg_L_3.2.2.2.2.1
theorem dL_law_218 : decode cL_law 218 = .ok (.iadd, 1) := dkg_L_3.2.2.2.2.2.1
theorem dL_law_219 : decode cL_law 219 = .ok (.iaload, 1) := dkg_L_3.2.2.2.2.2.2.1
theorem dL_law_220 : decode cL_law 220 = .ok (.aload_n 0, 1) := dkg_L_3.2.2.2.2.2.2.2.1
theorem dL_law_221 : decode cL_law 221 = .ok (.iload_n 3, 1) := dkg_L_3.2.2.2.2.2.2.2.2.1
theorem dL_law_222 : decode cL_law 222 = .ok (.iconst 4, 1) := dkg_L_3.2.2.2.2.2.2.2.2.2.1
theorem dkg_L_4 : dkp cL_law [(223, .iadd, 1), (224, .iaload, 1), (225, .aload_n 0, 1), (226, .iload_n 3, 1), (227, .iconst 5, 1), (228, .iadd, 1), (229, .iaload, 1), (230, .invokevirtual 13, 3), (233, .pop, 1), (234, .aload_n 2, 1)] := dkf (by decide +kernel)
theorem dL_law_223 : decode cL_law 223 = .ok (.iadd, 1) := dkg_L_4.1
theorem dL_law_224 : decode cL_law 224 = .ok (.iaload, 1) := dkg_L_4.2.1
theorem dL_law_225 : decode cL_law 225 = .ok (.aload_n 0, 1) := dkg_L_4.2.2.1
theorem dL_law_226 : decode cL_law 226 = .ok (.iload_n 3, 1) := dkg_L_4.2.2.2.1
theorem dL_law_227 : decode cL_law 227 = .ok (.iconst 5, 1) := dkg_L_4.2.2.2.2.1
theorem dL_law_228 : decode cL_law 228 = .ok (.iadd, 1) := dkg_L_4.2.2.2.2.2.1
theorem dL_law_229 : decode cL_law 229 = .ok (.iaload, 1) := dkg_L_4.2.2.2.2.2.2.1
theorem dL_law_230 : decode cL_law 230 = .ok (.invokevirtual 13, 3) := dkg_L_4.2.2.2.2.2.2.2.1
theorem dL_law_233 : decode cL_law 233 = .ok (.pop, 1) := dkg_L_4.2.2.2.2.2.2.2.2.1
theorem dL_law_234 : decode cL_law 234 = .ok (.aload_n 2, 1) := dkg_L_4.2.2.2.2.2.2.2.2.2.1
theorem dkg_L_5 : dkp cL_law [(235, .aload_n 0, 1), (236, .iload_n 3, 1), (237, .iconst 1, 1), (238, .iadd, 1), (239, .iaload, 1), (240, .aload_n 0, 1), (241, .iload_n 3, 1), (242, .iconst 2, 1), (243, .iadd, 1), (244, .iaload, 1)] := dkf (by decide +kernel)
theorem dL_law_235 : decode cL_law 235 = .ok (.aload_n 0, 1) := dkg_L_5.1
theorem dL_law_236 : decode cL_law 236 = .ok (.iload_n 3, 1) := dkg_L_5.2.1
theorem dL_law_237 : decode cL_law 237 = .ok (.iconst 1, 1) := dkg_L_5.2.2.1
theorem dL_law_238 : decode cL_law 238 = .ok (.iadd, 1) := dkg_L_5.2.2.2.1
theorem dL_law_239 : decode cL_law 239 = .ok (.iaload, 1) := dkg_L_5.2.2.2.2.1
theorem dL_law_240 : decode cL_law 240 = .ok (.aload_n 0, 1) := dkg_L_5.2.2.2.2.2.1
theorem dL_law_241 : decode cL_law 241 = .ok (.iload_n 3, 1) := dkg_L_5.2.2.2.2.2.2.1
theorem dL_law_242 : decode cL_law 242 = .ok (.iconst 2, 1) := dkg_L_5.2.2.2.2.2.2.2.1
theorem dL_law_243 : decode cL_law 243 = .ok (.iadd, 1) := dkg_L_5.2.2.2.2.2.2.2.2.1
theorem dL_law_244 : decode cL_law 244 = .ok (.iaload, 1) := dkg_L_5.2.2.2.2.2.2.2.2.2.1
theorem dkg_L_6 : dkp cL_law [(245, .aload_n 0, 1), (246, .iload_n 3, 1), (247, .iconst 3, 1), (248, .iadd, 1), (249, .iaload, 1), (250, .aload_n 0, 1), (251, .iload_n 3, 1), (252, .iconst 4, 1), (253, .iadd, 1), (254, .iaload, 1)] := dkf (by decide +kernel)
theorem dL_law_245 : decode cL_law 245 = .ok (.aload_n 0, 1) := dkg_L_6.1
theorem dL_law_246 : decode cL_law 246 = .ok (.iload_n 3, 1) := dkg_L_6.2.1
theorem dL_law_247 : decode cL_law 247 = .ok (.iconst 3, 1) := dkg_L_6.2.2.1
theorem dL_law_248 : decode cL_law 248 = .ok (.iadd, 1) := dkg_L_6.2.2.2.1
theorem dL_law_249 : decode cL_law 249 = .ok (.iaload, 1) := dkg_L_6.2.2.2.2.1
theorem dL_law_250 : decode cL_law 250 = .ok (.aload_n 0, 1) := dkg_L_6.2.2.2.2.2.1
theorem dL_law_251 : decode cL_law 251 = .ok (.iload_n 3, 1) := dkg_L_6.2.2.2.2.2.2.1
theorem dL_law_252 : decode cL_law 252 = .ok (.iconst 4, 1) := dkg_L_6.2.2.2.2.2.2.2.1
theorem dL_law_253 : decode cL_law 253 = .ok (.iadd, 1) := dkg_L_6.2.2.2.2.2.2.2.2.1
theorem dL_law_254 : decode cL_law 254 = .ok (.iaload, 1) := dkg_L_6.2.2.2.2.2.2.2.2.2.1
theorem dkg_L_7 : dkp cL_law [(255, .aload_n 0, 1), (256, .iload_n 3, 1), (257, .iconst 5, 1), (258, .iadd, 1), (259, .iaload, 1), (260, .invokevirtual 17, 3), (263, .pop, 1), (264, .goto 1113, 3), (267, .aload_n 1, 1), (268, .aload_n 0, 1)] := dkf (by decide +kernel)
theorem dL_law_255 : decode cL_law 255 = .ok (.aload_n 0, 1) := dkg_L_7.1
theorem dL_law_256 : decode cL_law 256 = .ok (.iload_n 3, 1) := dkg_L_7.2.1
theorem dL_law_257 : decode cL_law 257 = .ok (.iconst 5, 1) := dkg_L_7.2.2.1
theorem dL_law_258 : decode cL_law 258 = .ok (.iadd, 1) := dkg_L_7.2.2.2.1
theorem dL_law_259 : decode cL_law 259 = .ok (.iaload, 1) := dkg_L_7.2.2.2.2.1
theorem dL_law_260 : decode cL_law 260 = .ok (.invokevirtual 17, 3) := dkg_L_7.2.2.2.2.2.1
theorem dL_law_263 : decode cL_law 263 = .ok (.pop, 1) := dkg_L_7.2.2.2.2.2.2.1
theorem dL_law_264 : decode cL_law 264 = .ok (.goto 1113, 3) := dkg_L_7.2.2.2.2.2.2.2.1
theorem dL_law_267 : decode cL_law 267 = .ok (.aload_n 1, 1) := dkg_L_7.2.2.2.2.2.2.2.2.1
theorem dL_law_268 : decode cL_law 268 = .ok (.aload_n 0, 1) := dkg_L_7.2.2.2.2.2.2.2.2.2.1
theorem dkg_L_8 : dkp cL_law [(269, .iload_n 3, 1), (270, .iconst 1, 1), (271, .iadd, 1), (272, .iaload, 1), (273, .invokevirtual 18, 3), (276, .pop, 1), (277, .aload_n 2, 1), (278, .aload_n 0, 1), (279, .iload_n 3, 1), (280, .iconst 1, 1)] := dkf (by decide +kernel)
theorem dL_law_269 : decode cL_law 269 = .ok (.iload_n 3, 1) := dkg_L_8.1
theorem dL_law_270 : decode cL_law 270 = .ok (.iconst 1, 1) := dkg_L_8.2.1
theorem dL_law_271 : decode cL_law 271 = .ok (.iadd, 1) := dkg_L_8.2.2.1
theorem dL_law_272 : decode cL_law 272 = .ok (.iaload, 1) := dkg_L_8.2.2.2.1
theorem dL_law_273 : decode cL_law 273 = .ok (.invokevirtual 18, 3) := dkg_L_8.2.2.2.2.1
theorem dL_law_276 : decode cL_law 276 = .ok (.pop, 1) := dkg_L_8.2.2.2.2.2.1
theorem dL_law_277 : decode cL_law 277 = .ok (.aload_n 2, 1) := dkg_L_8.2.2.2.2.2.2.1
theorem dL_law_278 : decode cL_law 278 = .ok (.aload_n 0, 1) := dkg_L_8.2.2.2.2.2.2.2.1
theorem dL_law_279 : decode cL_law 279 = .ok (.iload_n 3, 1) := dkg_L_8.2.2.2.2.2.2.2.2.1
theorem dL_law_280 : decode cL_law 280 = .ok (.iconst 1, 1) := dkg_L_8.2.2.2.2.2.2.2.2.2.1
theorem dkg_L_9 : dkp cL_law [(281, .iadd, 1), (282, .iaload, 1), (283, .invokevirtual 22, 3), (286, .pop, 1), (287, .goto 1090, 3), (290, .aload_n 1, 1), (291, .aload_n 0, 1), (292, .iload_n 3, 1), (293, .iconst 1, 1), (294, .iadd, 1)] := dkf (by decide +kernel)
theorem dL_law_281 : decode cL_law 281 = .ok (.iadd, 1) := dkg_L_9.1
theorem dL_law_282 : decode cL_law 282 = .ok (.iaload, 1) := dkg_L_9.2.1
theorem dL_law_283 : decode cL_law 283 = .ok (.invokevirtual 22, 3) := dkg_L_9.2.2.1
theorem dL_law_286 : decode cL_law 286 = .ok (.pop, 1) := dkg_L_9.2.2.2.1
theorem dL_law_287 : decode cL_law 287 = .ok (.goto 1090, 3) := dkg_L_9.2.2.2.2.1
theorem dL_law_290 : decode cL_law 290 = .ok (.aload_n 1, 1) := dkg_L_9.2.2.2.2.2.1
theorem dL_law_291 : decode cL_law 291 = .ok (.aload_n 0, 1) := dkg_L_9.2.2.2.2.2.2.1
theorem dL_law_292 : decode cL_law 292 = .ok (.iload_n 3, 1) := dkg_L_9.2.2.2.2.2.2.2.1
theorem dL_law_293 : decode cL_law 293 = .ok (.iconst 1, 1) := dkg_L_9.2.2.2.2.2.2.2.2.1
theorem dL_law_294 : decode cL_law 294 = .ok (.iadd, 1) := dkg_L_9.2.2.2.2.2.2.2.2.2.1
theorem dkg_L_10 : dkp cL_law [(295, .iaload, 1), (296, .aload_n 0, 1), (297, .iload_n 3, 1), (298, .iconst 2, 1), (299, .iadd, 1), (300, .iaload, 1), (301, .aload_n 0, 1), (302, .iload_n 3, 1), (303, .iconst 3, 1), (304, .iadd, 1)] := dkf (by decide +kernel)
theorem dL_law_295 : decode cL_law 295 = .ok (.iaload, 1) := dkg_L_10.1
theorem dL_law_296 : decode cL_law 296 = .ok (.aload_n 0, 1) := dkg_L_10.2.1
theorem dL_law_297 : decode cL_law 297 = .ok (.iload_n 3, 1) := dkg_L_10.2.2.1
theorem dL_law_298 : decode cL_law 298 = .ok (.iconst 2, 1) := dkg_L_10.2.2.2.1
theorem dL_law_299 : decode cL_law 299 = .ok (.iadd, 1) := dkg_L_10.2.2.2.2.1
theorem dL_law_300 : decode cL_law 300 = .ok (.iaload, 1) := dkg_L_10.2.2.2.2.2.1
theorem dL_law_301 : decode cL_law 301 = .ok (.aload_n 0, 1) := dkg_L_10.2.2.2.2.2.2.1
theorem dL_law_302 : decode cL_law 302 = .ok (.iload_n 3, 1) := dkg_L_10.2.2.2.2.2.2.2.1
theorem dL_law_303 : decode cL_law 303 = .ok (.iconst 3, 1) := dkg_L_10.2.2.2.2.2.2.2.2.1
theorem dL_law_304 : decode cL_law 304 = .ok (.iadd, 1) := dkg_L_10.2.2.2.2.2.2.2.2.2.1
theorem dkg_L_11 : dkp cL_law [(305, .iaload, 1), (306, .invokevirtual 23, 3), (309, .pop, 1), (310, .aload_n 2, 1), (311, .aload_n 0, 1), (312, .iload_n 3, 1), (313, .iconst 1, 1), (314, .iadd, 1), (315, .iaload, 1), (316, .aload_n 0, 1)] := dkf (by decide +kernel)
theorem dL_law_305 : decode cL_law 305 = .ok (.iaload, 1) := dkg_L_11.1
theorem dL_law_306 : decode cL_law 306 = .ok (.invokevirtual 23, 3) := dkg_L_11.2.1
theorem dL_law_309 : decode cL_law 309 = .ok (.pop, 1) := dkg_L_11.2.2.1
theorem dL_law_310 : decode cL_law 310 = .ok (.aload_n 2, 1) := dkg_L_11.2.2.2.1
theorem dL_law_311 : decode cL_law 311 = .ok (.aload_n 0, 1) := dkg_L_11.2.2.2.2.1
theorem dL_law_312 : decode cL_law 312 = .ok (.iload_n 3, 1) := dkg_L_11.2.2.2.2.2.1
theorem dL_law_313 : decode cL_law 313 = .ok (.iconst 1, 1) := dkg_L_11.2.2.2.2.2.2.1
theorem dL_law_314 : decode cL_law 314 = .ok (.iadd, 1) := dkg_L_11.2.2.2.2.2.2.2.1
theorem dL_law_315 : decode cL_law 315 = .ok (.iaload, 1) := dkg_L_11.2.2.2.2.2.2.2.2.1
theorem dL_law_316 : decode cL_law 316 = .ok (.aload_n 0, 1) := dkg_L_11.2.2.2.2.2.2.2.2.2.1
theorem dkg_L_12 : dkp cL_law [(317, .iload_n 3, 1), (318, .iconst 2, 1), (319, .iadd, 1), (320, .iaload, 1), (321, .aload_n 0, 1), (322, .iload_n 3, 1), (323, .iconst 3, 1), (324, .iadd, 1), (325, .iaload, 1), (326, .invokevirtual 27, 3)] := dkf (by decide +kernel)
theorem dL_law_317 : decode cL_law 317 = .ok (.iload_n 3, 1) := dkg_L_12.1
theorem dL_law_318 : decode cL_law 318 = .ok (.iconst 2, 1) := dkg_L_12.2.1
theorem dL_law_319 : decode cL_law 319 = .ok (.iadd, 1) := dkg_L_12.2.2.1
theorem dL_law_320 : decode cL_law 320 = .ok (.iaload, 1) := dkg_L_12.2.2.2.1
theorem dL_law_321 : decode cL_law 321 = .ok (.aload_n 0, 1) := dkg_L_12.2.2.2.2.1
theorem dL_law_322 : decode cL_law 322 = .ok (.iload_n 3, 1) := dkg_L_12.2.2.2.2.2.1
theorem dL_law_323 : decode cL_law 323 = .ok (.iconst 3, 1) := dkg_L_12.2.2.2.2.2.2.1
theorem dL_law_324 : decode cL_law 324 = .ok (.iadd, 1) := dkg_L_12.2.2.2.2.2.2.2.1
theorem dL_law_325 : decode cL_law 325 = .ok (.iaload, 1) := dkg_L_12.2.2.2.2.2.2.2.2.1
theorem dL_law_326 : decode cL_law 326 = .ok (.invokevirtual 27, 3) := dkg_L_12.2.2.2.2.2.2.2.2.2.1
theorem dkg_L_13 : dkp cL_law [(329, .pop, 1), (330, .goto 1047, 3), (333, .aload_n 1, 1), (334, .aload_n 0, 1), (335, .iload_n 3, 1), (336, .iconst 1, 1), (337, .iadd, 1), (338, .iaload, 1), (339, .aload_n 0, 1), (340, .iload_n 3, 1)] := dkf (by decide +kernel)
theorem dL_law_329 : decode cL_law 329 = .ok (.pop, 1) := dkg_L_13.1
theorem dL_law_330 : decode cL_law 330 = .ok (.goto 1047, 3) := dkg_L_13.2.1
theorem dL_law_333 : decode cL_law 333 = .ok (.aload_n 1, 1) := dkg_L_13.2.2.1
theorem dL_law_334 : decode cL_law 334 = .ok (.aload_n 0, 1) := dkg_L_13.2.2.2.1
theorem dL_law_335 : decode cL_law 335 = .ok (.iload_n 3, 1) := dkg_L_13.2.2.2.2.1
theorem dL_law_336 : decode cL_law 336 = .ok (.iconst 1, 1) := dkg_L_13.2.2.2.2.2.1
theorem dL_law_337 : decode cL_law 337 = .ok (.iadd, 1) := dkg_L_13.2.2.2.2.2.2.1
theorem dL_law_338 : decode cL_law 338 = .ok (.iaload, 1) := dkg_L_13.2.2.2.2.2.2.2.1
theorem dL_law_339 : decode cL_law 339 = .ok (.aload_n 0, 1) := dkg_L_13.2.2.2.2.2.2.2.2.1
theorem dL_law_340 : decode cL_law 340 = .ok (.iload_n 3, 1) := dkg_L_13.2.2.2.2.2.2.2.2.2.1
theorem dkg_L_14 : dkp cL_law [(341, .iconst 2, 1), (342, .iadd, 1), (343, .iaload, 1), (344, .invokevirtual 28, 3), (347, .pop, 1), (348, .aload_n 2, 1), (349, .aload_n 0, 1), (350, .iload_n 3, 1), (351, .iconst 1, 1), (352, .iadd, 1)] := dkf (by decide +kernel)
theorem dL_law_341 : decode cL_law 341 = .ok (.iconst 2, 1) := dkg_L_14.1
theorem dL_law_342 : decode cL_law 342 = .ok (.iadd, 1) := dkg_L_14.2.1
theorem dL_law_343 : decode cL_law 343 = .ok (.iaload, 1) := dkg_L_14.2.2.1
theorem dL_law_344 : decode cL_law 344 = .ok (.invokevirtual 28, 3) := dkg_L_14.2.2.2.1
theorem dL_law_347 : decode cL_law 347 = .ok (.pop, 1) := dkg_L_14.2.2.2.2.1
theorem dL_law_348 : decode cL_law 348 = .ok (.aload_n 2, 1) := dkg_L_14.2.2.2.2.2.1
theorem dL_law_349 : decode cL_law 349 = .ok (.aload_n 0, 1) := dkg_L_14.2.2.2.2.2.2.1
theorem dL_law_350 : decode cL_law 350 = .ok (.iload_n 3, 1) := dkg_L_14.2.2.2.2.2.2.2.1
theorem dL_law_351 : decode cL_law 351 = .ok (.iconst 1, 1) := dkg_L_14.2.2.2.2.2.2.2.2.1
theorem dL_law_352 : decode cL_law 352 = .ok (.iadd, 1) := dkg_L_14.2.2.2.2.2.2.2.2.2.1
theorem dkg_L_15 : dkp cL_law [(353, .iaload, 1), (354, .aload_n 0, 1), (355, .iload_n 3, 1), (356, .iconst 2, 1), (357, .iadd, 1), (358, .iaload, 1), (359, .invokevirtual 32, 3), (362, .pop, 1), (363, .goto 1014, 3), (366, .aload_n 1, 1)] := dkf (by decide +kernel)
theorem dL_law_353 : decode cL_law 353 = .ok (.iaload, 1) := dkg_L_15.1
theorem dL_law_354 : decode cL_law 354 = .ok (.aload_n 0, 1) := dkg_L_15.2.1
theorem dL_law_355 : decode cL_law 355 = .ok (.iload_n 3, 1) := dkg_L_15.2.2.1
theorem dL_law_356 : decode cL_law 356 = .ok (.iconst 2, 1) := dkg_L_15.2.2.2.1
theorem dL_law_357 : decode cL_law 357 = .ok (.iadd, 1) := dkg_L_15.2.2.2.2.1
theorem dL_law_358 : decode cL_law 358 = .ok (.iaload, 1) := dkg_L_15.2.2.2.2.2.1
theorem dL_law_359 : decode cL_law 359 = .ok (.invokevirtual 32, 3) := dkg_L_15.2.2.2.2.2.2.1
theorem dL_law_362 : decode cL_law 362 = .ok (.pop, 1) := dkg_L_15.2.2.2.2.2.2.2.1
theorem dL_law_363 : decode cL_law 363 = .ok (.goto 1014, 3) := dkg_L_15.2.2.2.2.2.2.2.2.1
theorem dL_law_366 : decode cL_law 366 = .ok (.aload_n 1, 1) := dkg_L_15.2.2.2.2.2.2.2.2.2.1
theorem dkg_L_16 : dkp cL_law [(367, .aload_n 0, 1), (368, .iload_n 3, 1), (369, .iconst 1, 1), (370, .iadd, 1), (371, .iaload, 1), (372, .invokevirtual 33, 3), (375, .pop, 1), (376, .aload_n 2, 1), (377, .aload_n 0, 1), (378, .iload_n 3, 1)] := dkf (by decide +kernel)
theorem dL_law_367 : decode cL_law 367 = .ok (.aload_n 0, 1) := dkg_L_16.1
theorem dL_law_368 : decode cL_law 368 = .ok (.iload_n 3, 1) := dkg_L_16.2.1
theorem dL_law_369 : decode cL_law 369 = .ok (.iconst 1, 1) := dkg_L_16.2.2.1
theorem dL_law_370 : decode cL_law 370 = .ok (.iadd, 1) := dkg_L_16.2.2.2.1
theorem dL_law_371 : decode cL_law 371 = .ok (.iaload, 1) := dkg_L_16.2.2.2.2.1
theorem dL_law_372 : decode cL_law 372 = .ok (.invokevirtual 33, 3) := dkg_L_16.2.2.2.2.2.1
theorem dL_law_375 : decode cL_law 375 = .ok (.pop, 1) := dkg_L_16.2.2.2.2.2.2.1
theorem dL_law_376 : decode cL_law 376 = .ok (.aload_n 2, 1) := dkg_L_16.2.2.2.2.2.2.2.1
theorem dL_law_377 : decode cL_law 377 = .ok (.aload_n 0, 1) := dkg_L_16.2.2.2.2.2.2.2.2.1
theorem dL_law_378 : decode cL_law 378 = .ok (.iload_n 3, 1) := dkg_L_16.2.2.2.2.2.2.2.2.2.1
theorem dkg_L_17 : dkp cL_law [(379, .iconst 1, 1), (380, .iadd, 1), (381, .iaload, 1), (382, .invokevirtual 36, 3), (385, .pop, 1), (386, .goto 991, 3), (389, .aload_n 1, 1), (390, .aload_n 0, 1), (391, .iload_n 3, 1), (392, .iconst 1, 1)] := dkf (by decide +kernel)
theorem dL_law_379 : decode cL_law 379 = .ok (.iconst 1, 1) := dkg_L_17.1
theorem dL_law_380 : decode cL_law 380 = .ok (.iadd, 1) := dkg_L_17.2.1
theorem dL_law_381 : decode cL_law 381 = .ok (.iaload, 1) := dkg_L_17.2.2.1
theorem dL_law_382 : decode cL_law 382 = .ok (.invokevirtual 36, 3) := dkg_L_17.2.2.2.1
theorem dL_law_385 : decode cL_law 385 = .ok (.pop, 1) := dkg_L_17.2.2.2.2.1
theorem dL_law_386 : decode cL_law 386 = .ok (.goto 991, 3) := dkg_L_17.2.2.2.2.2.1
theorem dL_law_389 : decode cL_law 389 = .ok (.aload_n 1, 1) := dkg_L_17.2.2.2.2.2.2.1
theorem dL_law_390 : decode cL_law 390 = .ok (.aload_n 0, 1) := dkg_L_17.2.2.2.2.2.2.2.1
theorem dL_law_391 : decode cL_law 391 = .ok (.iload_n 3, 1) := dkg_L_17.2.2.2.2.2.2.2.2.1
theorem dL_law_392 : decode cL_law 392 = .ok (.iconst 1, 1) := dkg_L_17.2.2.2.2.2.2.2.2.2.1
theorem dkg_L_18 : dkp cL_law [(393, .iadd, 1), (394, .iaload, 1), (395, .aload_n 0, 1), (396, .iload_n 3, 1), (397, .iconst 2, 1), (398, .iadd, 1), (399, .iaload, 1), (400, .aload_n 0, 1), (401, .iload_n 3, 1), (402, .iconst 3, 1)] := dkf (by decide +kernel)
theorem dL_law_393 : decode cL_law 393 = .ok (.iadd, 1) := dkg_L_18.1
theorem dL_law_394 : decode cL_law 394 = .ok (.iaload, 1) := dkg_L_18.2.1
theorem dL_law_395 : decode cL_law 395 = .ok (.aload_n 0, 1) := dkg_L_18.2.2.1
theorem dL_law_396 : decode cL_law 396 = .ok (.iload_n 3, 1) := dkg_L_18.2.2.2.1
theorem dL_law_397 : decode cL_law 397 = .ok (.iconst 2, 1) := dkg_L_18.2.2.2.2.1
theorem dL_law_398 : decode cL_law 398 = .ok (.iadd, 1) := dkg_L_18.2.2.2.2.2.1
theorem dL_law_399 : decode cL_law 399 = .ok (.iaload, 1) := dkg_L_18.2.2.2.2.2.2.1
theorem dL_law_400 : decode cL_law 400 = .ok (.aload_n 0, 1) := dkg_L_18.2.2.2.2.2.2.2.1
theorem dL_law_401 : decode cL_law 401 = .ok (.iload_n 3, 1) := dkg_L_18.2.2.2.2.2.2.2.2.1
theorem dL_law_402 : decode cL_law 402 = .ok (.iconst 3, 1) := dkg_L_18.2.2.2.2.2.2.2.2.2.1
theorem dkg_L_19 : dkp cL_law [(403, .iadd, 1), (404, .iaload, 1), (405, .invokevirtual 37, 3), (408, .pop, 1), (409, .aload_n 2, 1), (410, .aload_n 0, 1), (411, .iload_n 3, 1), (412, .iconst 1, 1), (413, .iadd, 1), (414, .iaload, 1)] := dkf (by decide +kernel)
theorem dL_law_403 : decode cL_law 403 = .ok (.iadd, 1) := dkg_L_19.1
theorem dL_law_404 : decode cL_law 404 = .ok (.iaload, 1) := dkg_L_19.2.1
theorem dL_law_405 : decode cL_law 405 = .ok (.invokevirtual 37, 3) := dkg_L_19.2.2.1
theorem dL_law_408 : decode cL_law 408 = .ok (.pop, 1) := dkg_L_19.2.2.2.1
theorem dL_law_409 : decode cL_law 409 = .ok (.aload_n 2, 1) := dkg_L_19.2.2.2.2.1
theorem dL_law_410 : decode cL_law 410 = .ok (.aload_n 0, 1) := dkg_L_19.2.2.2.2.2.1
theorem dL_law_411 : decode cL_law 411 = .ok (.iload_n 3, 1) := dkg_L_19.2.2.2.2.2.2.1
theorem dL_law_412 : decode cL_law 412 = .ok (.iconst 1, 1) := dkg_L_19.2.2.2.2.2.2.2.1
theorem dL_law_413 : decode cL_law 413 = .ok (.iadd, 1) := dkg_L_19.2.2.2.2.2.2.2.2.1
theorem dL_law_414 : decode cL_law 414 = .ok (.iaload, 1) := dkg_L_19.2.2.2.2.2.2.2.2.2.1
theorem dkg_L_20 : dkp cL_law [(415, .aload_n 0, 1), (416, .iload_n 3, 1), (417, .iconst 2, 1), (418, .iadd, 1), (419, .iaload, 1), (420, .aload_n 0, 1), (421, .iload_n 3, 1), (422, .iconst 3, 1), (423, .iadd, 1), (424, .iaload, 1)] := dkf (by decide +kernel)
theorem dL_law_415 : decode cL_law 415 = .ok (.aload_n 0, 1) := dkg_L_20.1
theorem dL_law_416 : decode cL_law 416 = .ok (.iload_n 3, 1) := dkg_L_20.2.1
theorem dL_law_417 : decode cL_law 417 = .ok (.iconst 2, 1) := dkg_L_20.2.2.1
theorem dL_law_418 : decode cL_law 418 = .ok (.iadd, 1) := dkg_L_20.2.2.2.1
theorem dL_law_419 : decode cL_law 419 = .ok (.iaload, 1) := dkg_L_20.2.2.2.2.1
theorem dL_law_420 : decode cL_law 420 = .ok (.aload_n 0, 1) := dkg_L_20.2.2.2.2.2.1
theorem dL_law_421 : decode cL_law 421 = .ok (.iload_n 3, 1) := dkg_L_20.2.2.2.2.2.2.1
theorem dL_law_422 : decode cL_law 422 = .ok (.iconst 3, 1) := dkg_L_20.2.2.2.2.2.2.2.1
theorem dL_law_423 : decode cL_law 423 = .ok (.iadd, 1) := dkg_L_20.2.2.2.2.2.2.2.2.1
theorem dL_law_424 : decode cL_law 424 = .ok (.iaload, 1) := dkg_L_20.2.2.2.2.2.2.2.2.2.1
theorem dkg_L_21 : dkp cL_law [(425, .invokevirtual 40, 3), (428, .pop, 1), (429, .goto 948, 3), (432, .aload_n 1, 1), (433, .aload_n 0, 1), (434, .iload_n 3, 1), (435, .iconst 1, 1), (436, .iadd, 1), (437, .iaload, 1), (438, .aload_n 0, 1)] := dkf (by decide +kernel)
theorem dL_law_425 : decode cL_law 425 = .ok (.invokevirtual 40, 3) := dkg_L_21.1
theorem dL_law_428 : decode cL_law 428 = .ok (.pop, 1) := dkg_L_21.2.1
theorem dL_law_429 : decode cL_law 429 = .ok (.goto 948, 3) := dkg_L_21.2.2.1
theorem dL_law_432 : decode cL_law 432 = .ok (.aload_n 1, 1) := dkg_L_21.2.2.2.1
theorem dL_law_433 : decode cL_law 433 = .ok (.aload_n 0, 1) := dkg_L_21.2.2.2.2.1
theorem dL_law_434 : decode cL_law 434 = .ok (.iload_n 3, 1) := dkg_L_21.2.2.2.2.2.1
theorem dL_law_435 : decode cL_law 435 = .ok (.iconst 1, 1) := dkg_L_21.2.2.2.2.2.2.1
theorem dL_law_436 : decode cL_law 436 = .ok (.iadd, 1) := dkg_L_21.2.2.2.2.2.2.2.1
theorem dL_law_437 : decode cL_law 437 = .ok (.iaload, 1) := dkg_L_21.2.2.2.2.2.2.2.2.1
theorem dL_law_438 : decode cL_law 438 = .ok (.aload_n 0, 1) := dkg_L_21.2.2.2.2.2.2.2.2.2.1
theorem dkg_L_22 : dkp cL_law [(439, .iload_n 3, 1), (440, .iconst 2, 1), (441, .iadd, 1), (442, .iaload, 1), (443, .aload_n 0, 1), (444, .iload_n 3, 1), (445, .iconst 3, 1), (446, .iadd, 1), (447, .iaload, 1), (448, .invokevirtual 41, 3)] := dkf (by decide +kernel)
theorem dL_law_439 : decode cL_law 439 = .ok (.iload_n 3, 1) := dkg_L_22.1
theorem dL_law_440 : decode cL_law 440 = .ok (.iconst 2, 1) := dkg_L_22.2.1
theorem dL_law_441 : decode cL_law 441 = .ok (.iadd, 1) := dkg_L_22.2.2.1
theorem dL_law_442 : decode cL_law 442 = .ok (.iaload, 1) := dkg_L_22.2.2.2.1
theorem dL_law_443 : decode cL_law 443 = .ok (.aload_n 0, 1) := dkg_L_22.2.2.2.2.1
theorem dL_law_444 : decode cL_law 444 = .ok (.iload_n 3, 1) := dkg_L_22.2.2.2.2.2.1
theorem dL_law_445 : decode cL_law 445 = .ok (.iconst 3, 1) := dkg_L_22.2.2.2.2.2.2.1
theorem dL_law_446 : decode cL_law 446 = .ok (.iadd, 1) := dkg_L_22.2.2.2.2.2.2.2.1
theorem dL_law_447 : decode cL_law 447 = .ok (.iaload, 1) := dkg_L_22.2.2.2.2.2.2.2.2.1
theorem dL_law_448 : decode cL_law 448 = .ok (.invokevirtual 41, 3) := dkg_L_22.2.2.2.2.2.2.2.2.2.1
theorem dkg_L_23 : dkp cL_law [(451, .pop, 1), (452, .aload_n 2, 1), (453, .aload_n 0, 1), (454, .iload_n 3, 1), (455, .iconst 1, 1), (456, .iadd, 1), (457, .iaload, 1), (458, .aload_n 0, 1), (459, .iload_n 3, 1), (460, .iconst 2, 1)] := dkf (by decide +kernel)
theorem dL_law_451 : decode cL_law 451 = .ok (.pop, 1) := dkg_L_23.1
theorem dL_law_452 : decode cL_law 452 = .ok (.aload_n 2, 1) := dkg_L_23.2.1
theorem dL_law_453 : decode cL_law 453 = .ok (.aload_n 0, 1) := dkg_L_23.2.2.1
theorem dL_law_454 : decode cL_law 454 = .ok (.iload_n 3, 1) := dkg_L_23.2.2.2.1
theorem dL_law_455 : decode cL_law 455 = .ok (.iconst 1, 1) := dkg_L_23.2.2.2.2.1
theorem dL_law_456 : decode cL_law 456 = .ok (.iadd, 1) := dkg_L_23.2.2.2.2.2.1
theorem dL_law_457 : decode cL_law 457 = .ok (.iaload, 1) := dkg_L_23.2.2.2.2.2.2.1
theorem dL_law_458 : decode cL_law 458 = .ok (.aload_n 0, 1) := dkg_L_23.2.2.2.2.2.2.2.1
theorem dL_law_459 : decode cL_law 459 = .ok (.iload_n 3, 1) := dkg_L_23.2.2.2.2.2.2.2.2.1
theorem dL_law_460 : decode cL_law 460 = .ok (.iconst 2, 1) := dkg_L_23.2.2.2.2.2.2.2.2.2.1
theorem dkg_L_24 : dkp cL_law [(461, .iadd, 1), (462, .iaload, 1), (463, .aload_n 0, 1), (464, .iload_n 3, 1), (465, .iconst 3, 1), (466, .iadd, 1), (467, .iaload, 1), (468, .invokevirtual 44, 3), (471, .pop, 1), (472, .goto 905, 3)] := dkf (by decide +kernel)
theorem dL_law_461 : decode cL_law 461 = .ok (.iadd, 1) := dkg_L_24.1
theorem dL_law_462 : decode cL_law 462 = .ok (.iaload, 1) := dkg_L_24.2.1
theorem dL_law_463 : decode cL_law 463 = .ok (.aload_n 0, 1) := dkg_L_24.2.2.1
theorem dL_law_464 : decode cL_law 464 = .ok (.iload_n 3, 1) := dkg_L_24.2.2.2.1
theorem dL_law_465 : decode cL_law 465 = .ok (.iconst 3, 1) := dkg_L_24.2.2.2.2.1
theorem dL_law_466 : decode cL_law 466 = .ok (.iadd, 1) := dkg_L_24.2.2.2.2.2.1
theorem dL_law_467 : decode cL_law 467 = .ok (.iaload, 1) := dkg_L_24.2.2.2.2.2.2.1
theorem dL_law_468 : decode cL_law 468 = .ok (.invokevirtual 44, 3) := dkg_L_24.2.2.2.2.2.2.2.1
theorem dL_law_471 : decode cL_law 471 = .ok (.pop, 1) := dkg_L_24.2.2.2.2.2.2.2.2.1
theorem dL_law_472 : decode cL_law 472 = .ok (.goto 905, 3) := dkg_L_24.2.2.2.2.2.2.2.2.2.1
theorem dkg_L_25 : dkp cL_law [(475, .aload_n 1, 1), (476, .aload_n 0, 1), (477, .iload_n 3, 1), (478, .iconst 1, 1), (479, .iadd, 1), (480, .iaload, 1), (481, .aload_n 0, 1), (482, .iload_n 3, 1), (483, .iconst 2, 1), (484, .iadd, 1)] := dkf (by decide +kernel)
theorem dL_law_475 : decode cL_law 475 = .ok (.aload_n 1, 1) := dkg_L_25.1
theorem dL_law_476 : decode cL_law 476 = .ok (.aload_n 0, 1) := dkg_L_25.2.1
theorem dL_law_477 : decode cL_law 477 = .ok (.iload_n 3, 1) := dkg_L_25.2.2.1
theorem dL_law_478 : decode cL_law 478 = .ok (.iconst 1, 1) := dkg_L_25.2.2.2.1
theorem dL_law_479 : decode cL_law 479 = .ok (.iadd, 1) := dkg_L_25.2.2.2.2.1
theorem dL_law_480 : decode cL_law 480 = .ok (.iaload, 1) := dkg_L_25.2.2.2.2.2.1
theorem dL_law_481 : decode cL_law 481 = .ok (.aload_n 0, 1) := dkg_L_25.2.2.2.2.2.2.1
theorem dL_law_482 : decode cL_law 482 = .ok (.iload_n 3, 1) := dkg_L_25.2.2.2.2.2.2.2.1
theorem dL_law_483 : decode cL_law 483 = .ok (.iconst 2, 1) := dkg_L_25.2.2.2.2.2.2.2.2.1
theorem dL_law_484 : decode cL_law 484 = .ok (.iadd, 1) := dkg_L_25.2.2.2.2.2.2.2.2.2.1
theorem dkg_L_26 : dkp cL_law [(485, .iaload, 1), (486, .invokevirtual 45, 3), (489, .pop, 1), (490, .aload_n 2, 1), (491, .aload_n 0, 1), (492, .iload_n 3, 1), (493, .iconst 1, 1), (494, .iadd, 1), (495, .iaload, 1), (496, .aload_n 0, 1)] := dkf (by decide +kernel)
theorem dL_law_485 : decode cL_law 485 = .ok (.iaload, 1) := dkg_L_26.1
theorem dL_law_486 : decode cL_law 486 = .ok (.invokevirtual 45, 3) := dkg_L_26.2.1
theorem dL_law_489 : decode cL_law 489 = .ok (.pop, 1) := dkg_L_26.2.2.1
theorem dL_law_490 : decode cL_law 490 = .ok (.aload_n 2, 1) := dkg_L_26.2.2.2.1
theorem dL_law_491 : decode cL_law 491 = .ok (.aload_n 0, 1) := dkg_L_26.2.2.2.2.1
theorem dL_law_492 : decode cL_law 492 = .ok (.iload_n 3, 1) := dkg_L_26.2.2.2.2.2.1
theorem dL_law_493 : decode cL_law 493 = .ok (.iconst 1, 1) := dkg_L_26.2.2.2.2.2.2.1
theorem dL_law_494 : decode cL_law 494 = .ok (.iadd, 1) := dkg_L_26.2.2.2.2.2.2.2.1
theorem dL_law_495 : decode cL_law 495 = .ok (.iaload, 1) := dkg_L_26.2.2.2.2.2.2.2.2.1
theorem dL_law_496 : decode cL_law 496 = .ok (.aload_n 0, 1) := dkg_L_26.2.2.2.2.2.2.2.2.2.1
theorem dkg_L_27 : dkp cL_law [(497, .iload_n 3, 1), (498, .iconst 2, 1), (499, .iadd, 1), (500, .iaload, 1), (501, .invokevirtual 48, 3), (504, .pop, 1), (505, .goto 872, 3), (508, .aload_n 1, 1), (509, .invokevirtual 49, 3), (512, .pop, 1)] := dkf (by decide +kernel)
theorem dL_law_497 : decode cL_law 497 = .ok (.iload_n 3, 1) := dkg_L_27.1
theorem dL_law_498 : decode cL_law 498 = .ok (.iconst 2, 1) := dkg_L_27.2.1
theorem dL_law_499 : decode cL_law 499 = .ok (.iadd, 1) := dkg_L_27.2.2.1
theorem dL_law_500 : decode cL_law 500 = .ok (.iaload, 1) := dkg_L_27.2.2.2.1
theorem dL_law_501 : decode cL_law 501 = .ok (.invokevirtual 48, 3) := dkg_L_27.2.2.2.2.1
theorem dL_law_504 : decode cL_law 504 = .ok (.pop, 1) := dkg_L_27.2.2.2.2.2.1
theorem dL_law_505 : decode cL_law 505 = .ok (.goto 872, 3) := dkg_L_27.2.2.2.2.2.2.1
theorem dL_law_508 : decode cL_law 508 = .ok (.aload_n 1, 1) := dkg_L_27.2.2.2.2.2.2.2.1
theorem dL_law_509 : decode cL_law 509 = .ok (.invokevirtual 49, 3) := dkg_L_27.2.2.2.2.2.2.2.2.1
theorem dL_law_512 : decode cL_law 512 = .ok (.pop, 1) := dkg_L_27.2.2.2.2.2.2.2.2.2.1
theorem dkg_L_28 : dkp cL_law [(513, .aload_n 2, 1), (514, .invokevirtual 53, 3), (517, .pop, 1), (518, .goto 859, 3), (521, .aload_n 1, 1), (522, .invokevirtual 54, 3), (525, .pop, 1), (526, .aload_n 2, 1), (527, .invokevirtual 57, 3), (530, .pop, 1)] := dkf (by decide +kernel)
theorem dL_law_513 : decode cL_law 513 = .ok (.aload_n 2, 1) := dkg_L_28.1
theorem dL_law_514 : decode cL_law 514 = .ok (.invokevirtual 53, 3) := dkg_L_28.2.1
theorem dL_law_517 : decode cL_law 517 = .ok (.pop, 1) := dkg_L_28.2.2.1
theorem dL_law_518 : decode cL_law 518 = .ok (.goto 859, 3) := dkg_L_28.2.2.2.1
theorem dL_law_521 : decode cL_law 521 = .ok (.aload_n 1, 1) := dkg_L_28.2.2.2.2.1
theorem dL_law_522 : decode cL_law 522 = .ok (.invokevirtual 54, 3) := dkg_L_28.2.2.2.2.2.1
theorem dL_law_525 : decode cL_law 525 = .ok (.pop, 1) := dkg_L_28.2.2.2.2.2.2.1
theorem dL_law_526 : decode cL_law 526 = .ok (.aload_n 2, 1) := dkg_L_28.2.2.2.2.2.2.2.1
theorem dL_law_527 : decode cL_law 527 = .ok (.invokevirtual 57, 3) := dkg_L_28.2.2.2.2.2.2.2.2.1
theorem dL_law_530 : decode cL_law 530 = .ok (.pop, 1) := dkg_L_28.2.2.2.2.2.2.2.2.2.1
theorem dkg_L_29 : dkp cL_law [(531, .goto 846, 3), (534, .aload_n 1, 1), (535, .aload_n 0, 1), (536, .iload_n 3, 1), (537, .iconst 1, 1), (538, .iadd, 1), (539, .iaload, 1), (540, .aload_n 0, 1), (541, .iload_n 3, 1), (542, .iconst 2, 1)] := dkf (by decide +kernel)
theorem dL_law_531 : decode cL_law 531 = .ok (.goto 846, 3) := dkg_L_29.1
theorem dL_law_534 : decode cL_law 534 = .ok (.aload_n 1, 1) := dkg_L_29.2.1
theorem dL_law_535 : decode cL_law 535 = .ok (.aload_n 0, 1) := dkg_L_29.2.2.1
theorem dL_law_536 : decode cL_law 536 = .ok (.iload_n 3, 1) := dkg_L_29.2.2.2.1
theorem dL_law_537 : decode cL_law 537 = .ok (.iconst 1, 1) := dkg_L_29.2.2.2.2.1
theorem dL_law_538 : decode cL_law 538 = .ok (.iadd, 1) := dkg_L_29.2.2.2.2.2.1
theorem dL_law_539 : decode cL_law 539 = .ok (.iaload, 1) := dkg_L_29.2.2.2.2.2.2.1
theorem dL_law_540 : decode cL_law 540 = .ok (.aload_n 0, 1) := dkg_L_29.2.2.2.2.2.2.2.1
theorem dL_law_541 : decode cL_law 541 = .ok (.iload_n 3, 1) := dkg_L_29.2.2.2.2.2.2.2.2.1
theorem dL_law_542 : decode cL_law 542 = .ok (.iconst 2, 1) := dkg_L_29.2.2.2.2.2.2.2.2.2.1
theorem dkg_L_30 : dkp cL_law [(543, .iadd, 1), (544, .iaload, 1), (545, .aload_n 0, 1), (546, .iload_n 3, 1), (547, .iconst 3, 1), (548, .iadd, 1), (549, .iaload, 1), (550, .invokevirtual 58, 3), (553, .pop, 1), (554, .aload_n 2, 1)] := dkf (by decide +kernel)
theorem dL_law_543 : decode cL_law 543 = .ok (.iadd, 1) := dkg_L_30.1
theorem dL_law_544 : decode cL_law 544 = .ok (.iaload, 1) := dkg_L_30.2.1
theorem dL_law_545 : decode cL_law 545 = .ok (.aload_n 0, 1) := dkg_L_30.2.2.1
theorem dL_law_546 : decode cL_law 546 = .ok (.iload_n 3, 1) := dkg_L_30.2.2.2.1
theorem dL_law_547 : decode cL_law 547 = .ok (.iconst 3, 1) := dkg_L_30.2.2.2.2.1
theorem dL_law_548 : decode cL_law 548 = .ok (.iadd, 1) := dkg_L_30.2.2.2.2.2.1
theorem dL_law_549 : decode cL_law 549 = .ok (.iaload, 1) := dkg_L_30.2.2.2.2.2.2.1
theorem dL_law_550 : decode cL_law 550 = .ok (.invokevirtual 58, 3) := dkg_L_30.2.2.2.2.2.2.2.1
theorem dL_law_553 : decode cL_law 553 = .ok (.pop, 1) := dkg_L_30.2.2.2.2.2.2.2.2.1
theorem dL_law_554 : decode cL_law 554 = .ok (.aload_n 2, 1) := dkg_L_30.2.2.2.2.2.2.2.2.2.1
theorem dkg_L_31 : dkp cL_law [(555, .aload_n 0, 1), (556, .iload_n 3, 1), (557, .iconst 1, 1), (558, .iadd, 1), (559, .iaload, 1), (560, .aload_n 0, 1), (561, .iload_n 3, 1), (562, .iconst 2, 1), (563, .iadd, 1), (564, .iaload, 1)] := dkf (by decide +kernel)
theorem dL_law_555 : decode cL_law 555 = .ok (.aload_n 0, 1) := dkg_L_31.1
theorem dL_law_556 : decode cL_law 556 = .ok (.iload_n 3, 1) := dkg_L_31.2.1
theorem dL_law_557 : decode cL_law 557 = .ok (.iconst 1, 1) := dkg_L_31.2.2.1
theorem dL_law_558 : decode cL_law 558 = .ok (.iadd, 1) := dkg_L_31.2.2.2.1
theorem dL_law_559 : decode cL_law 559 = .ok (.iaload, 1) := dkg_L_31.2.2.2.2.1
theorem dL_law_560 : decode cL_law 560 = .ok (.aload_n 0, 1) := dkg_L_31.2.2.2.2.2.1
theorem dL_law_561 : decode cL_law 561 = .ok (.iload_n 3, 1) := dkg_L_31.2.2.2.2.2.2.1
theorem dL_law_562 : decode cL_law 562 = .ok (.iconst 2, 1) := dkg_L_31.2.2.2.2.2.2.2.1
theorem dL_law_563 : decode cL_law 563 = .ok (.iadd, 1) := dkg_L_31.2.2.2.2.2.2.2.2.1
theorem dL_law_564 : decode cL_law 564 = .ok (.iaload, 1) := dkg_L_31.2.2.2.2.2.2.2.2.2.1
theorem dkg_L_32 : dkp cL_law [(565, .aload_n 0, 1), (566, .iload_n 3, 1), (567, .iconst 3, 1), (568, .iadd, 1), (569, .iaload, 1), (570, .invokevirtual 61, 3), (573, .pop, 1), (574, .goto 803, 3), (577, .aload_n 1, 1), (578, .aload_n 0, 1)] := dkf (by decide +kernel)
theorem dL_law_565 : decode cL_law 565 = .ok (.aload_n 0, 1) := dkg_L_32.1
theorem dL_law_566 : decode cL_law 566 = .ok (.iload_n 3, 1) := dkg_L_32.2.1
theorem dL_law_567 : decode cL_law 567 = .ok (.iconst 3, 1) := dkg_L_32.2.2.1
theorem dL_law_568 : decode cL_law 568 = .ok (.iadd, 1) := dkg_L_32.2.2.2.1
theorem dL_law_569 : decode cL_law 569 = .ok (.iaload, 1) := dkg_L_32.2.2.2.2.1
theorem dL_law_570 : decode cL_law 570 = .ok (.invokevirtual 61, 3) := dkg_L_32.2.2.2.2.2.1
theorem dL_law_573 : decode cL_law 573 = .ok (.pop, 1) := dkg_L_32.2.2.2.2.2.2.1
theorem dL_law_574 : decode cL_law 574 = .ok (.goto 803, 3) := dkg_L_32.2.2.2.2.2.2.2.1
theorem dL_law_577 : decode cL_law 577 = .ok (.aload_n 1, 1) := dkg_L_32.2.2.2.2.2.2.2.2.1
theorem dL_law_578 : decode cL_law 578 = .ok (.aload_n 0, 1) := dkg_L_32.2.2.2.2.2.2.2.2.2.1
theorem dkg_L_33 : dkp cL_law [(579, .iload_n 3, 1), (580, .iconst 1, 1), (581, .iadd, 1), (582, .iaload, 1), (583, .invokevirtual 62, 3), (586, .pop, 1), (587, .aload_n 2, 1), (588, .aload_n 0, 1), (589, .iload_n 3, 1), (590, .iconst 1, 1)] := dkf (by decide +kernel)
theorem dL_law_579 : decode cL_law 579 = .ok (.iload_n 3, 1) := dkg_L_33.1
theorem dL_law_580 : decode cL_law 580 = .ok (.iconst 1, 1) := dkg_L_33.2.1
theorem dL_law_581 : decode cL_law 581 = .ok (.iadd, 1) := dkg_L_33.2.2.1
theorem dL_law_582 : decode cL_law 582 = .ok (.iaload, 1) := dkg_L_33.2.2.2.1
theorem dL_law_583 : decode cL_law 583 = .ok (.invokevirtual 62, 3) := dkg_L_33.2.2.2.2.1
theorem dL_law_586 : decode cL_law 586 = .ok (.pop, 1) := dkg_L_33.2.2.2.2.2.1
theorem dL_law_587 : decode cL_law 587 = .ok (.aload_n 2, 1) := dkg_L_33.2.2.2.2.2.2.1
theorem dL_law_588 : decode cL_law 588 = .ok (.aload_n 0, 1) := dkg_L_33.2.2.2.2.2.2.2.1
theorem dL_law_589 : decode cL_law 589 = .ok (.iload_n 3, 1) := dkg_L_33.2.2.2.2.2.2.2.2.1
theorem dL_law_590 : decode cL_law 590 = .ok (.iconst 1, 1) := dkg_L_33.2.2.2.2.2.2.2.2.2.1
theorem dkg_L_34 : dkp cL_law [(591, .iadd, 1), (592, .iaload, 1), (593, .invokevirtual 65, 3), (596, .pop, 1), (597, .goto 780, 3), (600, .aload_n 1, 1), (601, .aload_n 0, 1), (602, .iload_n 3, 1), (603, .iconst 1, 1), (604, .iadd, 1)] := dkf (by decide +kernel)
theorem dL_law_591 : decode cL_law 591 = .ok (.iadd, 1) := dkg_L_34.1
theorem dL_law_592 : decode cL_law 592 = .ok (.iaload, 1) := dkg_L_34.2.1
theorem dL_law_593 : decode cL_law 593 = .ok (.invokevirtual 65, 3) := dkg_L_34.2.2.1
theorem dL_law_596 : decode cL_law 596 = .ok (.pop, 1) := dkg_L_34.2.2.2.1
theorem dL_law_597 : decode cL_law 597 = .ok (.goto 780, 3) := dkg_L_34.2.2.2.2.1
theorem dL_law_600 : decode cL_law 600 = .ok (.aload_n 1, 1) := dkg_L_34.2.2.2.2.2.1
theorem dL_law_601 : decode cL_law 601 = .ok (.aload_n 0, 1) := dkg_L_34.2.2.2.2.2.2.1
theorem dL_law_602 : decode cL_law 602 = .ok (.iload_n 3, 1) := dkg_L_34.2.2.2.2.2.2.2.1
theorem dL_law_603 : decode cL_law 603 = .ok (.iconst 1, 1) := dkg_L_34.2.2.2.2.2.2.2.2.1
theorem dL_law_604 : decode cL_law 604 = .ok (.iadd, 1) := dkg_L_34.2.2.2.2.2.2.2.2.2.1
theorem dkg_L_35 : dkp cL_law [(605, .iaload, 1), (606, .invokevirtual 66, 3), (609, .pop, 1), (610, .aload_n 2, 1), (611, .aload_n 0, 1), (612, .iload_n 3, 1), (613, .iconst 1, 1), (614, .iadd, 1), (615, .iaload, 1), (616, .invokevirtual 69, 3)] := dkf (by decide +kernel)
theorem dL_law_605 : decode cL_law 605 = .ok (.iaload, 1) := dkg_L_35.1
theorem dL_law_606 : decode cL_law 606 = .ok (.invokevirtual 66, 3) := dkg_L_35.2.1
theorem dL_law_609 : decode cL_law 609 = .ok (.pop, 1) := dkg_L_35.2.2.1
theorem dL_law_610 : decode cL_law 610 = .ok (.aload_n 2, 1) := dkg_L_35.2.2.2.1
theorem dL_law_611 : decode cL_law 611 = .ok (.aload_n 0, 1) := dkg_L_35.2.2.2.2.1
theorem dL_law_612 : decode cL_law 612 = .ok (.iload_n 3, 1) := dkg_L_35.2.2.2.2.2.1
theorem dL_law_613 : decode cL_law 613 = .ok (.iconst 1, 1) := dkg_L_35.2.2.2.2.2.2.1
theorem dL_law_614 : decode cL_law 614 = .ok (.iadd, 1) := dkg_L_35.2.2.2.2.2.2.2.1
theorem dL_law_615 : decode cL_law 615 = .ok (.iaload, 1) := dkg_L_35.2.2.2.2.2.2.2.2.1
theorem dL_law_616 : decode cL_law 616 = .ok (.invokevirtual 69, 3) := dkg_L_35.2.2.2.2.2.2.2.2.2.1
theorem dkg_L_36 : dkp cL_law [(619, .pop, 1), (620, .goto 757, 3), (623, .aload_n 1, 1), (624, .invokevirtual 70, 3), (627, .pop, 1), (628, .aload_n 2, 1), (629, .invokevirtual 73, 3), (632, .pop, 1), (633, .goto 744, 3), (636, .aload_n 1, 1)] := dkf (by decide +kernel)
theorem dL_law_619 : decode cL_law 619 = .ok (.pop, 1) := dkg_L_36.1
theorem dL_law_620 : decode cL_law 620 = .ok (.goto 757, 3) := dkg_L_36.2.1
theorem dL_law_623 : decode cL_law 623 = .ok (.aload_n 1, 1) := dkg_L_36.2.2.1
theorem dL_law_624 : decode cL_law 624 = .ok (.invokevirtual 70, 3) := dkg_L_36.2.2.2.1
theorem dL_law_627 : decode cL_law 627 = .ok (.pop, 1) := dkg_L_36.2.2.2.2.1
theorem dL_law_628 : decode cL_law 628 = .ok (.aload_n 2, 1) := dkg_L_36.2.2.2.2.2.1
theorem dL_law_629 : decode cL_law 629 = .ok (.invokevirtual 73, 3) := dkg_L_36.2.2.2.2.2.2.1
theorem dL_law_632 : decode cL_law 632 = .ok (.pop, 1) := dkg_L_36.2.2.2.2.2.2.2.1
theorem dL_law_633 : decode cL_law 633 = .ok (.goto 744, 3) := dkg_L_36.2.2.2.2.2.2.2.2.1
theorem dL_law_636 : decode cL_law 636 = .ok (.aload_n 1, 1) := dkg_L_36.2.2.2.2.2.2.2.2.2.1
theorem dkg_L_37 : dkp cL_law [(637, .invokevirtual 74, 3), (640, .aload_n 2, 1), (641, .invokevirtual 77, 3), (644, .if_icmp .eq 733, 3), (647, .iconst 0, 1), (648, .ireturn, 1), (649, .aload_n 1, 1), (650, .aload_n 0, 1), (651, .iload_n 3, 1), (652, .iconst 1, 1)] := dkf (by decide +kernel)
theorem dL_law_637 : decode cL_law 637 = .ok (.invokevirtual 74, 3) := dkg_L_37.1
theorem dL_law_640 : decode cL_law 640 = .ok (.aload_n 2, 1) := dkg_L_37.2.1
theorem dL_law_641 : decode cL_law 641 = .ok (.invokevirtual 77, 3) := dkg_L_37.2.2.1
theorem dL_law_644 : decode cL_law 644 = .ok (.if_icmp .eq 733, 3) := dkg_L_37.2.2.2.1
theorem dL_law_649 : decode cL_law 649 = .ok (.aload_n 1, 1) := dkg_L_37.2.2.2.2.2.2.1
theorem dL_law_650 : decode cL_law 650 = .ok (.aload_n 0, 1) := dkg_L_37.2.2.2.2.2.2.2.1
theorem dL_law_651 : decode cL_law 651 = .ok (.iload_n 3, 1) := dkg_L_37.2.2.2.2.2.2.2.2.1
theorem dL_law_652 : decode cL_law 652 = .ok (.iconst 1, 1) := dkg_L_37.2.2.2.2.2.2.2.2.2.1
theorem dkg_L_38 : dkp cL_law [(653, .iadd, 1), (654, .iaload, 1), (655, .invokevirtual 78, 3), (658, .pop, 1), (659, .aload_n 2, 1), (660, .aload_n 0, 1), (661, .iload_n 3, 1), (662, .iconst 1, 1), (663, .iadd, 1), (664, .iaload, 1)] := dkf (by decide +kernel)
theorem dL_law_653 : decode cL_law 653 = .ok (.iadd, 1) := dkg_L_38.1
theorem dL_law_654 : decode cL_law 654 = .ok (.iaload, 1) := dkg_L_38.2.1
theorem dL_law_655 : decode cL_law 655 = .ok (.invokevirtual 78, 3) := dkg_L_38.2.2.1
theorem dL_law_658 : decode cL_law 658 = .ok (.pop, 1) := dkg_L_38.2.2.2.1
theorem dL_law_659 : decode cL_law 659 = .ok (.aload_n 2, 1) := dkg_L_38.2.2.2.2.1
theorem dL_law_660 : decode cL_law 660 = .ok (.aload_n 0, 1) := dkg_L_38.2.2.2.2.2.1
theorem dL_law_661 : decode cL_law 661 = .ok (.iload_n 3, 1) := dkg_L_38.2.2.2.2.2.2.1
theorem dL_law_662 : decode cL_law 662 = .ok (.iconst 1, 1) := dkg_L_38.2.2.2.2.2.2.2.1
theorem dL_law_663 : decode cL_law 663 = .ok (.iadd, 1) := dkg_L_38.2.2.2.2.2.2.2.2.1
theorem dL_law_664 : decode cL_law 664 = .ok (.iaload, 1) := dkg_L_38.2.2.2.2.2.2.2.2.2.1
theorem dkg_L_39 : dkp cL_law [(665, .invokevirtual 81, 3), (668, .pop, 1), (669, .goto 708, 3), (672, .aload_n 1, 1), (673, .aload_n 0, 1), (674, .iload_n 3, 1), (675, .iconst 1, 1), (676, .iadd, 1), (677, .iaload, 1), (678, .aload_n 0, 1)] := dkf (by decide +kernel)
theorem dL_law_665 : decode cL_law 665 = .ok (.invokevirtual 81, 3) := dkg_L_39.1
theorem dL_law_668 : decode cL_law 668 = .ok (.pop, 1) := dkg_L_39.2.1
theorem dL_law_669 : decode cL_law 669 = .ok (.goto 708, 3) := dkg_L_39.2.2.1
theorem dL_law_672 : decode cL_law 672 = .ok (.aload_n 1, 1) := dkg_L_39.2.2.2.1
theorem dL_law_673 : decode cL_law 673 = .ok (.aload_n 0, 1) := dkg_L_39.2.2.2.2.1
theorem dL_law_674 : decode cL_law 674 = .ok (.iload_n 3, 1) := dkg_L_39.2.2.2.2.2.1
theorem dL_law_675 : decode cL_law 675 = .ok (.iconst 1, 1) := dkg_L_39.2.2.2.2.2.2.1
theorem dL_law_676 : decode cL_law 676 = .ok (.iadd, 1) := dkg_L_39.2.2.2.2.2.2.2.1
theorem dL_law_677 : decode cL_law 677 = .ok (.iaload, 1) := dkg_L_39.2.2.2.2.2.2.2.2.1
theorem dL_law_678 : decode cL_law 678 = .ok (.aload_n 0, 1) := dkg_L_39.2.2.2.2.2.2.2.2.2.1
theorem dkg_L_40 : dkp cL_law [(679, .iload_n 3, 1), (680, .iconst 2, 1), (681, .iadd, 1), (682, .iaload, 1), (683, .invokevirtual 82, 3), (686, .pop, 1), (687, .aload_n 2, 1), (688, .aload_n 0, 1), (689, .iload_n 3, 1), (690, .iconst 1, 1)] := dkf (by decide +kernel)
theorem dL_law_679 : decode cL_law 679 = .ok (.iload_n 3, 1) := dkg_L_40.1
theorem dL_law_680 : decode cL_law 680 = .ok (.iconst 2, 1) := dkg_L_40.2.1
theorem dL_law_681 : decode cL_law 681 = .ok (.iadd, 1) := dkg_L_40.2.2.1
theorem dL_law_682 : decode cL_law 682 = .ok (.iaload, 1) := dkg_L_40.2.2.2.1
theorem dL_law_683 : decode cL_law 683 = .ok (.invokevirtual 82, 3) := dkg_L_40.2.2.2.2.1
theorem dL_law_686 : decode cL_law 686 = .ok (.pop, 1) := dkg_L_40.2.2.2.2.2.1
theorem dL_law_687 : decode cL_law 687 = .ok (.aload_n 2, 1) := dkg_L_40.2.2.2.2.2.2.1
theorem dL_law_688 : decode cL_law 688 = .ok (.aload_n 0, 1) := dkg_L_40.2.2.2.2.2.2.2.1
theorem dL_law_689 : decode cL_law 689 = .ok (.iload_n 3, 1) := dkg_L_40.2.2.2.2.2.2.2.2.1
theorem dL_law_690 : decode cL_law 690 = .ok (.iconst 1, 1) := dkg_L_40.2.2.2.2.2.2.2.2.2.1
theorem dkg_L_41 : dkp cL_law [(691, .iadd, 1), (692, .iaload, 1), (693, .aload_n 0, 1), (694, .iload_n 3, 1), (695, .iconst 2, 1), (696, .iadd, 1), (697, .iaload, 1), (698, .invokevirtual 85, 3), (701, .pop, 1), (702, .goto 675, 3)] := dkf (by decide +kernel)
theorem dL_law_691 : decode cL_law 691 = .ok (.iadd, 1) := dkg_L_41.1
theorem dL_law_692 : decode cL_law 692 = .ok (.iaload, 1) := dkg_L_41.2.1
theorem dL_law_693 : decode cL_law 693 = .ok (.aload_n 0, 1) := dkg_L_41.2.2.1
theorem dL_law_694 : decode cL_law 694 = .ok (.iload_n 3, 1) := dkg_L_41.2.2.2.1
theorem dL_law_695 : decode cL_law 695 = .ok (.iconst 2, 1) := dkg_L_41.2.2.2.2.1
theorem dL_law_696 : decode cL_law 696 = .ok (.iadd, 1) := dkg_L_41.2.2.2.2.2.1
theorem dL_law_697 : decode cL_law 697 = .ok (.iaload, 1) := dkg_L_41.2.2.2.2.2.2.1
theorem dL_law_698 : decode cL_law 698 = .ok (.invokevirtual 85, 3) := dkg_L_41.2.2.2.2.2.2.2.1
theorem dL_law_701 : decode cL_law 701 = .ok (.pop, 1) := dkg_L_41.2.2.2.2.2.2.2.2.1
theorem dL_law_702 : decode cL_law 702 = .ok (.goto 675, 3) := dkg_L_41.2.2.2.2.2.2.2.2.2.1
theorem dkg_L_42 : dkp cL_law [(705, .aload_n 1, 1), (706, .aload_n 0, 1), (707, .iload_n 3, 1), (708, .iconst 1, 1), (709, .iadd, 1), (710, .iaload, 1), (711, .aload_n 0, 1), (712, .iload_n 3, 1), (713, .iconst 2, 1), (714, .iadd, 1)] := dkf (by decide +kernel)
theorem dL_law_705 : decode cL_law 705 = .ok (.aload_n 1, 1) := dkg_L_42.1
theorem dL_law_706 : decode cL_law 706 = .ok (.aload_n 0, 1) := dkg_L_42.2.1
theorem dL_law_707 : decode cL_law 707 = .ok (.iload_n 3, 1) := dkg_L_42.2.2.1
theorem dL_law_708 : decode cL_law 708 = .ok (.iconst 1, 1) := dkg_L_42.2.2.2.1
theorem dL_law_709 : decode cL_law 709 = .ok (.iadd, 1) := dkg_L_42.2.2.2.2.1
theorem dL_law_710 : decode cL_law 710 = .ok (.iaload, 1) := dkg_L_42.2.2.2.2.2.1
theorem dL_law_711 : decode cL_law 711 = .ok (.aload_n 0, 1) := dkg_L_42.2.2.2.2.2.2.1
theorem dL_law_712 : decode cL_law 712 = .ok (.iload_n 3, 1) := dkg_L_42.2.2.2.2.2.2.2.1
theorem dL_law_713 : decode cL_law 713 = .ok (.iconst 2, 1) := dkg_L_42.2.2.2.2.2.2.2.2.1
theorem dL_law_714 : decode cL_law 714 = .ok (.iadd, 1) := dkg_L_42.2.2.2.2.2.2.2.2.2.1
theorem dkg_L_43 : dkp cL_law [(715, .iaload, 1), (716, .aload_n 0, 1), (717, .iload_n 3, 1), (718, .iconst 3, 1), (719, .iadd, 1), (720, .iaload, 1), (721, .invokevirtual 86, 3), (724, .pop, 1), (725, .aload_n 2, 1), (726, .aload_n 0, 1)] := dkf (by decide +kernel)
theorem dL_law_715 : decode cL_law 715 = .ok (.iaload, 1) := dkg_L_43.1
theorem dL_law_716 : decode cL_law 716 = .ok (.aload_n 0, 1) := dkg_L_43.2.1
theorem dL_law_717 : decode cL_law 717 = .ok (.iload_n 3, 1) := dkg_L_43.2.2.1
theorem dL_law_718 : decode cL_law 718 = .ok (.iconst 3, 1) := dkg_L_43.2.2.2.1
theorem dL_law_719 : decode cL_law 719 = .ok (.iadd, 1) := dkg_L_43.2.2.2.2.1
theorem dL_law_720 : decode cL_law 720 = .ok (.iaload, 1) := dkg_L_43.2.2.2.2.2.1
theorem dL_law_721 : decode cL_law 721 = .ok (.invokevirtual 86, 3) := dkg_L_43.2.2.2.2.2.2.1
theorem dL_law_724 : decode cL_law 724 = .ok (.pop, 1) := dkg_L_43.2.2.2.2.2.2.2.1
theorem dL_law_725 : decode cL_law 725 = .ok (.aload_n 2, 1) := dkg_L_43.2.2.2.2.2.2.2.2.1
theorem dL_law_726 : decode cL_law 726 = .ok (.aload_n 0, 1) := dkg_L_43.2.2.2.2.2.2.2.2.2.1
theorem dkg_L_44 : dkp cL_law [(727, .iload_n 3, 1), (728, .iconst 1, 1), (729, .iadd, 1), (730, .iaload, 1), (731, .aload_n 0, 1), (732, .iload_n 3, 1), (733, .iconst 2, 1), (734, .iadd, 1), (735, .iaload, 1), (736, .aload_n 0, 1)] := dkf (by decide +kernel)
theorem dL_law_727 : decode cL_law 727 = .ok (.iload_n 3, 1) := dkg_L_44.1
theorem dL_law_728 : decode cL_law 728 = .ok (.iconst 1, 1) := dkg_L_44.2.1
theorem dL_law_729 : decode cL_law 729 = .ok (.iadd, 1) := dkg_L_44.2.2.1
theorem dL_law_730 : decode cL_law 730 = .ok (.iaload, 1) := dkg_L_44.2.2.2.1
theorem dL_law_731 : decode cL_law 731 = .ok (.aload_n 0, 1) := dkg_L_44.2.2.2.2.1
theorem dL_law_732 : decode cL_law 732 = .ok (.iload_n 3, 1) := dkg_L_44.2.2.2.2.2.1
theorem dL_law_733 : decode cL_law 733 = .ok (.iconst 2, 1) := dkg_L_44.2.2.2.2.2.2.1
theorem dL_law_734 : decode cL_law 734 = .ok (.iadd, 1) := dkg_L_44.2.2.2.2.2.2.2.1
theorem dL_law_735 : decode cL_law 735 = .ok (.iaload, 1) := dkg_L_44.2.2.2.2.2.2.2.2.1
theorem dL_law_736 : decode cL_law 736 = .ok (.aload_n 0, 1) := dkg_L_44.2.2.2.2.2.2.2.2.2.1
theorem dkg_L_45 : dkp cL_law [(737, .iload_n 3, 1), (738, .iconst 3, 1), (739, .iadd, 1), (740, .iaload, 1), (741, .invokevirtual 89, 3), (744, .pop, 1), (745, .goto 632, 3), (748, .aload_n 1, 1), (749, .aload_n 0, 1), (750, .iload_n 3, 1)] := dkf (by decide +kernel)
theorem dL_law_737 : decode cL_law 737 = .ok (.iload_n 3, 1) := dkg_L_45.1
theorem dL_law_738 : decode cL_law 738 = .ok (.iconst 3, 1) := dkg_L_45.2.1
theorem dL_law_739 : decode cL_law 739 = .ok (.iadd, 1) := dkg_L_45.2.2.1
theorem dL_law_740 : decode cL_law 740 = .ok (.iaload, 1) := dkg_L_45.2.2.2.1
theorem dL_law_741 : decode cL_law 741 = .ok (.invokevirtual 89, 3) := dkg_L_45.2.2.2.2.1
theorem dL_law_744 : decode cL_law 744 = .ok (.pop, 1) := dkg_L_45.2.2.2.2.2.1
theorem dL_law_745 : decode cL_law 745 = .ok (.goto 632, 3) := dkg_L_45.2.2.2.2.2.2.1
theorem dL_law_748 : decode cL_law 748 = .ok (.aload_n 1, 1) := dkg_L_45.2.2.2.2.2.2.2.1
theorem dL_law_749 : decode cL_law 749 = .ok (.aload_n 0, 1) := dkg_L_45.2.2.2.2.2.2.2.2.1
theorem dL_law_750 : decode cL_law 750 = .ok (.iload_n 3, 1) := dkg_L_45.2.2.2.2.2.2.2.2.2.1
theorem dkg_L_46 : dkp cL_law [(751, .iconst 1, 1), (752, .iadd, 1), (753, .iaload, 1), (754, .aload_n 0, 1), (755, .iload_n 3, 1), (756, .iconst 2, 1), (757, .iadd, 1), (758, .iaload, 1), (759, .invokevirtual 90, 3), (762, .pop, 1)] := dkf (by decide +kernel)
theorem dL_law_751 : decode cL_law 751 = .ok (.iconst 1, 1) := dkg_L_46.1
theorem dL_law_752 : decode cL_law 752 = .ok (.iadd, 1) := dkg_L_46.2.1
theorem dL_law_753 : decode cL_law 753 = .ok (.iaload, 1) := dkg_L_46.2.2.1
theorem dL_law_754 : decode cL_law 754 = .ok (.aload_n 0, 1) := dkg_L_46.2.2.2.1
theorem dL_law_755 : decode cL_law 755 = .ok (.iload_n 3, 1) := dkg_L_46.2.2.2.2.1
theorem dL_law_756 : decode cL_law 756 = .ok (.iconst 2, 1) := dkg_L_46.2.2.2.2.2.1
theorem dL_law_757 : decode cL_law 757 = .ok (.iadd, 1) := dkg_L_46.2.2.2.2.2.2.1
theorem dL_law_758 : decode cL_law 758 = .ok (.iaload, 1) := dkg_L_46.2.2.2.2.2.2.2.1
theorem dL_law_759 : decode cL_law 759 = .ok (.invokevirtual 90, 3) := dkg_L_46.2.2.2.2.2.2.2.2.1
theorem dL_law_762 : decode cL_law 762 = .ok (.pop, 1) := dkg_L_46.2.2.2.2.2.2.2.2.2.1
theorem dkg_L_47 : dkp cL_law [(763, .aload_n 2, 1), (764, .aload_n 0, 1), (765, .iload_n 3, 1), (766, .iconst 1, 1), (767, .iadd, 1), (768, .iaload, 1), (769, .aload_n 0, 1), (770, .iload_n 3, 1), (771, .iconst 2, 1), (772, .iadd, 1)] := dkf (by decide +kernel)
theorem dL_law_763 : decode cL_law 763 = .ok (.aload_n 2, 1) := dkg_L_47.1
theorem dL_law_764 : decode cL_law 764 = .ok (.aload_n 0, 1) := dkg_L_47.2.1
theorem dL_law_765 : decode cL_law 765 = .ok (.iload_n 3, 1) := dkg_L_47.2.2.1
theorem dL_law_766 : decode cL_law 766 = .ok (.iconst 1, 1) := dkg_L_47.2.2.2.1
theorem dL_law_767 : decode cL_law 767 = .ok (.iadd, 1) := dkg_L_47.2.2.2.2.1
theorem dL_law_768 : decode cL_law 768 = .ok (.iaload, 1) := dkg_L_47.2.2.2.2.2.1
theorem dL_law_769 : decode cL_law 769 = .ok (.aload_n 0, 1) := dkg_L_47.2.2.2.2.2.2.1
theorem dL_law_770 : decode cL_law 770 = .ok (.iload_n 3, 1) := dkg_L_47.2.2.2.2.2.2.2.1
theorem dL_law_771 : decode cL_law 771 = .ok (.iconst 2, 1) := dkg_L_47.2.2.2.2.2.2.2.2.1
theorem dL_law_772 : decode cL_law 772 = .ok (.iadd, 1) := dkg_L_47.2.2.2.2.2.2.2.2.2.1
theorem dkg_L_48 : dkp cL_law [(773, .iaload, 1), (774, .invokevirtual 93, 3), (777, .pop, 1), (778, .goto 599, 3), (781, .aload_n 1, 1), (782, .aload_n 0, 1), (783, .iload_n 3, 1), (784, .iconst 1, 1), (785, .iadd, 1), (786, .iaload, 1)] := dkf (by decide +kernel)
theorem dL_law_773 : decode cL_law 773 = .ok (.iaload, 1) := dkg_L_48.1
theorem dL_law_774 : decode cL_law 774 = .ok (.invokevirtual 93, 3) := dkg_L_48.2.1
theorem dL_law_777 : decode cL_law 777 = .ok (.pop, 1) := dkg_L_48.2.2.1
theorem dL_law_778 : decode cL_law 778 = .ok (.goto 599, 3) := dkg_L_48.2.2.2.1
theorem dL_law_781 : decode cL_law 781 = .ok (.aload_n 1, 1) := dkg_L_48.2.2.2.2.1
theorem dL_law_782 : decode cL_law 782 = .ok (.aload_n 0, 1) := dkg_L_48.2.2.2.2.2.1
theorem dL_law_783 : decode cL_law 783 = .ok (.iload_n 3, 1) := dkg_L_48.2.2.2.2.2.2.1
theorem dL_law_784 : decode cL_law 784 = .ok (.iconst 1, 1) := dkg_L_48.2.2.2.2.2.2.2.1
theorem dL_law_785 : decode cL_law 785 = .ok (.iadd, 1) := dkg_L_48.2.2.2.2.2.2.2.2.1
theorem dL_law_786 : decode cL_law 786 = .ok (.iaload, 1) := dkg_L_48.2.2.2.2.2.2.2.2.2.1
theorem dkg_L_49 : dkp cL_law [(787, .invokevirtual 94, 3), (790, .pop, 1), (791, .aload_n 2, 1), (792, .aload_n 0, 1), (793, .iload_n 3, 1), (794, .iconst 1, 1), (795, .iadd, 1), (796, .iaload, 1), (797, .invokevirtual 97, 3), (800, .pop, 1)] := dkf (by decide +kernel)
theorem dL_law_787 : decode cL_law 787 = .ok (.invokevirtual 94, 3) := dkg_L_49.1
theorem dL_law_790 : decode cL_law 790 = .ok (.pop, 1) := dkg_L_49.2.1
theorem dL_law_791 : decode cL_law 791 = .ok (.aload_n 2, 1) := dkg_L_49.2.2.1
theorem dL_law_792 : decode cL_law 792 = .ok (.aload_n 0, 1) := dkg_L_49.2.2.2.1
theorem dL_law_793 : decode cL_law 793 = .ok (.iload_n 3, 1) := dkg_L_49.2.2.2.2.1
theorem dL_law_794 : decode cL_law 794 = .ok (.iconst 1, 1) := dkg_L_49.2.2.2.2.2.1
theorem dL_law_795 : decode cL_law 795 = .ok (.iadd, 1) := dkg_L_49.2.2.2.2.2.2.1
theorem dL_law_796 : decode cL_law 796 = .ok (.iaload, 1) := dkg_L_49.2.2.2.2.2.2.2.1
theorem dL_law_797 : decode cL_law 797 = .ok (.invokevirtual 97, 3) := dkg_L_49.2.2.2.2.2.2.2.2.1
theorem dL_law_800 : decode cL_law 800 = .ok (.pop, 1) := dkg_L_49.2.2.2.2.2.2.2.2.2.1
theorem dkg_L_50 : dkp cL_law [(801, .goto 576, 3), (804, .aload_n 1, 1), (805, .aload_n 0, 1), (806, .iload_n 3, 1), (807, .iconst 1, 1), (808, .iadd, 1), (809, .iaload, 1), (810, .aload_n 0, 1), (811, .iload_n 3, 1), (812, .iconst 2, 1)] := dkf (by decide +kernel)
theorem dL_law_801 : decode cL_law 801 = .ok (.goto 576, 3) := dkg_L_50.1
theorem dL_law_804 : decode cL_law 804 = .ok (.aload_n 1, 1) := dkg_L_50.2.1
theorem dL_law_805 : decode cL_law 805 = .ok (.aload_n 0, 1) := dkg_L_50.2.2.1
theorem dL_law_806 : decode cL_law 806 = .ok (.iload_n 3, 1) := dkg_L_50.2.2.2.1
theorem dL_law_807 : decode cL_law 807 = .ok (.iconst 1, 1) := dkg_L_50.2.2.2.2.1
theorem dL_law_808 : decode cL_law 808 = .ok (.iadd, 1) := dkg_L_50.2.2.2.2.2.1
theorem dL_law_809 : decode cL_law 809 = .ok (.iaload, 1) := dkg_L_50.2.2.2.2.2.2.1
theorem dL_law_810 : decode cL_law 810 = .ok (.aload_n 0, 1) := dkg_L_50.2.2.2.2.2.2.2.1
theorem dL_law_811 : decode cL_law 811 = .ok (.iload_n 3, 1) := dkg_L_50.2.2.2.2.2.2.2.2.1
theorem dL_law_812 : decode cL_law 812 = .ok (.iconst 2, 1) := dkg_L_50.2.2.2.2.2.2.2.2.2.1
theorem dkg_L_51 : dkp cL_law [(813, .iadd, 1), (814, .iaload, 1), (815, .aload_n 0, 1), (816, .iload_n 3, 1), (817, .iconst 3, 1), (818, .iadd, 1), (819, .iaload, 1), (820, .aload_n 0, 1), (821, .iload_n 3, 1), (822, .iconst 4, 1)] := dkf (by decide +kernel)
theorem dL_law_813 : decode cL_law 813 = .ok (.iadd, 1) := dkg_L_51.1
theorem dL_law_814 : decode cL_law 814 = .ok (.iaload, 1) := dkg_L_51.2.1
theorem dL_law_815 : decode cL_law 815 = .ok (.aload_n 0, 1) := dkg_L_51.2.2.1
theorem dL_law_816 : decode cL_law 816 = .ok (.iload_n 3, 1) := dkg_L_51.2.2.2.1
theorem dL_law_817 : decode cL_law 817 = .ok (.iconst 3, 1) := dkg_L_51.2.2.2.2.1
theorem dL_law_818 : decode cL_law 818 = .ok (.iadd, 1) := dkg_L_51.2.2.2.2.2.1
theorem dL_law_819 : decode cL_law 819 = .ok (.iaload, 1) := dkg_L_51.2.2.2.2.2.2.1
theorem dL_law_820 : decode cL_law 820 = .ok (.aload_n 0, 1) := dkg_L_51.2.2.2.2.2.2.2.1
theorem dL_law_821 : decode cL_law 821 = .ok (.iload_n 3, 1) := dkg_L_51.2.2.2.2.2.2.2.2.1
theorem dL_law_822 : decode cL_law 822 = .ok (.iconst 4, 1) := dkg_L_51.2.2.2.2.2.2.2.2.2.1
theorem dkg_L_52 : dkp cL_law [(823, .iadd, 1), (824, .iaload, 1), (825, .aload_n 0, 1), (826, .iload_n 3, 1), (827, .iconst 5, 1), (828, .iadd, 1), (829, .iaload, 1), (830, .invokevirtual 98, 3), (833, .pop, 1), (834, .aload_n 2, 1)] := dkf (by decide +kernel)
theorem dL_law_823 : decode cL_law 823 = .ok (.iadd, 1) := dkg_L_52.1
theorem dL_law_824 : decode cL_law 824 = .ok (.iaload, 1) := dkg_L_52.2.1
theorem dL_law_825 : decode cL_law 825 = .ok (.aload_n 0, 1) := dkg_L_52.2.2.1
theorem dL_law_826 : decode cL_law 826 = .ok (.iload_n 3, 1) := dkg_L_52.2.2.2.1
theorem dL_law_827 : decode cL_law 827 = .ok (.iconst 5, 1) := dkg_L_52.2.2.2.2.1
theorem dL_law_828 : decode cL_law 828 = .ok (.iadd, 1) := dkg_L_52.2.2.2.2.2.1
theorem dL_law_829 : decode cL_law 829 = .ok (.iaload, 1) := dkg_L_52.2.2.2.2.2.2.1
theorem dL_law_830 : decode cL_law 830 = .ok (.invokevirtual 98, 3) := dkg_L_52.2.2.2.2.2.2.2.1
theorem dL_law_833 : decode cL_law 833 = .ok (.pop, 1) := dkg_L_52.2.2.2.2.2.2.2.2.1
theorem dL_law_834 : decode cL_law 834 = .ok (.aload_n 2, 1) := dkg_L_52.2.2.2.2.2.2.2.2.2.1
theorem dkg_L_53 : dkp cL_law [(835, .aload_n 0, 1), (836, .iload_n 3, 1), (837, .iconst 1, 1), (838, .iadd, 1), (839, .iaload, 1), (840, .aload_n 0, 1), (841, .iload_n 3, 1), (842, .iconst 2, 1), (843, .iadd, 1), (844, .iaload, 1)] := dkf (by decide +kernel)
theorem dL_law_835 : decode cL_law 835 = .ok (.aload_n 0, 1) := dkg_L_53.1
theorem dL_law_836 : decode cL_law 836 = .ok (.iload_n 3, 1) := dkg_L_53.2.1
theorem dL_law_837 : decode cL_law 837 = .ok (.iconst 1, 1) := dkg_L_53.2.2.1
theorem dL_law_838 : decode cL_law 838 = .ok (.iadd, 1) := dkg_L_53.2.2.2.1
theorem dL_law_839 : decode cL_law 839 = .ok (.iaload, 1) := dkg_L_53.2.2.2.2.1
theorem dL_law_840 : decode cL_law 840 = .ok (.aload_n 0, 1) := dkg_L_53.2.2.2.2.2.1
theorem dL_law_841 : decode cL_law 841 = .ok (.iload_n 3, 1) := dkg_L_53.2.2.2.2.2.2.1
theorem dL_law_842 : decode cL_law 842 = .ok (.iconst 2, 1) := dkg_L_53.2.2.2.2.2.2.2.1
theorem dL_law_843 : decode cL_law 843 = .ok (.iadd, 1) := dkg_L_53.2.2.2.2.2.2.2.2.1
theorem dL_law_844 : decode cL_law 844 = .ok (.iaload, 1) := dkg_L_53.2.2.2.2.2.2.2.2.2.1
theorem dkg_L_54 : dkp cL_law [(845, .aload_n 0, 1), (846, .iload_n 3, 1), (847, .iconst 3, 1), (848, .iadd, 1), (849, .iaload, 1), (850, .aload_n 0, 1), (851, .iload_n 3, 1), (852, .iconst 4, 1), (853, .iadd, 1), (854, .iaload, 1)] := dkf (by decide +kernel)
theorem dL_law_845 : decode cL_law 845 = .ok (.aload_n 0, 1) := dkg_L_54.1
theorem dL_law_846 : decode cL_law 846 = .ok (.iload_n 3, 1) := dkg_L_54.2.1
theorem dL_law_847 : decode cL_law 847 = .ok (.iconst 3, 1) := dkg_L_54.2.2.1
theorem dL_law_848 : decode cL_law 848 = .ok (.iadd, 1) := dkg_L_54.2.2.2.1
theorem dL_law_849 : decode cL_law 849 = .ok (.iaload, 1) := dkg_L_54.2.2.2.2.1
theorem dL_law_850 : decode cL_law 850 = .ok (.aload_n 0, 1) := dkg_L_54.2.2.2.2.2.1
theorem dL_law_851 : decode cL_law 851 = .ok (.iload_n 3, 1) := dkg_L_54.2.2.2.2.2.2.1
theorem dL_law_852 : decode cL_law 852 = .ok (.iconst 4, 1) := dkg_L_54.2.2.2.2.2.2.2.1
theorem dL_law_853 : decode cL_law 853 = .ok (.iadd, 1) := dkg_L_54.2.2.2.2.2.2.2.2.1
theorem dL_law_854 : decode cL_law 854 = .ok (.iaload, 1) := dkg_L_54.2.2.2.2.2.2.2.2.2.1
theorem dkg_L_55 : dkp cL_law [(855, .aload_n 0, 1), (856, .iload_n 3, 1), (857, .iconst 5, 1), (858, .iadd, 1), (859, .iaload, 1), (860, .invokevirtual 101, 3), (863, .pop, 1), (864, .goto 513, 3), (867, .aload_n 1, 1), (868, .aload_n 0, 1)] := dkf (by decide +kernel)
theorem dL_law_855 : decode cL_law 855 = .ok (.aload_n 0, 1) := dkg_L_55.1
theorem dL_law_856 : decode cL_law 856 = .ok (.iload_n 3, 1) := dkg_L_55.2.1
theorem dL_law_857 : decode cL_law 857 = .ok (.iconst 5, 1) := dkg_L_55.2.2.1
theorem dL_law_858 : decode cL_law 858 = .ok (.iadd, 1) := dkg_L_55.2.2.2.1
theorem dL_law_859 : decode cL_law 859 = .ok (.iaload, 1) := dkg_L_55.2.2.2.2.1
theorem dL_law_860 : decode cL_law 860 = .ok (.invokevirtual 101, 3) := dkg_L_55.2.2.2.2.2.1
theorem dL_law_863 : decode cL_law 863 = .ok (.pop, 1) := dkg_L_55.2.2.2.2.2.2.1
theorem dL_law_864 : decode cL_law 864 = .ok (.goto 513, 3) := dkg_L_55.2.2.2.2.2.2.2.1
theorem dL_law_867 : decode cL_law 867 = .ok (.aload_n 1, 1) := dkg_L_55.2.2.2.2.2.2.2.2.1
theorem dL_law_868 : decode cL_law 868 = .ok (.aload_n 0, 1) := dkg_L_55.2.2.2.2.2.2.2.2.2.1
theorem dkg_L_56 : dkp cL_law [(869, .iload_n 3, 1), (870, .iconst 1, 1), (871, .iadd, 1), (872, .iaload, 1), (873, .aload_n 0, 1), (874, .iload_n 3, 1), (875, .iconst 2, 1), (876, .iadd, 1), (877, .iaload, 1), (878, .aload_n 0, 1)] := dkf (by decide +kernel)
theorem dL_law_869 : decode cL_law 869 = .ok (.iload_n 3, 1) := dkg_L_56.1
theorem dL_law_870 : decode cL_law 870 = .ok (.iconst 1, 1) := dkg_L_56.2.1
theorem dL_law_871 : decode cL_law 871 = .ok (.iadd, 1) := dkg_L_56.2.2.1
theorem dL_law_872 : decode cL_law 872 = .ok (.iaload, 1) := dkg_L_56.2.2.2.1
theorem dL_law_873 : decode cL_law 873 = .ok (.aload_n 0, 1) := dkg_L_56.2.2.2.2.1
theorem dL_law_874 : decode cL_law 874 = .ok (.iload_n 3, 1) := dkg_L_56.2.2.2.2.2.1
theorem dL_law_875 : decode cL_law 875 = .ok (.iconst 2, 1) := dkg_L_56.2.2.2.2.2.2.1
theorem dL_law_876 : decode cL_law 876 = .ok (.iadd, 1) := dkg_L_56.2.2.2.2.2.2.2.1
theorem dL_law_877 : decode cL_law 877 = .ok (.iaload, 1) := dkg_L_56.2.2.2.2.2.2.2.2.1
theorem dL_law_878 : decode cL_law 878 = .ok (.aload_n 0, 1) := dkg_L_56.2.2.2.2.2.2.2.2.2.1
theorem dkg_L_57 : dkp cL_law [(879, .iload_n 3, 1), (880, .iconst 3, 1), (881, .iadd, 1), (882, .iaload, 1), (883, .invokevirtual 102, 3), (886, .pop, 1), (887, .aload_n 2, 1), (888, .aload_n 0, 1), (889, .iload_n 3, 1), (890, .iconst 1, 1)] := dkf (by decide +kernel)
theorem dL_law_879 : decode cL_law 879 = .ok (.iload_n 3, 1) := dkg_L_57.1
theorem dL_law_880 : decode cL_law 880 = .ok (.iconst 3, 1) := dkg_L_57.2.1
theorem dL_law_881 : decode cL_law 881 = .ok (.iadd, 1) := dkg_L_57.2.2.1
theorem dL_law_882 : decode cL_law 882 = .ok (.iaload, 1) := dkg_L_57.2.2.2.1
theorem dL_law_883 : decode cL_law 883 = .ok (.invokevirtual 102, 3) := dkg_L_57.2.2.2.2.1
theorem dL_law_886 : decode cL_law 886 = .ok (.pop, 1) := dkg_L_57.2.2.2.2.2.1
theorem dL_law_887 : decode cL_law 887 = .ok (.aload_n 2, 1) := dkg_L_57.2.2.2.2.2.2.1
theorem dL_law_888 : decode cL_law 888 = .ok (.aload_n 0, 1) := dkg_L_57.2.2.2.2.2.2.2.1
theorem dL_law_889 : decode cL_law 889 = .ok (.iload_n 3, 1) := dkg_L_57.2.2.2.2.2.2.2.2.1
theorem dL_law_890 : decode cL_law 890 = .ok (.iconst 1, 1) := dkg_L_57.2.2.2.2.2.2.2.2.2.1
theorem dkg_L_58 : dkp cL_law [(891, .iadd, 1), (892, .iaload, 1), (893, .aload_n 0, 1), (894, .iload_n 3, 1), (895, .iconst 2, 1), (896, .iadd, 1), (897, .iaload, 1), (898, .aload_n 0, 1), (899, .iload_n 3, 1), (900, .iconst 3, 1)] := dkf (by decide +kernel)
theorem dL_law_891 : decode cL_law 891 = .ok (.iadd, 1) := dkg_L_58.1
theorem dL_law_892 : decode cL_law 892 = .ok (.iaload, 1) := dkg_L_58.2.1
theorem dL_law_893 : decode cL_law 893 = .ok (.aload_n 0, 1) := dkg_L_58.2.2.1
theorem dL_law_894 : decode cL_law 894 = .ok (.iload_n 3, 1) := dkg_L_58.2.2.2.1
theorem dL_law_895 : decode cL_law 895 = .ok (.iconst 2, 1) := dkg_L_58.2.2.2.2.1
theorem dL_law_896 : decode cL_law 896 = .ok (.iadd, 1) := dkg_L_58.2.2.2.2.2.1
theorem dL_law_897 : decode cL_law 897 = .ok (.iaload, 1) := dkg_L_58.2.2.2.2.2.2.1
theorem dL_law_898 : decode cL_law 898 = .ok (.aload_n 0, 1) := dkg_L_58.2.2.2.2.2.2.2.1
theorem dL_law_899 : decode cL_law 899 = .ok (.iload_n 3, 1) := dkg_L_58.2.2.2.2.2.2.2.2.1
theorem dL_law_900 : decode cL_law 900 = .ok (.iconst 3, 1) := dkg_L_58.2.2.2.2.2.2.2.2.2.1
theorem dkg_L_59 : dkp cL_law [(901, .iadd, 1), (902, .iaload, 1), (903, .invokevirtual 105, 3), (906, .pop, 1), (907, .goto 470, 3), (910, .aload_n 1, 1), (911, .invokevirtual 106, 3), (914, .pop, 1), (915, .aload_n 2, 1), (916, .invokevirtual 109, 3)] := dkf (by decide +kernel)
theorem dL_law_901 : decode cL_law 901 = .ok (.iadd, 1) := dkg_L_59.1
theorem dL_law_902 : decode cL_law 902 = .ok (.iaload, 1) := dkg_L_59.2.1
theorem dL_law_903 : decode cL_law 903 = .ok (.invokevirtual 105, 3) := dkg_L_59.2.2.1
theorem dL_law_906 : decode cL_law 906 = .ok (.pop, 1) := dkg_L_59.2.2.2.1
theorem dL_law_907 : decode cL_law 907 = .ok (.goto 470, 3) := dkg_L_59.2.2.2.2.1
theorem dL_law_910 : decode cL_law 910 = .ok (.aload_n 1, 1) := dkg_L_59.2.2.2.2.2.1
theorem dL_law_911 : decode cL_law 911 = .ok (.invokevirtual 106, 3) := dkg_L_59.2.2.2.2.2.2.1
theorem dL_law_914 : decode cL_law 914 = .ok (.pop, 1) := dkg_L_59.2.2.2.2.2.2.2.1
theorem dL_law_915 : decode cL_law 915 = .ok (.aload_n 2, 1) := dkg_L_59.2.2.2.2.2.2.2.2.1
theorem dL_law_916 : decode cL_law 916 = .ok (.invokevirtual 109, 3) := dkg_L_59.2.2.2.2.2.2.2.2.2.1
theorem dkg_L_60 : dkp cL_law [(919, .pop, 1), (920, .goto 457, 3), (923, .aload_n 1, 1), (924, .aload_n 0, 1), (925, .iload_n 3, 1), (926, .iconst 1, 1), (927, .iadd, 1), (928, .iaload, 1), (929, .aload_n 0, 1), (930, .iload_n 3, 1)] := dkf (by decide +kernel)
theorem dL_law_919 : decode cL_law 919 = .ok (.pop, 1) := dkg_L_60.1
theorem dL_law_920 : decode cL_law 920 = .ok (.goto 457, 3) := dkg_L_60.2.1
theorem dL_law_923 : decode cL_law 923 = .ok (.aload_n 1, 1) := dkg_L_60.2.2.1
theorem dL_law_924 : decode cL_law 924 = .ok (.aload_n 0, 1) := dkg_L_60.2.2.2.1
theorem dL_law_925 : decode cL_law 925 = .ok (.iload_n 3, 1) := dkg_L_60.2.2.2.2.1
theorem dL_law_926 : decode cL_law 926 = .ok (.iconst 1, 1) := dkg_L_60.2.2.2.2.2.1
theorem dL_law_927 : decode cL_law 927 = .ok (.iadd, 1) := dkg_L_60.2.2.2.2.2.2.1
theorem dL_law_928 : decode cL_law 928 = .ok (.iaload, 1) := dkg_L_60.2.2.2.2.2.2.2.1
theorem dL_law_929 : decode cL_law 929 = .ok (.aload_n 0, 1) := dkg_L_60.2.2.2.2.2.2.2.2.1
theorem dL_law_930 : decode cL_law 930 = .ok (.iload_n 3, 1) := dkg_L_60.2.2.2.2.2.2.2.2.2.1
theorem dkg_L_61 : dkp cL_law [(931, .iconst 2, 1), (932, .iadd, 1), (933, .iaload, 1), (934, .invokevirtual 110, 3), (937, .pop, 1), (938, .aload_n 2, 1), (939, .aload_n 0, 1), (940, .iload_n 3, 1), (941, .iconst 1, 1), (942, .iadd, 1)] := dkf (by decide +kernel)
theorem dL_law_931 : decode cL_law 931 = .ok (.iconst 2, 1) := dkg_L_61.1
theorem dL_law_932 : decode cL_law 932 = .ok (.iadd, 1) := dkg_L_61.2.1
theorem dL_law_933 : decode cL_law 933 = .ok (.iaload, 1) := dkg_L_61.2.2.1
theorem dL_law_934 : decode cL_law 934 = .ok (.invokevirtual 110, 3) := dkg_L_61.2.2.2.1
theorem dL_law_937 : decode cL_law 937 = .ok (.pop, 1) := dkg_L_61.2.2.2.2.1
theorem dL_law_938 : decode cL_law 938 = .ok (.aload_n 2, 1) := dkg_L_61.2.2.2.2.2.1
theorem dL_law_939 : decode cL_law 939 = .ok (.aload_n 0, 1) := dkg_L_61.2.2.2.2.2.2.1
theorem dL_law_940 : decode cL_law 940 = .ok (.iload_n 3, 1) := dkg_L_61.2.2.2.2.2.2.2.1
theorem dL_law_941 : decode cL_law 941 = .ok (.iconst 1, 1) := dkg_L_61.2.2.2.2.2.2.2.2.1
theorem dL_law_942 : decode cL_law 942 = .ok (.iadd, 1) := dkg_L_61.2.2.2.2.2.2.2.2.2.1
theorem dkg_L_62 : dkp cL_law [(943, .iaload, 1), (944, .aload_n 0, 1), (945, .iload_n 3, 1), (946, .iconst 2, 1), (947, .iadd, 1), (948, .iaload, 1), (949, .invokevirtual 113, 3), (952, .pop, 1), (953, .goto 424, 3), (956, .aload_n 1, 1)] := dkf (by decide +kernel)
theorem dL_law_943 : decode cL_law 943 = .ok (.iaload, 1) := dkg_L_62.1
theorem dL_law_944 : decode cL_law 944 = .ok (.aload_n 0, 1) := dkg_L_62.2.1
theorem dL_law_945 : decode cL_law 945 = .ok (.iload_n 3, 1) := dkg_L_62.2.2.1
theorem dL_law_946 : decode cL_law 946 = .ok (.iconst 2, 1) := dkg_L_62.2.2.2.1
theorem dL_law_947 : decode cL_law 947 = .ok (.iadd, 1) := dkg_L_62.2.2.2.2.1
theorem dL_law_948 : decode cL_law 948 = .ok (.iaload, 1) := dkg_L_62.2.2.2.2.2.1
theorem dL_law_949 : decode cL_law 949 = .ok (.invokevirtual 113, 3) := dkg_L_62.2.2.2.2.2.2.1
theorem dL_law_952 : decode cL_law 952 = .ok (.pop, 1) := dkg_L_62.2.2.2.2.2.2.2.1
theorem dL_law_953 : decode cL_law 953 = .ok (.goto 424, 3) := dkg_L_62.2.2.2.2.2.2.2.2.1
theorem dL_law_956 : decode cL_law 956 = .ok (.aload_n 1, 1) := dkg_L_62.2.2.2.2.2.2.2.2.2.1
theorem dkg_L_63 : dkp cL_law [(957, .invokevirtual 114, 3), (960, .pop, 1), (961, .aload_n 2, 1), (962, .invokevirtual 117, 3), (965, .pop, 1), (966, .goto 411, 3), (969, .aload_n 1, 1), (970, .aload_n 0, 1), (971, .iload_n 3, 1), (972, .iconst 1, 1)] := dkf (by decide +kernel)
theorem dL_law_957 : decode cL_law 957 = .ok (.invokevirtual 114, 3) := dkg_L_63.1
theorem dL_law_960 : decode cL_law 960 = .ok (.pop, 1) := dkg_L_63.2.1
theorem dL_law_961 : decode cL_law 961 = .ok (.aload_n 2, 1) := dkg_L_63.2.2.1
theorem dL_law_962 : decode cL_law 962 = .ok (.invokevirtual 117, 3) := dkg_L_63.2.2.2.1
theorem dL_law_965 : decode cL_law 965 = .ok (.pop, 1) := dkg_L_63.2.2.2.2.1
theorem dL_law_966 : decode cL_law 966 = .ok (.goto 411, 3) := dkg_L_63.2.2.2.2.2.1
theorem dL_law_969 : decode cL_law 969 = .ok (.aload_n 1, 1) := dkg_L_63.2.2.2.2.2.2.1
theorem dL_law_970 : decode cL_law 970 = .ok (.aload_n 0, 1) := dkg_L_63.2.2.2.2.2.2.2.1
theorem dL_law_971 : decode cL_law 971 = .ok (.iload_n 3, 1) := dkg_L_63.2.2.2.2.2.2.2.2.1
theorem dL_law_972 : decode cL_law 972 = .ok (.iconst 1, 1) := dkg_L_63.2.2.2.2.2.2.2.2.2.1
theorem dkg_L_64 : dkp cL_law [(973, .iadd, 1), (974, .iaload, 1), (975, .aload_n 0, 1), (976, .iload_n 3, 1), (977, .iconst 2, 1), (978, .iadd, 1), (979, .iaload, 1), (980, .aload_n 0, 1), (981, .iload_n 3, 1), (982, .iconst 3, 1)] := dkf (by decide +kernel)
theorem dL_law_973 : decode cL_law 973 = .ok (.iadd, 1) := dkg_L_64.1
theorem dL_law_974 : decode cL_law 974 = .ok (.iaload, 1) := dkg_L_64.2.1
theorem dL_law_975 : decode cL_law 975 = .ok (.aload_n 0, 1) := dkg_L_64.2.2.1
theorem dL_law_976 : decode cL_law 976 = .ok (.iload_n 3, 1) := dkg_L_64.2.2.2.1
theorem dL_law_977 : decode cL_law 977 = .ok (.iconst 2, 1) := dkg_L_64.2.2.2.2.1
theorem dL_law_978 : decode cL_law 978 = .ok (.iadd, 1) := dkg_L_64.2.2.2.2.2.1
theorem dL_law_979 : decode cL_law 979 = .ok (.iaload, 1) := dkg_L_64.2.2.2.2.2.2.1
theorem dL_law_980 : decode cL_law 980 = .ok (.aload_n 0, 1) := dkg_L_64.2.2.2.2.2.2.2.1
theorem dL_law_981 : decode cL_law 981 = .ok (.iload_n 3, 1) := dkg_L_64.2.2.2.2.2.2.2.2.1
theorem dL_law_982 : decode cL_law 982 = .ok (.iconst 3, 1) := dkg_L_64.2.2.2.2.2.2.2.2.2.1
theorem dkg_L_65 : dkp cL_law [(983, .iadd, 1), (984, .iaload, 1), (985, .invokevirtual 118, 3), (988, .pop, 1), (989, .aload_n 2, 1), (990, .aload_n 0, 1), (991, .iload_n 3, 1), (992, .iconst 1, 1), (993, .iadd, 1), (994, .iaload, 1)] := dkf (by decide +kernel)
theorem dL_law_983 : decode cL_law 983 = .ok (.iadd, 1) := dkg_L_65.1
theorem dL_law_984 : decode cL_law 984 = .ok (.iaload, 1) := dkg_L_65.2.1
theorem dL_law_985 : decode cL_law 985 = .ok (.invokevirtual 118, 3) := dkg_L_65.2.2.1
theorem dL_law_988 : decode cL_law 988 = .ok (.pop, 1) := dkg_L_65.2.2.2.1
theorem dL_law_989 : decode cL_law 989 = .ok (.aload_n 2, 1) := dkg_L_65.2.2.2.2.1
theorem dL_law_990 : decode cL_law 990 = .ok (.aload_n 0, 1) := dkg_L_65.2.2.2.2.2.1
theorem dL_law_991 : decode cL_law 991 = .ok (.iload_n 3, 1) := dkg_L_65.2.2.2.2.2.2.1
theorem dL_law_992 : decode cL_law 992 = .ok (.iconst 1, 1) := dkg_L_65.2.2.2.2.2.2.2.1
theorem dL_law_993 : decode cL_law 993 = .ok (.iadd, 1) := dkg_L_65.2.2.2.2.2.2.2.2.1
theorem dL_law_994 : decode cL_law 994 = .ok (.iaload, 1) := dkg_L_65.2.2.2.2.2.2.2.2.2.1
theorem dkg_L_66 : dkp cL_law [(995, .aload_n 0, 1), (996, .iload_n 3, 1), (997, .iconst 2, 1), (998, .iadd, 1), (999, .iaload, 1), (1000, .aload_n 0, 1), (1001, .iload_n 3, 1), (1002, .iconst 3, 1), (1003, .iadd, 1), (1004, .iaload, 1)] := dkf (by decide +kernel)
theorem dL_law_995 : decode cL_law 995 = .ok (.aload_n 0, 1) := dkg_L_66.1
theorem dL_law_996 : decode cL_law 996 = .ok (.iload_n 3, 1) := dkg_L_66.2.1
theorem dL_law_997 : decode cL_law 997 = .ok (.iconst 2, 1) := dkg_L_66.2.2.1
theorem dL_law_998 : decode cL_law 998 = .ok (.iadd, 1) := dkg_L_66.2.2.2.1
theorem dL_law_999 : decode cL_law 999 = .ok (.iaload, 1) := dkg_L_66.2.2.2.2.1
theorem dL_law_1000 : decode cL_law 1000 = .ok (.aload_n 0, 1) := dkg_L_66.2.2.2.2.2.1
theorem dL_law_1001 : decode cL_law 1001 = .ok (.iload_n 3, 1) := dkg_L_66.2.2.2.2.2.2.1
theorem dL_law_1002 : decode cL_law 1002 = .ok (.iconst 3, 1) := dkg_L_66.2.2.2.2.2.2.2.1
theorem dL_law_1003 : decode cL_law 1003 = .ok (.iadd, 1) := dkg_L_66.2.2.2.2.2.2.2.2.1
theorem dL_law_1004 : decode cL_law 1004 = .ok (.iaload, 1) := dkg_L_66.2.2.2.2.2.2.2.2.2.1
theorem dkg_L_67 : dkp cL_law [(1005, .invokevirtual 121, 3), (1008, .pop, 1), (1009, .goto 368, 3), (1012, .aload_n 1, 1), (1013, .aload_n 0, 1), (1014, .iload_n 3, 1), (1015, .iconst 1, 1), (1016, .iadd, 1), (1017, .iaload, 1), (1018, .invokevirtual 122, 3)] := dkf (by decide +kernel)
theorem dL_law_1005 : decode cL_law 1005 = .ok (.invokevirtual 121, 3) := dkg_L_67.1
theorem dL_law_1008 : decode cL_law 1008 = .ok (.pop, 1) := dkg_L_67.2.1
theorem dL_law_1009 : decode cL_law 1009 = .ok (.goto 368, 3) := dkg_L_67.2.2.1
theorem dL_law_1012 : decode cL_law 1012 = .ok (.aload_n 1, 1) := dkg_L_67.2.2.2.1
theorem dL_law_1013 : decode cL_law 1013 = .ok (.aload_n 0, 1) := dkg_L_67.2.2.2.2.1
theorem dL_law_1014 : decode cL_law 1014 = .ok (.iload_n 3, 1) := dkg_L_67.2.2.2.2.2.1
theorem dL_law_1015 : decode cL_law 1015 = .ok (.iconst 1, 1) := dkg_L_67.2.2.2.2.2.2.1
theorem dL_law_1016 : decode cL_law 1016 = .ok (.iadd, 1) := dkg_L_67.2.2.2.2.2.2.2.1
theorem dL_law_1017 : decode cL_law 1017 = .ok (.iaload, 1) := dkg_L_67.2.2.2.2.2.2.2.2.1
theorem dL_law_1018 : decode cL_law 1018 = .ok (.invokevirtual 122, 3) := dkg_L_67.2.2.2.2.2.2.2.2.2.1
theorem dkg_L_68 : dkp cL_law [(1021, .pop, 1), (1022, .aload_n 2, 1), (1023, .aload_n 0, 1), (1024, .iload_n 3, 1), (1025, .iconst 1, 1), (1026, .iadd, 1), (1027, .iaload, 1), (1028, .invokevirtual 125, 3), (1031, .pop, 1), (1032, .goto 345, 3)] := dkf (by decide +kernel)
theorem dL_law_1021 : decode cL_law 1021 = .ok (.pop, 1) := dkg_L_68.1
theorem dL_law_1022 : decode cL_law 1022 = .ok (.aload_n 2, 1) := dkg_L_68.2.1
theorem dL_law_1023 : decode cL_law 1023 = .ok (.aload_n 0, 1) := dkg_L_68.2.2.1
theorem dL_law_1024 : decode cL_law 1024 = .ok (.iload_n 3, 1) := dkg_L_68.2.2.2.1
theorem dL_law_1025 : decode cL_law 1025 = .ok (.iconst 1, 1) := dkg_L_68.2.2.2.2.1
theorem dL_law_1026 : decode cL_law 1026 = .ok (.iadd, 1) := dkg_L_68.2.2.2.2.2.1
theorem dL_law_1027 : decode cL_law 1027 = .ok (.iaload, 1) := dkg_L_68.2.2.2.2.2.2.1
theorem dL_law_1028 : decode cL_law 1028 = .ok (.invokevirtual 125, 3) := dkg_L_68.2.2.2.2.2.2.2.1
theorem dL_law_1031 : decode cL_law 1031 = .ok (.pop, 1) := dkg_L_68.2.2.2.2.2.2.2.2.1
theorem dL_law_1032 : decode cL_law 1032 = .ok (.goto 345, 3) := dkg_L_68.2.2.2.2.2.2.2.2.2.1
theorem dkg_L_69 : dkp cL_law [(1035, .aload_n 1, 1), (1036, .aload_n 0, 1), (1037, .iload_n 3, 1), (1038, .iconst 1, 1), (1039, .iadd, 1), (1040, .iaload, 1), (1041, .aload_n 0, 1), (1042, .iload_n 3, 1), (1043, .iconst 2, 1), (1044, .iadd, 1)] := dkf (by decide +kernel)
theorem dL_law_1035 : decode cL_law 1035 = .ok (.aload_n 1, 1) := dkg_L_69.1
theorem dL_law_1036 : decode cL_law 1036 = .ok (.aload_n 0, 1) := dkg_L_69.2.1
theorem dL_law_1037 : decode cL_law 1037 = .ok (.iload_n 3, 1) := dkg_L_69.2.2.1
theorem dL_law_1038 : decode cL_law 1038 = .ok (.iconst 1, 1) := dkg_L_69.2.2.2.1
theorem dL_law_1039 : decode cL_law 1039 = .ok (.iadd, 1) := dkg_L_69.2.2.2.2.1
theorem dL_law_1040 : decode cL_law 1040 = .ok (.iaload, 1) := dkg_L_69.2.2.2.2.2.1
theorem dL_law_1041 : decode cL_law 1041 = .ok (.aload_n 0, 1) := dkg_L_69.2.2.2.2.2.2.1
theorem dL_law_1042 : decode cL_law 1042 = .ok (.iload_n 3, 1) := dkg_L_69.2.2.2.2.2.2.2.1
theorem dL_law_1043 : decode cL_law 1043 = .ok (.iconst 2, 1) := dkg_L_69.2.2.2.2.2.2.2.2.1
theorem dL_law_1044 : decode cL_law 1044 = .ok (.iadd, 1) := dkg_L_69.2.2.2.2.2.2.2.2.2.1
theorem dkg_L_70 : dkp cL_law [(1045, .iaload, 1), (1046, .ifCond .eq 7, 3), (1049, .iconst 1, 1), (1050, .goto 4, 3), (1053, .iconst 0, 1), (1054, .invokevirtual 126, 3), (1057, .pop, 1), (1058, .aload_n 2, 1), (1059, .aload_n 0, 1), (1060, .iload_n 3, 1)] := dkf (by decide +kernel)
theorem dL_law_1045 : decode cL_law 1045 = .ok (.iaload, 1) := dkg_L_70.1
theorem dL_law_1046 : decode cL_law 1046 = .ok (.ifCond .eq 7, 3) := dkg_L_70.2.1
theorem dL_law_1049 : decode cL_law 1049 = .ok (.iconst 1, 1) := dkg_L_70.2.2.1
theorem dL_law_1050 : decode cL_law 1050 = .ok (.goto 4, 3) := dkg_L_70.2.2.2.1
theorem dL_law_1053 : decode cL_law 1053 = .ok (.iconst 0, 1) := dkg_L_70.2.2.2.2.1
theorem dL_law_1054 : decode cL_law 1054 = .ok (.invokevirtual 126, 3) := dkg_L_70.2.2.2.2.2.1
theorem dL_law_1057 : decode cL_law 1057 = .ok (.pop, 1) := dkg_L_70.2.2.2.2.2.2.1
theorem dL_law_1058 : decode cL_law 1058 = .ok (.aload_n 2, 1) := dkg_L_70.2.2.2.2.2.2.2.1
theorem dL_law_1059 : decode cL_law 1059 = .ok (.aload_n 0, 1) := dkg_L_70.2.2.2.2.2.2.2.2.1
theorem dL_law_1060 : decode cL_law 1060 = .ok (.iload_n 3, 1) := dkg_L_70.2.2.2.2.2.2.2.2.2.1
theorem dkg_L_71 : dkp cL_law [(1061, .iconst 1, 1), (1062, .iadd, 1), (1063, .iaload, 1), (1064, .aload_n 0, 1), (1065, .iload_n 3, 1), (1066, .iconst 2, 1), (1067, .iadd, 1), (1068, .iaload, 1), (1069, .ifCond .eq 7, 3), (1072, .iconst 1, 1)] := dkf (by decide +kernel)
theorem dL_law_1061 : decode cL_law 1061 = .ok (.iconst 1, 1) := dkg_L_71.1
theorem dL_law_1062 : decode cL_law 1062 = .ok (.iadd, 1) := dkg_L_71.2.1
theorem dL_law_1063 : decode cL_law 1063 = .ok (.iaload, 1) := dkg_L_71.2.2.1
theorem dL_law_1064 : decode cL_law 1064 = .ok (.aload_n 0, 1) := dkg_L_71.2.2.2.1
theorem dL_law_1065 : decode cL_law 1065 = .ok (.iload_n 3, 1) := dkg_L_71.2.2.2.2.1
theorem dL_law_1066 : decode cL_law 1066 = .ok (.iconst 2, 1) := dkg_L_71.2.2.2.2.2.1
theorem dL_law_1067 : decode cL_law 1067 = .ok (.iadd, 1) := dkg_L_71.2.2.2.2.2.2.1
theorem dL_law_1068 : decode cL_law 1068 = .ok (.iaload, 1) := dkg_L_71.2.2.2.2.2.2.2.1
theorem dL_law_1069 : decode cL_law 1069 = .ok (.ifCond .eq 7, 3) := dkg_L_71.2.2.2.2.2.2.2.2.1
theorem dL_law_1072 : decode cL_law 1072 = .ok (.iconst 1, 1) := dkg_L_71.2.2.2.2.2.2.2.2.2.1
theorem dkg_L_72 : dkp cL_law [(1073, .goto 4, 3), (1076, .iconst 0, 1), (1077, .invokevirtual 130, 3), (1080, .pop, 1), (1081, .goto 296, 3), (1084, .aload_n 1, 1), (1085, .aload_n 0, 1), (1086, .iload_n 3, 1), (1087, .iconst 1, 1), (1088, .iadd, 1)] := dkf (by decide +kernel)
theorem dL_law_1073 : decode cL_law 1073 = .ok (.goto 4, 3) := dkg_L_72.1
theorem dL_law_1076 : decode cL_law 1076 = .ok (.iconst 0, 1) := dkg_L_72.2.1
theorem dL_law_1077 : decode cL_law 1077 = .ok (.invokevirtual 130, 3) := dkg_L_72.2.2.1
theorem dL_law_1080 : decode cL_law 1080 = .ok (.pop, 1) := dkg_L_72.2.2.2.1
theorem dL_law_1081 : decode cL_law 1081 = .ok (.goto 296, 3) := dkg_L_72.2.2.2.2.1
theorem dL_law_1084 : decode cL_law 1084 = .ok (.aload_n 1, 1) := dkg_L_72.2.2.2.2.2.1
theorem dL_law_1085 : decode cL_law 1085 = .ok (.aload_n 0, 1) := dkg_L_72.2.2.2.2.2.2.1
theorem dL_law_1086 : decode cL_law 1086 = .ok (.iload_n 3, 1) := dkg_L_72.2.2.2.2.2.2.2.1
theorem dL_law_1087 : decode cL_law 1087 = .ok (.iconst 1, 1) := dkg_L_72.2.2.2.2.2.2.2.2.1
theorem dL_law_1088 : decode cL_law 1088 = .ok (.iadd, 1) := dkg_L_72.2.2.2.2.2.2.2.2.2.1
theorem dkg_L_73 : dkp cL_law [(1089, .iaload, 1), (1090, .aload_n 0, 1), (1091, .iload_n 3, 1), (1092, .iconst 2, 1), (1093, .iadd, 1), (1094, .iaload, 1), (1095, .aload_n 0, 1), (1096, .iload_n 3, 1), (1097, .iconst 3, 1), (1098, .iadd, 1)] := dkf (by decide +kernel)
theorem dL_law_1089 : decode cL_law 1089 = .ok (.iaload, 1) := dkg_L_73.1
theorem dL_law_1090 : decode cL_law 1090 = .ok (.aload_n 0, 1) := dkg_L_73.2.1
theorem dL_law_1091 : decode cL_law 1091 = .ok (.iload_n 3, 1) := dkg_L_73.2.2.1
theorem dL_law_1092 : decode cL_law 1092 = .ok (.iconst 2, 1) := dkg_L_73.2.2.2.1
theorem dL_law_1093 : decode cL_law 1093 = .ok (.iadd, 1) := dkg_L_73.2.2.2.2.1
theorem dL_law_1094 : decode cL_law 1094 = .ok (.iaload, 1) := dkg_L_73.2.2.2.2.2.1
theorem dL_law_1095 : decode cL_law 1095 = .ok (.aload_n 0, 1) := dkg_L_73.2.2.2.2.2.2.1
theorem dL_law_1096 : decode cL_law 1096 = .ok (.iload_n 3, 1) := dkg_L_73.2.2.2.2.2.2.2.1
theorem dL_law_1097 : decode cL_law 1097 = .ok (.iconst 3, 1) := dkg_L_73.2.2.2.2.2.2.2.2.1
theorem dL_law_1098 : decode cL_law 1098 = .ok (.iadd, 1) := dkg_L_73.2.2.2.2.2.2.2.2.2.1
theorem dkg_L_74 : dkp cL_law [(1099, .iaload, 1), (1100, .invokevirtual 131, 3), (1103, .pop, 1), (1104, .aload_n 2, 1), (1105, .aload_n 0, 1), (1106, .iload_n 3, 1), (1107, .iconst 1, 1), (1108, .iadd, 1), (1109, .iaload, 1), (1110, .aload_n 0, 1)] := dkf (by decide +kernel)
theorem dL_law_1099 : decode cL_law 1099 = .ok (.iaload, 1) := dkg_L_74.1
theorem dL_law_1100 : decode cL_law 1100 = .ok (.invokevirtual 131, 3) := dkg_L_74.2.1
theorem dL_law_1103 : decode cL_law 1103 = .ok (.pop, 1) := dkg_L_74.2.2.1
theorem dL_law_1104 : decode cL_law 1104 = .ok (.aload_n 2, 1) := dkg_L_74.2.2.2.1
theorem dL_law_1105 : decode cL_law 1105 = .ok (.aload_n 0, 1) := dkg_L_74.2.2.2.2.1
theorem dL_law_1106 : decode cL_law 1106 = .ok (.iload_n 3, 1) := dkg_L_74.2.2.2.2.2.1
theorem dL_law_1107 : decode cL_law 1107 = .ok (.iconst 1, 1) := dkg_L_74.2.2.2.2.2.2.1
theorem dL_law_1108 : decode cL_law 1108 = .ok (.iadd, 1) := dkg_L_74.2.2.2.2.2.2.2.1
theorem dL_law_1109 : decode cL_law 1109 = .ok (.iaload, 1) := dkg_L_74.2.2.2.2.2.2.2.2.1
theorem dL_law_1110 : decode cL_law 1110 = .ok (.aload_n 0, 1) := dkg_L_74.2.2.2.2.2.2.2.2.2.1
theorem dkg_L_75 : dkp cL_law [(1111, .iload_n 3, 1), (1112, .iconst 2, 1), (1113, .iadd, 1), (1114, .iaload, 1), (1115, .aload_n 0, 1), (1116, .iload_n 3, 1), (1117, .iconst 3, 1), (1118, .iadd, 1), (1119, .iaload, 1), (1120, .invokevirtual 134, 3)] := dkf (by decide +kernel)
theorem dL_law_1111 : decode cL_law 1111 = .ok (.iload_n 3, 1) := dkg_L_75.1
theorem dL_law_1112 : decode cL_law 1112 = .ok (.iconst 2, 1) := dkg_L_75.2.1
theorem dL_law_1113 : decode cL_law 1113 = .ok (.iadd, 1) := dkg_L_75.2.2.1
theorem dL_law_1114 : decode cL_law 1114 = .ok (.iaload, 1) := dkg_L_75.2.2.2.1
theorem dL_law_1115 : decode cL_law 1115 = .ok (.aload_n 0, 1) := dkg_L_75.2.2.2.2.1
theorem dL_law_1116 : decode cL_law 1116 = .ok (.iload_n 3, 1) := dkg_L_75.2.2.2.2.2.1
theorem dL_law_1117 : decode cL_law 1117 = .ok (.iconst 3, 1) := dkg_L_75.2.2.2.2.2.2.1
theorem dL_law_1118 : decode cL_law 1118 = .ok (.iadd, 1) := dkg_L_75.2.2.2.2.2.2.2.1
theorem dL_law_1119 : decode cL_law 1119 = .ok (.iaload, 1) := dkg_L_75.2.2.2.2.2.2.2.2.1
theorem dL_law_1120 : decode cL_law 1120 = .ok (.invokevirtual 134, 3) := dkg_L_75.2.2.2.2.2.2.2.2.2.1
theorem dkg_L_76 : dkp cL_law [(1123, .pop, 1), (1124, .goto 253, 3), (1127, .aload_n 1, 1), (1128, .invokevirtual 135, 3), (1131, .pop, 1), (1132, .aload_n 2, 1), (1133, .invokevirtual 138, 3), (1136, .pop, 1), (1137, .goto 240, 3), (1140, .aload_n 1, 1)] := dkf (by decide +kernel)
theorem dL_law_1123 : decode cL_law 1123 = .ok (.pop, 1) := dkg_L_76.1
theorem dL_law_1124 : decode cL_law 1124 = .ok (.goto 253, 3) := dkg_L_76.2.1
theorem dL_law_1127 : decode cL_law 1127 = .ok (.aload_n 1, 1) := dkg_L_76.2.2.1
theorem dL_law_1128 : decode cL_law 1128 = .ok (.invokevirtual 135, 3) := dkg_L_76.2.2.2.1
theorem dL_law_1131 : decode cL_law 1131 = .ok (.pop, 1) := dkg_L_76.2.2.2.2.1
theorem dL_law_1132 : decode cL_law 1132 = .ok (.aload_n 2, 1) := dkg_L_76.2.2.2.2.2.1
theorem dL_law_1133 : decode cL_law 1133 = .ok (.invokevirtual 138, 3) := dkg_L_76.2.2.2.2.2.2.1
theorem dL_law_1136 : decode cL_law 1136 = .ok (.pop, 1) := dkg_L_76.2.2.2.2.2.2.2.1
theorem dL_law_1137 : decode cL_law 1137 = .ok (.goto 240, 3) := dkg_L_76.2.2.2.2.2.2.2.2.1
theorem dL_law_1140 : decode cL_law 1140 = .ok (.aload_n 1, 1) := dkg_L_76.2.2.2.2.2.2.2.2.2.1
theorem dkg_L_77 : dkp cL_law [(1141, .aload_n 0, 1), (1142, .iload_n 3, 1), (1143, .iconst 1, 1), (1144, .iadd, 1), (1145, .iaload, 1), (1146, .aload_n 0, 1), (1147, .iload_n 3, 1), (1148, .iconst 2, 1), (1149, .iadd, 1), (1150, .iaload, 1)] := dkf (by decide +kernel)
theorem dL_law_1141 : decode cL_law 1141 = .ok (.aload_n 0, 1) := dkg_L_77.1
theorem dL_law_1142 : decode cL_law 1142 = .ok (.iload_n 3, 1) := dkg_L_77.2.1
theorem dL_law_1143 : decode cL_law 1143 = .ok (.iconst 1, 1) := dkg_L_77.2.2.1
theorem dL_law_1144 : decode cL_law 1144 = .ok (.iadd, 1) := dkg_L_77.2.2.2.1
theorem dL_law_1145 : decode cL_law 1145 = .ok (.iaload, 1) := dkg_L_77.2.2.2.2.1
theorem dL_law_1146 : decode cL_law 1146 = .ok (.aload_n 0, 1) := dkg_L_77.2.2.2.2.2.1
theorem dL_law_1147 : decode cL_law 1147 = .ok (.iload_n 3, 1) := dkg_L_77.2.2.2.2.2.2.1
theorem dL_law_1148 : decode cL_law 1148 = .ok (.iconst 2, 1) := dkg_L_77.2.2.2.2.2.2.2.1
theorem dL_law_1149 : decode cL_law 1149 = .ok (.iadd, 1) := dkg_L_77.2.2.2.2.2.2.2.2.1
theorem dL_law_1150 : decode cL_law 1150 = .ok (.iaload, 1) := dkg_L_77.2.2.2.2.2.2.2.2.2.1
theorem dkg_L_78 : dkp cL_law [(1151, .invokevirtual 139, 3), (1154, .pop, 1), (1155, .aload_n 2, 1), (1156, .aload_n 0, 1), (1157, .iload_n 3, 1), (1158, .iconst 1, 1), (1159, .iadd, 1), (1160, .iaload, 1), (1161, .aload_n 0, 1), (1162, .iload_n 3, 1)] := dkf (by decide +kernel)
theorem dL_law_1151 : decode cL_law 1151 = .ok (.invokevirtual 139, 3) := dkg_L_78.1
theorem dL_law_1154 : decode cL_law 1154 = .ok (.pop, 1) := dkg_L_78.2.1
theorem dL_law_1155 : decode cL_law 1155 = .ok (.aload_n 2, 1) := dkg_L_78.2.2.1
theorem dL_law_1156 : decode cL_law 1156 = .ok (.aload_n 0, 1) := dkg_L_78.2.2.2.1
theorem dL_law_1157 : decode cL_law 1157 = .ok (.iload_n 3, 1) := dkg_L_78.2.2.2.2.1
theorem dL_law_1158 : decode cL_law 1158 = .ok (.iconst 1, 1) := dkg_L_78.2.2.2.2.2.1
theorem dL_law_1159 : decode cL_law 1159 = .ok (.iadd, 1) := dkg_L_78.2.2.2.2.2.2.1
theorem dL_law_1160 : decode cL_law 1160 = .ok (.iaload, 1) := dkg_L_78.2.2.2.2.2.2.2.1
theorem dL_law_1161 : decode cL_law 1161 = .ok (.aload_n 0, 1) := dkg_L_78.2.2.2.2.2.2.2.2.1
theorem dL_law_1162 : decode cL_law 1162 = .ok (.iload_n 3, 1) := dkg_L_78.2.2.2.2.2.2.2.2.2.1
theorem dkg_L_79 : dkp cL_law [(1163, .iconst 2, 1), (1164, .iadd, 1), (1165, .iaload, 1), (1166, .invokevirtual 142, 3), (1169, .pop, 1), (1170, .goto 207, 3), (1173, .aload_n 1, 1), (1174, .aload_n 0, 1), (1175, .iload_n 3, 1), (1176, .iconst 1, 1)] := dkf (by decide +kernel)
theorem dL_law_1163 : decode cL_law 1163 = .ok (.iconst 2, 1) := dkg_L_79.1
theorem dL_law_1164 : decode cL_law 1164 = .ok (.iadd, 1) := dkg_L_79.2.1
theorem dL_law_1165 : decode cL_law 1165 = .ok (.iaload, 1) := dkg_L_79.2.2.1
theorem dL_law_1166 : decode cL_law 1166 = .ok (.invokevirtual 142, 3) := dkg_L_79.2.2.2.1
theorem dL_law_1169 : decode cL_law 1169 = .ok (.pop, 1) := dkg_L_79.2.2.2.2.1
theorem dL_law_1170 : decode cL_law 1170 = .ok (.goto 207, 3) := dkg_L_79.2.2.2.2.2.1
theorem dL_law_1173 : decode cL_law 1173 = .ok (.aload_n 1, 1) := dkg_L_79.2.2.2.2.2.2.1
theorem dL_law_1174 : decode cL_law 1174 = .ok (.aload_n 0, 1) := dkg_L_79.2.2.2.2.2.2.2.1
theorem dL_law_1175 : decode cL_law 1175 = .ok (.iload_n 3, 1) := dkg_L_79.2.2.2.2.2.2.2.2.1
theorem dL_law_1176 : decode cL_law 1176 = .ok (.iconst 1, 1) := dkg_L_79.2.2.2.2.2.2.2.2.2.1
theorem dkg_L_80 : dkp cL_law [(1177, .iadd, 1), (1178, .iaload, 1), (1179, .invokevirtual 143, 3), (1182, .pop, 1), (1183, .aload_n 2, 1), (1184, .aload_n 0, 1), (1185, .iload_n 3, 1), (1186, .iconst 1, 1), (1187, .iadd, 1), (1188, .iaload, 1)] := dkf (by decide +kernel)
theorem dL_law_1177 : decode cL_law 1177 = .ok (.iadd, 1) := dkg_L_80.1
theorem dL_law_1178 : decode cL_law 1178 = .ok (.iaload, 1) := dkg_L_80.2.1
theorem dL_law_1179 : decode cL_law 1179 = .ok (.invokevirtual 143, 3) := dkg_L_80.2.2.1
theorem dL_law_1182 : decode cL_law 1182 = .ok (.pop, 1) := dkg_L_80.2.2.2.1
theorem dL_law_1183 : decode cL_law 1183 = .ok (.aload_n 2, 1) := dkg_L_80.2.2.2.2.1
theorem dL_law_1184 : decode cL_law 1184 = .ok (.aload_n 0, 1) := dkg_L_80.2.2.2.2.2.1
theorem dL_law_1185 : decode cL_law 1185 = .ok (.iload_n 3, 1) := dkg_L_80.2.2.2.2.2.2.1
theorem dL_law_1186 : decode cL_law 1186 = .ok (.iconst 1, 1) := dkg_L_80.2.2.2.2.2.2.2.1
theorem dL_law_1187 : decode cL_law 1187 = .ok (.iadd, 1) := dkg_L_80.2.2.2.2.2.2.2.2.1
theorem dL_law_1188 : decode cL_law 1188 = .ok (.iaload, 1) := dkg_L_80.2.2.2.2.2.2.2.2.2.1
theorem dkg_L_81 : dkp cL_law [(1189, .invokevirtual 146, 3), (1192, .pop, 1), (1193, .goto 184, 3), (1196, .aload_n 1, 1), (1197, .aload_n 0, 1), (1198, .iload_n 3, 1), (1199, .iconst 1, 1), (1200, .iadd, 1), (1201, .iaload, 1), (1202, .aload_n 0, 1)] := dkf (by decide +kernel)
theorem dL_law_1189 : decode cL_law 1189 = .ok (.invokevirtual 146, 3) := dkg_L_81.1
theorem dL_law_1192 : decode cL_law 1192 = .ok (.pop, 1) := dkg_L_81.2.1
theorem dL_law_1193 : decode cL_law 1193 = .ok (.goto 184, 3) := dkg_L_81.2.2.1
theorem dL_law_1196 : decode cL_law 1196 = .ok (.aload_n 1, 1) := dkg_L_81.2.2.2.1
theorem dL_law_1197 : decode cL_law 1197 = .ok (.aload_n 0, 1) := dkg_L_81.2.2.2.2.1
theorem dL_law_1198 : decode cL_law 1198 = .ok (.iload_n 3, 1) := dkg_L_81.2.2.2.2.2.1
theorem dL_law_1199 : decode cL_law 1199 = .ok (.iconst 1, 1) := dkg_L_81.2.2.2.2.2.2.1
theorem dL_law_1200 : decode cL_law 1200 = .ok (.iadd, 1) := dkg_L_81.2.2.2.2.2.2.2.1
theorem dL_law_1201 : decode cL_law 1201 = .ok (.iaload, 1) := dkg_L_81.2.2.2.2.2.2.2.2.1
theorem dL_law_1202 : decode cL_law 1202 = .ok (.aload_n 0, 1) := dkg_L_81.2.2.2.2.2.2.2.2.2.1
theorem dkg_L_82 : dkp cL_law [(1203, .iload_n 3, 1), (1204, .iconst 2, 1), (1205, .iadd, 1), (1206, .iaload, 1), (1207, .aload_n 0, 1), (1208, .iload_n 3, 1), (1209, .iconst 3, 1), (1210, .iadd, 1), (1211, .iaload, 1), (1212, .invokevirtual 147, 3)] := dkf (by decide +kernel)
theorem dL_law_1203 : decode cL_law 1203 = .ok (.iload_n 3, 1) := dkg_L_82.1
theorem dL_law_1204 : decode cL_law 1204 = .ok (.iconst 2, 1) := dkg_L_82.2.1
theorem dL_law_1205 : decode cL_law 1205 = .ok (.iadd, 1) := dkg_L_82.2.2.1
theorem dL_law_1206 : decode cL_law 1206 = .ok (.iaload, 1) := dkg_L_82.2.2.2.1
theorem dL_law_1207 : decode cL_law 1207 = .ok (.aload_n 0, 1) := dkg_L_82.2.2.2.2.1
theorem dL_law_1208 : decode cL_law 1208 = .ok (.iload_n 3, 1) := dkg_L_82.2.2.2.2.2.1
theorem dL_law_1209 : decode cL_law 1209 = .ok (.iconst 3, 1) := dkg_L_82.2.2.2.2.2.2.1
theorem dL_law_1210 : decode cL_law 1210 = .ok (.iadd, 1) := dkg_L_82.2.2.2.2.2.2.2.1
theorem dL_law_1211 : decode cL_law 1211 = .ok (.iaload, 1) := dkg_L_82.2.2.2.2.2.2.2.2.1
theorem dL_law_1212 : decode cL_law 1212 = .ok (.invokevirtual 147, 3) := dkg_L_82.2.2.2.2.2.2.2.2.2.1
theorem dkg_L_83 : dkp cL_law [(1215, .pop, 1), (1216, .aload_n 2, 1), (1217, .aload_n 0, 1), (1218, .iload_n 3, 1), (1219, .iconst 1, 1), (1220, .iadd, 1), (1221, .iaload, 1), (1222, .aload_n 0, 1), (1223, .iload_n 3, 1), (1224, .iconst 2, 1)] := dkf (by decide +kernel)
theorem dL_law_1215 : decode cL_law 1215 = .ok (.pop, 1) := dkg_L_83.1
theorem dL_law_1216 : decode cL_law 1216 = .ok (.aload_n 2, 1) := dkg_L_83.2.1
theorem dL_law_1217 : decode cL_law 1217 = .ok (.aload_n 0, 1) := dkg_L_83.2.2.1
theorem dL_law_1218 : decode cL_law 1218 = .ok (.iload_n 3, 1) := dkg_L_83.2.2.2.1
theorem dL_law_1219 : decode cL_law 1219 = .ok (.iconst 1, 1) := dkg_L_83.2.2.2.2.1
theorem dL_law_1220 : decode cL_law 1220 = .ok (.iadd, 1) := dkg_L_83.2.2.2.2.2.1
theorem dL_law_1221 : decode cL_law 1221 = .ok (.iaload, 1) := dkg_L_83.2.2.2.2.2.2.1
theorem dL_law_1222 : decode cL_law 1222 = .ok (.aload_n 0, 1) := dkg_L_83.2.2.2.2.2.2.2.1
theorem dL_law_1223 : decode cL_law 1223 = .ok (.iload_n 3, 1) := dkg_L_83.2.2.2.2.2.2.2.2.1
theorem dL_law_1224 : decode cL_law 1224 = .ok (.iconst 2, 1) := dkg_L_83.2.2.2.2.2.2.2.2.2.1
theorem dkg_L_84 : dkp cL_law [(1225, .iadd, 1), (1226, .iaload, 1), (1227, .aload_n 0, 1), (1228, .iload_n 3, 1), (1229, .iconst 3, 1), (1230, .iadd, 1), (1231, .iaload, 1), (1232, .invokevirtual 150, 3), (1235, .pop, 1), (1236, .goto 141, 3)] := dkf (by decide +kernel)
theorem dL_law_1225 : decode cL_law 1225 = .ok (.iadd, 1) := dkg_L_84.1
theorem dL_law_1226 : decode cL_law 1226 = .ok (.iaload, 1) := dkg_L_84.2.1
theorem dL_law_1227 : decode cL_law 1227 = .ok (.aload_n 0, 1) := dkg_L_84.2.2.1
theorem dL_law_1228 : decode cL_law 1228 = .ok (.iload_n 3, 1) := dkg_L_84.2.2.2.1
theorem dL_law_1229 : decode cL_law 1229 = .ok (.iconst 3, 1) := dkg_L_84.2.2.2.2.1
theorem dL_law_1230 : decode cL_law 1230 = .ok (.iadd, 1) := dkg_L_84.2.2.2.2.2.1
theorem dL_law_1231 : decode cL_law 1231 = .ok (.iaload, 1) := dkg_L_84.2.2.2.2.2.2.1
theorem dL_law_1232 : decode cL_law 1232 = .ok (.invokevirtual 150, 3) := dkg_L_84.2.2.2.2.2.2.2.1
theorem dL_law_1235 : decode cL_law 1235 = .ok (.pop, 1) := dkg_L_84.2.2.2.2.2.2.2.2.1
theorem dL_law_1236 : decode cL_law 1236 = .ok (.goto 141, 3) := dkg_L_84.2.2.2.2.2.2.2.2.2.1
theorem dkg_L_85 : dkp cL_law [(1239, .aload_n 1, 1), (1240, .aload_n 0, 1), (1241, .iload_n 3, 1), (1242, .iconst 1, 1), (1243, .iadd, 1), (1244, .iaload, 1), (1245, .aload_n 0, 1), (1246, .iload_n 3, 1), (1247, .iconst 2, 1), (1248, .iadd, 1)] := dkf (by decide +kernel)
theorem dL_law_1239 : decode cL_law 1239 = .ok (.aload_n 1, 1) := dkg_L_85.1
theorem dL_law_1240 : decode cL_law 1240 = .ok (.aload_n 0, 1) := dkg_L_85.2.1
theorem dL_law_1241 : decode cL_law 1241 = .ok (.iload_n 3, 1) := dkg_L_85.2.2.1
theorem dL_law_1242 : decode cL_law 1242 = .ok (.iconst 1, 1) := dkg_L_85.2.2.2.1
theorem dL_law_1243 : decode cL_law 1243 = .ok (.iadd, 1) := dkg_L_85.2.2.2.2.1
theorem dL_law_1244 : decode cL_law 1244 = .ok (.iaload, 1) := dkg_L_85.2.2.2.2.2.1
theorem dL_law_1245 : decode cL_law 1245 = .ok (.aload_n 0, 1) := dkg_L_85.2.2.2.2.2.2.1
theorem dL_law_1246 : decode cL_law 1246 = .ok (.iload_n 3, 1) := dkg_L_85.2.2.2.2.2.2.2.1
theorem dL_law_1247 : decode cL_law 1247 = .ok (.iconst 2, 1) := dkg_L_85.2.2.2.2.2.2.2.2.1
theorem dL_law_1248 : decode cL_law 1248 = .ok (.iadd, 1) := dkg_L_85.2.2.2.2.2.2.2.2.2.1
theorem dkg_L_86 : dkp cL_law [(1249, .iaload, 1), (1250, .aload_n 0, 1), (1251, .iload_n 3, 1), (1252, .iconst 3, 1), (1253, .iadd, 1), (1254, .iaload, 1), (1255, .invokevirtual 151, 3), (1258, .pop, 1), (1259, .aload_n 2, 1), (1260, .aload_n 0, 1)] := dkf (by decide +kernel)
theorem dL_law_1249 : decode cL_law 1249 = .ok (.iaload, 1) := dkg_L_86.1
theorem dL_law_1250 : decode cL_law 1250 = .ok (.aload_n 0, 1) := dkg_L_86.2.1
theorem dL_law_1251 : decode cL_law 1251 = .ok (.iload_n 3, 1) := dkg_L_86.2.2.1
theorem dL_law_1252 : decode cL_law 1252 = .ok (.iconst 3, 1) := dkg_L_86.2.2.2.1
theorem dL_law_1253 : decode cL_law 1253 = .ok (.iadd, 1) := dkg_L_86.2.2.2.2.1
theorem dL_law_1254 : decode cL_law 1254 = .ok (.iaload, 1) := dkg_L_86.2.2.2.2.2.1
theorem dL_law_1255 : decode cL_law 1255 = .ok (.invokevirtual 151, 3) := dkg_L_86.2.2.2.2.2.2.1
theorem dL_law_1258 : decode cL_law 1258 = .ok (.pop, 1) := dkg_L_86.2.2.2.2.2.2.2.1
theorem dL_law_1259 : decode cL_law 1259 = .ok (.aload_n 2, 1) := dkg_L_86.2.2.2.2.2.2.2.2.1
theorem dL_law_1260 : decode cL_law 1260 = .ok (.aload_n 0, 1) := dkg_L_86.2.2.2.2.2.2.2.2.2.1
theorem dkg_L_87 : dkp cL_law [(1261, .iload_n 3, 1), (1262, .iconst 1, 1), (1263, .iadd, 1), (1264, .iaload, 1), (1265, .aload_n 0, 1), (1266, .iload_n 3, 1), (1267, .iconst 2, 1), (1268, .iadd, 1), (1269, .iaload, 1), (1270, .aload_n 0, 1)] := dkf (by decide +kernel)
theorem dL_law_1261 : decode cL_law 1261 = .ok (.iload_n 3, 1) := dkg_L_87.1
theorem dL_law_1262 : decode cL_law 1262 = .ok (.iconst 1, 1) := dkg_L_87.2.1
theorem dL_law_1263 : decode cL_law 1263 = .ok (.iadd, 1) := dkg_L_87.2.2.1
theorem dL_law_1264 : decode cL_law 1264 = .ok (.iaload, 1) := dkg_L_87.2.2.2.1
theorem dL_law_1265 : decode cL_law 1265 = .ok (.aload_n 0, 1) := dkg_L_87.2.2.2.2.1
theorem dL_law_1266 : decode cL_law 1266 = .ok (.iload_n 3, 1) := dkg_L_87.2.2.2.2.2.1
theorem dL_law_1267 : decode cL_law 1267 = .ok (.iconst 2, 1) := dkg_L_87.2.2.2.2.2.2.1
theorem dL_law_1268 : decode cL_law 1268 = .ok (.iadd, 1) := dkg_L_87.2.2.2.2.2.2.2.1
theorem dL_law_1269 : decode cL_law 1269 = .ok (.iaload, 1) := dkg_L_87.2.2.2.2.2.2.2.2.1
theorem dL_law_1270 : decode cL_law 1270 = .ok (.aload_n 0, 1) := dkg_L_87.2.2.2.2.2.2.2.2.2.1
theorem dkg_L_88 : dkp cL_law [(1271, .iload_n 3, 1), (1272, .iconst 3, 1), (1273, .iadd, 1), (1274, .iaload, 1), (1275, .invokevirtual 154, 3), (1278, .pop, 1), (1279, .goto 98, 3), (1282, .aload_n 1, 1), (1283, .aload_n 0, 1), (1284, .iload_n 3, 1)] := dkf (by decide +kernel)
theorem dL_law_1271 : decode cL_law 1271 = .ok (.iload_n 3, 1) := dkg_L_88.1
theorem dL_law_1272 : decode cL_law 1272 = .ok (.iconst 3, 1) := dkg_L_88.2.1
theorem dL_law_1273 : decode cL_law 1273 = .ok (.iadd, 1) := dkg_L_88.2.2.1
theorem dL_law_1274 : decode cL_law 1274 = .ok (.iaload, 1) := dkg_L_88.2.2.2.1
theorem dL_law_1275 : decode cL_law 1275 = .ok (.invokevirtual 154, 3) := dkg_L_88.2.2.2.2.1
theorem dL_law_1278 : decode cL_law 1278 = .ok (.pop, 1) := dkg_L_88.2.2.2.2.2.1
theorem dL_law_1279 : decode cL_law 1279 = .ok (.goto 98, 3) := dkg_L_88.2.2.2.2.2.2.1
theorem dL_law_1282 : decode cL_law 1282 = .ok (.aload_n 1, 1) := dkg_L_88.2.2.2.2.2.2.2.1
theorem dL_law_1283 : decode cL_law 1283 = .ok (.aload_n 0, 1) := dkg_L_88.2.2.2.2.2.2.2.2.1
theorem dL_law_1284 : decode cL_law 1284 = .ok (.iload_n 3, 1) := dkg_L_88.2.2.2.2.2.2.2.2.2.1
theorem dkg_L_89 : dkp cL_law [(1285, .iconst 1, 1), (1286, .iadd, 1), (1287, .iaload, 1), (1288, .aload_n 0, 1), (1289, .iload_n 3, 1), (1290, .iconst 2, 1), (1291, .iadd, 1), (1292, .iaload, 1), (1293, .invokevirtual 155, 3), (1296, .pop, 1)] := dkf (by decide +kernel)
theorem dL_law_1285 : decode cL_law 1285 = .ok (.iconst 1, 1) := dkg_L_89.1
theorem dL_law_1286 : decode cL_law 1286 = .ok (.iadd, 1) := dkg_L_89.2.1
theorem dL_law_1287 : decode cL_law 1287 = .ok (.iaload, 1) := dkg_L_89.2.2.1
theorem dL_law_1288 : decode cL_law 1288 = .ok (.aload_n 0, 1) := dkg_L_89.2.2.2.1
theorem dL_law_1289 : decode cL_law 1289 = .ok (.iload_n 3, 1) := dkg_L_89.2.2.2.2.1
theorem dL_law_1290 : decode cL_law 1290 = .ok (.iconst 2, 1) := dkg_L_89.2.2.2.2.2.1
theorem dL_law_1291 : decode cL_law 1291 = .ok (.iadd, 1) := dkg_L_89.2.2.2.2.2.2.1
theorem dL_law_1292 : decode cL_law 1292 = .ok (.iaload, 1) := dkg_L_89.2.2.2.2.2.2.2.1
theorem dL_law_1293 : decode cL_law 1293 = .ok (.invokevirtual 155, 3) := dkg_L_89.2.2.2.2.2.2.2.2.1
theorem dL_law_1296 : decode cL_law 1296 = .ok (.pop, 1) := dkg_L_89.2.2.2.2.2.2.2.2.2.1
theorem dkg_L_90 : dkp cL_law [(1297, .aload_n 2, 1), (1298, .aload_n 0, 1), (1299, .iload_n 3, 1), (1300, .iconst 1, 1), (1301, .iadd, 1), (1302, .iaload, 1), (1303, .aload_n 0, 1), (1304, .iload_n 3, 1), (1305, .iconst 2, 1), (1306, .iadd, 1)] := dkf (by decide +kernel)
theorem dL_law_1297 : decode cL_law 1297 = .ok (.aload_n 2, 1) := dkg_L_90.1
theorem dL_law_1298 : decode cL_law 1298 = .ok (.aload_n 0, 1) := dkg_L_90.2.1
theorem dL_law_1299 : decode cL_law 1299 = .ok (.iload_n 3, 1) := dkg_L_90.2.2.1
theorem dL_law_1300 : decode cL_law 1300 = .ok (.iconst 1, 1) := dkg_L_90.2.2.2.1
theorem dL_law_1301 : decode cL_law 1301 = .ok (.iadd, 1) := dkg_L_90.2.2.2.2.1
theorem dL_law_1302 : decode cL_law 1302 = .ok (.iaload, 1) := dkg_L_90.2.2.2.2.2.1
theorem dL_law_1303 : decode cL_law 1303 = .ok (.aload_n 0, 1) := dkg_L_90.2.2.2.2.2.2.1
theorem dL_law_1304 : decode cL_law 1304 = .ok (.iload_n 3, 1) := dkg_L_90.2.2.2.2.2.2.2.1
theorem dL_law_1305 : decode cL_law 1305 = .ok (.iconst 2, 1) := dkg_L_90.2.2.2.2.2.2.2.2.1
theorem dL_law_1306 : decode cL_law 1306 = .ok (.iadd, 1) := dkg_L_90.2.2.2.2.2.2.2.2.2.1
theorem dkg_L_91 : dkp cL_law [(1307, .iaload, 1), (1308, .invokevirtual 158, 3), (1311, .pop, 1), (1312, .goto 65, 3), (1315, .aload_n 1, 1), (1316, .invokevirtual 159, 3), (1319, .pop, 1), (1320, .aload_n 2, 1), (1321, .invokevirtual 162, 3), (1324, .pop, 1)] := dkf (by decide +kernel)
theorem dL_law_1307 : decode cL_law 1307 = .ok (.iaload, 1) := dkg_L_91.1
theorem dL_law_1308 : decode cL_law 1308 = .ok (.invokevirtual 158, 3) := dkg_L_91.2.1
theorem dL_law_1311 : decode cL_law 1311 = .ok (.pop, 1) := dkg_L_91.2.2.1
theorem dL_law_1312 : decode cL_law 1312 = .ok (.goto 65, 3) := dkg_L_91.2.2.2.1
theorem dL_law_1315 : decode cL_law 1315 = .ok (.aload_n 1, 1) := dkg_L_91.2.2.2.2.1
theorem dL_law_1316 : decode cL_law 1316 = .ok (.invokevirtual 159, 3) := dkg_L_91.2.2.2.2.2.1
theorem dL_law_1319 : decode cL_law 1319 = .ok (.pop, 1) := dkg_L_91.2.2.2.2.2.2.1
theorem dL_law_1320 : decode cL_law 1320 = .ok (.aload_n 2, 1) := dkg_L_91.2.2.2.2.2.2.2.1
theorem dL_law_1321 : decode cL_law 1321 = .ok (.invokevirtual 162, 3) := dkg_L_91.2.2.2.2.2.2.2.2.1
theorem dL_law_1324 : decode cL_law 1324 = .ok (.pop, 1) := dkg_L_91.2.2.2.2.2.2.2.2.2.1
theorem dkg_L_92 : dkp cL_law [(1325, .goto 52, 3), (1328, .aload_n 1, 1), (1329, .aload_n 0, 1), (1330, .iload_n 3, 1), (1331, .iconst 1, 1), (1332, .iadd, 1), (1333, .iaload, 1), (1334, .invokevirtual 163, 3), (1337, .pop, 1), (1338, .aload_n 2, 1)] := dkf (by decide +kernel)
theorem dL_law_1325 : decode cL_law 1325 = .ok (.goto 52, 3) := dkg_L_92.1
theorem dL_law_1328 : decode cL_law 1328 = .ok (.aload_n 1, 1) := dkg_L_92.2.1
theorem dL_law_1329 : decode cL_law 1329 = .ok (.aload_n 0, 1) := dkg_L_92.2.2.1
theorem dL_law_1330 : decode cL_law 1330 = .ok (.iload_n 3, 1) := dkg_L_92.2.2.2.1
theorem dL_law_1331 : decode cL_law 1331 = .ok (.iconst 1, 1) := dkg_L_92.2.2.2.2.1
theorem dL_law_1332 : decode cL_law 1332 = .ok (.iadd, 1) := dkg_L_92.2.2.2.2.2.1
theorem dL_law_1333 : decode cL_law 1333 = .ok (.iaload, 1) := dkg_L_92.2.2.2.2.2.2.1
theorem dL_law_1334 : decode cL_law 1334 = .ok (.invokevirtual 163, 3) := dkg_L_92.2.2.2.2.2.2.2.1
theorem dL_law_1337 : decode cL_law 1337 = .ok (.pop, 1) := dkg_L_92.2.2.2.2.2.2.2.2.1
theorem dL_law_1338 : decode cL_law 1338 = .ok (.aload_n 2, 1) := dkg_L_92.2.2.2.2.2.2.2.2.2.1
theorem dkg_L_93 : dkp cL_law [(1339, .aload_n 0, 1), (1340, .iload_n 3, 1), (1341, .iconst 1, 1), (1342, .iadd, 1), (1343, .iaload, 1), (1344, .invokevirtual 166, 3), (1347, .pop, 1), (1348, .goto 29, 3), (1351, .aload_n 1, 1), (1352, .invokevirtual 167, 3)] := dkf (by decide +kernel)
theorem dL_law_1339 : decode cL_law 1339 = .ok (.aload_n 0, 1) := dkg_L_93.1
theorem dL_law_1340 : decode cL_law 1340 = .ok (.iload_n 3, 1) := dkg_L_93.2.1
theorem dL_law_1341 : decode cL_law 1341 = .ok (.iconst 1, 1) := dkg_L_93.2.2.1
theorem dL_law_1342 : decode cL_law 1342 = .ok (.iadd, 1) := dkg_L_93.2.2.2.1
theorem dL_law_1343 : decode cL_law 1343 = .ok (.iaload, 1) := dkg_L_93.2.2.2.2.1
theorem dL_law_1344 : decode cL_law 1344 = .ok (.invokevirtual 166, 3) := dkg_L_93.2.2.2.2.2.1
theorem dL_law_1347 : decode cL_law 1347 = .ok (.pop, 1) := dkg_L_93.2.2.2.2.2.2.1
theorem dL_law_1348 : decode cL_law 1348 = .ok (.goto 29, 3) := dkg_L_93.2.2.2.2.2.2.2.1
theorem dL_law_1351 : decode cL_law 1351 = .ok (.aload_n 1, 1) := dkg_L_93.2.2.2.2.2.2.2.2.1
theorem dL_law_1352 : decode cL_law 1352 = .ok (.invokevirtual 167, 3) := dkg_L_93.2.2.2.2.2.2.2.2.2.1
theorem dkg_L_94 : dkp cL_law [(1355, .pop, 1), (1356, .aload_n 2, 1), (1357, .invokevirtual 170, 3), (1360, .pop, 1), (1361, .goto 16, 3), (1364, .aload_n 1, 1), (1365, .invokevirtual 171, 3), (1368, .pop, 1), (1369, .aload_n 2, 1), (1370, .invokevirtual 174, 3)] := dkf (by decide +kernel)
theorem dL_law_1355 : decode cL_law 1355 = .ok (.pop, 1) := dkg_L_94.1
theorem dL_law_1356 : decode cL_law 1356 = .ok (.aload_n 2, 1) := dkg_L_94.2.1
theorem dL_law_1357 : decode cL_law 1357 = .ok (.invokevirtual 170, 3) := dkg_L_94.2.2.1
theorem dL_law_1360 : decode cL_law 1360 = .ok (.pop, 1) := dkg_L_94.2.2.2.1
theorem dL_law_1361 : decode cL_law 1361 = .ok (.goto 16, 3) := dkg_L_94.2.2.2.2.1
theorem dL_law_1364 : decode cL_law 1364 = .ok (.aload_n 1, 1) := dkg_L_94.2.2.2.2.2.1
theorem dL_law_1365 : decode cL_law 1365 = .ok (.invokevirtual 171, 3) := dkg_L_94.2.2.2.2.2.2.1
theorem dL_law_1368 : decode cL_law 1368 = .ok (.pop, 1) := dkg_L_94.2.2.2.2.2.2.2.1
theorem dL_law_1369 : decode cL_law 1369 = .ok (.aload_n 2, 1) := dkg_L_94.2.2.2.2.2.2.2.2.1
theorem dL_law_1370 : decode cL_law 1370 = .ok (.invokevirtual 174, 3) := dkg_L_94.2.2.2.2.2.2.2.2.2.1
theorem dkg_L_95 : dkp cL_law [(1373, .pop, 1), (1374, .goto 3, 3), (1377, .iinc 3 6, 3), (1380, .goto (-1362), 3), (1383, .iconst 1, 1), (1384, .ireturn, 1)] := dkf (by decide +kernel)
theorem dL_law_1373 : decode cL_law 1373 = .ok (.pop, 1) := dkg_L_95.1
theorem dL_law_1374 : decode cL_law 1374 = .ok (.goto 3, 3) := dkg_L_95.2.1
theorem dL_law_1377 : decode cL_law 1377 = .ok (.iinc 3 6, 3) := dkg_L_95.2.2.1
theorem dL_law_1380 : decode cL_law 1380 = .ok (.goto (-1362), 3) := dkg_L_95.2.2.2.1
theorem dL_law_1383 : decode cL_law 1383 = .ok (.iconst 1, 1) := dkg_L_95.2.2.2.2.1
theorem dL_law_1384 : decode cL_law 1384 = .ok (.ireturn, 1) := dkg_L_95.2.2.2.2.2.1
theorem dkg_L_96 : dkp cL_law [(33, .tableswitch 1344 0 38 #[171, 234, 257, 300, 333, 356, 399, 442, 475, 488, 501, 544, 567, 590, 603, 616, 639, 672, 715, 748, 771, 834, 877, 890, 923, 936, 979, 1002, 1051, 1094, 1107, 1140, 1163, 1206, 1249, 1282, 1295, 1318, 1331], 171)] := dkq (by decide +kernel)
theorem dL_law_33 : decode cL_law 33 = .ok (.tableswitch 1344 0 38 #[171, 234, 257, 300, 333, 356, 399, 442, 475, 488, 501, 544, 567, 590, 603, 616, 639, 672, 715, 748, 771, 834, 877, 890, 923, 936, 979, 1002, 1051, 1094, 1107, 1140, 1163, 1206, 1249, 1282, 1295, 1318, 1331], 171) := dkg_L_96.1
