theorem dkg_X12_0 : dkp cX12_init [(0, .aload_n 0, 1), (1, .invokespecial 3, 3), (4, .aload_n 0, 1), (5, .iconst (-1), 1), (6, .putfield 9, 3), (9, .aload_n 0, 1), (10, .sipush 3000, 3), (15, .putfield 13, 3), (18, .aload_n 0, 1), (19, .bipush 30, 2)] := dkf (by decide +kernel)
theorem dX12_init_0 : decode cX12_init 0 = .ok (.aload_n 0, 1) := dkg_X12_0.1
theorem dX12_init_1 : decode cX12_init 1 = .ok (.invokespecial 3, 3) := dkg_X12_0.2.1
theorem dX12_init_4 : decode cX12_init 4 = .ok (.aload_n 0, 1) := dkg_X12_0.2.2.1
theorem dX12_init_5 : decode cX12_init 5 = .ok (.iconst (-1), 1) := dkg_X12_0.2.2.2.1
theorem dX12_init_6 : decode cX12_init 6 = .ok (.putfield 9, 3) := dkg_X12_0.2.2.2.2.1
theorem dX12_init_9 : decode cX12_init 9 = .ok (.aload_n 0, 1) := dkg_X12_0.2.2.2.2.2.1
theorem dX12_init_10 : decode cX12_init 10 = .ok (.sipush 3000, 3) := dkg_X12_0.2.2.2.2.2.2.1
theorem dX12_init_15 : decode cX12_init 15 = .ok (.putfield 13, 3) := dkg_X12_0.2.2.2.2.2.2.2.1
theorem dX12_init_18 : decode cX12_init 18 = .ok (.aload_n 0, 1) := dkg_X12_0.2.2.2.2.2.2.2.2.1
theorem dX12_init_19 : decode cX12_init 19 = .ok (.bipush 30, 2) := dkg_X12_0.2.2.2.2.2.2.2.2.2.1
theorem dkg_X12_1 : dkp cX12_init [(23, .putfield 17, 3), (26, .aload_n 0, 1), (27, .bipush 30, 2), (31, .putfield 21, 3), (34, .aload_n 0, 1), (35, .bipush 30, 2), (39, .putfield 24, 3), (42, .aload_n 0, 1), (43, .bipush 30, 2), (47, .putfield 27, 3)] := dkf (by decide +kernel)
theorem dX12_init_23 : decode cX12_init 23 = .ok (.putfield 17, 3) := dkg_X12_1.1
theorem dX12_init_26 : decode cX12_init 26 = .ok (.aload_n 0, 1) := dkg_X12_1.2.1
theorem dX12_init_27 : decode cX12_init 27 = .ok (.bipush 30, 2) := dkg_X12_1.2.2.1
theorem dX12_init_31 : decode cX12_init 31 = .ok (.putfield 21, 3) := dkg_X12_1.2.2.2.1
theorem dX12_init_34 : decode cX12_init 34 = .ok (.aload_n 0, 1) := dkg_X12_1.2.2.2.2.1
theorem dX12_init_35 : decode cX12_init 35 = .ok (.bipush 30, 2) := dkg_X12_1.2.2.2.2.2.1
theorem dX12_init_39 : decode cX12_init 39 = .ok (.putfield 24, 3) := dkg_X12_1.2.2.2.2.2.2.1
theorem dX12_init_42 : decode cX12_init 42 = .ok (.aload_n 0, 1) := dkg_X12_1.2.2.2.2.2.2.2.1
theorem dX12_init_43 : decode cX12_init 43 = .ok (.bipush 30, 2) := dkg_X12_1.2.2.2.2.2.2.2.2.1
theorem dX12_init_47 : decode cX12_init 47 = .ok (.putfield 27, 3) := dkg_X12_1.2.2.2.2.2.2.2.2.2.1
theorem dkg_X12_2 : dkp cX12_init [(50, .aload_n 0, 1), (51, .bipush 30, 2), (55, .putfield 30, 3), (58, .aload_n 0, 1), (59, .bipush 30, 2), (63, .putfield 33, 3), (66, .aload_n 0, 1), (67, .sipush 6000, 3), (72, .putfield 36, 3), (75, .aload_n 0, 1)] := dkf (by decide +kernel)
theorem dX12_init_50 : decode cX12_init 50 = .ok (.aload_n 0, 1) := dkg_X12_2.1
theorem dX12_init_51 : decode cX12_init 51 = .ok (.bipush 30, 2) := dkg_X12_2.2.1
theorem dX12_init_55 : decode cX12_init 55 = .ok (.putfield 30, 3) := dkg_X12_2.2.2.1
theorem dX12_init_58 : decode cX12_init 58 = .ok (.aload_n 0, 1) := dkg_X12_2.2.2.2.1
theorem dX12_init_59 : decode cX12_init 59 = .ok (.bipush 30, 2) := dkg_X12_2.2.2.2.2.1
theorem dX12_init_63 : decode cX12_init 63 = .ok (.putfield 33, 3) := dkg_X12_2.2.2.2.2.2.1
theorem dX12_init_66 : decode cX12_init 66 = .ok (.aload_n 0, 1) := dkg_X12_2.2.2.2.2.2.2.1
theorem dX12_init_67 : decode cX12_init 67 = .ok (.sipush 6000, 3) := dkg_X12_2.2.2.2.2.2.2.2.1
theorem dX12_init_72 : decode cX12_init 72 = .ok (.putfield 36, 3) := dkg_X12_2.2.2.2.2.2.2.2.2.1
theorem dX12_init_75 : decode cX12_init 75 = .ok (.aload_n 0, 1) := dkg_X12_2.2.2.2.2.2.2.2.2.2.1
theorem dkg_X12_3 : dkp cX12_init [(76, .sipush 6000, 3), (81, .putfield 39, 3), (84, .aload_n 0, 1), (85, .sipush 6000, 3), (90, .putfield 42, 3), (93, .aload_n 0, 1), (94, .ldc 45, 2), (98, .putfield 46, 3), (101, .aload_n 0, 1), (102, .sipush 24000, 3)] := dkf (by decide +kernel)
theorem dX12_init_76 : decode cX12_init 76 = .ok (.sipush 6000, 3) := dkg_X12_3.1
theorem dX12_init_81 : decode cX12_init 81 = .ok (.putfield 39, 3) := dkg_X12_3.2.1
theorem dX12_init_84 : decode cX12_init 84 = .ok (.aload_n 0, 1) := dkg_X12_3.2.2.1
theorem dX12_init_85 : decode cX12_init 85 = .ok (.sipush 6000, 3) := dkg_X12_3.2.2.2.1
theorem dX12_init_90 : decode cX12_init 90 = .ok (.putfield 42, 3) := dkg_X12_3.2.2.2.2.1
theorem dX12_init_93 : decode cX12_init 93 = .ok (.aload_n 0, 1) := dkg_X12_3.2.2.2.2.2.1
theorem dX12_init_94 : decode cX12_init 94 = .ok (.ldc 45, 2) := dkg_X12_3.2.2.2.2.2.2.1
theorem dX12_init_98 : decode cX12_init 98 = .ok (.putfield 46, 3) := dkg_X12_3.2.2.2.2.2.2.2.1
theorem dX12_init_101 : decode cX12_init 101 = .ok (.aload_n 0, 1) := dkg_X12_3.2.2.2.2.2.2.2.2.1
theorem dX12_init_102 : decode cX12_init 102 = .ok (.sipush 24000, 3) := dkg_X12_3.2.2.2.2.2.2.2.2.2.1
theorem dkg_X12_4 : dkp cX12_init [(107, .putfield 49, 3), (110, .aload_n 0, 1), (111, .bipush 120, 2), (115, .putfield 52, 3), (118, .aload_n 0, 1), (119, .sipush 480, 3), (124, .putfield 55, 3), (127, .aload_n 0, 1), (128, .bipush 64, 2), (132, .putfield 58, 3)] := dkf (by decide +kernel)
theorem dX12_init_107 : decode cX12_init 107 = .ok (.putfield 49, 3) := dkg_X12_4.1
theorem dX12_init_110 : decode cX12_init 110 = .ok (.aload_n 0, 1) := dkg_X12_4.2.1
theorem dX12_init_111 : decode cX12_init 111 = .ok (.bipush 120, 2) := dkg_X12_4.2.2.1
theorem dX12_init_115 : decode cX12_init 115 = .ok (.putfield 52, 3) := dkg_X12_4.2.2.2.1
theorem dX12_init_118 : decode cX12_init 118 = .ok (.aload_n 0, 1) := dkg_X12_4.2.2.2.2.1
theorem dX12_init_119 : decode cX12_init 119 = .ok (.sipush 480, 3) := dkg_X12_4.2.2.2.2.2.1
theorem dX12_init_124 : decode cX12_init 124 = .ok (.putfield 55, 3) := dkg_X12_4.2.2.2.2.2.2.1
theorem dX12_init_127 : decode cX12_init 127 = .ok (.aload_n 0, 1) := dkg_X12_4.2.2.2.2.2.2.2.1
theorem dX12_init_128 : decode cX12_init 128 = .ok (.bipush 64, 2) := dkg_X12_4.2.2.2.2.2.2.2.2.1
theorem dX12_init_132 : decode cX12_init 132 = .ok (.putfield 58, 3) := dkg_X12_4.2.2.2.2.2.2.2.2.2.1
theorem dkg_X12_5 : dkp cX12_init [(135, .aload_n 0, 1), (136, .sipush 512, 3), (141, .putfield 61, 3), (144, .aload_n 0, 1), (145, .sipush 512, 3), (150, .putfield 64, 3), (153, .aload_n 0, 1), (154, .sipush 513, 3), (159, .putfield 67, 3), (162, .aload_n 0, 1)] := dkf (by decide +kernel)
theorem dX12_init_135 : decode cX12_init 135 = .ok (.aload_n 0, 1) := dkg_X12_5.1
theorem dX12_init_136 : decode cX12_init 136 = .ok (.sipush 512, 3) := dkg_X12_5.2.1
theorem dX12_init_141 : decode cX12_init 141 = .ok (.putfield 61, 3) := dkg_X12_5.2.2.1
theorem dX12_init_144 : decode cX12_init 144 = .ok (.aload_n 0, 1) := dkg_X12_5.2.2.2.1
theorem dX12_init_145 : decode cX12_init 145 = .ok (.sipush 512, 3) := dkg_X12_5.2.2.2.2.1
theorem dX12_init_150 : decode cX12_init 150 = .ok (.putfield 64, 3) := dkg_X12_5.2.2.2.2.2.1
theorem dX12_init_153 : decode cX12_init 153 = .ok (.aload_n 0, 1) := dkg_X12_5.2.2.2.2.2.2.1
theorem dX12_init_154 : decode cX12_init 154 = .ok (.sipush 513, 3) := dkg_X12_5.2.2.2.2.2.2.2.1
theorem dX12_init_159 : decode cX12_init 159 = .ok (.putfield 67, 3) := dkg_X12_5.2.2.2.2.2.2.2.2.1
theorem dX12_init_162 : decode cX12_init 162 = .ok (.aload_n 0, 1) := dkg_X12_5.2.2.2.2.2.2.2.2.2.1
theorem dkg_X12_6 : dkp cX12_init [(163, .sipush 6144, 3), (168, .putfield 70, 3), (171, .aload_n 0, 1), (172, .sipush 513, 3), (177, .putfield 73, 3), (180, .aload_n 0, 1), (181, .iconst 5, 1), (184, .putfield 76, 3), (187, .aload_n 0, 1), (188, .sipush 500, 3)] := dkf (by decide +kernel)
theorem dX12_init_163 : decode cX12_init 163 = .ok (.sipush 6144, 3) := dkg_X12_6.1
theorem dX12_init_168 : decode cX12_init 168 = .ok (.putfield 70, 3) := dkg_X12_6.2.1
theorem dX12_init_171 : decode cX12_init 171 = .ok (.aload_n 0, 1) := dkg_X12_6.2.2.1
theorem dX12_init_172 : decode cX12_init 172 = .ok (.sipush 513, 3) := dkg_X12_6.2.2.2.1
theorem dX12_init_177 : decode cX12_init 177 = .ok (.putfield 73, 3) := dkg_X12_6.2.2.2.2.1
theorem dX12_init_180 : decode cX12_init 180 = .ok (.aload_n 0, 1) := dkg_X12_6.2.2.2.2.2.1
theorem dX12_init_181 : decode cX12_init 181 = .ok (.iconst 5, 1) := dkg_X12_6.2.2.2.2.2.2.1
theorem dX12_init_184 : decode cX12_init 184 = .ok (.putfield 76, 3) := dkg_X12_6.2.2.2.2.2.2.2.1
theorem dX12_init_187 : decode cX12_init 187 = .ok (.aload_n 0, 1) := dkg_X12_6.2.2.2.2.2.2.2.2.1
theorem dX12_init_188 : decode cX12_init 188 = .ok (.sipush 500, 3) := dkg_X12_6.2.2.2.2.2.2.2.2.2.1
theorem dkg_X12_7 : dkp cX12_init [(193, .putfield 79, 3), (196, .aload_n 0, 1), (197, .bipush 32, 2), (199, .putfield 82, 3), (202, .aload_n 0, 1), (203, .bipush 25, 2), (205, .putfield 85, 3), (208, .aload_n 0, 1), (209, .bipush 36, 2), (211, .putfield 88, 3)] := dkf (by decide +kernel)
theorem dX12_init_193 : decode cX12_init 193 = .ok (.putfield 79, 3) := dkg_X12_7.1
theorem dX12_init_196 : decode cX12_init 196 = .ok (.aload_n 0, 1) := dkg_X12_7.2.1
theorem dX12_init_197 : decode cX12_init 197 = .ok (.bipush 32, 2) := dkg_X12_7.2.2.1
theorem dX12_init_199 : decode cX12_init 199 = .ok (.putfield 82, 3) := dkg_X12_7.2.2.2.1
theorem dX12_init_202 : decode cX12_init 202 = .ok (.aload_n 0, 1) := dkg_X12_7.2.2.2.2.1
theorem dX12_init_203 : decode cX12_init 203 = .ok (.bipush 25, 2) := dkg_X12_7.2.2.2.2.2.1
theorem dX12_init_205 : decode cX12_init 205 = .ok (.putfield 85, 3) := dkg_X12_7.2.2.2.2.2.2.1
theorem dX12_init_208 : decode cX12_init 208 = .ok (.aload_n 0, 1) := dkg_X12_7.2.2.2.2.2.2.2.1
theorem dX12_init_209 : decode cX12_init 209 = .ok (.bipush 36, 2) := dkg_X12_7.2.2.2.2.2.2.2.2.1
theorem dX12_init_211 : decode cX12_init 211 = .ok (.putfield 88, 3) := dkg_X12_7.2.2.2.2.2.2.2.2.2.1
theorem dkg_X12_8 : dkp cX12_init [(214, .aload_n 0, 1), (215, .sipush 200, 3), (220, .putfield 91, 3), (223, .aload_n 0, 1), (224, .ldc 94, 2), (228, .putfield 95, 3), (231, .aload_n 0, 1), (232, .sipush 200, 3), (237, .putfield 98, 3), (240, .aload_n 0, 1)] := dkf (by decide +kernel)
theorem dX12_init_214 : decode cX12_init 214 = .ok (.aload_n 0, 1) := dkg_X12_8.1
theorem dX12_init_215 : decode cX12_init 215 = .ok (.sipush 200, 3) := dkg_X12_8.2.1
theorem dX12_init_220 : decode cX12_init 220 = .ok (.putfield 91, 3) := dkg_X12_8.2.2.1
theorem dX12_init_223 : decode cX12_init 223 = .ok (.aload_n 0, 1) := dkg_X12_8.2.2.2.1
theorem dX12_init_224 : decode cX12_init 224 = .ok (.ldc 94, 2) := dkg_X12_8.2.2.2.2.1
theorem dX12_init_228 : decode cX12_init 228 = .ok (.putfield 95, 3) := dkg_X12_8.2.2.2.2.2.1
theorem dX12_init_231 : decode cX12_init 231 = .ok (.aload_n 0, 1) := dkg_X12_8.2.2.2.2.2.2.1
theorem dX12_init_232 : decode cX12_init 232 = .ok (.sipush 200, 3) := dkg_X12_8.2.2.2.2.2.2.2.1
theorem dX12_init_237 : decode cX12_init 237 = .ok (.putfield 98, 3) := dkg_X12_8.2.2.2.2.2.2.2.2.1
theorem dX12_init_240 : decode cX12_init 240 = .ok (.aload_n 0, 1) := dkg_X12_8.2.2.2.2.2.2.2.2.2.1
theorem dkg_X12_9 : dkp cX12_init [(241, .ldc 94, 2), (245, .putfield 101, 3), (248, .aload_n 0, 1), (249, .sipush 200, 3), (254, .putfield 104, 3), (257, .aload_n 0, 1), (258, .sipush 12016, 3), (263, .putfield 107, 3), (266, .aload_n 0, 1), (267, .sipush 12016, 3)] := dkf (by decide +kernel)
theorem dX12_init_241 : decode cX12_init 241 = .ok (.ldc 94, 2) := dkg_X12_9.1
theorem dX12_init_245 : decode cX12_init 245 = .ok (.putfield 101, 3) := dkg_X12_9.2.1
theorem dX12_init_248 : decode cX12_init 248 = .ok (.aload_n 0, 1) := dkg_X12_9.2.2.1
theorem dX12_init_249 : decode cX12_init 249 = .ok (.sipush 200, 3) := dkg_X12_9.2.2.2.1
theorem dX12_init_254 : decode cX12_init 254 = .ok (.putfield 104, 3) := dkg_X12_9.2.2.2.2.1
theorem dX12_init_257 : decode cX12_init 257 = .ok (.aload_n 0, 1) := dkg_X12_9.2.2.2.2.2.1
theorem dX12_init_258 : decode cX12_init 258 = .ok (.sipush 12016, 3) := dkg_X12_9.2.2.2.2.2.2.1
theorem dX12_init_263 : decode cX12_init 263 = .ok (.putfield 107, 3) := dkg_X12_9.2.2.2.2.2.2.2.1
theorem dX12_init_266 : decode cX12_init 266 = .ok (.aload_n 0, 1) := dkg_X12_9.2.2.2.2.2.2.2.2.1
theorem dX12_init_267 : decode cX12_init 267 = .ok (.sipush 12016, 3) := dkg_X12_9.2.2.2.2.2.2.2.2.2.1
theorem dkg_X12_10 : dkp cX12_init [(272, .putfield 110, 3), (275, .aload_n 0, 1), (276, .sipush 12016, 3), (281, .putfield 113, 3), (284, .aload_n 0, 1), (285, .iconst 2, 1), (288, .putfield 116, 3), (291, .aload_n 0, 1), (292, .ldc 119, 2), (296, .putfield 120, 3)] := dkf (by decide +kernel)
theorem dX12_init_272 : decode cX12_init 272 = .ok (.putfield 110, 3) := dkg_X12_10.1
theorem dX12_init_275 : decode cX12_init 275 = .ok (.aload_n 0, 1) := dkg_X12_10.2.1
theorem dX12_init_276 : decode cX12_init 276 = .ok (.sipush 12016, 3) := dkg_X12_10.2.2.1
theorem dX12_init_281 : decode cX12_init 281 = .ok (.putfield 113, 3) := dkg_X12_10.2.2.2.1
theorem dX12_init_284 : decode cX12_init 284 = .ok (.aload_n 0, 1) := dkg_X12_10.2.2.2.2.1
theorem dX12_init_285 : decode cX12_init 285 = .ok (.iconst 2, 1) := dkg_X12_10.2.2.2.2.2.1
theorem dX12_init_288 : decode cX12_init 288 = .ok (.putfield 116, 3) := dkg_X12_10.2.2.2.2.2.2.1
theorem dX12_init_291 : decode cX12_init 291 = .ok (.aload_n 0, 1) := dkg_X12_10.2.2.2.2.2.2.2.1
theorem dX12_init_292 : decode cX12_init 292 = .ok (.ldc 119, 2) := dkg_X12_10.2.2.2.2.2.2.2.2.1
theorem dX12_init_296 : decode cX12_init 296 = .ok (.putfield 120, 3) := dkg_X12_10.2.2.2.2.2.2.2.2.2.1
theorem dkg_X12_11 : dkp cX12_init [(299, .aload_n 0, 1), (300, .ldc 119, 2), (304, .putfield 123, 3), (307, .aload_n 0, 1), (308, .sipush 4000, 3), (313, .putfield 126, 3), (316, .aload_n 0, 1), (317, .sipush 4000, 3), (322, .putfield 129, 3), (325, .aload_n 0, 1)] := dkf (by decide +kernel)
theorem dX12_init_299 : decode cX12_init 299 = .ok (.aload_n 0, 1) := dkg_X12_11.1
theorem dX12_init_300 : decode cX12_init 300 = .ok (.ldc 119, 2) := dkg_X12_11.2.1
theorem dX12_init_304 : decode cX12_init 304 = .ok (.putfield 123, 3) := dkg_X12_11.2.2.1
theorem dX12_init_307 : decode cX12_init 307 = .ok (.aload_n 0, 1) := dkg_X12_11.2.2.2.1
theorem dX12_init_308 : decode cX12_init 308 = .ok (.sipush 4000, 3) := dkg_X12_11.2.2.2.2.1
theorem dX12_init_313 : decode cX12_init 313 = .ok (.putfield 126, 3) := dkg_X12_11.2.2.2.2.2.1
theorem dX12_init_316 : decode cX12_init 316 = .ok (.aload_n 0, 1) := dkg_X12_11.2.2.2.2.2.2.1
theorem dX12_init_317 : decode cX12_init 317 = .ok (.sipush 4000, 3) := dkg_X12_11.2.2.2.2.2.2.2.1
theorem dX12_init_322 : decode cX12_init 322 = .ok (.putfield 129, 3) := dkg_X12_11.2.2.2.2.2.2.2.2.1
theorem dX12_init_325 : decode cX12_init 325 = .ok (.aload_n 0, 1) := dkg_X12_11.2.2.2.2.2.2.2.2.2.1
theorem dkg_X12_12 : dkp cX12_init [(326, .sipush 404, 3), (331, .putfield 132, 3), (334, .aload_n 0, 1), (335, .ldc 135, 2), (339, .putfield 136, 3), (342, .aload_n 0, 1), (343, .bipush 50, 2), (347, .putfield 139, 3), (350, .aload_n 0, 1), (351, .sipush 1000, 3)] := dkf (by decide +kernel)
theorem dX12_init_326 : decode cX12_init 326 = .ok (.sipush 404, 3) := dkg_X12_12.1
theorem dX12_init_331 : decode cX12_init 331 = .ok (.putfield 132, 3) := dkg_X12_12.2.1
theorem dX12_init_334 : decode cX12_init 334 = .ok (.aload_n 0, 1) := dkg_X12_12.2.2.1
theorem dX12_init_335 : decode cX12_init 335 = .ok (.ldc 135, 2) := dkg_X12_12.2.2.2.1
theorem dX12_init_339 : decode cX12_init 339 = .ok (.putfield 136, 3) := dkg_X12_12.2.2.2.2.1
theorem dX12_init_342 : decode cX12_init 342 = .ok (.aload_n 0, 1) := dkg_X12_12.2.2.2.2.2.1
theorem dX12_init_343 : decode cX12_init 343 = .ok (.bipush 50, 2) := dkg_X12_12.2.2.2.2.2.2.1
theorem dX12_init_347 : decode cX12_init 347 = .ok (.putfield 139, 3) := dkg_X12_12.2.2.2.2.2.2.2.1
theorem dX12_init_350 : decode cX12_init 350 = .ok (.aload_n 0, 1) := dkg_X12_12.2.2.2.2.2.2.2.2.1
theorem dX12_init_351 : decode cX12_init 351 = .ok (.sipush 1000, 3) := dkg_X12_12.2.2.2.2.2.2.2.2.2.1
theorem dkg_X12_13 : dkp cX12_init [(356, .putfield 142, 3), (359, .aload_n 0, 1), (360, .sipush 256, 3), (365, .putfield 145, 3), (368, .return_, 1)] := dkf (by decide +kernel)
theorem dX12_init_356 : decode cX12_init 356 = .ok (.putfield 142, 3) := dkg_X12_13.1
theorem dX12_init_359 : decode cX12_init 359 = .ok (.aload_n 0, 1) := dkg_X12_13.2.1
theorem dX12_init_360 : decode cX12_init 360 = .ok (.sipush 256, 3) := dkg_X12_13.2.2.1
theorem dX12_init_365 : decode cX12_init 365 = .ok (.putfield 145, 3) := dkg_X12_13.2.2.2.1
theorem dX12_init_368 : decode cX12_init 368 = .ok (.return_, 1) := dkg_X12_13.2.2.2.2.1
theorem dkg_X12_14 : dkp cX12_init [(13, .newarray .int, 2), (21, .newarray .boolean, 2), (29, .newarray .int, 2), (37, .newarray .int, 2), (45, .newarray .int, 2), (53, .newarray .int, 2), (61, .newarray .int, 2), (70, .newarray .int, 2), (79, .newarray .int, 2), (88, .newarray .int, 2)] := dkq (by decide +kernel)
theorem dX12_init_13 : decode cX12_init 13 = .ok (.newarray .int, 2) := dkg_X12_14.1
theorem dX12_init_21 : decode cX12_init 21 = .ok (.newarray .boolean, 2) := dkg_X12_14.2.1
theorem dX12_init_29 : decode cX12_init 29 = .ok (.newarray .int, 2) := dkg_X12_14.2.2.1
theorem dX12_init_37 : decode cX12_init 37 = .ok (.newarray .int, 2) := dkg_X12_14.2.2.2.1
theorem dX12_init_45 : decode cX12_init 45 = .ok (.newarray .int, 2) := dkg_X12_14.2.2.2.2.1
theorem dX12_init_53 : decode cX12_init 53 = .ok (.newarray .int, 2) := dkg_X12_14.2.2.2.2.2.1
theorem dX12_init_61 : decode cX12_init 61 = .ok (.newarray .int, 2) := dkg_X12_14.2.2.2.2.2.2.1
theorem dX12_init_70 : decode cX12_init 70 = .ok (.newarray .int, 2) := dkg_X12_14.2.2.2.2.2.2.2.1
theorem dX12_init_79 : decode cX12_init 79 = .ok (.newarray .int, 2) := dkg_X12_14.2.2.2.2.2.2.2.2.1
theorem dX12_init_88 : decode cX12_init 88 = .ok (.newarray .int, 2) := dkg_X12_14.2.2.2.2.2.2.2.2.2.1
theorem dkg_X12_15 : dkp cX12_init [(96, .newarray .int, 2), (105, .newarray .int, 2), (113, .newarray .int, 2), (122, .newarray .int, 2), (130, .newarray .int, 2), (139, .newarray .int, 2), (148, .newarray .int, 2), (157, .newarray .boolean, 2), (166, .newarray .int, 2), (175, .newarray .int, 2)] := dkq (by decide +kernel)
theorem dX12_init_96 : decode cX12_init 96 = .ok (.newarray .int, 2) := dkg_X12_15.1
theorem dX12_init_105 : decode cX12_init 105 = .ok (.newarray .int, 2) := dkg_X12_15.2.1
theorem dX12_init_113 : decode cX12_init 113 = .ok (.newarray .int, 2) := dkg_X12_15.2.2.1
theorem dX12_init_122 : decode cX12_init 122 = .ok (.newarray .int, 2) := dkg_X12_15.2.2.2.1
theorem dX12_init_130 : decode cX12_init 130 = .ok (.newarray .int, 2) := dkg_X12_15.2.2.2.2.1
theorem dX12_init_139 : decode cX12_init 139 = .ok (.newarray .int, 2) := dkg_X12_15.2.2.2.2.2.1
theorem dX12_init_148 : decode cX12_init 148 = .ok (.newarray .int, 2) := dkg_X12_15.2.2.2.2.2.2.1
theorem dX12_init_157 : decode cX12_init 157 = .ok (.newarray .boolean, 2) := dkg_X12_15.2.2.2.2.2.2.2.1
theorem dX12_init_166 : decode cX12_init 166 = .ok (.newarray .int, 2) := dkg_X12_15.2.2.2.2.2.2.2.2.1
theorem dX12_init_175 : decode cX12_init 175 = .ok (.newarray .int, 2) := dkg_X12_15.2.2.2.2.2.2.2.2.2.1
theorem dkg_X12_16 : dkp cX12_init [(182, .newarray .int, 2), (191, .newarray .int, 2), (218, .newarray .int, 2), (226, .newarray .int, 2), (235, .newarray .int, 2), (243, .newarray .int, 2), (252, .newarray .int, 2), (261, .newarray .int, 2), (270, .newarray .int, 2), (279, .newarray .int, 2)] := dkq (by decide +kernel)
theorem dX12_init_182 : decode cX12_init 182 = .ok (.newarray .int, 2) := dkg_X12_16.1
theorem dX12_init_191 : decode cX12_init 191 = .ok (.newarray .int, 2) := dkg_X12_16.2.1
theorem dX12_init_218 : decode cX12_init 218 = .ok (.newarray .int, 2) := dkg_X12_16.2.2.1
theorem dX12_init_226 : decode cX12_init 226 = .ok (.newarray .int, 2) := dkg_X12_16.2.2.2.1
theorem dX12_init_235 : decode cX12_init 235 = .ok (.newarray .int, 2) := dkg_X12_16.2.2.2.2.1
theorem dX12_init_243 : decode cX12_init 243 = .ok (.newarray .int, 2) := dkg_X12_16.2.2.2.2.2.1
theorem dX12_init_252 : decode cX12_init 252 = .ok (.newarray .int, 2) := dkg_X12_16.2.2.2.2.2.2.1
theorem dX12_init_261 : decode cX12_init 261 = .ok (.newarray .int, 2) := dkg_X12_16.2.2.2.2.2.2.2.1
theorem dX12_init_270 : decode cX12_init 270 = .ok (.newarray .int, 2) := dkg_X12_16.2.2.2.2.2.2.2.2.1
theorem dX12_init_279 : decode cX12_init 279 = .ok (.newarray .int, 2) := dkg_X12_16.2.2.2.2.2.2.2.2.2.1
theorem dkg_X12_17 : dkp cX12_init [(286, .newarray .int, 2), (294, .newarray .int, 2), (302, .newarray .int, 2), (311, .newarray .int, 2), (320, .newarray .int, 2), (329, .newarray .boolean, 2), (337, .newarray .int, 2), (345, .newarray .int, 2), (354, .newarray .int, 2), (363, .newarray .int, 2)] := dkq (by decide +kernel)
theorem dX12_init_286 : decode cX12_init 286 = .ok (.newarray .int, 2) := dkg_X12_17.1
theorem dX12_init_294 : decode cX12_init 294 = .ok (.newarray .int, 2) := dkg_X12_17.2.1
theorem dX12_init_302 : decode cX12_init 302 = .ok (.newarray .int, 2) := dkg_X12_17.2.2.1
theorem dX12_init_311 : decode cX12_init 311 = .ok (.newarray .int, 2) := dkg_X12_17.2.2.2.1
theorem dX12_init_320 : decode cX12_init 320 = .ok (.newarray .int, 2) := dkg_X12_17.2.2.2.2.1
theorem dX12_init_329 : decode cX12_init 329 = .ok (.newarray .boolean, 2) := dkg_X12_17.2.2.2.2.2.1
theorem dX12_init_337 : decode cX12_init 337 = .ok (.newarray .int, 2) := dkg_X12_17.2.2.2.2.2.2.1
theorem dX12_init_345 : decode cX12_init 345 = .ok (.newarray .int, 2) := dkg_X12_17.2.2.2.2.2.2.2.1
theorem dX12_init_354 : decode cX12_init 354 = .ok (.newarray .int, 2) := dkg_X12_17.2.2.2.2.2.2.2.2.1
theorem dX12_init_363 : decode cX12_init 363 = .ok (.newarray .int, 2) := dkg_X12_17.2.2.2.2.2.2.2.2.2.1
theorem dkg_X12_18 : dkp cX12_fine [(0, .aload_n 0, 1), (1, .iconst 0, 1), (2, .putfield 148, 3), (5, .aload_n 0, 1), (6, .iconst (-1), 1), (7, .putfield 9, 3), (10, .iload_n 1, 1), (11, .ireturn, 1)] := dkf (by decide +kernel)
theorem dX12_fine_0 : decode cX12_fine 0 = .ok (.aload_n 0, 1) := dkg_X12_18.1
theorem dX12_fine_1 : decode cX12_fine 1 = .ok (.iconst 0, 1) := dkg_X12_18.2.1
theorem dX12_fine_2 : decode cX12_fine 2 = .ok (.putfield 148, 3) := dkg_X12_18.2.2.1
theorem dX12_fine_5 : decode cX12_fine 5 = .ok (.aload_n 0, 1) := dkg_X12_18.2.2.2.1
theorem dX12_fine_6 : decode cX12_fine 6 = .ok (.iconst (-1), 1) := dkg_X12_18.2.2.2.2.1
theorem dX12_fine_7 : decode cX12_fine 7 = .ok (.putfield 9, 3) := dkg_X12_18.2.2.2.2.2.1
theorem dX12_fine_10 : decode cX12_fine 10 = .ok (.iload_n 1, 1) := dkg_X12_18.2.2.2.2.2.2.1
theorem dX12_fine_11 : decode cX12_fine 11 = .ok (.ireturn, 1) := dkg_X12_18.2.2.2.2.2.2.2.1
theorem dkg_X12_19 : dkp cX12_bad [(0, .aload_n 0, 1), (1, .iload_n 1, 1), (2, .putfield 148, 3), (5, .aload_n 0, 1), (6, .iconst (-1), 1), (7, .putfield 9, 3), (10, .iconst (-1), 1), (11, .ireturn, 1)] := dkf (by decide +kernel)
theorem dX12_bad_0 : decode cX12_bad 0 = .ok (.aload_n 0, 1) := dkg_X12_19.1
theorem dX12_bad_1 : decode cX12_bad 1 = .ok (.iload_n 1, 1) := dkg_X12_19.2.1
theorem dX12_bad_2 : decode cX12_bad 2 = .ok (.putfield 148, 3) := dkg_X12_19.2.2.1
theorem dX12_bad_5 : decode cX12_bad 5 = .ok (.aload_n 0, 1) := dkg_X12_19.2.2.2.1
theorem dX12_bad_6 : decode cX12_bad 6 = .ok (.iconst (-1), 1) := dkg_X12_19.2.2.2.2.1
theorem dX12_bad_7 : decode cX12_bad 7 = .ok (.putfield 9, 3) := dkg_X12_19.2.2.2.2.2.1
theorem dX12_bad_10 : decode cX12_bad 10 = .ok (.iconst (-1), 1) := dkg_X12_19.2.2.2.2.2.2.1
theorem dX12_bad_11 : decode cX12_bad 11 = .ok (.ireturn, 1) := dkg_X12_19.2.2.2.2.2.2.2.1
theorem dkg_X12_20 : dkp cX12_badAt [(0, .aload_n 0, 1), (1, .iload_n 1, 1), (2, .putfield 148, 3), (5, .aload_n 0, 1), (6, .iload_n 1, 1), (7, .bipush 7, 2), (9, .if_icmp .eq 9, 3), (12, .iload_n 1, 1), (13, .bipush 9, 2), (15, .if_icmp .ne 7, 3)] := dkf (by decide +kernel)
theorem dX12_badAt_0 : decode cX12_badAt 0 = .ok (.aload_n 0, 1) := dkg_X12_20.1
theorem dX12_badAt_1 : decode cX12_badAt 1 = .ok (.iload_n 1, 1) := dkg_X12_20.2.1
theorem dX12_badAt_2 : decode cX12_badAt 2 = .ok (.putfield 148, 3) := dkg_X12_20.2.2.1
theorem dX12_badAt_5 : decode cX12_badAt 5 = .ok (.aload_n 0, 1) := dkg_X12_20.2.2.2.1
theorem dX12_badAt_6 : decode cX12_badAt 6 = .ok (.iload_n 1, 1) := dkg_X12_20.2.2.2.2.1
theorem dX12_badAt_7 : decode cX12_badAt 7 = .ok (.bipush 7, 2) := dkg_X12_20.2.2.2.2.2.1
theorem dX12_badAt_9 : decode cX12_badAt 9 = .ok (.if_icmp .eq 9, 3) := dkg_X12_20.2.2.2.2.2.2.1
theorem dX12_badAt_12 : decode cX12_badAt 12 = .ok (.iload_n 1, 1) := dkg_X12_20.2.2.2.2.2.2.2.1
theorem dX12_badAt_13 : decode cX12_badAt 13 = .ok (.bipush 9, 2) := dkg_X12_20.2.2.2.2.2.2.2.2.1
theorem dX12_badAt_15 : decode cX12_badAt 15 = .ok (.if_icmp .ne 7, 3) := dkg_X12_20.2.2.2.2.2.2.2.2.2.1
theorem dkg_X12_21 : dkp cX12_badAt [(18, .iload_n 2, 1), (19, .goto 4, 3), (22, .iconst (-1), 1), (23, .putfield 9, 3), (26, .iconst (-1), 1), (27, .ireturn, 1)] := dkf (by decide +kernel)
theorem dX12_badAt_18 : decode cX12_badAt 18 = .ok (.iload_n 2, 1) := dkg_X12_21.1
theorem dX12_badAt_19 : decode cX12_badAt 19 = .ok (.goto 4, 3) := dkg_X12_21.2.1
theorem dX12_badAt_22 : decode cX12_badAt 22 = .ok (.iconst (-1), 1) := dkg_X12_21.2.2.1
theorem dX12_badAt_23 : decode cX12_badAt 23 = .ok (.putfield 9, 3) := dkg_X12_21.2.2.2.1
theorem dX12_badAt_26 : decode cX12_badAt 26 = .ok (.iconst (-1), 1) := dkg_X12_21.2.2.2.2.1
theorem dX12_badAt_27 : decode cX12_badAt 27 = .ok (.ireturn, 1) := dkg_X12_21.2.2.2.2.2.1
theorem dkg_X12_22 : dkp cX12_feed [(0, .aload_n 0, 1), (1, .getfield 151, 3), (4, .bipush 20, 2), (6, .iadd, 1), (7, .sipush 3000, 3), (10, .if_icmp .le 10, 3), (13, .aload_n 0, 1), (14, .bipush 6, 2), (16, .invokevirtual 154, 3), (19, .ireturn, 1)] := dkf (by decide +kernel)
theorem dX12_feed_0 : decode cX12_feed 0 = .ok (.aload_n 0, 1) := dkg_X12_22.1
theorem dX12_feed_1 : decode cX12_feed 1 = .ok (.getfield 151, 3) := dkg_X12_22.2.1
theorem dX12_feed_4 : decode cX12_feed 4 = .ok (.bipush 20, 2) := dkg_X12_22.2.2.1
theorem dX12_feed_6 : decode cX12_feed 6 = .ok (.iadd, 1) := dkg_X12_22.2.2.2.1
theorem dX12_feed_7 : decode cX12_feed 7 = .ok (.sipush 3000, 3) := dkg_X12_22.2.2.2.2.1
theorem dX12_feed_10 : decode cX12_feed 10 = .ok (.if_icmp .le 10, 3) := dkg_X12_22.2.2.2.2.2.1
theorem dX12_feed_13 : decode cX12_feed 13 = .ok (.aload_n 0, 1) := dkg_X12_22.2.2.2.2.2.2.1
theorem dX12_feed_14 : decode cX12_feed 14 = .ok (.bipush 6, 2) := dkg_X12_22.2.2.2.2.2.2.2.1
theorem dX12_feed_16 : decode cX12_feed 16 = .ok (.invokevirtual 154, 3) := dkg_X12_22.2.2.2.2.2.2.2.2.1
theorem dX12_feed_19 : decode cX12_feed 19 = .ok (.ireturn, 1) := dkg_X12_22.2.2.2.2.2.2.2.2.2.1
theorem dkg_X12_23 : dkp cX12_feed [(20, .iconst 0, 1), (21, .istore 6, 2), (23, .iload 6, 2), (25, .bipush 20, 2), (27, .if_icmp .ge 93, 3), (30, .iload 6, 2), (32, .iconst 4, 1), (33, .if_icmp .ge 7, 3), (36, .iload_n 1, 1), (37, .goto 39, 3)] := dkf (by decide +kernel)
theorem dX12_feed_20 : decode cX12_feed 20 = .ok (.iconst 0, 1) := dkg_X12_23.1
theorem dX12_feed_21 : decode cX12_feed 21 = .ok (.istore 6, 2) := dkg_X12_23.2.1
theorem dX12_feed_23 : decode cX12_feed 23 = .ok (.iload 6, 2) := dkg_X12_23.2.2.1
theorem dX12_feed_25 : decode cX12_feed 25 = .ok (.bipush 20, 2) := dkg_X12_23.2.2.2.1
theorem dX12_feed_27 : decode cX12_feed 27 = .ok (.if_icmp .ge 93, 3) := dkg_X12_23.2.2.2.2.1
theorem dX12_feed_30 : decode cX12_feed 30 = .ok (.iload 6, 2) := dkg_X12_23.2.2.2.2.2.1
theorem dX12_feed_32 : decode cX12_feed 32 = .ok (.iconst 4, 1) := dkg_X12_23.2.2.2.2.2.2.1
theorem dX12_feed_33 : decode cX12_feed 33 = .ok (.if_icmp .ge 7, 3) := dkg_X12_23.2.2.2.2.2.2.2.1
theorem dX12_feed_36 : decode cX12_feed 36 = .ok (.iload_n 1, 1) := dkg_X12_23.2.2.2.2.2.2.2.2.1
theorem dX12_feed_37 : decode cX12_feed 37 = .ok (.goto 39, 3) := dkg_X12_23.2.2.2.2.2.2.2.2.2.1
theorem dkg_X12_24 : dkp cX12_feed [(40, .iload 6, 2), (42, .bipush 8, 2), (44, .if_icmp .ge 7, 3), (47, .iload_n 2, 1), (48, .goto 28, 3), (51, .iload 6, 2), (53, .bipush 12, 2), (55, .if_icmp .ge 7, 3), (58, .iload_n 3, 1), (59, .goto 17, 3)] := dkf (by decide +kernel)
theorem dX12_feed_40 : decode cX12_feed 40 = .ok (.iload 6, 2) := dkg_X12_24.1
theorem dX12_feed_42 : decode cX12_feed 42 = .ok (.bipush 8, 2) := dkg_X12_24.2.1
theorem dX12_feed_44 : decode cX12_feed 44 = .ok (.if_icmp .ge 7, 3) := dkg_X12_24.2.2.1
theorem dX12_feed_47 : decode cX12_feed 47 = .ok (.iload_n 2, 1) := dkg_X12_24.2.2.2.1
theorem dX12_feed_48 : decode cX12_feed 48 = .ok (.goto 28, 3) := dkg_X12_24.2.2.2.2.1
theorem dX12_feed_51 : decode cX12_feed 51 = .ok (.iload 6, 2) := dkg_X12_24.2.2.2.2.2.1
theorem dX12_feed_53 : decode cX12_feed 53 = .ok (.bipush 12, 2) := dkg_X12_24.2.2.2.2.2.2.1
theorem dX12_feed_55 : decode cX12_feed 55 = .ok (.if_icmp .ge 7, 3) := dkg_X12_24.2.2.2.2.2.2.2.1
theorem dX12_feed_58 : decode cX12_feed 58 = .ok (.iload_n 3, 1) := dkg_X12_24.2.2.2.2.2.2.2.2.1
theorem dX12_feed_59 : decode cX12_feed 59 = .ok (.goto 17, 3) := dkg_X12_24.2.2.2.2.2.2.2.2.2.1
theorem dkg_X12_25 : dkp cX12_feed [(62, .iload 6, 2), (64, .bipush 16, 2), (66, .if_icmp .ge 8, 3), (69, .iload 4, 2), (71, .goto 5, 3), (74, .iload 5, 2), (76, .istore 7, 2), (78, .aload_n 0, 1), (79, .getfield 13, 3), (82, .aload_n 0, 1)] := dkf (by decide +kernel)
theorem dX12_feed_62 : decode cX12_feed 62 = .ok (.iload 6, 2) := dkg_X12_25.1
theorem dX12_feed_64 : decode cX12_feed 64 = .ok (.bipush 16, 2) := dkg_X12_25.2.1
theorem dX12_feed_66 : decode cX12_feed 66 = .ok (.if_icmp .ge 8, 3) := dkg_X12_25.2.2.1
theorem dX12_feed_69 : decode cX12_feed 69 = .ok (.iload 4, 2) := dkg_X12_25.2.2.2.1
theorem dX12_feed_71 : decode cX12_feed 71 = .ok (.goto 5, 3) := dkg_X12_25.2.2.2.2.1
theorem dX12_feed_74 : decode cX12_feed 74 = .ok (.iload 5, 2) := dkg_X12_25.2.2.2.2.2.1
theorem dX12_feed_76 : decode cX12_feed 76 = .ok (.istore 7, 2) := dkg_X12_25.2.2.2.2.2.2.1
theorem dX12_feed_78 : decode cX12_feed 78 = .ok (.aload_n 0, 1) := dkg_X12_25.2.2.2.2.2.2.2.1
theorem dX12_feed_79 : decode cX12_feed 79 = .ok (.getfield 13, 3) := dkg_X12_25.2.2.2.2.2.2.2.2.1
theorem dX12_feed_82 : decode cX12_feed 82 = .ok (.aload_n 0, 1) := dkg_X12_25.2.2.2.2.2.2.2.2.2.1
theorem dkg_X12_26 : dkp cX12_feed [(83, .getfield 151, 3), (86, .iload 7, 2), (88, .bipush 24, 2), (90, .bipush 8, 2), (92, .iload 6, 2), (94, .iconst 3, 1), (95, .iand, 1), (96, .imul, 1), (97, .isub, 1), (98, .ishr, 1)] := dkf (by decide +kernel)
theorem dX12_feed_83 : decode cX12_feed 83 = .ok (.getfield 151, 3) := dkg_X12_26.1
theorem dX12_feed_86 : decode cX12_feed 86 = .ok (.iload 7, 2) := dkg_X12_26.2.1
theorem dX12_feed_88 : decode cX12_feed 88 = .ok (.bipush 24, 2) := dkg_X12_26.2.2.1
theorem dX12_feed_90 : decode cX12_feed 90 = .ok (.bipush 8, 2) := dkg_X12_26.2.2.2.1
theorem dX12_feed_92 : decode cX12_feed 92 = .ok (.iload 6, 2) := dkg_X12_26.2.2.2.2.1
theorem dX12_feed_94 : decode cX12_feed 94 = .ok (.iconst 3, 1) := dkg_X12_26.2.2.2.2.2.1
theorem dX12_feed_95 : decode cX12_feed 95 = .ok (.iand, 1) := dkg_X12_26.2.2.2.2.2.2.1
theorem dX12_feed_96 : decode cX12_feed 96 = .ok (.imul, 1) := dkg_X12_26.2.2.2.2.2.2.2.1
theorem dX12_feed_97 : decode cX12_feed 97 = .ok (.isub, 1) := dkg_X12_26.2.2.2.2.2.2.2.2.1
theorem dX12_feed_98 : decode cX12_feed 98 = .ok (.ishr, 1) := dkg_X12_26.2.2.2.2.2.2.2.2.2.1
theorem dkg_X12_27 : dkp cX12_feed [(99, .sipush 255, 3), (102, .iand, 1), (103, .iastore, 1), (104, .aload_n 0, 1), (105, .dup, 1), (106, .getfield 151, 3), (109, .iconst 1, 1), (110, .iadd, 1), (111, .putfield 151, 3), (114, .iinc 6 1, 3)] := dkf (by decide +kernel)
theorem dX12_feed_99 : decode cX12_feed 99 = .ok (.sipush 255, 3) := dkg_X12_27.1
theorem dX12_feed_102 : decode cX12_feed 102 = .ok (.iand, 1) := dkg_X12_27.2.1
theorem dX12_feed_103 : decode cX12_feed 103 = .ok (.iastore, 1) := dkg_X12_27.2.2.1
theorem dX12_feed_104 : decode cX12_feed 104 = .ok (.aload_n 0, 1) := dkg_X12_27.2.2.2.1
theorem dX12_feed_105 : decode cX12_feed 105 = .ok (.dup, 1) := dkg_X12_27.2.2.2.2.1
theorem dX12_feed_106 : decode cX12_feed 106 = .ok (.getfield 151, 3) := dkg_X12_27.2.2.2.2.2.1
theorem dX12_feed_109 : decode cX12_feed 109 = .ok (.iconst 1, 1) := dkg_X12_27.2.2.2.2.2.2.1
theorem dX12_feed_110 : decode cX12_feed 110 = .ok (.iadd, 1) := dkg_X12_27.2.2.2.2.2.2.2.1
theorem dX12_feed_111 : decode cX12_feed 111 = .ok (.putfield 151, 3) := dkg_X12_27.2.2.2.2.2.2.2.2.1
theorem dX12_feed_114 : decode cX12_feed 114 = .ok (.iinc 6 1, 3) := dkg_X12_27.2.2.2.2.2.2.2.2.2.1
theorem dkg_X12_28 : dkp cX12_feed [(117, .goto (-94), 3), (120, .aload_n 0, 1), (121, .aload_n 0, 1), (122, .getfield 151, 3), (125, .invokevirtual 158, 3), (128, .ireturn, 1)] := dkf (by decide +kernel)
theorem dX12_feed_117 : decode cX12_feed 117 = .ok (.goto (-94), 3) := dkg_X12_28.1
theorem dX12_feed_120 : decode cX12_feed 120 = .ok (.aload_n 0, 1) := dkg_X12_28.2.1
theorem dX12_feed_121 : decode cX12_feed 121 = .ok (.aload_n 0, 1) := dkg_X12_28.2.2.1
theorem dX12_feed_122 : decode cX12_feed 122 = .ok (.getfield 151, 3) := dkg_X12_28.2.2.2.1
theorem dX12_feed_125 : decode cX12_feed 125 = .ok (.invokevirtual 158, 3) := dkg_X12_28.2.2.2.2.1
theorem dX12_feed_128 : decode cX12_feed 128 = .ok (.ireturn, 1) := dkg_X12_28.2.2.2.2.2.1
theorem dkg_X12_29 : dkp cX12_end [(0, .iload_n 1, 1), (1, .ifCond .ge 9, 3), (4, .aload_n 0, 1), (5, .iconst 5, 1), (6, .invokevirtual 154, 3), (9, .ireturn, 1), (10, .iload_n 1, 1), (11, .aload_n 0, 1), (12, .getfield 151, 3), (15, .if_icmp .le 10, 3)] := dkf (by decide +kernel)
theorem dX12_end_0 : decode cX12_end 0 = .ok (.iload_n 1, 1) := dkg_X12_29.1
theorem dX12_end_1 : decode cX12_end 1 = .ok (.ifCond .ge 9, 3) := dkg_X12_29.2.1
theorem dX12_end_4 : decode cX12_end 4 = .ok (.aload_n 0, 1) := dkg_X12_29.2.2.1
theorem dX12_end_5 : decode cX12_end 5 = .ok (.iconst 5, 1) := dkg_X12_29.2.2.2.1
theorem dX12_end_6 : decode cX12_end 6 = .ok (.invokevirtual 154, 3) := dkg_X12_29.2.2.2.2.1
theorem dX12_end_9 : decode cX12_end 9 = .ok (.ireturn, 1) := dkg_X12_29.2.2.2.2.2.1
theorem dX12_end_10 : decode cX12_end 10 = .ok (.iload_n 1, 1) := dkg_X12_29.2.2.2.2.2.2.1
theorem dX12_end_11 : decode cX12_end 11 = .ok (.aload_n 0, 1) := dkg_X12_29.2.2.2.2.2.2.2.1
theorem dX12_end_12 : decode cX12_end 12 = .ok (.getfield 151, 3) := dkg_X12_29.2.2.2.2.2.2.2.2.1
theorem dX12_end_15 : decode cX12_end 15 = .ok (.if_icmp .le 10, 3) := dkg_X12_29.2.2.2.2.2.2.2.2.2.1
theorem dkg_X12_30 : dkp cX12_end [(18, .aload_n 0, 1), (19, .bipush 6, 2), (21, .invokevirtual 154, 3), (24, .ireturn, 1), (25, .aload_n 0, 1), (26, .iload_n 1, 1), (27, .putfield 151, 3), (30, .aload_n 0, 1), (31, .iload_n 1, 1), (32, .invokevirtual 158, 3)] := dkf (by decide +kernel)
theorem dX12_end_18 : decode cX12_end 18 = .ok (.aload_n 0, 1) := dkg_X12_30.1
theorem dX12_end_19 : decode cX12_end 19 = .ok (.bipush 6, 2) := dkg_X12_30.2.1
theorem dX12_end_21 : decode cX12_end 21 = .ok (.invokevirtual 154, 3) := dkg_X12_30.2.2.1
theorem dX12_end_24 : decode cX12_end 24 = .ok (.ireturn, 1) := dkg_X12_30.2.2.2.1
theorem dX12_end_25 : decode cX12_end 25 = .ok (.aload_n 0, 1) := dkg_X12_30.2.2.2.2.1
theorem dX12_end_26 : decode cX12_end 26 = .ok (.iload_n 1, 1) := dkg_X12_30.2.2.2.2.2.1
theorem dX12_end_27 : decode cX12_end 27 = .ok (.putfield 151, 3) := dkg_X12_30.2.2.2.2.2.2.1
theorem dX12_end_30 : decode cX12_end 30 = .ok (.aload_n 0, 1) := dkg_X12_30.2.2.2.2.2.2.2.1
theorem dX12_end_31 : decode cX12_end 31 = .ok (.iload_n 1, 1) := dkg_X12_30.2.2.2.2.2.2.2.2.1
theorem dX12_end_32 : decode cX12_end 32 = .ok (.invokevirtual 158, 3) := dkg_X12_30.2.2.2.2.2.2.2.2.2.1
theorem dkg_X12_31 : dkp cX12_end [(35, .ireturn, 1)] := dkf (by decide +kernel)
theorem dX12_end_35 : decode cX12_end 35 = .ok (.ireturn, 1) := dkg_X12_31.1
theorem dkg_X12_32 : dkp cX12_taken [(0, .aload_n 0, 1), (1, .getfield 151, 3), (4, .istore_n 1, 1), (5, .aload_n 0, 1), (6, .iconst 0, 1), (7, .putfield 151, 3), (10, .iload_n 1, 1), (11, .ireturn, 1)] := dkf (by decide +kernel)
theorem dX12_taken_0 : decode cX12_taken 0 = .ok (.aload_n 0, 1) := dkg_X12_32.1
theorem dX12_taken_1 : decode cX12_taken 1 = .ok (.getfield 151, 3) := dkg_X12_32.2.1
theorem dX12_taken_4 : decode cX12_taken 4 = .ok (.istore_n 1, 1) := dkg_X12_32.2.2.1
theorem dX12_taken_5 : decode cX12_taken 5 = .ok (.aload_n 0, 1) := dkg_X12_32.2.2.2.1
theorem dX12_taken_6 : decode cX12_taken 6 = .ok (.iconst 0, 1) := dkg_X12_32.2.2.2.2.1
theorem dX12_taken_7 : decode cX12_taken 7 = .ok (.putfield 151, 3) := dkg_X12_32.2.2.2.2.2.1
theorem dX12_taken_10 : decode cX12_taken 10 = .ok (.iload_n 1, 1) := dkg_X12_32.2.2.2.2.2.2.1
theorem dX12_taken_11 : decode cX12_taken 11 = .ok (.ireturn, 1) := dkg_X12_32.2.2.2.2.2.2.2.1
theorem dkg_X12_33 : dkp cX12_step [(0, .aload_n 0, 1), (1, .getfield 161, 3), (4, .bipush 8, 2), (6, .iadd, 1), (7, .aload_n 0, 1), (8, .getfield 58, 3), (11, .arraylength, 1), (12, .if_icmp .le 50, 3), (15, .iconst 2, 1), (16, .aload_n 0, 1)] := dkf (by decide +kernel)
theorem dX12_step_0 : decode cX12_step 0 = .ok (.aload_n 0, 1) := dkg_X12_33.1
theorem dX12_step_1 : decode cX12_step 1 = .ok (.getfield 161, 3) := dkg_X12_33.2.1
theorem dX12_step_4 : decode cX12_step 4 = .ok (.bipush 8, 2) := dkg_X12_33.2.2.1
theorem dX12_step_6 : decode cX12_step 6 = .ok (.iadd, 1) := dkg_X12_33.2.2.2.1
theorem dX12_step_7 : decode cX12_step 7 = .ok (.aload_n 0, 1) := dkg_X12_33.2.2.2.2.1
theorem dX12_step_8 : decode cX12_step 8 = .ok (.getfield 58, 3) := dkg_X12_33.2.2.2.2.2.1
theorem dX12_step_11 : decode cX12_step 11 = .ok (.arraylength, 1) := dkg_X12_33.2.2.2.2.2.2.1
theorem dX12_step_12 : decode cX12_step 12 = .ok (.if_icmp .le 50, 3) := dkg_X12_33.2.2.2.2.2.2.2.1
theorem dX12_step_15 : decode cX12_step 15 = .ok (.iconst 2, 1) := dkg_X12_33.2.2.2.2.2.2.2.2.1
theorem dX12_step_16 : decode cX12_step 16 = .ok (.aload_n 0, 1) := dkg_X12_33.2.2.2.2.2.2.2.2.2.1
theorem dkg_X12_34 : dkp cX12_step [(17, .getfield 58, 3), (20, .arraylength, 1), (21, .imul, 1), (24, .astore 5, 2), (26, .iconst 0, 1), (27, .istore 6, 2), (29, .iload 6, 2), (31, .aload_n 0, 1), (32, .getfield 161, 3), (35, .if_icmp .ge 21, 3)] := dkf (by decide +kernel)
theorem dX12_step_17 : decode cX12_step 17 = .ok (.getfield 58, 3) := dkg_X12_34.1
theorem dX12_step_20 : decode cX12_step 20 = .ok (.arraylength, 1) := dkg_X12_34.2.1
theorem dX12_step_21 : decode cX12_step 21 = .ok (.imul, 1) := dkg_X12_34.2.2.1
theorem dX12_step_24 : decode cX12_step 24 = .ok (.astore 5, 2) := dkg_X12_34.2.2.2.1
theorem dX12_step_26 : decode cX12_step 26 = .ok (.iconst 0, 1) := dkg_X12_34.2.2.2.2.1
theorem dX12_step_27 : decode cX12_step 27 = .ok (.istore 6, 2) := dkg_X12_34.2.2.2.2.2.1
theorem dX12_step_29 : decode cX12_step 29 = .ok (.iload 6, 2) := dkg_X12_34.2.2.2.2.2.2.1
theorem dX12_step_31 : decode cX12_step 31 = .ok (.aload_n 0, 1) := dkg_X12_34.2.2.2.2.2.2.2.1
theorem dX12_step_32 : decode cX12_step 32 = .ok (.getfield 161, 3) := dkg_X12_34.2.2.2.2.2.2.2.2.1
theorem dX12_step_35 : decode cX12_step 35 = .ok (.if_icmp .ge 21, 3) := dkg_X12_34.2.2.2.2.2.2.2.2.2.1
theorem dkg_X12_35 : dkp cX12_step [(38, .aload 5, 2), (40, .iload 6, 2), (42, .aload_n 0, 1), (43, .getfield 58, 3), (46, .iload 6, 2), (48, .iaload, 1), (49, .iastore, 1), (50, .iinc 6 1, 3), (53, .goto (-24), 3), (56, .aload_n 0, 1)] := dkf (by decide +kernel)
theorem dX12_step_38 : decode cX12_step 38 = .ok (.aload 5, 2) := dkg_X12_35.1
theorem dX12_step_40 : decode cX12_step 40 = .ok (.iload 6, 2) := dkg_X12_35.2.1
theorem dX12_step_42 : decode cX12_step 42 = .ok (.aload_n 0, 1) := dkg_X12_35.2.2.1
theorem dX12_step_43 : decode cX12_step 43 = .ok (.getfield 58, 3) := dkg_X12_35.2.2.2.1
theorem dX12_step_46 : decode cX12_step 46 = .ok (.iload 6, 2) := dkg_X12_35.2.2.2.2.1
theorem dX12_step_48 : decode cX12_step 48 = .ok (.iaload, 1) := dkg_X12_35.2.2.2.2.2.1
theorem dX12_step_49 : decode cX12_step 49 = .ok (.iastore, 1) := dkg_X12_35.2.2.2.2.2.2.1
theorem dX12_step_50 : decode cX12_step 50 = .ok (.iinc 6 1, 3) := dkg_X12_35.2.2.2.2.2.2.2.1
theorem dX12_step_53 : decode cX12_step 53 = .ok (.goto (-24), 3) := dkg_X12_35.2.2.2.2.2.2.2.2.1
theorem dX12_step_56 : decode cX12_step 56 = .ok (.aload_n 0, 1) := dkg_X12_35.2.2.2.2.2.2.2.2.2.1
theorem dkg_X12_36 : dkp cX12_step [(57, .aload 5, 2), (59, .putfield 58, 3), (62, .aload_n 0, 1), (63, .getfield 58, 3), (66, .aload_n 0, 1), (67, .getfield 161, 3), (70, .iload_n 1, 1), (71, .iastore, 1), (72, .aload_n 0, 1), (73, .getfield 58, 3)] := dkf (by decide +kernel)
theorem dX12_step_57 : decode cX12_step 57 = .ok (.aload 5, 2) := dkg_X12_36.1
theorem dX12_step_59 : decode cX12_step 59 = .ok (.putfield 58, 3) := dkg_X12_36.2.1
theorem dX12_step_62 : decode cX12_step 62 = .ok (.aload_n 0, 1) := dkg_X12_36.2.2.1
theorem dX12_step_63 : decode cX12_step 63 = .ok (.getfield 58, 3) := dkg_X12_36.2.2.2.1
theorem dX12_step_66 : decode cX12_step 66 = .ok (.aload_n 0, 1) := dkg_X12_36.2.2.2.2.1
theorem dX12_step_67 : decode cX12_step 67 = .ok (.getfield 161, 3) := dkg_X12_36.2.2.2.2.2.1
theorem dX12_step_70 : decode cX12_step 70 = .ok (.iload_n 1, 1) := dkg_X12_36.2.2.2.2.2.2.1
theorem dX12_step_71 : decode cX12_step 71 = .ok (.iastore, 1) := dkg_X12_36.2.2.2.2.2.2.2.1
theorem dX12_step_72 : decode cX12_step 72 = .ok (.aload_n 0, 1) := dkg_X12_36.2.2.2.2.2.2.2.2.1
theorem dX12_step_73 : decode cX12_step 73 = .ok (.getfield 58, 3) := dkg_X12_36.2.2.2.2.2.2.2.2.2.1
theorem dkg_X12_37 : dkp cX12_step [(76, .aload_n 0, 1), (77, .getfield 161, 3), (80, .iconst 1, 1), (81, .iadd, 1), (82, .iload_n 2, 1), (83, .iastore, 1), (84, .aload_n 0, 1), (85, .getfield 58, 3), (88, .aload_n 0, 1), (89, .getfield 161, 3)] := dkf (by decide +kernel)
theorem dX12_step_76 : decode cX12_step 76 = .ok (.aload_n 0, 1) := dkg_X12_37.1
theorem dX12_step_77 : decode cX12_step 77 = .ok (.getfield 161, 3) := dkg_X12_37.2.1
theorem dX12_step_80 : decode cX12_step 80 = .ok (.iconst 1, 1) := dkg_X12_37.2.2.1
theorem dX12_step_81 : decode cX12_step 81 = .ok (.iadd, 1) := dkg_X12_37.2.2.2.1
theorem dX12_step_82 : decode cX12_step 82 = .ok (.iload_n 2, 1) := dkg_X12_37.2.2.2.2.1
theorem dX12_step_83 : decode cX12_step 83 = .ok (.iastore, 1) := dkg_X12_37.2.2.2.2.2.1
theorem dX12_step_84 : decode cX12_step 84 = .ok (.aload_n 0, 1) := dkg_X12_37.2.2.2.2.2.2.1
theorem dX12_step_85 : decode cX12_step 85 = .ok (.getfield 58, 3) := dkg_X12_37.2.2.2.2.2.2.2.1
theorem dX12_step_88 : decode cX12_step 88 = .ok (.aload_n 0, 1) := dkg_X12_37.2.2.2.2.2.2.2.2.1
theorem dX12_step_89 : decode cX12_step 89 = .ok (.getfield 161, 3) := dkg_X12_37.2.2.2.2.2.2.2.2.2.1
theorem dkg_X12_38 : dkp cX12_step [(92, .iconst 2, 1), (93, .iadd, 1), (94, .iload_n 3, 1), (95, .iastore, 1), (96, .aload_n 0, 1), (97, .getfield 58, 3), (100, .aload_n 0, 1), (101, .getfield 161, 3), (104, .iconst 3, 1), (105, .iadd, 1)] := dkf (by decide +kernel)
theorem dX12_step_92 : decode cX12_step 92 = .ok (.iconst 2, 1) := dkg_X12_38.1
theorem dX12_step_93 : decode cX12_step 93 = .ok (.iadd, 1) := dkg_X12_38.2.1
theorem dX12_step_94 : decode cX12_step 94 = .ok (.iload_n 3, 1) := dkg_X12_38.2.2.1
theorem dX12_step_95 : decode cX12_step 95 = .ok (.iastore, 1) := dkg_X12_38.2.2.2.1
theorem dX12_step_96 : decode cX12_step 96 = .ok (.aload_n 0, 1) := dkg_X12_38.2.2.2.2.1
theorem dX12_step_97 : decode cX12_step 97 = .ok (.getfield 58, 3) := dkg_X12_38.2.2.2.2.2.1
theorem dX12_step_100 : decode cX12_step 100 = .ok (.aload_n 0, 1) := dkg_X12_38.2.2.2.2.2.2.1
theorem dX12_step_101 : decode cX12_step 101 = .ok (.getfield 161, 3) := dkg_X12_38.2.2.2.2.2.2.2.1
theorem dX12_step_104 : decode cX12_step 104 = .ok (.iconst 3, 1) := dkg_X12_38.2.2.2.2.2.2.2.2.1
theorem dX12_step_105 : decode cX12_step 105 = .ok (.iadd, 1) := dkg_X12_38.2.2.2.2.2.2.2.2.2.1
theorem dkg_X12_39 : dkp cX12_step [(106, .iload 4, 2), (108, .iastore, 1), (109, .aload_n 0, 1), (110, .dup, 1), (111, .getfield 161, 3), (114, .iconst 4, 1), (115, .iadd, 1), (116, .putfield 161, 3), (119, .return_, 1)] := dkf (by decide +kernel)
theorem dX12_step_106 : decode cX12_step 106 = .ok (.iload 4, 2) := dkg_X12_39.1
theorem dX12_step_108 : decode cX12_step 108 = .ok (.iastore, 1) := dkg_X12_39.2.1
theorem dX12_step_109 : decode cX12_step 109 = .ok (.aload_n 0, 1) := dkg_X12_39.2.2.1
theorem dX12_step_110 : decode cX12_step 110 = .ok (.dup, 1) := dkg_X12_39.2.2.2.1
theorem dX12_step_111 : decode cX12_step 111 = .ok (.getfield 161, 3) := dkg_X12_39.2.2.2.2.1
theorem dX12_step_114 : decode cX12_step 114 = .ok (.iconst 4, 1) := dkg_X12_39.2.2.2.2.2.1
theorem dX12_step_115 : decode cX12_step 115 = .ok (.iadd, 1) := dkg_X12_39.2.2.2.2.2.2.1
theorem dX12_step_116 : decode cX12_step 116 = .ok (.putfield 161, 3) := dkg_X12_39.2.2.2.2.2.2.2.1
theorem dX12_step_119 : decode cX12_step 119 = .ok (.return_, 1) := dkg_X12_39.2.2.2.2.2.2.2.2.1
theorem dkg_X12_40 : dkp cX12_step [(22, .newarray .int, 2)] := dkq (by decide +kernel)
theorem dX12_step_22 : decode cX12_step 22 = .ok (.newarray .int, 2) := dkg_X12_40.1
theorem dkg_X12_41 : dkp cX12_isTable [(0, .iload_n 1, 1), (1, .ifCond .lt 24, 3), (4, .iload_n 1, 1), (5, .aload_n 0, 1), (6, .getfield 164, 3), (9, .if_icmp .ge 16, 3), (12, .aload_n 0, 1), (13, .getfield 17, 3), (16, .iload_n 1, 1), (17, .baload, 1)] := dkf (by decide +kernel)
theorem dX12_isTable_0 : decode cX12_isTable 0 = .ok (.iload_n 1, 1) := dkg_X12_41.1
theorem dX12_isTable_1 : decode cX12_isTable 1 = .ok (.ifCond .lt 24, 3) := dkg_X12_41.2.1
theorem dX12_isTable_4 : decode cX12_isTable 4 = .ok (.iload_n 1, 1) := dkg_X12_41.2.2.1
theorem dX12_isTable_5 : decode cX12_isTable 5 = .ok (.aload_n 0, 1) := dkg_X12_41.2.2.2.1
theorem dX12_isTable_6 : decode cX12_isTable 6 = .ok (.getfield 164, 3) := dkg_X12_41.2.2.2.2.1
theorem dX12_isTable_9 : decode cX12_isTable 9 = .ok (.if_icmp .ge 16, 3) := dkg_X12_41.2.2.2.2.2.1
theorem dX12_isTable_12 : decode cX12_isTable 12 = .ok (.aload_n 0, 1) := dkg_X12_41.2.2.2.2.2.2.1
theorem dX12_isTable_13 : decode cX12_isTable 13 = .ok (.getfield 17, 3) := dkg_X12_41.2.2.2.2.2.2.2.1
theorem dX12_isTable_16 : decode cX12_isTable 16 = .ok (.iload_n 1, 1) := dkg_X12_41.2.2.2.2.2.2.2.2.1
theorem dX12_isTable_17 : decode cX12_isTable 17 = .ok (.baload, 1) := dkg_X12_41.2.2.2.2.2.2.2.2.2.1
theorem dkg_X12_42 : dkp cX12_isTable [(18, .ifCond .eq 7, 3), (21, .iconst 1, 1), (22, .goto 4, 3), (25, .iconst 0, 1), (26, .ireturn, 1)] := dkf (by decide +kernel)
theorem dX12_isTable_18 : decode cX12_isTable 18 = .ok (.ifCond .eq 7, 3) := dkg_X12_42.1
theorem dX12_isTable_21 : decode cX12_isTable 21 = .ok (.iconst 1, 1) := dkg_X12_42.2.1
theorem dX12_isTable_22 : decode cX12_isTable 22 = .ok (.goto 4, 3) := dkg_X12_42.2.2.1
theorem dX12_isTable_25 : decode cX12_isTable 25 = .ok (.iconst 0, 1) := dkg_X12_42.2.2.2.1
theorem dX12_isTable_26 : decode cX12_isTable 26 = .ok (.ireturn, 1) := dkg_X12_42.2.2.2.2.1
theorem dkg_X12_43 : dkp cX12_isWhole [(0, .aload_n 0, 1), (1, .iload_n 1, 1), (2, .invokevirtual 167, 3), (5, .ifCond .ne 5, 3), (8, .iconst 0, 1), (9, .ireturn, 1), (10, .aload_n 0, 1), (11, .getfield 21, 3), (14, .iload_n 1, 1), (15, .iaload, 1)] := dkf (by decide +kernel)
theorem dX12_isWhole_0 : decode cX12_isWhole 0 = .ok (.aload_n 0, 1) := dkg_X12_43.1
theorem dX12_isWhole_1 : decode cX12_isWhole 1 = .ok (.iload_n 1, 1) := dkg_X12_43.2.1
theorem dX12_isWhole_2 : decode cX12_isWhole 2 = .ok (.invokevirtual 167, 3) := dkg_X12_43.2.2.1
theorem dX12_isWhole_5 : decode cX12_isWhole 5 = .ok (.ifCond .ne 5, 3) := dkg_X12_43.2.2.2.1
theorem dX12_isWhole_8 : decode cX12_isWhole 8 = .ok (.iconst 0, 1) := dkg_X12_43.2.2.2.2.1
theorem dX12_isWhole_9 : decode cX12_isWhole 9 = .ok (.ireturn, 1) := dkg_X12_43.2.2.2.2.2.1
theorem dX12_isWhole_10 : decode cX12_isWhole 10 = .ok (.aload_n 0, 1) := dkg_X12_43.2.2.2.2.2.2.1
theorem dX12_isWhole_11 : decode cX12_isWhole 11 = .ok (.getfield 21, 3) := dkg_X12_43.2.2.2.2.2.2.2.1
theorem dX12_isWhole_14 : decode cX12_isWhole 14 = .ok (.iload_n 1, 1) := dkg_X12_43.2.2.2.2.2.2.2.2.1
theorem dX12_isWhole_15 : decode cX12_isWhole 15 = .ok (.iaload, 1) := dkg_X12_43.2.2.2.2.2.2.2.2.2.1
theorem dkg_X12_44 : dkp cX12_isWhole [(16, .iconst 5, 1), (17, .if_icmp .ne 35, 3), (20, .aload_n 0, 1), (21, .aload_n 0, 1), (22, .getfield 27, 3), (25, .iload_n 1, 1), (26, .iaload, 1), (27, .invokevirtual 171, 3), (30, .ifCond .eq 20, 3), (33, .aload_n 0, 1)] := dkf (by decide +kernel)
theorem dX12_isWhole_16 : decode cX12_isWhole 16 = .ok (.iconst 5, 1) := dkg_X12_44.1
theorem dX12_isWhole_17 : decode cX12_isWhole 17 = .ok (.if_icmp .ne 35, 3) := dkg_X12_44.2.1
theorem dX12_isWhole_20 : decode cX12_isWhole 20 = .ok (.aload_n 0, 1) := dkg_X12_44.2.2.1
theorem dX12_isWhole_21 : decode cX12_isWhole 21 = .ok (.aload_n 0, 1) := dkg_X12_44.2.2.2.1
theorem dX12_isWhole_22 : decode cX12_isWhole 22 = .ok (.getfield 27, 3) := dkg_X12_44.2.2.2.2.1
theorem dX12_isWhole_25 : decode cX12_isWhole 25 = .ok (.iload_n 1, 1) := dkg_X12_44.2.2.2.2.2.1
theorem dX12_isWhole_26 : decode cX12_isWhole 26 = .ok (.iaload, 1) := dkg_X12_44.2.2.2.2.2.2.1
theorem dX12_isWhole_27 : decode cX12_isWhole 27 = .ok (.invokevirtual 171, 3) := dkg_X12_44.2.2.2.2.2.2.2.1
theorem dX12_isWhole_30 : decode cX12_isWhole 30 = .ok (.ifCond .eq 20, 3) := dkg_X12_44.2.2.2.2.2.2.2.2.1
theorem dX12_isWhole_33 : decode cX12_isWhole 33 = .ok (.aload_n 0, 1) := dkg_X12_44.2.2.2.2.2.2.2.2.2.1
theorem dkg_X12_45 : dkp cX12_isWhole [(34, .aload_n 0, 1), (35, .getfield 30, 3), (38, .iload_n 1, 1), (39, .iaload, 1), (40, .invokevirtual 171, 3), (43, .ifCond .eq 7, 3), (46, .iconst 1, 1), (47, .goto 4, 3), (50, .iconst 0, 1), (51, .ireturn, 1)] := dkf (by decide +kernel)
theorem dX12_isWhole_34 : decode cX12_isWhole 34 = .ok (.aload_n 0, 1) := dkg_X12_45.1
theorem dX12_isWhole_35 : decode cX12_isWhole 35 = .ok (.getfield 30, 3) := dkg_X12_45.2.1
theorem dX12_isWhole_38 : decode cX12_isWhole 38 = .ok (.iload_n 1, 1) := dkg_X12_45.2.2.1
theorem dX12_isWhole_39 : decode cX12_isWhole 39 = .ok (.iaload, 1) := dkg_X12_45.2.2.2.1
theorem dX12_isWhole_40 : decode cX12_isWhole 40 = .ok (.invokevirtual 171, 3) := dkg_X12_45.2.2.2.2.1
theorem dX12_isWhole_43 : decode cX12_isWhole 43 = .ok (.ifCond .eq 7, 3) := dkg_X12_45.2.2.2.2.2.1
theorem dX12_isWhole_46 : decode cX12_isWhole 46 = .ok (.iconst 1, 1) := dkg_X12_45.2.2.2.2.2.2.1
theorem dX12_isWhole_47 : decode cX12_isWhole 47 = .ok (.goto 4, 3) := dkg_X12_45.2.2.2.2.2.2.2.1
theorem dX12_isWhole_50 : decode cX12_isWhole 50 = .ok (.iconst 0, 1) := dkg_X12_45.2.2.2.2.2.2.2.2.1
theorem dX12_isWhole_51 : decode cX12_isWhole 51 = .ok (.ireturn, 1) := dkg_X12_45.2.2.2.2.2.2.2.2.2.1
theorem dkg_X12_46 : dkp cX12_isWhole [(52, .aload_n 0, 1), (53, .getfield 21, 3), (56, .iload_n 1, 1), (57, .iaload, 1), (58, .iconst 1, 1), (59, .if_icmp .lt 26, 3), (62, .aload_n 0, 1), (63, .getfield 21, 3), (66, .iload_n 1, 1), (67, .iaload, 1)] := dkf (by decide +kernel)
theorem dX12_isWhole_52 : decode cX12_isWhole 52 = .ok (.aload_n 0, 1) := dkg_X12_46.1
theorem dX12_isWhole_53 : decode cX12_isWhole 53 = .ok (.getfield 21, 3) := dkg_X12_46.2.1
theorem dX12_isWhole_56 : decode cX12_isWhole 56 = .ok (.iload_n 1, 1) := dkg_X12_46.2.2.1
theorem dX12_isWhole_57 : decode cX12_isWhole 57 = .ok (.iaload, 1) := dkg_X12_46.2.2.2.1
theorem dX12_isWhole_58 : decode cX12_isWhole 58 = .ok (.iconst 1, 1) := dkg_X12_46.2.2.2.2.1
theorem dX12_isWhole_59 : decode cX12_isWhole 59 = .ok (.if_icmp .lt 26, 3) := dkg_X12_46.2.2.2.2.2.1
theorem dX12_isWhole_62 : decode cX12_isWhole 62 = .ok (.aload_n 0, 1) := dkg_X12_46.2.2.2.2.2.2.1
theorem dX12_isWhole_63 : decode cX12_isWhole 63 = .ok (.getfield 21, 3) := dkg_X12_46.2.2.2.2.2.2.2.1
theorem dX12_isWhole_66 : decode cX12_isWhole 66 = .ok (.iload_n 1, 1) := dkg_X12_46.2.2.2.2.2.2.2.2.1
theorem dX12_isWhole_67 : decode cX12_isWhole 67 = .ok (.iaload, 1) := dkg_X12_46.2.2.2.2.2.2.2.2.2.1
theorem dkg_X12_47 : dkp cX12_isWhole [(68, .iconst 3, 1), (69, .if_icmp .gt 16, 3), (72, .aload_n 0, 1), (73, .aload_n 0, 1), (74, .getfield 27, 3), (77, .iload_n 1, 1), (78, .iaload, 1), (79, .invokevirtual 171, 3), (82, .ifCond .eq 7, 3), (85, .iconst 1, 1)] := dkf (by decide +kernel)
theorem dX12_isWhole_68 : decode cX12_isWhole 68 = .ok (.iconst 3, 1) := dkg_X12_47.1
theorem dX12_isWhole_69 : decode cX12_isWhole 69 = .ok (.if_icmp .gt 16, 3) := dkg_X12_47.2.1
theorem dX12_isWhole_72 : decode cX12_isWhole 72 = .ok (.aload_n 0, 1) := dkg_X12_47.2.2.1
theorem dX12_isWhole_73 : decode cX12_isWhole 73 = .ok (.aload_n 0, 1) := dkg_X12_47.2.2.2.1
theorem dX12_isWhole_74 : decode cX12_isWhole 74 = .ok (.getfield 27, 3) := dkg_X12_47.2.2.2.2.1
theorem dX12_isWhole_77 : decode cX12_isWhole 77 = .ok (.iload_n 1, 1) := dkg_X12_47.2.2.2.2.2.1
theorem dX12_isWhole_78 : decode cX12_isWhole 78 = .ok (.iaload, 1) := dkg_X12_47.2.2.2.2.2.2.1
theorem dX12_isWhole_79 : decode cX12_isWhole 79 = .ok (.invokevirtual 171, 3) := dkg_X12_47.2.2.2.2.2.2.2.1
theorem dX12_isWhole_82 : decode cX12_isWhole 82 = .ok (.ifCond .eq 7, 3) := dkg_X12_47.2.2.2.2.2.2.2.2.1
theorem dX12_isWhole_85 : decode cX12_isWhole 85 = .ok (.iconst 1, 1) := dkg_X12_47.2.2.2.2.2.2.2.2.2.1
theorem dkg_X12_48 : dkp cX12_isWhole [(86, .goto 4, 3), (89, .iconst 0, 1), (90, .ireturn, 1)] := dkf (by decide +kernel)
theorem dX12_isWhole_86 : decode cX12_isWhole 86 = .ok (.goto 4, 3) := dkg_X12_48.1
theorem dX12_isWhole_89 : decode cX12_isWhole 89 = .ok (.iconst 0, 1) := dkg_X12_48.2.1
theorem dX12_isWhole_90 : decode cX12_isWhole 90 = .ok (.ireturn, 1) := dkg_X12_48.2.2.1
theorem dkg_X12_49 : dkp cX12_isIn [(0, .iload_n 0, 1), (1, .iload_n 1, 1), (2, .if_icmp .lt 12, 3), (5, .iload_n 0, 1), (6, .iload_n 2, 1), (7, .if_icmp .gt 7, 3), (10, .iconst 1, 1), (11, .goto 4, 3), (14, .iconst 0, 1), (15, .ireturn, 1)] := dkf (by decide +kernel)
theorem dX12_isIn_0 : decode cX12_isIn 0 = .ok (.iload_n 0, 1) := dkg_X12_49.1
theorem dX12_isIn_1 : decode cX12_isIn 1 = .ok (.iload_n 1, 1) := dkg_X12_49.2.1
theorem dX12_isIn_2 : decode cX12_isIn 2 = .ok (.if_icmp .lt 12, 3) := dkg_X12_49.2.2.1
theorem dX12_isIn_5 : decode cX12_isIn 5 = .ok (.iload_n 0, 1) := dkg_X12_49.2.2.2.1
theorem dX12_isIn_6 : decode cX12_isIn 6 = .ok (.iload_n 2, 1) := dkg_X12_49.2.2.2.2.1
theorem dX12_isIn_7 : decode cX12_isIn 7 = .ok (.if_icmp .gt 7, 3) := dkg_X12_49.2.2.2.2.2.1
theorem dX12_isIn_10 : decode cX12_isIn 10 = .ok (.iconst 1, 1) := dkg_X12_49.2.2.2.2.2.2.1
theorem dX12_isIn_11 : decode cX12_isIn 11 = .ok (.goto 4, 3) := dkg_X12_49.2.2.2.2.2.2.2.1
theorem dX12_isIn_14 : decode cX12_isIn 14 = .ok (.iconst 0, 1) := dkg_X12_49.2.2.2.2.2.2.2.2.1
theorem dX12_isIn_15 : decode cX12_isIn 15 = .ok (.ireturn, 1) := dkg_X12_49.2.2.2.2.2.2.2.2.2.1
theorem dkg_X12_50 : dkp cX12_table [(0, .iload_n 1, 1), (1, .iconst 1, 1), (2, .iconst 3, 1), (3, .invokestatic 174, 3), (6, .istore 4, 2), (8, .iload_n 1, 1), (9, .iconst 0, 1), (10, .iconst 4, 1), (11, .invokestatic 174, 3), (14, .ifCond .eq 24, 3)] := dkf (by decide +kernel)
theorem dX12_table_0 : decode cX12_table 0 = .ok (.iload_n 1, 1) := dkg_X12_50.1
theorem dX12_table_1 : decode cX12_table 1 = .ok (.iconst 1, 1) := dkg_X12_50.2.1
theorem dX12_table_2 : decode cX12_table 2 = .ok (.iconst 3, 1) := dkg_X12_50.2.2.1
theorem dX12_table_3 : decode cX12_table 3 = .ok (.invokestatic 174, 3) := dkg_X12_50.2.2.2.1
theorem dX12_table_6 : decode cX12_table 6 = .ok (.istore 4, 2) := dkg_X12_50.2.2.2.2.1
theorem dX12_table_8 : decode cX12_table 8 = .ok (.iload_n 1, 1) := dkg_X12_50.2.2.2.2.2.1
theorem dX12_table_9 : decode cX12_table 9 = .ok (.iconst 0, 1) := dkg_X12_50.2.2.2.2.2.2.1
theorem dX12_table_10 : decode cX12_table 10 = .ok (.iconst 4, 1) := dkg_X12_50.2.2.2.2.2.2.2.1
theorem dX12_table_11 : decode cX12_table 11 = .ok (.invokestatic 174, 3) := dkg_X12_50.2.2.2.2.2.2.2.2.1
theorem dX12_table_14 : decode cX12_table 14 = .ok (.ifCond .eq 24, 3) := dkg_X12_50.2.2.2.2.2.2.2.2.2.1
theorem dkg_X12_51 : dkp cX12_table [(17, .iload_n 2, 1), (18, .bipush 6, 2), (20, .if_icmp .eq 9, 3), (23, .iload_n 2, 1), (24, .bipush 8, 2), (26, .if_icmp .ne 12, 3), (29, .aload_n 0, 1), (30, .getfield 164, 3), (33, .bipush 30, 2), (35, .if_icmp .ne 10, 3)] := dkf (by decide +kernel)
theorem dX12_table_17 : decode cX12_table 17 = .ok (.iload_n 2, 1) := dkg_X12_51.1
theorem dX12_table_18 : decode cX12_table 18 = .ok (.bipush 6, 2) := dkg_X12_51.2.1
theorem dX12_table_20 : decode cX12_table 20 = .ok (.if_icmp .eq 9, 3) := dkg_X12_51.2.2.1
theorem dX12_table_23 : decode cX12_table 23 = .ok (.iload_n 2, 1) := dkg_X12_51.2.2.2.1
theorem dX12_table_24 : decode cX12_table 24 = .ok (.bipush 8, 2) := dkg_X12_51.2.2.2.2.1
theorem dX12_table_26 : decode cX12_table 26 = .ok (.if_icmp .ne 12, 3) := dkg_X12_51.2.2.2.2.2.1
theorem dX12_table_29 : decode cX12_table 29 = .ok (.aload_n 0, 1) := dkg_X12_51.2.2.2.2.2.2.1
theorem dX12_table_30 : decode cX12_table 30 = .ok (.getfield 164, 3) := dkg_X12_51.2.2.2.2.2.2.2.1
theorem dX12_table_33 : decode cX12_table 33 = .ok (.bipush 30, 2) := dkg_X12_51.2.2.2.2.2.2.2.2.1
theorem dX12_table_35 : decode cX12_table 35 = .ok (.if_icmp .ne 10, 3) := dkg_X12_51.2.2.2.2.2.2.2.2.2.1
theorem dkg_X12_52 : dkp cX12_table [(38, .aload_n 0, 1), (39, .bipush 6, 2), (41, .invokevirtual 154, 3), (44, .ireturn, 1), (45, .iload 4, 2), (47, .ifCond .eq 17, 3), (50, .aload_n 0, 1), (51, .iload_n 3, 1), (52, .invokevirtual 167, 3), (55, .ifCond .ne 9, 3)] := dkf (by decide +kernel)
theorem dX12_table_38 : decode cX12_table 38 = .ok (.aload_n 0, 1) := dkg_X12_52.1
theorem dX12_table_39 : decode cX12_table 39 = .ok (.bipush 6, 2) := dkg_X12_52.2.1
theorem dX12_table_41 : decode cX12_table 41 = .ok (.invokevirtual 154, 3) := dkg_X12_52.2.2.1
theorem dX12_table_44 : decode cX12_table 44 = .ok (.ireturn, 1) := dkg_X12_52.2.2.2.1
theorem dX12_table_45 : decode cX12_table 45 = .ok (.iload 4, 2) := dkg_X12_52.2.2.2.2.1
theorem dX12_table_47 : decode cX12_table 47 = .ok (.ifCond .eq 17, 3) := dkg_X12_52.2.2.2.2.2.1
theorem dX12_table_50 : decode cX12_table 50 = .ok (.aload_n 0, 1) := dkg_X12_52.2.2.2.2.2.2.1
theorem dX12_table_51 : decode cX12_table 51 = .ok (.iload_n 3, 1) := dkg_X12_52.2.2.2.2.2.2.2.1
theorem dX12_table_52 : decode cX12_table 52 = .ok (.invokevirtual 167, 3) := dkg_X12_52.2.2.2.2.2.2.2.2.1
theorem dX12_table_55 : decode cX12_table 55 = .ok (.ifCond .ne 9, 3) := dkg_X12_52.2.2.2.2.2.2.2.2.2.1
theorem dkg_X12_53 : dkp cX12_table [(58, .aload_n 0, 1), (59, .iconst 3, 1), (60, .invokevirtual 154, 3), (63, .ireturn, 1), (64, .iload 4, 2), (66, .ifCond .eq 19, 3), (69, .aload_n 0, 1), (70, .getfield 21, 3), (73, .iload_n 3, 1), (74, .iaload, 1)] := dkf (by decide +kernel)
theorem dX12_table_58 : decode cX12_table 58 = .ok (.aload_n 0, 1) := dkg_X12_53.1
theorem dX12_table_59 : decode cX12_table 59 = .ok (.iconst 3, 1) := dkg_X12_53.2.1
theorem dX12_table_60 : decode cX12_table 60 = .ok (.invokevirtual 154, 3) := dkg_X12_53.2.2.1
theorem dX12_table_63 : decode cX12_table 63 = .ok (.ireturn, 1) := dkg_X12_53.2.2.2.1
theorem dX12_table_64 : decode cX12_table 64 = .ok (.iload 4, 2) := dkg_X12_53.2.2.2.2.1
theorem dX12_table_66 : decode cX12_table 66 = .ok (.ifCond .eq 19, 3) := dkg_X12_53.2.2.2.2.2.1
theorem dX12_table_69 : decode cX12_table 69 = .ok (.aload_n 0, 1) := dkg_X12_53.2.2.2.2.2.2.1
theorem dX12_table_70 : decode cX12_table 70 = .ok (.getfield 21, 3) := dkg_X12_53.2.2.2.2.2.2.2.1
theorem dX12_table_73 : decode cX12_table 73 = .ok (.iload_n 3, 1) := dkg_X12_53.2.2.2.2.2.2.2.2.1
theorem dX12_table_74 : decode cX12_table 74 = .ok (.iaload, 1) := dkg_X12_53.2.2.2.2.2.2.2.2.2.1
theorem dkg_X12_54 : dkp cX12_table [(75, .iconst 3, 1), (76, .if_icmp .le 9, 3), (79, .aload_n 0, 1), (80, .iconst 4, 1), (81, .invokevirtual 154, 3), (84, .ireturn, 1), (85, .aload_n 0, 1), (86, .aload_n 0, 1), (87, .iload_n 1, 1), (88, .iload_n 2, 1)] := dkf (by decide +kernel)
theorem dX12_table_75 : decode cX12_table 75 = .ok (.iconst 3, 1) := dkg_X12_54.1
theorem dX12_table_76 : decode cX12_table 76 = .ok (.if_icmp .le 9, 3) := dkg_X12_54.2.1
theorem dX12_table_79 : decode cX12_table 79 = .ok (.aload_n 0, 1) := dkg_X12_54.2.2.1
theorem dX12_table_80 : decode cX12_table 80 = .ok (.iconst 4, 1) := dkg_X12_54.2.2.2.1
theorem dX12_table_81 : decode cX12_table 81 = .ok (.invokevirtual 154, 3) := dkg_X12_54.2.2.2.2.1
theorem dX12_table_84 : decode cX12_table 84 = .ok (.ireturn, 1) := dkg_X12_54.2.2.2.2.2.1
theorem dX12_table_85 : decode cX12_table 85 = .ok (.aload_n 0, 1) := dkg_X12_54.2.2.2.2.2.2.1
theorem dX12_table_86 : decode cX12_table 86 = .ok (.aload_n 0, 1) := dkg_X12_54.2.2.2.2.2.2.2.1
theorem dX12_table_87 : decode cX12_table 87 = .ok (.iload_n 1, 1) := dkg_X12_54.2.2.2.2.2.2.2.2.1
theorem dX12_table_88 : decode cX12_table 88 = .ok (.iload_n 2, 1) := dkg_X12_54.2.2.2.2.2.2.2.2.2.1
theorem dkg_X12_55 : dkp cX12_table [(89, .iload 4, 2), (91, .ifCond .eq 7, 3), (94, .iload_n 3, 1), (95, .goto 4, 3), (98, .iconst (-1), 1), (99, .iconst (-1), 1), (100, .invokevirtual 178, 3), (103, .invokevirtual 158, 3), (106, .ireturn, 1)] := dkf (by decide +kernel)
theorem dX12_table_89 : decode cX12_table 89 = .ok (.iload 4, 2) := dkg_X12_55.1
theorem dX12_table_91 : decode cX12_table 91 = .ok (.ifCond .eq 7, 3) := dkg_X12_55.2.1
theorem dX12_table_94 : decode cX12_table 94 = .ok (.iload_n 3, 1) := dkg_X12_55.2.2.1
theorem dX12_table_95 : decode cX12_table 95 = .ok (.goto 4, 3) := dkg_X12_55.2.2.2.1
theorem dX12_table_98 : decode cX12_table 98 = .ok (.iconst (-1), 1) := dkg_X12_55.2.2.2.2.1
theorem dX12_table_99 : decode cX12_table 99 = .ok (.iconst (-1), 1) := dkg_X12_55.2.2.2.2.2.1
theorem dX12_table_100 : decode cX12_table 100 = .ok (.invokevirtual 178, 3) := dkg_X12_55.2.2.2.2.2.2.1
theorem dX12_table_103 : decode cX12_table 103 = .ok (.invokevirtual 158, 3) := dkg_X12_55.2.2.2.2.2.2.2.1
theorem dX12_table_106 : decode cX12_table 106 = .ok (.ireturn, 1) := dkg_X12_55.2.2.2.2.2.2.2.2.1
theorem dkg_X12_56 : dkp cX12_newTable [(0, .aload_n 0, 1), (1, .getfield 164, 3), (4, .istore 5, 2), (6, .aload_n 0, 1), (7, .dup, 1), (8, .getfield 164, 3), (11, .iconst 1, 1), (12, .iadd, 1), (13, .putfield 164, 3), (16, .aload_n 0, 1)] := dkf (by decide +kernel)
theorem dX12_newTable_0 : decode cX12_newTable 0 = .ok (.aload_n 0, 1) := dkg_X12_56.1
theorem dX12_newTable_1 : decode cX12_newTable 1 = .ok (.getfield 164, 3) := dkg_X12_56.2.1
theorem dX12_newTable_4 : decode cX12_newTable 4 = .ok (.istore 5, 2) := dkg_X12_56.2.2.1
theorem dX12_newTable_6 : decode cX12_newTable 6 = .ok (.aload_n 0, 1) := dkg_X12_56.2.2.2.1
theorem dX12_newTable_7 : decode cX12_newTable 7 = .ok (.dup, 1) := dkg_X12_56.2.2.2.2.1
theorem dX12_newTable_8 : decode cX12_newTable 8 = .ok (.getfield 164, 3) := dkg_X12_56.2.2.2.2.2.1
theorem dX12_newTable_11 : decode cX12_newTable 11 = .ok (.iconst 1, 1) := dkg_X12_56.2.2.2.2.2.2.1
theorem dX12_newTable_12 : decode cX12_newTable 12 = .ok (.iadd, 1) := dkg_X12_56.2.2.2.2.2.2.2.1
theorem dX12_newTable_13 : decode cX12_newTable 13 = .ok (.putfield 164, 3) := dkg_X12_56.2.2.2.2.2.2.2.2.1
theorem dX12_newTable_16 : decode cX12_newTable 16 = .ok (.aload_n 0, 1) := dkg_X12_56.2.2.2.2.2.2.2.2.2.1
theorem dkg_X12_57 : dkp cX12_newTable [(17, .getfield 17, 3), (20, .iload 5, 2), (22, .iconst 1, 1), (23, .bastore, 1), (24, .aload_n 0, 1), (25, .getfield 21, 3), (28, .iload 5, 2), (30, .iload_n 1, 1), (31, .iastore, 1), (32, .aload_n 0, 1)] := dkf (by decide +kernel)
theorem dX12_newTable_17 : decode cX12_newTable 17 = .ok (.getfield 17, 3) := dkg_X12_57.1
theorem dX12_newTable_20 : decode cX12_newTable 20 = .ok (.iload 5, 2) := dkg_X12_57.2.1
theorem dX12_newTable_22 : decode cX12_newTable 22 = .ok (.iconst 1, 1) := dkg_X12_57.2.2.1
theorem dX12_newTable_23 : decode cX12_newTable 23 = .ok (.bastore, 1) := dkg_X12_57.2.2.2.1
theorem dX12_newTable_24 : decode cX12_newTable 24 = .ok (.aload_n 0, 1) := dkg_X12_57.2.2.2.2.1
theorem dX12_newTable_25 : decode cX12_newTable 25 = .ok (.getfield 21, 3) := dkg_X12_57.2.2.2.2.2.1
theorem dX12_newTable_28 : decode cX12_newTable 28 = .ok (.iload 5, 2) := dkg_X12_57.2.2.2.2.2.2.1
theorem dX12_newTable_30 : decode cX12_newTable 30 = .ok (.iload_n 1, 1) := dkg_X12_57.2.2.2.2.2.2.2.1
theorem dX12_newTable_31 : decode cX12_newTable 31 = .ok (.iastore, 1) := dkg_X12_57.2.2.2.2.2.2.2.2.1
theorem dX12_newTable_32 : decode cX12_newTable 32 = .ok (.aload_n 0, 1) := dkg_X12_57.2.2.2.2.2.2.2.2.2.1
theorem dkg_X12_58 : dkp cX12_newTable [(33, .getfield 24, 3), (36, .iload 5, 2), (38, .iload_n 2, 1), (39, .iastore, 1), (40, .aload_n 0, 1), (41, .getfield 27, 3), (44, .iload 5, 2), (46, .iload_n 3, 1), (47, .iastore, 1), (48, .aload_n 0, 1)] := dkf (by decide +kernel)
theorem dX12_newTable_33 : decode cX12_newTable 33 = .ok (.getfield 24, 3) := dkg_X12_58.1
theorem dX12_newTable_36 : decode cX12_newTable 36 = .ok (.iload 5, 2) := dkg_X12_58.2.1
theorem dX12_newTable_38 : decode cX12_newTable 38 = .ok (.iload_n 2, 1) := dkg_X12_58.2.2.1
theorem dX12_newTable_39 : decode cX12_newTable 39 = .ok (.iastore, 1) := dkg_X12_58.2.2.2.1
theorem dX12_newTable_40 : decode cX12_newTable 40 = .ok (.aload_n 0, 1) := dkg_X12_58.2.2.2.2.1
theorem dX12_newTable_41 : decode cX12_newTable 41 = .ok (.getfield 27, 3) := dkg_X12_58.2.2.2.2.2.1
theorem dX12_newTable_44 : decode cX12_newTable 44 = .ok (.iload 5, 2) := dkg_X12_58.2.2.2.2.2.2.1
theorem dX12_newTable_46 : decode cX12_newTable 46 = .ok (.iload_n 3, 1) := dkg_X12_58.2.2.2.2.2.2.2.1
theorem dX12_newTable_47 : decode cX12_newTable 47 = .ok (.iastore, 1) := dkg_X12_58.2.2.2.2.2.2.2.2.1
theorem dX12_newTable_48 : decode cX12_newTable 48 = .ok (.aload_n 0, 1) := dkg_X12_58.2.2.2.2.2.2.2.2.2.1
theorem dkg_X12_59 : dkp cX12_newTable [(49, .getfield 30, 3), (52, .iload 5, 2), (54, .iload 4, 2), (56, .iastore, 1), (57, .aload_n 0, 1), (58, .getfield 33, 3), (61, .iload 5, 2), (63, .iconst 0, 1), (64, .iastore, 1), (65, .iconst 0, 1)] := dkf (by decide +kernel)
theorem dX12_newTable_49 : decode cX12_newTable 49 = .ok (.getfield 30, 3) := dkg_X12_59.1
theorem dX12_newTable_52 : decode cX12_newTable 52 = .ok (.iload 5, 2) := dkg_X12_59.2.1
theorem dX12_newTable_54 : decode cX12_newTable 54 = .ok (.iload 4, 2) := dkg_X12_59.2.2.1
theorem dX12_newTable_56 : decode cX12_newTable 56 = .ok (.iastore, 1) := dkg_X12_59.2.2.2.1
theorem dX12_newTable_57 : decode cX12_newTable 57 = .ok (.aload_n 0, 1) := dkg_X12_59.2.2.2.2.1
theorem dX12_newTable_58 : decode cX12_newTable 58 = .ok (.getfield 33, 3) := dkg_X12_59.2.2.2.2.2.1
theorem dX12_newTable_61 : decode cX12_newTable 61 = .ok (.iload 5, 2) := dkg_X12_59.2.2.2.2.2.2.1
theorem dX12_newTable_63 : decode cX12_newTable 63 = .ok (.iconst 0, 1) := dkg_X12_59.2.2.2.2.2.2.2.1
theorem dX12_newTable_64 : decode cX12_newTable 64 = .ok (.iastore, 1) := dkg_X12_59.2.2.2.2.2.2.2.2.1
theorem dX12_newTable_65 : decode cX12_newTable 65 = .ok (.iconst 0, 1) := dkg_X12_59.2.2.2.2.2.2.2.2.2.1
theorem dkg_X12_60 : dkp cX12_newTable [(66, .istore 6, 2), (68, .iload 6, 2), (70, .iconst 4, 1), (71, .if_icmp .ge 22, 3), (74, .aload_n 0, 1), (75, .getfield 52, 3), (78, .iconst 4, 1), (79, .iload 5, 2), (81, .imul, 1), (82, .iload 6, 2)] := dkf (by decide +kernel)
theorem dX12_newTable_66 : decode cX12_newTable 66 = .ok (.istore 6, 2) := dkg_X12_60.1
theorem dX12_newTable_68 : decode cX12_newTable 68 = .ok (.iload 6, 2) := dkg_X12_60.2.1
theorem dX12_newTable_70 : decode cX12_newTable 70 = .ok (.iconst 4, 1) := dkg_X12_60.2.2.1
theorem dX12_newTable_71 : decode cX12_newTable 71 = .ok (.if_icmp .ge 22, 3) := dkg_X12_60.2.2.2.1
theorem dX12_newTable_74 : decode cX12_newTable 74 = .ok (.aload_n 0, 1) := dkg_X12_60.2.2.2.2.1
theorem dX12_newTable_75 : decode cX12_newTable 75 = .ok (.getfield 52, 3) := dkg_X12_60.2.2.2.2.2.1
theorem dX12_newTable_78 : decode cX12_newTable 78 = .ok (.iconst 4, 1) := dkg_X12_60.2.2.2.2.2.2.1
theorem dX12_newTable_79 : decode cX12_newTable 79 = .ok (.iload 5, 2) := dkg_X12_60.2.2.2.2.2.2.2.1
theorem dX12_newTable_81 : decode cX12_newTable 81 = .ok (.imul, 1) := dkg_X12_60.2.2.2.2.2.2.2.2.1
theorem dX12_newTable_82 : decode cX12_newTable 82 = .ok (.iload 6, 2) := dkg_X12_60.2.2.2.2.2.2.2.2.2.1
theorem dkg_X12_61 : dkp cX12_newTable [(84, .iadd, 1), (85, .iconst 0, 1), (86, .iastore, 1), (87, .iinc 6 1, 3), (90, .goto (-22), 3), (93, .aload_n 0, 1), (94, .iconst 0, 1), (95, .iload 5, 2), (97, .iconst 0, 1), (98, .iconst 0, 1)] := dkf (by decide +kernel)
theorem dX12_newTable_84 : decode cX12_newTable 84 = .ok (.iadd, 1) := dkg_X12_61.1
theorem dX12_newTable_85 : decode cX12_newTable 85 = .ok (.iconst 0, 1) := dkg_X12_61.2.1
theorem dX12_newTable_86 : decode cX12_newTable 86 = .ok (.iastore, 1) := dkg_X12_61.2.2.1
theorem dX12_newTable_87 : decode cX12_newTable 87 = .ok (.iinc 6 1, 3) := dkg_X12_61.2.2.2.1
theorem dX12_newTable_90 : decode cX12_newTable 90 = .ok (.goto (-22), 3) := dkg_X12_61.2.2.2.2.1
theorem dX12_newTable_93 : decode cX12_newTable 93 = .ok (.aload_n 0, 1) := dkg_X12_61.2.2.2.2.2.1
theorem dX12_newTable_94 : decode cX12_newTable 94 = .ok (.iconst 0, 1) := dkg_X12_61.2.2.2.2.2.2.1
theorem dX12_newTable_95 : decode cX12_newTable 95 = .ok (.iload 5, 2) := dkg_X12_61.2.2.2.2.2.2.2.1
theorem dX12_newTable_97 : decode cX12_newTable 97 = .ok (.iconst 0, 1) := dkg_X12_61.2.2.2.2.2.2.2.2.1
theorem dX12_newTable_98 : decode cX12_newTable 98 = .ok (.iconst 0, 1) := dkg_X12_61.2.2.2.2.2.2.2.2.2.1
theorem dkg_X12_62 : dkp cX12_newTable [(99, .invokevirtual 182, 3), (102, .iload 5, 2), (104, .ireturn, 1)] := dkf (by decide +kernel)
theorem dX12_newTable_99 : decode cX12_newTable 99 = .ok (.invokevirtual 182, 3) := dkg_X12_62.1
theorem dX12_newTable_102 : decode cX12_newTable 102 = .ok (.iload 5, 2) := dkg_X12_62.2.1
theorem dX12_newTable_104 : decode cX12_newTable 104 = .ok (.ireturn, 1) := dkg_X12_62.2.2.1
theorem dkg_X12_63 : dkp cX12_join [(0, .aload_n 0, 1), (1, .iload_n 1, 1), (2, .invokevirtual 167, 3), (5, .ifCond .ne 9, 3), (8, .aload_n 0, 1), (9, .iconst 3, 1), (10, .invokevirtual 154, 3), (13, .ireturn, 1), (14, .aload_n 0, 1), (15, .getfield 21, 3)] := dkf (by decide +kernel)
theorem dX12_join_0 : decode cX12_join 0 = .ok (.aload_n 0, 1) := dkg_X12_63.1
theorem dX12_join_1 : decode cX12_join 1 = .ok (.iload_n 1, 1) := dkg_X12_63.2.1
theorem dX12_join_2 : decode cX12_join 2 = .ok (.invokevirtual 167, 3) := dkg_X12_63.2.2.1
theorem dX12_join_5 : decode cX12_join 5 = .ok (.ifCond .ne 9, 3) := dkg_X12_63.2.2.2.1
theorem dX12_join_8 : decode cX12_join 8 = .ok (.aload_n 0, 1) := dkg_X12_63.2.2.2.2.1
theorem dX12_join_9 : decode cX12_join 9 = .ok (.iconst 3, 1) := dkg_X12_63.2.2.2.2.2.1
theorem dX12_join_10 : decode cX12_join 10 = .ok (.invokevirtual 154, 3) := dkg_X12_63.2.2.2.2.2.2.1
theorem dX12_join_13 : decode cX12_join 13 = .ok (.ireturn, 1) := dkg_X12_63.2.2.2.2.2.2.2.1
theorem dX12_join_14 : decode cX12_join 14 = .ok (.aload_n 0, 1) := dkg_X12_63.2.2.2.2.2.2.2.2.1
theorem dX12_join_15 : decode cX12_join 15 = .ok (.getfield 21, 3) := dkg_X12_63.2.2.2.2.2.2.2.2.2.1
theorem dkg_X12_64 : dkp cX12_join [(18, .iload_n 1, 1), (19, .iaload, 1), (20, .iconst 3, 1), (21, .if_icmp .le 9, 3), (24, .aload_n 0, 1), (25, .iconst 4, 1), (26, .invokevirtual 154, 3), (29, .ireturn, 1), (30, .aload_n 0, 1), (31, .iload_n 2, 1)] := dkf (by decide +kernel)
theorem dX12_join_18 : decode cX12_join 18 = .ok (.iload_n 1, 1) := dkg_X12_64.1
theorem dX12_join_19 : decode cX12_join 19 = .ok (.iaload, 1) := dkg_X12_64.2.1
theorem dX12_join_20 : decode cX12_join 20 = .ok (.iconst 3, 1) := dkg_X12_64.2.2.1
theorem dX12_join_21 : decode cX12_join 21 = .ok (.if_icmp .le 9, 3) := dkg_X12_64.2.2.2.1
theorem dX12_join_24 : decode cX12_join 24 = .ok (.aload_n 0, 1) := dkg_X12_64.2.2.2.2.1
theorem dX12_join_25 : decode cX12_join 25 = .ok (.iconst 4, 1) := dkg_X12_64.2.2.2.2.2.1
theorem dX12_join_26 : decode cX12_join 26 = .ok (.invokevirtual 154, 3) := dkg_X12_64.2.2.2.2.2.2.1
theorem dX12_join_29 : decode cX12_join 29 = .ok (.ireturn, 1) := dkg_X12_64.2.2.2.2.2.2.2.1
theorem dX12_join_30 : decode cX12_join 30 = .ok (.aload_n 0, 1) := dkg_X12_64.2.2.2.2.2.2.2.2.1
theorem dX12_join_31 : decode cX12_join 31 = .ok (.iload_n 2, 1) := dkg_X12_64.2.2.2.2.2.2.2.2.2.1
theorem dkg_X12_65 : dkp cX12_join [(32, .invokevirtual 167, 3), (35, .ifCond .ne 9, 3), (38, .aload_n 0, 1), (39, .iconst 3, 1), (40, .invokevirtual 154, 3), (43, .ireturn, 1), (44, .aload_n 0, 1), (45, .getfield 21, 3), (48, .iload_n 2, 1), (49, .iaload, 1)] := dkf (by decide +kernel)
theorem dX12_join_32 : decode cX12_join 32 = .ok (.invokevirtual 167, 3) := dkg_X12_65.1
theorem dX12_join_35 : decode cX12_join 35 = .ok (.ifCond .ne 9, 3) := dkg_X12_65.2.1
theorem dX12_join_38 : decode cX12_join 38 = .ok (.aload_n 0, 1) := dkg_X12_65.2.2.1
theorem dX12_join_39 : decode cX12_join 39 = .ok (.iconst 3, 1) := dkg_X12_65.2.2.2.1
theorem dX12_join_40 : decode cX12_join 40 = .ok (.invokevirtual 154, 3) := dkg_X12_65.2.2.2.2.1
theorem dX12_join_43 : decode cX12_join 43 = .ok (.ireturn, 1) := dkg_X12_65.2.2.2.2.2.1
theorem dX12_join_44 : decode cX12_join 44 = .ok (.aload_n 0, 1) := dkg_X12_65.2.2.2.2.2.2.1
theorem dX12_join_45 : decode cX12_join 45 = .ok (.getfield 21, 3) := dkg_X12_65.2.2.2.2.2.2.2.1
theorem dX12_join_48 : decode cX12_join 48 = .ok (.iload_n 2, 1) := dkg_X12_65.2.2.2.2.2.2.2.2.1
theorem dX12_join_49 : decode cX12_join 49 = .ok (.iaload, 1) := dkg_X12_65.2.2.2.2.2.2.2.2.2.1
theorem dkg_X12_66 : dkp cX12_join [(50, .iconst 3, 1), (51, .if_icmp .le 9, 3), (54, .aload_n 0, 1), (55, .iconst 4, 1), (56, .invokevirtual 154, 3), (59, .ireturn, 1), (60, .aload_n 0, 1), (61, .getfield 164, 3), (64, .bipush 30, 2), (66, .if_icmp .ne 10, 3)] := dkf (by decide +kernel)
theorem dX12_join_50 : decode cX12_join 50 = .ok (.iconst 3, 1) := dkg_X12_66.1
theorem dX12_join_51 : decode cX12_join 51 = .ok (.if_icmp .le 9, 3) := dkg_X12_66.2.1
theorem dX12_join_54 : decode cX12_join 54 = .ok (.aload_n 0, 1) := dkg_X12_66.2.2.1
theorem dX12_join_55 : decode cX12_join 55 = .ok (.iconst 4, 1) := dkg_X12_66.2.2.2.1
theorem dX12_join_56 : decode cX12_join 56 = .ok (.invokevirtual 154, 3) := dkg_X12_66.2.2.2.2.1
theorem dX12_join_59 : decode cX12_join 59 = .ok (.ireturn, 1) := dkg_X12_66.2.2.2.2.2.1
theorem dX12_join_60 : decode cX12_join 60 = .ok (.aload_n 0, 1) := dkg_X12_66.2.2.2.2.2.2.1
theorem dX12_join_61 : decode cX12_join 61 = .ok (.getfield 164, 3) := dkg_X12_66.2.2.2.2.2.2.2.1
theorem dX12_join_64 : decode cX12_join 64 = .ok (.bipush 30, 2) := dkg_X12_66.2.2.2.2.2.2.2.2.1
theorem dX12_join_66 : decode cX12_join 66 = .ok (.if_icmp .ne 10, 3) := dkg_X12_66.2.2.2.2.2.2.2.2.2.1
theorem dkg_X12_67 : dkp cX12_join [(69, .aload_n 0, 1), (70, .bipush 6, 2), (72, .invokevirtual 154, 3), (75, .ireturn, 1), (76, .aload_n 0, 1), (77, .aload_n 0, 1), (78, .iconst 5, 1), (79, .aload_n 0, 1), (80, .getfield 24, 3), (83, .iload_n 1, 1)] := dkf (by decide +kernel)
theorem dX12_join_69 : decode cX12_join 69 = .ok (.aload_n 0, 1) := dkg_X12_67.1
theorem dX12_join_70 : decode cX12_join 70 = .ok (.bipush 6, 2) := dkg_X12_67.2.1
theorem dX12_join_72 : decode cX12_join 72 = .ok (.invokevirtual 154, 3) := dkg_X12_67.2.2.1
theorem dX12_join_75 : decode cX12_join 75 = .ok (.ireturn, 1) := dkg_X12_67.2.2.2.1
theorem dX12_join_76 : decode cX12_join 76 = .ok (.aload_n 0, 1) := dkg_X12_67.2.2.2.2.1
theorem dX12_join_77 : decode cX12_join 77 = .ok (.aload_n 0, 1) := dkg_X12_67.2.2.2.2.2.1
theorem dX12_join_78 : decode cX12_join 78 = .ok (.iconst 5, 1) := dkg_X12_67.2.2.2.2.2.2.1
theorem dX12_join_79 : decode cX12_join 79 = .ok (.aload_n 0, 1) := dkg_X12_67.2.2.2.2.2.2.2.1
theorem dX12_join_80 : decode cX12_join 80 = .ok (.getfield 24, 3) := dkg_X12_67.2.2.2.2.2.2.2.2.1
theorem dX12_join_83 : decode cX12_join 83 = .ok (.iload_n 1, 1) := dkg_X12_67.2.2.2.2.2.2.2.2.2.1
theorem dkg_X12_68 : dkp cX12_join [(84, .iaload, 1), (85, .aload_n 0, 1), (86, .getfield 24, 3), (89, .iload_n 2, 1), (90, .iaload, 1), (91, .invokestatic 186, 3), (94, .iload_n 1, 1), (95, .iload_n 2, 1), (96, .invokevirtual 178, 3), (99, .invokevirtual 158, 3)] := dkf (by decide +kernel)
theorem dX12_join_84 : decode cX12_join 84 = .ok (.iaload, 1) := dkg_X12_68.1
theorem dX12_join_85 : decode cX12_join 85 = .ok (.aload_n 0, 1) := dkg_X12_68.2.1
theorem dX12_join_86 : decode cX12_join 86 = .ok (.getfield 24, 3) := dkg_X12_68.2.2.1
theorem dX12_join_89 : decode cX12_join 89 = .ok (.iload_n 2, 1) := dkg_X12_68.2.2.2.1
theorem dX12_join_90 : decode cX12_join 90 = .ok (.iaload, 1) := dkg_X12_68.2.2.2.2.1
theorem dX12_join_91 : decode cX12_join 91 = .ok (.invokestatic 186, 3) := dkg_X12_68.2.2.2.2.2.1
theorem dX12_join_94 : decode cX12_join 94 = .ok (.iload_n 1, 1) := dkg_X12_68.2.2.2.2.2.2.1
theorem dX12_join_95 : decode cX12_join 95 = .ok (.iload_n 2, 1) := dkg_X12_68.2.2.2.2.2.2.2.1
theorem dX12_join_96 : decode cX12_join 96 = .ok (.invokevirtual 178, 3) := dkg_X12_68.2.2.2.2.2.2.2.2.1
theorem dX12_join_99 : decode cX12_join 99 = .ok (.invokevirtual 158, 3) := dkg_X12_68.2.2.2.2.2.2.2.2.2.1
theorem dkg_X12_69 : dkp cX12_join [(102, .ireturn, 1)] := dkf (by decide +kernel)
theorem dX12_join_102 : decode cX12_join 102 = .ok (.ireturn, 1) := dkg_X12_69.1
theorem dkg_X12_70 : dkp cX12_drop [(0, .aload_n 0, 1), (1, .iload_n 1, 1), (2, .invokevirtual 167, 3), (5, .ifCond .ne 9, 3), (8, .aload_n 0, 1), (9, .iconst 3, 1), (10, .invokevirtual 154, 3), (13, .ireturn, 1), (14, .aload_n 0, 1), (15, .getfield 17, 3)] := dkf (by decide +kernel)
theorem dX12_drop_0 : decode cX12_drop 0 = .ok (.aload_n 0, 1) := dkg_X12_70.1
theorem dX12_drop_1 : decode cX12_drop 1 = .ok (.iload_n 1, 1) := dkg_X12_70.2.1
theorem dX12_drop_2 : decode cX12_drop 2 = .ok (.invokevirtual 167, 3) := dkg_X12_70.2.2.1
theorem dX12_drop_5 : decode cX12_drop 5 = .ok (.ifCond .ne 9, 3) := dkg_X12_70.2.2.2.1
theorem dX12_drop_8 : decode cX12_drop 8 = .ok (.aload_n 0, 1) := dkg_X12_70.2.2.2.2.1
theorem dX12_drop_9 : decode cX12_drop 9 = .ok (.iconst 3, 1) := dkg_X12_70.2.2.2.2.2.1
theorem dX12_drop_10 : decode cX12_drop 10 = .ok (.invokevirtual 154, 3) := dkg_X12_70.2.2.2.2.2.2.1
theorem dX12_drop_13 : decode cX12_drop 13 = .ok (.ireturn, 1) := dkg_X12_70.2.2.2.2.2.2.2.1
theorem dX12_drop_14 : decode cX12_drop 14 = .ok (.aload_n 0, 1) := dkg_X12_70.2.2.2.2.2.2.2.2.1
theorem dX12_drop_15 : decode cX12_drop 15 = .ok (.getfield 17, 3) := dkg_X12_70.2.2.2.2.2.2.2.2.2.1
theorem dkg_X12_71 : dkp cX12_drop [(18, .iload_n 1, 1), (19, .iconst 0, 1), (20, .bastore, 1), (21, .aload_n 0, 1), (22, .iconst 1, 1), (23, .iload_n 1, 1), (24, .iconst 0, 1), (25, .iconst 0, 1), (26, .invokevirtual 182, 3), (29, .aload_n 0, 1)] := dkf (by decide +kernel)
theorem dX12_drop_18 : decode cX12_drop 18 = .ok (.iload_n 1, 1) := dkg_X12_71.1
theorem dX12_drop_19 : decode cX12_drop 19 = .ok (.iconst 0, 1) := dkg_X12_71.2.1
theorem dX12_drop_20 : decode cX12_drop 20 = .ok (.bastore, 1) := dkg_X12_71.2.2.1
theorem dX12_drop_21 : decode cX12_drop 21 = .ok (.aload_n 0, 1) := dkg_X12_71.2.2.2.1
theorem dX12_drop_22 : decode cX12_drop 22 = .ok (.iconst 1, 1) := dkg_X12_71.2.2.2.2.1
theorem dX12_drop_23 : decode cX12_drop 23 = .ok (.iload_n 1, 1) := dkg_X12_71.2.2.2.2.2.1
theorem dX12_drop_24 : decode cX12_drop 24 = .ok (.iconst 0, 1) := dkg_X12_71.2.2.2.2.2.2.1
theorem dX12_drop_25 : decode cX12_drop 25 = .ok (.iconst 0, 1) := dkg_X12_71.2.2.2.2.2.2.2.1
theorem dX12_drop_26 : decode cX12_drop 26 = .ok (.invokevirtual 182, 3) := dkg_X12_71.2.2.2.2.2.2.2.2.1
theorem dX12_drop_29 : decode cX12_drop 29 = .ok (.aload_n 0, 1) := dkg_X12_71.2.2.2.2.2.2.2.2.2.1
theorem dkg_X12_72 : dkp cX12_drop [(30, .iconst 1, 1), (31, .invokevirtual 158, 3), (34, .ireturn, 1)] := dkf (by decide +kernel)
theorem dX12_drop_30 : decode cX12_drop 30 = .ok (.iconst 1, 1) := dkg_X12_72.1
theorem dX12_drop_31 : decode cX12_drop 31 = .ok (.invokevirtual 158, 3) := dkg_X12_72.2.1
theorem dX12_drop_34 : decode cX12_drop 34 = .ok (.ireturn, 1) := dkg_X12_72.2.2.1
theorem dkg_X12_73 : dkp cX12_isLetter [(0, .iload_n 0, 1), (1, .bipush 33, 2), (3, .bipush 125, 2), (5, .invokestatic 174, 3), (8, .ireturn, 1)] := dkf (by decide +kernel)
theorem dX12_isLetter_0 : decode cX12_isLetter 0 = .ok (.iload_n 0, 1) := dkg_X12_73.1
theorem dX12_isLetter_1 : decode cX12_isLetter 1 = .ok (.bipush 33, 2) := dkg_X12_73.2.1
theorem dX12_isLetter_3 : decode cX12_isLetter 3 = .ok (.bipush 125, 2) := dkg_X12_73.2.2.1
theorem dX12_isLetter_5 : decode cX12_isLetter 5 = .ok (.invokestatic 174, 3) := dkg_X12_73.2.2.2.1
theorem dX12_isLetter_8 : decode cX12_isLetter 8 = .ok (.ireturn, 1) := dkg_X12_73.2.2.2.2.1
theorem dkg_X12_74 : dkp cX12_areCells [(0, .iconst 1, 1), (1, .istore 4, 2), (3, .iload_n 2, 1), (4, .istore 5, 2), (6, .iload 5, 2), (8, .iload_n 2, 1), (9, .iload_n 3, 1), (10, .iadd, 1), (11, .if_icmp .ge 54, 3), (14, .iload 4, 2)] := dkf (by decide +kernel)
theorem dX12_areCells_0 : decode cX12_areCells 0 = .ok (.iconst 1, 1) := dkg_X12_74.1
theorem dX12_areCells_1 : decode cX12_areCells 1 = .ok (.istore 4, 2) := dkg_X12_74.2.1
theorem dX12_areCells_3 : decode cX12_areCells 3 = .ok (.iload_n 2, 1) := dkg_X12_74.2.2.1
theorem dX12_areCells_4 : decode cX12_areCells 4 = .ok (.istore 5, 2) := dkg_X12_74.2.2.2.1
theorem dX12_areCells_6 : decode cX12_areCells 6 = .ok (.iload 5, 2) := dkg_X12_74.2.2.2.2.1
theorem dX12_areCells_8 : decode cX12_areCells 8 = .ok (.iload_n 2, 1) := dkg_X12_74.2.2.2.2.2.1
theorem dX12_areCells_9 : decode cX12_areCells 9 = .ok (.iload_n 3, 1) := dkg_X12_74.2.2.2.2.2.2.1
theorem dX12_areCells_10 : decode cX12_areCells 10 = .ok (.iadd, 1) := dkg_X12_74.2.2.2.2.2.2.2.1
theorem dX12_areCells_11 : decode cX12_areCells 11 = .ok (.if_icmp .ge 54, 3) := dkg_X12_74.2.2.2.2.2.2.2.2.1
theorem dX12_areCells_14 : decode cX12_areCells 14 = .ok (.iload 4, 2) := dkg_X12_74.2.2.2.2.2.2.2.2.2.1
theorem dkg_X12_75 : dkp cX12_areCells [(16, .ifCond .eq 40, 3), (19, .aload_n 0, 1), (20, .getfield 13, 3), (23, .iload 5, 2), (25, .iaload, 1), (26, .iconst 1, 1), (27, .aload_n 0, 1), (28, .getfield 24, 3), (31, .iload_n 1, 1), (32, .iaload, 1)] := dkf (by decide +kernel)
theorem dX12_areCells_16 : decode cX12_areCells 16 = .ok (.ifCond .eq 40, 3) := dkg_X12_75.1
theorem dX12_areCells_19 : decode cX12_areCells 19 = .ok (.aload_n 0, 1) := dkg_X12_75.2.1
theorem dX12_areCells_20 : decode cX12_areCells 20 = .ok (.getfield 13, 3) := dkg_X12_75.2.2.1
theorem dX12_areCells_23 : decode cX12_areCells 23 = .ok (.iload 5, 2) := dkg_X12_75.2.2.2.1
theorem dX12_areCells_25 : decode cX12_areCells 25 = .ok (.iaload, 1) := dkg_X12_75.2.2.2.2.1
theorem dX12_areCells_26 : decode cX12_areCells 26 = .ok (.iconst 1, 1) := dkg_X12_75.2.2.2.2.2.1
theorem dX12_areCells_27 : decode cX12_areCells 27 = .ok (.aload_n 0, 1) := dkg_X12_75.2.2.2.2.2.2.1
theorem dX12_areCells_28 : decode cX12_areCells 28 = .ok (.getfield 24, 3) := dkg_X12_75.2.2.2.2.2.2.2.1
theorem dX12_areCells_31 : decode cX12_areCells 31 = .ok (.iload_n 1, 1) := dkg_X12_75.2.2.2.2.2.2.2.2.1
theorem dX12_areCells_32 : decode cX12_areCells 32 = .ok (.iaload, 1) := dkg_X12_75.2.2.2.2.2.2.2.2.2.1
theorem dkg_X12_76 : dkp cX12_areCells [(33, .bipush 6, 2), (35, .if_icmp .ne 8, 3), (38, .bipush 63, 2), (40, .goto 6, 3), (43, .sipush 255, 3), (46, .invokestatic 174, 3), (49, .ifCond .eq 7, 3), (52, .iconst 1, 1), (53, .goto 4, 3), (56, .iconst 0, 1)] := dkf (by decide +kernel)
theorem dX12_areCells_33 : decode cX12_areCells 33 = .ok (.bipush 6, 2) := dkg_X12_76.1
theorem dX12_areCells_35 : decode cX12_areCells 35 = .ok (.if_icmp .ne 8, 3) := dkg_X12_76.2.1
theorem dX12_areCells_38 : decode cX12_areCells 38 = .ok (.bipush 63, 2) := dkg_X12_76.2.2.1
theorem dX12_areCells_40 : decode cX12_areCells 40 = .ok (.goto 6, 3) := dkg_X12_76.2.2.2.1
theorem dX12_areCells_43 : decode cX12_areCells 43 = .ok (.sipush 255, 3) := dkg_X12_76.2.2.2.2.1
theorem dX12_areCells_46 : decode cX12_areCells 46 = .ok (.invokestatic 174, 3) := dkg_X12_76.2.2.2.2.2.1
theorem dX12_areCells_49 : decode cX12_areCells 49 = .ok (.ifCond .eq 7, 3) := dkg_X12_76.2.2.2.2.2.2.1
theorem dX12_areCells_52 : decode cX12_areCells 52 = .ok (.iconst 1, 1) := dkg_X12_76.2.2.2.2.2.2.2.1
theorem dX12_areCells_53 : decode cX12_areCells 53 = .ok (.goto 4, 3) := dkg_X12_76.2.2.2.2.2.2.2.2.1
theorem dX12_areCells_56 : decode cX12_areCells 56 = .ok (.iconst 0, 1) := dkg_X12_76.2.2.2.2.2.2.2.2.2.1
theorem dkg_X12_77 : dkp cX12_areCells [(57, .istore 4, 2), (59, .iinc 5 1, 3), (62, .goto (-56), 3), (65, .iload 4, 2), (67, .ireturn, 1)] := dkf (by decide +kernel)
theorem dX12_areCells_57 : decode cX12_areCells 57 = .ok (.istore 4, 2) := dkg_X12_77.1
theorem dX12_areCells_59 : decode cX12_areCells 59 = .ok (.iinc 5 1, 3) := dkg_X12_77.2.1
theorem dX12_areCells_62 : decode cX12_areCells 62 = .ok (.goto (-56), 3) := dkg_X12_77.2.2.1
theorem dX12_areCells_65 : decode cX12_areCells 65 = .ok (.iload 4, 2) := dkg_X12_77.2.2.2.1
theorem dX12_areCells_67 : decode cX12_areCells 67 = .ok (.ireturn, 1) := dkg_X12_77.2.2.2.2.1
theorem dkg_X12_78 : dkp cX12_rule [(0, .aload_n 0, 1), (1, .invokevirtual 192, 3), (4, .istore 4, 2), (6, .aload_n 0, 1), (7, .iload_n 1, 1), (8, .invokevirtual 167, 3), (11, .ifCond .ne 9, 3), (14, .aload_n 0, 1), (15, .iconst 3, 1), (16, .invokevirtual 154, 3)] := dkf (by decide +kernel)
theorem dX12_rule_0 : decode cX12_rule 0 = .ok (.aload_n 0, 1) := dkg_X12_78.1
theorem dX12_rule_1 : decode cX12_rule 1 = .ok (.invokevirtual 192, 3) := dkg_X12_78.2.1
theorem dX12_rule_4 : decode cX12_rule 4 = .ok (.istore 4, 2) := dkg_X12_78.2.2.1
theorem dX12_rule_6 : decode cX12_rule 6 = .ok (.aload_n 0, 1) := dkg_X12_78.2.2.2.1
theorem dX12_rule_7 : decode cX12_rule 7 = .ok (.iload_n 1, 1) := dkg_X12_78.2.2.2.2.1
theorem dX12_rule_8 : decode cX12_rule 8 = .ok (.invokevirtual 167, 3) := dkg_X12_78.2.2.2.2.2.1
theorem dX12_rule_11 : decode cX12_rule 11 = .ok (.ifCond .ne 9, 3) := dkg_X12_78.2.2.2.2.2.2.1
theorem dX12_rule_14 : decode cX12_rule 14 = .ok (.aload_n 0, 1) := dkg_X12_78.2.2.2.2.2.2.2.1
theorem dX12_rule_15 : decode cX12_rule 15 = .ok (.iconst 3, 1) := dkg_X12_78.2.2.2.2.2.2.2.2.1
theorem dX12_rule_16 : decode cX12_rule 16 = .ok (.invokevirtual 154, 3) := dkg_X12_78.2.2.2.2.2.2.2.2.2.1
theorem dkg_X12_79 : dkp cX12_rule [(19, .ireturn, 1), (20, .aload_n 0, 1), (21, .getfield 21, 3), (24, .iload_n 1, 1), (25, .iaload, 1), (26, .iconst 5, 1), (27, .if_icmp .ne 9, 3), (30, .aload_n 0, 1), (31, .iconst 4, 1), (32, .invokevirtual 154, 3)] := dkf (by decide +kernel)
theorem dX12_rule_19 : decode cX12_rule 19 = .ok (.ireturn, 1) := dkg_X12_79.1
theorem dX12_rule_20 : decode cX12_rule 20 = .ok (.aload_n 0, 1) := dkg_X12_79.2.1
theorem dX12_rule_21 : decode cX12_rule 21 = .ok (.getfield 21, 3) := dkg_X12_79.2.2.1
theorem dX12_rule_24 : decode cX12_rule 24 = .ok (.iload_n 1, 1) := dkg_X12_79.2.2.2.1
theorem dX12_rule_25 : decode cX12_rule 25 = .ok (.iaload, 1) := dkg_X12_79.2.2.2.2.1
theorem dX12_rule_26 : decode cX12_rule 26 = .ok (.iconst 5, 1) := dkg_X12_79.2.2.2.2.2.1
theorem dX12_rule_27 : decode cX12_rule 27 = .ok (.if_icmp .ne 9, 3) := dkg_X12_79.2.2.2.2.2.2.1
theorem dX12_rule_30 : decode cX12_rule 30 = .ok (.aload_n 0, 1) := dkg_X12_79.2.2.2.2.2.2.2.1
theorem dX12_rule_31 : decode cX12_rule 31 = .ok (.iconst 4, 1) := dkg_X12_79.2.2.2.2.2.2.2.2.1
theorem dX12_rule_32 : decode cX12_rule 32 = .ok (.invokevirtual 154, 3) := dkg_X12_79.2.2.2.2.2.2.2.2.2.1
theorem dkg_X12_80 : dkp cX12_rule [(35, .ireturn, 1), (36, .iload_n 3, 1), (37, .ifCond .ge 9, 3), (40, .aload_n 0, 1), (41, .iconst 5, 1), (42, .invokevirtual 154, 3), (45, .ireturn, 1), (46, .iload_n 2, 1), (47, .iconst 0, 1), (48, .iconst 5, 1)] := dkf (by decide +kernel)
theorem dX12_rule_35 : decode cX12_rule 35 = .ok (.ireturn, 1) := dkg_X12_80.1
theorem dX12_rule_36 : decode cX12_rule 36 = .ok (.iload_n 3, 1) := dkg_X12_80.2.1
theorem dX12_rule_37 : decode cX12_rule 37 = .ok (.ifCond .ge 9, 3) := dkg_X12_80.2.2.1
theorem dX12_rule_40 : decode cX12_rule 40 = .ok (.aload_n 0, 1) := dkg_X12_80.2.2.2.1
theorem dX12_rule_41 : decode cX12_rule 41 = .ok (.iconst 5, 1) := dkg_X12_80.2.2.2.2.1
theorem dX12_rule_42 : decode cX12_rule 42 = .ok (.invokevirtual 154, 3) := dkg_X12_80.2.2.2.2.2.1
theorem dX12_rule_45 : decode cX12_rule 45 = .ok (.ireturn, 1) := dkg_X12_80.2.2.2.2.2.2.1
theorem dX12_rule_46 : decode cX12_rule 46 = .ok (.iload_n 2, 1) := dkg_X12_80.2.2.2.2.2.2.2.1
theorem dX12_rule_47 : decode cX12_rule 47 = .ok (.iconst 0, 1) := dkg_X12_80.2.2.2.2.2.2.2.2.1
theorem dX12_rule_48 : decode cX12_rule 48 = .ok (.iconst 5, 1) := dkg_X12_80.2.2.2.2.2.2.2.2.2.1
theorem dkg_X12_81 : dkp cX12_rule [(49, .invokestatic 174, 3), (52, .ifCond .eq 50, 3), (55, .iload_n 3, 1), (56, .iconst 1, 1), (57, .bipush 8, 2), (59, .invokestatic 174, 3), (62, .ifCond .eq 40, 3), (65, .iload 4, 2), (67, .iload_n 3, 1), (68, .isub, 1)] := dkf (by decide +kernel)
theorem dX12_rule_49 : decode cX12_rule 49 = .ok (.invokestatic 174, 3) := dkg_X12_81.1
theorem dX12_rule_52 : decode cX12_rule 52 = .ok (.ifCond .eq 50, 3) := dkg_X12_81.2.1
theorem dX12_rule_55 : decode cX12_rule 55 = .ok (.iload_n 3, 1) := dkg_X12_81.2.2.1
theorem dX12_rule_56 : decode cX12_rule 56 = .ok (.iconst 1, 1) := dkg_X12_81.2.2.2.1
theorem dX12_rule_57 : decode cX12_rule 57 = .ok (.bipush 8, 2) := dkg_X12_81.2.2.2.2.1
theorem dX12_rule_59 : decode cX12_rule 59 = .ok (.invokestatic 174, 3) := dkg_X12_81.2.2.2.2.2.1
theorem dX12_rule_62 : decode cX12_rule 62 = .ok (.ifCond .eq 40, 3) := dkg_X12_81.2.2.2.2.2.2.1
theorem dX12_rule_65 : decode cX12_rule 65 = .ok (.iload 4, 2) := dkg_X12_81.2.2.2.2.2.2.2.1
theorem dX12_rule_67 : decode cX12_rule 67 = .ok (.iload_n 3, 1) := dkg_X12_81.2.2.2.2.2.2.2.2.1
theorem dX12_rule_68 : decode cX12_rule 68 = .ok (.isub, 1) := dkg_X12_81.2.2.2.2.2.2.2.2.2.1
theorem dkg_X12_82 : dkp cX12_rule [(69, .iconst 1, 1), (70, .iconst 4, 1), (71, .invokestatic 174, 3), (74, .ifCond .eq 28, 3), (77, .aload_n 0, 1), (78, .getfield 33, 3), (81, .iload_n 1, 1), (82, .iaload, 1), (83, .sipush 200, 3), (86, .if_icmp .eq 16, 3)] := dkf (by decide +kernel)
theorem dX12_rule_69 : decode cX12_rule 69 = .ok (.iconst 1, 1) := dkg_X12_82.1
theorem dX12_rule_70 : decode cX12_rule 70 = .ok (.iconst 4, 1) := dkg_X12_82.2.1
theorem dX12_rule_71 : decode cX12_rule 71 = .ok (.invokestatic 174, 3) := dkg_X12_82.2.2.1
theorem dX12_rule_74 : decode cX12_rule 74 = .ok (.ifCond .eq 28, 3) := dkg_X12_82.2.2.2.1
theorem dX12_rule_77 : decode cX12_rule 77 = .ok (.aload_n 0, 1) := dkg_X12_82.2.2.2.2.1
theorem dX12_rule_78 : decode cX12_rule 78 = .ok (.getfield 33, 3) := dkg_X12_82.2.2.2.2.2.1
theorem dX12_rule_81 : decode cX12_rule 81 = .ok (.iload_n 1, 1) := dkg_X12_82.2.2.2.2.2.2.1
theorem dX12_rule_82 : decode cX12_rule 82 = .ok (.iaload, 1) := dkg_X12_82.2.2.2.2.2.2.2.1
theorem dX12_rule_83 : decode cX12_rule 83 = .ok (.sipush 200, 3) := dkg_X12_82.2.2.2.2.2.2.2.2.1
theorem dX12_rule_86 : decode cX12_rule 86 = .ok (.if_icmp .eq 16, 3) := dkg_X12_82.2.2.2.2.2.2.2.2.2.1
theorem dkg_X12_83 : dkp cX12_rule [(89, .aload_n 0, 1), (90, .iload_n 1, 1), (91, .iload_n 3, 1), (92, .iload 4, 2), (94, .iload_n 3, 1), (95, .isub, 1), (96, .invokevirtual 196, 3), (99, .ifCond .ne 10, 3), (102, .aload_n 0, 1), (103, .bipush 6, 2)] := dkf (by decide +kernel)
theorem dX12_rule_89 : decode cX12_rule 89 = .ok (.aload_n 0, 1) := dkg_X12_83.1
theorem dX12_rule_90 : decode cX12_rule 90 = .ok (.iload_n 1, 1) := dkg_X12_83.2.1
theorem dX12_rule_91 : decode cX12_rule 91 = .ok (.iload_n 3, 1) := dkg_X12_83.2.2.1
theorem dX12_rule_92 : decode cX12_rule 92 = .ok (.iload 4, 2) := dkg_X12_83.2.2.2.1
theorem dX12_rule_94 : decode cX12_rule 94 = .ok (.iload_n 3, 1) := dkg_X12_83.2.2.2.2.1
theorem dX12_rule_95 : decode cX12_rule 95 = .ok (.isub, 1) := dkg_X12_83.2.2.2.2.2.1
theorem dX12_rule_96 : decode cX12_rule 96 = .ok (.invokevirtual 196, 3) := dkg_X12_83.2.2.2.2.2.2.1
theorem dX12_rule_99 : decode cX12_rule 99 = .ok (.ifCond .ne 10, 3) := dkg_X12_83.2.2.2.2.2.2.2.1
theorem dX12_rule_102 : decode cX12_rule 102 = .ok (.aload_n 0, 1) := dkg_X12_83.2.2.2.2.2.2.2.2.1
theorem dX12_rule_103 : decode cX12_rule 103 = .ok (.bipush 6, 2) := dkg_X12_83.2.2.2.2.2.2.2.2.2.1
theorem dkg_X12_84 : dkp cX12_rule [(105, .invokevirtual 154, 3), (108, .ireturn, 1), (109, .iconst 1, 1), (110, .istore 5, 2), (112, .iconst 0, 1), (113, .istore 6, 2), (115, .iload 6, 2), (117, .iload_n 3, 1), (118, .if_icmp .ge 34, 3), (121, .iload 5, 2)] := dkf (by decide +kernel)
theorem dX12_rule_105 : decode cX12_rule 105 = .ok (.invokevirtual 154, 3) := dkg_X12_84.1
theorem dX12_rule_108 : decode cX12_rule 108 = .ok (.ireturn, 1) := dkg_X12_84.2.1
theorem dX12_rule_109 : decode cX12_rule 109 = .ok (.iconst 1, 1) := dkg_X12_84.2.2.1
theorem dX12_rule_110 : decode cX12_rule 110 = .ok (.istore 5, 2) := dkg_X12_84.2.2.2.1
theorem dX12_rule_112 : decode cX12_rule 112 = .ok (.iconst 0, 1) := dkg_X12_84.2.2.2.2.1
theorem dX12_rule_113 : decode cX12_rule 113 = .ok (.istore 6, 2) := dkg_X12_84.2.2.2.2.2.1
theorem dX12_rule_115 : decode cX12_rule 115 = .ok (.iload 6, 2) := dkg_X12_84.2.2.2.2.2.2.1
theorem dX12_rule_117 : decode cX12_rule 117 = .ok (.iload_n 3, 1) := dkg_X12_84.2.2.2.2.2.2.2.1
theorem dX12_rule_118 : decode cX12_rule 118 = .ok (.if_icmp .ge 34, 3) := dkg_X12_84.2.2.2.2.2.2.2.2.1
theorem dX12_rule_121 : decode cX12_rule 121 = .ok (.iload 5, 2) := dkg_X12_84.2.2.2.2.2.2.2.2.2.1
theorem dkg_X12_85 : dkp cX12_rule [(123, .ifCond .eq 20, 3), (126, .aload_n 0, 1), (127, .getfield 13, 3), (130, .iload 6, 2), (132, .iaload, 1), (133, .invokestatic 199, 3), (136, .ifCond .eq 7, 3), (139, .iconst 1, 1), (140, .goto 4, 3), (143, .iconst 0, 1)] := dkf (by decide +kernel)
theorem dX12_rule_123 : decode cX12_rule 123 = .ok (.ifCond .eq 20, 3) := dkg_X12_85.1
theorem dX12_rule_126 : decode cX12_rule 126 = .ok (.aload_n 0, 1) := dkg_X12_85.2.1
theorem dX12_rule_127 : decode cX12_rule 127 = .ok (.getfield 13, 3) := dkg_X12_85.2.2.1
theorem dX12_rule_130 : decode cX12_rule 130 = .ok (.iload 6, 2) := dkg_X12_85.2.2.2.1
theorem dX12_rule_132 : decode cX12_rule 132 = .ok (.iaload, 1) := dkg_X12_85.2.2.2.2.1
theorem dX12_rule_133 : decode cX12_rule 133 = .ok (.invokestatic 199, 3) := dkg_X12_85.2.2.2.2.2.1
theorem dX12_rule_136 : decode cX12_rule 136 = .ok (.ifCond .eq 7, 3) := dkg_X12_85.2.2.2.2.2.2.1
theorem dX12_rule_139 : decode cX12_rule 139 = .ok (.iconst 1, 1) := dkg_X12_85.2.2.2.2.2.2.2.1
theorem dX12_rule_140 : decode cX12_rule 140 = .ok (.goto 4, 3) := dkg_X12_85.2.2.2.2.2.2.2.2.1
theorem dX12_rule_143 : decode cX12_rule 143 = .ok (.iconst 0, 1) := dkg_X12_85.2.2.2.2.2.2.2.2.2.1
theorem dkg_X12_86 : dkp cX12_rule [(144, .istore 5, 2), (146, .iinc 6 1, 3), (149, .goto (-34), 3), (152, .iload 5, 2), (154, .ifCond .ne 10, 3), (157, .aload_n 0, 1), (158, .bipush 6, 2), (160, .invokevirtual 154, 3), (163, .ireturn, 1), (164, .sipush 200, 3)] := dkf (by decide +kernel)
theorem dX12_rule_144 : decode cX12_rule 144 = .ok (.istore 5, 2) := dkg_X12_86.1
theorem dX12_rule_146 : decode cX12_rule 146 = .ok (.iinc 6 1, 3) := dkg_X12_86.2.1
theorem dX12_rule_149 : decode cX12_rule 149 = .ok (.goto (-34), 3) := dkg_X12_86.2.2.1
theorem dX12_rule_152 : decode cX12_rule 152 = .ok (.iload 5, 2) := dkg_X12_86.2.2.2.1
theorem dX12_rule_154 : decode cX12_rule 154 = .ok (.ifCond .ne 10, 3) := dkg_X12_86.2.2.2.2.1
theorem dX12_rule_157 : decode cX12_rule 157 = .ok (.aload_n 0, 1) := dkg_X12_86.2.2.2.2.2.1
theorem dX12_rule_158 : decode cX12_rule 158 = .ok (.bipush 6, 2) := dkg_X12_86.2.2.2.2.2.2.1
theorem dX12_rule_160 : decode cX12_rule 160 = .ok (.invokevirtual 154, 3) := dkg_X12_86.2.2.2.2.2.2.2.1
theorem dX12_rule_163 : decode cX12_rule 163 = .ok (.ireturn, 1) := dkg_X12_86.2.2.2.2.2.2.2.2.1
theorem dX12_rule_164 : decode cX12_rule 164 = .ok (.sipush 200, 3) := dkg_X12_86.2.2.2.2.2.2.2.2.2.1
theorem dkg_X12_87 : dkp cX12_rule [(167, .iload_n 1, 1), (168, .imul, 1), (169, .aload_n 0, 1), (170, .getfield 33, 3), (173, .iload_n 1, 1), (174, .iaload, 1), (175, .iadd, 1), (176, .istore 6, 2), (178, .aload_n 0, 1), (179, .getfield 36, 3)] := dkf (by decide +kernel)
theorem dX12_rule_167 : decode cX12_rule 167 = .ok (.iload_n 1, 1) := dkg_X12_87.1
theorem dX12_rule_168 : decode cX12_rule 168 = .ok (.imul, 1) := dkg_X12_87.2.1
theorem dX12_rule_169 : decode cX12_rule 169 = .ok (.aload_n 0, 1) := dkg_X12_87.2.2.1
theorem dX12_rule_170 : decode cX12_rule 170 = .ok (.getfield 33, 3) := dkg_X12_87.2.2.2.1
theorem dX12_rule_173 : decode cX12_rule 173 = .ok (.iload_n 1, 1) := dkg_X12_87.2.2.2.2.1
theorem dX12_rule_174 : decode cX12_rule 174 = .ok (.iaload, 1) := dkg_X12_87.2.2.2.2.2.1
theorem dX12_rule_175 : decode cX12_rule 175 = .ok (.iadd, 1) := dkg_X12_87.2.2.2.2.2.2.1
theorem dX12_rule_176 : decode cX12_rule 176 = .ok (.istore 6, 2) := dkg_X12_87.2.2.2.2.2.2.2.1
theorem dX12_rule_178 : decode cX12_rule 178 = .ok (.aload_n 0, 1) := dkg_X12_87.2.2.2.2.2.2.2.2.1
theorem dX12_rule_179 : decode cX12_rule 179 = .ok (.getfield 36, 3) := dkg_X12_87.2.2.2.2.2.2.2.2.2.1
theorem dkg_X12_88 : dkp cX12_rule [(182, .iload 6, 2), (184, .iload_n 2, 1), (185, .iastore, 1), (186, .aload_n 0, 1), (187, .getfield 39, 3), (190, .iload 6, 2), (192, .iload_n 3, 1), (193, .iastore, 1), (194, .aload_n 0, 1), (195, .getfield 42, 3)] := dkf (by decide +kernel)
theorem dX12_rule_182 : decode cX12_rule 182 = .ok (.iload 6, 2) := dkg_X12_88.1
theorem dX12_rule_184 : decode cX12_rule 184 = .ok (.iload_n 2, 1) := dkg_X12_88.2.1
theorem dX12_rule_185 : decode cX12_rule 185 = .ok (.iastore, 1) := dkg_X12_88.2.2.1
theorem dX12_rule_186 : decode cX12_rule 186 = .ok (.aload_n 0, 1) := dkg_X12_88.2.2.2.1
theorem dX12_rule_187 : decode cX12_rule 187 = .ok (.getfield 39, 3) := dkg_X12_88.2.2.2.2.1
theorem dX12_rule_190 : decode cX12_rule 190 = .ok (.iload 6, 2) := dkg_X12_88.2.2.2.2.2.1
theorem dX12_rule_192 : decode cX12_rule 192 = .ok (.iload_n 3, 1) := dkg_X12_88.2.2.2.2.2.2.1
theorem dX12_rule_193 : decode cX12_rule 193 = .ok (.iastore, 1) := dkg_X12_88.2.2.2.2.2.2.2.1
theorem dX12_rule_194 : decode cX12_rule 194 = .ok (.aload_n 0, 1) := dkg_X12_88.2.2.2.2.2.2.2.2.1
theorem dX12_rule_195 : decode cX12_rule 195 = .ok (.getfield 42, 3) := dkg_X12_88.2.2.2.2.2.2.2.2.2.1
theorem dkg_X12_89 : dkp cX12_rule [(198, .iload 6, 2), (200, .iload 4, 2), (202, .iload_n 3, 1), (203, .isub, 1), (204, .iastore, 1), (205, .iconst 0, 1), (206, .istore 7, 2), (208, .iload 7, 2), (210, .iload_n 3, 1), (211, .if_icmp .ge 29, 3)] := dkf (by decide +kernel)
theorem dX12_rule_198 : decode cX12_rule 198 = .ok (.iload 6, 2) := dkg_X12_89.1
theorem dX12_rule_200 : decode cX12_rule 200 = .ok (.iload 4, 2) := dkg_X12_89.2.1
theorem dX12_rule_202 : decode cX12_rule 202 = .ok (.iload_n 3, 1) := dkg_X12_89.2.2.1
theorem dX12_rule_203 : decode cX12_rule 203 = .ok (.isub, 1) := dkg_X12_89.2.2.2.1
theorem dX12_rule_204 : decode cX12_rule 204 = .ok (.iastore, 1) := dkg_X12_89.2.2.2.2.1
theorem dX12_rule_205 : decode cX12_rule 205 = .ok (.iconst 0, 1) := dkg_X12_89.2.2.2.2.2.1
theorem dX12_rule_206 : decode cX12_rule 206 = .ok (.istore 7, 2) := dkg_X12_89.2.2.2.2.2.2.1
theorem dX12_rule_208 : decode cX12_rule 208 = .ok (.iload 7, 2) := dkg_X12_89.2.2.2.2.2.2.2.1
theorem dX12_rule_210 : decode cX12_rule 210 = .ok (.iload_n 3, 1) := dkg_X12_89.2.2.2.2.2.2.2.2.1
theorem dX12_rule_211 : decode cX12_rule 211 = .ok (.if_icmp .ge 29, 3) := dkg_X12_89.2.2.2.2.2.2.2.2.2.1
theorem dkg_X12_90 : dkp cX12_rule [(214, .aload_n 0, 1), (215, .getfield 46, 3), (218, .bipush 8, 2), (220, .iload 6, 2), (222, .imul, 1), (223, .iload 7, 2), (225, .iadd, 1), (226, .aload_n 0, 1), (227, .getfield 13, 3), (230, .iload 7, 2)] := dkf (by decide +kernel)
theorem dX12_rule_214 : decode cX12_rule 214 = .ok (.aload_n 0, 1) := dkg_X12_90.1
theorem dX12_rule_215 : decode cX12_rule 215 = .ok (.getfield 46, 3) := dkg_X12_90.2.1
theorem dX12_rule_218 : decode cX12_rule 218 = .ok (.bipush 8, 2) := dkg_X12_90.2.2.1
theorem dX12_rule_220 : decode cX12_rule 220 = .ok (.iload 6, 2) := dkg_X12_90.2.2.2.1
theorem dX12_rule_222 : decode cX12_rule 222 = .ok (.imul, 1) := dkg_X12_90.2.2.2.2.1
theorem dX12_rule_223 : decode cX12_rule 223 = .ok (.iload 7, 2) := dkg_X12_90.2.2.2.2.2.1
theorem dX12_rule_225 : decode cX12_rule 225 = .ok (.iadd, 1) := dkg_X12_90.2.2.2.2.2.2.1
theorem dX12_rule_226 : decode cX12_rule 226 = .ok (.aload_n 0, 1) := dkg_X12_90.2.2.2.2.2.2.2.1
theorem dX12_rule_227 : decode cX12_rule 227 = .ok (.getfield 13, 3) := dkg_X12_90.2.2.2.2.2.2.2.2.1
theorem dX12_rule_230 : decode cX12_rule 230 = .ok (.iload 7, 2) := dkg_X12_90.2.2.2.2.2.2.2.2.2.1
theorem dkg_X12_91 : dkp cX12_rule [(232, .iaload, 1), (233, .iastore, 1), (234, .iinc 7 1, 3), (237, .goto (-29), 3), (240, .iload_n 3, 1), (241, .istore 7, 2), (243, .iload 7, 2), (245, .iload 4, 2), (247, .if_icmp .ge 30, 3), (250, .aload_n 0, 1)] := dkf (by decide +kernel)
theorem dX12_rule_232 : decode cX12_rule 232 = .ok (.iaload, 1) := dkg_X12_91.1
theorem dX12_rule_233 : decode cX12_rule 233 = .ok (.iastore, 1) := dkg_X12_91.2.1
theorem dX12_rule_234 : decode cX12_rule 234 = .ok (.iinc 7 1, 3) := dkg_X12_91.2.2.1
theorem dX12_rule_237 : decode cX12_rule 237 = .ok (.goto (-29), 3) := dkg_X12_91.2.2.2.1
theorem dX12_rule_240 : decode cX12_rule 240 = .ok (.iload_n 3, 1) := dkg_X12_91.2.2.2.2.1
theorem dX12_rule_241 : decode cX12_rule 241 = .ok (.istore 7, 2) := dkg_X12_91.2.2.2.2.2.1
theorem dX12_rule_243 : decode cX12_rule 243 = .ok (.iload 7, 2) := dkg_X12_91.2.2.2.2.2.2.1
theorem dX12_rule_245 : decode cX12_rule 245 = .ok (.iload 4, 2) := dkg_X12_91.2.2.2.2.2.2.2.1
theorem dX12_rule_247 : decode cX12_rule 247 = .ok (.if_icmp .ge 30, 3) := dkg_X12_91.2.2.2.2.2.2.2.2.1
theorem dX12_rule_250 : decode cX12_rule 250 = .ok (.aload_n 0, 1) := dkg_X12_91.2.2.2.2.2.2.2.2.2.1
theorem dkg_X12_92 : dkp cX12_rule [(251, .getfield 49, 3), (254, .iconst 4, 1), (255, .iload 6, 2), (257, .imul, 1), (258, .iload 7, 2), (260, .iadd, 1), (261, .iload_n 3, 1), (262, .isub, 1), (263, .aload_n 0, 1), (264, .getfield 13, 3)] := dkf (by decide +kernel)
theorem dX12_rule_251 : decode cX12_rule 251 = .ok (.getfield 49, 3) := dkg_X12_92.1
theorem dX12_rule_254 : decode cX12_rule 254 = .ok (.iconst 4, 1) := dkg_X12_92.2.1
theorem dX12_rule_255 : decode cX12_rule 255 = .ok (.iload 6, 2) := dkg_X12_92.2.2.1
theorem dX12_rule_257 : decode cX12_rule 257 = .ok (.imul, 1) := dkg_X12_92.2.2.2.1
theorem dX12_rule_258 : decode cX12_rule 258 = .ok (.iload 7, 2) := dkg_X12_92.2.2.2.2.1
theorem dX12_rule_260 : decode cX12_rule 260 = .ok (.iadd, 1) := dkg_X12_92.2.2.2.2.2.1
theorem dX12_rule_261 : decode cX12_rule 261 = .ok (.iload_n 3, 1) := dkg_X12_92.2.2.2.2.2.2.1
theorem dX12_rule_262 : decode cX12_rule 262 = .ok (.isub, 1) := dkg_X12_92.2.2.2.2.2.2.2.1
theorem dX12_rule_263 : decode cX12_rule 263 = .ok (.aload_n 0, 1) := dkg_X12_92.2.2.2.2.2.2.2.2.1
theorem dX12_rule_264 : decode cX12_rule 264 = .ok (.getfield 13, 3) := dkg_X12_92.2.2.2.2.2.2.2.2.2.1
theorem dkg_X12_93 : dkp cX12_rule [(267, .iload 7, 2), (269, .iaload, 1), (270, .iastore, 1), (271, .iinc 7 1, 3), (274, .goto (-31), 3), (277, .aload_n 0, 1), (278, .getfield 33, 3), (281, .iload_n 1, 1), (282, .dup2, 1), (283, .iaload, 1)] := dkf (by decide +kernel)
theorem dX12_rule_267 : decode cX12_rule 267 = .ok (.iload 7, 2) := dkg_X12_93.1
theorem dX12_rule_269 : decode cX12_rule 269 = .ok (.iaload, 1) := dkg_X12_93.2.1
theorem dX12_rule_270 : decode cX12_rule 270 = .ok (.iastore, 1) := dkg_X12_93.2.2.1
theorem dX12_rule_271 : decode cX12_rule 271 = .ok (.iinc 7 1, 3) := dkg_X12_93.2.2.2.1
theorem dX12_rule_274 : decode cX12_rule 274 = .ok (.goto (-31), 3) := dkg_X12_93.2.2.2.2.1
theorem dX12_rule_277 : decode cX12_rule 277 = .ok (.aload_n 0, 1) := dkg_X12_93.2.2.2.2.2.1
theorem dX12_rule_278 : decode cX12_rule 278 = .ok (.getfield 33, 3) := dkg_X12_93.2.2.2.2.2.2.1
theorem dX12_rule_281 : decode cX12_rule 281 = .ok (.iload_n 1, 1) := dkg_X12_93.2.2.2.2.2.2.2.1
theorem dX12_rule_282 : decode cX12_rule 282 = .ok (.dup2, 1) := dkg_X12_93.2.2.2.2.2.2.2.2.1
theorem dX12_rule_283 : decode cX12_rule 283 = .ok (.iaload, 1) := dkg_X12_93.2.2.2.2.2.2.2.2.2.1
theorem dkg_X12_94 : dkp cX12_rule [(284, .iconst 1, 1), (285, .iadd, 1), (286, .iastore, 1), (287, .aload_n 0, 1), (288, .iconst 2, 1), (289, .iload_n 1, 1), (290, .iconst 0, 1), (291, .iconst 0, 1), (292, .invokevirtual 182, 3), (295, .aload_n 0, 1)] := dkf (by decide +kernel)
theorem dX12_rule_284 : decode cX12_rule 284 = .ok (.iconst 1, 1) := dkg_X12_94.1
theorem dX12_rule_285 : decode cX12_rule 285 = .ok (.iadd, 1) := dkg_X12_94.2.1
theorem dX12_rule_286 : decode cX12_rule 286 = .ok (.iastore, 1) := dkg_X12_94.2.2.1
theorem dX12_rule_287 : decode cX12_rule 287 = .ok (.aload_n 0, 1) := dkg_X12_94.2.2.2.1
theorem dX12_rule_288 : decode cX12_rule 288 = .ok (.iconst 2, 1) := dkg_X12_94.2.2.2.2.1
theorem dX12_rule_289 : decode cX12_rule 289 = .ok (.iload_n 1, 1) := dkg_X12_94.2.2.2.2.2.1
theorem dX12_rule_290 : decode cX12_rule 290 = .ok (.iconst 0, 1) := dkg_X12_94.2.2.2.2.2.2.1
theorem dX12_rule_291 : decode cX12_rule 291 = .ok (.iconst 0, 1) := dkg_X12_94.2.2.2.2.2.2.2.1
theorem dX12_rule_292 : decode cX12_rule 292 = .ok (.invokevirtual 182, 3) := dkg_X12_94.2.2.2.2.2.2.2.2.1
theorem dX12_rule_295 : decode cX12_rule 295 = .ok (.aload_n 0, 1) := dkg_X12_94.2.2.2.2.2.2.2.2.2.1
theorem dkg_X12_95 : dkp cX12_rule [(296, .aload_n 0, 1), (297, .getfield 33, 3), (300, .iload_n 1, 1), (301, .iaload, 1), (302, .iconst 1, 1), (303, .isub, 1), (304, .invokevirtual 158, 3), (307, .ireturn, 1)] := dkf (by decide +kernel)
theorem dX12_rule_296 : decode cX12_rule 296 = .ok (.aload_n 0, 1) := dkg_X12_95.1
theorem dX12_rule_297 : decode cX12_rule 297 = .ok (.getfield 33, 3) := dkg_X12_95.2.1
theorem dX12_rule_300 : decode cX12_rule 300 = .ok (.iload_n 1, 1) := dkg_X12_95.2.2.1
theorem dX12_rule_301 : decode cX12_rule 301 = .ok (.iaload, 1) := dkg_X12_95.2.2.2.1
theorem dX12_rule_302 : decode cX12_rule 302 = .ok (.iconst 1, 1) := dkg_X12_95.2.2.2.2.1
theorem dX12_rule_303 : decode cX12_rule 303 = .ok (.isub, 1) := dkg_X12_95.2.2.2.2.2.1
theorem dX12_rule_304 : decode cX12_rule 304 = .ok (.invokevirtual 158, 3) := dkg_X12_95.2.2.2.2.2.2.1
theorem dX12_rule_307 : decode cX12_rule 307 = .ok (.ireturn, 1) := dkg_X12_95.2.2.2.2.2.2.2.1
theorem dkg_X12_96 : dkp cX12_condition [(0, .aload_n 0, 1), (1, .iload_n 1, 1), (2, .invokevirtual 167, 3), (5, .ifCond .ne 9, 3), (8, .aload_n 0, 1), (9, .iconst 3, 1), (10, .invokevirtual 154, 3), (13, .ireturn, 1), (14, .aload_n 0, 1), (15, .getfield 21, 3)] := dkf (by decide +kernel)
theorem dX12_condition_0 : decode cX12_condition 0 = .ok (.aload_n 0, 1) := dkg_X12_96.1
theorem dX12_condition_1 : decode cX12_condition 1 = .ok (.iload_n 1, 1) := dkg_X12_96.2.1
theorem dX12_condition_2 : decode cX12_condition 2 = .ok (.invokevirtual 167, 3) := dkg_X12_96.2.2.1
theorem dX12_condition_5 : decode cX12_condition 5 = .ok (.ifCond .ne 9, 3) := dkg_X12_96.2.2.2.1
theorem dX12_condition_8 : decode cX12_condition 8 = .ok (.aload_n 0, 1) := dkg_X12_96.2.2.2.2.1
theorem dX12_condition_9 : decode cX12_condition 9 = .ok (.iconst 3, 1) := dkg_X12_96.2.2.2.2.2.1
theorem dX12_condition_10 : decode cX12_condition 10 = .ok (.invokevirtual 154, 3) := dkg_X12_96.2.2.2.2.2.2.1
theorem dX12_condition_13 : decode cX12_condition 13 = .ok (.ireturn, 1) := dkg_X12_96.2.2.2.2.2.2.2.1
theorem dX12_condition_14 : decode cX12_condition 14 = .ok (.aload_n 0, 1) := dkg_X12_96.2.2.2.2.2.2.2.2.1
theorem dX12_condition_15 : decode cX12_condition 15 = .ok (.getfield 21, 3) := dkg_X12_96.2.2.2.2.2.2.2.2.2.1
theorem dkg_X12_97 : dkp cX12_condition [(18, .iload_n 1, 1), (19, .iaload, 1), (20, .iconst 5, 1), (21, .if_icmp .ne 9, 3), (24, .aload_n 0, 1), (25, .iconst 4, 1), (26, .invokevirtual 154, 3), (29, .ireturn, 1), (30, .iload_n 2, 1), (31, .iconst 0, 1)] := dkf (by decide +kernel)
theorem dX12_condition_18 : decode cX12_condition 18 = .ok (.iload_n 1, 1) := dkg_X12_97.1
theorem dX12_condition_19 : decode cX12_condition 19 = .ok (.iaload, 1) := dkg_X12_97.2.1
theorem dX12_condition_20 : decode cX12_condition 20 = .ok (.iconst 5, 1) := dkg_X12_97.2.2.1
theorem dX12_condition_21 : decode cX12_condition 21 = .ok (.if_icmp .ne 9, 3) := dkg_X12_97.2.2.2.1
theorem dX12_condition_24 : decode cX12_condition 24 = .ok (.aload_n 0, 1) := dkg_X12_97.2.2.2.2.1
theorem dX12_condition_25 : decode cX12_condition 25 = .ok (.iconst 4, 1) := dkg_X12_97.2.2.2.2.2.1
theorem dX12_condition_26 : decode cX12_condition 26 = .ok (.invokevirtual 154, 3) := dkg_X12_97.2.2.2.2.2.2.1
theorem dX12_condition_29 : decode cX12_condition 29 = .ok (.ireturn, 1) := dkg_X12_97.2.2.2.2.2.2.2.1
theorem dX12_condition_30 : decode cX12_condition 30 = .ok (.iload_n 2, 1) := dkg_X12_97.2.2.2.2.2.2.2.2.1
theorem dX12_condition_31 : decode cX12_condition 31 = .ok (.iconst 0, 1) := dkg_X12_97.2.2.2.2.2.2.2.2.2.1
theorem dkg_X12_98 : dkp cX12_condition [(32, .aload_n 0, 1), (33, .getfield 33, 3), (36, .iload_n 1, 1), (37, .iaload, 1), (38, .iconst 1, 1), (39, .isub, 1), (40, .invokestatic 174, 3), (43, .ifCond .ne 9, 3), (46, .aload_n 0, 1), (47, .iconst 2, 1)] := dkf (by decide +kernel)
theorem dX12_condition_32 : decode cX12_condition 32 = .ok (.aload_n 0, 1) := dkg_X12_98.1
theorem dX12_condition_33 : decode cX12_condition 33 = .ok (.getfield 33, 3) := dkg_X12_98.2.1
theorem dX12_condition_36 : decode cX12_condition 36 = .ok (.iload_n 1, 1) := dkg_X12_98.2.2.1
theorem dX12_condition_37 : decode cX12_condition 37 = .ok (.iaload, 1) := dkg_X12_98.2.2.2.1
theorem dX12_condition_38 : decode cX12_condition 38 = .ok (.iconst 1, 1) := dkg_X12_98.2.2.2.2.1
theorem dX12_condition_39 : decode cX12_condition 39 = .ok (.isub, 1) := dkg_X12_98.2.2.2.2.2.1
theorem dX12_condition_40 : decode cX12_condition 40 = .ok (.invokestatic 174, 3) := dkg_X12_98.2.2.2.2.2.2.1
theorem dX12_condition_43 : decode cX12_condition 43 = .ok (.ifCond .ne 9, 3) := dkg_X12_98.2.2.2.2.2.2.2.1
theorem dX12_condition_46 : decode cX12_condition 46 = .ok (.aload_n 0, 1) := dkg_X12_98.2.2.2.2.2.2.2.2.1
theorem dX12_condition_47 : decode cX12_condition 47 = .ok (.iconst 2, 1) := dkg_X12_98.2.2.2.2.2.2.2.2.2.1
theorem dkg_X12_99 : dkp cX12_condition [(48, .invokevirtual 154, 3), (51, .ireturn, 1), (52, .iload_n 3, 1), (53, .iconst 0, 1), (54, .iconst 5, 1), (55, .invokestatic 174, 3), (58, .ifCond .ne 10, 3), (61, .aload_n 0, 1), (62, .bipush 6, 2), (64, .invokevirtual 154, 3)] := dkf (by decide +kernel)
theorem dX12_condition_48 : decode cX12_condition 48 = .ok (.invokevirtual 154, 3) := dkg_X12_99.1
theorem dX12_condition_51 : decode cX12_condition 51 = .ok (.ireturn, 1) := dkg_X12_99.2.1
theorem dX12_condition_52 : decode cX12_condition 52 = .ok (.iload_n 3, 1) := dkg_X12_99.2.2.1
theorem dX12_condition_53 : decode cX12_condition 53 = .ok (.iconst 0, 1) := dkg_X12_99.2.2.2.1
theorem dX12_condition_54 : decode cX12_condition 54 = .ok (.iconst 5, 1) := dkg_X12_99.2.2.2.2.1
theorem dX12_condition_55 : decode cX12_condition 55 = .ok (.invokestatic 174, 3) := dkg_X12_99.2.2.2.2.2.1
theorem dX12_condition_58 : decode cX12_condition 58 = .ok (.ifCond .ne 10, 3) := dkg_X12_99.2.2.2.2.2.2.1
theorem dX12_condition_61 : decode cX12_condition 61 = .ok (.aload_n 0, 1) := dkg_X12_99.2.2.2.2.2.2.2.1
theorem dX12_condition_62 : decode cX12_condition 62 = .ok (.bipush 6, 2) := dkg_X12_99.2.2.2.2.2.2.2.2.1
theorem dX12_condition_64 : decode cX12_condition 64 = .ok (.invokevirtual 154, 3) := dkg_X12_99.2.2.2.2.2.2.2.2.2.1
theorem dkg_X12_100 : dkp cX12_condition [(67, .ireturn, 1), (68, .aload_n 0, 1), (69, .getfield 36, 3), (72, .sipush 200, 3), (75, .iload_n 1, 1), (76, .imul, 1), (77, .iload_n 2, 1), (78, .iadd, 1), (79, .iaload, 1), (80, .istore 4, 2)] := dkf (by decide +kernel)
theorem dX12_condition_67 : decode cX12_condition 67 = .ok (.ireturn, 1) := dkg_X12_100.1
theorem dX12_condition_68 : decode cX12_condition 68 = .ok (.aload_n 0, 1) := dkg_X12_100.2.1
theorem dX12_condition_69 : decode cX12_condition 69 = .ok (.getfield 36, 3) := dkg_X12_100.2.2.1
theorem dX12_condition_72 : decode cX12_condition 72 = .ok (.sipush 200, 3) := dkg_X12_100.2.2.2.1
theorem dX12_condition_75 : decode cX12_condition 75 = .ok (.iload_n 1, 1) := dkg_X12_100.2.2.2.2.1
theorem dX12_condition_76 : decode cX12_condition 76 = .ok (.imul, 1) := dkg_X12_100.2.2.2.2.2.1
theorem dX12_condition_77 : decode cX12_condition 77 = .ok (.iload_n 2, 1) := dkg_X12_100.2.2.2.2.2.2.1
theorem dX12_condition_78 : decode cX12_condition 78 = .ok (.iadd, 1) := dkg_X12_100.2.2.2.2.2.2.2.1
theorem dX12_condition_79 : decode cX12_condition 79 = .ok (.iaload, 1) := dkg_X12_100.2.2.2.2.2.2.2.2.1
theorem dX12_condition_80 : decode cX12_condition 80 = .ok (.istore 4, 2) := dkg_X12_100.2.2.2.2.2.2.2.2.2.1
theorem dkg_X12_101 : dkp cX12_condition [(82, .aload_n 0, 1), (83, .getfield 36, 3), (86, .sipush 200, 3), (89, .iload_n 1, 1), (90, .imul, 1), (91, .iload_n 2, 1), (92, .iadd, 1), (93, .iload_n 3, 1), (94, .iastore, 1), (95, .aload_n 0, 1)] := dkf (by decide +kernel)
theorem dX12_condition_82 : decode cX12_condition 82 = .ok (.aload_n 0, 1) := dkg_X12_101.1
theorem dX12_condition_83 : decode cX12_condition 83 = .ok (.getfield 36, 3) := dkg_X12_101.2.1
theorem dX12_condition_86 : decode cX12_condition 86 = .ok (.sipush 200, 3) := dkg_X12_101.2.2.1
theorem dX12_condition_89 : decode cX12_condition 89 = .ok (.iload_n 1, 1) := dkg_X12_101.2.2.2.1
theorem dX12_condition_90 : decode cX12_condition 90 = .ok (.imul, 1) := dkg_X12_101.2.2.2.2.1
theorem dX12_condition_91 : decode cX12_condition 91 = .ok (.iload_n 2, 1) := dkg_X12_101.2.2.2.2.2.1
theorem dX12_condition_92 : decode cX12_condition 92 = .ok (.iadd, 1) := dkg_X12_101.2.2.2.2.2.2.1
theorem dX12_condition_93 : decode cX12_condition 93 = .ok (.iload_n 3, 1) := dkg_X12_101.2.2.2.2.2.2.2.1
theorem dX12_condition_94 : decode cX12_condition 94 = .ok (.iastore, 1) := dkg_X12_101.2.2.2.2.2.2.2.2.1
theorem dX12_condition_95 : decode cX12_condition 95 = .ok (.aload_n 0, 1) := dkg_X12_101.2.2.2.2.2.2.2.2.2.1
theorem dkg_X12_102 : dkp cX12_condition [(96, .iconst 3, 1), (97, .iload_n 1, 1), (98, .iload_n 2, 1), (99, .iload 4, 2), (101, .invokevirtual 182, 3), (104, .aload_n 0, 1), (105, .iload 4, 2), (107, .invokevirtual 158, 3), (110, .ireturn, 1)] := dkf (by decide +kernel)
theorem dX12_condition_96 : decode cX12_condition 96 = .ok (.iconst 3, 1) := dkg_X12_102.1
theorem dX12_condition_97 : decode cX12_condition 97 = .ok (.iload_n 1, 1) := dkg_X12_102.2.1
theorem dX12_condition_98 : decode cX12_condition 98 = .ok (.iload_n 2, 1) := dkg_X12_102.2.2.1
theorem dX12_condition_99 : decode cX12_condition 99 = .ok (.iload 4, 2) := dkg_X12_102.2.2.2.1
theorem dX12_condition_101 : decode cX12_condition 101 = .ok (.invokevirtual 182, 3) := dkg_X12_102.2.2.2.2.1
theorem dX12_condition_104 : decode cX12_condition 104 = .ok (.aload_n 0, 1) := dkg_X12_102.2.2.2.2.2.1
theorem dX12_condition_105 : decode cX12_condition 105 = .ok (.iload 4, 2) := dkg_X12_102.2.2.2.2.2.2.1
theorem dX12_condition_107 : decode cX12_condition 107 = .ok (.invokevirtual 158, 3) := dkg_X12_102.2.2.2.2.2.2.2.1
theorem dX12_condition_110 : decode cX12_condition 110 = .ok (.ireturn, 1) := dkg_X12_102.2.2.2.2.2.2.2.2.1
theorem dkg_X12_103 : dkp cX12_indicator [(0, .aload_n 0, 1), (1, .invokevirtual 192, 3), (4, .istore_n 3, 1), (5, .iload_n 2, 1), (6, .iconst 0, 1), (7, .iconst 3, 1), (8, .invokestatic 174, 3), (11, .ifCond .ne 10, 3), (14, .aload_n 0, 1), (15, .bipush 6, 2)] := dkf (by decide +kernel)
theorem dX12_indicator_0 : decode cX12_indicator 0 = .ok (.aload_n 0, 1) := dkg_X12_103.1
theorem dX12_indicator_1 : decode cX12_indicator 1 = .ok (.invokevirtual 192, 3) := dkg_X12_103.2.1
theorem dX12_indicator_4 : decode cX12_indicator 4 = .ok (.istore_n 3, 1) := dkg_X12_103.2.2.1
theorem dX12_indicator_5 : decode cX12_indicator 5 = .ok (.iload_n 2, 1) := dkg_X12_103.2.2.2.1
theorem dX12_indicator_6 : decode cX12_indicator 6 = .ok (.iconst 0, 1) := dkg_X12_103.2.2.2.2.1
theorem dX12_indicator_7 : decode cX12_indicator 7 = .ok (.iconst 3, 1) := dkg_X12_103.2.2.2.2.2.1
theorem dX12_indicator_8 : decode cX12_indicator 8 = .ok (.invokestatic 174, 3) := dkg_X12_103.2.2.2.2.2.2.1
theorem dX12_indicator_11 : decode cX12_indicator 11 = .ok (.ifCond .ne 10, 3) := dkg_X12_103.2.2.2.2.2.2.2.1
theorem dX12_indicator_14 : decode cX12_indicator 14 = .ok (.aload_n 0, 1) := dkg_X12_103.2.2.2.2.2.2.2.2.1
theorem dX12_indicator_15 : decode cX12_indicator 15 = .ok (.bipush 6, 2) := dkg_X12_103.2.2.2.2.2.2.2.2.2.1
theorem dkg_X12_104 : dkp cX12_indicator [(17, .invokevirtual 154, 3), (20, .ireturn, 1), (21, .aload_n 0, 1), (22, .iload_n 1, 1), (23, .invokevirtual 167, 3), (26, .ifCond .ne 9, 3), (29, .aload_n 0, 1), (30, .iconst 3, 1), (31, .invokevirtual 154, 3), (34, .ireturn, 1)] := dkf (by decide +kernel)
theorem dX12_indicator_17 : decode cX12_indicator 17 = .ok (.invokevirtual 154, 3) := dkg_X12_104.1
theorem dX12_indicator_20 : decode cX12_indicator 20 = .ok (.ireturn, 1) := dkg_X12_104.2.1
theorem dX12_indicator_21 : decode cX12_indicator 21 = .ok (.aload_n 0, 1) := dkg_X12_104.2.2.1
theorem dX12_indicator_22 : decode cX12_indicator 22 = .ok (.iload_n 1, 1) := dkg_X12_104.2.2.2.1
theorem dX12_indicator_23 : decode cX12_indicator 23 = .ok (.invokevirtual 167, 3) := dkg_X12_104.2.2.2.2.1
theorem dX12_indicator_26 : decode cX12_indicator 26 = .ok (.ifCond .ne 9, 3) := dkg_X12_104.2.2.2.2.2.1
theorem dX12_indicator_29 : decode cX12_indicator 29 = .ok (.aload_n 0, 1) := dkg_X12_104.2.2.2.2.2.2.1
theorem dX12_indicator_30 : decode cX12_indicator 30 = .ok (.iconst 3, 1) := dkg_X12_104.2.2.2.2.2.2.2.1
theorem dX12_indicator_31 : decode cX12_indicator 31 = .ok (.invokevirtual 154, 3) := dkg_X12_104.2.2.2.2.2.2.2.2.1
theorem dX12_indicator_34 : decode cX12_indicator 34 = .ok (.ireturn, 1) := dkg_X12_104.2.2.2.2.2.2.2.2.2.1
theorem dkg_X12_105 : dkp cX12_indicator [(35, .iload_n 2, 1), (36, .ifCond .ne 21, 3), (39, .aload_n 0, 1), (40, .getfield 21, 3), (43, .iload_n 1, 1), (44, .iaload, 1), (45, .iconst 2, 1), (46, .if_icmp .gt 7, 3), (49, .iconst 1, 1), (50, .goto 45, 3)] := dkf (by decide +kernel)
theorem dX12_indicator_35 : decode cX12_indicator 35 = .ok (.iload_n 2, 1) := dkg_X12_105.1
theorem dX12_indicator_36 : decode cX12_indicator 36 = .ok (.ifCond .ne 21, 3) := dkg_X12_105.2.1
theorem dX12_indicator_39 : decode cX12_indicator 39 = .ok (.aload_n 0, 1) := dkg_X12_105.2.2.1
theorem dX12_indicator_40 : decode cX12_indicator 40 = .ok (.getfield 21, 3) := dkg_X12_105.2.2.2.1
theorem dX12_indicator_43 : decode cX12_indicator 43 = .ok (.iload_n 1, 1) := dkg_X12_105.2.2.2.2.1
theorem dX12_indicator_44 : decode cX12_indicator 44 = .ok (.iaload, 1) := dkg_X12_105.2.2.2.2.2.1
theorem dX12_indicator_45 : decode cX12_indicator 45 = .ok (.iconst 2, 1) := dkg_X12_105.2.2.2.2.2.2.1
theorem dX12_indicator_46 : decode cX12_indicator 46 = .ok (.if_icmp .gt 7, 3) := dkg_X12_105.2.2.2.2.2.2.2.1
theorem dX12_indicator_49 : decode cX12_indicator 49 = .ok (.iconst 1, 1) := dkg_X12_105.2.2.2.2.2.2.2.2.1
theorem dX12_indicator_50 : decode cX12_indicator 50 = .ok (.goto 45, 3) := dkg_X12_105.2.2.2.2.2.2.2.2.2.1
theorem dkg_X12_106 : dkp cX12_indicator [(53, .iconst 0, 1), (54, .goto 41, 3), (57, .iload_n 2, 1), (58, .iconst 1, 1), (59, .if_icmp .ne 21, 3), (62, .aload_n 0, 1), (63, .getfield 21, 3), (66, .iload_n 1, 1), (67, .iaload, 1), (68, .iconst 2, 1)] := dkf (by decide +kernel)
theorem dX12_indicator_53 : decode cX12_indicator 53 = .ok (.iconst 0, 1) := dkg_X12_106.1
theorem dX12_indicator_54 : decode cX12_indicator 54 = .ok (.goto 41, 3) := dkg_X12_106.2.1
theorem dX12_indicator_57 : decode cX12_indicator 57 = .ok (.iload_n 2, 1) := dkg_X12_106.2.2.1
theorem dX12_indicator_58 : decode cX12_indicator 58 = .ok (.iconst 1, 1) := dkg_X12_106.2.2.2.1
theorem dX12_indicator_59 : decode cX12_indicator 59 = .ok (.if_icmp .ne 21, 3) := dkg_X12_106.2.2.2.2.1
theorem dX12_indicator_62 : decode cX12_indicator 62 = .ok (.aload_n 0, 1) := dkg_X12_106.2.2.2.2.2.1
theorem dX12_indicator_63 : decode cX12_indicator 63 = .ok (.getfield 21, 3) := dkg_X12_106.2.2.2.2.2.2.1
theorem dX12_indicator_66 : decode cX12_indicator 66 = .ok (.iload_n 1, 1) := dkg_X12_106.2.2.2.2.2.2.2.1
theorem dX12_indicator_67 : decode cX12_indicator 67 = .ok (.iaload, 1) := dkg_X12_106.2.2.2.2.2.2.2.2.1
theorem dX12_indicator_68 : decode cX12_indicator 68 = .ok (.iconst 2, 1) := dkg_X12_106.2.2.2.2.2.2.2.2.2.1
theorem dkg_X12_107 : dkp cX12_indicator [(69, .if_icmp .ne 7, 3), (72, .iconst 1, 1), (73, .goto 22, 3), (76, .iconst 0, 1), (77, .goto 18, 3), (80, .aload_n 0, 1), (81, .getfield 21, 3), (84, .iload_n 1, 1), (85, .iaload, 1), (86, .iconst 5, 1)] := dkf (by decide +kernel)
theorem dX12_indicator_69 : decode cX12_indicator 69 = .ok (.if_icmp .ne 7, 3) := dkg_X12_107.1
theorem dX12_indicator_72 : decode cX12_indicator 72 = .ok (.iconst 1, 1) := dkg_X12_107.2.1
theorem dX12_indicator_73 : decode cX12_indicator 73 = .ok (.goto 22, 3) := dkg_X12_107.2.2.1
theorem dX12_indicator_76 : decode cX12_indicator 76 = .ok (.iconst 0, 1) := dkg_X12_107.2.2.2.1
theorem dX12_indicator_77 : decode cX12_indicator 77 = .ok (.goto 18, 3) := dkg_X12_107.2.2.2.2.1
theorem dX12_indicator_80 : decode cX12_indicator 80 = .ok (.aload_n 0, 1) := dkg_X12_107.2.2.2.2.2.1
theorem dX12_indicator_81 : decode cX12_indicator 81 = .ok (.getfield 21, 3) := dkg_X12_107.2.2.2.2.2.2.1
theorem dX12_indicator_84 : decode cX12_indicator 84 = .ok (.iload_n 1, 1) := dkg_X12_107.2.2.2.2.2.2.2.1
theorem dX12_indicator_85 : decode cX12_indicator 85 = .ok (.iaload, 1) := dkg_X12_107.2.2.2.2.2.2.2.2.1
theorem dX12_indicator_86 : decode cX12_indicator 86 = .ok (.iconst 5, 1) := dkg_X12_107.2.2.2.2.2.2.2.2.2.1
theorem dkg_X12_108 : dkp cX12_indicator [(87, .if_icmp .ne 7, 3), (90, .iconst 1, 1), (91, .goto 4, 3), (94, .iconst 0, 1), (95, .istore 4, 2), (97, .iload 4, 2), (99, .ifCond .ne 9, 3), (102, .aload_n 0, 1), (103, .iconst 4, 1), (104, .invokevirtual 154, 3)] := dkf (by decide +kernel)
theorem dX12_indicator_87 : decode cX12_indicator 87 = .ok (.if_icmp .ne 7, 3) := dkg_X12_108.1
theorem dX12_indicator_90 : decode cX12_indicator 90 = .ok (.iconst 1, 1) := dkg_X12_108.2.1
theorem dX12_indicator_91 : decode cX12_indicator 91 = .ok (.goto 4, 3) := dkg_X12_108.2.2.1
theorem dX12_indicator_94 : decode cX12_indicator 94 = .ok (.iconst 0, 1) := dkg_X12_108.2.2.2.1
theorem dX12_indicator_95 : decode cX12_indicator 95 = .ok (.istore 4, 2) := dkg_X12_108.2.2.2.2.1
theorem dX12_indicator_97 : decode cX12_indicator 97 = .ok (.iload 4, 2) := dkg_X12_108.2.2.2.2.2.1
theorem dX12_indicator_99 : decode cX12_indicator 99 = .ok (.ifCond .ne 9, 3) := dkg_X12_108.2.2.2.2.2.2.1
theorem dX12_indicator_102 : decode cX12_indicator 102 = .ok (.aload_n 0, 1) := dkg_X12_108.2.2.2.2.2.2.2.1
theorem dX12_indicator_103 : decode cX12_indicator 103 = .ok (.iconst 4, 1) := dkg_X12_108.2.2.2.2.2.2.2.2.1
theorem dX12_indicator_104 : decode cX12_indicator 104 = .ok (.invokevirtual 154, 3) := dkg_X12_108.2.2.2.2.2.2.2.2.2.1
theorem dkg_X12_109 : dkp cX12_indicator [(107, .ireturn, 1), (108, .iload_n 3, 1), (109, .iconst 4, 1), (110, .if_icmp .gt 13, 3), (113, .aload_n 0, 1), (114, .iload_n 1, 1), (115, .iconst 0, 1), (116, .iload_n 3, 1), (117, .invokevirtual 196, 3), (120, .ifCond .ne 10, 3)] := dkf (by decide +kernel)
theorem dX12_indicator_107 : decode cX12_indicator 107 = .ok (.ireturn, 1) := dkg_X12_109.1
theorem dX12_indicator_108 : decode cX12_indicator 108 = .ok (.iload_n 3, 1) := dkg_X12_109.2.1
theorem dX12_indicator_109 : decode cX12_indicator 109 = .ok (.iconst 4, 1) := dkg_X12_109.2.2.1
theorem dX12_indicator_110 : decode cX12_indicator 110 = .ok (.if_icmp .gt 13, 3) := dkg_X12_109.2.2.2.1
theorem dX12_indicator_113 : decode cX12_indicator 113 = .ok (.aload_n 0, 1) := dkg_X12_109.2.2.2.2.1
theorem dX12_indicator_114 : decode cX12_indicator 114 = .ok (.iload_n 1, 1) := dkg_X12_109.2.2.2.2.2.1
theorem dX12_indicator_115 : decode cX12_indicator 115 = .ok (.iconst 0, 1) := dkg_X12_109.2.2.2.2.2.2.1
theorem dX12_indicator_116 : decode cX12_indicator 116 = .ok (.iload_n 3, 1) := dkg_X12_109.2.2.2.2.2.2.2.1
theorem dX12_indicator_117 : decode cX12_indicator 117 = .ok (.invokevirtual 196, 3) := dkg_X12_109.2.2.2.2.2.2.2.2.1
theorem dX12_indicator_120 : decode cX12_indicator 120 = .ok (.ifCond .ne 10, 3) := dkg_X12_109.2.2.2.2.2.2.2.2.2.1
theorem dkg_X12_110 : dkp cX12_indicator [(123, .aload_n 0, 1), (124, .bipush 6, 2), (126, .invokevirtual 154, 3), (129, .ireturn, 1), (130, .iconst 4, 1), (131, .iload_n 1, 1), (132, .imul, 1), (133, .iload_n 2, 1), (134, .iadd, 1), (135, .istore 5, 2)] := dkf (by decide +kernel)
theorem dX12_indicator_123 : decode cX12_indicator 123 = .ok (.aload_n 0, 1) := dkg_X12_110.1
theorem dX12_indicator_124 : decode cX12_indicator 124 = .ok (.bipush 6, 2) := dkg_X12_110.2.1
theorem dX12_indicator_126 : decode cX12_indicator 126 = .ok (.invokevirtual 154, 3) := dkg_X12_110.2.2.1
theorem dX12_indicator_129 : decode cX12_indicator 129 = .ok (.ireturn, 1) := dkg_X12_110.2.2.2.1
theorem dX12_indicator_130 : decode cX12_indicator 130 = .ok (.iconst 4, 1) := dkg_X12_110.2.2.2.2.1
theorem dX12_indicator_131 : decode cX12_indicator 131 = .ok (.iload_n 1, 1) := dkg_X12_110.2.2.2.2.2.1
theorem dX12_indicator_132 : decode cX12_indicator 132 = .ok (.imul, 1) := dkg_X12_110.2.2.2.2.2.2.1
theorem dX12_indicator_133 : decode cX12_indicator 133 = .ok (.iload_n 2, 1) := dkg_X12_110.2.2.2.2.2.2.2.1
theorem dX12_indicator_134 : decode cX12_indicator 134 = .ok (.iadd, 1) := dkg_X12_110.2.2.2.2.2.2.2.2.1
theorem dX12_indicator_135 : decode cX12_indicator 135 = .ok (.istore 5, 2) := dkg_X12_110.2.2.2.2.2.2.2.2.2.1
theorem dkg_X12_111 : dkp cX12_indicator [(137, .iconst 0, 1), (138, .istore 6, 2), (140, .iconst 0, 1), (141, .istore 7, 2), (143, .iload 7, 2), (145, .aload_n 0, 1), (146, .getfield 52, 3), (149, .iload 5, 2), (151, .iaload, 1), (152, .if_icmp .ge 29, 3)] := dkf (by decide +kernel)
theorem dX12_indicator_137 : decode cX12_indicator 137 = .ok (.iconst 0, 1) := dkg_X12_111.1
theorem dX12_indicator_138 : decode cX12_indicator 138 = .ok (.istore 6, 2) := dkg_X12_111.2.1
theorem dX12_indicator_140 : decode cX12_indicator 140 = .ok (.iconst 0, 1) := dkg_X12_111.2.2.1
theorem dX12_indicator_141 : decode cX12_indicator 141 = .ok (.istore 7, 2) := dkg_X12_111.2.2.2.1
theorem dX12_indicator_143 : decode cX12_indicator 143 = .ok (.iload 7, 2) := dkg_X12_111.2.2.2.2.1
theorem dX12_indicator_145 : decode cX12_indicator 145 = .ok (.aload_n 0, 1) := dkg_X12_111.2.2.2.2.2.1
theorem dX12_indicator_146 : decode cX12_indicator 146 = .ok (.getfield 52, 3) := dkg_X12_111.2.2.2.2.2.2.1
theorem dX12_indicator_149 : decode cX12_indicator 149 = .ok (.iload 5, 2) := dkg_X12_111.2.2.2.2.2.2.2.1
theorem dX12_indicator_151 : decode cX12_indicator 151 = .ok (.iaload, 1) := dkg_X12_111.2.2.2.2.2.2.2.2.1
theorem dX12_indicator_152 : decode cX12_indicator 152 = .ok (.if_icmp .ge 29, 3) := dkg_X12_111.2.2.2.2.2.2.2.2.2.1
theorem dkg_X12_112 : dkp cX12_indicator [(155, .iload 6, 2), (157, .bipush 8, 2), (159, .ishl, 1), (160, .aload_n 0, 1), (161, .getfield 55, 3), (164, .iconst 4, 1), (165, .iload 5, 2), (167, .imul, 1), (168, .iload 7, 2), (170, .iadd, 1)] := dkf (by decide +kernel)
theorem dX12_indicator_155 : decode cX12_indicator 155 = .ok (.iload 6, 2) := dkg_X12_112.1
theorem dX12_indicator_157 : decode cX12_indicator 157 = .ok (.bipush 8, 2) := dkg_X12_112.2.1
theorem dX12_indicator_159 : decode cX12_indicator 159 = .ok (.ishl, 1) := dkg_X12_112.2.2.1
theorem dX12_indicator_160 : decode cX12_indicator 160 = .ok (.aload_n 0, 1) := dkg_X12_112.2.2.2.1
theorem dX12_indicator_161 : decode cX12_indicator 161 = .ok (.getfield 55, 3) := dkg_X12_112.2.2.2.2.1
theorem dX12_indicator_164 : decode cX12_indicator 164 = .ok (.iconst 4, 1) := dkg_X12_112.2.2.2.2.2.1
theorem dX12_indicator_165 : decode cX12_indicator 165 = .ok (.iload 5, 2) := dkg_X12_112.2.2.2.2.2.2.1
theorem dX12_indicator_167 : decode cX12_indicator 167 = .ok (.imul, 1) := dkg_X12_112.2.2.2.2.2.2.2.1
theorem dX12_indicator_168 : decode cX12_indicator 168 = .ok (.iload 7, 2) := dkg_X12_112.2.2.2.2.2.2.2.2.1
theorem dX12_indicator_170 : decode cX12_indicator 170 = .ok (.iadd, 1) := dkg_X12_112.2.2.2.2.2.2.2.2.2.1
theorem dkg_X12_113 : dkp cX12_indicator [(171, .iaload, 1), (172, .ior, 1), (173, .istore 6, 2), (175, .iinc 7 1, 3), (178, .goto (-35), 3), (181, .aload_n 0, 1), (182, .iconst 4, 1), (183, .iload 5, 2), (185, .aload_n 0, 1), (186, .getfield 52, 3)] := dkf (by decide +kernel)
theorem dX12_indicator_171 : decode cX12_indicator 171 = .ok (.iaload, 1) := dkg_X12_113.1
theorem dX12_indicator_172 : decode cX12_indicator 172 = .ok (.ior, 1) := dkg_X12_113.2.1
theorem dX12_indicator_173 : decode cX12_indicator 173 = .ok (.istore 6, 2) := dkg_X12_113.2.2.1
theorem dX12_indicator_175 : decode cX12_indicator 175 = .ok (.iinc 7 1, 3) := dkg_X12_113.2.2.2.1
theorem dX12_indicator_178 : decode cX12_indicator 178 = .ok (.goto (-35), 3) := dkg_X12_113.2.2.2.2.1
theorem dX12_indicator_181 : decode cX12_indicator 181 = .ok (.aload_n 0, 1) := dkg_X12_113.2.2.2.2.2.1
theorem dX12_indicator_182 : decode cX12_indicator 182 = .ok (.iconst 4, 1) := dkg_X12_113.2.2.2.2.2.2.1
theorem dX12_indicator_183 : decode cX12_indicator 183 = .ok (.iload 5, 2) := dkg_X12_113.2.2.2.2.2.2.2.1
theorem dX12_indicator_185 : decode cX12_indicator 185 = .ok (.aload_n 0, 1) := dkg_X12_113.2.2.2.2.2.2.2.2.1
theorem dX12_indicator_186 : decode cX12_indicator 186 = .ok (.getfield 52, 3) := dkg_X12_113.2.2.2.2.2.2.2.2.2.1
theorem dkg_X12_114 : dkp cX12_indicator [(189, .iload 5, 2), (191, .iaload, 1), (192, .iload 6, 2), (194, .invokevirtual 182, 3), (197, .aload_n 0, 1), (198, .getfield 52, 3), (201, .iload 5, 2), (203, .iload_n 3, 1), (204, .iastore, 1), (205, .iconst 0, 1)] := dkf (by decide +kernel)
theorem dX12_indicator_189 : decode cX12_indicator 189 = .ok (.iload 5, 2) := dkg_X12_114.1
theorem dX12_indicator_191 : decode cX12_indicator 191 = .ok (.iaload, 1) := dkg_X12_114.2.1
theorem dX12_indicator_192 : decode cX12_indicator 192 = .ok (.iload 6, 2) := dkg_X12_114.2.2.1
theorem dX12_indicator_194 : decode cX12_indicator 194 = .ok (.invokevirtual 182, 3) := dkg_X12_114.2.2.2.1
theorem dX12_indicator_197 : decode cX12_indicator 197 = .ok (.aload_n 0, 1) := dkg_X12_114.2.2.2.2.1
theorem dX12_indicator_198 : decode cX12_indicator 198 = .ok (.getfield 52, 3) := dkg_X12_114.2.2.2.2.2.1
theorem dX12_indicator_201 : decode cX12_indicator 201 = .ok (.iload 5, 2) := dkg_X12_114.2.2.2.2.2.2.1
theorem dX12_indicator_203 : decode cX12_indicator 203 = .ok (.iload_n 3, 1) := dkg_X12_114.2.2.2.2.2.2.2.1
theorem dX12_indicator_204 : decode cX12_indicator 204 = .ok (.iastore, 1) := dkg_X12_114.2.2.2.2.2.2.2.2.1
theorem dX12_indicator_205 : decode cX12_indicator 205 = .ok (.iconst 0, 1) := dkg_X12_114.2.2.2.2.2.2.2.2.2.1
theorem dkg_X12_115 : dkp cX12_indicator [(206, .istore 7, 2), (208, .iload 7, 2), (210, .iload_n 3, 1), (211, .if_icmp .ge 28, 3), (214, .aload_n 0, 1), (215, .getfield 55, 3), (218, .iconst 4, 1), (219, .iload 5, 2), (221, .imul, 1), (222, .iload 7, 2)] := dkf (by decide +kernel)
theorem dX12_indicator_206 : decode cX12_indicator 206 = .ok (.istore 7, 2) := dkg_X12_115.1
theorem dX12_indicator_208 : decode cX12_indicator 208 = .ok (.iload 7, 2) := dkg_X12_115.2.1
theorem dX12_indicator_210 : decode cX12_indicator 210 = .ok (.iload_n 3, 1) := dkg_X12_115.2.2.1
theorem dX12_indicator_211 : decode cX12_indicator 211 = .ok (.if_icmp .ge 28, 3) := dkg_X12_115.2.2.2.1
theorem dX12_indicator_214 : decode cX12_indicator 214 = .ok (.aload_n 0, 1) := dkg_X12_115.2.2.2.2.1
theorem dX12_indicator_215 : decode cX12_indicator 215 = .ok (.getfield 55, 3) := dkg_X12_115.2.2.2.2.2.1
theorem dX12_indicator_218 : decode cX12_indicator 218 = .ok (.iconst 4, 1) := dkg_X12_115.2.2.2.2.2.2.1
theorem dX12_indicator_219 : decode cX12_indicator 219 = .ok (.iload 5, 2) := dkg_X12_115.2.2.2.2.2.2.2.1
theorem dX12_indicator_221 : decode cX12_indicator 221 = .ok (.imul, 1) := dkg_X12_115.2.2.2.2.2.2.2.2.1
theorem dX12_indicator_222 : decode cX12_indicator 222 = .ok (.iload 7, 2) := dkg_X12_115.2.2.2.2.2.2.2.2.2.1
theorem dkg_X12_116 : dkp cX12_indicator [(224, .iadd, 1), (225, .aload_n 0, 1), (226, .getfield 13, 3), (229, .iload 7, 2), (231, .iaload, 1), (232, .iastore, 1), (233, .iinc 7 1, 3), (236, .goto (-28), 3), (239, .aload_n 0, 1), (240, .iload_n 3, 1)] := dkf (by decide +kernel)
theorem dX12_indicator_224 : decode cX12_indicator 224 = .ok (.iadd, 1) := dkg_X12_116.1
theorem dX12_indicator_225 : decode cX12_indicator 225 = .ok (.aload_n 0, 1) := dkg_X12_116.2.1
theorem dX12_indicator_226 : decode cX12_indicator 226 = .ok (.getfield 13, 3) := dkg_X12_116.2.2.1
theorem dX12_indicator_229 : decode cX12_indicator 229 = .ok (.iload 7, 2) := dkg_X12_116.2.2.2.1
theorem dX12_indicator_231 : decode cX12_indicator 231 = .ok (.iaload, 1) := dkg_X12_116.2.2.2.2.1
theorem dX12_indicator_232 : decode cX12_indicator 232 = .ok (.iastore, 1) := dkg_X12_116.2.2.2.2.2.1
theorem dX12_indicator_233 : decode cX12_indicator 233 = .ok (.iinc 7 1, 3) := dkg_X12_116.2.2.2.2.2.2.1
theorem dX12_indicator_236 : decode cX12_indicator 236 = .ok (.goto (-28), 3) := dkg_X12_116.2.2.2.2.2.2.2.1
theorem dX12_indicator_239 : decode cX12_indicator 239 = .ok (.aload_n 0, 1) := dkg_X12_116.2.2.2.2.2.2.2.2.1
theorem dX12_indicator_240 : decode cX12_indicator 240 = .ok (.iload_n 3, 1) := dkg_X12_116.2.2.2.2.2.2.2.2.2.1
theorem dkg_X12_117 : dkp cX12_indicator [(241, .invokevirtual 158, 3), (244, .ireturn, 1)] := dkf (by decide +kernel)
theorem dX12_indicator_241 : decode cX12_indicator 241 = .ok (.invokevirtual 158, 3) := dkg_X12_117.1
theorem dX12_indicator_244 : decode cX12_indicator 244 = .ok (.ireturn, 1) := dkg_X12_117.2.1
theorem dkg_X12_118 : dkp cX12_undo [(0, .aload_n 0, 1), (1, .getfield 161, 3), (4, .ifCond .ne 9, 3), (7, .aload_n 0, 1), (8, .iconst 0, 1), (9, .invokevirtual 158, 3), (12, .ireturn, 1), (13, .aload_n 0, 1), (14, .dup, 1), (15, .getfield 161, 3)] := dkf (by decide +kernel)
theorem dX12_undo_0 : decode cX12_undo 0 = .ok (.aload_n 0, 1) := dkg_X12_118.1
theorem dX12_undo_1 : decode cX12_undo 1 = .ok (.getfield 161, 3) := dkg_X12_118.2.1
theorem dX12_undo_4 : decode cX12_undo 4 = .ok (.ifCond .ne 9, 3) := dkg_X12_118.2.2.1
theorem dX12_undo_7 : decode cX12_undo 7 = .ok (.aload_n 0, 1) := dkg_X12_118.2.2.2.1
theorem dX12_undo_8 : decode cX12_undo 8 = .ok (.iconst 0, 1) := dkg_X12_118.2.2.2.2.1
theorem dX12_undo_9 : decode cX12_undo 9 = .ok (.invokevirtual 158, 3) := dkg_X12_118.2.2.2.2.2.1
theorem dX12_undo_12 : decode cX12_undo 12 = .ok (.ireturn, 1) := dkg_X12_118.2.2.2.2.2.2.1
theorem dX12_undo_13 : decode cX12_undo 13 = .ok (.aload_n 0, 1) := dkg_X12_118.2.2.2.2.2.2.2.1
theorem dX12_undo_14 : decode cX12_undo 14 = .ok (.dup, 1) := dkg_X12_118.2.2.2.2.2.2.2.2.1
theorem dX12_undo_15 : decode cX12_undo 15 = .ok (.getfield 161, 3) := dkg_X12_118.2.2.2.2.2.2.2.2.2.1
theorem dkg_X12_119 : dkp cX12_undo [(18, .iconst 4, 1), (19, .isub, 1), (20, .putfield 161, 3), (23, .aload_n 0, 1), (24, .getfield 58, 3), (27, .aload_n 0, 1), (28, .getfield 161, 3), (31, .iconst 1, 1), (32, .iadd, 1), (33, .iaload, 1)] := dkf (by decide +kernel)
theorem dX12_undo_18 : decode cX12_undo 18 = .ok (.iconst 4, 1) := dkg_X12_119.1
theorem dX12_undo_19 : decode cX12_undo 19 = .ok (.isub, 1) := dkg_X12_119.2.1
theorem dX12_undo_20 : decode cX12_undo 20 = .ok (.putfield 161, 3) := dkg_X12_119.2.2.1
theorem dX12_undo_23 : decode cX12_undo 23 = .ok (.aload_n 0, 1) := dkg_X12_119.2.2.2.1
theorem dX12_undo_24 : decode cX12_undo 24 = .ok (.getfield 58, 3) := dkg_X12_119.2.2.2.2.1
theorem dX12_undo_27 : decode cX12_undo 27 = .ok (.aload_n 0, 1) := dkg_X12_119.2.2.2.2.2.1
theorem dX12_undo_28 : decode cX12_undo 28 = .ok (.getfield 161, 3) := dkg_X12_119.2.2.2.2.2.2.1
theorem dX12_undo_31 : decode cX12_undo 31 = .ok (.iconst 1, 1) := dkg_X12_119.2.2.2.2.2.2.2.1
theorem dX12_undo_32 : decode cX12_undo 32 = .ok (.iadd, 1) := dkg_X12_119.2.2.2.2.2.2.2.2.1
theorem dX12_undo_33 : decode cX12_undo 33 = .ok (.iaload, 1) := dkg_X12_119.2.2.2.2.2.2.2.2.2.1
theorem dkg_X12_120 : dkp cX12_undo [(34, .istore_n 1, 1), (35, .aload_n 0, 1), (36, .getfield 58, 3), (39, .aload_n 0, 1), (40, .getfield 161, 3), (43, .iconst 2, 1), (44, .iadd, 1), (45, .iaload, 1), (46, .istore_n 2, 1), (47, .aload_n 0, 1)] := dkf (by decide +kernel)
theorem dX12_undo_34 : decode cX12_undo 34 = .ok (.istore_n 1, 1) := dkg_X12_120.1
theorem dX12_undo_35 : decode cX12_undo 35 = .ok (.aload_n 0, 1) := dkg_X12_120.2.1
theorem dX12_undo_36 : decode cX12_undo 36 = .ok (.getfield 58, 3) := dkg_X12_120.2.2.1
theorem dX12_undo_39 : decode cX12_undo 39 = .ok (.aload_n 0, 1) := dkg_X12_120.2.2.2.1
theorem dX12_undo_40 : decode cX12_undo 40 = .ok (.getfield 161, 3) := dkg_X12_120.2.2.2.2.1
theorem dX12_undo_43 : decode cX12_undo 43 = .ok (.iconst 2, 1) := dkg_X12_120.2.2.2.2.2.1
theorem dX12_undo_44 : decode cX12_undo 44 = .ok (.iadd, 1) := dkg_X12_120.2.2.2.2.2.2.1
theorem dX12_undo_45 : decode cX12_undo 45 = .ok (.iaload, 1) := dkg_X12_120.2.2.2.2.2.2.2.1
theorem dX12_undo_46 : decode cX12_undo 46 = .ok (.istore_n 2, 1) := dkg_X12_120.2.2.2.2.2.2.2.2.1
theorem dX12_undo_47 : decode cX12_undo 47 = .ok (.aload_n 0, 1) := dkg_X12_120.2.2.2.2.2.2.2.2.2.1
theorem dkg_X12_121 : dkp cX12_undo [(48, .getfield 58, 3), (51, .aload_n 0, 1), (52, .getfield 161, 3), (55, .iconst 3, 1), (56, .iadd, 1), (57, .iaload, 1), (58, .istore_n 3, 1), (59, .aload_n 0, 1), (60, .getfield 58, 3), (63, .aload_n 0, 1)] := dkf (by decide +kernel)
theorem dX12_undo_48 : decode cX12_undo 48 = .ok (.getfield 58, 3) := dkg_X12_121.1
theorem dX12_undo_51 : decode cX12_undo 51 = .ok (.aload_n 0, 1) := dkg_X12_121.2.1
theorem dX12_undo_52 : decode cX12_undo 52 = .ok (.getfield 161, 3) := dkg_X12_121.2.2.1
theorem dX12_undo_55 : decode cX12_undo 55 = .ok (.iconst 3, 1) := dkg_X12_121.2.2.2.1
theorem dX12_undo_56 : decode cX12_undo 56 = .ok (.iadd, 1) := dkg_X12_121.2.2.2.2.1
theorem dX12_undo_57 : decode cX12_undo 57 = .ok (.iaload, 1) := dkg_X12_121.2.2.2.2.2.1
theorem dX12_undo_58 : decode cX12_undo 58 = .ok (.istore_n 3, 1) := dkg_X12_121.2.2.2.2.2.2.1
theorem dX12_undo_59 : decode cX12_undo 59 = .ok (.aload_n 0, 1) := dkg_X12_121.2.2.2.2.2.2.2.1
theorem dX12_undo_60 : decode cX12_undo 60 = .ok (.getfield 58, 3) := dkg_X12_121.2.2.2.2.2.2.2.2.1
theorem dX12_undo_63 : decode cX12_undo 63 = .ok (.aload_n 0, 1) := dkg_X12_121.2.2.2.2.2.2.2.2.2.1
theorem dkg_X12_122 : dkp cX12_undo [(64, .getfield 161, 3), (67, .iaload, 1), (100, .aload_n 0, 1), (101, .dup, 1), (102, .getfield 164, 3), (105, .iconst 1, 1), (106, .isub, 1), (107, .putfield 164, 3), (110, .goto 90, 3), (113, .aload_n 0, 1)] := dkf (by decide +kernel)
theorem dX12_undo_64 : decode cX12_undo 64 = .ok (.getfield 161, 3) := dkg_X12_122.1
theorem dX12_undo_67 : decode cX12_undo 67 = .ok (.iaload, 1) := dkg_X12_122.2.1
theorem dX12_undo_100 : decode cX12_undo 100 = .ok (.aload_n 0, 1) := dkg_X12_122.2.2.1
theorem dX12_undo_101 : decode cX12_undo 101 = .ok (.dup, 1) := dkg_X12_122.2.2.2.1
theorem dX12_undo_102 : decode cX12_undo 102 = .ok (.getfield 164, 3) := dkg_X12_122.2.2.2.2.1
theorem dX12_undo_105 : decode cX12_undo 105 = .ok (.iconst 1, 1) := dkg_X12_122.2.2.2.2.2.1
theorem dX12_undo_106 : decode cX12_undo 106 = .ok (.isub, 1) := dkg_X12_122.2.2.2.2.2.2.1
theorem dX12_undo_107 : decode cX12_undo 107 = .ok (.putfield 164, 3) := dkg_X12_122.2.2.2.2.2.2.2.1
theorem dX12_undo_110 : decode cX12_undo 110 = .ok (.goto 90, 3) := dkg_X12_122.2.2.2.2.2.2.2.2.1
theorem dX12_undo_113 : decode cX12_undo 113 = .ok (.aload_n 0, 1) := dkg_X12_122.2.2.2.2.2.2.2.2.2.1
theorem dkg_X12_123 : dkp cX12_undo [(114, .getfield 17, 3), (117, .iload_n 1, 1), (118, .iconst 1, 1), (119, .bastore, 1), (120, .goto 80, 3), (123, .aload_n 0, 1), (124, .getfield 33, 3), (127, .iload_n 1, 1), (128, .dup2, 1), (129, .iaload, 1)] := dkf (by decide +kernel)
theorem dX12_undo_114 : decode cX12_undo 114 = .ok (.getfield 17, 3) := dkg_X12_123.1
theorem dX12_undo_117 : decode cX12_undo 117 = .ok (.iload_n 1, 1) := dkg_X12_123.2.1
theorem dX12_undo_118 : decode cX12_undo 118 = .ok (.iconst 1, 1) := dkg_X12_123.2.2.1
theorem dX12_undo_119 : decode cX12_undo 119 = .ok (.bastore, 1) := dkg_X12_123.2.2.2.1
theorem dX12_undo_120 : decode cX12_undo 120 = .ok (.goto 80, 3) := dkg_X12_123.2.2.2.2.1
theorem dX12_undo_123 : decode cX12_undo 123 = .ok (.aload_n 0, 1) := dkg_X12_123.2.2.2.2.2.1
theorem dX12_undo_124 : decode cX12_undo 124 = .ok (.getfield 33, 3) := dkg_X12_123.2.2.2.2.2.2.1
theorem dX12_undo_127 : decode cX12_undo 127 = .ok (.iload_n 1, 1) := dkg_X12_123.2.2.2.2.2.2.2.1
theorem dX12_undo_128 : decode cX12_undo 128 = .ok (.dup2, 1) := dkg_X12_123.2.2.2.2.2.2.2.2.1
theorem dX12_undo_129 : decode cX12_undo 129 = .ok (.iaload, 1) := dkg_X12_123.2.2.2.2.2.2.2.2.2.1
theorem dkg_X12_124 : dkp cX12_undo [(130, .iconst 1, 1), (131, .isub, 1), (132, .iastore, 1), (133, .goto 67, 3), (136, .aload_n 0, 1), (137, .getfield 36, 3), (140, .sipush 200, 3), (143, .iload_n 1, 1), (144, .imul, 1), (145, .iload_n 2, 1)] := dkf (by decide +kernel)
theorem dX12_undo_130 : decode cX12_undo 130 = .ok (.iconst 1, 1) := dkg_X12_124.1
theorem dX12_undo_131 : decode cX12_undo 131 = .ok (.isub, 1) := dkg_X12_124.2.1
theorem dX12_undo_132 : decode cX12_undo 132 = .ok (.iastore, 1) := dkg_X12_124.2.2.1
theorem dX12_undo_133 : decode cX12_undo 133 = .ok (.goto 67, 3) := dkg_X12_124.2.2.2.1
theorem dX12_undo_136 : decode cX12_undo 136 = .ok (.aload_n 0, 1) := dkg_X12_124.2.2.2.2.1
theorem dX12_undo_137 : decode cX12_undo 137 = .ok (.getfield 36, 3) := dkg_X12_124.2.2.2.2.2.1
theorem dX12_undo_140 : decode cX12_undo 140 = .ok (.sipush 200, 3) := dkg_X12_124.2.2.2.2.2.2.1
theorem dX12_undo_143 : decode cX12_undo 143 = .ok (.iload_n 1, 1) := dkg_X12_124.2.2.2.2.2.2.2.1
theorem dX12_undo_144 : decode cX12_undo 144 = .ok (.imul, 1) := dkg_X12_124.2.2.2.2.2.2.2.2.1
theorem dX12_undo_145 : decode cX12_undo 145 = .ok (.iload_n 2, 1) := dkg_X12_124.2.2.2.2.2.2.2.2.2.1
theorem dkg_X12_125 : dkp cX12_undo [(146, .iadd, 1), (147, .iload_n 3, 1), (148, .iastore, 1), (149, .goto 51, 3), (152, .aload_n 0, 1), (153, .getfield 52, 3), (156, .iload_n 1, 1), (157, .iload_n 2, 1), (158, .iastore, 1), (159, .iconst 0, 1)] := dkf (by decide +kernel)
theorem dX12_undo_146 : decode cX12_undo 146 = .ok (.iadd, 1) := dkg_X12_125.1
theorem dX12_undo_147 : decode cX12_undo 147 = .ok (.iload_n 3, 1) := dkg_X12_125.2.1
theorem dX12_undo_148 : decode cX12_undo 148 = .ok (.iastore, 1) := dkg_X12_125.2.2.1
theorem dX12_undo_149 : decode cX12_undo 149 = .ok (.goto 51, 3) := dkg_X12_125.2.2.2.1
theorem dX12_undo_152 : decode cX12_undo 152 = .ok (.aload_n 0, 1) := dkg_X12_125.2.2.2.2.1
theorem dX12_undo_153 : decode cX12_undo 153 = .ok (.getfield 52, 3) := dkg_X12_125.2.2.2.2.2.1
theorem dX12_undo_156 : decode cX12_undo 156 = .ok (.iload_n 1, 1) := dkg_X12_125.2.2.2.2.2.2.1
theorem dX12_undo_157 : decode cX12_undo 157 = .ok (.iload_n 2, 1) := dkg_X12_125.2.2.2.2.2.2.2.1
theorem dX12_undo_158 : decode cX12_undo 158 = .ok (.iastore, 1) := dkg_X12_125.2.2.2.2.2.2.2.2.1
theorem dX12_undo_159 : decode cX12_undo 159 = .ok (.iconst 0, 1) := dkg_X12_125.2.2.2.2.2.2.2.2.2.1
theorem dkg_X12_126 : dkp cX12_undo [(160, .istore 4, 2), (162, .iload 4, 2), (164, .iload_n 2, 1), (165, .if_icmp .ge 35, 3), (168, .aload_n 0, 1), (169, .getfield 55, 3), (172, .iconst 4, 1), (173, .iload_n 1, 1), (174, .imul, 1), (175, .iload 4, 2)] := dkf (by decide +kernel)
theorem dX12_undo_160 : decode cX12_undo 160 = .ok (.istore 4, 2) := dkg_X12_126.1
theorem dX12_undo_162 : decode cX12_undo 162 = .ok (.iload 4, 2) := dkg_X12_126.2.1
theorem dX12_undo_164 : decode cX12_undo 164 = .ok (.iload_n 2, 1) := dkg_X12_126.2.2.1
theorem dX12_undo_165 : decode cX12_undo 165 = .ok (.if_icmp .ge 35, 3) := dkg_X12_126.2.2.2.1
theorem dX12_undo_168 : decode cX12_undo 168 = .ok (.aload_n 0, 1) := dkg_X12_126.2.2.2.2.1
theorem dX12_undo_169 : decode cX12_undo 169 = .ok (.getfield 55, 3) := dkg_X12_126.2.2.2.2.2.1
theorem dX12_undo_172 : decode cX12_undo 172 = .ok (.iconst 4, 1) := dkg_X12_126.2.2.2.2.2.2.1
theorem dX12_undo_173 : decode cX12_undo 173 = .ok (.iload_n 1, 1) := dkg_X12_126.2.2.2.2.2.2.2.1
theorem dX12_undo_174 : decode cX12_undo 174 = .ok (.imul, 1) := dkg_X12_126.2.2.2.2.2.2.2.2.1
theorem dX12_undo_175 : decode cX12_undo 175 = .ok (.iload 4, 2) := dkg_X12_126.2.2.2.2.2.2.2.2.2.1
theorem dkg_X12_127 : dkp cX12_undo [(177, .iadd, 1), (178, .iload_n 3, 1), (179, .bipush 8, 2), (181, .iload_n 2, 1), (182, .iconst 1, 1), (183, .isub, 1), (184, .iload 4, 2), (186, .isub, 1), (187, .imul, 1), (188, .ishr, 1)] := dkf (by decide +kernel)
theorem dX12_undo_177 : decode cX12_undo 177 = .ok (.iadd, 1) := dkg_X12_127.1
theorem dX12_undo_178 : decode cX12_undo 178 = .ok (.iload_n 3, 1) := dkg_X12_127.2.1
theorem dX12_undo_179 : decode cX12_undo 179 = .ok (.bipush 8, 2) := dkg_X12_127.2.2.1
theorem dX12_undo_181 : decode cX12_undo 181 = .ok (.iload_n 2, 1) := dkg_X12_127.2.2.2.1
theorem dX12_undo_182 : decode cX12_undo 182 = .ok (.iconst 1, 1) := dkg_X12_127.2.2.2.2.1
theorem dX12_undo_183 : decode cX12_undo 183 = .ok (.isub, 1) := dkg_X12_127.2.2.2.2.2.1
theorem dX12_undo_184 : decode cX12_undo 184 = .ok (.iload 4, 2) := dkg_X12_127.2.2.2.2.2.2.1
theorem dX12_undo_186 : decode cX12_undo 186 = .ok (.isub, 1) := dkg_X12_127.2.2.2.2.2.2.2.1
theorem dX12_undo_187 : decode cX12_undo 187 = .ok (.imul, 1) := dkg_X12_127.2.2.2.2.2.2.2.2.1
theorem dX12_undo_188 : decode cX12_undo 188 = .ok (.ishr, 1) := dkg_X12_127.2.2.2.2.2.2.2.2.2.1
theorem dkg_X12_128 : dkp cX12_undo [(189, .sipush 255, 3), (192, .iand, 1), (193, .iastore, 1), (194, .iinc 4 1, 3), (197, .goto (-35), 3), (200, .aload_n 0, 1), (201, .iconst 1, 1), (202, .invokevirtual 158, 3), (205, .ireturn, 1)] := dkf (by decide +kernel)
theorem dX12_undo_189 : decode cX12_undo 189 = .ok (.sipush 255, 3) := dkg_X12_128.1
theorem dX12_undo_192 : decode cX12_undo 192 = .ok (.iand, 1) := dkg_X12_128.2.1
theorem dX12_undo_193 : decode cX12_undo 193 = .ok (.iastore, 1) := dkg_X12_128.2.2.1
theorem dX12_undo_194 : decode cX12_undo 194 = .ok (.iinc 4 1, 3) := dkg_X12_128.2.2.2.1
theorem dX12_undo_197 : decode cX12_undo 197 = .ok (.goto (-35), 3) := dkg_X12_128.2.2.2.2.1
theorem dX12_undo_200 : decode cX12_undo 200 = .ok (.aload_n 0, 1) := dkg_X12_128.2.2.2.2.2.1
theorem dX12_undo_201 : decode cX12_undo 201 = .ok (.iconst 1, 1) := dkg_X12_128.2.2.2.2.2.2.1
theorem dX12_undo_202 : decode cX12_undo 202 = .ok (.invokevirtual 158, 3) := dkg_X12_128.2.2.2.2.2.2.2.1
theorem dX12_undo_205 : decode cX12_undo 205 = .ok (.ireturn, 1) := dkg_X12_128.2.2.2.2.2.2.2.2.1
theorem dkg_X12_129 : dkp cX12_undo [(68, .tableswitch 84 0 3 #[32, 45, 55, 68], 32)] := dkq (by decide +kernel)
theorem dX12_undo_68 : decode cX12_undo 68 = .ok (.tableswitch 84 0 3 #[32, 45, 55, 68], 32) := dkg_X12_129.1
theorem dkg_X12_130 : dkp cX12_finds [(0, .iload_n 1, 1), (1, .iconst 0, 1), (2, .iconst 4, 1), (3, .invokestatic 174, 3), (6, .ifCond .eq 12, 3), (9, .aload_n 0, 1), (10, .getfield 76, 3), (13, .iload_n 1, 1), (14, .iaload, 1), (15, .goto 4, 3)] := dkf (by decide +kernel)
theorem dX12_finds_0 : decode cX12_finds 0 = .ok (.iload_n 1, 1) := dkg_X12_130.1
theorem dX12_finds_1 : decode cX12_finds 1 = .ok (.iconst 0, 1) := dkg_X12_130.2.1
theorem dX12_finds_2 : decode cX12_finds 2 = .ok (.iconst 4, 1) := dkg_X12_130.2.2.1
theorem dX12_finds_3 : decode cX12_finds 3 = .ok (.invokestatic 174, 3) := dkg_X12_130.2.2.2.1
theorem dX12_finds_6 : decode cX12_finds 6 = .ok (.ifCond .eq 12, 3) := dkg_X12_130.2.2.2.2.1
theorem dX12_finds_9 : decode cX12_finds 9 = .ok (.aload_n 0, 1) := dkg_X12_130.2.2.2.2.2.1
theorem dX12_finds_10 : decode cX12_finds 10 = .ok (.getfield 76, 3) := dkg_X12_130.2.2.2.2.2.2.1
theorem dX12_finds_13 : decode cX12_finds 13 = .ok (.iload_n 1, 1) := dkg_X12_130.2.2.2.2.2.2.2.1
theorem dX12_finds_14 : decode cX12_finds 14 = .ok (.iaload, 1) := dkg_X12_130.2.2.2.2.2.2.2.2.1
theorem dX12_finds_15 : decode cX12_finds 15 = .ok (.goto 4, 3) := dkg_X12_130.2.2.2.2.2.2.2.2.2.1
theorem dkg_X12_131 : dkp cX12_finds [(18, .iconst 0, 1), (19, .ireturn, 1)] := dkf (by decide +kernel)
theorem dX12_finds_18 : decode cX12_finds 18 = .ok (.iconst 0, 1) := dkg_X12_131.1
theorem dX12_finds_19 : decode cX12_finds 19 = .ok (.ireturn, 1) := dkg_X12_131.2.1
theorem dkg_X12_132 : dkp cX12_isDigit [(0, .iload_n 0, 1), (1, .bipush 48, 2), (3, .if_icmp .lt 13, 3), (6, .iload_n 0, 1), (7, .bipush 57, 2), (9, .if_icmp .gt 7, 3), (12, .iconst 1, 1), (13, .goto 4, 3), (16, .iconst 0, 1), (17, .ireturn, 1)] := dkf (by decide +kernel)
theorem dX12_isDigit_0 : decode cX12_isDigit 0 = .ok (.iload_n 0, 1) := dkg_X12_132.1
theorem dX12_isDigit_1 : decode cX12_isDigit 1 = .ok (.bipush 48, 2) := dkg_X12_132.2.1
theorem dX12_isDigit_3 : decode cX12_isDigit 3 = .ok (.if_icmp .lt 13, 3) := dkg_X12_132.2.2.1
theorem dX12_isDigit_6 : decode cX12_isDigit 6 = .ok (.iload_n 0, 1) := dkg_X12_132.2.2.2.1
theorem dX12_isDigit_7 : decode cX12_isDigit 7 = .ok (.bipush 57, 2) := dkg_X12_132.2.2.2.2.1
theorem dX12_isDigit_9 : decode cX12_isDigit 9 = .ok (.if_icmp .gt 7, 3) := dkg_X12_132.2.2.2.2.2.1
theorem dX12_isDigit_12 : decode cX12_isDigit 12 = .ok (.iconst 1, 1) := dkg_X12_132.2.2.2.2.2.2.1
theorem dX12_isDigit_13 : decode cX12_isDigit 13 = .ok (.goto 4, 3) := dkg_X12_132.2.2.2.2.2.2.2.1
theorem dX12_isDigit_16 : decode cX12_isDigit 16 = .ok (.iconst 0, 1) := dkg_X12_132.2.2.2.2.2.2.2.2.1
theorem dX12_isDigit_17 : decode cX12_isDigit 17 = .ok (.ireturn, 1) := dkg_X12_132.2.2.2.2.2.2.2.2.2.1
theorem dkg_X12_133 : dkp cX12_isGreat [(0, .iload_n 0, 1), (1, .bipush 65, 2), (3, .if_icmp .lt 13, 3), (6, .iload_n 0, 1), (7, .bipush 90, 2), (9, .if_icmp .gt 7, 3), (12, .iconst 1, 1), (13, .goto 4, 3), (16, .iconst 0, 1), (17, .ireturn, 1)] := dkf (by decide +kernel)
theorem dX12_isGreat_0 : decode cX12_isGreat 0 = .ok (.iload_n 0, 1) := dkg_X12_133.1
theorem dX12_isGreat_1 : decode cX12_isGreat 1 = .ok (.bipush 65, 2) := dkg_X12_133.2.1
theorem dX12_isGreat_3 : decode cX12_isGreat 3 = .ok (.if_icmp .lt 13, 3) := dkg_X12_133.2.2.1
theorem dX12_isGreat_6 : decode cX12_isGreat 6 = .ok (.iload_n 0, 1) := dkg_X12_133.2.2.2.1
theorem dX12_isGreat_7 : decode cX12_isGreat 7 = .ok (.bipush 90, 2) := dkg_X12_133.2.2.2.2.1
theorem dX12_isGreat_9 : decode cX12_isGreat 9 = .ok (.if_icmp .gt 7, 3) := dkg_X12_133.2.2.2.2.2.1
theorem dX12_isGreat_12 : decode cX12_isGreat 12 = .ok (.iconst 1, 1) := dkg_X12_133.2.2.2.2.2.2.1
theorem dX12_isGreat_13 : decode cX12_isGreat 13 = .ok (.goto 4, 3) := dkg_X12_133.2.2.2.2.2.2.2.1
theorem dX12_isGreat_16 : decode cX12_isGreat 16 = .ok (.iconst 0, 1) := dkg_X12_133.2.2.2.2.2.2.2.2.1
theorem dX12_isGreat_17 : decode cX12_isGreat 17 = .ok (.ireturn, 1) := dkg_X12_133.2.2.2.2.2.2.2.2.2.1
theorem dkg_X12_134 : dkp cX12_isSmall [(0, .iload_n 0, 1), (1, .bipush 97, 2), (3, .if_icmp .lt 13, 3), (6, .iload_n 0, 1), (7, .bipush 122, 2), (9, .if_icmp .gt 7, 3), (12, .iconst 1, 1), (13, .goto 4, 3), (16, .iconst 0, 1), (17, .ireturn, 1)] := dkf (by decide +kernel)
theorem dX12_isSmall_0 : decode cX12_isSmall 0 = .ok (.iload_n 0, 1) := dkg_X12_134.1
theorem dX12_isSmall_1 : decode cX12_isSmall 1 = .ok (.bipush 97, 2) := dkg_X12_134.2.1
theorem dX12_isSmall_3 : decode cX12_isSmall 3 = .ok (.if_icmp .lt 13, 3) := dkg_X12_134.2.2.1
theorem dX12_isSmall_6 : decode cX12_isSmall 6 = .ok (.iload_n 0, 1) := dkg_X12_134.2.2.2.1
theorem dX12_isSmall_7 : decode cX12_isSmall 7 = .ok (.bipush 122, 2) := dkg_X12_134.2.2.2.2.1
theorem dX12_isSmall_9 : decode cX12_isSmall 9 = .ok (.if_icmp .gt 7, 3) := dkg_X12_134.2.2.2.2.2.1
theorem dX12_isSmall_12 : decode cX12_isSmall 12 = .ok (.iconst 1, 1) := dkg_X12_134.2.2.2.2.2.2.1
theorem dX12_isSmall_13 : decode cX12_isSmall 13 = .ok (.goto 4, 3) := dkg_X12_134.2.2.2.2.2.2.2.1
theorem dX12_isSmall_16 : decode cX12_isSmall 16 = .ok (.iconst 0, 1) := dkg_X12_134.2.2.2.2.2.2.2.2.1
theorem dX12_isSmall_17 : decode cX12_isSmall 17 = .ok (.ireturn, 1) := dkg_X12_134.2.2.2.2.2.2.2.2.2.1
theorem dkg_X12_135 : dkp cX12_fits [(0, .aload_n 0, 1), (1, .getfield 39, 3), (4, .iload_n 1, 1), (5, .iaload, 1), (6, .istore 5, 2), (8, .iload 4, 2), (10, .iload 5, 2), (12, .iadd, 1), (13, .iload_n 3, 1), (14, .if_icmp .gt 7, 3)] := dkf (by decide +kernel)
theorem dX12_fits_0 : decode cX12_fits 0 = .ok (.aload_n 0, 1) := dkg_X12_135.1
theorem dX12_fits_1 : decode cX12_fits 1 = .ok (.getfield 39, 3) := dkg_X12_135.2.1
theorem dX12_fits_4 : decode cX12_fits 4 = .ok (.iload_n 1, 1) := dkg_X12_135.2.2.1
theorem dX12_fits_5 : decode cX12_fits 5 = .ok (.iaload, 1) := dkg_X12_135.2.2.2.1
theorem dX12_fits_6 : decode cX12_fits 6 = .ok (.istore 5, 2) := dkg_X12_135.2.2.2.2.1
theorem dX12_fits_8 : decode cX12_fits 8 = .ok (.iload 4, 2) := dkg_X12_135.2.2.2.2.2.1
theorem dX12_fits_10 : decode cX12_fits 10 = .ok (.iload 5, 2) := dkg_X12_135.2.2.2.2.2.2.1
theorem dX12_fits_12 : decode cX12_fits 12 = .ok (.iadd, 1) := dkg_X12_135.2.2.2.2.2.2.2.1
theorem dX12_fits_13 : decode cX12_fits 13 = .ok (.iload_n 3, 1) := dkg_X12_135.2.2.2.2.2.2.2.2.1
theorem dX12_fits_14 : decode cX12_fits 14 = .ok (.if_icmp .gt 7, 3) := dkg_X12_135.2.2.2.2.2.2.2.2.2.1
theorem dkg_X12_136 : dkp cX12_fits [(17, .iconst 1, 1), (18, .goto 4, 3), (21, .iconst 0, 1), (22, .istore 6, 2), (24, .iconst 0, 1), (25, .istore 7, 2), (27, .iload 7, 2), (29, .iload 5, 2), (31, .if_icmp .ge 46, 3), (34, .iload 6, 2)] := dkf (by decide +kernel)
theorem dX12_fits_17 : decode cX12_fits 17 = .ok (.iconst 1, 1) := dkg_X12_136.1
theorem dX12_fits_18 : decode cX12_fits 18 = .ok (.goto 4, 3) := dkg_X12_136.2.1
theorem dX12_fits_21 : decode cX12_fits 21 = .ok (.iconst 0, 1) := dkg_X12_136.2.2.1
theorem dX12_fits_22 : decode cX12_fits 22 = .ok (.istore 6, 2) := dkg_X12_136.2.2.2.1
theorem dX12_fits_24 : decode cX12_fits 24 = .ok (.iconst 0, 1) := dkg_X12_136.2.2.2.2.1
theorem dX12_fits_25 : decode cX12_fits 25 = .ok (.istore 7, 2) := dkg_X12_136.2.2.2.2.2.1
theorem dX12_fits_27 : decode cX12_fits 27 = .ok (.iload 7, 2) := dkg_X12_136.2.2.2.2.2.2.1
theorem dX12_fits_29 : decode cX12_fits 29 = .ok (.iload 5, 2) := dkg_X12_136.2.2.2.2.2.2.2.1
theorem dX12_fits_31 : decode cX12_fits 31 = .ok (.if_icmp .ge 46, 3) := dkg_X12_136.2.2.2.2.2.2.2.2.1
theorem dX12_fits_34 : decode cX12_fits 34 = .ok (.iload 6, 2) := dkg_X12_136.2.2.2.2.2.2.2.2.2.1
theorem dkg_X12_137 : dkp cX12_fits [(36, .ifCond .eq 41, 3), (39, .aload_n 0, 1), (40, .getfield 46, 3), (43, .bipush 8, 2), (45, .iload_n 1, 1), (46, .imul, 1), (47, .iload 7, 2), (49, .iadd, 1), (50, .iaload, 1), (51, .aload_n 0, 1)] := dkf (by decide +kernel)
theorem dX12_fits_36 : decode cX12_fits 36 = .ok (.ifCond .eq 41, 3) := dkg_X12_137.1
theorem dX12_fits_39 : decode cX12_fits 39 = .ok (.aload_n 0, 1) := dkg_X12_137.2.1
theorem dX12_fits_40 : decode cX12_fits 40 = .ok (.getfield 46, 3) := dkg_X12_137.2.2.1
theorem dX12_fits_43 : decode cX12_fits 43 = .ok (.bipush 8, 2) := dkg_X12_137.2.2.2.1
theorem dX12_fits_45 : decode cX12_fits 45 = .ok (.iload_n 1, 1) := dkg_X12_137.2.2.2.2.1
theorem dX12_fits_46 : decode cX12_fits 46 = .ok (.imul, 1) := dkg_X12_137.2.2.2.2.2.1
theorem dX12_fits_47 : decode cX12_fits 47 = .ok (.iload 7, 2) := dkg_X12_137.2.2.2.2.2.2.1
theorem dX12_fits_49 : decode cX12_fits 49 = .ok (.iadd, 1) := dkg_X12_137.2.2.2.2.2.2.2.1
theorem dX12_fits_50 : decode cX12_fits 50 = .ok (.iaload, 1) := dkg_X12_137.2.2.2.2.2.2.2.2.1
theorem dX12_fits_51 : decode cX12_fits 51 = .ok (.aload_n 0, 1) := dkg_X12_137.2.2.2.2.2.2.2.2.2.1
theorem dkg_X12_138 : dkp cX12_fits [(52, .getfield 61, 3), (55, .iload 4, 2), (57, .iload 7, 2), (59, .iadd, 1), (60, .iaload, 1), (61, .if_icmp .ne 7, 3), (64, .iconst 1, 1), (65, .goto 4, 3), (68, .iconst 0, 1), (69, .istore 6, 2)] := dkf (by decide +kernel)
theorem dX12_fits_52 : decode cX12_fits 52 = .ok (.getfield 61, 3) := dkg_X12_138.1
theorem dX12_fits_55 : decode cX12_fits 55 = .ok (.iload 4, 2) := dkg_X12_138.2.1
theorem dX12_fits_57 : decode cX12_fits 57 = .ok (.iload 7, 2) := dkg_X12_138.2.2.1
theorem dX12_fits_59 : decode cX12_fits 59 = .ok (.iadd, 1) := dkg_X12_138.2.2.2.1
theorem dX12_fits_60 : decode cX12_fits 60 = .ok (.iaload, 1) := dkg_X12_138.2.2.2.2.1
theorem dX12_fits_61 : decode cX12_fits 61 = .ok (.if_icmp .ne 7, 3) := dkg_X12_138.2.2.2.2.2.1
theorem dX12_fits_64 : decode cX12_fits 64 = .ok (.iconst 1, 1) := dkg_X12_138.2.2.2.2.2.2.1
theorem dX12_fits_65 : decode cX12_fits 65 = .ok (.goto 4, 3) := dkg_X12_138.2.2.2.2.2.2.2.1
theorem dX12_fits_68 : decode cX12_fits 68 = .ok (.iconst 0, 1) := dkg_X12_138.2.2.2.2.2.2.2.2.1
theorem dX12_fits_69 : decode cX12_fits 69 = .ok (.istore 6, 2) := dkg_X12_138.2.2.2.2.2.2.2.2.2.1
theorem dkg_X12_139 : dkp cX12_fits [(71, .iinc 7 1, 3), (74, .goto (-47), 3), (77, .iload 6, 2), (79, .ifCond .ne 5, 3), (82, .iconst 0, 1), (83, .ireturn, 1), (84, .iload 4, 2), (86, .iload_n 2, 1), (87, .if_icmp .ne 7, 3), (90, .iconst 1, 1)] := dkf (by decide +kernel)
theorem dX12_fits_71 : decode cX12_fits 71 = .ok (.iinc 7 1, 3) := dkg_X12_139.1
theorem dX12_fits_74 : decode cX12_fits 74 = .ok (.goto (-47), 3) := dkg_X12_139.2.1
theorem dX12_fits_77 : decode cX12_fits 77 = .ok (.iload 6, 2) := dkg_X12_139.2.2.1
theorem dX12_fits_79 : decode cX12_fits 79 = .ok (.ifCond .ne 5, 3) := dkg_X12_139.2.2.2.1
theorem dX12_fits_82 : decode cX12_fits 82 = .ok (.iconst 0, 1) := dkg_X12_139.2.2.2.2.1
theorem dX12_fits_83 : decode cX12_fits 83 = .ok (.ireturn, 1) := dkg_X12_139.2.2.2.2.2.1
theorem dX12_fits_84 : decode cX12_fits 84 = .ok (.iload 4, 2) := dkg_X12_139.2.2.2.2.2.2.1
theorem dX12_fits_86 : decode cX12_fits 86 = .ok (.iload_n 2, 1) := dkg_X12_139.2.2.2.2.2.2.2.1
theorem dX12_fits_87 : decode cX12_fits 87 = .ok (.if_icmp .ne 7, 3) := dkg_X12_139.2.2.2.2.2.2.2.2.1
theorem dX12_fits_90 : decode cX12_fits 90 = .ok (.iconst 1, 1) := dkg_X12_139.2.2.2.2.2.2.2.2.2.1
theorem dkg_X12_140 : dkp cX12_fits [(91, .goto 4, 3), (94, .iconst 0, 1), (95, .istore 7, 2), (97, .iload 4, 2), (99, .iload 5, 2), (101, .iadd, 1), (102, .iload_n 3, 1), (103, .if_icmp .ne 7, 3), (106, .iconst 1, 1), (107, .goto 4, 3)] := dkf (by decide +kernel)
theorem dX12_fits_91 : decode cX12_fits 91 = .ok (.goto 4, 3) := dkg_X12_140.1
theorem dX12_fits_94 : decode cX12_fits 94 = .ok (.iconst 0, 1) := dkg_X12_140.2.1
theorem dX12_fits_95 : decode cX12_fits 95 = .ok (.istore 7, 2) := dkg_X12_140.2.2.1
theorem dX12_fits_97 : decode cX12_fits 97 = .ok (.iload 4, 2) := dkg_X12_140.2.2.2.1
theorem dX12_fits_99 : decode cX12_fits 99 = .ok (.iload 5, 2) := dkg_X12_140.2.2.2.2.1
theorem dX12_fits_101 : decode cX12_fits 101 = .ok (.iadd, 1) := dkg_X12_140.2.2.2.2.2.1
theorem dX12_fits_102 : decode cX12_fits 102 = .ok (.iload_n 3, 1) := dkg_X12_140.2.2.2.2.2.2.1
theorem dX12_fits_103 : decode cX12_fits 103 = .ok (.if_icmp .ne 7, 3) := dkg_X12_140.2.2.2.2.2.2.2.1
theorem dX12_fits_106 : decode cX12_fits 106 = .ok (.iconst 1, 1) := dkg_X12_140.2.2.2.2.2.2.2.2.1
theorem dX12_fits_107 : decode cX12_fits 107 = .ok (.goto 4, 3) := dkg_X12_140.2.2.2.2.2.2.2.2.2.1
theorem dkg_X12_141 : dkp cX12_fits [(110, .iconst 0, 1), (111, .istore 8, 2), (113, .aload_n 0, 1), (114, .getfield 36, 3), (117, .iload_n 1, 1), (118, .iaload, 1), (152, .iconst 1, 1), (153, .ireturn, 1), (154, .iload 7, 2), (156, .ireturn, 1)] := dkf (by decide +kernel)
theorem dX12_fits_110 : decode cX12_fits 110 = .ok (.iconst 0, 1) := dkg_X12_141.1
theorem dX12_fits_111 : decode cX12_fits 111 = .ok (.istore 8, 2) := dkg_X12_141.2.1
theorem dX12_fits_113 : decode cX12_fits 113 = .ok (.aload_n 0, 1) := dkg_X12_141.2.2.1
theorem dX12_fits_114 : decode cX12_fits 114 = .ok (.getfield 36, 3) := dkg_X12_141.2.2.2.1
theorem dX12_fits_117 : decode cX12_fits 117 = .ok (.iload_n 1, 1) := dkg_X12_141.2.2.2.2.1
theorem dX12_fits_118 : decode cX12_fits 118 = .ok (.iaload, 1) := dkg_X12_141.2.2.2.2.2.1
theorem dX12_fits_152 : decode cX12_fits 152 = .ok (.iconst 1, 1) := dkg_X12_141.2.2.2.2.2.2.1
theorem dX12_fits_153 : decode cX12_fits 153 = .ok (.ireturn, 1) := dkg_X12_141.2.2.2.2.2.2.2.1
theorem dX12_fits_154 : decode cX12_fits 154 = .ok (.iload 7, 2) := dkg_X12_141.2.2.2.2.2.2.2.2.1
theorem dX12_fits_156 : decode cX12_fits 156 = .ok (.ireturn, 1) := dkg_X12_141.2.2.2.2.2.2.2.2.2.1
theorem dkg_X12_142 : dkp cX12_fits [(157, .iload 7, 2), (159, .ifCond .ne 12, 3), (162, .iload 8, 2), (164, .ifCond .ne 7, 3), (167, .iconst 1, 1), (168, .goto 4, 3), (171, .iconst 0, 1), (172, .ireturn, 1), (173, .iload 8, 2), (175, .ireturn, 1)] := dkf (by decide +kernel)
theorem dX12_fits_157 : decode cX12_fits 157 = .ok (.iload 7, 2) := dkg_X12_142.1
theorem dX12_fits_159 : decode cX12_fits 159 = .ok (.ifCond .ne 12, 3) := dkg_X12_142.2.1
theorem dX12_fits_162 : decode cX12_fits 162 = .ok (.iload 8, 2) := dkg_X12_142.2.2.1
theorem dX12_fits_164 : decode cX12_fits 164 = .ok (.ifCond .ne 7, 3) := dkg_X12_142.2.2.2.1
theorem dX12_fits_167 : decode cX12_fits 167 = .ok (.iconst 1, 1) := dkg_X12_142.2.2.2.2.1
theorem dX12_fits_168 : decode cX12_fits 168 = .ok (.goto 4, 3) := dkg_X12_142.2.2.2.2.2.1
theorem dX12_fits_171 : decode cX12_fits 171 = .ok (.iconst 0, 1) := dkg_X12_142.2.2.2.2.2.2.1
theorem dX12_fits_172 : decode cX12_fits 172 = .ok (.ireturn, 1) := dkg_X12_142.2.2.2.2.2.2.2.1
theorem dX12_fits_173 : decode cX12_fits 173 = .ok (.iload 8, 2) := dkg_X12_142.2.2.2.2.2.2.2.2.1
theorem dX12_fits_175 : decode cX12_fits 175 = .ok (.ireturn, 1) := dkg_X12_142.2.2.2.2.2.2.2.2.2.1
theorem dkg_X12_143 : dkp cX12_fits [(176, .iload 7, 2), (178, .ifCond .eq 12, 3), (181, .iload 8, 2), (183, .ifCond .eq 7, 3), (186, .iconst 1, 1), (187, .goto 4, 3), (190, .iconst 0, 1), (191, .ireturn, 1), (192, .iload 8, 2), (194, .ifCond .ne 55, 3)] := dkf (by decide +kernel)
theorem dX12_fits_176 : decode cX12_fits 176 = .ok (.iload 7, 2) := dkg_X12_143.1
theorem dX12_fits_178 : decode cX12_fits 178 = .ok (.ifCond .eq 12, 3) := dkg_X12_143.2.1
theorem dX12_fits_181 : decode cX12_fits 181 = .ok (.iload 8, 2) := dkg_X12_143.2.2.1
theorem dX12_fits_183 : decode cX12_fits 183 = .ok (.ifCond .eq 7, 3) := dkg_X12_143.2.2.2.1
theorem dX12_fits_186 : decode cX12_fits 186 = .ok (.iconst 1, 1) := dkg_X12_143.2.2.2.2.1
theorem dX12_fits_187 : decode cX12_fits 187 = .ok (.goto 4, 3) := dkg_X12_143.2.2.2.2.2.1
theorem dX12_fits_190 : decode cX12_fits 190 = .ok (.iconst 0, 1) := dkg_X12_143.2.2.2.2.2.2.1
theorem dX12_fits_191 : decode cX12_fits 191 = .ok (.ireturn, 1) := dkg_X12_143.2.2.2.2.2.2.2.1
theorem dX12_fits_192 : decode cX12_fits 192 = .ok (.iload 8, 2) := dkg_X12_143.2.2.2.2.2.2.2.2.1
theorem dX12_fits_194 : decode cX12_fits 194 = .ok (.ifCond .ne 55, 3) := dkg_X12_143.2.2.2.2.2.2.2.2.2.1
theorem dkg_X12_144 : dkp cX12_fits [(197, .aload_n 0, 1), (198, .getfield 61, 3), (201, .iload 4, 2), (203, .iload 5, 2), (205, .iadd, 1), (206, .iaload, 1), (207, .invokestatic 202, 3), (210, .ifCond .ne 39, 3), (213, .aload_n 0, 1), (214, .getfield 61, 3)] := dkf (by decide +kernel)
theorem dX12_fits_197 : decode cX12_fits 197 = .ok (.aload_n 0, 1) := dkg_X12_144.1
theorem dX12_fits_198 : decode cX12_fits 198 = .ok (.getfield 61, 3) := dkg_X12_144.2.1
theorem dX12_fits_201 : decode cX12_fits 201 = .ok (.iload 4, 2) := dkg_X12_144.2.2.1
theorem dX12_fits_203 : decode cX12_fits 203 = .ok (.iload 5, 2) := dkg_X12_144.2.2.2.1
theorem dX12_fits_205 : decode cX12_fits 205 = .ok (.iadd, 1) := dkg_X12_144.2.2.2.2.1
theorem dX12_fits_206 : decode cX12_fits 206 = .ok (.iaload, 1) := dkg_X12_144.2.2.2.2.2.1
theorem dX12_fits_207 : decode cX12_fits 207 = .ok (.invokestatic 202, 3) := dkg_X12_144.2.2.2.2.2.2.1
theorem dX12_fits_210 : decode cX12_fits 210 = .ok (.ifCond .ne 39, 3) := dkg_X12_144.2.2.2.2.2.2.2.1
theorem dX12_fits_213 : decode cX12_fits 213 = .ok (.aload_n 0, 1) := dkg_X12_144.2.2.2.2.2.2.2.2.1
theorem dX12_fits_214 : decode cX12_fits 214 = .ok (.getfield 61, 3) := dkg_X12_144.2.2.2.2.2.2.2.2.2.1
theorem dkg_X12_145 : dkp cX12_fits [(217, .iload 4, 2), (219, .iload 5, 2), (221, .iadd, 1), (222, .iaload, 1), (223, .invokestatic 205, 3), (226, .ifCond .ne 23, 3), (229, .aload_n 0, 1), (230, .getfield 61, 3), (233, .iload 4, 2), (235, .iload 5, 2)] := dkf (by decide +kernel)
theorem dX12_fits_217 : decode cX12_fits 217 = .ok (.iload 4, 2) := dkg_X12_145.1
theorem dX12_fits_219 : decode cX12_fits 219 = .ok (.iload 5, 2) := dkg_X12_145.2.1
theorem dX12_fits_221 : decode cX12_fits 221 = .ok (.iadd, 1) := dkg_X12_145.2.2.1
theorem dX12_fits_222 : decode cX12_fits 222 = .ok (.iaload, 1) := dkg_X12_145.2.2.2.1
theorem dX12_fits_223 : decode cX12_fits 223 = .ok (.invokestatic 205, 3) := dkg_X12_145.2.2.2.2.1
theorem dX12_fits_226 : decode cX12_fits 226 = .ok (.ifCond .ne 23, 3) := dkg_X12_145.2.2.2.2.2.1
theorem dX12_fits_229 : decode cX12_fits 229 = .ok (.aload_n 0, 1) := dkg_X12_145.2.2.2.2.2.2.1
theorem dX12_fits_230 : decode cX12_fits 230 = .ok (.getfield 61, 3) := dkg_X12_145.2.2.2.2.2.2.2.1
theorem dX12_fits_233 : decode cX12_fits 233 = .ok (.iload 4, 2) := dkg_X12_145.2.2.2.2.2.2.2.2.1
theorem dX12_fits_235 : decode cX12_fits 235 = .ok (.iload 5, 2) := dkg_X12_145.2.2.2.2.2.2.2.2.2.1
theorem dkg_X12_146 : dkp cX12_fits [(237, .iadd, 1), (238, .iaload, 1), (239, .invokestatic 208, 3), (242, .ifCond .ne 7, 3), (245, .iconst 1, 1), (246, .goto 4, 3), (249, .iconst 0, 1), (250, .ireturn, 1)] := dkf (by decide +kernel)
theorem dX12_fits_237 : decode cX12_fits 237 = .ok (.iadd, 1) := dkg_X12_146.1
theorem dX12_fits_238 : decode cX12_fits 238 = .ok (.iaload, 1) := dkg_X12_146.2.1
theorem dX12_fits_239 : decode cX12_fits 239 = .ok (.invokestatic 208, 3) := dkg_X12_146.2.2.1
theorem dX12_fits_242 : decode cX12_fits 242 = .ok (.ifCond .ne 7, 3) := dkg_X12_146.2.2.2.1
theorem dX12_fits_245 : decode cX12_fits 245 = .ok (.iconst 1, 1) := dkg_X12_146.2.2.2.2.1
theorem dX12_fits_246 : decode cX12_fits 246 = .ok (.goto 4, 3) := dkg_X12_146.2.2.2.2.2.1
theorem dX12_fits_249 : decode cX12_fits 249 = .ok (.iconst 0, 1) := dkg_X12_146.2.2.2.2.2.2.1
theorem dX12_fits_250 : decode cX12_fits 250 = .ok (.ireturn, 1) := dkg_X12_146.2.2.2.2.2.2.2.1
theorem dkg_X12_147 : dkp cX12_fits [(119, .tableswitch 73 0 4 #[33, 35, 38, 54, 57], 33)] := dkq (by decide +kernel)
theorem dX12_fits_119 : decode cX12_fits 119 = .ok (.tableswitch 73 0 4 #[33, 35, 38, 54, 57], 33) := dkg_X12_147.1
theorem dkg_X12_148 : dkp cX12_own [(0, .iconst (-1), 1), (1, .istore 5, 2), (3, .sipush 200, 3), (6, .iload_n 1, 1), (7, .imul, 1), (8, .istore 6, 2), (10, .iload 6, 2), (12, .sipush 200, 3), (15, .iload_n 1, 1), (16, .imul, 1)] := dkf (by decide +kernel)
theorem dX12_own_0 : decode cX12_own 0 = .ok (.iconst (-1), 1) := dkg_X12_148.1
theorem dX12_own_1 : decode cX12_own 1 = .ok (.istore 5, 2) := dkg_X12_148.2.1
theorem dX12_own_3 : decode cX12_own 3 = .ok (.sipush 200, 3) := dkg_X12_148.2.2.1
theorem dX12_own_6 : decode cX12_own 6 = .ok (.iload_n 1, 1) := dkg_X12_148.2.2.2.1
theorem dX12_own_7 : decode cX12_own 7 = .ok (.imul, 1) := dkg_X12_148.2.2.2.2.1
theorem dX12_own_8 : decode cX12_own 8 = .ok (.istore 6, 2) := dkg_X12_148.2.2.2.2.2.1
theorem dX12_own_10 : decode cX12_own 10 = .ok (.iload 6, 2) := dkg_X12_148.2.2.2.2.2.2.1
theorem dX12_own_12 : decode cX12_own 12 = .ok (.sipush 200, 3) := dkg_X12_148.2.2.2.2.2.2.2.1
theorem dX12_own_15 : decode cX12_own 15 = .ok (.iload_n 1, 1) := dkg_X12_148.2.2.2.2.2.2.2.2.1
theorem dX12_own_16 : decode cX12_own 16 = .ok (.imul, 1) := dkg_X12_148.2.2.2.2.2.2.2.2.2.1
theorem dkg_X12_149 : dkp cX12_own [(17, .aload_n 0, 1), (18, .getfield 33, 3), (21, .iload_n 1, 1), (22, .iaload, 1), (23, .iadd, 1), (24, .if_icmp .ge 48, 3), (27, .iload 5, 2), (29, .ifCond .lt 20, 3), (32, .aload_n 0, 1), (33, .getfield 39, 3)] := dkf (by decide +kernel)
theorem dX12_own_17 : decode cX12_own 17 = .ok (.aload_n 0, 1) := dkg_X12_149.1
theorem dX12_own_18 : decode cX12_own 18 = .ok (.getfield 33, 3) := dkg_X12_149.2.1
theorem dX12_own_21 : decode cX12_own 21 = .ok (.iload_n 1, 1) := dkg_X12_149.2.2.1
theorem dX12_own_22 : decode cX12_own 22 = .ok (.iaload, 1) := dkg_X12_149.2.2.2.1
theorem dX12_own_23 : decode cX12_own 23 = .ok (.iadd, 1) := dkg_X12_149.2.2.2.2.1
theorem dX12_own_24 : decode cX12_own 24 = .ok (.if_icmp .ge 48, 3) := dkg_X12_149.2.2.2.2.2.1
theorem dX12_own_27 : decode cX12_own 27 = .ok (.iload 5, 2) := dkg_X12_149.2.2.2.2.2.2.1
theorem dX12_own_29 : decode cX12_own 29 = .ok (.ifCond .lt 20, 3) := dkg_X12_149.2.2.2.2.2.2.2.1
theorem dX12_own_32 : decode cX12_own 32 = .ok (.aload_n 0, 1) := dkg_X12_149.2.2.2.2.2.2.2.2.1
theorem dX12_own_33 : decode cX12_own 33 = .ok (.getfield 39, 3) := dkg_X12_149.2.2.2.2.2.2.2.2.2.1
theorem dkg_X12_150 : dkp cX12_own [(36, .iload 6, 2), (38, .iaload, 1), (39, .aload_n 0, 1), (40, .getfield 39, 3), (43, .iload 5, 2), (45, .iaload, 1), (46, .if_icmp .le 20, 3), (49, .aload_n 0, 1), (50, .iload 6, 2), (52, .iload_n 2, 1)] := dkf (by decide +kernel)
theorem dX12_own_36 : decode cX12_own 36 = .ok (.iload 6, 2) := dkg_X12_150.1
theorem dX12_own_38 : decode cX12_own 38 = .ok (.iaload, 1) := dkg_X12_150.2.1
theorem dX12_own_39 : decode cX12_own 39 = .ok (.aload_n 0, 1) := dkg_X12_150.2.2.1
theorem dX12_own_40 : decode cX12_own 40 = .ok (.getfield 39, 3) := dkg_X12_150.2.2.2.1
theorem dX12_own_43 : decode cX12_own 43 = .ok (.iload 5, 2) := dkg_X12_150.2.2.2.2.1
theorem dX12_own_45 : decode cX12_own 45 = .ok (.iaload, 1) := dkg_X12_150.2.2.2.2.2.1
theorem dX12_own_46 : decode cX12_own 46 = .ok (.if_icmp .le 20, 3) := dkg_X12_150.2.2.2.2.2.2.1
theorem dX12_own_49 : decode cX12_own 49 = .ok (.aload_n 0, 1) := dkg_X12_150.2.2.2.2.2.2.2.1
theorem dX12_own_50 : decode cX12_own 50 = .ok (.iload 6, 2) := dkg_X12_150.2.2.2.2.2.2.2.2.1
theorem dX12_own_52 : decode cX12_own 52 = .ok (.iload_n 2, 1) := dkg_X12_150.2.2.2.2.2.2.2.2.2.1
theorem dkg_X12_151 : dkp cX12_own [(53, .iload_n 3, 1), (54, .iload 4, 2), (56, .invokevirtual 211, 3), (59, .ifCond .eq 7, 3), (62, .iload 6, 2), (64, .istore 5, 2), (66, .iinc 6 1, 3), (69, .goto (-59), 3), (72, .iload 5, 2), (74, .ireturn, 1)] := dkf (by decide +kernel)
theorem dX12_own_53 : decode cX12_own 53 = .ok (.iload_n 3, 1) := dkg_X12_151.1
theorem dX12_own_54 : decode cX12_own 54 = .ok (.iload 4, 2) := dkg_X12_151.2.1
theorem dX12_own_56 : decode cX12_own 56 = .ok (.invokevirtual 211, 3) := dkg_X12_151.2.2.1
theorem dX12_own_59 : decode cX12_own 59 = .ok (.ifCond .eq 7, 3) := dkg_X12_151.2.2.2.1
theorem dX12_own_62 : decode cX12_own 62 = .ok (.iload 6, 2) := dkg_X12_151.2.2.2.2.1
theorem dX12_own_64 : decode cX12_own 64 = .ok (.istore 5, 2) := dkg_X12_151.2.2.2.2.2.1
theorem dX12_own_66 : decode cX12_own 66 = .ok (.iinc 6 1, 3) := dkg_X12_151.2.2.2.2.2.2.1
theorem dX12_own_69 : decode cX12_own 69 = .ok (.goto (-59), 3) := dkg_X12_151.2.2.2.2.2.2.2.1
theorem dX12_own_72 : decode cX12_own 72 = .ok (.iload 5, 2) := dkg_X12_151.2.2.2.2.2.2.2.2.1
theorem dX12_own_74 : decode cX12_own 74 = .ok (.ireturn, 1) := dkg_X12_151.2.2.2.2.2.2.2.2.2.1
theorem dkg_X12_152 : dkp cX12_find [(0, .aload_n 0, 1), (1, .getfield 76, 3), (4, .aload_n 0, 1), (5, .getfield 21, 3), (8, .iload_n 1, 1), (9, .iaload, 1), (10, .dup2, 1), (11, .iaload, 1), (12, .iconst 1, 1), (13, .iadd, 1)] := dkf (by decide +kernel)
theorem dX12_find_0 : decode cX12_find 0 = .ok (.aload_n 0, 1) := dkg_X12_152.1
theorem dX12_find_1 : decode cX12_find 1 = .ok (.getfield 76, 3) := dkg_X12_152.2.1
theorem dX12_find_4 : decode cX12_find 4 = .ok (.aload_n 0, 1) := dkg_X12_152.2.2.1
theorem dX12_find_5 : decode cX12_find 5 = .ok (.getfield 21, 3) := dkg_X12_152.2.2.2.1
theorem dX12_find_8 : decode cX12_find 8 = .ok (.iload_n 1, 1) := dkg_X12_152.2.2.2.2.1
theorem dX12_find_9 : decode cX12_find 9 = .ok (.iaload, 1) := dkg_X12_152.2.2.2.2.2.1
theorem dX12_find_10 : decode cX12_find 10 = .ok (.dup2, 1) := dkg_X12_152.2.2.2.2.2.2.1
theorem dX12_find_11 : decode cX12_find 11 = .ok (.iaload, 1) := dkg_X12_152.2.2.2.2.2.2.2.1
theorem dX12_find_12 : decode cX12_find 12 = .ok (.iconst 1, 1) := dkg_X12_152.2.2.2.2.2.2.2.2.1
theorem dX12_find_13 : decode cX12_find 13 = .ok (.iadd, 1) := dkg_X12_152.2.2.2.2.2.2.2.2.2.1
theorem dkg_X12_153 : dkp cX12_find [(14, .iastore, 1), (15, .aload_n 0, 1), (16, .getfield 21, 3), (19, .iload_n 1, 1), (20, .iaload, 1), (48, .aload_n 0, 1), (49, .iload_n 1, 1), (50, .iload_n 2, 1), (51, .iload_n 3, 1), (52, .iload 4, 2)] := dkf (by decide +kernel)
theorem dX12_find_14 : decode cX12_find 14 = .ok (.iastore, 1) := dkg_X12_153.1
theorem dX12_find_15 : decode cX12_find 15 = .ok (.aload_n 0, 1) := dkg_X12_153.2.1
theorem dX12_find_16 : decode cX12_find 16 = .ok (.getfield 21, 3) := dkg_X12_153.2.2.1
theorem dX12_find_19 : decode cX12_find 19 = .ok (.iload_n 1, 1) := dkg_X12_153.2.2.2.1
theorem dX12_find_20 : decode cX12_find 20 = .ok (.iaload, 1) := dkg_X12_153.2.2.2.2.1
theorem dX12_find_48 : decode cX12_find 48 = .ok (.aload_n 0, 1) := dkg_X12_153.2.2.2.2.2.1
theorem dX12_find_49 : decode cX12_find 49 = .ok (.iload_n 1, 1) := dkg_X12_153.2.2.2.2.2.2.1
theorem dX12_find_50 : decode cX12_find 50 = .ok (.iload_n 2, 1) := dkg_X12_153.2.2.2.2.2.2.2.1
theorem dX12_find_51 : decode cX12_find 51 = .ok (.iload_n 3, 1) := dkg_X12_153.2.2.2.2.2.2.2.2.1
theorem dX12_find_52 : decode cX12_find 52 = .ok (.iload 4, 2) := dkg_X12_153.2.2.2.2.2.2.2.2.2.1
theorem dkg_X12_154 : dkp cX12_find [(54, .invokevirtual 215, 3), (57, .ireturn, 1), (58, .aload_n 0, 1), (59, .getfield 61, 3), (62, .iload 4, 2), (64, .iaload, 1), (65, .invokestatic 202, 3), (68, .ifCond .ne 18, 3), (71, .aload_n 0, 1), (72, .aload_n 0, 1)] := dkf (by decide +kernel)
theorem dX12_find_54 : decode cX12_find 54 = .ok (.invokevirtual 215, 3) := dkg_X12_154.1
theorem dX12_find_57 : decode cX12_find 57 = .ok (.ireturn, 1) := dkg_X12_154.2.1
theorem dX12_find_58 : decode cX12_find 58 = .ok (.aload_n 0, 1) := dkg_X12_154.2.2.1
theorem dX12_find_59 : decode cX12_find 59 = .ok (.getfield 61, 3) := dkg_X12_154.2.2.2.1
theorem dX12_find_62 : decode cX12_find 62 = .ok (.iload 4, 2) := dkg_X12_154.2.2.2.2.1
theorem dX12_find_64 : decode cX12_find 64 = .ok (.iaload, 1) := dkg_X12_154.2.2.2.2.2.1
theorem dX12_find_65 : decode cX12_find 65 = .ok (.invokestatic 202, 3) := dkg_X12_154.2.2.2.2.2.2.1
theorem dX12_find_68 : decode cX12_find 68 = .ok (.ifCond .ne 18, 3) := dkg_X12_154.2.2.2.2.2.2.2.1
theorem dX12_find_71 : decode cX12_find 71 = .ok (.aload_n 0, 1) := dkg_X12_154.2.2.2.2.2.2.2.2.1
theorem dX12_find_72 : decode cX12_find 72 = .ok (.aload_n 0, 1) := dkg_X12_154.2.2.2.2.2.2.2.2.2.1
theorem dkg_X12_155 : dkp cX12_find [(73, .getfield 27, 3), (76, .iload_n 1, 1), (77, .iaload, 1), (78, .iload_n 2, 1), (79, .iload_n 3, 1), (80, .iload 4, 2), (82, .invokevirtual 218, 3), (85, .ireturn, 1), (86, .aload_n 0, 1), (87, .getfield 76, 3)] := dkf (by decide +kernel)
theorem dX12_find_73 : decode cX12_find 73 = .ok (.getfield 27, 3) := dkg_X12_155.1
theorem dX12_find_76 : decode cX12_find 76 = .ok (.iload_n 1, 1) := dkg_X12_155.2.1
theorem dX12_find_77 : decode cX12_find 77 = .ok (.iaload, 1) := dkg_X12_155.2.2.1
theorem dX12_find_78 : decode cX12_find 78 = .ok (.iload_n 2, 1) := dkg_X12_155.2.2.2.1
theorem dX12_find_79 : decode cX12_find 79 = .ok (.iload_n 3, 1) := dkg_X12_155.2.2.2.2.1
theorem dX12_find_80 : decode cX12_find 80 = .ok (.iload 4, 2) := dkg_X12_155.2.2.2.2.2.1
theorem dX12_find_82 : decode cX12_find 82 = .ok (.invokevirtual 218, 3) := dkg_X12_155.2.2.2.2.2.2.1
theorem dX12_find_85 : decode cX12_find 85 = .ok (.ireturn, 1) := dkg_X12_155.2.2.2.2.2.2.2.1
theorem dX12_find_86 : decode cX12_find 86 = .ok (.aload_n 0, 1) := dkg_X12_155.2.2.2.2.2.2.2.2.1
theorem dX12_find_87 : decode cX12_find 87 = .ok (.getfield 76, 3) := dkg_X12_155.2.2.2.2.2.2.2.2.2.1
theorem dkg_X12_156 : dkp cX12_find [(90, .iconst 0, 1), (91, .dup2, 1), (92, .iaload, 1), (93, .iconst 1, 1), (94, .iadd, 1), (95, .iastore, 1), (96, .aload_n 0, 1), (97, .iload_n 1, 1), (98, .iload_n 2, 1), (99, .iload_n 3, 1)] := dkf (by decide +kernel)
theorem dX12_find_90 : decode cX12_find 90 = .ok (.iconst 0, 1) := dkg_X12_156.1
theorem dX12_find_91 : decode cX12_find 91 = .ok (.dup2, 1) := dkg_X12_156.2.1
theorem dX12_find_92 : decode cX12_find 92 = .ok (.iaload, 1) := dkg_X12_156.2.2.1
theorem dX12_find_93 : decode cX12_find 93 = .ok (.iconst 1, 1) := dkg_X12_156.2.2.2.1
theorem dX12_find_94 : decode cX12_find 94 = .ok (.iadd, 1) := dkg_X12_156.2.2.2.2.1
theorem dX12_find_95 : decode cX12_find 95 = .ok (.iastore, 1) := dkg_X12_156.2.2.2.2.2.1
theorem dX12_find_96 : decode cX12_find 96 = .ok (.aload_n 0, 1) := dkg_X12_156.2.2.2.2.2.2.1
theorem dX12_find_97 : decode cX12_find 97 = .ok (.iload_n 1, 1) := dkg_X12_156.2.2.2.2.2.2.2.1
theorem dX12_find_98 : decode cX12_find 98 = .ok (.iload_n 2, 1) := dkg_X12_156.2.2.2.2.2.2.2.2.1
theorem dX12_find_99 : decode cX12_find 99 = .ok (.iload_n 3, 1) := dkg_X12_156.2.2.2.2.2.2.2.2.2.1
theorem dkg_X12_157 : dkp cX12_find [(100, .iload 4, 2), (102, .invokevirtual 221, 3), (105, .ireturn, 1), (106, .aload_n 0, 1), (107, .getfield 76, 3), (110, .iconst 1, 1), (111, .dup2, 1), (112, .iaload, 1), (113, .iconst 1, 1), (114, .iadd, 1)] := dkf (by decide +kernel)
theorem dX12_find_100 : decode cX12_find 100 = .ok (.iload 4, 2) := dkg_X12_157.1
theorem dX12_find_102 : decode cX12_find 102 = .ok (.invokevirtual 221, 3) := dkg_X12_157.2.1
theorem dX12_find_105 : decode cX12_find 105 = .ok (.ireturn, 1) := dkg_X12_157.2.2.1
theorem dX12_find_106 : decode cX12_find 106 = .ok (.aload_n 0, 1) := dkg_X12_157.2.2.2.1
theorem dX12_find_107 : decode cX12_find 107 = .ok (.getfield 76, 3) := dkg_X12_157.2.2.2.2.1
theorem dX12_find_110 : decode cX12_find 110 = .ok (.iconst 1, 1) := dkg_X12_157.2.2.2.2.2.1
theorem dX12_find_111 : decode cX12_find 111 = .ok (.dup2, 1) := dkg_X12_157.2.2.2.2.2.2.1
theorem dX12_find_112 : decode cX12_find 112 = .ok (.iaload, 1) := dkg_X12_157.2.2.2.2.2.2.2.1
theorem dX12_find_113 : decode cX12_find 113 = .ok (.iconst 1, 1) := dkg_X12_157.2.2.2.2.2.2.2.2.1
theorem dX12_find_114 : decode cX12_find 114 = .ok (.iadd, 1) := dkg_X12_157.2.2.2.2.2.2.2.2.2.1
theorem dkg_X12_158 : dkp cX12_find [(115, .iastore, 1), (116, .aload_n 0, 1), (117, .getfield 61, 3), (120, .iload 4, 2), (122, .iaload, 1), (123, .istore 5, 2), (125, .aload_n 0, 1), (126, .getfield 61, 3), (129, .iload 4, 2), (131, .iload 5, 2)] := dkf (by decide +kernel)
theorem dX12_find_115 : decode cX12_find 115 = .ok (.iastore, 1) := dkg_X12_158.1
theorem dX12_find_116 : decode cX12_find 116 = .ok (.aload_n 0, 1) := dkg_X12_158.2.1
theorem dX12_find_117 : decode cX12_find 117 = .ok (.getfield 61, 3) := dkg_X12_158.2.2.1
theorem dX12_find_120 : decode cX12_find 120 = .ok (.iload 4, 2) := dkg_X12_158.2.2.2.1
theorem dX12_find_122 : decode cX12_find 122 = .ok (.iaload, 1) := dkg_X12_158.2.2.2.2.1
theorem dX12_find_123 : decode cX12_find 123 = .ok (.istore 5, 2) := dkg_X12_158.2.2.2.2.2.1
theorem dX12_find_125 : decode cX12_find 125 = .ok (.aload_n 0, 1) := dkg_X12_158.2.2.2.2.2.2.1
theorem dX12_find_126 : decode cX12_find 126 = .ok (.getfield 61, 3) := dkg_X12_158.2.2.2.2.2.2.2.1
theorem dX12_find_129 : decode cX12_find 129 = .ok (.iload 4, 2) := dkg_X12_158.2.2.2.2.2.2.2.2.1
theorem dX12_find_131 : decode cX12_find 131 = .ok (.iload 5, 2) := dkg_X12_158.2.2.2.2.2.2.2.2.2.1
theorem dkg_X12_159 : dkp cX12_find [(133, .invokestatic 205, 3), (136, .ifCond .eq 11, 3), (139, .iload 5, 2), (141, .bipush 32, 2), (143, .iadd, 1), (144, .goto 5, 3), (147, .iload 5, 2), (149, .iastore, 1), (150, .aload_n 0, 1), (151, .iload_n 1, 1)] := dkf (by decide +kernel)
theorem dX12_find_133 : decode cX12_find 133 = .ok (.invokestatic 205, 3) := dkg_X12_159.1
theorem dX12_find_136 : decode cX12_find 136 = .ok (.ifCond .eq 11, 3) := dkg_X12_159.2.1
theorem dX12_find_139 : decode cX12_find 139 = .ok (.iload 5, 2) := dkg_X12_159.2.2.1
theorem dX12_find_141 : decode cX12_find 141 = .ok (.bipush 32, 2) := dkg_X12_159.2.2.2.1
theorem dX12_find_143 : decode cX12_find 143 = .ok (.iadd, 1) := dkg_X12_159.2.2.2.2.1
theorem dX12_find_144 : decode cX12_find 144 = .ok (.goto 5, 3) := dkg_X12_159.2.2.2.2.2.1
theorem dX12_find_147 : decode cX12_find 147 = .ok (.iload 5, 2) := dkg_X12_159.2.2.2.2.2.2.1
theorem dX12_find_149 : decode cX12_find 149 = .ok (.iastore, 1) := dkg_X12_159.2.2.2.2.2.2.2.1
theorem dX12_find_150 : decode cX12_find 150 = .ok (.aload_n 0, 1) := dkg_X12_159.2.2.2.2.2.2.2.2.1
theorem dX12_find_151 : decode cX12_find 151 = .ok (.iload_n 1, 1) := dkg_X12_159.2.2.2.2.2.2.2.2.2.1
theorem dkg_X12_160 : dkp cX12_find [(152, .iload_n 2, 1), (153, .iload_n 3, 1), (154, .iload 4, 2), (156, .invokevirtual 215, 3), (159, .istore 6, 2), (161, .aload_n 0, 1), (162, .getfield 61, 3), (165, .iload 4, 2), (167, .iload 5, 2), (169, .iastore, 1)] := dkf (by decide +kernel)
theorem dX12_find_152 : decode cX12_find 152 = .ok (.iload_n 2, 1) := dkg_X12_160.1
theorem dX12_find_153 : decode cX12_find 153 = .ok (.iload_n 3, 1) := dkg_X12_160.2.1
theorem dX12_find_154 : decode cX12_find 154 = .ok (.iload 4, 2) := dkg_X12_160.2.2.1
theorem dX12_find_156 : decode cX12_find 156 = .ok (.invokevirtual 215, 3) := dkg_X12_160.2.2.2.1
theorem dX12_find_159 : decode cX12_find 159 = .ok (.istore 6, 2) := dkg_X12_160.2.2.2.2.1
theorem dX12_find_161 : decode cX12_find 161 = .ok (.aload_n 0, 1) := dkg_X12_160.2.2.2.2.2.1
theorem dX12_find_162 : decode cX12_find 162 = .ok (.getfield 61, 3) := dkg_X12_160.2.2.2.2.2.2.1
theorem dX12_find_165 : decode cX12_find 165 = .ok (.iload 4, 2) := dkg_X12_160.2.2.2.2.2.2.2.1
theorem dX12_find_167 : decode cX12_find 167 = .ok (.iload 5, 2) := dkg_X12_160.2.2.2.2.2.2.2.2.1
theorem dX12_find_169 : decode cX12_find 169 = .ok (.iastore, 1) := dkg_X12_160.2.2.2.2.2.2.2.2.2.1
theorem dkg_X12_161 : dkp cX12_find [(170, .iload 6, 2), (172, .ireturn, 1), (173, .aload_n 0, 1), (174, .iload_n 1, 1), (175, .iload_n 2, 1), (176, .iload_n 3, 1), (177, .iload 4, 2), (179, .invokevirtual 221, 3), (182, .ireturn, 1)] := dkf (by decide +kernel)
theorem dX12_find_170 : decode cX12_find 170 = .ok (.iload 6, 2) := dkg_X12_161.1
theorem dX12_find_172 : decode cX12_find 172 = .ok (.ireturn, 1) := dkg_X12_161.2.1
theorem dX12_find_173 : decode cX12_find 173 = .ok (.aload_n 0, 1) := dkg_X12_161.2.2.1
theorem dX12_find_174 : decode cX12_find 174 = .ok (.iload_n 1, 1) := dkg_X12_161.2.2.2.1
theorem dX12_find_175 : decode cX12_find 175 = .ok (.iload_n 2, 1) := dkg_X12_161.2.2.2.2.1
theorem dX12_find_176 : decode cX12_find 176 = .ok (.iload_n 3, 1) := dkg_X12_161.2.2.2.2.2.1
theorem dX12_find_177 : decode cX12_find 177 = .ok (.iload 4, 2) := dkg_X12_161.2.2.2.2.2.2.1
theorem dX12_find_179 : decode cX12_find 179 = .ok (.invokevirtual 221, 3) := dkg_X12_161.2.2.2.2.2.2.2.1
theorem dX12_find_182 : decode cX12_find 182 = .ok (.ireturn, 1) := dkg_X12_161.2.2.2.2.2.2.2.2.1
theorem dkg_X12_162 : dkp cX12_find [(21, .tableswitch 152 1 3 #[27, 37, 85], 27)] := dkq (by decide +kernel)
theorem dX12_find_21 : decode cX12_find 21 = .ok (.tableswitch 152 1 3 #[27, 37, 85], 27) := dkg_X12_162.1
theorem dkg_X12_163 : dkp cX12_contracted [(0, .aload_n 0, 1), (1, .getfield 76, 3), (4, .iconst 0, 1), (5, .dup2, 1), (6, .iaload, 1), (7, .iconst 1, 1), (8, .iadd, 1), (9, .iastore, 1), (10, .aload_n 0, 1), (11, .iload_n 1, 1)] := dkf (by decide +kernel)
theorem dX12_contracted_0 : decode cX12_contracted 0 = .ok (.aload_n 0, 1) := dkg_X12_163.1
theorem dX12_contracted_1 : decode cX12_contracted 1 = .ok (.getfield 76, 3) := dkg_X12_163.2.1
theorem dX12_contracted_4 : decode cX12_contracted 4 = .ok (.iconst 0, 1) := dkg_X12_163.2.2.1
theorem dX12_contracted_5 : decode cX12_contracted 5 = .ok (.dup2, 1) := dkg_X12_163.2.2.2.1
theorem dX12_contracted_6 : decode cX12_contracted 6 = .ok (.iaload, 1) := dkg_X12_163.2.2.2.2.1
theorem dX12_contracted_7 : decode cX12_contracted 7 = .ok (.iconst 1, 1) := dkg_X12_163.2.2.2.2.2.1
theorem dX12_contracted_8 : decode cX12_contracted 8 = .ok (.iadd, 1) := dkg_X12_163.2.2.2.2.2.2.1
theorem dX12_contracted_9 : decode cX12_contracted 9 = .ok (.iastore, 1) := dkg_X12_163.2.2.2.2.2.2.2.1
theorem dX12_contracted_10 : decode cX12_contracted 10 = .ok (.aload_n 0, 1) := dkg_X12_163.2.2.2.2.2.2.2.2.1
theorem dX12_contracted_11 : decode cX12_contracted 11 = .ok (.iload_n 1, 1) := dkg_X12_163.2.2.2.2.2.2.2.2.2.1
theorem dkg_X12_164 : dkp cX12_contracted [(12, .iload_n 2, 1), (13, .iload_n 3, 1), (14, .iload 4, 2), (16, .invokevirtual 221, 3), (19, .istore 5, 2), (21, .aload_n 0, 1), (22, .aload_n 0, 1), (23, .getfield 27, 3), (26, .iload_n 1, 1), (27, .iaload, 1)] := dkf (by decide +kernel)
theorem dX12_contracted_12 : decode cX12_contracted 12 = .ok (.iload_n 2, 1) := dkg_X12_164.1
theorem dX12_contracted_13 : decode cX12_contracted 13 = .ok (.iload_n 3, 1) := dkg_X12_164.2.1
theorem dX12_contracted_14 : decode cX12_contracted 14 = .ok (.iload 4, 2) := dkg_X12_164.2.2.1
theorem dX12_contracted_16 : decode cX12_contracted 16 = .ok (.invokevirtual 221, 3) := dkg_X12_164.2.2.2.1
theorem dX12_contracted_19 : decode cX12_contracted 19 = .ok (.istore 5, 2) := dkg_X12_164.2.2.2.2.1
theorem dX12_contracted_21 : decode cX12_contracted 21 = .ok (.aload_n 0, 1) := dkg_X12_164.2.2.2.2.2.1
theorem dX12_contracted_22 : decode cX12_contracted 22 = .ok (.aload_n 0, 1) := dkg_X12_164.2.2.2.2.2.2.1
theorem dX12_contracted_23 : decode cX12_contracted 23 = .ok (.getfield 27, 3) := dkg_X12_164.2.2.2.2.2.2.2.1
theorem dX12_contracted_26 : decode cX12_contracted 26 = .ok (.iload_n 1, 1) := dkg_X12_164.2.2.2.2.2.2.2.2.1
theorem dX12_contracted_27 : decode cX12_contracted 27 = .ok (.iaload, 1) := dkg_X12_164.2.2.2.2.2.2.2.2.2.1
theorem dkg_X12_165 : dkp cX12_contracted [(28, .iload_n 2, 1), (29, .iload_n 3, 1), (30, .iload 4, 2), (32, .invokevirtual 218, 3), (35, .istore 6, 2), (37, .iload 5, 2), (39, .ifCond .lt 25, 3), (42, .iload 6, 2), (44, .ifCond .lt 25, 3), (47, .aload_n 0, 1)] := dkf (by decide +kernel)
theorem dX12_contracted_28 : decode cX12_contracted 28 = .ok (.iload_n 2, 1) := dkg_X12_165.1
theorem dX12_contracted_29 : decode cX12_contracted 29 = .ok (.iload_n 3, 1) := dkg_X12_165.2.1
theorem dX12_contracted_30 : decode cX12_contracted 30 = .ok (.iload 4, 2) := dkg_X12_165.2.2.1
theorem dX12_contracted_32 : decode cX12_contracted 32 = .ok (.invokevirtual 218, 3) := dkg_X12_165.2.2.2.1
theorem dX12_contracted_35 : decode cX12_contracted 35 = .ok (.istore 6, 2) := dkg_X12_165.2.2.2.2.1
theorem dX12_contracted_37 : decode cX12_contracted 37 = .ok (.iload 5, 2) := dkg_X12_165.2.2.2.2.2.1
theorem dX12_contracted_39 : decode cX12_contracted 39 = .ok (.ifCond .lt 25, 3) := dkg_X12_165.2.2.2.2.2.2.1
theorem dX12_contracted_42 : decode cX12_contracted 42 = .ok (.iload 6, 2) := dkg_X12_165.2.2.2.2.2.2.2.1
theorem dX12_contracted_44 : decode cX12_contracted 44 = .ok (.ifCond .lt 25, 3) := dkg_X12_165.2.2.2.2.2.2.2.2.1
theorem dX12_contracted_47 : decode cX12_contracted 47 = .ok (.aload_n 0, 1) := dkg_X12_165.2.2.2.2.2.2.2.2.2.1
theorem dkg_X12_166 : dkp cX12_contracted [(48, .getfield 39, 3), (51, .iload 6, 2), (53, .iaload, 1), (54, .aload_n 0, 1), (55, .getfield 39, 3), (58, .iload 5, 2), (60, .iaload, 1), (61, .if_icmp .le 8, 3), (64, .iload 6, 2), (66, .goto 5, 3)] := dkf (by decide +kernel)
theorem dX12_contracted_48 : decode cX12_contracted 48 = .ok (.getfield 39, 3) := dkg_X12_166.1
theorem dX12_contracted_51 : decode cX12_contracted 51 = .ok (.iload 6, 2) := dkg_X12_166.2.1
theorem dX12_contracted_53 : decode cX12_contracted 53 = .ok (.iaload, 1) := dkg_X12_166.2.2.1
theorem dX12_contracted_54 : decode cX12_contracted 54 = .ok (.aload_n 0, 1) := dkg_X12_166.2.2.2.1
theorem dX12_contracted_55 : decode cX12_contracted 55 = .ok (.getfield 39, 3) := dkg_X12_166.2.2.2.2.1
theorem dX12_contracted_58 : decode cX12_contracted 58 = .ok (.iload 5, 2) := dkg_X12_166.2.2.2.2.2.1
theorem dX12_contracted_60 : decode cX12_contracted 60 = .ok (.iaload, 1) := dkg_X12_166.2.2.2.2.2.2.1
theorem dX12_contracted_61 : decode cX12_contracted 61 = .ok (.if_icmp .le 8, 3) := dkg_X12_166.2.2.2.2.2.2.2.1
theorem dX12_contracted_64 : decode cX12_contracted 64 = .ok (.iload 6, 2) := dkg_X12_166.2.2.2.2.2.2.2.2.1
theorem dX12_contracted_66 : decode cX12_contracted 66 = .ok (.goto 5, 3) := dkg_X12_166.2.2.2.2.2.2.2.2.2.1
theorem dkg_X12_167 : dkp cX12_contracted [(69, .iload 5, 2), (71, .ireturn, 1)] := dkf (by decide +kernel)
theorem dX12_contracted_69 : decode cX12_contracted 69 = .ok (.iload 5, 2) := dkg_X12_167.1
theorem dX12_contracted_71 : decode cX12_contracted 71 = .ok (.ireturn, 1) := dkg_X12_167.2.1
theorem dkg_X12_168 : dkp cX12_putIndicator [(0, .iconst 4, 1), (1, .iload_n 1, 1), (2, .imul, 1), (3, .iload_n 2, 1), (4, .iadd, 1), (5, .istore_n 3, 1), (6, .iconst 0, 1), (7, .istore 4, 2), (9, .iload 4, 2), (11, .aload_n 0, 1)] := dkf (by decide +kernel)
theorem dX12_putIndicator_0 : decode cX12_putIndicator 0 = .ok (.iconst 4, 1) := dkg_X12_168.1
theorem dX12_putIndicator_1 : decode cX12_putIndicator 1 = .ok (.iload_n 1, 1) := dkg_X12_168.2.1
theorem dX12_putIndicator_2 : decode cX12_putIndicator 2 = .ok (.imul, 1) := dkg_X12_168.2.2.1
theorem dX12_putIndicator_3 : decode cX12_putIndicator 3 = .ok (.iload_n 2, 1) := dkg_X12_168.2.2.2.1
theorem dX12_putIndicator_4 : decode cX12_putIndicator 4 = .ok (.iadd, 1) := dkg_X12_168.2.2.2.2.1
theorem dX12_putIndicator_5 : decode cX12_putIndicator 5 = .ok (.istore_n 3, 1) := dkg_X12_168.2.2.2.2.2.1
theorem dX12_putIndicator_6 : decode cX12_putIndicator 6 = .ok (.iconst 0, 1) := dkg_X12_168.2.2.2.2.2.2.1
theorem dX12_putIndicator_7 : decode cX12_putIndicator 7 = .ok (.istore 4, 2) := dkg_X12_168.2.2.2.2.2.2.2.1
theorem dX12_putIndicator_9 : decode cX12_putIndicator 9 = .ok (.iload 4, 2) := dkg_X12_168.2.2.2.2.2.2.2.2.1
theorem dX12_putIndicator_11 : decode cX12_putIndicator 11 = .ok (.aload_n 0, 1) := dkg_X12_168.2.2.2.2.2.2.2.2.2.1
theorem dkg_X12_169 : dkp cX12_putIndicator [(12, .getfield 52, 3), (15, .iload_n 3, 1), (16, .iaload, 1), (17, .if_icmp .ge 32, 3), (20, .aload_n 0, 1), (21, .getfield 70, 3), (24, .aload_n 0, 1), (25, .getfield 224, 3), (28, .iload 4, 2), (30, .iadd, 1)] := dkf (by decide +kernel)
theorem dX12_putIndicator_12 : decode cX12_putIndicator 12 = .ok (.getfield 52, 3) := dkg_X12_169.1
theorem dX12_putIndicator_15 : decode cX12_putIndicator 15 = .ok (.iload_n 3, 1) := dkg_X12_169.2.1
theorem dX12_putIndicator_16 : decode cX12_putIndicator 16 = .ok (.iaload, 1) := dkg_X12_169.2.2.1
theorem dX12_putIndicator_17 : decode cX12_putIndicator 17 = .ok (.if_icmp .ge 32, 3) := dkg_X12_169.2.2.2.1
theorem dX12_putIndicator_20 : decode cX12_putIndicator 20 = .ok (.aload_n 0, 1) := dkg_X12_169.2.2.2.2.1
theorem dX12_putIndicator_21 : decode cX12_putIndicator 21 = .ok (.getfield 70, 3) := dkg_X12_169.2.2.2.2.2.1
theorem dX12_putIndicator_24 : decode cX12_putIndicator 24 = .ok (.aload_n 0, 1) := dkg_X12_169.2.2.2.2.2.2.1
theorem dX12_putIndicator_25 : decode cX12_putIndicator 25 = .ok (.getfield 224, 3) := dkg_X12_169.2.2.2.2.2.2.2.1
theorem dX12_putIndicator_28 : decode cX12_putIndicator 28 = .ok (.iload 4, 2) := dkg_X12_169.2.2.2.2.2.2.2.2.1
theorem dX12_putIndicator_30 : decode cX12_putIndicator 30 = .ok (.iadd, 1) := dkg_X12_169.2.2.2.2.2.2.2.2.2.1
theorem dkg_X12_170 : dkp cX12_putIndicator [(31, .aload_n 0, 1), (32, .getfield 55, 3), (35, .iconst 4, 1), (36, .iload_n 3, 1), (37, .imul, 1), (38, .iload 4, 2), (40, .iadd, 1), (41, .iaload, 1), (42, .iastore, 1), (43, .iinc 4 1, 3)] := dkf (by decide +kernel)
theorem dX12_putIndicator_31 : decode cX12_putIndicator 31 = .ok (.aload_n 0, 1) := dkg_X12_170.1
theorem dX12_putIndicator_32 : decode cX12_putIndicator 32 = .ok (.getfield 55, 3) := dkg_X12_170.2.1
theorem dX12_putIndicator_35 : decode cX12_putIndicator 35 = .ok (.iconst 4, 1) := dkg_X12_170.2.2.1
theorem dX12_putIndicator_36 : decode cX12_putIndicator 36 = .ok (.iload_n 3, 1) := dkg_X12_170.2.2.2.1
theorem dX12_putIndicator_37 : decode cX12_putIndicator 37 = .ok (.imul, 1) := dkg_X12_170.2.2.2.2.1
theorem dX12_putIndicator_38 : decode cX12_putIndicator 38 = .ok (.iload 4, 2) := dkg_X12_170.2.2.2.2.2.1
theorem dX12_putIndicator_40 : decode cX12_putIndicator 40 = .ok (.iadd, 1) := dkg_X12_170.2.2.2.2.2.2.1
theorem dX12_putIndicator_41 : decode cX12_putIndicator 41 = .ok (.iaload, 1) := dkg_X12_170.2.2.2.2.2.2.2.1
theorem dX12_putIndicator_42 : decode cX12_putIndicator 42 = .ok (.iastore, 1) := dkg_X12_170.2.2.2.2.2.2.2.2.1
theorem dX12_putIndicator_43 : decode cX12_putIndicator 43 = .ok (.iinc 4 1, 3) := dkg_X12_170.2.2.2.2.2.2.2.2.2.1
theorem dkg_X12_171 : dkp cX12_putIndicator [(46, .goto (-37), 3), (49, .aload_n 0, 1), (50, .dup, 1), (51, .getfield 224, 3), (54, .aload_n 0, 1), (55, .getfield 52, 3), (58, .iload_n 3, 1), (59, .iaload, 1), (60, .iadd, 1), (61, .putfield 224, 3)] := dkf (by decide +kernel)
theorem dX12_putIndicator_46 : decode cX12_putIndicator 46 = .ok (.goto (-37), 3) := dkg_X12_171.1
theorem dX12_putIndicator_49 : decode cX12_putIndicator 49 = .ok (.aload_n 0, 1) := dkg_X12_171.2.1
theorem dX12_putIndicator_50 : decode cX12_putIndicator 50 = .ok (.dup, 1) := dkg_X12_171.2.2.1
theorem dX12_putIndicator_51 : decode cX12_putIndicator 51 = .ok (.getfield 224, 3) := dkg_X12_171.2.2.2.1
theorem dX12_putIndicator_54 : decode cX12_putIndicator 54 = .ok (.aload_n 0, 1) := dkg_X12_171.2.2.2.2.1
theorem dX12_putIndicator_55 : decode cX12_putIndicator 55 = .ok (.getfield 52, 3) := dkg_X12_171.2.2.2.2.2.1
theorem dX12_putIndicator_58 : decode cX12_putIndicator 58 = .ok (.iload_n 3, 1) := dkg_X12_171.2.2.2.2.2.2.1
theorem dX12_putIndicator_59 : decode cX12_putIndicator 59 = .ok (.iaload, 1) := dkg_X12_171.2.2.2.2.2.2.2.1
theorem dX12_putIndicator_60 : decode cX12_putIndicator 60 = .ok (.iadd, 1) := dkg_X12_171.2.2.2.2.2.2.2.2.1
theorem dX12_putIndicator_61 : decode cX12_putIndicator 61 = .ok (.putfield 224, 3) := dkg_X12_171.2.2.2.2.2.2.2.2.2.1
theorem dkg_X12_172 : dkp cX12_putIndicator [(64, .return_, 1)] := dkf (by decide +kernel)
theorem dX12_putIndicator_64 : decode cX12_putIndicator 64 = .ok (.return_, 1) := dkg_X12_172.1
theorem dkg_X12_173 : dkp cX12_setPart [(0, .iload_n 2, 1), (1, .istore 4, 2), (3, .iload 4, 2), (5, .iload_n 3, 1), (6, .if_icmp .ge 272, 3), (9, .aload_n 0, 1), (10, .getfield 61, 3), (13, .iload 4, 2), (15, .iaload, 1), (16, .istore 5, 2)] := dkf (by decide +kernel)
theorem dX12_setPart_0 : decode cX12_setPart 0 = .ok (.iload_n 2, 1) := dkg_X12_173.1
theorem dX12_setPart_1 : decode cX12_setPart 1 = .ok (.istore 4, 2) := dkg_X12_173.2.1
theorem dX12_setPart_3 : decode cX12_setPart 3 = .ok (.iload 4, 2) := dkg_X12_173.2.2.1
theorem dX12_setPart_5 : decode cX12_setPart 5 = .ok (.iload_n 3, 1) := dkg_X12_173.2.2.2.1
theorem dX12_setPart_6 : decode cX12_setPart 6 = .ok (.if_icmp .ge 272, 3) := dkg_X12_173.2.2.2.2.1
theorem dX12_setPart_9 : decode cX12_setPart 9 = .ok (.aload_n 0, 1) := dkg_X12_173.2.2.2.2.2.1
theorem dX12_setPart_10 : decode cX12_setPart 10 = .ok (.getfield 61, 3) := dkg_X12_173.2.2.2.2.2.2.1
theorem dX12_setPart_13 : decode cX12_setPart 13 = .ok (.iload 4, 2) := dkg_X12_173.2.2.2.2.2.2.2.1
theorem dX12_setPart_15 : decode cX12_setPart 15 = .ok (.iaload, 1) := dkg_X12_173.2.2.2.2.2.2.2.2.1
theorem dX12_setPart_16 : decode cX12_setPart 16 = .ok (.istore 5, 2) := dkg_X12_173.2.2.2.2.2.2.2.2.2.1
theorem dkg_X12_174 : dkp cX12_setPart [(18, .aload_n 0, 1), (19, .getfield 73, 3), (22, .iload 4, 2), (24, .aload_n 0, 1), (25, .getfield 224, 3), (28, .iastore, 1), (29, .aload_n 0, 1), (30, .getfield 21, 3), (33, .iload_n 1, 1), (34, .iaload, 1)] := dkf (by decide +kernel)
theorem dX12_setPart_18 : decode cX12_setPart 18 = .ok (.aload_n 0, 1) := dkg_X12_174.1
theorem dX12_setPart_19 : decode cX12_setPart 19 = .ok (.getfield 73, 3) := dkg_X12_174.2.1
theorem dX12_setPart_22 : decode cX12_setPart 22 = .ok (.iload 4, 2) := dkg_X12_174.2.2.1
theorem dX12_setPart_24 : decode cX12_setPart 24 = .ok (.aload_n 0, 1) := dkg_X12_174.2.2.2.1
theorem dX12_setPart_25 : decode cX12_setPart 25 = .ok (.getfield 224, 3) := dkg_X12_174.2.2.2.2.1
theorem dX12_setPart_28 : decode cX12_setPart 28 = .ok (.iastore, 1) := dkg_X12_174.2.2.2.2.2.1
theorem dX12_setPart_29 : decode cX12_setPart 29 = .ok (.aload_n 0, 1) := dkg_X12_174.2.2.2.2.2.2.1
theorem dX12_setPart_30 : decode cX12_setPart 30 = .ok (.getfield 21, 3) := dkg_X12_174.2.2.2.2.2.2.2.1
theorem dX12_setPart_33 : decode cX12_setPart 33 = .ok (.iload_n 1, 1) := dkg_X12_174.2.2.2.2.2.2.2.2.1
theorem dX12_setPart_34 : decode cX12_setPart 34 = .ok (.iaload, 1) := dkg_X12_174.2.2.2.2.2.2.2.2.2.1
theorem dkg_X12_175 : dkp cX12_setPart [(35, .iconst 2, 1), (36, .if_icmp .ne 38, 3), (39, .iload 5, 2), (41, .invokestatic 202, 3), (44, .ifCond .eq 30, 3), (47, .iload 4, 2), (49, .iload_n 2, 1), (50, .if_icmp .eq 18, 3), (53, .aload_n 0, 1), (54, .getfield 61, 3)] := dkf (by decide +kernel)
theorem dX12_setPart_35 : decode cX12_setPart 35 = .ok (.iconst 2, 1) := dkg_X12_175.1
theorem dX12_setPart_36 : decode cX12_setPart 36 = .ok (.if_icmp .ne 38, 3) := dkg_X12_175.2.1
theorem dX12_setPart_39 : decode cX12_setPart 39 = .ok (.iload 5, 2) := dkg_X12_175.2.2.1
theorem dX12_setPart_41 : decode cX12_setPart 41 = .ok (.invokestatic 202, 3) := dkg_X12_175.2.2.2.1
theorem dX12_setPart_44 : decode cX12_setPart 44 = .ok (.ifCond .eq 30, 3) := dkg_X12_175.2.2.2.2.1
theorem dX12_setPart_47 : decode cX12_setPart 47 = .ok (.iload 4, 2) := dkg_X12_175.2.2.2.2.2.1
theorem dX12_setPart_49 : decode cX12_setPart 49 = .ok (.iload_n 2, 1) := dkg_X12_175.2.2.2.2.2.2.1
theorem dX12_setPart_50 : decode cX12_setPart 50 = .ok (.if_icmp .eq 18, 3) := dkg_X12_175.2.2.2.2.2.2.2.1
theorem dX12_setPart_53 : decode cX12_setPart 53 = .ok (.aload_n 0, 1) := dkg_X12_175.2.2.2.2.2.2.2.2.1
theorem dX12_setPart_54 : decode cX12_setPart 54 = .ok (.getfield 61, 3) := dkg_X12_175.2.2.2.2.2.2.2.2.2.1
theorem dkg_X12_176 : dkp cX12_setPart [(57, .iload 4, 2), (59, .iconst 1, 1), (60, .isub, 1), (61, .iaload, 1), (62, .invokestatic 202, 3), (65, .ifCond .ne 9, 3), (68, .aload_n 0, 1), (69, .iload_n 1, 1), (70, .iconst 1, 1), (71, .invokevirtual 227, 3)] := dkf (by decide +kernel)
theorem dX12_setPart_57 : decode cX12_setPart 57 = .ok (.iload 4, 2) := dkg_X12_176.1
theorem dX12_setPart_59 : decode cX12_setPart 59 = .ok (.iconst 1, 1) := dkg_X12_176.2.1
theorem dX12_setPart_60 : decode cX12_setPart 60 = .ok (.isub, 1) := dkg_X12_176.2.2.1
theorem dX12_setPart_61 : decode cX12_setPart 61 = .ok (.iaload, 1) := dkg_X12_176.2.2.2.1
theorem dX12_setPart_62 : decode cX12_setPart 62 = .ok (.invokestatic 202, 3) := dkg_X12_176.2.2.2.2.1
theorem dX12_setPart_65 : decode cX12_setPart 65 = .ok (.ifCond .ne 9, 3) := dkg_X12_176.2.2.2.2.2.1
theorem dX12_setPart_68 : decode cX12_setPart 68 = .ok (.aload_n 0, 1) := dkg_X12_176.2.2.2.2.2.2.1
theorem dX12_setPart_69 : decode cX12_setPart 69 = .ok (.iload_n 1, 1) := dkg_X12_176.2.2.2.2.2.2.2.1
theorem dX12_setPart_70 : decode cX12_setPart 70 = .ok (.iconst 1, 1) := dkg_X12_176.2.2.2.2.2.2.2.2.1
theorem dX12_setPart_71 : decode cX12_setPart 71 = .ok (.invokevirtual 227, 3) := dkg_X12_176.2.2.2.2.2.2.2.2.2.1
theorem dkg_X12_177 : dkp cX12_setPart [(74, .aload_n 0, 1), (75, .iload_n 1, 1), (76, .iload_n 2, 1), (77, .iload_n 3, 1), (78, .iload 4, 2), (80, .invokevirtual 218, 3), (83, .istore 6, 2), (85, .iload 6, 2), (87, .ifCond .ge 72, 3), (90, .aload_n 0, 1)] := dkf (by decide +kernel)
theorem dX12_setPart_74 : decode cX12_setPart 74 = .ok (.aload_n 0, 1) := dkg_X12_177.1
theorem dX12_setPart_75 : decode cX12_setPart 75 = .ok (.iload_n 1, 1) := dkg_X12_177.2.1
theorem dX12_setPart_76 : decode cX12_setPart 76 = .ok (.iload_n 2, 1) := dkg_X12_177.2.2.1
theorem dX12_setPart_77 : decode cX12_setPart 77 = .ok (.iload_n 3, 1) := dkg_X12_177.2.2.2.1
theorem dX12_setPart_78 : decode cX12_setPart 78 = .ok (.iload 4, 2) := dkg_X12_177.2.2.2.2.1
theorem dX12_setPart_80 : decode cX12_setPart 80 = .ok (.invokevirtual 218, 3) := dkg_X12_177.2.2.2.2.2.1
theorem dX12_setPart_83 : decode cX12_setPart 83 = .ok (.istore 6, 2) := dkg_X12_177.2.2.2.2.2.2.1
theorem dX12_setPart_85 : decode cX12_setPart 85 = .ok (.iload 6, 2) := dkg_X12_177.2.2.2.2.2.2.2.1
theorem dX12_setPart_87 : decode cX12_setPart 87 = .ok (.ifCond .ge 72, 3) := dkg_X12_177.2.2.2.2.2.2.2.2.1
theorem dX12_setPart_90 : decode cX12_setPart 90 = .ok (.aload_n 0, 1) := dkg_X12_177.2.2.2.2.2.2.2.2.2.1
theorem dkg_X12_178 : dkp cX12_setPart [(91, .getfield 21, 3), (94, .iload_n 1, 1), (95, .iaload, 1), (96, .iconst 2, 1), (97, .if_icmp .gt 62, 3), (100, .iload 5, 2), (102, .invokestatic 205, 3), (105, .ifCond .eq 54, 3), (108, .aload_n 0, 1), (109, .getfield 52, 3)] := dkf (by decide +kernel)
theorem dX12_setPart_91 : decode cX12_setPart 91 = .ok (.getfield 21, 3) := dkg_X12_178.1
theorem dX12_setPart_94 : decode cX12_setPart 94 = .ok (.iload_n 1, 1) := dkg_X12_178.2.1
theorem dX12_setPart_95 : decode cX12_setPart 95 = .ok (.iaload, 1) := dkg_X12_178.2.2.1
theorem dX12_setPart_96 : decode cX12_setPart 96 = .ok (.iconst 2, 1) := dkg_X12_178.2.2.2.1
theorem dX12_setPart_97 : decode cX12_setPart 97 = .ok (.if_icmp .gt 62, 3) := dkg_X12_178.2.2.2.2.1
theorem dX12_setPart_100 : decode cX12_setPart 100 = .ok (.iload 5, 2) := dkg_X12_178.2.2.2.2.2.1
theorem dX12_setPart_102 : decode cX12_setPart 102 = .ok (.invokestatic 205, 3) := dkg_X12_178.2.2.2.2.2.2.1
theorem dX12_setPart_105 : decode cX12_setPart 105 = .ok (.ifCond .eq 54, 3) := dkg_X12_178.2.2.2.2.2.2.2.1
theorem dX12_setPart_108 : decode cX12_setPart 108 = .ok (.aload_n 0, 1) := dkg_X12_178.2.2.2.2.2.2.2.2.1
theorem dX12_setPart_109 : decode cX12_setPart 109 = .ok (.getfield 52, 3) := dkg_X12_178.2.2.2.2.2.2.2.2.2.1
theorem dkg_X12_179 : dkp cX12_setPart [(112, .iconst 4, 1), (113, .iload_n 1, 1), (114, .imul, 1), (115, .iconst 0, 1), (116, .iadd, 1), (117, .iaload, 1), (118, .ifCond .le 41, 3), (121, .aload_n 0, 1), (122, .iload_n 1, 1), (123, .iconst 0, 1)] := dkf (by decide +kernel)
theorem dX12_setPart_112 : decode cX12_setPart 112 = .ok (.iconst 4, 1) := dkg_X12_179.1
theorem dX12_setPart_113 : decode cX12_setPart 113 = .ok (.iload_n 1, 1) := dkg_X12_179.2.1
theorem dX12_setPart_114 : decode cX12_setPart 114 = .ok (.imul, 1) := dkg_X12_179.2.2.1
theorem dX12_setPart_115 : decode cX12_setPart 115 = .ok (.iconst 0, 1) := dkg_X12_179.2.2.2.1
theorem dX12_setPart_116 : decode cX12_setPart 116 = .ok (.iadd, 1) := dkg_X12_179.2.2.2.2.1
theorem dX12_setPart_117 : decode cX12_setPart 117 = .ok (.iaload, 1) := dkg_X12_179.2.2.2.2.2.1
theorem dX12_setPart_118 : decode cX12_setPart 118 = .ok (.ifCond .le 41, 3) := dkg_X12_179.2.2.2.2.2.2.1
theorem dX12_setPart_121 : decode cX12_setPart 121 = .ok (.aload_n 0, 1) := dkg_X12_179.2.2.2.2.2.2.2.1
theorem dX12_setPart_122 : decode cX12_setPart 122 = .ok (.iload_n 1, 1) := dkg_X12_179.2.2.2.2.2.2.2.2.1
theorem dX12_setPart_123 : decode cX12_setPart 123 = .ok (.iconst 0, 1) := dkg_X12_179.2.2.2.2.2.2.2.2.2.1
theorem dkg_X12_180 : dkp cX12_setPart [(124, .invokevirtual 227, 3), (127, .aload_n 0, 1), (128, .getfield 61, 3), (131, .iload 4, 2), (133, .iload 5, 2), (135, .bipush 32, 2), (137, .iadd, 1), (138, .iastore, 1), (139, .aload_n 0, 1), (140, .iload_n 1, 1)] := dkf (by decide +kernel)
theorem dX12_setPart_124 : decode cX12_setPart 124 = .ok (.invokevirtual 227, 3) := dkg_X12_180.1
theorem dX12_setPart_127 : decode cX12_setPart 127 = .ok (.aload_n 0, 1) := dkg_X12_180.2.1
theorem dX12_setPart_128 : decode cX12_setPart 128 = .ok (.getfield 61, 3) := dkg_X12_180.2.2.1
theorem dX12_setPart_131 : decode cX12_setPart 131 = .ok (.iload 4, 2) := dkg_X12_180.2.2.2.1
theorem dX12_setPart_133 : decode cX12_setPart 133 = .ok (.iload 5, 2) := dkg_X12_180.2.2.2.2.1
theorem dX12_setPart_135 : decode cX12_setPart 135 = .ok (.bipush 32, 2) := dkg_X12_180.2.2.2.2.2.1
theorem dX12_setPart_137 : decode cX12_setPart 137 = .ok (.iadd, 1) := dkg_X12_180.2.2.2.2.2.2.1
theorem dX12_setPart_138 : decode cX12_setPart 138 = .ok (.iastore, 1) := dkg_X12_180.2.2.2.2.2.2.2.1
theorem dX12_setPart_139 : decode cX12_setPart 139 = .ok (.aload_n 0, 1) := dkg_X12_180.2.2.2.2.2.2.2.2.1
theorem dX12_setPart_140 : decode cX12_setPart 140 = .ok (.iload_n 1, 1) := dkg_X12_180.2.2.2.2.2.2.2.2.2.1
theorem dkg_X12_181 : dkp cX12_setPart [(141, .iload_n 2, 1), (142, .iload_n 3, 1), (143, .iload 4, 2), (145, .invokevirtual 218, 3), (148, .istore 6, 2), (150, .aload_n 0, 1), (151, .getfield 61, 3), (154, .iload 4, 2), (156, .iload 5, 2), (158, .iastore, 1)] := dkf (by decide +kernel)
theorem dX12_setPart_141 : decode cX12_setPart 141 = .ok (.iload_n 2, 1) := dkg_X12_181.1
theorem dX12_setPart_142 : decode cX12_setPart 142 = .ok (.iload_n 3, 1) := dkg_X12_181.2.1
theorem dX12_setPart_143 : decode cX12_setPart 143 = .ok (.iload 4, 2) := dkg_X12_181.2.2.1
theorem dX12_setPart_145 : decode cX12_setPart 145 = .ok (.invokevirtual 218, 3) := dkg_X12_181.2.2.2.1
theorem dX12_setPart_148 : decode cX12_setPart 148 = .ok (.istore 6, 2) := dkg_X12_181.2.2.2.2.1
theorem dX12_setPart_150 : decode cX12_setPart 150 = .ok (.aload_n 0, 1) := dkg_X12_181.2.2.2.2.2.1
theorem dX12_setPart_151 : decode cX12_setPart 151 = .ok (.getfield 61, 3) := dkg_X12_181.2.2.2.2.2.2.1
theorem dX12_setPart_154 : decode cX12_setPart 154 = .ok (.iload 4, 2) := dkg_X12_181.2.2.2.2.2.2.2.1
theorem dX12_setPart_156 : decode cX12_setPart 156 = .ok (.iload 5, 2) := dkg_X12_181.2.2.2.2.2.2.2.2.1
theorem dX12_setPart_158 : decode cX12_setPart 158 = .ok (.iastore, 1) := dkg_X12_181.2.2.2.2.2.2.2.2.2.1
theorem dkg_X12_182 : dkp cX12_setPart [(159, .iload 6, 2), (161, .ifCond .ge 16, 3), (164, .aload_n 0, 1), (165, .aload_n 0, 1), (166, .getfield 64, 3), (169, .iload 4, 2), (171, .iaload, 1), (172, .putfield 231, 3), (175, .iconst 0, 1), (176, .ireturn, 1)] := dkf (by decide +kernel)
theorem dX12_setPart_159 : decode cX12_setPart 159 = .ok (.iload 6, 2) := dkg_X12_182.1
theorem dX12_setPart_161 : decode cX12_setPart 161 = .ok (.ifCond .ge 16, 3) := dkg_X12_182.2.1
theorem dX12_setPart_164 : decode cX12_setPart 164 = .ok (.aload_n 0, 1) := dkg_X12_182.2.2.1
theorem dX12_setPart_165 : decode cX12_setPart 165 = .ok (.aload_n 0, 1) := dkg_X12_182.2.2.2.1
theorem dX12_setPart_166 : decode cX12_setPart 166 = .ok (.getfield 64, 3) := dkg_X12_182.2.2.2.2.1
theorem dX12_setPart_169 : decode cX12_setPart 169 = .ok (.iload 4, 2) := dkg_X12_182.2.2.2.2.2.1
theorem dX12_setPart_171 : decode cX12_setPart 171 = .ok (.iaload, 1) := dkg_X12_182.2.2.2.2.2.2.1
theorem dX12_setPart_172 : decode cX12_setPart 172 = .ok (.putfield 231, 3) := dkg_X12_182.2.2.2.2.2.2.2.1
theorem dX12_setPart_175 : decode cX12_setPart 175 = .ok (.iconst 0, 1) := dkg_X12_182.2.2.2.2.2.2.2.2.1
theorem dX12_setPart_176 : decode cX12_setPart 176 = .ok (.ireturn, 1) := dkg_X12_182.2.2.2.2.2.2.2.2.2.1
theorem dkg_X12_183 : dkp cX12_setPart [(177, .aload_n 0, 1), (178, .getfield 224, 3), (181, .aload_n 0, 1), (182, .getfield 42, 3), (185, .iload 6, 2), (187, .iaload, 1), (188, .iadd, 1), (189, .sipush 200, 3), (192, .if_icmp .le 10, 3), (195, .aload_n 0, 1)] := dkf (by decide +kernel)
theorem dX12_setPart_177 : decode cX12_setPart 177 = .ok (.aload_n 0, 1) := dkg_X12_183.1
theorem dX12_setPart_178 : decode cX12_setPart 178 = .ok (.getfield 224, 3) := dkg_X12_183.2.1
theorem dX12_setPart_181 : decode cX12_setPart 181 = .ok (.aload_n 0, 1) := dkg_X12_183.2.2.1
theorem dX12_setPart_182 : decode cX12_setPart 182 = .ok (.getfield 42, 3) := dkg_X12_183.2.2.2.1
theorem dX12_setPart_185 : decode cX12_setPart 185 = .ok (.iload 6, 2) := dkg_X12_183.2.2.2.2.1
theorem dX12_setPart_187 : decode cX12_setPart 187 = .ok (.iaload, 1) := dkg_X12_183.2.2.2.2.2.1
theorem dX12_setPart_188 : decode cX12_setPart 188 = .ok (.iadd, 1) := dkg_X12_183.2.2.2.2.2.2.1
theorem dX12_setPart_189 : decode cX12_setPart 189 = .ok (.sipush 200, 3) := dkg_X12_183.2.2.2.2.2.2.2.1
theorem dX12_setPart_192 : decode cX12_setPart 192 = .ok (.if_icmp .le 10, 3) := dkg_X12_183.2.2.2.2.2.2.2.2.1
theorem dX12_setPart_195 : decode cX12_setPart 195 = .ok (.aload_n 0, 1) := dkg_X12_183.2.2.2.2.2.2.2.2.2.1
theorem dkg_X12_184 : dkp cX12_setPart [(196, .iconst (-1), 1), (197, .putfield 231, 3), (200, .iconst 0, 1), (201, .ireturn, 1), (202, .iconst 0, 1), (203, .istore 7, 2), (205, .iload 7, 2), (207, .aload_n 0, 1), (208, .getfield 42, 3), (211, .iload 6, 2)] := dkf (by decide +kernel)
theorem dX12_setPart_196 : decode cX12_setPart 196 = .ok (.iconst (-1), 1) := dkg_X12_184.1
theorem dX12_setPart_197 : decode cX12_setPart 197 = .ok (.putfield 231, 3) := dkg_X12_184.2.1
theorem dX12_setPart_200 : decode cX12_setPart 200 = .ok (.iconst 0, 1) := dkg_X12_184.2.2.1
theorem dX12_setPart_201 : decode cX12_setPart 201 = .ok (.ireturn, 1) := dkg_X12_184.2.2.2.1
theorem dX12_setPart_202 : decode cX12_setPart 202 = .ok (.iconst 0, 1) := dkg_X12_184.2.2.2.2.1
theorem dX12_setPart_203 : decode cX12_setPart 203 = .ok (.istore 7, 2) := dkg_X12_184.2.2.2.2.2.1
theorem dX12_setPart_205 : decode cX12_setPart 205 = .ok (.iload 7, 2) := dkg_X12_184.2.2.2.2.2.2.1
theorem dX12_setPart_207 : decode cX12_setPart 207 = .ok (.aload_n 0, 1) := dkg_X12_184.2.2.2.2.2.2.2.1
theorem dX12_setPart_208 : decode cX12_setPart 208 = .ok (.getfield 42, 3) := dkg_X12_184.2.2.2.2.2.2.2.2.1
theorem dX12_setPart_211 : decode cX12_setPart 211 = .ok (.iload 6, 2) := dkg_X12_184.2.2.2.2.2.2.2.2.2.1
theorem dkg_X12_185 : dkp cX12_setPart [(213, .iaload, 1), (214, .if_icmp .ge 33, 3), (217, .aload_n 0, 1), (218, .getfield 70, 3), (221, .aload_n 0, 1), (222, .getfield 224, 3), (225, .iload 7, 2), (227, .iadd, 1), (228, .aload_n 0, 1), (229, .getfield 49, 3)] := dkf (by decide +kernel)
theorem dX12_setPart_213 : decode cX12_setPart 213 = .ok (.iaload, 1) := dkg_X12_185.1
theorem dX12_setPart_214 : decode cX12_setPart 214 = .ok (.if_icmp .ge 33, 3) := dkg_X12_185.2.1
theorem dX12_setPart_217 : decode cX12_setPart 217 = .ok (.aload_n 0, 1) := dkg_X12_185.2.2.1
theorem dX12_setPart_218 : decode cX12_setPart 218 = .ok (.getfield 70, 3) := dkg_X12_185.2.2.2.1
theorem dX12_setPart_221 : decode cX12_setPart 221 = .ok (.aload_n 0, 1) := dkg_X12_185.2.2.2.2.1
theorem dX12_setPart_222 : decode cX12_setPart 222 = .ok (.getfield 224, 3) := dkg_X12_185.2.2.2.2.2.1
theorem dX12_setPart_225 : decode cX12_setPart 225 = .ok (.iload 7, 2) := dkg_X12_185.2.2.2.2.2.2.1
theorem dX12_setPart_227 : decode cX12_setPart 227 = .ok (.iadd, 1) := dkg_X12_185.2.2.2.2.2.2.2.1
theorem dX12_setPart_228 : decode cX12_setPart 228 = .ok (.aload_n 0, 1) := dkg_X12_185.2.2.2.2.2.2.2.2.1
theorem dX12_setPart_229 : decode cX12_setPart 229 = .ok (.getfield 49, 3) := dkg_X12_185.2.2.2.2.2.2.2.2.2.1
theorem dkg_X12_186 : dkp cX12_setPart [(232, .iconst 4, 1), (233, .iload 6, 2), (235, .imul, 1), (236, .iload 7, 2), (238, .iadd, 1), (239, .iaload, 1), (240, .iastore, 1), (241, .iinc 7 1, 3), (244, .goto (-39), 3), (247, .aload_n 0, 1)] := dkf (by decide +kernel)
theorem dX12_setPart_232 : decode cX12_setPart 232 = .ok (.iconst 4, 1) := dkg_X12_186.1
theorem dX12_setPart_233 : decode cX12_setPart 233 = .ok (.iload 6, 2) := dkg_X12_186.2.1
theorem dX12_setPart_235 : decode cX12_setPart 235 = .ok (.imul, 1) := dkg_X12_186.2.2.1
theorem dX12_setPart_236 : decode cX12_setPart 236 = .ok (.iload 7, 2) := dkg_X12_186.2.2.2.1
theorem dX12_setPart_238 : decode cX12_setPart 238 = .ok (.iadd, 1) := dkg_X12_186.2.2.2.2.1
theorem dX12_setPart_239 : decode cX12_setPart 239 = .ok (.iaload, 1) := dkg_X12_186.2.2.2.2.2.1
theorem dX12_setPart_240 : decode cX12_setPart 240 = .ok (.iastore, 1) := dkg_X12_186.2.2.2.2.2.2.1
theorem dX12_setPart_241 : decode cX12_setPart 241 = .ok (.iinc 7 1, 3) := dkg_X12_186.2.2.2.2.2.2.2.1
theorem dX12_setPart_244 : decode cX12_setPart 244 = .ok (.goto (-39), 3) := dkg_X12_186.2.2.2.2.2.2.2.2.1
theorem dX12_setPart_247 : decode cX12_setPart 247 = .ok (.aload_n 0, 1) := dkg_X12_186.2.2.2.2.2.2.2.2.2.1
theorem dkg_X12_187 : dkp cX12_setPart [(248, .dup, 1), (249, .getfield 224, 3), (252, .aload_n 0, 1), (253, .getfield 42, 3), (256, .iload 6, 2), (258, .iaload, 1), (259, .iadd, 1), (260, .putfield 224, 3), (263, .iload 4, 2), (265, .aload_n 0, 1)] := dkf (by decide +kernel)
theorem dX12_setPart_248 : decode cX12_setPart 248 = .ok (.dup, 1) := dkg_X12_187.1
theorem dX12_setPart_249 : decode cX12_setPart 249 = .ok (.getfield 224, 3) := dkg_X12_187.2.1
theorem dX12_setPart_252 : decode cX12_setPart 252 = .ok (.aload_n 0, 1) := dkg_X12_187.2.2.1
theorem dX12_setPart_253 : decode cX12_setPart 253 = .ok (.getfield 42, 3) := dkg_X12_187.2.2.2.1
theorem dX12_setPart_256 : decode cX12_setPart 256 = .ok (.iload 6, 2) := dkg_X12_187.2.2.2.2.1
theorem dX12_setPart_258 : decode cX12_setPart 258 = .ok (.iaload, 1) := dkg_X12_187.2.2.2.2.2.1
theorem dX12_setPart_259 : decode cX12_setPart 259 = .ok (.iadd, 1) := dkg_X12_187.2.2.2.2.2.2.1
theorem dX12_setPart_260 : decode cX12_setPart 260 = .ok (.putfield 224, 3) := dkg_X12_187.2.2.2.2.2.2.2.1
theorem dX12_setPart_263 : decode cX12_setPart 263 = .ok (.iload 4, 2) := dkg_X12_187.2.2.2.2.2.2.2.2.1
theorem dX12_setPart_265 : decode cX12_setPart 265 = .ok (.aload_n 0, 1) := dkg_X12_187.2.2.2.2.2.2.2.2.2.1
theorem dkg_X12_188 : dkp cX12_setPart [(266, .getfield 39, 3), (269, .iload 6, 2), (271, .iaload, 1), (272, .iadd, 1), (273, .istore 4, 2), (275, .goto (-272), 3), (278, .iconst 1, 1), (279, .ireturn, 1)] := dkf (by decide +kernel)
theorem dX12_setPart_266 : decode cX12_setPart 266 = .ok (.getfield 39, 3) := dkg_X12_188.1
theorem dX12_setPart_269 : decode cX12_setPart 269 = .ok (.iload 6, 2) := dkg_X12_188.2.1
theorem dX12_setPart_271 : decode cX12_setPart 271 = .ok (.iaload, 1) := dkg_X12_188.2.2.1
theorem dX12_setPart_272 : decode cX12_setPart 272 = .ok (.iadd, 1) := dkg_X12_188.2.2.2.1
theorem dX12_setPart_273 : decode cX12_setPart 273 = .ok (.istore 4, 2) := dkg_X12_188.2.2.2.2.1
theorem dX12_setPart_275 : decode cX12_setPart 275 = .ok (.goto (-272), 3) := dkg_X12_188.2.2.2.2.2.1
theorem dX12_setPart_278 : decode cX12_setPart 278 = .ok (.iconst 1, 1) := dkg_X12_188.2.2.2.2.2.2.1
theorem dX12_setPart_279 : decode cX12_setPart 279 = .ok (.ireturn, 1) := dkg_X12_188.2.2.2.2.2.2.2.1
theorem dkg_X12_189 : dkp cX12_setWord [(0, .aload_n 0, 1), (1, .iconst 0, 1), (2, .putfield 224, 3), (5, .iconst 0, 1), (6, .istore_n 2, 1), (7, .iload_n 2, 1), (8, .aload_n 0, 1), (9, .getfield 234, 3), (12, .if_icmp .gt 16, 3), (15, .aload_n 0, 1)] := dkf (by decide +kernel)
theorem dX12_setWord_0 : decode cX12_setWord 0 = .ok (.aload_n 0, 1) := dkg_X12_189.1
theorem dX12_setWord_1 : decode cX12_setWord 1 = .ok (.iconst 0, 1) := dkg_X12_189.2.1
theorem dX12_setWord_2 : decode cX12_setWord 2 = .ok (.putfield 224, 3) := dkg_X12_189.2.2.1
theorem dX12_setWord_5 : decode cX12_setWord 5 = .ok (.iconst 0, 1) := dkg_X12_189.2.2.2.1
theorem dX12_setWord_6 : decode cX12_setWord 6 = .ok (.istore_n 2, 1) := dkg_X12_189.2.2.2.2.1
theorem dX12_setWord_7 : decode cX12_setWord 7 = .ok (.iload_n 2, 1) := dkg_X12_189.2.2.2.2.2.1
theorem dX12_setWord_8 : decode cX12_setWord 8 = .ok (.aload_n 0, 1) := dkg_X12_189.2.2.2.2.2.2.1
theorem dX12_setWord_9 : decode cX12_setWord 9 = .ok (.getfield 234, 3) := dkg_X12_189.2.2.2.2.2.2.2.1
theorem dX12_setWord_12 : decode cX12_setWord 12 = .ok (.if_icmp .gt 16, 3) := dkg_X12_189.2.2.2.2.2.2.2.2.1
theorem dX12_setWord_15 : decode cX12_setWord 15 = .ok (.aload_n 0, 1) := dkg_X12_189.2.2.2.2.2.2.2.2.2.1
theorem dkg_X12_190 : dkp cX12_setWord [(16, .getfield 73, 3), (19, .iload_n 2, 1), (20, .iconst (-1), 1), (21, .iastore, 1), (22, .iinc 2 1, 3), (25, .goto (-18), 3), (28, .aload_n 0, 1), (29, .getfield 21, 3), (32, .iload_n 1, 1), (33, .iaload, 1)] := dkf (by decide +kernel)
theorem dX12_setWord_16 : decode cX12_setWord 16 = .ok (.getfield 73, 3) := dkg_X12_190.1
theorem dX12_setWord_19 : decode cX12_setWord 19 = .ok (.iload_n 2, 1) := dkg_X12_190.2.1
theorem dX12_setWord_20 : decode cX12_setWord 20 = .ok (.iconst (-1), 1) := dkg_X12_190.2.2.1
theorem dX12_setWord_21 : decode cX12_setWord 21 = .ok (.iastore, 1) := dkg_X12_190.2.2.2.1
theorem dX12_setWord_22 : decode cX12_setWord 22 = .ok (.iinc 2 1, 3) := dkg_X12_190.2.2.2.2.1
theorem dX12_setWord_25 : decode cX12_setWord 25 = .ok (.goto (-18), 3) := dkg_X12_190.2.2.2.2.2.1
theorem dX12_setWord_28 : decode cX12_setWord 28 = .ok (.aload_n 0, 1) := dkg_X12_190.2.2.2.2.2.2.1
theorem dX12_setWord_29 : decode cX12_setWord 29 = .ok (.getfield 21, 3) := dkg_X12_190.2.2.2.2.2.2.2.1
theorem dX12_setWord_32 : decode cX12_setWord 32 = .ok (.iload_n 1, 1) := dkg_X12_190.2.2.2.2.2.2.2.2.1
theorem dX12_setWord_33 : decode cX12_setWord 33 = .ok (.iaload, 1) := dkg_X12_190.2.2.2.2.2.2.2.2.2.1
theorem dkg_X12_191 : dkp cX12_setWord [(34, .iconst 5, 1), (35, .if_icmp .eq 14, 3), (38, .aload_n 0, 1), (39, .iload_n 1, 1), (40, .iconst 0, 1), (41, .aload_n 0, 1), (42, .getfield 234, 3), (45, .invokevirtual 237, 3), (48, .ireturn, 1), (49, .iconst 0, 1)] := dkf (by decide +kernel)
theorem dX12_setWord_34 : decode cX12_setWord 34 = .ok (.iconst 5, 1) := dkg_X12_191.1
theorem dX12_setWord_35 : decode cX12_setWord 35 = .ok (.if_icmp .eq 14, 3) := dkg_X12_191.2.1
theorem dX12_setWord_38 : decode cX12_setWord 38 = .ok (.aload_n 0, 1) := dkg_X12_191.2.2.1
theorem dX12_setWord_39 : decode cX12_setWord 39 = .ok (.iload_n 1, 1) := dkg_X12_191.2.2.2.1
theorem dX12_setWord_40 : decode cX12_setWord 40 = .ok (.iconst 0, 1) := dkg_X12_191.2.2.2.2.1
theorem dX12_setWord_41 : decode cX12_setWord 41 = .ok (.aload_n 0, 1) := dkg_X12_191.2.2.2.2.2.1
theorem dX12_setWord_42 : decode cX12_setWord 42 = .ok (.getfield 234, 3) := dkg_X12_191.2.2.2.2.2.2.1
theorem dX12_setWord_45 : decode cX12_setWord 45 = .ok (.invokevirtual 237, 3) := dkg_X12_191.2.2.2.2.2.2.2.1
theorem dX12_setWord_48 : decode cX12_setWord 48 = .ok (.ireturn, 1) := dkg_X12_191.2.2.2.2.2.2.2.2.1
theorem dX12_setWord_49 : decode cX12_setWord 49 = .ok (.iconst 0, 1) := dkg_X12_191.2.2.2.2.2.2.2.2.2.1
theorem dkg_X12_192 : dkp cX12_setWord [(50, .istore_n 2, 1), (51, .iconst 0, 1), (52, .istore_n 3, 1), (53, .iload_n 3, 1), (54, .aload_n 0, 1), (55, .getfield 234, 3), (58, .if_icmp .gt 168, 3), (61, .iload_n 2, 1), (62, .ifCond .eq 8, 3), (65, .bipush 62, 2)] := dkf (by decide +kernel)
theorem dX12_setWord_50 : decode cX12_setWord 50 = .ok (.istore_n 2, 1) := dkg_X12_192.1
theorem dX12_setWord_51 : decode cX12_setWord 51 = .ok (.iconst 0, 1) := dkg_X12_192.2.1
theorem dX12_setWord_52 : decode cX12_setWord 52 = .ok (.istore_n 3, 1) := dkg_X12_192.2.2.1
theorem dX12_setWord_53 : decode cX12_setWord 53 = .ok (.iload_n 3, 1) := dkg_X12_192.2.2.2.1
theorem dX12_setWord_54 : decode cX12_setWord 54 = .ok (.aload_n 0, 1) := dkg_X12_192.2.2.2.2.1
theorem dX12_setWord_55 : decode cX12_setWord 55 = .ok (.getfield 234, 3) := dkg_X12_192.2.2.2.2.2.1
theorem dX12_setWord_58 : decode cX12_setWord 58 = .ok (.if_icmp .gt 168, 3) := dkg_X12_192.2.2.2.2.2.2.1
theorem dX12_setWord_61 : decode cX12_setWord 61 = .ok (.iload_n 2, 1) := dkg_X12_192.2.2.2.2.2.2.2.1
theorem dX12_setWord_62 : decode cX12_setWord 62 = .ok (.ifCond .eq 8, 3) := dkg_X12_192.2.2.2.2.2.2.2.2.1
theorem dX12_setWord_65 : decode cX12_setWord 65 = .ok (.bipush 62, 2) := dkg_X12_192.2.2.2.2.2.2.2.2.2.1
theorem dkg_X12_193 : dkp cX12_setWord [(67, .goto 5, 3), (70, .bipush 60, 2), (72, .istore 4, 2), (74, .iload_n 3, 1), (75, .istore 5, 2), (77, .iload 5, 2), (79, .aload_n 0, 1), (80, .getfield 234, 3), (83, .if_icmp .ge 21, 3), (86, .aload_n 0, 1)] := dkf (by decide +kernel)
theorem dX12_setWord_67 : decode cX12_setWord 67 = .ok (.goto 5, 3) := dkg_X12_193.1
theorem dX12_setWord_70 : decode cX12_setWord 70 = .ok (.bipush 60, 2) := dkg_X12_193.2.1
theorem dX12_setWord_72 : decode cX12_setWord 72 = .ok (.istore 4, 2) := dkg_X12_193.2.2.1
theorem dX12_setWord_74 : decode cX12_setWord 74 = .ok (.iload_n 3, 1) := dkg_X12_193.2.2.2.1
theorem dX12_setWord_75 : decode cX12_setWord 75 = .ok (.istore 5, 2) := dkg_X12_193.2.2.2.2.1
theorem dX12_setWord_77 : decode cX12_setWord 77 = .ok (.iload 5, 2) := dkg_X12_193.2.2.2.2.2.1
theorem dX12_setWord_79 : decode cX12_setWord 79 = .ok (.aload_n 0, 1) := dkg_X12_193.2.2.2.2.2.2.1
theorem dX12_setWord_80 : decode cX12_setWord 80 = .ok (.getfield 234, 3) := dkg_X12_193.2.2.2.2.2.2.2.1
theorem dX12_setWord_83 : decode cX12_setWord 83 = .ok (.if_icmp .ge 21, 3) := dkg_X12_193.2.2.2.2.2.2.2.2.1
theorem dX12_setWord_86 : decode cX12_setWord 86 = .ok (.aload_n 0, 1) := dkg_X12_193.2.2.2.2.2.2.2.2.2.1
theorem dkg_X12_194 : dkp cX12_setWord [(87, .getfield 61, 3), (90, .iload 5, 2), (92, .iaload, 1), (93, .iload 4, 2), (95, .if_icmp .eq 9, 3), (98, .iinc 5 1, 3), (101, .goto (-24), 3), (104, .aload_n 0, 1), (105, .iload_n 2, 1), (106, .ifCond .eq 12, 3)] := dkf (by decide +kernel)
theorem dX12_setWord_87 : decode cX12_setWord 87 = .ok (.getfield 61, 3) := dkg_X12_194.1
theorem dX12_setWord_90 : decode cX12_setWord 90 = .ok (.iload 5, 2) := dkg_X12_194.2.1
theorem dX12_setWord_92 : decode cX12_setWord 92 = .ok (.iaload, 1) := dkg_X12_194.2.2.1
theorem dX12_setWord_93 : decode cX12_setWord 93 = .ok (.iload 4, 2) := dkg_X12_194.2.2.2.1
theorem dX12_setWord_95 : decode cX12_setWord 95 = .ok (.if_icmp .eq 9, 3) := dkg_X12_194.2.2.2.2.1
theorem dX12_setWord_98 : decode cX12_setWord 98 = .ok (.iinc 5 1, 3) := dkg_X12_194.2.2.2.2.2.1
theorem dX12_setWord_101 : decode cX12_setWord 101 = .ok (.goto (-24), 3) := dkg_X12_194.2.2.2.2.2.2.1
theorem dX12_setWord_104 : decode cX12_setWord 104 = .ok (.aload_n 0, 1) := dkg_X12_194.2.2.2.2.2.2.2.1
theorem dX12_setWord_105 : decode cX12_setWord 105 = .ok (.iload_n 2, 1) := dkg_X12_194.2.2.2.2.2.2.2.2.1
theorem dX12_setWord_106 : decode cX12_setWord 106 = .ok (.ifCond .eq 12, 3) := dkg_X12_194.2.2.2.2.2.2.2.2.2.1
theorem dkg_X12_195 : dkp cX12_setWord [(109, .aload_n 0, 1), (110, .getfield 30, 3), (113, .iload_n 1, 1), (114, .iaload, 1), (115, .goto 9, 3), (118, .aload_n 0, 1), (119, .getfield 27, 3), (122, .iload_n 1, 1), (123, .iaload, 1), (124, .iload_n 3, 1)] := dkf (by decide +kernel)
theorem dX12_setWord_109 : decode cX12_setWord 109 = .ok (.aload_n 0, 1) := dkg_X12_195.1
theorem dX12_setWord_110 : decode cX12_setWord 110 = .ok (.getfield 30, 3) := dkg_X12_195.2.1
theorem dX12_setWord_113 : decode cX12_setWord 113 = .ok (.iload_n 1, 1) := dkg_X12_195.2.2.1
theorem dX12_setWord_114 : decode cX12_setWord 114 = .ok (.iaload, 1) := dkg_X12_195.2.2.2.1
theorem dX12_setWord_115 : decode cX12_setWord 115 = .ok (.goto 9, 3) := dkg_X12_195.2.2.2.2.1
theorem dX12_setWord_118 : decode cX12_setWord 118 = .ok (.aload_n 0, 1) := dkg_X12_195.2.2.2.2.2.1
theorem dX12_setWord_119 : decode cX12_setWord 119 = .ok (.getfield 27, 3) := dkg_X12_195.2.2.2.2.2.2.1
theorem dX12_setWord_122 : decode cX12_setWord 122 = .ok (.iload_n 1, 1) := dkg_X12_195.2.2.2.2.2.2.2.1
theorem dX12_setWord_123 : decode cX12_setWord 123 = .ok (.iaload, 1) := dkg_X12_195.2.2.2.2.2.2.2.2.1
theorem dX12_setWord_124 : decode cX12_setWord 124 = .ok (.iload_n 3, 1) := dkg_X12_195.2.2.2.2.2.2.2.2.2.1
theorem dkg_X12_196 : dkp cX12_setWord [(125, .iload 5, 2), (127, .invokevirtual 237, 3), (130, .ifCond .ne 5, 3), (133, .iconst 0, 1), (134, .ireturn, 1), (135, .iload 5, 2), (137, .aload_n 0, 1), (138, .getfield 234, 3), (141, .if_icmp .ne 5, 3), (144, .iconst 1, 1)] := dkf (by decide +kernel)
theorem dX12_setWord_125 : decode cX12_setWord 125 = .ok (.iload 5, 2) := dkg_X12_196.1
theorem dX12_setWord_127 : decode cX12_setWord 127 = .ok (.invokevirtual 237, 3) := dkg_X12_196.2.1
theorem dX12_setWord_130 : decode cX12_setWord 130 = .ok (.ifCond .ne 5, 3) := dkg_X12_196.2.2.1
theorem dX12_setWord_133 : decode cX12_setWord 133 = .ok (.iconst 0, 1) := dkg_X12_196.2.2.2.1
theorem dX12_setWord_134 : decode cX12_setWord 134 = .ok (.ireturn, 1) := dkg_X12_196.2.2.2.2.1
theorem dX12_setWord_135 : decode cX12_setWord 135 = .ok (.iload 5, 2) := dkg_X12_196.2.2.2.2.2.1
theorem dX12_setWord_137 : decode cX12_setWord 137 = .ok (.aload_n 0, 1) := dkg_X12_196.2.2.2.2.2.2.1
theorem dX12_setWord_138 : decode cX12_setWord 138 = .ok (.getfield 234, 3) := dkg_X12_196.2.2.2.2.2.2.2.1
theorem dX12_setWord_141 : decode cX12_setWord 141 = .ok (.if_icmp .ne 5, 3) := dkg_X12_196.2.2.2.2.2.2.2.2.1
theorem dX12_setWord_144 : decode cX12_setWord 144 = .ok (.iconst 1, 1) := dkg_X12_196.2.2.2.2.2.2.2.2.2.1
theorem dkg_X12_197 : dkp cX12_setWord [(145, .ireturn, 1), (146, .iload_n 2, 1), (147, .ifCond .eq 7, 3), (150, .iconst 3, 1), (151, .goto 4, 3), (154, .iconst 2, 1), (155, .istore 6, 2), (157, .aload_n 0, 1), (158, .getfield 52, 3), (161, .iconst 4, 1)] := dkf (by decide +kernel)
theorem dX12_setWord_145 : decode cX12_setWord 145 = .ok (.ireturn, 1) := dkg_X12_197.1
theorem dX12_setWord_146 : decode cX12_setWord 146 = .ok (.iload_n 2, 1) := dkg_X12_197.2.1
theorem dX12_setWord_147 : decode cX12_setWord 147 = .ok (.ifCond .eq 7, 3) := dkg_X12_197.2.2.1
theorem dX12_setWord_150 : decode cX12_setWord 150 = .ok (.iconst 3, 1) := dkg_X12_197.2.2.2.1
theorem dX12_setWord_151 : decode cX12_setWord 151 = .ok (.goto 4, 3) := dkg_X12_197.2.2.2.2.1
theorem dX12_setWord_154 : decode cX12_setWord 154 = .ok (.iconst 2, 1) := dkg_X12_197.2.2.2.2.2.1
theorem dX12_setWord_155 : decode cX12_setWord 155 = .ok (.istore 6, 2) := dkg_X12_197.2.2.2.2.2.2.1
theorem dX12_setWord_157 : decode cX12_setWord 157 = .ok (.aload_n 0, 1) := dkg_X12_197.2.2.2.2.2.2.2.1
theorem dX12_setWord_158 : decode cX12_setWord 158 = .ok (.getfield 52, 3) := dkg_X12_197.2.2.2.2.2.2.2.2.1
theorem dX12_setWord_161 : decode cX12_setWord 161 = .ok (.iconst 4, 1) := dkg_X12_197.2.2.2.2.2.2.2.2.2.1
theorem dkg_X12_198 : dkp cX12_setWord [(162, .iload_n 1, 1), (163, .imul, 1), (164, .iload 6, 2), (166, .iadd, 1), (167, .iaload, 1), (168, .ifCond .ne 16, 3), (171, .aload_n 0, 1), (172, .aload_n 0, 1), (173, .getfield 64, 3), (176, .iload 5, 2)] := dkf (by decide +kernel)
theorem dX12_setWord_162 : decode cX12_setWord 162 = .ok (.iload_n 1, 1) := dkg_X12_198.1
theorem dX12_setWord_163 : decode cX12_setWord 163 = .ok (.imul, 1) := dkg_X12_198.2.1
theorem dX12_setWord_164 : decode cX12_setWord 164 = .ok (.iload 6, 2) := dkg_X12_198.2.2.1
theorem dX12_setWord_166 : decode cX12_setWord 166 = .ok (.iadd, 1) := dkg_X12_198.2.2.2.1
theorem dX12_setWord_167 : decode cX12_setWord 167 = .ok (.iaload, 1) := dkg_X12_198.2.2.2.2.1
theorem dX12_setWord_168 : decode cX12_setWord 168 = .ok (.ifCond .ne 16, 3) := dkg_X12_198.2.2.2.2.2.1
theorem dX12_setWord_171 : decode cX12_setWord 171 = .ok (.aload_n 0, 1) := dkg_X12_198.2.2.2.2.2.2.1
theorem dX12_setWord_172 : decode cX12_setWord 172 = .ok (.aload_n 0, 1) := dkg_X12_198.2.2.2.2.2.2.2.1
theorem dX12_setWord_173 : decode cX12_setWord 173 = .ok (.getfield 64, 3) := dkg_X12_198.2.2.2.2.2.2.2.2.1
theorem dX12_setWord_176 : decode cX12_setWord 176 = .ok (.iload 5, 2) := dkg_X12_198.2.2.2.2.2.2.2.2.2.1
theorem dkg_X12_199 : dkp cX12_setWord [(178, .iaload, 1), (179, .putfield 231, 3), (182, .iconst 0, 1), (183, .ireturn, 1), (184, .aload_n 0, 1), (185, .iload_n 1, 1), (186, .iload 6, 2), (188, .invokevirtual 227, 3), (191, .aload_n 0, 1), (192, .getfield 224, 3)] := dkf (by decide +kernel)
theorem dX12_setWord_178 : decode cX12_setWord 178 = .ok (.iaload, 1) := dkg_X12_199.1
theorem dX12_setWord_179 : decode cX12_setWord 179 = .ok (.putfield 231, 3) := dkg_X12_199.2.1
theorem dX12_setWord_182 : decode cX12_setWord 182 = .ok (.iconst 0, 1) := dkg_X12_199.2.2.1
theorem dX12_setWord_183 : decode cX12_setWord 183 = .ok (.ireturn, 1) := dkg_X12_199.2.2.2.1
theorem dX12_setWord_184 : decode cX12_setWord 184 = .ok (.aload_n 0, 1) := dkg_X12_199.2.2.2.2.1
theorem dX12_setWord_185 : decode cX12_setWord 185 = .ok (.iload_n 1, 1) := dkg_X12_199.2.2.2.2.2.1
theorem dX12_setWord_186 : decode cX12_setWord 186 = .ok (.iload 6, 2) := dkg_X12_199.2.2.2.2.2.2.1
theorem dX12_setWord_188 : decode cX12_setWord 188 = .ok (.invokevirtual 227, 3) := dkg_X12_199.2.2.2.2.2.2.2.1
theorem dX12_setWord_191 : decode cX12_setWord 191 = .ok (.aload_n 0, 1) := dkg_X12_199.2.2.2.2.2.2.2.2.1
theorem dX12_setWord_192 : decode cX12_setWord 192 = .ok (.getfield 224, 3) := dkg_X12_199.2.2.2.2.2.2.2.2.2.1
theorem dkg_X12_200 : dkp cX12_setWord [(195, .sipush 200, 3), (198, .if_icmp .le 10, 3), (201, .aload_n 0, 1), (202, .iconst (-1), 1), (203, .putfield 231, 3), (206, .iconst 0, 1), (207, .ireturn, 1), (208, .iload_n 2, 1), (209, .ifCond .ne 7, 3), (212, .iconst 1, 1)] := dkf (by decide +kernel)
theorem dX12_setWord_195 : decode cX12_setWord 195 = .ok (.sipush 200, 3) := dkg_X12_200.1
theorem dX12_setWord_198 : decode cX12_setWord 198 = .ok (.if_icmp .le 10, 3) := dkg_X12_200.2.1
theorem dX12_setWord_201 : decode cX12_setWord 201 = .ok (.aload_n 0, 1) := dkg_X12_200.2.2.1
theorem dX12_setWord_202 : decode cX12_setWord 202 = .ok (.iconst (-1), 1) := dkg_X12_200.2.2.2.1
theorem dX12_setWord_203 : decode cX12_setWord 203 = .ok (.putfield 231, 3) := dkg_X12_200.2.2.2.2.1
theorem dX12_setWord_206 : decode cX12_setWord 206 = .ok (.iconst 0, 1) := dkg_X12_200.2.2.2.2.2.1
theorem dX12_setWord_207 : decode cX12_setWord 207 = .ok (.ireturn, 1) := dkg_X12_200.2.2.2.2.2.2.1
theorem dX12_setWord_208 : decode cX12_setWord 208 = .ok (.iload_n 2, 1) := dkg_X12_200.2.2.2.2.2.2.2.1
theorem dX12_setWord_209 : decode cX12_setWord 209 = .ok (.ifCond .ne 7, 3) := dkg_X12_200.2.2.2.2.2.2.2.2.1
theorem dX12_setWord_212 : decode cX12_setWord 212 = .ok (.iconst 1, 1) := dkg_X12_200.2.2.2.2.2.2.2.2.2.1
theorem dkg_X12_201 : dkp cX12_setWord [(213, .goto 4, 3), (216, .iconst 0, 1), (217, .istore_n 2, 1), (218, .iload 5, 2), (220, .iconst 1, 1), (221, .iadd, 1), (222, .istore_n 3, 1), (223, .goto (-170), 3), (226, .iconst 1, 1), (227, .ireturn, 1)] := dkf (by decide +kernel)
theorem dX12_setWord_213 : decode cX12_setWord 213 = .ok (.goto 4, 3) := dkg_X12_201.1
theorem dX12_setWord_216 : decode cX12_setWord 216 = .ok (.iconst 0, 1) := dkg_X12_201.2.1
theorem dX12_setWord_217 : decode cX12_setWord 217 = .ok (.istore_n 2, 1) := dkg_X12_201.2.2.1
theorem dX12_setWord_218 : decode cX12_setWord 218 = .ok (.iload 5, 2) := dkg_X12_201.2.2.2.1
theorem dX12_setWord_220 : decode cX12_setWord 220 = .ok (.iconst 1, 1) := dkg_X12_201.2.2.2.2.1
theorem dX12_setWord_221 : decode cX12_setWord 221 = .ok (.iadd, 1) := dkg_X12_201.2.2.2.2.2.1
theorem dX12_setWord_222 : decode cX12_setWord 222 = .ok (.istore_n 3, 1) := dkg_X12_201.2.2.2.2.2.2.1
theorem dX12_setWord_223 : decode cX12_setWord 223 = .ok (.goto (-170), 3) := dkg_X12_201.2.2.2.2.2.2.2.1
theorem dX12_setWord_226 : decode cX12_setWord 226 = .ok (.iconst 1, 1) := dkg_X12_201.2.2.2.2.2.2.2.2.1
theorem dX12_setWord_227 : decode cX12_setWord 227 = .ok (.ireturn, 1) := dkg_X12_201.2.2.2.2.2.2.2.2.2.1
theorem dkg_X12_202 : dkp cX12_notSet [(0, .aload_n 0, 1), (1, .getfield 231, 3), (4, .ifCond .ge 12, 3), (7, .aload_n 0, 1), (8, .bipush 6, 2), (10, .invokevirtual 154, 3), (13, .goto 13, 3), (16, .aload_n 0, 1), (17, .bipush 7, 2), (19, .aload_n 0, 1)] := dkf (by decide +kernel)
theorem dX12_notSet_0 : decode cX12_notSet 0 = .ok (.aload_n 0, 1) := dkg_X12_202.1
theorem dX12_notSet_1 : decode cX12_notSet 1 = .ok (.getfield 231, 3) := dkg_X12_202.2.1
theorem dX12_notSet_4 : decode cX12_notSet 4 = .ok (.ifCond .ge 12, 3) := dkg_X12_202.2.2.1
theorem dX12_notSet_7 : decode cX12_notSet 7 = .ok (.aload_n 0, 1) := dkg_X12_202.2.2.2.1
theorem dX12_notSet_8 : decode cX12_notSet 8 = .ok (.bipush 6, 2) := dkg_X12_202.2.2.2.2.1
theorem dX12_notSet_10 : decode cX12_notSet 10 = .ok (.invokevirtual 154, 3) := dkg_X12_202.2.2.2.2.2.1
theorem dX12_notSet_13 : decode cX12_notSet 13 = .ok (.goto 13, 3) := dkg_X12_202.2.2.2.2.2.2.1
theorem dX12_notSet_16 : decode cX12_notSet 16 = .ok (.aload_n 0, 1) := dkg_X12_202.2.2.2.2.2.2.2.1
theorem dX12_notSet_17 : decode cX12_notSet 17 = .ok (.bipush 7, 2) := dkg_X12_202.2.2.2.2.2.2.2.2.1
theorem dX12_notSet_19 : decode cX12_notSet 19 = .ok (.aload_n 0, 1) := dkg_X12_202.2.2.2.2.2.2.2.2.2.1
theorem dkg_X12_203 : dkp cX12_notSet [(20, .getfield 231, 3), (23, .invokevirtual 240, 3), (26, .ireturn, 1)] := dkf (by decide +kernel)
theorem dX12_notSet_20 : decode cX12_notSet 20 = .ok (.getfield 231, 3) := dkg_X12_203.1
theorem dX12_notSet_23 : decode cX12_notSet 23 = .ok (.invokevirtual 240, 3) := dkg_X12_203.2.1
theorem dX12_notSet_26 : decode cX12_notSet 26 = .ok (.ireturn, 1) := dkg_X12_203.2.2.1
theorem dkg_X12_204 : dkp cX12_text [(0, .aload_n 0, 1), (1, .invokevirtual 192, 3), (4, .istore_n 1, 1), (5, .iconst 1, 1), (6, .istore_n 2, 1), (7, .iconst 0, 1), (8, .istore_n 3, 1), (9, .iload_n 3, 1), (10, .iload_n 1, 1), (11, .if_icmp .ge 46, 3)] := dkf (by decide +kernel)
theorem dX12_text_0 : decode cX12_text 0 = .ok (.aload_n 0, 1) := dkg_X12_204.1
theorem dX12_text_1 : decode cX12_text 1 = .ok (.invokevirtual 192, 3) := dkg_X12_204.2.1
theorem dX12_text_4 : decode cX12_text 4 = .ok (.istore_n 1, 1) := dkg_X12_204.2.2.1
theorem dX12_text_5 : decode cX12_text 5 = .ok (.iconst 1, 1) := dkg_X12_204.2.2.2.1
theorem dX12_text_6 : decode cX12_text 6 = .ok (.istore_n 2, 1) := dkg_X12_204.2.2.2.2.1
theorem dX12_text_7 : decode cX12_text 7 = .ok (.iconst 0, 1) := dkg_X12_204.2.2.2.2.2.1
theorem dX12_text_8 : decode cX12_text 8 = .ok (.istore_n 3, 1) := dkg_X12_204.2.2.2.2.2.2.1
theorem dX12_text_9 : decode cX12_text 9 = .ok (.iload_n 3, 1) := dkg_X12_204.2.2.2.2.2.2.2.1
theorem dX12_text_10 : decode cX12_text 10 = .ok (.iload_n 1, 1) := dkg_X12_204.2.2.2.2.2.2.2.2.1
theorem dX12_text_11 : decode cX12_text 11 = .ok (.if_icmp .ge 46, 3) := dkg_X12_204.2.2.2.2.2.2.2.2.2.1
theorem dkg_X12_205 : dkp cX12_text [(14, .iload_n 2, 1), (15, .ifCond .eq 34, 3), (18, .aload_n 0, 1), (19, .getfield 13, 3), (22, .iload_n 3, 1), (23, .iaload, 1), (24, .bipush 10, 2), (26, .if_icmp .eq 19, 3), (29, .aload_n 0, 1), (30, .getfield 13, 3)] := dkf (by decide +kernel)
theorem dX12_text_14 : decode cX12_text 14 = .ok (.iload_n 2, 1) := dkg_X12_205.1
theorem dX12_text_15 : decode cX12_text 15 = .ok (.ifCond .eq 34, 3) := dkg_X12_205.2.1
theorem dX12_text_18 : decode cX12_text 18 = .ok (.aload_n 0, 1) := dkg_X12_205.2.2.1
theorem dX12_text_19 : decode cX12_text 19 = .ok (.getfield 13, 3) := dkg_X12_205.2.2.2.1
theorem dX12_text_22 : decode cX12_text 22 = .ok (.iload_n 3, 1) := dkg_X12_205.2.2.2.2.1
theorem dX12_text_23 : decode cX12_text 23 = .ok (.iaload, 1) := dkg_X12_205.2.2.2.2.2.1
theorem dX12_text_24 : decode cX12_text 24 = .ok (.bipush 10, 2) := dkg_X12_205.2.2.2.2.2.2.1
theorem dX12_text_26 : decode cX12_text 26 = .ok (.if_icmp .eq 19, 3) := dkg_X12_205.2.2.2.2.2.2.2.1
theorem dX12_text_29 : decode cX12_text 29 = .ok (.aload_n 0, 1) := dkg_X12_205.2.2.2.2.2.2.2.2.1
theorem dX12_text_30 : decode cX12_text 30 = .ok (.getfield 13, 3) := dkg_X12_205.2.2.2.2.2.2.2.2.2.1
theorem dkg_X12_206 : dkp cX12_text [(33, .iload_n 3, 1), (34, .iaload, 1), (35, .bipush 32, 2), (37, .bipush 126, 2), (39, .invokestatic 174, 3), (42, .ifCond .eq 7, 3), (45, .iconst 1, 1), (46, .goto 4, 3), (49, .iconst 0, 1), (50, .istore_n 2, 1)] := dkf (by decide +kernel)
theorem dX12_text_33 : decode cX12_text 33 = .ok (.iload_n 3, 1) := dkg_X12_206.1
theorem dX12_text_34 : decode cX12_text 34 = .ok (.iaload, 1) := dkg_X12_206.2.1
theorem dX12_text_35 : decode cX12_text 35 = .ok (.bipush 32, 2) := dkg_X12_206.2.2.1
theorem dX12_text_37 : decode cX12_text 37 = .ok (.bipush 126, 2) := dkg_X12_206.2.2.2.1
theorem dX12_text_39 : decode cX12_text 39 = .ok (.invokestatic 174, 3) := dkg_X12_206.2.2.2.2.1
theorem dX12_text_42 : decode cX12_text 42 = .ok (.ifCond .eq 7, 3) := dkg_X12_206.2.2.2.2.2.1
theorem dX12_text_45 : decode cX12_text 45 = .ok (.iconst 1, 1) := dkg_X12_206.2.2.2.2.2.2.1
theorem dX12_text_46 : decode cX12_text 46 = .ok (.goto 4, 3) := dkg_X12_206.2.2.2.2.2.2.2.1
theorem dX12_text_49 : decode cX12_text 49 = .ok (.iconst 0, 1) := dkg_X12_206.2.2.2.2.2.2.2.2.1
theorem dX12_text_50 : decode cX12_text 50 = .ok (.istore_n 2, 1) := dkg_X12_206.2.2.2.2.2.2.2.2.2.1
theorem dkg_X12_207 : dkp cX12_text [(51, .iinc 3 1, 3), (54, .goto (-45), 3), (57, .iload_n 2, 1), (58, .ifCond .eq 15, 3), (61, .aload_n 0, 1), (62, .getfield 243, 3), (65, .iload_n 1, 1), (66, .iadd, 1), (67, .sipush 500, 3), (70, .if_icmp .le 10, 3)] := dkf (by decide +kernel)
theorem dX12_text_51 : decode cX12_text 51 = .ok (.iinc 3 1, 3) := dkg_X12_207.1
theorem dX12_text_54 : decode cX12_text 54 = .ok (.goto (-45), 3) := dkg_X12_207.2.1
theorem dX12_text_57 : decode cX12_text 57 = .ok (.iload_n 2, 1) := dkg_X12_207.2.2.1
theorem dX12_text_58 : decode cX12_text 58 = .ok (.ifCond .eq 15, 3) := dkg_X12_207.2.2.2.1
theorem dX12_text_61 : decode cX12_text 61 = .ok (.aload_n 0, 1) := dkg_X12_207.2.2.2.2.1
theorem dX12_text_62 : decode cX12_text 62 = .ok (.getfield 243, 3) := dkg_X12_207.2.2.2.2.2.1
theorem dX12_text_65 : decode cX12_text 65 = .ok (.iload_n 1, 1) := dkg_X12_207.2.2.2.2.2.2.1
theorem dX12_text_66 : decode cX12_text 66 = .ok (.iadd, 1) := dkg_X12_207.2.2.2.2.2.2.2.1
theorem dX12_text_67 : decode cX12_text 67 = .ok (.sipush 500, 3) := dkg_X12_207.2.2.2.2.2.2.2.2.1
theorem dX12_text_70 : decode cX12_text 70 = .ok (.if_icmp .le 10, 3) := dkg_X12_207.2.2.2.2.2.2.2.2.2.1
theorem dkg_X12_208 : dkp cX12_text [(73, .aload_n 0, 1), (74, .bipush 6, 2), (76, .invokevirtual 154, 3), (79, .ireturn, 1), (80, .iconst 0, 1), (81, .istore_n 3, 1), (82, .iload_n 3, 1), (83, .iload_n 1, 1), (84, .if_icmp .ge 26, 3), (87, .aload_n 0, 1)] := dkf (by decide +kernel)
theorem dX12_text_73 : decode cX12_text 73 = .ok (.aload_n 0, 1) := dkg_X12_208.1
theorem dX12_text_74 : decode cX12_text 74 = .ok (.bipush 6, 2) := dkg_X12_208.2.1
theorem dX12_text_76 : decode cX12_text 76 = .ok (.invokevirtual 154, 3) := dkg_X12_208.2.2.1
theorem dX12_text_79 : decode cX12_text 79 = .ok (.ireturn, 1) := dkg_X12_208.2.2.2.1
theorem dX12_text_80 : decode cX12_text 80 = .ok (.iconst 0, 1) := dkg_X12_208.2.2.2.2.1
theorem dX12_text_81 : decode cX12_text 81 = .ok (.istore_n 3, 1) := dkg_X12_208.2.2.2.2.2.1
theorem dX12_text_82 : decode cX12_text 82 = .ok (.iload_n 3, 1) := dkg_X12_208.2.2.2.2.2.2.1
theorem dX12_text_83 : decode cX12_text 83 = .ok (.iload_n 1, 1) := dkg_X12_208.2.2.2.2.2.2.2.1
theorem dX12_text_84 : decode cX12_text 84 = .ok (.if_icmp .ge 26, 3) := dkg_X12_208.2.2.2.2.2.2.2.2.1
theorem dX12_text_87 : decode cX12_text 87 = .ok (.aload_n 0, 1) := dkg_X12_208.2.2.2.2.2.2.2.2.2.1
theorem dkg_X12_209 : dkp cX12_text [(88, .getfield 79, 3), (91, .aload_n 0, 1), (92, .getfield 243, 3), (95, .iload_n 3, 1), (96, .iadd, 1), (97, .aload_n 0, 1), (98, .getfield 13, 3), (101, .iload_n 3, 1), (102, .iaload, 1), (103, .iastore, 1)] := dkf (by decide +kernel)
theorem dX12_text_88 : decode cX12_text 88 = .ok (.getfield 79, 3) := dkg_X12_209.1
theorem dX12_text_91 : decode cX12_text 91 = .ok (.aload_n 0, 1) := dkg_X12_209.2.1
theorem dX12_text_92 : decode cX12_text 92 = .ok (.getfield 243, 3) := dkg_X12_209.2.2.1
theorem dX12_text_95 : decode cX12_text 95 = .ok (.iload_n 3, 1) := dkg_X12_209.2.2.2.1
theorem dX12_text_96 : decode cX12_text 96 = .ok (.iadd, 1) := dkg_X12_209.2.2.2.2.1
theorem dX12_text_97 : decode cX12_text 97 = .ok (.aload_n 0, 1) := dkg_X12_209.2.2.2.2.2.1
theorem dX12_text_98 : decode cX12_text 98 = .ok (.getfield 13, 3) := dkg_X12_209.2.2.2.2.2.2.1
theorem dX12_text_101 : decode cX12_text 101 = .ok (.iload_n 3, 1) := dkg_X12_209.2.2.2.2.2.2.2.1
theorem dX12_text_102 : decode cX12_text 102 = .ok (.iaload, 1) := dkg_X12_209.2.2.2.2.2.2.2.2.1
theorem dX12_text_103 : decode cX12_text 103 = .ok (.iastore, 1) := dkg_X12_209.2.2.2.2.2.2.2.2.2.1
theorem dkg_X12_210 : dkp cX12_text [(104, .iinc 3 1, 3), (107, .goto (-25), 3), (110, .aload_n 0, 1), (111, .iload_n 1, 1), (112, .ifCond .ne 7, 3), (115, .iconst 0, 1), (116, .goto 9, 3), (119, .aload_n 0, 1), (120, .getfield 243, 3), (123, .iload_n 1, 1)] := dkf (by decide +kernel)
theorem dX12_text_104 : decode cX12_text 104 = .ok (.iinc 3 1, 3) := dkg_X12_210.1
theorem dX12_text_107 : decode cX12_text 107 = .ok (.goto (-25), 3) := dkg_X12_210.2.1
theorem dX12_text_110 : decode cX12_text 110 = .ok (.aload_n 0, 1) := dkg_X12_210.2.2.1
theorem dX12_text_111 : decode cX12_text 111 = .ok (.iload_n 1, 1) := dkg_X12_210.2.2.2.1
theorem dX12_text_112 : decode cX12_text 112 = .ok (.ifCond .ne 7, 3) := dkg_X12_210.2.2.2.2.1
theorem dX12_text_115 : decode cX12_text 115 = .ok (.iconst 0, 1) := dkg_X12_210.2.2.2.2.2.1
theorem dX12_text_116 : decode cX12_text 116 = .ok (.goto 9, 3) := dkg_X12_210.2.2.2.2.2.2.1
theorem dX12_text_119 : decode cX12_text 119 = .ok (.aload_n 0, 1) := dkg_X12_210.2.2.2.2.2.2.2.1
theorem dX12_text_120 : decode cX12_text 120 = .ok (.getfield 243, 3) := dkg_X12_210.2.2.2.2.2.2.2.2.1
theorem dX12_text_123 : decode cX12_text 123 = .ok (.iload_n 1, 1) := dkg_X12_210.2.2.2.2.2.2.2.2.2.1
theorem dkg_X12_211 : dkp cX12_text [(124, .iadd, 1), (125, .putfield 243, 3), (128, .aload_n 0, 1), (129, .aload_n 0, 1), (130, .getfield 243, 3), (133, .invokevirtual 158, 3), (136, .ireturn, 1)] := dkf (by decide +kernel)
theorem dX12_text_124 : decode cX12_text 124 = .ok (.iadd, 1) := dkg_X12_211.1
theorem dX12_text_125 : decode cX12_text 125 = .ok (.putfield 243, 3) := dkg_X12_211.2.1
theorem dX12_text_128 : decode cX12_text 128 = .ok (.aload_n 0, 1) := dkg_X12_211.2.2.1
theorem dX12_text_129 : decode cX12_text 129 = .ok (.aload_n 0, 1) := dkg_X12_211.2.2.2.1
theorem dX12_text_130 : decode cX12_text 130 = .ok (.getfield 243, 3) := dkg_X12_211.2.2.2.2.1
theorem dX12_text_133 : decode cX12_text 133 = .ok (.invokevirtual 158, 3) := dkg_X12_211.2.2.2.2.2.1
theorem dX12_text_136 : decode cX12_text 136 = .ok (.ireturn, 1) := dkg_X12_211.2.2.2.2.2.2.1
theorem dkg_X12_212 : dkp cX12_measure [(0, .iload_n 1, 1), (1, .iconst 1, 1), (2, .bipush 100, 2), (4, .invokestatic 174, 3), (7, .ifCond .eq 24, 3), (10, .iload_n 2, 1), (11, .iconst 1, 1), (12, .bipush 50, 2), (14, .invokestatic 174, 3), (17, .ifCond .eq 14, 3)] := dkf (by decide +kernel)
theorem dX12_measure_0 : decode cX12_measure 0 = .ok (.iload_n 1, 1) := dkg_X12_212.1
theorem dX12_measure_1 : decode cX12_measure 1 = .ok (.iconst 1, 1) := dkg_X12_212.2.1
theorem dX12_measure_2 : decode cX12_measure 2 = .ok (.bipush 100, 2) := dkg_X12_212.2.2.1
theorem dX12_measure_4 : decode cX12_measure 4 = .ok (.invokestatic 174, 3) := dkg_X12_212.2.2.2.1
theorem dX12_measure_7 : decode cX12_measure 7 = .ok (.ifCond .eq 24, 3) := dkg_X12_212.2.2.2.2.1
theorem dX12_measure_10 : decode cX12_measure 10 = .ok (.iload_n 2, 1) := dkg_X12_212.2.2.2.2.2.1
theorem dX12_measure_11 : decode cX12_measure 11 = .ok (.iconst 1, 1) := dkg_X12_212.2.2.2.2.2.2.1
theorem dX12_measure_12 : decode cX12_measure 12 = .ok (.bipush 50, 2) := dkg_X12_212.2.2.2.2.2.2.2.1
theorem dX12_measure_14 : decode cX12_measure 14 = .ok (.invokestatic 174, 3) := dkg_X12_212.2.2.2.2.2.2.2.2.1
theorem dX12_measure_17 : decode cX12_measure 17 = .ok (.ifCond .eq 14, 3) := dkg_X12_212.2.2.2.2.2.2.2.2.2.1
theorem dkg_X12_213 : dkp cX12_measure [(20, .iload_n 3, 1), (21, .iconst 1, 1), (22, .sipush 255, 3), (25, .invokestatic 174, 3), (28, .ifCond .ne 10, 3), (31, .aload_n 0, 1), (32, .bipush 6, 2), (34, .invokevirtual 154, 3), (37, .ireturn, 1), (38, .aload_n 0, 1)] := dkf (by decide +kernel)
theorem dX12_measure_20 : decode cX12_measure 20 = .ok (.iload_n 3, 1) := dkg_X12_213.1
theorem dX12_measure_21 : decode cX12_measure 21 = .ok (.iconst 1, 1) := dkg_X12_213.2.1
theorem dX12_measure_22 : decode cX12_measure 22 = .ok (.sipush 255, 3) := dkg_X12_213.2.2.1
theorem dX12_measure_25 : decode cX12_measure 25 = .ok (.invokestatic 174, 3) := dkg_X12_213.2.2.2.1
theorem dX12_measure_28 : decode cX12_measure 28 = .ok (.ifCond .ne 10, 3) := dkg_X12_213.2.2.2.2.1
theorem dX12_measure_31 : decode cX12_measure 31 = .ok (.aload_n 0, 1) := dkg_X12_213.2.2.2.2.2.1
theorem dX12_measure_32 : decode cX12_measure 32 = .ok (.bipush 6, 2) := dkg_X12_213.2.2.2.2.2.2.1
theorem dX12_measure_34 : decode cX12_measure 34 = .ok (.invokevirtual 154, 3) := dkg_X12_213.2.2.2.2.2.2.2.1
theorem dX12_measure_37 : decode cX12_measure 37 = .ok (.ireturn, 1) := dkg_X12_213.2.2.2.2.2.2.2.2.1
theorem dX12_measure_38 : decode cX12_measure 38 = .ok (.aload_n 0, 1) := dkg_X12_213.2.2.2.2.2.2.2.2.2.1
theorem dkg_X12_214 : dkp cX12_measure [(39, .iload_n 1, 1), (40, .putfield 82, 3), (43, .aload_n 0, 1), (44, .iload_n 2, 1), (45, .putfield 85, 3), (48, .aload_n 0, 1), (49, .iload_n 3, 1), (50, .putfield 88, 3), (53, .aload_n 0, 1), (54, .iconst 1, 1)] := dkf (by decide +kernel)
theorem dX12_measure_39 : decode cX12_measure 39 = .ok (.iload_n 1, 1) := dkg_X12_214.1
theorem dX12_measure_40 : decode cX12_measure 40 = .ok (.putfield 82, 3) := dkg_X12_214.2.1
theorem dX12_measure_43 : decode cX12_measure 43 = .ok (.aload_n 0, 1) := dkg_X12_214.2.2.1
theorem dX12_measure_44 : decode cX12_measure 44 = .ok (.iload_n 2, 1) := dkg_X12_214.2.2.2.1
theorem dX12_measure_45 : decode cX12_measure 45 = .ok (.putfield 85, 3) := dkg_X12_214.2.2.2.2.1
theorem dX12_measure_48 : decode cX12_measure 48 = .ok (.aload_n 0, 1) := dkg_X12_214.2.2.2.2.2.1
theorem dX12_measure_49 : decode cX12_measure 49 = .ok (.iload_n 3, 1) := dkg_X12_214.2.2.2.2.2.2.1
theorem dX12_measure_50 : decode cX12_measure 50 = .ok (.putfield 88, 3) := dkg_X12_214.2.2.2.2.2.2.2.1
theorem dX12_measure_53 : decode cX12_measure 53 = .ok (.aload_n 0, 1) := dkg_X12_214.2.2.2.2.2.2.2.2.1
theorem dX12_measure_54 : decode cX12_measure 54 = .ok (.iconst 1, 1) := dkg_X12_214.2.2.2.2.2.2.2.2.2.1
theorem dkg_X12_215 : dkp cX12_measure [(55, .invokevirtual 158, 3), (58, .ireturn, 1)] := dkf (by decide +kernel)
theorem dX12_measure_55 : decode cX12_measure 55 = .ok (.invokevirtual 158, 3) := dkg_X12_215.1
theorem dX12_measure_58 : decode cX12_measure 58 = .ok (.ireturn, 1) := dkg_X12_215.2.1
theorem dkg_X12_216 : dkp cX12_takeWord [(0, .iload_n 1, 1), (1, .istore_n 3, 1), (2, .aload_n 0, 1), (3, .iconst 0, 1), (4, .putfield 234, 3), (7, .iload_n 3, 1), (8, .iload_n 2, 1), (9, .if_icmp .ge 141, 3), (12, .aload_n 0, 1), (13, .getfield 234, 3)] := dkf (by decide +kernel)
theorem dX12_takeWord_0 : decode cX12_takeWord 0 = .ok (.iload_n 1, 1) := dkg_X12_216.1
theorem dX12_takeWord_1 : decode cX12_takeWord 1 = .ok (.istore_n 3, 1) := dkg_X12_216.2.1
theorem dX12_takeWord_2 : decode cX12_takeWord 2 = .ok (.aload_n 0, 1) := dkg_X12_216.2.2.1
theorem dX12_takeWord_3 : decode cX12_takeWord 3 = .ok (.iconst 0, 1) := dkg_X12_216.2.2.2.1
theorem dX12_takeWord_4 : decode cX12_takeWord 4 = .ok (.putfield 234, 3) := dkg_X12_216.2.2.2.2.1
theorem dX12_takeWord_7 : decode cX12_takeWord 7 = .ok (.iload_n 3, 1) := dkg_X12_216.2.2.2.2.2.1
theorem dX12_takeWord_8 : decode cX12_takeWord 8 = .ok (.iload_n 2, 1) := dkg_X12_216.2.2.2.2.2.2.1
theorem dX12_takeWord_9 : decode cX12_takeWord 9 = .ok (.if_icmp .ge 141, 3) := dkg_X12_216.2.2.2.2.2.2.2.1
theorem dX12_takeWord_12 : decode cX12_takeWord 12 = .ok (.aload_n 0, 1) := dkg_X12_216.2.2.2.2.2.2.2.2.1
theorem dX12_takeWord_13 : decode cX12_takeWord 13 = .ok (.getfield 234, 3) := dkg_X12_216.2.2.2.2.2.2.2.2.2.1
theorem dkg_X12_217 : dkp cX12_takeWord [(16, .ifCond .ne 134, 3), (19, .iload_n 3, 1), (20, .iload_n 2, 1), (21, .if_icmp .ge 20, 3), (24, .aload_n 0, 1), (25, .getfield 79, 3), (28, .iload_n 3, 1), (29, .iaload, 1), (30, .bipush 32, 2), (32, .if_icmp .ne 9, 3)] := dkf (by decide +kernel)
theorem dX12_takeWord_16 : decode cX12_takeWord 16 = .ok (.ifCond .ne 134, 3) := dkg_X12_217.1
theorem dX12_takeWord_19 : decode cX12_takeWord 19 = .ok (.iload_n 3, 1) := dkg_X12_217.2.1
theorem dX12_takeWord_20 : decode cX12_takeWord 20 = .ok (.iload_n 2, 1) := dkg_X12_217.2.2.1
theorem dX12_takeWord_21 : decode cX12_takeWord 21 = .ok (.if_icmp .ge 20, 3) := dkg_X12_217.2.2.2.1
theorem dX12_takeWord_24 : decode cX12_takeWord 24 = .ok (.aload_n 0, 1) := dkg_X12_217.2.2.2.2.1
theorem dX12_takeWord_25 : decode cX12_takeWord 25 = .ok (.getfield 79, 3) := dkg_X12_217.2.2.2.2.2.1
theorem dX12_takeWord_28 : decode cX12_takeWord 28 = .ok (.iload_n 3, 1) := dkg_X12_217.2.2.2.2.2.2.1
theorem dX12_takeWord_29 : decode cX12_takeWord 29 = .ok (.iaload, 1) := dkg_X12_217.2.2.2.2.2.2.2.1
theorem dX12_takeWord_30 : decode cX12_takeWord 30 = .ok (.bipush 32, 2) := dkg_X12_217.2.2.2.2.2.2.2.2.1
theorem dX12_takeWord_32 : decode cX12_takeWord 32 = .ok (.if_icmp .ne 9, 3) := dkg_X12_217.2.2.2.2.2.2.2.2.2.1
theorem dkg_X12_218 : dkp cX12_takeWord [(35, .iinc 3 1, 3), (38, .goto (-19), 3), (41, .aload_n 0, 1), (42, .getfield 67, 3), (45, .iconst 0, 1), (46, .iconst 0, 1), (47, .bastore, 1), (48, .iload_n 3, 1), (49, .iload_n 2, 1), (50, .if_icmp .ge (-43), 3)] := dkf (by decide +kernel)
theorem dX12_takeWord_35 : decode cX12_takeWord 35 = .ok (.iinc 3 1, 3) := dkg_X12_218.1
theorem dX12_takeWord_38 : decode cX12_takeWord 38 = .ok (.goto (-19), 3) := dkg_X12_218.2.1
theorem dX12_takeWord_41 : decode cX12_takeWord 41 = .ok (.aload_n 0, 1) := dkg_X12_218.2.2.1
theorem dX12_takeWord_42 : decode cX12_takeWord 42 = .ok (.getfield 67, 3) := dkg_X12_218.2.2.2.1
theorem dX12_takeWord_45 : decode cX12_takeWord 45 = .ok (.iconst 0, 1) := dkg_X12_218.2.2.2.2.1
theorem dX12_takeWord_46 : decode cX12_takeWord 46 = .ok (.iconst 0, 1) := dkg_X12_218.2.2.2.2.2.1
theorem dX12_takeWord_47 : decode cX12_takeWord 47 = .ok (.bastore, 1) := dkg_X12_218.2.2.2.2.2.2.1
theorem dX12_takeWord_48 : decode cX12_takeWord 48 = .ok (.iload_n 3, 1) := dkg_X12_218.2.2.2.2.2.2.2.1
theorem dX12_takeWord_49 : decode cX12_takeWord 49 = .ok (.iload_n 2, 1) := dkg_X12_218.2.2.2.2.2.2.2.2.1
theorem dX12_takeWord_50 : decode cX12_takeWord 50 = .ok (.if_icmp .ge (-43), 3) := dkg_X12_218.2.2.2.2.2.2.2.2.2.1
theorem dkg_X12_219 : dkp cX12_takeWord [(53, .aload_n 0, 1), (54, .getfield 79, 3), (57, .iload_n 3, 1), (58, .iaload, 1), (59, .bipush 32, 2), (61, .if_icmp .eq (-54), 3), (64, .aload_n 0, 1), (65, .getfield 79, 3), (68, .iload_n 3, 1), (69, .iaload, 1)] := dkf (by decide +kernel)
theorem dX12_takeWord_53 : decode cX12_takeWord 53 = .ok (.aload_n 0, 1) := dkg_X12_219.1
theorem dX12_takeWord_54 : decode cX12_takeWord 54 = .ok (.getfield 79, 3) := dkg_X12_219.2.1
theorem dX12_takeWord_57 : decode cX12_takeWord 57 = .ok (.iload_n 3, 1) := dkg_X12_219.2.2.1
theorem dX12_takeWord_58 : decode cX12_takeWord 58 = .ok (.iaload, 1) := dkg_X12_219.2.2.2.1
theorem dX12_takeWord_59 : decode cX12_takeWord 59 = .ok (.bipush 32, 2) := dkg_X12_219.2.2.2.2.1
theorem dX12_takeWord_61 : decode cX12_takeWord 61 = .ok (.if_icmp .eq (-54), 3) := dkg_X12_219.2.2.2.2.2.1
theorem dX12_takeWord_64 : decode cX12_takeWord 64 = .ok (.aload_n 0, 1) := dkg_X12_219.2.2.2.2.2.2.1
theorem dX12_takeWord_65 : decode cX12_takeWord 65 = .ok (.getfield 79, 3) := dkg_X12_219.2.2.2.2.2.2.2.1
theorem dX12_takeWord_68 : decode cX12_takeWord 68 = .ok (.iload_n 3, 1) := dkg_X12_219.2.2.2.2.2.2.2.2.1
theorem dX12_takeWord_69 : decode cX12_takeWord 69 = .ok (.iaload, 1) := dkg_X12_219.2.2.2.2.2.2.2.2.2.1
theorem dkg_X12_220 : dkp cX12_takeWord [(70, .bipush 126, 2), (72, .if_icmp .ne 27, 3), (75, .aload_n 0, 1), (76, .getfield 67, 3), (79, .aload_n 0, 1), (80, .getfield 234, 3), (83, .aload_n 0, 1), (84, .getfield 234, 3), (87, .ifCond .le 7, 3), (90, .iconst 1, 1)] := dkf (by decide +kernel)
theorem dX12_takeWord_70 : decode cX12_takeWord 70 = .ok (.bipush 126, 2) := dkg_X12_220.1
theorem dX12_takeWord_72 : decode cX12_takeWord 72 = .ok (.if_icmp .ne 27, 3) := dkg_X12_220.2.1
theorem dX12_takeWord_75 : decode cX12_takeWord 75 = .ok (.aload_n 0, 1) := dkg_X12_220.2.2.1
theorem dX12_takeWord_76 : decode cX12_takeWord 76 = .ok (.getfield 67, 3) := dkg_X12_220.2.2.2.1
theorem dX12_takeWord_79 : decode cX12_takeWord 79 = .ok (.aload_n 0, 1) := dkg_X12_220.2.2.2.2.1
theorem dX12_takeWord_80 : decode cX12_takeWord 80 = .ok (.getfield 234, 3) := dkg_X12_220.2.2.2.2.2.1
theorem dX12_takeWord_83 : decode cX12_takeWord 83 = .ok (.aload_n 0, 1) := dkg_X12_220.2.2.2.2.2.2.1
theorem dX12_takeWord_84 : decode cX12_takeWord 84 = .ok (.getfield 234, 3) := dkg_X12_220.2.2.2.2.2.2.2.1
theorem dX12_takeWord_87 : decode cX12_takeWord 87 = .ok (.ifCond .le 7, 3) := dkg_X12_220.2.2.2.2.2.2.2.2.1
theorem dX12_takeWord_90 : decode cX12_takeWord 90 = .ok (.iconst 1, 1) := dkg_X12_220.2.2.2.2.2.2.2.2.2.1
theorem dkg_X12_221 : dkp cX12_takeWord [(91, .goto 4, 3), (94, .iconst 0, 1), (95, .bastore, 1), (96, .goto 48, 3), (99, .aload_n 0, 1), (100, .getfield 61, 3), (103, .aload_n 0, 1), (104, .getfield 234, 3), (107, .aload_n 0, 1), (108, .getfield 79, 3)] := dkf (by decide +kernel)
theorem dX12_takeWord_91 : decode cX12_takeWord 91 = .ok (.goto 4, 3) := dkg_X12_221.1
theorem dX12_takeWord_94 : decode cX12_takeWord 94 = .ok (.iconst 0, 1) := dkg_X12_221.2.1
theorem dX12_takeWord_95 : decode cX12_takeWord 95 = .ok (.bastore, 1) := dkg_X12_221.2.2.1
theorem dX12_takeWord_96 : decode cX12_takeWord 96 = .ok (.goto 48, 3) := dkg_X12_221.2.2.2.1
theorem dX12_takeWord_99 : decode cX12_takeWord 99 = .ok (.aload_n 0, 1) := dkg_X12_221.2.2.2.2.1
theorem dX12_takeWord_100 : decode cX12_takeWord 100 = .ok (.getfield 61, 3) := dkg_X12_221.2.2.2.2.2.1
theorem dX12_takeWord_103 : decode cX12_takeWord 103 = .ok (.aload_n 0, 1) := dkg_X12_221.2.2.2.2.2.2.1
theorem dX12_takeWord_104 : decode cX12_takeWord 104 = .ok (.getfield 234, 3) := dkg_X12_221.2.2.2.2.2.2.2.1
theorem dX12_takeWord_107 : decode cX12_takeWord 107 = .ok (.aload_n 0, 1) := dkg_X12_221.2.2.2.2.2.2.2.2.1
theorem dX12_takeWord_108 : decode cX12_takeWord 108 = .ok (.getfield 79, 3) := dkg_X12_221.2.2.2.2.2.2.2.2.2.1
theorem dkg_X12_222 : dkp cX12_takeWord [(111, .iload_n 3, 1), (112, .iaload, 1), (113, .iastore, 1), (114, .aload_n 0, 1), (115, .getfield 64, 3), (118, .aload_n 0, 1), (119, .getfield 234, 3), (122, .iload_n 3, 1), (123, .iastore, 1), (124, .aload_n 0, 1)] := dkf (by decide +kernel)
theorem dX12_takeWord_111 : decode cX12_takeWord 111 = .ok (.iload_n 3, 1) := dkg_X12_222.1
theorem dX12_takeWord_112 : decode cX12_takeWord 112 = .ok (.iaload, 1) := dkg_X12_222.2.1
theorem dX12_takeWord_113 : decode cX12_takeWord 113 = .ok (.iastore, 1) := dkg_X12_222.2.2.1
theorem dX12_takeWord_114 : decode cX12_takeWord 114 = .ok (.aload_n 0, 1) := dkg_X12_222.2.2.2.1
theorem dX12_takeWord_115 : decode cX12_takeWord 115 = .ok (.getfield 64, 3) := dkg_X12_222.2.2.2.2.1
theorem dX12_takeWord_118 : decode cX12_takeWord 118 = .ok (.aload_n 0, 1) := dkg_X12_222.2.2.2.2.2.1
theorem dX12_takeWord_119 : decode cX12_takeWord 119 = .ok (.getfield 234, 3) := dkg_X12_222.2.2.2.2.2.2.1
theorem dX12_takeWord_122 : decode cX12_takeWord 122 = .ok (.iload_n 3, 1) := dkg_X12_222.2.2.2.2.2.2.2.1
theorem dX12_takeWord_123 : decode cX12_takeWord 123 = .ok (.iastore, 1) := dkg_X12_222.2.2.2.2.2.2.2.2.1
theorem dX12_takeWord_124 : decode cX12_takeWord 124 = .ok (.aload_n 0, 1) := dkg_X12_222.2.2.2.2.2.2.2.2.2.1
theorem dkg_X12_223 : dkp cX12_takeWord [(125, .dup, 1), (126, .getfield 234, 3), (129, .iconst 1, 1), (130, .iadd, 1), (131, .putfield 234, 3), (134, .aload_n 0, 1), (135, .getfield 67, 3), (138, .aload_n 0, 1), (139, .getfield 234, 3), (142, .iconst 0, 1)] := dkf (by decide +kernel)
theorem dX12_takeWord_125 : decode cX12_takeWord 125 = .ok (.dup, 1) := dkg_X12_223.1
theorem dX12_takeWord_126 : decode cX12_takeWord 126 = .ok (.getfield 234, 3) := dkg_X12_223.2.1
theorem dX12_takeWord_129 : decode cX12_takeWord 129 = .ok (.iconst 1, 1) := dkg_X12_223.2.2.1
theorem dX12_takeWord_130 : decode cX12_takeWord 130 = .ok (.iadd, 1) := dkg_X12_223.2.2.2.1
theorem dX12_takeWord_131 : decode cX12_takeWord 131 = .ok (.putfield 234, 3) := dkg_X12_223.2.2.2.2.1
theorem dX12_takeWord_134 : decode cX12_takeWord 134 = .ok (.aload_n 0, 1) := dkg_X12_223.2.2.2.2.2.1
theorem dX12_takeWord_135 : decode cX12_takeWord 135 = .ok (.getfield 67, 3) := dkg_X12_223.2.2.2.2.2.2.1
theorem dX12_takeWord_138 : decode cX12_takeWord 138 = .ok (.aload_n 0, 1) := dkg_X12_223.2.2.2.2.2.2.2.1
theorem dX12_takeWord_139 : decode cX12_takeWord 139 = .ok (.getfield 234, 3) := dkg_X12_223.2.2.2.2.2.2.2.2.1
theorem dX12_takeWord_142 : decode cX12_takeWord 142 = .ok (.iconst 0, 1) := dkg_X12_223.2.2.2.2.2.2.2.2.2.1
theorem dkg_X12_224 : dkp cX12_takeWord [(143, .bastore, 1), (144, .iinc 3 1, 3), (147, .goto (-99), 3), (150, .iload_n 3, 1), (151, .ireturn, 1)] := dkf (by decide +kernel)
theorem dX12_takeWord_143 : decode cX12_takeWord 143 = .ok (.bastore, 1) := dkg_X12_224.1
theorem dX12_takeWord_144 : decode cX12_takeWord 144 = .ok (.iinc 3 1, 3) := dkg_X12_224.2.1
theorem dX12_takeWord_147 : decode cX12_takeWord 147 = .ok (.goto (-99), 3) := dkg_X12_224.2.2.1
theorem dX12_takeWord_150 : decode cX12_takeWord 150 = .ok (.iload_n 3, 1) := dkg_X12_224.2.2.2.1
theorem dX12_takeWord_151 : decode cX12_takeWord 151 = .ok (.ireturn, 1) := dkg_X12_224.2.2.2.2.1
theorem dkg_X12_225 : dkp cX12_lineEnd [(0, .iload_n 1, 1), (1, .istore_n 2, 1), (2, .iload_n 2, 1), (3, .aload_n 0, 1), (4, .getfield 243, 3), (7, .if_icmp .ge 20, 3), (10, .aload_n 0, 1), (11, .getfield 79, 3), (14, .iload_n 2, 1), (15, .iaload, 1)] := dkf (by decide +kernel)
theorem dX12_lineEnd_0 : decode cX12_lineEnd 0 = .ok (.iload_n 1, 1) := dkg_X12_225.1
theorem dX12_lineEnd_1 : decode cX12_lineEnd 1 = .ok (.istore_n 2, 1) := dkg_X12_225.2.1
theorem dX12_lineEnd_2 : decode cX12_lineEnd 2 = .ok (.iload_n 2, 1) := dkg_X12_225.2.2.1
theorem dX12_lineEnd_3 : decode cX12_lineEnd 3 = .ok (.aload_n 0, 1) := dkg_X12_225.2.2.2.1
theorem dX12_lineEnd_4 : decode cX12_lineEnd 4 = .ok (.getfield 243, 3) := dkg_X12_225.2.2.2.2.1
theorem dX12_lineEnd_7 : decode cX12_lineEnd 7 = .ok (.if_icmp .ge 20, 3) := dkg_X12_225.2.2.2.2.2.1
theorem dX12_lineEnd_10 : decode cX12_lineEnd 10 = .ok (.aload_n 0, 1) := dkg_X12_225.2.2.2.2.2.2.1
theorem dX12_lineEnd_11 : decode cX12_lineEnd 11 = .ok (.getfield 79, 3) := dkg_X12_225.2.2.2.2.2.2.2.1
theorem dX12_lineEnd_14 : decode cX12_lineEnd 14 = .ok (.iload_n 2, 1) := dkg_X12_225.2.2.2.2.2.2.2.2.1
theorem dX12_lineEnd_15 : decode cX12_lineEnd 15 = .ok (.iaload, 1) := dkg_X12_225.2.2.2.2.2.2.2.2.2.1
theorem dkg_X12_226 : dkp cX12_lineEnd [(16, .bipush 10, 2), (18, .if_icmp .eq 9, 3), (21, .iinc 2 1, 3), (24, .goto (-22), 3), (27, .iload_n 2, 1), (28, .ireturn, 1)] := dkf (by decide +kernel)
theorem dX12_lineEnd_16 : decode cX12_lineEnd 16 = .ok (.bipush 10, 2) := dkg_X12_226.1
theorem dX12_lineEnd_18 : decode cX12_lineEnd 18 = .ok (.if_icmp .eq 9, 3) := dkg_X12_226.2.1
theorem dX12_lineEnd_21 : decode cX12_lineEnd 21 = .ok (.iinc 2 1, 3) := dkg_X12_226.2.2.1
theorem dX12_lineEnd_24 : decode cX12_lineEnd 24 = .ok (.goto (-22), 3) := dkg_X12_226.2.2.2.1
theorem dX12_lineEnd_27 : decode cX12_lineEnd 27 = .ok (.iload_n 2, 1) := dkg_X12_226.2.2.2.2.1
theorem dX12_lineEnd_28 : decode cX12_lineEnd 28 = .ok (.ireturn, 1) := dkg_X12_226.2.2.2.2.2.1
theorem dkg_X12_227 : dkp cX12_newLine [(0, .aload_n 0, 1), (1, .getfield 246, 3), (4, .sipush 200, 3), (7, .if_icmp .ne 5, 3), (10, .iconst 0, 1), (11, .ireturn, 1), (12, .aload_n 0, 1), (13, .getfield 98, 3), (16, .aload_n 0, 1), (17, .getfield 246, 3)] := dkf (by decide +kernel)
theorem dX12_newLine_0 : decode cX12_newLine 0 = .ok (.aload_n 0, 1) := dkg_X12_227.1
theorem dX12_newLine_1 : decode cX12_newLine 1 = .ok (.getfield 246, 3) := dkg_X12_227.2.1
theorem dX12_newLine_4 : decode cX12_newLine 4 = .ok (.sipush 200, 3) := dkg_X12_227.2.2.1
theorem dX12_newLine_7 : decode cX12_newLine 7 = .ok (.if_icmp .ne 5, 3) := dkg_X12_227.2.2.2.1
theorem dX12_newLine_10 : decode cX12_newLine 10 = .ok (.iconst 0, 1) := dkg_X12_227.2.2.2.2.1
theorem dX12_newLine_11 : decode cX12_newLine 11 = .ok (.ireturn, 1) := dkg_X12_227.2.2.2.2.2.1
theorem dX12_newLine_12 : decode cX12_newLine 12 = .ok (.aload_n 0, 1) := dkg_X12_227.2.2.2.2.2.2.1
theorem dX12_newLine_13 : decode cX12_newLine 13 = .ok (.getfield 98, 3) := dkg_X12_227.2.2.2.2.2.2.2.1
theorem dX12_newLine_16 : decode cX12_newLine 16 = .ok (.aload_n 0, 1) := dkg_X12_227.2.2.2.2.2.2.2.2.1
theorem dX12_newLine_17 : decode cX12_newLine 17 = .ok (.getfield 246, 3) := dkg_X12_227.2.2.2.2.2.2.2.2.2.1
theorem dkg_X12_228 : dkp cX12_newLine [(20, .iconst 0, 1), (21, .iastore, 1), (22, .aload_n 0, 1), (23, .dup, 1), (24, .getfield 246, 3), (27, .iconst 1, 1), (28, .iadd, 1), (29, .putfield 246, 3), (32, .iconst 1, 1), (33, .ireturn, 1)] := dkf (by decide +kernel)
theorem dX12_newLine_20 : decode cX12_newLine 20 = .ok (.iconst 0, 1) := dkg_X12_228.1
theorem dX12_newLine_21 : decode cX12_newLine 21 = .ok (.iastore, 1) := dkg_X12_228.2.1
theorem dX12_newLine_22 : decode cX12_newLine 22 = .ok (.aload_n 0, 1) := dkg_X12_228.2.2.1
theorem dX12_newLine_23 : decode cX12_newLine 23 = .ok (.dup, 1) := dkg_X12_228.2.2.2.1
theorem dX12_newLine_24 : decode cX12_newLine 24 = .ok (.getfield 246, 3) := dkg_X12_228.2.2.2.2.1
theorem dX12_newLine_27 : decode cX12_newLine 27 = .ok (.iconst 1, 1) := dkg_X12_228.2.2.2.2.2.1
theorem dX12_newLine_28 : decode cX12_newLine 28 = .ok (.iadd, 1) := dkg_X12_228.2.2.2.2.2.2.1
theorem dX12_newLine_29 : decode cX12_newLine 29 = .ok (.putfield 246, 3) := dkg_X12_228.2.2.2.2.2.2.2.1
theorem dX12_newLine_32 : decode cX12_newLine 32 = .ok (.iconst 1, 1) := dkg_X12_228.2.2.2.2.2.2.2.2.1
theorem dX12_newLine_33 : decode cX12_newLine 33 = .ok (.ireturn, 1) := dkg_X12_228.2.2.2.2.2.2.2.2.2.1
theorem dkg_X12_229 : dkp cX12_putCell [(0, .aload_n 0, 1), (1, .getfield 246, 3), (4, .iconst 1, 1), (5, .isub, 1), (6, .istore_n 2, 1), (7, .aload_n 0, 1), (8, .getfield 101, 3), (11, .sipush 200, 3), (14, .iload_n 2, 1), (15, .imul, 1)] := dkf (by decide +kernel)
theorem dX12_putCell_0 : decode cX12_putCell 0 = .ok (.aload_n 0, 1) := dkg_X12_229.1
theorem dX12_putCell_1 : decode cX12_putCell 1 = .ok (.getfield 246, 3) := dkg_X12_229.2.1
theorem dX12_putCell_4 : decode cX12_putCell 4 = .ok (.iconst 1, 1) := dkg_X12_229.2.2.1
theorem dX12_putCell_5 : decode cX12_putCell 5 = .ok (.isub, 1) := dkg_X12_229.2.2.2.1
theorem dX12_putCell_6 : decode cX12_putCell 6 = .ok (.istore_n 2, 1) := dkg_X12_229.2.2.2.2.1
theorem dX12_putCell_7 : decode cX12_putCell 7 = .ok (.aload_n 0, 1) := dkg_X12_229.2.2.2.2.2.1
theorem dX12_putCell_8 : decode cX12_putCell 8 = .ok (.getfield 101, 3) := dkg_X12_229.2.2.2.2.2.2.1
theorem dX12_putCell_11 : decode cX12_putCell 11 = .ok (.sipush 200, 3) := dkg_X12_229.2.2.2.2.2.2.2.1
theorem dX12_putCell_14 : decode cX12_putCell 14 = .ok (.iload_n 2, 1) := dkg_X12_229.2.2.2.2.2.2.2.2.1
theorem dX12_putCell_15 : decode cX12_putCell 15 = .ok (.imul, 1) := dkg_X12_229.2.2.2.2.2.2.2.2.2.1
theorem dkg_X12_230 : dkp cX12_putCell [(16, .aload_n 0, 1), (17, .getfield 98, 3), (20, .iload_n 2, 1), (21, .iaload, 1), (22, .iadd, 1), (23, .iload_n 1, 1), (24, .iastore, 1), (25, .aload_n 0, 1), (26, .getfield 98, 3), (29, .iload_n 2, 1)] := dkf (by decide +kernel)
theorem dX12_putCell_16 : decode cX12_putCell 16 = .ok (.aload_n 0, 1) := dkg_X12_230.1
theorem dX12_putCell_17 : decode cX12_putCell 17 = .ok (.getfield 98, 3) := dkg_X12_230.2.1
theorem dX12_putCell_20 : decode cX12_putCell 20 = .ok (.iload_n 2, 1) := dkg_X12_230.2.2.1
theorem dX12_putCell_21 : decode cX12_putCell 21 = .ok (.iaload, 1) := dkg_X12_230.2.2.2.1
theorem dX12_putCell_22 : decode cX12_putCell 22 = .ok (.iadd, 1) := dkg_X12_230.2.2.2.2.1
theorem dX12_putCell_23 : decode cX12_putCell 23 = .ok (.iload_n 1, 1) := dkg_X12_230.2.2.2.2.2.1
theorem dX12_putCell_24 : decode cX12_putCell 24 = .ok (.iastore, 1) := dkg_X12_230.2.2.2.2.2.2.1
theorem dX12_putCell_25 : decode cX12_putCell 25 = .ok (.aload_n 0, 1) := dkg_X12_230.2.2.2.2.2.2.2.1
theorem dX12_putCell_26 : decode cX12_putCell 26 = .ok (.getfield 98, 3) := dkg_X12_230.2.2.2.2.2.2.2.2.1
theorem dX12_putCell_29 : decode cX12_putCell 29 = .ok (.iload_n 2, 1) := dkg_X12_230.2.2.2.2.2.2.2.2.2.1
theorem dkg_X12_231 : dkp cX12_putCell [(30, .dup2, 1), (31, .iaload, 1), (32, .iconst 1, 1), (33, .iadd, 1), (34, .iastore, 1), (35, .return_, 1)] := dkf (by decide +kernel)
theorem dX12_putCell_30 : decode cX12_putCell 30 = .ok (.dup2, 1) := dkg_X12_231.1
theorem dX12_putCell_31 : decode cX12_putCell 31 = .ok (.iaload, 1) := dkg_X12_231.2.1
theorem dX12_putCell_32 : decode cX12_putCell 32 = .ok (.iconst 1, 1) := dkg_X12_231.2.2.1
theorem dX12_putCell_33 : decode cX12_putCell 33 = .ok (.iadd, 1) := dkg_X12_231.2.2.2.1
theorem dX12_putCell_34 : decode cX12_putCell 34 = .ok (.iastore, 1) := dkg_X12_231.2.2.2.2.1
theorem dX12_putCell_35 : decode cX12_putCell 35 = .ok (.return_, 1) := dkg_X12_231.2.2.2.2.2.1
theorem dkg_X12_232 : dkp cX12_breakOf [(0, .iconst (-1), 1), (1, .istore 4, 2), (3, .iconst 1, 1), (4, .istore 5, 2), (6, .iload 5, 2), (8, .aload_n 0, 1), (9, .getfield 234, 3), (12, .if_icmp .ge 136, 3), (15, .aload_n 0, 1), (16, .getfield 67, 3)] := dkf (by decide +kernel)
theorem dX12_breakOf_0 : decode cX12_breakOf 0 = .ok (.iconst (-1), 1) := dkg_X12_232.1
theorem dX12_breakOf_1 : decode cX12_breakOf 1 = .ok (.istore 4, 2) := dkg_X12_232.2.1
theorem dX12_breakOf_3 : decode cX12_breakOf 3 = .ok (.iconst 1, 1) := dkg_X12_232.2.2.1
theorem dX12_breakOf_4 : decode cX12_breakOf 4 = .ok (.istore 5, 2) := dkg_X12_232.2.2.2.1
theorem dX12_breakOf_6 : decode cX12_breakOf 6 = .ok (.iload 5, 2) := dkg_X12_232.2.2.2.2.1
theorem dX12_breakOf_8 : decode cX12_breakOf 8 = .ok (.aload_n 0, 1) := dkg_X12_232.2.2.2.2.2.1
theorem dX12_breakOf_9 : decode cX12_breakOf 9 = .ok (.getfield 234, 3) := dkg_X12_232.2.2.2.2.2.2.1
theorem dX12_breakOf_12 : decode cX12_breakOf 12 = .ok (.if_icmp .ge 136, 3) := dkg_X12_232.2.2.2.2.2.2.2.1
theorem dX12_breakOf_15 : decode cX12_breakOf 15 = .ok (.aload_n 0, 1) := dkg_X12_232.2.2.2.2.2.2.2.2.1
theorem dX12_breakOf_16 : decode cX12_breakOf 16 = .ok (.getfield 67, 3) := dkg_X12_232.2.2.2.2.2.2.2.2.2.1
theorem dkg_X12_233 : dkp cX12_breakOf [(19, .iload 5, 2), (21, .baload, 1), (22, .ifCond .eq 120, 3), (25, .aload_n 0, 1), (26, .getfield 73, 3), (29, .iload 5, 2), (31, .iaload, 1), (32, .iload_n 2, 1), (33, .if_icmp .le 109, 3), (36, .aload_n 0, 1)] := dkf (by decide +kernel)
theorem dX12_breakOf_19 : decode cX12_breakOf 19 = .ok (.iload 5, 2) := dkg_X12_233.1
theorem dX12_breakOf_21 : decode cX12_breakOf 21 = .ok (.baload, 1) := dkg_X12_233.2.1
theorem dX12_breakOf_22 : decode cX12_breakOf 22 = .ok (.ifCond .eq 120, 3) := dkg_X12_233.2.2.1
theorem dX12_breakOf_25 : decode cX12_breakOf 25 = .ok (.aload_n 0, 1) := dkg_X12_233.2.2.2.1
theorem dX12_breakOf_26 : decode cX12_breakOf 26 = .ok (.getfield 73, 3) := dkg_X12_233.2.2.2.2.1
theorem dX12_breakOf_29 : decode cX12_breakOf 29 = .ok (.iload 5, 2) := dkg_X12_233.2.2.2.2.2.1
theorem dX12_breakOf_31 : decode cX12_breakOf 31 = .ok (.iaload, 1) := dkg_X12_233.2.2.2.2.2.2.1
theorem dX12_breakOf_32 : decode cX12_breakOf 32 = .ok (.iload_n 2, 1) := dkg_X12_233.2.2.2.2.2.2.2.1
theorem dX12_breakOf_33 : decode cX12_breakOf 33 = .ok (.if_icmp .le 109, 3) := dkg_X12_233.2.2.2.2.2.2.2.2.1
theorem dX12_breakOf_36 : decode cX12_breakOf 36 = .ok (.aload_n 0, 1) := dkg_X12_233.2.2.2.2.2.2.2.2.2.1
theorem dkg_X12_234 : dkp cX12_breakOf [(37, .getfield 73, 3), (40, .iload 5, 2), (42, .iaload, 1), (43, .iload_n 2, 1), (44, .isub, 1), (45, .iconst 1, 1), (46, .iadd, 1), (47, .iload_n 3, 1), (48, .if_icmp .le 6, 3), (51, .goto 91, 3)] := dkf (by decide +kernel)
theorem dX12_breakOf_37 : decode cX12_breakOf 37 = .ok (.getfield 73, 3) := dkg_X12_234.1
theorem dX12_breakOf_40 : decode cX12_breakOf 40 = .ok (.iload 5, 2) := dkg_X12_234.2.1
theorem dX12_breakOf_42 : decode cX12_breakOf 42 = .ok (.iaload, 1) := dkg_X12_234.2.2.1
theorem dX12_breakOf_43 : decode cX12_breakOf 43 = .ok (.iload_n 2, 1) := dkg_X12_234.2.2.2.1
theorem dX12_breakOf_44 : decode cX12_breakOf 44 = .ok (.isub, 1) := dkg_X12_234.2.2.2.2.1
theorem dX12_breakOf_45 : decode cX12_breakOf 45 = .ok (.iconst 1, 1) := dkg_X12_234.2.2.2.2.2.1
theorem dX12_breakOf_46 : decode cX12_breakOf 46 = .ok (.iadd, 1) := dkg_X12_234.2.2.2.2.2.2.1
theorem dX12_breakOf_47 : decode cX12_breakOf 47 = .ok (.iload_n 3, 1) := dkg_X12_234.2.2.2.2.2.2.2.1
theorem dX12_breakOf_48 : decode cX12_breakOf 48 = .ok (.if_icmp .le 6, 3) := dkg_X12_234.2.2.2.2.2.2.2.2.1
theorem dX12_breakOf_51 : decode cX12_breakOf 51 = .ok (.goto 91, 3) := dkg_X12_234.2.2.2.2.2.2.2.2.2.1
theorem dkg_X12_235 : dkp cX12_breakOf [(54, .aload_n 0, 1), (55, .getfield 21, 3), (58, .iload_n 1, 1), (59, .iaload, 1), (60, .iconst 3, 1), (61, .if_icmp .gt 64, 3), (64, .aload_n 0, 1), (65, .getfield 21, 3), (68, .iload_n 1, 1), (69, .iaload, 1)] := dkf (by decide +kernel)
theorem dX12_breakOf_54 : decode cX12_breakOf 54 = .ok (.aload_n 0, 1) := dkg_X12_235.1
theorem dX12_breakOf_55 : decode cX12_breakOf 55 = .ok (.getfield 21, 3) := dkg_X12_235.2.1
theorem dX12_breakOf_58 : decode cX12_breakOf 58 = .ok (.iload_n 1, 1) := dkg_X12_235.2.2.1
theorem dX12_breakOf_59 : decode cX12_breakOf 59 = .ok (.iaload, 1) := dkg_X12_235.2.2.2.1
theorem dX12_breakOf_60 : decode cX12_breakOf 60 = .ok (.iconst 3, 1) := dkg_X12_235.2.2.2.2.1
theorem dX12_breakOf_61 : decode cX12_breakOf 61 = .ok (.if_icmp .gt 64, 3) := dkg_X12_235.2.2.2.2.2.1
theorem dX12_breakOf_64 : decode cX12_breakOf 64 = .ok (.aload_n 0, 1) := dkg_X12_235.2.2.2.2.2.2.1
theorem dX12_breakOf_65 : decode cX12_breakOf 65 = .ok (.getfield 21, 3) := dkg_X12_235.2.2.2.2.2.2.2.1
theorem dX12_breakOf_68 : decode cX12_breakOf 68 = .ok (.iload_n 1, 1) := dkg_X12_235.2.2.2.2.2.2.2.2.1
theorem dX12_breakOf_69 : decode cX12_breakOf 69 = .ok (.iaload, 1) := dkg_X12_235.2.2.2.2.2.2.2.2.2.1
theorem dkg_X12_236 : dkp cX12_breakOf [(70, .iconst 2, 1), (71, .if_icmp .ne 31, 3), (74, .aload_n 0, 1), (75, .getfield 61, 3), (78, .iload 5, 2), (80, .iconst 1, 1), (81, .isub, 1), (82, .iaload, 1), (83, .invokestatic 202, 3), (86, .ifCond .ne 39, 3)] := dkf (by decide +kernel)
theorem dX12_breakOf_70 : decode cX12_breakOf 70 = .ok (.iconst 2, 1) := dkg_X12_236.1
theorem dX12_breakOf_71 : decode cX12_breakOf 71 = .ok (.if_icmp .ne 31, 3) := dkg_X12_236.2.1
theorem dX12_breakOf_74 : decode cX12_breakOf 74 = .ok (.aload_n 0, 1) := dkg_X12_236.2.2.1
theorem dX12_breakOf_75 : decode cX12_breakOf 75 = .ok (.getfield 61, 3) := dkg_X12_236.2.2.2.1
theorem dX12_breakOf_78 : decode cX12_breakOf 78 = .ok (.iload 5, 2) := dkg_X12_236.2.2.2.2.1
theorem dX12_breakOf_80 : decode cX12_breakOf 80 = .ok (.iconst 1, 1) := dkg_X12_236.2.2.2.2.2.1
theorem dX12_breakOf_81 : decode cX12_breakOf 81 = .ok (.isub, 1) := dkg_X12_236.2.2.2.2.2.2.1
theorem dX12_breakOf_82 : decode cX12_breakOf 82 = .ok (.iaload, 1) := dkg_X12_236.2.2.2.2.2.2.2.1
theorem dX12_breakOf_83 : decode cX12_breakOf 83 = .ok (.invokestatic 202, 3) := dkg_X12_236.2.2.2.2.2.2.2.2.1
theorem dX12_breakOf_86 : decode cX12_breakOf 86 = .ok (.ifCond .ne 39, 3) := dkg_X12_236.2.2.2.2.2.2.2.2.2.1
theorem dkg_X12_237 : dkp cX12_breakOf [(89, .aload_n 0, 1), (90, .getfield 61, 3), (93, .iload 5, 2), (95, .iaload, 1), (96, .invokestatic 202, 3), (99, .ifCond .ne 26, 3), (102, .aload_n 0, 1), (103, .getfield 21, 3), (106, .iload_n 1, 1), (107, .iaload, 1)] := dkf (by decide +kernel)
theorem dX12_breakOf_89 : decode cX12_breakOf 89 = .ok (.aload_n 0, 1) := dkg_X12_237.1
theorem dX12_breakOf_90 : decode cX12_breakOf 90 = .ok (.getfield 61, 3) := dkg_X12_237.2.1
theorem dX12_breakOf_93 : decode cX12_breakOf 93 = .ok (.iload 5, 2) := dkg_X12_237.2.2.1
theorem dX12_breakOf_95 : decode cX12_breakOf 95 = .ok (.iaload, 1) := dkg_X12_237.2.2.2.1
theorem dX12_breakOf_96 : decode cX12_breakOf 96 = .ok (.invokestatic 202, 3) := dkg_X12_237.2.2.2.2.1
theorem dX12_breakOf_99 : decode cX12_breakOf 99 = .ok (.ifCond .ne 26, 3) := dkg_X12_237.2.2.2.2.2.1
theorem dX12_breakOf_102 : decode cX12_breakOf 102 = .ok (.aload_n 0, 1) := dkg_X12_237.2.2.2.2.2.2.1
theorem dX12_breakOf_103 : decode cX12_breakOf 103 = .ok (.getfield 21, 3) := dkg_X12_237.2.2.2.2.2.2.2.1
theorem dX12_breakOf_106 : decode cX12_breakOf 106 = .ok (.iload_n 1, 1) := dkg_X12_237.2.2.2.2.2.2.2.2.1
theorem dX12_breakOf_107 : decode cX12_breakOf 107 = .ok (.iaload, 1) := dkg_X12_237.2.2.2.2.2.2.2.2.2.1
theorem dkg_X12_238 : dkp cX12_breakOf [(108, .iconst 3, 1), (109, .if_icmp .ne 12, 3), (112, .aload_n 0, 1), (113, .getfield 234, 3), (116, .bipush 6, 2), (118, .if_icmp .lt 7, 3), (121, .iconst 1, 1), (122, .goto 4, 3), (125, .iconst 0, 1), (126, .istore 6, 2)] := dkf (by decide +kernel)
theorem dX12_breakOf_108 : decode cX12_breakOf 108 = .ok (.iconst 3, 1) := dkg_X12_238.1
theorem dX12_breakOf_109 : decode cX12_breakOf 109 = .ok (.if_icmp .ne 12, 3) := dkg_X12_238.2.1
theorem dX12_breakOf_112 : decode cX12_breakOf 112 = .ok (.aload_n 0, 1) := dkg_X12_238.2.2.1
theorem dX12_breakOf_113 : decode cX12_breakOf 113 = .ok (.getfield 234, 3) := dkg_X12_238.2.2.2.1
theorem dX12_breakOf_116 : decode cX12_breakOf 116 = .ok (.bipush 6, 2) := dkg_X12_238.2.2.2.2.1
theorem dX12_breakOf_118 : decode cX12_breakOf 118 = .ok (.if_icmp .lt 7, 3) := dkg_X12_238.2.2.2.2.2.1
theorem dX12_breakOf_121 : decode cX12_breakOf 121 = .ok (.iconst 1, 1) := dkg_X12_238.2.2.2.2.2.2.1
theorem dX12_breakOf_122 : decode cX12_breakOf 122 = .ok (.goto 4, 3) := dkg_X12_238.2.2.2.2.2.2.2.1
theorem dX12_breakOf_125 : decode cX12_breakOf 125 = .ok (.iconst 0, 1) := dkg_X12_238.2.2.2.2.2.2.2.2.1
theorem dX12_breakOf_126 : decode cX12_breakOf 126 = .ok (.istore 6, 2) := dkg_X12_238.2.2.2.2.2.2.2.2.2.1
theorem dkg_X12_239 : dkp cX12_breakOf [(128, .iload 6, 2), (130, .ifCond .eq 12, 3), (133, .aload_n 0, 1), (134, .getfield 73, 3), (137, .iload 5, 2), (139, .iaload, 1), (140, .istore 4, 2), (142, .iinc 5 1, 3), (145, .goto (-139), 3), (148, .iload 4, 2)] := dkf (by decide +kernel)
theorem dX12_breakOf_128 : decode cX12_breakOf 128 = .ok (.iload 6, 2) := dkg_X12_239.1
theorem dX12_breakOf_130 : decode cX12_breakOf 130 = .ok (.ifCond .eq 12, 3) := dkg_X12_239.2.1
theorem dX12_breakOf_133 : decode cX12_breakOf 133 = .ok (.aload_n 0, 1) := dkg_X12_239.2.2.1
theorem dX12_breakOf_134 : decode cX12_breakOf 134 = .ok (.getfield 73, 3) := dkg_X12_239.2.2.2.1
theorem dX12_breakOf_137 : decode cX12_breakOf 137 = .ok (.iload 5, 2) := dkg_X12_239.2.2.2.2.1
theorem dX12_breakOf_139 : decode cX12_breakOf 139 = .ok (.iaload, 1) := dkg_X12_239.2.2.2.2.2.1
theorem dX12_breakOf_140 : decode cX12_breakOf 140 = .ok (.istore 4, 2) := dkg_X12_239.2.2.2.2.2.2.1
theorem dX12_breakOf_142 : decode cX12_breakOf 142 = .ok (.iinc 5 1, 3) := dkg_X12_239.2.2.2.2.2.2.2.1
theorem dX12_breakOf_145 : decode cX12_breakOf 145 = .ok (.goto (-139), 3) := dkg_X12_239.2.2.2.2.2.2.2.2.1
theorem dX12_breakOf_148 : decode cX12_breakOf 148 = .ok (.iload 4, 2) := dkg_X12_239.2.2.2.2.2.2.2.2.2.1
theorem dkg_X12_240 : dkp cX12_breakOf [(150, .ireturn, 1)] := dkf (by decide +kernel)
theorem dX12_breakOf_150 : decode cX12_breakOf 150 = .ok (.ireturn, 1) := dkg_X12_240.1
theorem dkg_X12_241 : dkp cX12_flow [(0, .iconst 0, 1), (1, .istore_n 2, 1), (2, .iload_n 2, 1), (3, .aload_n 0, 1), (4, .getfield 224, 3), (7, .if_icmp .ge 157, 3), (10, .aload_n 0, 1), (11, .getfield 98, 3), (14, .aload_n 0, 1), (15, .getfield 246, 3)] := dkf (by decide +kernel)
theorem dX12_flow_0 : decode cX12_flow 0 = .ok (.iconst 0, 1) := dkg_X12_241.1
theorem dX12_flow_1 : decode cX12_flow 1 = .ok (.istore_n 2, 1) := dkg_X12_241.2.1
theorem dX12_flow_2 : decode cX12_flow 2 = .ok (.iload_n 2, 1) := dkg_X12_241.2.2.1
theorem dX12_flow_3 : decode cX12_flow 3 = .ok (.aload_n 0, 1) := dkg_X12_241.2.2.2.1
theorem dX12_flow_4 : decode cX12_flow 4 = .ok (.getfield 224, 3) := dkg_X12_241.2.2.2.2.1
theorem dX12_flow_7 : decode cX12_flow 7 = .ok (.if_icmp .ge 157, 3) := dkg_X12_241.2.2.2.2.2.1
theorem dX12_flow_10 : decode cX12_flow 10 = .ok (.aload_n 0, 1) := dkg_X12_241.2.2.2.2.2.2.1
theorem dX12_flow_11 : decode cX12_flow 11 = .ok (.getfield 98, 3) := dkg_X12_241.2.2.2.2.2.2.2.1
theorem dX12_flow_14 : decode cX12_flow 14 = .ok (.aload_n 0, 1) := dkg_X12_241.2.2.2.2.2.2.2.2.1
theorem dX12_flow_15 : decode cX12_flow 15 = .ok (.getfield 246, 3) := dkg_X12_241.2.2.2.2.2.2.2.2.2.1
theorem dkg_X12_242 : dkp cX12_flow [(18, .iconst 1, 1), (19, .isub, 1), (20, .iaload, 1), (21, .istore_n 3, 1), (22, .aload_n 0, 1), (23, .getfield 82, 3), (26, .iload_n 3, 1), (27, .ifCond .ne 7, 3), (30, .iconst 0, 1), (31, .goto 6, 3)] := dkf (by decide +kernel)
theorem dX12_flow_18 : decode cX12_flow 18 = .ok (.iconst 1, 1) := dkg_X12_242.1
theorem dX12_flow_19 : decode cX12_flow 19 = .ok (.isub, 1) := dkg_X12_242.2.1
theorem dX12_flow_20 : decode cX12_flow 20 = .ok (.iaload, 1) := dkg_X12_242.2.2.1
theorem dX12_flow_21 : decode cX12_flow 21 = .ok (.istore_n 3, 1) := dkg_X12_242.2.2.2.1
theorem dX12_flow_22 : decode cX12_flow 22 = .ok (.aload_n 0, 1) := dkg_X12_242.2.2.2.2.1
theorem dX12_flow_23 : decode cX12_flow 23 = .ok (.getfield 82, 3) := dkg_X12_242.2.2.2.2.2.1
theorem dX12_flow_26 : decode cX12_flow 26 = .ok (.iload_n 3, 1) := dkg_X12_242.2.2.2.2.2.2.1
theorem dX12_flow_27 : decode cX12_flow 27 = .ok (.ifCond .ne 7, 3) := dkg_X12_242.2.2.2.2.2.2.2.1
theorem dX12_flow_30 : decode cX12_flow 30 = .ok (.iconst 0, 1) := dkg_X12_242.2.2.2.2.2.2.2.2.1
theorem dX12_flow_31 : decode cX12_flow 31 = .ok (.goto 6, 3) := dkg_X12_242.2.2.2.2.2.2.2.2.2.1
theorem dkg_X12_243 : dkp cX12_flow [(34, .iload_n 3, 1), (35, .iconst 1, 1), (36, .iadd, 1), (37, .isub, 1), (38, .istore 4, 2), (40, .aload_n 0, 1), (41, .getfield 224, 3), (44, .iload_n 2, 1), (45, .isub, 1), (46, .iload 4, 2)] := dkf (by decide +kernel)
theorem dX12_flow_34 : decode cX12_flow 34 = .ok (.iload_n 3, 1) := dkg_X12_243.1
theorem dX12_flow_35 : decode cX12_flow 35 = .ok (.iconst 1, 1) := dkg_X12_243.2.1
theorem dX12_flow_36 : decode cX12_flow 36 = .ok (.iadd, 1) := dkg_X12_243.2.2.1
theorem dX12_flow_37 : decode cX12_flow 37 = .ok (.isub, 1) := dkg_X12_243.2.2.2.1
theorem dX12_flow_38 : decode cX12_flow 38 = .ok (.istore 4, 2) := dkg_X12_243.2.2.2.2.1
theorem dX12_flow_40 : decode cX12_flow 40 = .ok (.aload_n 0, 1) := dkg_X12_243.2.2.2.2.2.1
theorem dX12_flow_41 : decode cX12_flow 41 = .ok (.getfield 224, 3) := dkg_X12_243.2.2.2.2.2.2.1
theorem dX12_flow_44 : decode cX12_flow 44 = .ok (.iload_n 2, 1) := dkg_X12_243.2.2.2.2.2.2.2.1
theorem dX12_flow_45 : decode cX12_flow 45 = .ok (.isub, 1) := dkg_X12_243.2.2.2.2.2.2.2.2.1
theorem dX12_flow_46 : decode cX12_flow 46 = .ok (.iload 4, 2) := dkg_X12_243.2.2.2.2.2.2.2.2.2.1
theorem dkg_X12_244 : dkp cX12_flow [(48, .if_icmp .gt 10, 3), (51, .aload_n 0, 1), (52, .getfield 224, 3), (55, .goto 11, 3), (58, .aload_n 0, 1), (59, .iload_n 1, 1), (60, .iload_n 2, 1), (61, .iload 4, 2), (63, .invokevirtual 249, 3), (66, .istore 5, 2)] := dkf (by decide +kernel)
theorem dX12_flow_48 : decode cX12_flow 48 = .ok (.if_icmp .gt 10, 3) := dkg_X12_244.1
theorem dX12_flow_51 : decode cX12_flow 51 = .ok (.aload_n 0, 1) := dkg_X12_244.2.1
theorem dX12_flow_52 : decode cX12_flow 52 = .ok (.getfield 224, 3) := dkg_X12_244.2.2.1
theorem dX12_flow_55 : decode cX12_flow 55 = .ok (.goto 11, 3) := dkg_X12_244.2.2.2.1
theorem dX12_flow_58 : decode cX12_flow 58 = .ok (.aload_n 0, 1) := dkg_X12_244.2.2.2.2.1
theorem dX12_flow_59 : decode cX12_flow 59 = .ok (.iload_n 1, 1) := dkg_X12_244.2.2.2.2.2.1
theorem dX12_flow_60 : decode cX12_flow 60 = .ok (.iload_n 2, 1) := dkg_X12_244.2.2.2.2.2.2.1
theorem dX12_flow_61 : decode cX12_flow 61 = .ok (.iload 4, 2) := dkg_X12_244.2.2.2.2.2.2.2.1
theorem dX12_flow_63 : decode cX12_flow 63 = .ok (.invokevirtual 249, 3) := dkg_X12_244.2.2.2.2.2.2.2.2.1
theorem dX12_flow_66 : decode cX12_flow 66 = .ok (.istore 5, 2) := dkg_X12_244.2.2.2.2.2.2.2.2.2.1
theorem dkg_X12_245 : dkp cX12_flow [(68, .iload 5, 2), (70, .ifCond .ge 13, 3), (73, .iload_n 3, 1), (74, .ifCond .ne 9, 3), (77, .aload_n 0, 1), (78, .getfield 224, 3), (81, .istore 5, 2), (83, .iload 5, 2), (85, .ifCond .lt 59, 3), (88, .iload_n 3, 1)] := dkf (by decide +kernel)
theorem dX12_flow_68 : decode cX12_flow 68 = .ok (.iload 5, 2) := dkg_X12_245.1
theorem dX12_flow_70 : decode cX12_flow 70 = .ok (.ifCond .ge 13, 3) := dkg_X12_245.2.1
theorem dX12_flow_73 : decode cX12_flow 73 = .ok (.iload_n 3, 1) := dkg_X12_245.2.2.1
theorem dX12_flow_74 : decode cX12_flow 74 = .ok (.ifCond .ne 9, 3) := dkg_X12_245.2.2.2.1
theorem dX12_flow_77 : decode cX12_flow 77 = .ok (.aload_n 0, 1) := dkg_X12_245.2.2.2.2.1
theorem dX12_flow_78 : decode cX12_flow 78 = .ok (.getfield 224, 3) := dkg_X12_245.2.2.2.2.2.1
theorem dX12_flow_81 : decode cX12_flow 81 = .ok (.istore 5, 2) := dkg_X12_245.2.2.2.2.2.2.1
theorem dX12_flow_83 : decode cX12_flow 83 = .ok (.iload 5, 2) := dkg_X12_245.2.2.2.2.2.2.2.1
theorem dX12_flow_85 : decode cX12_flow 85 = .ok (.ifCond .lt 59, 3) := dkg_X12_245.2.2.2.2.2.2.2.2.1
theorem dX12_flow_88 : decode cX12_flow 88 = .ok (.iload_n 3, 1) := dkg_X12_245.2.2.2.2.2.2.2.2.2.1
theorem dkg_X12_246 : dkp cX12_flow [(89, .ifCond .le 8, 3), (92, .aload_n 0, 1), (93, .iconst 0, 1), (94, .invokevirtual 253, 3), (97, .iload_n 2, 1), (98, .istore 6, 2), (100, .iload 6, 2), (102, .iload 5, 2), (104, .if_icmp .ge 20, 3), (107, .aload_n 0, 1)] := dkf (by decide +kernel)
theorem dX12_flow_89 : decode cX12_flow 89 = .ok (.ifCond .le 8, 3) := dkg_X12_246.1
theorem dX12_flow_92 : decode cX12_flow 92 = .ok (.aload_n 0, 1) := dkg_X12_246.2.1
theorem dX12_flow_93 : decode cX12_flow 93 = .ok (.iconst 0, 1) := dkg_X12_246.2.2.1
theorem dX12_flow_94 : decode cX12_flow 94 = .ok (.invokevirtual 253, 3) := dkg_X12_246.2.2.2.1
theorem dX12_flow_97 : decode cX12_flow 97 = .ok (.iload_n 2, 1) := dkg_X12_246.2.2.2.2.1
theorem dX12_flow_98 : decode cX12_flow 98 = .ok (.istore 6, 2) := dkg_X12_246.2.2.2.2.2.1
theorem dX12_flow_100 : decode cX12_flow 100 = .ok (.iload 6, 2) := dkg_X12_246.2.2.2.2.2.2.1
theorem dX12_flow_102 : decode cX12_flow 102 = .ok (.iload 5, 2) := dkg_X12_246.2.2.2.2.2.2.2.1
theorem dX12_flow_104 : decode cX12_flow 104 = .ok (.if_icmp .ge 20, 3) := dkg_X12_246.2.2.2.2.2.2.2.2.1
theorem dX12_flow_107 : decode cX12_flow 107 = .ok (.aload_n 0, 1) := dkg_X12_246.2.2.2.2.2.2.2.2.2.1
theorem dkg_X12_247 : dkp cX12_flow [(108, .aload_n 0, 1), (109, .getfield 70, 3), (112, .iload 6, 2), (114, .iaload, 1), (115, .invokevirtual 253, 3), (118, .iinc 6 1, 3), (121, .goto (-21), 3), (124, .iload 5, 2), (126, .aload_n 0, 1), (127, .getfield 224, 3)] := dkf (by decide +kernel)
theorem dX12_flow_108 : decode cX12_flow 108 = .ok (.aload_n 0, 1) := dkg_X12_247.1
theorem dX12_flow_109 : decode cX12_flow 109 = .ok (.getfield 70, 3) := dkg_X12_247.2.1
theorem dX12_flow_112 : decode cX12_flow 112 = .ok (.iload 6, 2) := dkg_X12_247.2.2.1
theorem dX12_flow_114 : decode cX12_flow 114 = .ok (.iaload, 1) := dkg_X12_247.2.2.2.1
theorem dX12_flow_115 : decode cX12_flow 115 = .ok (.invokevirtual 253, 3) := dkg_X12_247.2.2.2.2.1
theorem dX12_flow_118 : decode cX12_flow 118 = .ok (.iinc 6 1, 3) := dkg_X12_247.2.2.2.2.2.1
theorem dX12_flow_121 : decode cX12_flow 121 = .ok (.goto (-21), 3) := dkg_X12_247.2.2.2.2.2.2.1
theorem dX12_flow_124 : decode cX12_flow 124 = .ok (.iload 5, 2) := dkg_X12_247.2.2.2.2.2.2.2.1
theorem dX12_flow_126 : decode cX12_flow 126 = .ok (.aload_n 0, 1) := dkg_X12_247.2.2.2.2.2.2.2.2.1
theorem dX12_flow_127 : decode cX12_flow 127 = .ok (.getfield 224, 3) := dkg_X12_247.2.2.2.2.2.2.2.2.2.1
theorem dkg_X12_248 : dkp cX12_flow [(130, .if_icmp .ge 11, 3), (133, .aload_n 0, 1), (134, .aload_n 0, 1), (135, .getfield 88, 3), (138, .invokevirtual 253, 3), (141, .iload 5, 2), (143, .istore_n 2, 1), (144, .iload_n 2, 1), (145, .aload_n 0, 1), (146, .getfield 224, 3)] := dkf (by decide +kernel)
theorem dX12_flow_130 : decode cX12_flow 130 = .ok (.if_icmp .ge 11, 3) := dkg_X12_248.1
theorem dX12_flow_133 : decode cX12_flow 133 = .ok (.aload_n 0, 1) := dkg_X12_248.2.1
theorem dX12_flow_134 : decode cX12_flow 134 = .ok (.aload_n 0, 1) := dkg_X12_248.2.2.1
theorem dX12_flow_135 : decode cX12_flow 135 = .ok (.getfield 88, 3) := dkg_X12_248.2.2.2.1
theorem dX12_flow_138 : decode cX12_flow 138 = .ok (.invokevirtual 253, 3) := dkg_X12_248.2.2.2.2.1
theorem dX12_flow_141 : decode cX12_flow 141 = .ok (.iload 5, 2) := dkg_X12_248.2.2.2.2.2.1
theorem dX12_flow_143 : decode cX12_flow 143 = .ok (.istore_n 2, 1) := dkg_X12_248.2.2.2.2.2.2.1
theorem dX12_flow_144 : decode cX12_flow 144 = .ok (.iload_n 2, 1) := dkg_X12_248.2.2.2.2.2.2.2.1
theorem dX12_flow_145 : decode cX12_flow 145 = .ok (.aload_n 0, 1) := dkg_X12_248.2.2.2.2.2.2.2.2.1
theorem dX12_flow_146 : decode cX12_flow 146 = .ok (.getfield 224, 3) := dkg_X12_248.2.2.2.2.2.2.2.2.2.1
theorem dkg_X12_249 : dkp cX12_flow [(149, .if_icmp .ge 12, 3), (152, .aload_n 0, 1), (153, .invokevirtual 257, 3), (156, .ifCond .ne 5, 3), (159, .iconst 0, 1), (160, .ireturn, 1), (161, .goto (-159), 3), (164, .iconst 1, 1), (165, .ireturn, 1)] := dkf (by decide +kernel)
theorem dX12_flow_149 : decode cX12_flow 149 = .ok (.if_icmp .ge 12, 3) := dkg_X12_249.1
theorem dX12_flow_152 : decode cX12_flow 152 = .ok (.aload_n 0, 1) := dkg_X12_249.2.1
theorem dX12_flow_153 : decode cX12_flow 153 = .ok (.invokevirtual 257, 3) := dkg_X12_249.2.2.1
theorem dX12_flow_156 : decode cX12_flow 156 = .ok (.ifCond .ne 5, 3) := dkg_X12_249.2.2.2.1
theorem dX12_flow_159 : decode cX12_flow 159 = .ok (.iconst 0, 1) := dkg_X12_249.2.2.2.2.1
theorem dX12_flow_160 : decode cX12_flow 160 = .ok (.ireturn, 1) := dkg_X12_249.2.2.2.2.2.1
theorem dX12_flow_161 : decode cX12_flow 161 = .ok (.goto (-159), 3) := dkg_X12_249.2.2.2.2.2.2.1
theorem dX12_flow_164 : decode cX12_flow 164 = .ok (.iconst 1, 1) := dkg_X12_249.2.2.2.2.2.2.2.1
theorem dX12_flow_165 : decode cX12_flow 165 = .ok (.ireturn, 1) := dkg_X12_249.2.2.2.2.2.2.2.2.1
theorem dkg_X12_250 : dkp cX12_centre [(0, .iload_n 1, 1), (1, .istore_n 2, 1), (2, .iload_n 2, 1), (3, .aload_n 0, 1), (4, .getfield 246, 3), (7, .if_icmp .ge 137, 3), (10, .aload_n 0, 1), (11, .getfield 98, 3), (14, .iload_n 2, 1), (15, .iaload, 1)] := dkf (by decide +kernel)
theorem dX12_centre_0 : decode cX12_centre 0 = .ok (.iload_n 1, 1) := dkg_X12_250.1
theorem dX12_centre_1 : decode cX12_centre 1 = .ok (.istore_n 2, 1) := dkg_X12_250.2.1
theorem dX12_centre_2 : decode cX12_centre 2 = .ok (.iload_n 2, 1) := dkg_X12_250.2.2.1
theorem dX12_centre_3 : decode cX12_centre 3 = .ok (.aload_n 0, 1) := dkg_X12_250.2.2.2.1
theorem dX12_centre_4 : decode cX12_centre 4 = .ok (.getfield 246, 3) := dkg_X12_250.2.2.2.2.1
theorem dX12_centre_7 : decode cX12_centre 7 = .ok (.if_icmp .ge 137, 3) := dkg_X12_250.2.2.2.2.2.1
theorem dX12_centre_10 : decode cX12_centre 10 = .ok (.aload_n 0, 1) := dkg_X12_250.2.2.2.2.2.2.1
theorem dX12_centre_11 : decode cX12_centre 11 = .ok (.getfield 98, 3) := dkg_X12_250.2.2.2.2.2.2.2.1
theorem dX12_centre_14 : decode cX12_centre 14 = .ok (.iload_n 2, 1) := dkg_X12_250.2.2.2.2.2.2.2.2.1
theorem dX12_centre_15 : decode cX12_centre 15 = .ok (.iaload, 1) := dkg_X12_250.2.2.2.2.2.2.2.2.2.1
theorem dkg_X12_251 : dkp cX12_centre [(16, .ifCond .eq 16, 3), (19, .aload_n 0, 1), (20, .getfield 98, 3), (23, .iload_n 2, 1), (24, .iaload, 1), (25, .aload_n 0, 1), (26, .getfield 82, 3), (29, .if_icmp .lt 7, 3), (32, .iconst 0, 1), (33, .goto 16, 3)] := dkf (by decide +kernel)
theorem dX12_centre_16 : decode cX12_centre 16 = .ok (.ifCond .eq 16, 3) := dkg_X12_251.1
theorem dX12_centre_19 : decode cX12_centre 19 = .ok (.aload_n 0, 1) := dkg_X12_251.2.1
theorem dX12_centre_20 : decode cX12_centre 20 = .ok (.getfield 98, 3) := dkg_X12_251.2.2.1
theorem dX12_centre_23 : decode cX12_centre 23 = .ok (.iload_n 2, 1) := dkg_X12_251.2.2.2.1
theorem dX12_centre_24 : decode cX12_centre 24 = .ok (.iaload, 1) := dkg_X12_251.2.2.2.2.1
theorem dX12_centre_25 : decode cX12_centre 25 = .ok (.aload_n 0, 1) := dkg_X12_251.2.2.2.2.2.1
theorem dX12_centre_26 : decode cX12_centre 26 = .ok (.getfield 82, 3) := dkg_X12_251.2.2.2.2.2.2.1
theorem dX12_centre_29 : decode cX12_centre 29 = .ok (.if_icmp .lt 7, 3) := dkg_X12_251.2.2.2.2.2.2.2.1
theorem dX12_centre_32 : decode cX12_centre 32 = .ok (.iconst 0, 1) := dkg_X12_251.2.2.2.2.2.2.2.2.1
theorem dX12_centre_33 : decode cX12_centre 33 = .ok (.goto 16, 3) := dkg_X12_251.2.2.2.2.2.2.2.2.2.1
theorem dkg_X12_252 : dkp cX12_centre [(36, .aload_n 0, 1), (37, .getfield 82, 3), (40, .aload_n 0, 1), (41, .getfield 98, 3), (44, .iload_n 2, 1), (45, .iaload, 1), (46, .isub, 1), (47, .iconst 2, 1), (48, .idiv, 1), (49, .istore_n 3, 1)] := dkf (by decide +kernel)
theorem dX12_centre_36 : decode cX12_centre 36 = .ok (.aload_n 0, 1) := dkg_X12_252.1
theorem dX12_centre_37 : decode cX12_centre 37 = .ok (.getfield 82, 3) := dkg_X12_252.2.1
theorem dX12_centre_40 : decode cX12_centre 40 = .ok (.aload_n 0, 1) := dkg_X12_252.2.2.1
theorem dX12_centre_41 : decode cX12_centre 41 = .ok (.getfield 98, 3) := dkg_X12_252.2.2.2.1
theorem dX12_centre_44 : decode cX12_centre 44 = .ok (.iload_n 2, 1) := dkg_X12_252.2.2.2.2.1
theorem dX12_centre_45 : decode cX12_centre 45 = .ok (.iaload, 1) := dkg_X12_252.2.2.2.2.2.1
theorem dX12_centre_46 : decode cX12_centre 46 = .ok (.isub, 1) := dkg_X12_252.2.2.2.2.2.2.1
theorem dX12_centre_47 : decode cX12_centre 47 = .ok (.iconst 2, 1) := dkg_X12_252.2.2.2.2.2.2.2.1
theorem dX12_centre_48 : decode cX12_centre 48 = .ok (.idiv, 1) := dkg_X12_252.2.2.2.2.2.2.2.2.1
theorem dX12_centre_49 : decode cX12_centre 49 = .ok (.istore_n 3, 1) := dkg_X12_252.2.2.2.2.2.2.2.2.2.1
theorem dkg_X12_253 : dkp cX12_centre [(50, .aload_n 0, 1), (51, .getfield 98, 3), (54, .iload_n 2, 1), (55, .iaload, 1), (56, .iconst 1, 1), (57, .isub, 1), (58, .istore 4, 2), (60, .iload 4, 2), (62, .ifCond .lt 37, 3), (65, .aload_n 0, 1)] := dkf (by decide +kernel)
theorem dX12_centre_50 : decode cX12_centre 50 = .ok (.aload_n 0, 1) := dkg_X12_253.1
theorem dX12_centre_51 : decode cX12_centre 51 = .ok (.getfield 98, 3) := dkg_X12_253.2.1
theorem dX12_centre_54 : decode cX12_centre 54 = .ok (.iload_n 2, 1) := dkg_X12_253.2.2.1
theorem dX12_centre_55 : decode cX12_centre 55 = .ok (.iaload, 1) := dkg_X12_253.2.2.2.1
theorem dX12_centre_56 : decode cX12_centre 56 = .ok (.iconst 1, 1) := dkg_X12_253.2.2.2.2.1
theorem dX12_centre_57 : decode cX12_centre 57 = .ok (.isub, 1) := dkg_X12_253.2.2.2.2.2.1
theorem dX12_centre_58 : decode cX12_centre 58 = .ok (.istore 4, 2) := dkg_X12_253.2.2.2.2.2.2.1
theorem dX12_centre_60 : decode cX12_centre 60 = .ok (.iload 4, 2) := dkg_X12_253.2.2.2.2.2.2.2.1
theorem dX12_centre_62 : decode cX12_centre 62 = .ok (.ifCond .lt 37, 3) := dkg_X12_253.2.2.2.2.2.2.2.2.1
theorem dX12_centre_65 : decode cX12_centre 65 = .ok (.aload_n 0, 1) := dkg_X12_253.2.2.2.2.2.2.2.2.2.1
theorem dkg_X12_254 : dkp cX12_centre [(66, .getfield 101, 3), (69, .sipush 200, 3), (72, .iload_n 2, 1), (73, .imul, 1), (74, .iload 4, 2), (76, .iadd, 1), (77, .iload_n 3, 1), (78, .iadd, 1), (79, .aload_n 0, 1), (80, .getfield 101, 3)] := dkf (by decide +kernel)
theorem dX12_centre_66 : decode cX12_centre 66 = .ok (.getfield 101, 3) := dkg_X12_254.1
theorem dX12_centre_69 : decode cX12_centre 69 = .ok (.sipush 200, 3) := dkg_X12_254.2.1
theorem dX12_centre_72 : decode cX12_centre 72 = .ok (.iload_n 2, 1) := dkg_X12_254.2.2.1
theorem dX12_centre_73 : decode cX12_centre 73 = .ok (.imul, 1) := dkg_X12_254.2.2.2.1
theorem dX12_centre_74 : decode cX12_centre 74 = .ok (.iload 4, 2) := dkg_X12_254.2.2.2.2.1
theorem dX12_centre_76 : decode cX12_centre 76 = .ok (.iadd, 1) := dkg_X12_254.2.2.2.2.2.1
theorem dX12_centre_77 : decode cX12_centre 77 = .ok (.iload_n 3, 1) := dkg_X12_254.2.2.2.2.2.2.1
theorem dX12_centre_78 : decode cX12_centre 78 = .ok (.iadd, 1) := dkg_X12_254.2.2.2.2.2.2.2.1
theorem dX12_centre_79 : decode cX12_centre 79 = .ok (.aload_n 0, 1) := dkg_X12_254.2.2.2.2.2.2.2.2.1
theorem dX12_centre_80 : decode cX12_centre 80 = .ok (.getfield 101, 3) := dkg_X12_254.2.2.2.2.2.2.2.2.2.1
theorem dkg_X12_255 : dkp cX12_centre [(83, .sipush 200, 3), (86, .iload_n 2, 1), (87, .imul, 1), (88, .iload 4, 2), (90, .iadd, 1), (91, .iaload, 1), (92, .iastore, 1), (93, .iinc 4 (-1), 3), (96, .goto (-36), 3), (99, .iconst 0, 1)] := dkf (by decide +kernel)
theorem dX12_centre_83 : decode cX12_centre 83 = .ok (.sipush 200, 3) := dkg_X12_255.1
theorem dX12_centre_86 : decode cX12_centre 86 = .ok (.iload_n 2, 1) := dkg_X12_255.2.1
theorem dX12_centre_87 : decode cX12_centre 87 = .ok (.imul, 1) := dkg_X12_255.2.2.1
theorem dX12_centre_88 : decode cX12_centre 88 = .ok (.iload 4, 2) := dkg_X12_255.2.2.2.1
theorem dX12_centre_90 : decode cX12_centre 90 = .ok (.iadd, 1) := dkg_X12_255.2.2.2.2.1
theorem dX12_centre_91 : decode cX12_centre 91 = .ok (.iaload, 1) := dkg_X12_255.2.2.2.2.2.1
theorem dX12_centre_92 : decode cX12_centre 92 = .ok (.iastore, 1) := dkg_X12_255.2.2.2.2.2.2.1
theorem dX12_centre_93 : decode cX12_centre 93 = .ok (.iinc 4 (-1), 3) := dkg_X12_255.2.2.2.2.2.2.2.1
theorem dX12_centre_96 : decode cX12_centre 96 = .ok (.goto (-36), 3) := dkg_X12_255.2.2.2.2.2.2.2.2.1
theorem dX12_centre_99 : decode cX12_centre 99 = .ok (.iconst 0, 1) := dkg_X12_255.2.2.2.2.2.2.2.2.2.1
theorem dkg_X12_256 : dkp cX12_centre [(100, .istore 4, 2), (102, .iload 4, 2), (104, .iload_n 3, 1), (105, .if_icmp .ge 23, 3), (108, .aload_n 0, 1), (109, .getfield 101, 3), (112, .sipush 200, 3), (115, .iload_n 2, 1), (116, .imul, 1), (117, .iload 4, 2)] := dkf (by decide +kernel)
theorem dX12_centre_100 : decode cX12_centre 100 = .ok (.istore 4, 2) := dkg_X12_256.1
theorem dX12_centre_102 : decode cX12_centre 102 = .ok (.iload 4, 2) := dkg_X12_256.2.1
theorem dX12_centre_104 : decode cX12_centre 104 = .ok (.iload_n 3, 1) := dkg_X12_256.2.2.1
theorem dX12_centre_105 : decode cX12_centre 105 = .ok (.if_icmp .ge 23, 3) := dkg_X12_256.2.2.2.1
theorem dX12_centre_108 : decode cX12_centre 108 = .ok (.aload_n 0, 1) := dkg_X12_256.2.2.2.2.1
theorem dX12_centre_109 : decode cX12_centre 109 = .ok (.getfield 101, 3) := dkg_X12_256.2.2.2.2.2.1
theorem dX12_centre_112 : decode cX12_centre 112 = .ok (.sipush 200, 3) := dkg_X12_256.2.2.2.2.2.2.1
theorem dX12_centre_115 : decode cX12_centre 115 = .ok (.iload_n 2, 1) := dkg_X12_256.2.2.2.2.2.2.2.1
theorem dX12_centre_116 : decode cX12_centre 116 = .ok (.imul, 1) := dkg_X12_256.2.2.2.2.2.2.2.2.1
theorem dX12_centre_117 : decode cX12_centre 117 = .ok (.iload 4, 2) := dkg_X12_256.2.2.2.2.2.2.2.2.2.1
theorem dkg_X12_257 : dkp cX12_centre [(119, .iadd, 1), (120, .iconst 0, 1), (121, .iastore, 1), (122, .iinc 4 1, 3), (125, .goto (-23), 3), (128, .aload_n 0, 1), (129, .getfield 98, 3), (132, .iload_n 2, 1), (133, .dup2, 1), (134, .iaload, 1)] := dkf (by decide +kernel)
theorem dX12_centre_119 : decode cX12_centre 119 = .ok (.iadd, 1) := dkg_X12_257.1
theorem dX12_centre_120 : decode cX12_centre 120 = .ok (.iconst 0, 1) := dkg_X12_257.2.1
theorem dX12_centre_121 : decode cX12_centre 121 = .ok (.iastore, 1) := dkg_X12_257.2.2.1
theorem dX12_centre_122 : decode cX12_centre 122 = .ok (.iinc 4 1, 3) := dkg_X12_257.2.2.2.1
theorem dX12_centre_125 : decode cX12_centre 125 = .ok (.goto (-23), 3) := dkg_X12_257.2.2.2.2.1
theorem dX12_centre_128 : decode cX12_centre 128 = .ok (.aload_n 0, 1) := dkg_X12_257.2.2.2.2.2.1
theorem dX12_centre_129 : decode cX12_centre 129 = .ok (.getfield 98, 3) := dkg_X12_257.2.2.2.2.2.2.1
theorem dX12_centre_132 : decode cX12_centre 132 = .ok (.iload_n 2, 1) := dkg_X12_257.2.2.2.2.2.2.2.1
theorem dX12_centre_133 : decode cX12_centre 133 = .ok (.dup2, 1) := dkg_X12_257.2.2.2.2.2.2.2.2.1
theorem dX12_centre_134 : decode cX12_centre 134 = .ok (.iaload, 1) := dkg_X12_257.2.2.2.2.2.2.2.2.2.1
theorem dkg_X12_258 : dkp cX12_centre [(135, .iload_n 3, 1), (136, .iadd, 1), (137, .iastore, 1), (138, .iinc 2 1, 3), (141, .goto (-139), 3), (144, .return_, 1)] := dkf (by decide +kernel)
theorem dX12_centre_135 : decode cX12_centre 135 = .ok (.iload_n 3, 1) := dkg_X12_258.1
theorem dX12_centre_136 : decode cX12_centre 136 = .ok (.iadd, 1) := dkg_X12_258.2.1
theorem dX12_centre_137 : decode cX12_centre 137 = .ok (.iastore, 1) := dkg_X12_258.2.2.1
theorem dX12_centre_138 : decode cX12_centre 138 = .ok (.iinc 2 1, 3) := dkg_X12_258.2.2.2.1
theorem dX12_centre_141 : decode cX12_centre 141 = .ok (.goto (-139), 3) := dkg_X12_258.2.2.2.2.1
theorem dX12_centre_144 : decode cX12_centre 144 = .ok (.return_, 1) := dkg_X12_258.2.2.2.2.2.1
theorem dkg_X12_259 : dkp cX12_set [(0, .aload_n 0, 1), (1, .iload_n 1, 1), (2, .invokevirtual 171, 3), (5, .ifCond .ne 9, 3), (8, .aload_n 0, 1), (9, .iconst 3, 1), (10, .invokevirtual 154, 3), (13, .ireturn, 1), (14, .aload_n 0, 1), (15, .iconst 0, 1)] := dkf (by decide +kernel)
theorem dX12_set_0 : decode cX12_set 0 = .ok (.aload_n 0, 1) := dkg_X12_259.1
theorem dX12_set_1 : decode cX12_set 1 = .ok (.iload_n 1, 1) := dkg_X12_259.2.1
theorem dX12_set_2 : decode cX12_set 2 = .ok (.invokevirtual 171, 3) := dkg_X12_259.2.2.1
theorem dX12_set_5 : decode cX12_set 5 = .ok (.ifCond .ne 9, 3) := dkg_X12_259.2.2.2.1
theorem dX12_set_8 : decode cX12_set 8 = .ok (.aload_n 0, 1) := dkg_X12_259.2.2.2.2.1
theorem dX12_set_9 : decode cX12_set 9 = .ok (.iconst 3, 1) := dkg_X12_259.2.2.2.2.2.1
theorem dX12_set_10 : decode cX12_set 10 = .ok (.invokevirtual 154, 3) := dkg_X12_259.2.2.2.2.2.2.1
theorem dX12_set_13 : decode cX12_set 13 = .ok (.ireturn, 1) := dkg_X12_259.2.2.2.2.2.2.2.1
theorem dX12_set_14 : decode cX12_set 14 = .ok (.aload_n 0, 1) := dkg_X12_259.2.2.2.2.2.2.2.2.1
theorem dX12_set_15 : decode cX12_set 15 = .ok (.iconst 0, 1) := dkg_X12_259.2.2.2.2.2.2.2.2.2.1
theorem dkg_X12_260 : dkp cX12_set [(16, .putfield 246, 3), (19, .iconst 0, 1), (20, .istore_n 2, 1), (21, .iload_n 2, 1), (22, .aload_n 0, 1), (23, .getfield 243, 3), (26, .if_icmp .ge 131, 3), (29, .aload_n 0, 1), (30, .iload_n 2, 1), (31, .invokevirtual 261, 3)] := dkf (by decide +kernel)
theorem dX12_set_16 : decode cX12_set 16 = .ok (.putfield 246, 3) := dkg_X12_260.1
theorem dX12_set_19 : decode cX12_set 19 = .ok (.iconst 0, 1) := dkg_X12_260.2.1
theorem dX12_set_20 : decode cX12_set 20 = .ok (.istore_n 2, 1) := dkg_X12_260.2.2.1
theorem dX12_set_21 : decode cX12_set 21 = .ok (.iload_n 2, 1) := dkg_X12_260.2.2.2.1
theorem dX12_set_22 : decode cX12_set 22 = .ok (.aload_n 0, 1) := dkg_X12_260.2.2.2.2.1
theorem dX12_set_23 : decode cX12_set 23 = .ok (.getfield 243, 3) := dkg_X12_260.2.2.2.2.2.1
theorem dX12_set_26 : decode cX12_set 26 = .ok (.if_icmp .ge 131, 3) := dkg_X12_260.2.2.2.2.2.2.1
theorem dX12_set_29 : decode cX12_set 29 = .ok (.aload_n 0, 1) := dkg_X12_260.2.2.2.2.2.2.2.1
theorem dX12_set_30 : decode cX12_set 30 = .ok (.iload_n 2, 1) := dkg_X12_260.2.2.2.2.2.2.2.2.1
theorem dX12_set_31 : decode cX12_set 31 = .ok (.invokevirtual 261, 3) := dkg_X12_260.2.2.2.2.2.2.2.2.2.1
theorem dkg_X12_261 : dkp cX12_set [(34, .istore_n 3, 1), (35, .aload_n 0, 1), (36, .getfield 79, 3), (39, .iload_n 2, 1), (40, .iaload, 1), (41, .bipush 94, 2), (43, .if_icmp .ne 7, 3), (46, .iconst 1, 1), (47, .goto 4, 3), (50, .iconst 0, 1)] := dkf (by decide +kernel)
theorem dX12_set_34 : decode cX12_set 34 = .ok (.istore_n 3, 1) := dkg_X12_261.1
theorem dX12_set_35 : decode cX12_set 35 = .ok (.aload_n 0, 1) := dkg_X12_261.2.1
theorem dX12_set_36 : decode cX12_set 36 = .ok (.getfield 79, 3) := dkg_X12_261.2.2.1
theorem dX12_set_39 : decode cX12_set 39 = .ok (.iload_n 2, 1) := dkg_X12_261.2.2.2.1
theorem dX12_set_40 : decode cX12_set 40 = .ok (.iaload, 1) := dkg_X12_261.2.2.2.2.1
theorem dX12_set_41 : decode cX12_set 41 = .ok (.bipush 94, 2) := dkg_X12_261.2.2.2.2.2.1
theorem dX12_set_43 : decode cX12_set 43 = .ok (.if_icmp .ne 7, 3) := dkg_X12_261.2.2.2.2.2.2.1
theorem dX12_set_46 : decode cX12_set 46 = .ok (.iconst 1, 1) := dkg_X12_261.2.2.2.2.2.2.2.1
theorem dX12_set_47 : decode cX12_set 47 = .ok (.goto 4, 3) := dkg_X12_261.2.2.2.2.2.2.2.2.1
theorem dX12_set_50 : decode cX12_set 50 = .ok (.iconst 0, 1) := dkg_X12_261.2.2.2.2.2.2.2.2.2.1
theorem dkg_X12_262 : dkp cX12_set [(51, .istore 4, 2), (53, .aload_n 0, 1), (54, .getfield 246, 3), (57, .istore 5, 2), (59, .aload_n 0, 1), (60, .invokevirtual 257, 3), (63, .ifCond .ne 10, 3), (66, .aload_n 0, 1), (67, .bipush 6, 2), (69, .invokevirtual 154, 3)] := dkf (by decide +kernel)
theorem dX12_set_51 : decode cX12_set 51 = .ok (.istore 4, 2) := dkg_X12_262.1
theorem dX12_set_53 : decode cX12_set 53 = .ok (.aload_n 0, 1) := dkg_X12_262.2.1
theorem dX12_set_54 : decode cX12_set 54 = .ok (.getfield 246, 3) := dkg_X12_262.2.2.1
theorem dX12_set_57 : decode cX12_set 57 = .ok (.istore 5, 2) := dkg_X12_262.2.2.2.1
theorem dX12_set_59 : decode cX12_set 59 = .ok (.aload_n 0, 1) := dkg_X12_262.2.2.2.2.1
theorem dX12_set_60 : decode cX12_set 60 = .ok (.invokevirtual 257, 3) := dkg_X12_262.2.2.2.2.2.1
theorem dX12_set_63 : decode cX12_set 63 = .ok (.ifCond .ne 10, 3) := dkg_X12_262.2.2.2.2.2.2.1
theorem dX12_set_66 : decode cX12_set 66 = .ok (.aload_n 0, 1) := dkg_X12_262.2.2.2.2.2.2.2.1
theorem dX12_set_67 : decode cX12_set 67 = .ok (.bipush 6, 2) := dkg_X12_262.2.2.2.2.2.2.2.2.1
theorem dX12_set_69 : decode cX12_set 69 = .ok (.invokevirtual 154, 3) := dkg_X12_262.2.2.2.2.2.2.2.2.2.1
theorem dkg_X12_263 : dkp cX12_set [(72, .ireturn, 1), (73, .aload_n 0, 1), (74, .iload 4, 2), (76, .ifCond .eq 9, 3), (79, .iload_n 2, 1), (80, .iconst 1, 1), (81, .iadd, 1), (82, .goto 4, 3), (85, .iload_n 2, 1), (86, .iload_n 3, 1)] := dkf (by decide +kernel)
theorem dX12_set_72 : decode cX12_set 72 = .ok (.ireturn, 1) := dkg_X12_263.1
theorem dX12_set_73 : decode cX12_set 73 = .ok (.aload_n 0, 1) := dkg_X12_263.2.1
theorem dX12_set_74 : decode cX12_set 74 = .ok (.iload 4, 2) := dkg_X12_263.2.2.1
theorem dX12_set_76 : decode cX12_set 76 = .ok (.ifCond .eq 9, 3) := dkg_X12_263.2.2.2.1
theorem dX12_set_79 : decode cX12_set 79 = .ok (.iload_n 2, 1) := dkg_X12_263.2.2.2.2.1
theorem dX12_set_80 : decode cX12_set 80 = .ok (.iconst 1, 1) := dkg_X12_263.2.2.2.2.2.1
theorem dX12_set_81 : decode cX12_set 81 = .ok (.iadd, 1) := dkg_X12_263.2.2.2.2.2.2.1
theorem dX12_set_82 : decode cX12_set 82 = .ok (.goto 4, 3) := dkg_X12_263.2.2.2.2.2.2.2.1
theorem dX12_set_85 : decode cX12_set 85 = .ok (.iload_n 2, 1) := dkg_X12_263.2.2.2.2.2.2.2.2.1
theorem dX12_set_86 : decode cX12_set 86 = .ok (.iload_n 3, 1) := dkg_X12_263.2.2.2.2.2.2.2.2.2.1
theorem dkg_X12_264 : dkp cX12_set [(87, .invokevirtual 264, 3), (90, .istore 6, 2), (92, .aload_n 0, 1), (93, .getfield 234, 3), (96, .ifCond .le 43, 3), (99, .aload_n 0, 1), (100, .iload_n 1, 1), (101, .invokevirtual 267, 3), (104, .ifCond .ne 8, 3), (107, .aload_n 0, 1)] := dkf (by decide +kernel)
theorem dX12_set_87 : decode cX12_set 87 = .ok (.invokevirtual 264, 3) := dkg_X12_264.1
theorem dX12_set_90 : decode cX12_set 90 = .ok (.istore 6, 2) := dkg_X12_264.2.1
theorem dX12_set_92 : decode cX12_set 92 = .ok (.aload_n 0, 1) := dkg_X12_264.2.2.1
theorem dX12_set_93 : decode cX12_set 93 = .ok (.getfield 234, 3) := dkg_X12_264.2.2.2.1
theorem dX12_set_96 : decode cX12_set 96 = .ok (.ifCond .le 43, 3) := dkg_X12_264.2.2.2.2.1
theorem dX12_set_99 : decode cX12_set 99 = .ok (.aload_n 0, 1) := dkg_X12_264.2.2.2.2.2.1
theorem dX12_set_100 : decode cX12_set 100 = .ok (.iload_n 1, 1) := dkg_X12_264.2.2.2.2.2.2.1
theorem dX12_set_101 : decode cX12_set 101 = .ok (.invokevirtual 267, 3) := dkg_X12_264.2.2.2.2.2.2.2.1
theorem dX12_set_104 : decode cX12_set 104 = .ok (.ifCond .ne 8, 3) := dkg_X12_264.2.2.2.2.2.2.2.2.1
theorem dX12_set_107 : decode cX12_set 107 = .ok (.aload_n 0, 1) := dkg_X12_264.2.2.2.2.2.2.2.2.2.1
theorem dkg_X12_265 : dkp cX12_set [(108, .invokevirtual 270, 3), (111, .ireturn, 1), (112, .aload_n 0, 1), (113, .iload_n 1, 1), (114, .invokevirtual 273, 3), (117, .ifCond .ne 10, 3), (120, .aload_n 0, 1), (121, .bipush 6, 2), (123, .invokevirtual 154, 3), (126, .ireturn, 1)] := dkf (by decide +kernel)
theorem dX12_set_108 : decode cX12_set 108 = .ok (.invokevirtual 270, 3) := dkg_X12_265.1
theorem dX12_set_111 : decode cX12_set 111 = .ok (.ireturn, 1) := dkg_X12_265.2.1
theorem dX12_set_112 : decode cX12_set 112 = .ok (.aload_n 0, 1) := dkg_X12_265.2.2.1
theorem dX12_set_113 : decode cX12_set 113 = .ok (.iload_n 1, 1) := dkg_X12_265.2.2.2.1
theorem dX12_set_114 : decode cX12_set 114 = .ok (.invokevirtual 273, 3) := dkg_X12_265.2.2.2.2.1
theorem dX12_set_117 : decode cX12_set 117 = .ok (.ifCond .ne 10, 3) := dkg_X12_265.2.2.2.2.2.1
theorem dX12_set_120 : decode cX12_set 120 = .ok (.aload_n 0, 1) := dkg_X12_265.2.2.2.2.2.2.1
theorem dX12_set_121 : decode cX12_set 121 = .ok (.bipush 6, 2) := dkg_X12_265.2.2.2.2.2.2.2.1
theorem dX12_set_123 : decode cX12_set 123 = .ok (.invokevirtual 154, 3) := dkg_X12_265.2.2.2.2.2.2.2.2.1
theorem dX12_set_126 : decode cX12_set 126 = .ok (.ireturn, 1) := dkg_X12_265.2.2.2.2.2.2.2.2.2.1
theorem dkg_X12_266 : dkp cX12_set [(127, .aload_n 0, 1), (128, .iload 6, 2), (130, .iload_n 3, 1), (131, .invokevirtual 264, 3), (134, .istore 6, 2), (136, .goto (-44), 3), (139, .iload 4, 2), (141, .ifCond .eq 9, 3), (144, .aload_n 0, 1), (145, .iload 5, 2)] := dkf (by decide +kernel)
theorem dX12_set_127 : decode cX12_set 127 = .ok (.aload_n 0, 1) := dkg_X12_266.1
theorem dX12_set_128 : decode cX12_set 128 = .ok (.iload 6, 2) := dkg_X12_266.2.1
theorem dX12_set_130 : decode cX12_set 130 = .ok (.iload_n 3, 1) := dkg_X12_266.2.2.1
theorem dX12_set_131 : decode cX12_set 131 = .ok (.invokevirtual 264, 3) := dkg_X12_266.2.2.2.1
theorem dX12_set_134 : decode cX12_set 134 = .ok (.istore 6, 2) := dkg_X12_266.2.2.2.2.1
theorem dX12_set_136 : decode cX12_set 136 = .ok (.goto (-44), 3) := dkg_X12_266.2.2.2.2.2.1
theorem dX12_set_139 : decode cX12_set 139 = .ok (.iload 4, 2) := dkg_X12_266.2.2.2.2.2.2.1
theorem dX12_set_141 : decode cX12_set 141 = .ok (.ifCond .eq 9, 3) := dkg_X12_266.2.2.2.2.2.2.2.1
theorem dX12_set_144 : decode cX12_set 144 = .ok (.aload_n 0, 1) := dkg_X12_266.2.2.2.2.2.2.2.2.1
theorem dX12_set_145 : decode cX12_set 145 = .ok (.iload 5, 2) := dkg_X12_266.2.2.2.2.2.2.2.2.2.1
theorem dkg_X12_267 : dkp cX12_set [(147, .invokevirtual 276, 3), (150, .iload_n 3, 1), (151, .iconst 1, 1), (152, .iadd, 1), (153, .istore_n 2, 1), (154, .goto (-133), 3), (157, .aload_n 0, 1), (158, .aload_n 0, 1), (159, .getfield 246, 3), (162, .putfield 279, 3)] := dkf (by decide +kernel)
theorem dX12_set_147 : decode cX12_set 147 = .ok (.invokevirtual 276, 3) := dkg_X12_267.1
theorem dX12_set_150 : decode cX12_set 150 = .ok (.iload_n 3, 1) := dkg_X12_267.2.1
theorem dX12_set_151 : decode cX12_set 151 = .ok (.iconst 1, 1) := dkg_X12_267.2.2.1
theorem dX12_set_152 : decode cX12_set 152 = .ok (.iadd, 1) := dkg_X12_267.2.2.2.1
theorem dX12_set_153 : decode cX12_set 153 = .ok (.istore_n 2, 1) := dkg_X12_267.2.2.2.2.1
theorem dX12_set_154 : decode cX12_set 154 = .ok (.goto (-133), 3) := dkg_X12_267.2.2.2.2.2.1
theorem dX12_set_157 : decode cX12_set 157 = .ok (.aload_n 0, 1) := dkg_X12_267.2.2.2.2.2.2.1
theorem dX12_set_158 : decode cX12_set 158 = .ok (.aload_n 0, 1) := dkg_X12_267.2.2.2.2.2.2.2.1
theorem dX12_set_159 : decode cX12_set 159 = .ok (.getfield 246, 3) := dkg_X12_267.2.2.2.2.2.2.2.2.1
theorem dX12_set_162 : decode cX12_set 162 = .ok (.putfield 279, 3) := dkg_X12_267.2.2.2.2.2.2.2.2.2.1
theorem dkg_X12_268 : dkp cX12_set [(165, .iconst 0, 1), (166, .istore_n 3, 1), (167, .iload_n 3, 1), (168, .aload_n 0, 1), (169, .getfield 279, 3), (172, .if_icmp .ge 67, 3), (175, .aload_n 0, 1), (176, .getfield 91, 3), (179, .iload_n 3, 1), (180, .aload_n 0, 1)] := dkf (by decide +kernel)
theorem dX12_set_165 : decode cX12_set 165 = .ok (.iconst 0, 1) := dkg_X12_268.1
theorem dX12_set_166 : decode cX12_set 166 = .ok (.istore_n 3, 1) := dkg_X12_268.2.1
theorem dX12_set_167 : decode cX12_set 167 = .ok (.iload_n 3, 1) := dkg_X12_268.2.2.1
theorem dX12_set_168 : decode cX12_set 168 = .ok (.aload_n 0, 1) := dkg_X12_268.2.2.2.1
theorem dX12_set_169 : decode cX12_set 169 = .ok (.getfield 279, 3) := dkg_X12_268.2.2.2.2.1
theorem dX12_set_172 : decode cX12_set 172 = .ok (.if_icmp .ge 67, 3) := dkg_X12_268.2.2.2.2.2.1
theorem dX12_set_175 : decode cX12_set 175 = .ok (.aload_n 0, 1) := dkg_X12_268.2.2.2.2.2.2.1
theorem dX12_set_176 : decode cX12_set 176 = .ok (.getfield 91, 3) := dkg_X12_268.2.2.2.2.2.2.2.1
theorem dX12_set_179 : decode cX12_set 179 = .ok (.iload_n 3, 1) := dkg_X12_268.2.2.2.2.2.2.2.2.1
theorem dX12_set_180 : decode cX12_set 180 = .ok (.aload_n 0, 1) := dkg_X12_268.2.2.2.2.2.2.2.2.2.1
theorem dkg_X12_269 : dkp cX12_set [(181, .getfield 98, 3), (184, .iload_n 3, 1), (185, .iaload, 1), (186, .iastore, 1), (187, .iconst 0, 1), (188, .istore 4, 2), (190, .iload 4, 2), (192, .aload_n 0, 1), (193, .getfield 98, 3), (196, .iload_n 3, 1)] := dkf (by decide +kernel)
theorem dX12_set_181 : decode cX12_set 181 = .ok (.getfield 98, 3) := dkg_X12_269.1
theorem dX12_set_184 : decode cX12_set 184 = .ok (.iload_n 3, 1) := dkg_X12_269.2.1
theorem dX12_set_185 : decode cX12_set 185 = .ok (.iaload, 1) := dkg_X12_269.2.2.1
theorem dX12_set_186 : decode cX12_set 186 = .ok (.iastore, 1) := dkg_X12_269.2.2.2.1
theorem dX12_set_187 : decode cX12_set 187 = .ok (.iconst 0, 1) := dkg_X12_269.2.2.2.2.1
theorem dX12_set_188 : decode cX12_set 188 = .ok (.istore 4, 2) := dkg_X12_269.2.2.2.2.2.1
theorem dX12_set_190 : decode cX12_set 190 = .ok (.iload 4, 2) := dkg_X12_269.2.2.2.2.2.2.1
theorem dX12_set_192 : decode cX12_set 192 = .ok (.aload_n 0, 1) := dkg_X12_269.2.2.2.2.2.2.2.1
theorem dX12_set_193 : decode cX12_set 193 = .ok (.getfield 98, 3) := dkg_X12_269.2.2.2.2.2.2.2.2.1
theorem dX12_set_196 : decode cX12_set 196 = .ok (.iload_n 3, 1) := dkg_X12_269.2.2.2.2.2.2.2.2.2.1
theorem dkg_X12_270 : dkp cX12_set [(197, .iaload, 1), (198, .if_icmp .ge 35, 3), (201, .aload_n 0, 1), (202, .getfield 95, 3), (205, .sipush 200, 3), (208, .iload_n 3, 1), (209, .imul, 1), (210, .iload 4, 2), (212, .iadd, 1), (213, .aload_n 0, 1)] := dkf (by decide +kernel)
theorem dX12_set_197 : decode cX12_set 197 = .ok (.iaload, 1) := dkg_X12_270.1
theorem dX12_set_198 : decode cX12_set 198 = .ok (.if_icmp .ge 35, 3) := dkg_X12_270.2.1
theorem dX12_set_201 : decode cX12_set 201 = .ok (.aload_n 0, 1) := dkg_X12_270.2.2.1
theorem dX12_set_202 : decode cX12_set 202 = .ok (.getfield 95, 3) := dkg_X12_270.2.2.2.1
theorem dX12_set_205 : decode cX12_set 205 = .ok (.sipush 200, 3) := dkg_X12_270.2.2.2.2.1
theorem dX12_set_208 : decode cX12_set 208 = .ok (.iload_n 3, 1) := dkg_X12_270.2.2.2.2.2.1
theorem dX12_set_209 : decode cX12_set 209 = .ok (.imul, 1) := dkg_X12_270.2.2.2.2.2.2.1
theorem dX12_set_210 : decode cX12_set 210 = .ok (.iload 4, 2) := dkg_X12_270.2.2.2.2.2.2.2.1
theorem dX12_set_212 : decode cX12_set 212 = .ok (.iadd, 1) := dkg_X12_270.2.2.2.2.2.2.2.2.1
theorem dX12_set_213 : decode cX12_set 213 = .ok (.aload_n 0, 1) := dkg_X12_270.2.2.2.2.2.2.2.2.2.1
theorem dkg_X12_271 : dkp cX12_set [(214, .getfield 101, 3), (217, .sipush 200, 3), (220, .iload_n 3, 1), (221, .imul, 1), (222, .iload 4, 2), (224, .iadd, 1), (225, .iaload, 1), (226, .iastore, 1), (227, .iinc 4 1, 3), (230, .goto (-40), 3)] := dkf (by decide +kernel)
theorem dX12_set_214 : decode cX12_set 214 = .ok (.getfield 101, 3) := dkg_X12_271.1
theorem dX12_set_217 : decode cX12_set 217 = .ok (.sipush 200, 3) := dkg_X12_271.2.1
theorem dX12_set_220 : decode cX12_set 220 = .ok (.iload_n 3, 1) := dkg_X12_271.2.2.1
theorem dX12_set_221 : decode cX12_set 221 = .ok (.imul, 1) := dkg_X12_271.2.2.2.1
theorem dX12_set_222 : decode cX12_set 222 = .ok (.iload 4, 2) := dkg_X12_271.2.2.2.2.1
theorem dX12_set_224 : decode cX12_set 224 = .ok (.iadd, 1) := dkg_X12_271.2.2.2.2.2.1
theorem dX12_set_225 : decode cX12_set 225 = .ok (.iaload, 1) := dkg_X12_271.2.2.2.2.2.2.1
theorem dX12_set_226 : decode cX12_set 226 = .ok (.iastore, 1) := dkg_X12_271.2.2.2.2.2.2.2.1
theorem dX12_set_227 : decode cX12_set 227 = .ok (.iinc 4 1, 3) := dkg_X12_271.2.2.2.2.2.2.2.2.1
theorem dX12_set_230 : decode cX12_set 230 = .ok (.goto (-40), 3) := dkg_X12_271.2.2.2.2.2.2.2.2.2.1
theorem dkg_X12_272 : dkp cX12_set [(233, .iinc 3 1, 3), (236, .goto (-69), 3), (239, .aload_n 0, 1), (240, .aload_n 0, 1), (241, .getfield 279, 3), (244, .invokevirtual 158, 3), (247, .ireturn, 1)] := dkf (by decide +kernel)
theorem dX12_set_233 : decode cX12_set 233 = .ok (.iinc 3 1, 3) := dkg_X12_272.1
theorem dX12_set_236 : decode cX12_set 236 = .ok (.goto (-69), 3) := dkg_X12_272.2.1
theorem dX12_set_239 : decode cX12_set 239 = .ok (.aload_n 0, 1) := dkg_X12_272.2.2.1
theorem dX12_set_240 : decode cX12_set 240 = .ok (.aload_n 0, 1) := dkg_X12_272.2.2.2.1
theorem dX12_set_241 : decode cX12_set 241 = .ok (.getfield 279, 3) := dkg_X12_272.2.2.2.2.1
theorem dX12_set_244 : decode cX12_set 244 = .ok (.invokevirtual 158, 3) := dkg_X12_272.2.2.2.2.2.1
theorem dX12_set_247 : decode cX12_set 247 = .ok (.ireturn, 1) := dkg_X12_272.2.2.2.2.2.2.1
theorem dkg_X12_273 : dkp cX12_head [(0, .aload_n 0, 1), (1, .invokevirtual 192, 3), (4, .istore_n 2, 1), (5, .iload_n 2, 1), (6, .bipush 40, 2), (8, .if_icmp .gt 7, 3), (11, .iconst 1, 1), (12, .goto 4, 3), (15, .iconst 0, 1), (16, .istore_n 3, 1)] := dkf (by decide +kernel)
theorem dX12_head_0 : decode cX12_head 0 = .ok (.aload_n 0, 1) := dkg_X12_273.1
theorem dX12_head_1 : decode cX12_head 1 = .ok (.invokevirtual 192, 3) := dkg_X12_273.2.1
theorem dX12_head_4 : decode cX12_head 4 = .ok (.istore_n 2, 1) := dkg_X12_273.2.2.1
theorem dX12_head_5 : decode cX12_head 5 = .ok (.iload_n 2, 1) := dkg_X12_273.2.2.2.1
theorem dX12_head_6 : decode cX12_head 6 = .ok (.bipush 40, 2) := dkg_X12_273.2.2.2.2.1
theorem dX12_head_8 : decode cX12_head 8 = .ok (.if_icmp .gt 7, 3) := dkg_X12_273.2.2.2.2.2.1
theorem dX12_head_11 : decode cX12_head 11 = .ok (.iconst 1, 1) := dkg_X12_273.2.2.2.2.2.2.1
theorem dX12_head_12 : decode cX12_head 12 = .ok (.goto 4, 3) := dkg_X12_273.2.2.2.2.2.2.2.1
theorem dX12_head_15 : decode cX12_head 15 = .ok (.iconst 0, 1) := dkg_X12_273.2.2.2.2.2.2.2.2.1
theorem dX12_head_16 : decode cX12_head 16 = .ok (.istore_n 3, 1) := dkg_X12_273.2.2.2.2.2.2.2.2.2.1
theorem dkg_X12_274 : dkp cX12_head [(17, .iconst 0, 1), (18, .istore 4, 2), (20, .iload 4, 2), (22, .iload_n 2, 1), (23, .if_icmp .ge 24, 3), (26, .iload_n 3, 1), (27, .ifCond .eq 20, 3), (30, .aload_n 0, 1), (31, .getfield 13, 3), (34, .iload 4, 2)] := dkf (by decide +kernel)
theorem dX12_head_17 : decode cX12_head 17 = .ok (.iconst 0, 1) := dkg_X12_274.1
theorem dX12_head_18 : decode cX12_head 18 = .ok (.istore 4, 2) := dkg_X12_274.2.1
theorem dX12_head_20 : decode cX12_head 20 = .ok (.iload 4, 2) := dkg_X12_274.2.2.1
theorem dX12_head_22 : decode cX12_head 22 = .ok (.iload_n 2, 1) := dkg_X12_274.2.2.2.1
theorem dX12_head_23 : decode cX12_head 23 = .ok (.if_icmp .ge 24, 3) := dkg_X12_274.2.2.2.2.1
theorem dX12_head_26 : decode cX12_head 26 = .ok (.iload_n 3, 1) := dkg_X12_274.2.2.2.2.2.1
theorem dX12_head_27 : decode cX12_head 27 = .ok (.ifCond .eq 20, 3) := dkg_X12_274.2.2.2.2.2.2.1
theorem dX12_head_30 : decode cX12_head 30 = .ok (.aload_n 0, 1) := dkg_X12_274.2.2.2.2.2.2.2.1
theorem dX12_head_31 : decode cX12_head 31 = .ok (.getfield 13, 3) := dkg_X12_274.2.2.2.2.2.2.2.2.1
theorem dX12_head_34 : decode cX12_head 34 = .ok (.iload 4, 2) := dkg_X12_274.2.2.2.2.2.2.2.2.2.1
theorem dkg_X12_275 : dkp cX12_head [(36, .iaload, 1), (37, .invokestatic 199, 3), (40, .istore_n 3, 1), (41, .iinc 4 1, 3), (44, .goto (-24), 3), (47, .iload_n 3, 1), (48, .ifCond .ne 10, 3), (51, .aload_n 0, 1), (52, .bipush 6, 2), (54, .invokevirtual 154, 3)] := dkf (by decide +kernel)
theorem dX12_head_36 : decode cX12_head 36 = .ok (.iaload, 1) := dkg_X12_275.1
theorem dX12_head_37 : decode cX12_head 37 = .ok (.invokestatic 199, 3) := dkg_X12_275.2.1
theorem dX12_head_40 : decode cX12_head 40 = .ok (.istore_n 3, 1) := dkg_X12_275.2.2.1
theorem dX12_head_41 : decode cX12_head 41 = .ok (.iinc 4 1, 3) := dkg_X12_275.2.2.2.1
theorem dX12_head_44 : decode cX12_head 44 = .ok (.goto (-24), 3) := dkg_X12_275.2.2.2.2.1
theorem dX12_head_47 : decode cX12_head 47 = .ok (.iload_n 3, 1) := dkg_X12_275.2.2.2.2.2.1
theorem dX12_head_48 : decode cX12_head 48 = .ok (.ifCond .ne 10, 3) := dkg_X12_275.2.2.2.2.2.2.1
theorem dX12_head_51 : decode cX12_head 51 = .ok (.aload_n 0, 1) := dkg_X12_275.2.2.2.2.2.2.2.1
theorem dX12_head_52 : decode cX12_head 52 = .ok (.bipush 6, 2) := dkg_X12_275.2.2.2.2.2.2.2.2.1
theorem dX12_head_54 : decode cX12_head 54 = .ok (.invokevirtual 154, 3) := dkg_X12_275.2.2.2.2.2.2.2.2.2.1
theorem dkg_X12_276 : dkp cX12_head [(57, .ireturn, 1), (58, .aload_n 0, 1), (59, .iload_n 1, 1), (60, .invokevirtual 171, 3), (63, .ifCond .ne 9, 3), (66, .aload_n 0, 1), (67, .iconst 3, 1), (68, .invokevirtual 154, 3), (71, .ireturn, 1), (72, .aload_n 0, 1)] := dkf (by decide +kernel)
theorem dX12_head_57 : decode cX12_head 57 = .ok (.ireturn, 1) := dkg_X12_276.1
theorem dX12_head_58 : decode cX12_head 58 = .ok (.aload_n 0, 1) := dkg_X12_276.2.1
theorem dX12_head_59 : decode cX12_head 59 = .ok (.iload_n 1, 1) := dkg_X12_276.2.2.1
theorem dX12_head_60 : decode cX12_head 60 = .ok (.invokevirtual 171, 3) := dkg_X12_276.2.2.2.1
theorem dX12_head_63 : decode cX12_head 63 = .ok (.ifCond .ne 9, 3) := dkg_X12_276.2.2.2.2.1
theorem dX12_head_66 : decode cX12_head 66 = .ok (.aload_n 0, 1) := dkg_X12_276.2.2.2.2.2.1
theorem dX12_head_67 : decode cX12_head 67 = .ok (.iconst 3, 1) := dkg_X12_276.2.2.2.2.2.2.1
theorem dX12_head_68 : decode cX12_head 68 = .ok (.invokevirtual 154, 3) := dkg_X12_276.2.2.2.2.2.2.2.1
theorem dX12_head_71 : decode cX12_head 71 = .ok (.ireturn, 1) := dkg_X12_276.2.2.2.2.2.2.2.2.1
theorem dX12_head_72 : decode cX12_head 72 = .ok (.aload_n 0, 1) := dkg_X12_276.2.2.2.2.2.2.2.2.2.1
theorem dkg_X12_277 : dkp cX12_head [(73, .iload_n 2, 1), (74, .putfield 234, 3), (77, .iconst 0, 1), (78, .istore 4, 2), (80, .iload 4, 2), (82, .iload_n 2, 1), (83, .if_icmp .ge 32, 3), (86, .aload_n 0, 1), (87, .getfield 61, 3), (90, .iload 4, 2)] := dkf (by decide +kernel)
theorem dX12_head_73 : decode cX12_head 73 = .ok (.iload_n 2, 1) := dkg_X12_277.1
theorem dX12_head_74 : decode cX12_head 74 = .ok (.putfield 234, 3) := dkg_X12_277.2.1
theorem dX12_head_77 : decode cX12_head 77 = .ok (.iconst 0, 1) := dkg_X12_277.2.2.1
theorem dX12_head_78 : decode cX12_head 78 = .ok (.istore 4, 2) := dkg_X12_277.2.2.2.1
theorem dX12_head_80 : decode cX12_head 80 = .ok (.iload 4, 2) := dkg_X12_277.2.2.2.2.1
theorem dX12_head_82 : decode cX12_head 82 = .ok (.iload_n 2, 1) := dkg_X12_277.2.2.2.2.2.1
theorem dX12_head_83 : decode cX12_head 83 = .ok (.if_icmp .ge 32, 3) := dkg_X12_277.2.2.2.2.2.2.1
theorem dX12_head_86 : decode cX12_head 86 = .ok (.aload_n 0, 1) := dkg_X12_277.2.2.2.2.2.2.2.1
theorem dX12_head_87 : decode cX12_head 87 = .ok (.getfield 61, 3) := dkg_X12_277.2.2.2.2.2.2.2.2.1
theorem dX12_head_90 : decode cX12_head 90 = .ok (.iload 4, 2) := dkg_X12_277.2.2.2.2.2.2.2.2.2.1
theorem dkg_X12_278 : dkp cX12_head [(92, .aload_n 0, 1), (93, .getfield 13, 3), (96, .iload 4, 2), (98, .iaload, 1), (99, .iastore, 1), (100, .aload_n 0, 1), (101, .getfield 64, 3), (104, .iload 4, 2), (106, .iload 4, 2), (108, .iastore, 1)] := dkf (by decide +kernel)
theorem dX12_head_92 : decode cX12_head 92 = .ok (.aload_n 0, 1) := dkg_X12_278.1
theorem dX12_head_93 : decode cX12_head 93 = .ok (.getfield 13, 3) := dkg_X12_278.2.1
theorem dX12_head_96 : decode cX12_head 96 = .ok (.iload 4, 2) := dkg_X12_278.2.2.1
theorem dX12_head_98 : decode cX12_head 98 = .ok (.iaload, 1) := dkg_X12_278.2.2.2.1
theorem dX12_head_99 : decode cX12_head 99 = .ok (.iastore, 1) := dkg_X12_278.2.2.2.2.1
theorem dX12_head_100 : decode cX12_head 100 = .ok (.aload_n 0, 1) := dkg_X12_278.2.2.2.2.2.1
theorem dX12_head_101 : decode cX12_head 101 = .ok (.getfield 64, 3) := dkg_X12_278.2.2.2.2.2.2.1
theorem dX12_head_104 : decode cX12_head 104 = .ok (.iload 4, 2) := dkg_X12_278.2.2.2.2.2.2.2.1
theorem dX12_head_106 : decode cX12_head 106 = .ok (.iload 4, 2) := dkg_X12_278.2.2.2.2.2.2.2.2.1
theorem dX12_head_108 : decode cX12_head 108 = .ok (.iastore, 1) := dkg_X12_278.2.2.2.2.2.2.2.2.2.1
theorem dkg_X12_279 : dkp cX12_head [(109, .iinc 4 1, 3), (112, .goto (-32), 3), (115, .iload_n 2, 1), (116, .ifCond .ne 11, 3), (119, .aload_n 0, 1), (120, .iconst 0, 1), (121, .putfield 224, 3), (124, .goto 16, 3), (127, .aload_n 0, 1), (128, .iload_n 1, 1)] := dkf (by decide +kernel)
theorem dX12_head_109 : decode cX12_head 109 = .ok (.iinc 4 1, 3) := dkg_X12_279.1
theorem dX12_head_112 : decode cX12_head 112 = .ok (.goto (-32), 3) := dkg_X12_279.2.1
theorem dX12_head_115 : decode cX12_head 115 = .ok (.iload_n 2, 1) := dkg_X12_279.2.2.1
theorem dX12_head_116 : decode cX12_head 116 = .ok (.ifCond .ne 11, 3) := dkg_X12_279.2.2.2.1
theorem dX12_head_119 : decode cX12_head 119 = .ok (.aload_n 0, 1) := dkg_X12_279.2.2.2.2.1
theorem dX12_head_120 : decode cX12_head 120 = .ok (.iconst 0, 1) := dkg_X12_279.2.2.2.2.2.1
theorem dX12_head_121 : decode cX12_head 121 = .ok (.putfield 224, 3) := dkg_X12_279.2.2.2.2.2.2.1
theorem dX12_head_124 : decode cX12_head 124 = .ok (.goto 16, 3) := dkg_X12_279.2.2.2.2.2.2.2.1
theorem dX12_head_127 : decode cX12_head 127 = .ok (.aload_n 0, 1) := dkg_X12_279.2.2.2.2.2.2.2.2.1
theorem dX12_head_128 : decode cX12_head 128 = .ok (.iload_n 1, 1) := dkg_X12_279.2.2.2.2.2.2.2.2.2.1
theorem dkg_X12_280 : dkp cX12_head [(129, .invokevirtual 267, 3), (132, .ifCond .ne 8, 3), (135, .aload_n 0, 1), (136, .invokevirtual 270, 3), (139, .ireturn, 1), (140, .aload_n 0, 1), (141, .aload_n 0, 1), (142, .getfield 224, 3), (145, .aload_n 0, 1), (146, .getfield 82, 3)] := dkf (by decide +kernel)
theorem dX12_head_129 : decode cX12_head 129 = .ok (.invokevirtual 267, 3) := dkg_X12_280.1
theorem dX12_head_132 : decode cX12_head 132 = .ok (.ifCond .ne 8, 3) := dkg_X12_280.2.1
theorem dX12_head_135 : decode cX12_head 135 = .ok (.aload_n 0, 1) := dkg_X12_280.2.2.1
theorem dX12_head_136 : decode cX12_head 136 = .ok (.invokevirtual 270, 3) := dkg_X12_280.2.2.2.1
theorem dX12_head_139 : decode cX12_head 139 = .ok (.ireturn, 1) := dkg_X12_280.2.2.2.2.1
theorem dX12_head_140 : decode cX12_head 140 = .ok (.aload_n 0, 1) := dkg_X12_280.2.2.2.2.2.1
theorem dX12_head_141 : decode cX12_head 141 = .ok (.aload_n 0, 1) := dkg_X12_280.2.2.2.2.2.2.1
theorem dX12_head_142 : decode cX12_head 142 = .ok (.getfield 224, 3) := dkg_X12_280.2.2.2.2.2.2.2.1
theorem dX12_head_145 : decode cX12_head 145 = .ok (.aload_n 0, 1) := dkg_X12_280.2.2.2.2.2.2.2.2.1
theorem dX12_head_146 : decode cX12_head 146 = .ok (.getfield 82, 3) := dkg_X12_280.2.2.2.2.2.2.2.2.2.1
theorem dkg_X12_281 : dkp cX12_head [(149, .invokestatic 282, 3), (152, .putfield 285, 3), (155, .iconst 0, 1), (156, .istore 4, 2), (158, .iload 4, 2), (160, .aload_n 0, 1), (161, .getfield 285, 3), (164, .if_icmp .ge 23, 3), (167, .aload_n 0, 1), (168, .getfield 104, 3)] := dkf (by decide +kernel)
theorem dX12_head_149 : decode cX12_head 149 = .ok (.invokestatic 282, 3) := dkg_X12_281.1
theorem dX12_head_152 : decode cX12_head 152 = .ok (.putfield 285, 3) := dkg_X12_281.2.1
theorem dX12_head_155 : decode cX12_head 155 = .ok (.iconst 0, 1) := dkg_X12_281.2.2.1
theorem dX12_head_156 : decode cX12_head 156 = .ok (.istore 4, 2) := dkg_X12_281.2.2.2.1
theorem dX12_head_158 : decode cX12_head 158 = .ok (.iload 4, 2) := dkg_X12_281.2.2.2.2.1
theorem dX12_head_160 : decode cX12_head 160 = .ok (.aload_n 0, 1) := dkg_X12_281.2.2.2.2.2.1
theorem dX12_head_161 : decode cX12_head 161 = .ok (.getfield 285, 3) := dkg_X12_281.2.2.2.2.2.2.1
theorem dX12_head_164 : decode cX12_head 164 = .ok (.if_icmp .ge 23, 3) := dkg_X12_281.2.2.2.2.2.2.2.1
theorem dX12_head_167 : decode cX12_head 167 = .ok (.aload_n 0, 1) := dkg_X12_281.2.2.2.2.2.2.2.2.1
theorem dX12_head_168 : decode cX12_head 168 = .ok (.getfield 104, 3) := dkg_X12_281.2.2.2.2.2.2.2.2.2.1
theorem dkg_X12_282 : dkp cX12_head [(171, .iload 4, 2), (173, .aload_n 0, 1), (174, .getfield 70, 3), (177, .iload 4, 2), (179, .iaload, 1), (180, .iastore, 1), (181, .iinc 4 1, 3), (184, .goto (-26), 3), (187, .aload_n 0, 1), (188, .aload_n 0, 1)] := dkf (by decide +kernel)
theorem dX12_head_171 : decode cX12_head 171 = .ok (.iload 4, 2) := dkg_X12_282.1
theorem dX12_head_173 : decode cX12_head 173 = .ok (.aload_n 0, 1) := dkg_X12_282.2.1
theorem dX12_head_174 : decode cX12_head 174 = .ok (.getfield 70, 3) := dkg_X12_282.2.2.1
theorem dX12_head_177 : decode cX12_head 177 = .ok (.iload 4, 2) := dkg_X12_282.2.2.2.1
theorem dX12_head_179 : decode cX12_head 179 = .ok (.iaload, 1) := dkg_X12_282.2.2.2.2.1
theorem dX12_head_180 : decode cX12_head 180 = .ok (.iastore, 1) := dkg_X12_282.2.2.2.2.2.1
theorem dX12_head_181 : decode cX12_head 181 = .ok (.iinc 4 1, 3) := dkg_X12_282.2.2.2.2.2.2.1
theorem dX12_head_184 : decode cX12_head 184 = .ok (.goto (-26), 3) := dkg_X12_282.2.2.2.2.2.2.2.1
theorem dX12_head_187 : decode cX12_head 187 = .ok (.aload_n 0, 1) := dkg_X12_282.2.2.2.2.2.2.2.2.1
theorem dX12_head_188 : decode cX12_head 188 = .ok (.aload_n 0, 1) := dkg_X12_282.2.2.2.2.2.2.2.2.2.1
theorem dkg_X12_283 : dkp cX12_head [(189, .getfield 285, 3), (192, .invokevirtual 158, 3), (195, .ireturn, 1)] := dkf (by decide +kernel)
theorem dX12_head_189 : decode cX12_head 189 = .ok (.getfield 285, 3) := dkg_X12_283.1
theorem dX12_head_192 : decode cX12_head 192 = .ok (.invokevirtual 158, 3) := dkg_X12_283.2.1
theorem dX12_head_195 : decode cX12_head 195 = .ok (.ireturn, 1) := dkg_X12_283.2.2.1
theorem dkg_X12_284 : dkp cX12_lines [(0, .aload_n 0, 1), (1, .getfield 279, 3), (4, .ireturn, 1)] := dkf (by decide +kernel)
theorem dX12_lines_0 : decode cX12_lines 0 = .ok (.aload_n 0, 1) := dkg_X12_284.1
theorem dX12_lines_1 : decode cX12_lines 1 = .ok (.getfield 279, 3) := dkg_X12_284.2.1
theorem dX12_lines_4 : decode cX12_lines 4 = .ok (.ireturn, 1) := dkg_X12_284.2.2.1
theorem dkg_X12_285 : dkp cX12_hasHead [(0, .aload_n 0, 1), (1, .getfield 285, 3), (4, .ifCond .le 15, 3), (7, .aload_n 0, 1), (8, .getfield 85, 3), (11, .iconst 2, 1), (12, .if_icmp .lt 7, 3), (15, .iconst 1, 1), (16, .goto 4, 3), (19, .iconst 0, 1)] := dkf (by decide +kernel)
theorem dX12_hasHead_0 : decode cX12_hasHead 0 = .ok (.aload_n 0, 1) := dkg_X12_285.1
theorem dX12_hasHead_1 : decode cX12_hasHead 1 = .ok (.getfield 285, 3) := dkg_X12_285.2.1
theorem dX12_hasHead_4 : decode cX12_hasHead 4 = .ok (.ifCond .le 15, 3) := dkg_X12_285.2.2.1
theorem dX12_hasHead_7 : decode cX12_hasHead 7 = .ok (.aload_n 0, 1) := dkg_X12_285.2.2.2.1
theorem dX12_hasHead_8 : decode cX12_hasHead 8 = .ok (.getfield 85, 3) := dkg_X12_285.2.2.2.2.1
theorem dX12_hasHead_11 : decode cX12_hasHead 11 = .ok (.iconst 2, 1) := dkg_X12_285.2.2.2.2.2.1
theorem dX12_hasHead_12 : decode cX12_hasHead 12 = .ok (.if_icmp .lt 7, 3) := dkg_X12_285.2.2.2.2.2.2.1
theorem dX12_hasHead_15 : decode cX12_hasHead 15 = .ok (.iconst 1, 1) := dkg_X12_285.2.2.2.2.2.2.2.1
theorem dX12_hasHead_16 : decode cX12_hasHead 16 = .ok (.goto 4, 3) := dkg_X12_285.2.2.2.2.2.2.2.2.1
theorem dX12_hasHead_19 : decode cX12_hasHead 19 = .ok (.iconst 0, 1) := dkg_X12_285.2.2.2.2.2.2.2.2.2.1
theorem dkg_X12_286 : dkp cX12_hasHead [(20, .ireturn, 1)] := dkf (by decide +kernel)
theorem dX12_hasHead_20 : decode cX12_hasHead 20 = .ok (.ireturn, 1) := dkg_X12_286.1
theorem dkg_X12_287 : dkp cX12_onPage [(0, .aload_n 0, 1), (1, .invokevirtual 288, 3), (4, .ifCond .eq 12, 3), (7, .aload_n 0, 1), (8, .getfield 85, 3), (11, .iconst 1, 1), (12, .isub, 1), (13, .goto 7, 3), (16, .aload_n 0, 1), (17, .getfield 85, 3)] := dkf (by decide +kernel)
theorem dX12_onPage_0 : decode cX12_onPage 0 = .ok (.aload_n 0, 1) := dkg_X12_287.1
theorem dX12_onPage_1 : decode cX12_onPage 1 = .ok (.invokevirtual 288, 3) := dkg_X12_287.2.1
theorem dX12_onPage_4 : decode cX12_onPage 4 = .ok (.ifCond .eq 12, 3) := dkg_X12_287.2.2.1
theorem dX12_onPage_7 : decode cX12_onPage 7 = .ok (.aload_n 0, 1) := dkg_X12_287.2.2.2.1
theorem dX12_onPage_8 : decode cX12_onPage 8 = .ok (.getfield 85, 3) := dkg_X12_287.2.2.2.2.1
theorem dX12_onPage_11 : decode cX12_onPage 11 = .ok (.iconst 1, 1) := dkg_X12_287.2.2.2.2.2.1
theorem dX12_onPage_12 : decode cX12_onPage 12 = .ok (.isub, 1) := dkg_X12_287.2.2.2.2.2.2.1
theorem dX12_onPage_13 : decode cX12_onPage 13 = .ok (.goto 7, 3) := dkg_X12_287.2.2.2.2.2.2.2.1
theorem dX12_onPage_16 : decode cX12_onPage 16 = .ok (.aload_n 0, 1) := dkg_X12_287.2.2.2.2.2.2.2.2.1
theorem dX12_onPage_17 : decode cX12_onPage 17 = .ok (.getfield 85, 3) := dkg_X12_287.2.2.2.2.2.2.2.2.2.1
theorem dkg_X12_288 : dkp cX12_onPage [(20, .ireturn, 1)] := dkf (by decide +kernel)
theorem dX12_onPage_20 : decode cX12_onPage 20 = .ok (.ireturn, 1) := dkg_X12_288.1
theorem dkg_X12_289 : dkp cX12_pages [(0, .aload_n 0, 1), (1, .getfield 279, 3), (4, .aload_n 0, 1), (5, .invokevirtual 291, 3), (8, .iadd, 1), (9, .iconst 1, 1), (10, .isub, 1), (11, .aload_n 0, 1), (12, .invokevirtual 291, 3), (15, .idiv, 1)] := dkf (by decide +kernel)
theorem dX12_pages_0 : decode cX12_pages 0 = .ok (.aload_n 0, 1) := dkg_X12_289.1
theorem dX12_pages_1 : decode cX12_pages 1 = .ok (.getfield 279, 3) := dkg_X12_289.2.1
theorem dX12_pages_4 : decode cX12_pages 4 = .ok (.aload_n 0, 1) := dkg_X12_289.2.2.1
theorem dX12_pages_5 : decode cX12_pages 5 = .ok (.invokevirtual 291, 3) := dkg_X12_289.2.2.2.1
theorem dX12_pages_8 : decode cX12_pages 8 = .ok (.iadd, 1) := dkg_X12_289.2.2.2.2.1
theorem dX12_pages_9 : decode cX12_pages 9 = .ok (.iconst 1, 1) := dkg_X12_289.2.2.2.2.2.1
theorem dX12_pages_10 : decode cX12_pages 10 = .ok (.isub, 1) := dkg_X12_289.2.2.2.2.2.2.1
theorem dX12_pages_11 : decode cX12_pages 11 = .ok (.aload_n 0, 1) := dkg_X12_289.2.2.2.2.2.2.2.1
theorem dX12_pages_12 : decode cX12_pages 12 = .ok (.invokevirtual 291, 3) := dkg_X12_289.2.2.2.2.2.2.2.2.1
theorem dX12_pages_15 : decode cX12_pages 15 = .ok (.idiv, 1) := dkg_X12_289.2.2.2.2.2.2.2.2.2.1
theorem dkg_X12_290 : dkp cX12_pages [(16, .ireturn, 1)] := dkf (by decide +kernel)
theorem dX12_pages_16 : decode cX12_pages 16 = .ok (.ireturn, 1) := dkg_X12_290.1
theorem dkg_X12_291 : dkp cX12_lineFault [(0, .iload_n 1, 1), (1, .iconst 0, 1), (2, .aload_n 0, 1), (3, .getfield 279, 3), (6, .iconst 1, 1), (7, .isub, 1), (8, .invokestatic 174, 3), (11, .ifCond .ne 7, 3), (14, .iconst 2, 1), (15, .goto 17, 3)] := dkf (by decide +kernel)
theorem dX12_lineFault_0 : decode cX12_lineFault 0 = .ok (.iload_n 1, 1) := dkg_X12_291.1
theorem dX12_lineFault_1 : decode cX12_lineFault 1 = .ok (.iconst 0, 1) := dkg_X12_291.2.1
theorem dX12_lineFault_2 : decode cX12_lineFault 2 = .ok (.aload_n 0, 1) := dkg_X12_291.2.2.1
theorem dX12_lineFault_3 : decode cX12_lineFault 3 = .ok (.getfield 279, 3) := dkg_X12_291.2.2.2.1
theorem dX12_lineFault_6 : decode cX12_lineFault 6 = .ok (.iconst 1, 1) := dkg_X12_291.2.2.2.2.1
theorem dX12_lineFault_7 : decode cX12_lineFault 7 = .ok (.isub, 1) := dkg_X12_291.2.2.2.2.2.1
theorem dX12_lineFault_8 : decode cX12_lineFault 8 = .ok (.invokestatic 174, 3) := dkg_X12_291.2.2.2.2.2.2.1
theorem dX12_lineFault_11 : decode cX12_lineFault 11 = .ok (.ifCond .ne 7, 3) := dkg_X12_291.2.2.2.2.2.2.2.1
theorem dX12_lineFault_14 : decode cX12_lineFault 14 = .ok (.iconst 2, 1) := dkg_X12_291.2.2.2.2.2.2.2.2.1
theorem dX12_lineFault_15 : decode cX12_lineFault 15 = .ok (.goto 17, 3) := dkg_X12_291.2.2.2.2.2.2.2.2.2.1
theorem dkg_X12_292 : dkp cX12_lineFault [(18, .aload_n 0, 1), (19, .getfield 91, 3), (22, .iload_n 1, 1), (23, .iaload, 1), (24, .ifCond .ge 7, 3), (27, .iconst 1, 1), (28, .goto 4, 3), (31, .iconst 0, 1), (32, .ireturn, 1)] := dkf (by decide +kernel)
theorem dX12_lineFault_18 : decode cX12_lineFault 18 = .ok (.aload_n 0, 1) := dkg_X12_292.1
theorem dX12_lineFault_19 : decode cX12_lineFault 19 = .ok (.getfield 91, 3) := dkg_X12_292.2.1
theorem dX12_lineFault_22 : decode cX12_lineFault 22 = .ok (.iload_n 1, 1) := dkg_X12_292.2.2.1
theorem dX12_lineFault_23 : decode cX12_lineFault 23 = .ok (.iaload, 1) := dkg_X12_292.2.2.2.1
theorem dX12_lineFault_24 : decode cX12_lineFault 24 = .ok (.ifCond .ge 7, 3) := dkg_X12_292.2.2.2.2.1
theorem dX12_lineFault_27 : decode cX12_lineFault 27 = .ok (.iconst 1, 1) := dkg_X12_292.2.2.2.2.2.1
theorem dX12_lineFault_28 : decode cX12_lineFault 28 = .ok (.goto 4, 3) := dkg_X12_292.2.2.2.2.2.2.1
theorem dX12_lineFault_31 : decode cX12_lineFault 31 = .ok (.iconst 0, 1) := dkg_X12_292.2.2.2.2.2.2.2.1
theorem dX12_lineFault_32 : decode cX12_lineFault 32 = .ok (.ireturn, 1) := dkg_X12_292.2.2.2.2.2.2.2.2.1
theorem dkg_X12_293 : dkp cX12_length [(0, .aload_n 0, 1), (1, .iload_n 1, 1), (2, .invokevirtual 294, 3), (5, .ifCond .le 15, 3), (8, .aload_n 0, 1), (9, .aload_n 0, 1), (10, .iload_n 1, 1), (11, .invokevirtual 294, 3), (14, .invokevirtual 154, 3), (17, .goto 13, 3)] := dkf (by decide +kernel)
theorem dX12_length_0 : decode cX12_length 0 = .ok (.aload_n 0, 1) := dkg_X12_293.1
theorem dX12_length_1 : decode cX12_length 1 = .ok (.iload_n 1, 1) := dkg_X12_293.2.1
theorem dX12_length_2 : decode cX12_length 2 = .ok (.invokevirtual 294, 3) := dkg_X12_293.2.2.1
theorem dX12_length_5 : decode cX12_length 5 = .ok (.ifCond .le 15, 3) := dkg_X12_293.2.2.2.1
theorem dX12_length_8 : decode cX12_length 8 = .ok (.aload_n 0, 1) := dkg_X12_293.2.2.2.2.1
theorem dX12_length_9 : decode cX12_length 9 = .ok (.aload_n 0, 1) := dkg_X12_293.2.2.2.2.2.1
theorem dX12_length_10 : decode cX12_length 10 = .ok (.iload_n 1, 1) := dkg_X12_293.2.2.2.2.2.2.1
theorem dX12_length_11 : decode cX12_length 11 = .ok (.invokevirtual 294, 3) := dkg_X12_293.2.2.2.2.2.2.2.1
theorem dX12_length_14 : decode cX12_length 14 = .ok (.invokevirtual 154, 3) := dkg_X12_293.2.2.2.2.2.2.2.2.1
theorem dX12_length_17 : decode cX12_length 17 = .ok (.goto 13, 3) := dkg_X12_293.2.2.2.2.2.2.2.2.2.1
theorem dkg_X12_294 : dkp cX12_length [(20, .aload_n 0, 1), (21, .aload_n 0, 1), (22, .getfield 91, 3), (25, .iload_n 1, 1), (26, .iaload, 1), (27, .invokevirtual 158, 3), (30, .ireturn, 1)] := dkf (by decide +kernel)
theorem dX12_length_20 : decode cX12_length 20 = .ok (.aload_n 0, 1) := dkg_X12_294.1
theorem dX12_length_21 : decode cX12_length 21 = .ok (.aload_n 0, 1) := dkg_X12_294.2.1
theorem dX12_length_22 : decode cX12_length 22 = .ok (.getfield 91, 3) := dkg_X12_294.2.2.1
theorem dX12_length_25 : decode cX12_length 25 = .ok (.iload_n 1, 1) := dkg_X12_294.2.2.2.1
theorem dX12_length_26 : decode cX12_length 26 = .ok (.iaload, 1) := dkg_X12_294.2.2.2.2.1
theorem dX12_length_27 : decode cX12_length 27 = .ok (.invokevirtual 158, 3) := dkg_X12_294.2.2.2.2.2.1
theorem dX12_length_30 : decode cX12_length 30 = .ok (.ireturn, 1) := dkg_X12_294.2.2.2.2.2.2.1
theorem dkg_X12_295 : dkp cX12_cell [(0, .aload_n 0, 1), (1, .iload_n 1, 1), (2, .invokevirtual 294, 3), (5, .ifCond .le 13, 3), (8, .aload_n 0, 1), (9, .aload_n 0, 1), (10, .iload_n 1, 1), (11, .invokevirtual 294, 3), (14, .invokevirtual 154, 3), (17, .ireturn, 1)] := dkf (by decide +kernel)
theorem dX12_cell_0 : decode cX12_cell 0 = .ok (.aload_n 0, 1) := dkg_X12_295.1
theorem dX12_cell_1 : decode cX12_cell 1 = .ok (.iload_n 1, 1) := dkg_X12_295.2.1
theorem dX12_cell_2 : decode cX12_cell 2 = .ok (.invokevirtual 294, 3) := dkg_X12_295.2.2.1
theorem dX12_cell_5 : decode cX12_cell 5 = .ok (.ifCond .le 13, 3) := dkg_X12_295.2.2.2.1
theorem dX12_cell_8 : decode cX12_cell 8 = .ok (.aload_n 0, 1) := dkg_X12_295.2.2.2.2.1
theorem dX12_cell_9 : decode cX12_cell 9 = .ok (.aload_n 0, 1) := dkg_X12_295.2.2.2.2.2.1
theorem dX12_cell_10 : decode cX12_cell 10 = .ok (.iload_n 1, 1) := dkg_X12_295.2.2.2.2.2.2.1
theorem dX12_cell_11 : decode cX12_cell 11 = .ok (.invokevirtual 294, 3) := dkg_X12_295.2.2.2.2.2.2.2.1
theorem dX12_cell_14 : decode cX12_cell 14 = .ok (.invokevirtual 154, 3) := dkg_X12_295.2.2.2.2.2.2.2.2.1
theorem dX12_cell_17 : decode cX12_cell 17 = .ok (.ireturn, 1) := dkg_X12_295.2.2.2.2.2.2.2.2.2.1
theorem dkg_X12_296 : dkp cX12_cell [(18, .iload_n 2, 1), (19, .iconst 0, 1), (20, .aload_n 0, 1), (21, .getfield 91, 3), (24, .iload_n 1, 1), (25, .iaload, 1), (26, .iconst 1, 1), (27, .isub, 1), (28, .invokestatic 174, 3), (31, .ifCond .eq 22, 3)] := dkf (by decide +kernel)
theorem dX12_cell_18 : decode cX12_cell 18 = .ok (.iload_n 2, 1) := dkg_X12_296.1
theorem dX12_cell_19 : decode cX12_cell 19 = .ok (.iconst 0, 1) := dkg_X12_296.2.1
theorem dX12_cell_20 : decode cX12_cell 20 = .ok (.aload_n 0, 1) := dkg_X12_296.2.2.1
theorem dX12_cell_21 : decode cX12_cell 21 = .ok (.getfield 91, 3) := dkg_X12_296.2.2.2.1
theorem dX12_cell_24 : decode cX12_cell 24 = .ok (.iload_n 1, 1) := dkg_X12_296.2.2.2.2.1
theorem dX12_cell_25 : decode cX12_cell 25 = .ok (.iaload, 1) := dkg_X12_296.2.2.2.2.2.1
theorem dX12_cell_26 : decode cX12_cell 26 = .ok (.iconst 1, 1) := dkg_X12_296.2.2.2.2.2.2.1
theorem dX12_cell_27 : decode cX12_cell 27 = .ok (.isub, 1) := dkg_X12_296.2.2.2.2.2.2.2.1
theorem dX12_cell_28 : decode cX12_cell 28 = .ok (.invokestatic 174, 3) := dkg_X12_296.2.2.2.2.2.2.2.2.1
theorem dX12_cell_31 : decode cX12_cell 31 = .ok (.ifCond .eq 22, 3) := dkg_X12_296.2.2.2.2.2.2.2.2.2.1
theorem dkg_X12_297 : dkp cX12_cell [(34, .aload_n 0, 1), (35, .aload_n 0, 1), (36, .getfield 95, 3), (39, .sipush 200, 3), (42, .iload_n 1, 1), (43, .imul, 1), (44, .iload_n 2, 1), (45, .iadd, 1), (46, .iaload, 1), (47, .invokevirtual 158, 3)] := dkf (by decide +kernel)
theorem dX12_cell_34 : decode cX12_cell 34 = .ok (.aload_n 0, 1) := dkg_X12_297.1
theorem dX12_cell_35 : decode cX12_cell 35 = .ok (.aload_n 0, 1) := dkg_X12_297.2.1
theorem dX12_cell_36 : decode cX12_cell 36 = .ok (.getfield 95, 3) := dkg_X12_297.2.2.1
theorem dX12_cell_39 : decode cX12_cell 39 = .ok (.sipush 200, 3) := dkg_X12_297.2.2.2.1
theorem dX12_cell_42 : decode cX12_cell 42 = .ok (.iload_n 1, 1) := dkg_X12_297.2.2.2.2.1
theorem dX12_cell_43 : decode cX12_cell 43 = .ok (.imul, 1) := dkg_X12_297.2.2.2.2.2.1
theorem dX12_cell_44 : decode cX12_cell 44 = .ok (.iload_n 2, 1) := dkg_X12_297.2.2.2.2.2.2.1
theorem dX12_cell_45 : decode cX12_cell 45 = .ok (.iadd, 1) := dkg_X12_297.2.2.2.2.2.2.2.1
theorem dX12_cell_46 : decode cX12_cell 46 = .ok (.iaload, 1) := dkg_X12_297.2.2.2.2.2.2.2.2.1
theorem dX12_cell_47 : decode cX12_cell 47 = .ok (.invokevirtual 158, 3) := dkg_X12_297.2.2.2.2.2.2.2.2.2.1
theorem dkg_X12_298 : dkp cX12_cell [(50, .goto 8, 3), (53, .aload_n 0, 1), (54, .iconst 2, 1), (55, .invokevirtual 154, 3), (58, .ireturn, 1)] := dkf (by decide +kernel)
theorem dX12_cell_50 : decode cX12_cell 50 = .ok (.goto 8, 3) := dkg_X12_298.1
theorem dX12_cell_53 : decode cX12_cell 53 = .ok (.aload_n 0, 1) := dkg_X12_298.2.1
theorem dX12_cell_54 : decode cX12_cell 54 = .ok (.iconst 2, 1) := dkg_X12_298.2.2.1
theorem dX12_cell_55 : decode cX12_cell 55 = .ok (.invokevirtual 154, 3) := dkg_X12_298.2.2.2.1
theorem dX12_cell_58 : decode cX12_cell 58 = .ok (.ireturn, 1) := dkg_X12_298.2.2.2.2.1
theorem dkg_X12_299 : dkp cX12_page [(0, .iload_n 1, 1), (1, .iconst 0, 1), (2, .aload_n 0, 1), (3, .invokevirtual 297, 3), (6, .iconst 1, 1), (7, .isub, 1), (8, .invokestatic 174, 3), (11, .ifCond .ne 9, 3), (14, .aload_n 0, 1), (15, .iconst 2, 1)] := dkf (by decide +kernel)
theorem dX12_page_0 : decode cX12_page 0 = .ok (.iload_n 1, 1) := dkg_X12_299.1
theorem dX12_page_1 : decode cX12_page 1 = .ok (.iconst 0, 1) := dkg_X12_299.2.1
theorem dX12_page_2 : decode cX12_page 2 = .ok (.aload_n 0, 1) := dkg_X12_299.2.2.1
theorem dX12_page_3 : decode cX12_page 3 = .ok (.invokevirtual 297, 3) := dkg_X12_299.2.2.2.1
theorem dX12_page_6 : decode cX12_page 6 = .ok (.iconst 1, 1) := dkg_X12_299.2.2.2.2.1
theorem dX12_page_7 : decode cX12_page 7 = .ok (.isub, 1) := dkg_X12_299.2.2.2.2.2.1
theorem dX12_page_8 : decode cX12_page 8 = .ok (.invokestatic 174, 3) := dkg_X12_299.2.2.2.2.2.2.1
theorem dX12_page_11 : decode cX12_page 11 = .ok (.ifCond .ne 9, 3) := dkg_X12_299.2.2.2.2.2.2.2.1
theorem dX12_page_14 : decode cX12_page 14 = .ok (.aload_n 0, 1) := dkg_X12_299.2.2.2.2.2.2.2.2.1
theorem dX12_page_15 : decode cX12_page 15 = .ok (.iconst 2, 1) := dkg_X12_299.2.2.2.2.2.2.2.2.2.1
theorem dkg_X12_300 : dkp cX12_page [(16, .invokevirtual 154, 3), (19, .ireturn, 1), (20, .aload_n 0, 1), (21, .invokevirtual 288, 3), (24, .ifCond .eq 40, 3), (27, .iload_n 2, 1), (28, .ifCond .ne 36, 3), (31, .iload_n 3, 1), (32, .iconst 0, 1), (33, .aload_n 0, 1)] := dkf (by decide +kernel)
theorem dX12_page_16 : decode cX12_page 16 = .ok (.invokevirtual 154, 3) := dkg_X12_300.1
theorem dX12_page_19 : decode cX12_page 19 = .ok (.ireturn, 1) := dkg_X12_300.2.1
theorem dX12_page_20 : decode cX12_page 20 = .ok (.aload_n 0, 1) := dkg_X12_300.2.2.1
theorem dX12_page_21 : decode cX12_page 21 = .ok (.invokevirtual 288, 3) := dkg_X12_300.2.2.2.1
theorem dX12_page_24 : decode cX12_page 24 = .ok (.ifCond .eq 40, 3) := dkg_X12_300.2.2.2.2.1
theorem dX12_page_27 : decode cX12_page 27 = .ok (.iload_n 2, 1) := dkg_X12_300.2.2.2.2.2.1
theorem dX12_page_28 : decode cX12_page 28 = .ok (.ifCond .ne 36, 3) := dkg_X12_300.2.2.2.2.2.2.1
theorem dX12_page_31 : decode cX12_page 31 = .ok (.iload_n 3, 1) := dkg_X12_300.2.2.2.2.2.2.2.1
theorem dX12_page_32 : decode cX12_page 32 = .ok (.iconst 0, 1) := dkg_X12_300.2.2.2.2.2.2.2.2.1
theorem dX12_page_33 : decode cX12_page 33 = .ok (.aload_n 0, 1) := dkg_X12_300.2.2.2.2.2.2.2.2.2.1
theorem dkg_X12_301 : dkp cX12_page [(34, .getfield 285, 3), (37, .iconst 1, 1), (38, .isub, 1), (39, .invokestatic 174, 3), (42, .ifCond .eq 16, 3), (45, .aload_n 0, 1), (46, .aload_n 0, 1), (47, .getfield 104, 3), (50, .iload_n 3, 1), (51, .iaload, 1)] := dkf (by decide +kernel)
theorem dX12_page_34 : decode cX12_page 34 = .ok (.getfield 285, 3) := dkg_X12_301.1
theorem dX12_page_37 : decode cX12_page 37 = .ok (.iconst 1, 1) := dkg_X12_301.2.1
theorem dX12_page_38 : decode cX12_page 38 = .ok (.isub, 1) := dkg_X12_301.2.2.1
theorem dX12_page_39 : decode cX12_page 39 = .ok (.invokestatic 174, 3) := dkg_X12_301.2.2.2.1
theorem dX12_page_42 : decode cX12_page 42 = .ok (.ifCond .eq 16, 3) := dkg_X12_301.2.2.2.2.1
theorem dX12_page_45 : decode cX12_page 45 = .ok (.aload_n 0, 1) := dkg_X12_301.2.2.2.2.2.1
theorem dX12_page_46 : decode cX12_page 46 = .ok (.aload_n 0, 1) := dkg_X12_301.2.2.2.2.2.2.1
theorem dX12_page_47 : decode cX12_page 47 = .ok (.getfield 104, 3) := dkg_X12_301.2.2.2.2.2.2.2.1
theorem dX12_page_50 : decode cX12_page 50 = .ok (.iload_n 3, 1) := dkg_X12_301.2.2.2.2.2.2.2.2.1
theorem dX12_page_51 : decode cX12_page 51 = .ok (.iaload, 1) := dkg_X12_301.2.2.2.2.2.2.2.2.2.1
theorem dkg_X12_302 : dkp cX12_page [(52, .invokevirtual 158, 3), (55, .goto 8, 3), (58, .aload_n 0, 1), (59, .iconst 2, 1), (60, .invokevirtual 154, 3), (63, .ireturn, 1), (64, .aload_n 0, 1), (65, .invokevirtual 288, 3), (68, .ifCond .eq 9, 3), (71, .iload_n 2, 1)] := dkf (by decide +kernel)
theorem dX12_page_52 : decode cX12_page 52 = .ok (.invokevirtual 158, 3) := dkg_X12_302.1
theorem dX12_page_55 : decode cX12_page 55 = .ok (.goto 8, 3) := dkg_X12_302.2.1
theorem dX12_page_58 : decode cX12_page 58 = .ok (.aload_n 0, 1) := dkg_X12_302.2.2.1
theorem dX12_page_59 : decode cX12_page 59 = .ok (.iconst 2, 1) := dkg_X12_302.2.2.2.1
theorem dX12_page_60 : decode cX12_page 60 = .ok (.invokevirtual 154, 3) := dkg_X12_302.2.2.2.2.1
theorem dX12_page_63 : decode cX12_page 63 = .ok (.ireturn, 1) := dkg_X12_302.2.2.2.2.2.1
theorem dX12_page_64 : decode cX12_page 64 = .ok (.aload_n 0, 1) := dkg_X12_302.2.2.2.2.2.2.1
theorem dX12_page_65 : decode cX12_page 65 = .ok (.invokevirtual 288, 3) := dkg_X12_302.2.2.2.2.2.2.2.1
theorem dX12_page_68 : decode cX12_page 68 = .ok (.ifCond .eq 9, 3) := dkg_X12_302.2.2.2.2.2.2.2.2.1
theorem dX12_page_71 : decode cX12_page 71 = .ok (.iload_n 2, 1) := dkg_X12_302.2.2.2.2.2.2.2.2.2.1
theorem dkg_X12_303 : dkp cX12_page [(72, .iconst 1, 1), (73, .isub, 1), (74, .goto 4, 3), (77, .iload_n 2, 1), (78, .istore 4, 2), (80, .iload 4, 2), (82, .iconst 0, 1), (83, .aload_n 0, 1), (84, .invokevirtual 291, 3), (87, .iconst 1, 1)] := dkf (by decide +kernel)
theorem dX12_page_72 : decode cX12_page 72 = .ok (.iconst 1, 1) := dkg_X12_303.1
theorem dX12_page_73 : decode cX12_page 73 = .ok (.isub, 1) := dkg_X12_303.2.1
theorem dX12_page_74 : decode cX12_page 74 = .ok (.goto 4, 3) := dkg_X12_303.2.2.1
theorem dX12_page_77 : decode cX12_page 77 = .ok (.iload_n 2, 1) := dkg_X12_303.2.2.2.1
theorem dX12_page_78 : decode cX12_page 78 = .ok (.istore 4, 2) := dkg_X12_303.2.2.2.2.1
theorem dX12_page_80 : decode cX12_page 80 = .ok (.iload 4, 2) := dkg_X12_303.2.2.2.2.2.1
theorem dX12_page_82 : decode cX12_page 82 = .ok (.iconst 0, 1) := dkg_X12_303.2.2.2.2.2.2.1
theorem dX12_page_83 : decode cX12_page 83 = .ok (.aload_n 0, 1) := dkg_X12_303.2.2.2.2.2.2.2.1
theorem dX12_page_84 : decode cX12_page 84 = .ok (.invokevirtual 291, 3) := dkg_X12_303.2.2.2.2.2.2.2.2.1
theorem dX12_page_87 : decode cX12_page 87 = .ok (.iconst 1, 1) := dkg_X12_303.2.2.2.2.2.2.2.2.2.1
theorem dkg_X12_304 : dkp cX12_page [(88, .isub, 1), (89, .invokestatic 174, 3), (92, .ifCond .ne 9, 3), (95, .aload_n 0, 1), (96, .iconst 2, 1), (97, .invokevirtual 154, 3), (100, .ireturn, 1), (101, .aload_n 0, 1), (102, .iload_n 1, 1), (103, .aload_n 0, 1)] := dkf (by decide +kernel)
theorem dX12_page_88 : decode cX12_page 88 = .ok (.isub, 1) := dkg_X12_304.1
theorem dX12_page_89 : decode cX12_page 89 = .ok (.invokestatic 174, 3) := dkg_X12_304.2.1
theorem dX12_page_92 : decode cX12_page 92 = .ok (.ifCond .ne 9, 3) := dkg_X12_304.2.2.1
theorem dX12_page_95 : decode cX12_page 95 = .ok (.aload_n 0, 1) := dkg_X12_304.2.2.2.1
theorem dX12_page_96 : decode cX12_page 96 = .ok (.iconst 2, 1) := dkg_X12_304.2.2.2.2.1
theorem dX12_page_97 : decode cX12_page 97 = .ok (.invokevirtual 154, 3) := dkg_X12_304.2.2.2.2.2.1
theorem dX12_page_100 : decode cX12_page 100 = .ok (.ireturn, 1) := dkg_X12_304.2.2.2.2.2.2.1
theorem dX12_page_101 : decode cX12_page 101 = .ok (.aload_n 0, 1) := dkg_X12_304.2.2.2.2.2.2.2.1
theorem dX12_page_102 : decode cX12_page 102 = .ok (.iload_n 1, 1) := dkg_X12_304.2.2.2.2.2.2.2.2.1
theorem dX12_page_103 : decode cX12_page 103 = .ok (.aload_n 0, 1) := dkg_X12_304.2.2.2.2.2.2.2.2.2.1
theorem dkg_X12_305 : dkp cX12_page [(104, .invokevirtual 291, 3), (107, .imul, 1), (108, .iload 4, 2), (110, .iadd, 1), (111, .iload_n 3, 1), (112, .invokevirtual 300, 3), (115, .ireturn, 1)] := dkf (by decide +kernel)
theorem dX12_page_104 : decode cX12_page 104 = .ok (.invokevirtual 291, 3) := dkg_X12_305.1
theorem dX12_page_107 : decode cX12_page 107 = .ok (.imul, 1) := dkg_X12_305.2.1
theorem dX12_page_108 : decode cX12_page 108 = .ok (.iload 4, 2) := dkg_X12_305.2.2.1
theorem dX12_page_110 : decode cX12_page 110 = .ok (.iadd, 1) := dkg_X12_305.2.2.2.1
theorem dX12_page_111 : decode cX12_page 111 = .ok (.iload_n 3, 1) := dkg_X12_305.2.2.2.2.1
theorem dX12_page_112 : decode cX12_page 112 = .ok (.invokevirtual 300, 3) := dkg_X12_305.2.2.2.2.2.1
theorem dX12_page_115 : decode cX12_page 115 = .ok (.ireturn, 1) := dkg_X12_305.2.2.2.2.2.2.1
theorem dkg_X12_306 : dkp cX12_cut [(0, .iload_n 2, 1), (1, .sipush 200, 3), (4, .if_icmp .le 10, 3), (7, .aload_n 0, 1), (8, .bipush 6, 2), (10, .invokevirtual 154, 3), (13, .ireturn, 1), (14, .iload_n 2, 1), (15, .ifCond .ge 9, 3), (18, .aload_n 0, 1)] := dkf (by decide +kernel)
theorem dX12_cut_0 : decode cX12_cut 0 = .ok (.iload_n 2, 1) := dkg_X12_306.1
theorem dX12_cut_1 : decode cX12_cut 1 = .ok (.sipush 200, 3) := dkg_X12_306.2.1
theorem dX12_cut_4 : decode cX12_cut 4 = .ok (.if_icmp .le 10, 3) := dkg_X12_306.2.2.1
theorem dX12_cut_7 : decode cX12_cut 7 = .ok (.aload_n 0, 1) := dkg_X12_306.2.2.2.1
theorem dX12_cut_8 : decode cX12_cut 8 = .ok (.bipush 6, 2) := dkg_X12_306.2.2.2.2.1
theorem dX12_cut_10 : decode cX12_cut 10 = .ok (.invokevirtual 154, 3) := dkg_X12_306.2.2.2.2.2.1
theorem dX12_cut_13 : decode cX12_cut 13 = .ok (.ireturn, 1) := dkg_X12_306.2.2.2.2.2.2.1
theorem dX12_cut_14 : decode cX12_cut 14 = .ok (.iload_n 2, 1) := dkg_X12_306.2.2.2.2.2.2.2.1
theorem dX12_cut_15 : decode cX12_cut 15 = .ok (.ifCond .ge 9, 3) := dkg_X12_306.2.2.2.2.2.2.2.2.1
theorem dX12_cut_18 : decode cX12_cut 18 = .ok (.aload_n 0, 1) := dkg_X12_306.2.2.2.2.2.2.2.2.2.1
theorem dkg_X12_307 : dkp cX12_cut [(19, .iconst 5, 1), (20, .invokevirtual 154, 3), (23, .ireturn, 1), (24, .aload_n 0, 1), (25, .iload_n 1, 1), (26, .invokevirtual 294, 3), (29, .ifCond .le 13, 3), (32, .aload_n 0, 1), (33, .aload_n 0, 1), (34, .iload_n 1, 1)] := dkf (by decide +kernel)
theorem dX12_cut_19 : decode cX12_cut 19 = .ok (.iconst 5, 1) := dkg_X12_307.1
theorem dX12_cut_20 : decode cX12_cut 20 = .ok (.invokevirtual 154, 3) := dkg_X12_307.2.1
theorem dX12_cut_23 : decode cX12_cut 23 = .ok (.ireturn, 1) := dkg_X12_307.2.2.1
theorem dX12_cut_24 : decode cX12_cut 24 = .ok (.aload_n 0, 1) := dkg_X12_307.2.2.2.1
theorem dX12_cut_25 : decode cX12_cut 25 = .ok (.iload_n 1, 1) := dkg_X12_307.2.2.2.2.1
theorem dX12_cut_26 : decode cX12_cut 26 = .ok (.invokevirtual 294, 3) := dkg_X12_307.2.2.2.2.2.1
theorem dX12_cut_29 : decode cX12_cut 29 = .ok (.ifCond .le 13, 3) := dkg_X12_307.2.2.2.2.2.2.1
theorem dX12_cut_32 : decode cX12_cut 32 = .ok (.aload_n 0, 1) := dkg_X12_307.2.2.2.2.2.2.2.1
theorem dX12_cut_33 : decode cX12_cut 33 = .ok (.aload_n 0, 1) := dkg_X12_307.2.2.2.2.2.2.2.2.1
theorem dX12_cut_34 : decode cX12_cut 34 = .ok (.iload_n 1, 1) := dkg_X12_307.2.2.2.2.2.2.2.2.2.1
theorem dkg_X12_308 : dkp cX12_cut [(35, .invokevirtual 294, 3), (38, .invokevirtual 154, 3), (41, .ireturn, 1), (42, .aload_n 0, 1), (43, .getfield 91, 3), (46, .iload_n 1, 1), (47, .iaload, 1), (48, .istore_n 3, 1), (49, .iload_n 3, 1), (50, .iload_n 2, 1)] := dkf (by decide +kernel)
theorem dX12_cut_35 : decode cX12_cut 35 = .ok (.invokevirtual 294, 3) := dkg_X12_308.1
theorem dX12_cut_38 : decode cX12_cut 38 = .ok (.invokevirtual 154, 3) := dkg_X12_308.2.1
theorem dX12_cut_41 : decode cX12_cut 41 = .ok (.ireturn, 1) := dkg_X12_308.2.2.1
theorem dX12_cut_42 : decode cX12_cut 42 = .ok (.aload_n 0, 1) := dkg_X12_308.2.2.2.1
theorem dX12_cut_43 : decode cX12_cut 43 = .ok (.getfield 91, 3) := dkg_X12_308.2.2.2.2.1
theorem dX12_cut_46 : decode cX12_cut 46 = .ok (.iload_n 1, 1) := dkg_X12_308.2.2.2.2.2.1
theorem dX12_cut_47 : decode cX12_cut 47 = .ok (.iaload, 1) := dkg_X12_308.2.2.2.2.2.2.1
theorem dX12_cut_48 : decode cX12_cut 48 = .ok (.istore_n 3, 1) := dkg_X12_308.2.2.2.2.2.2.2.1
theorem dX12_cut_49 : decode cX12_cut 49 = .ok (.iload_n 3, 1) := dkg_X12_308.2.2.2.2.2.2.2.2.1
theorem dX12_cut_50 : decode cX12_cut 50 = .ok (.iload_n 2, 1) := dkg_X12_308.2.2.2.2.2.2.2.2.2.1
theorem dkg_X12_309 : dkp cX12_cut [(51, .if_icmp .ge 22, 3), (54, .aload_n 0, 1), (55, .getfield 95, 3), (58, .sipush 200, 3), (61, .iload_n 1, 1), (62, .imul, 1), (63, .iload_n 3, 1), (64, .iadd, 1), (65, .iconst 0, 1), (66, .iastore, 1)] := dkf (by decide +kernel)
theorem dX12_cut_51 : decode cX12_cut 51 = .ok (.if_icmp .ge 22, 3) := dkg_X12_309.1
theorem dX12_cut_54 : decode cX12_cut 54 = .ok (.aload_n 0, 1) := dkg_X12_309.2.1
theorem dX12_cut_55 : decode cX12_cut 55 = .ok (.getfield 95, 3) := dkg_X12_309.2.2.1
theorem dX12_cut_58 : decode cX12_cut 58 = .ok (.sipush 200, 3) := dkg_X12_309.2.2.2.1
theorem dX12_cut_61 : decode cX12_cut 61 = .ok (.iload_n 1, 1) := dkg_X12_309.2.2.2.2.1
theorem dX12_cut_62 : decode cX12_cut 62 = .ok (.imul, 1) := dkg_X12_309.2.2.2.2.2.1
theorem dX12_cut_63 : decode cX12_cut 63 = .ok (.iload_n 3, 1) := dkg_X12_309.2.2.2.2.2.2.1
theorem dX12_cut_64 : decode cX12_cut 64 = .ok (.iadd, 1) := dkg_X12_309.2.2.2.2.2.2.2.1
theorem dX12_cut_65 : decode cX12_cut 65 = .ok (.iconst 0, 1) := dkg_X12_309.2.2.2.2.2.2.2.2.1
theorem dX12_cut_66 : decode cX12_cut 66 = .ok (.iastore, 1) := dkg_X12_309.2.2.2.2.2.2.2.2.2.1
theorem dkg_X12_310 : dkp cX12_cut [(67, .iinc 3 1, 3), (70, .goto (-21), 3), (73, .aload_n 0, 1), (74, .getfield 91, 3), (77, .iload_n 1, 1), (78, .iload_n 2, 1), (79, .iastore, 1), (80, .aload_n 0, 1), (81, .iload_n 2, 1), (82, .invokevirtual 158, 3)] := dkf (by decide +kernel)
theorem dX12_cut_67 : decode cX12_cut 67 = .ok (.iinc 3 1, 3) := dkg_X12_310.1
theorem dX12_cut_70 : decode cX12_cut 70 = .ok (.goto (-21), 3) := dkg_X12_310.2.1
theorem dX12_cut_73 : decode cX12_cut 73 = .ok (.aload_n 0, 1) := dkg_X12_310.2.2.1
theorem dX12_cut_74 : decode cX12_cut 74 = .ok (.getfield 91, 3) := dkg_X12_310.2.2.2.1
theorem dX12_cut_77 : decode cX12_cut 77 = .ok (.iload_n 1, 1) := dkg_X12_310.2.2.2.2.1
theorem dX12_cut_78 : decode cX12_cut 78 = .ok (.iload_n 2, 1) := dkg_X12_310.2.2.2.2.2.1
theorem dX12_cut_79 : decode cX12_cut 79 = .ok (.iastore, 1) := dkg_X12_310.2.2.2.2.2.2.1
theorem dX12_cut_80 : decode cX12_cut 80 = .ok (.aload_n 0, 1) := dkg_X12_310.2.2.2.2.2.2.2.1
theorem dX12_cut_81 : decode cX12_cut 81 = .ok (.iload_n 2, 1) := dkg_X12_310.2.2.2.2.2.2.2.2.1
theorem dX12_cut_82 : decode cX12_cut 82 = .ok (.invokevirtual 158, 3) := dkg_X12_310.2.2.2.2.2.2.2.2.2.1
theorem dkg_X12_311 : dkp cX12_cut [(85, .ireturn, 1)] := dkf (by decide +kernel)
theorem dX12_cut_85 : decode cX12_cut 85 = .ok (.ireturn, 1) := dkg_X12_311.1
theorem dkg_X12_312 : dkp cX12_lose [(0, .iload_n 1, 1), (1, .iconst 0, 1), (2, .aload_n 0, 1), (3, .getfield 279, 3), (6, .iconst 1, 1), (7, .isub, 1), (8, .invokestatic 174, 3), (11, .ifCond .ne 9, 3), (14, .aload_n 0, 1), (15, .iconst 2, 1)] := dkf (by decide +kernel)
theorem dX12_lose_0 : decode cX12_lose 0 = .ok (.iload_n 1, 1) := dkg_X12_312.1
theorem dX12_lose_1 : decode cX12_lose 1 = .ok (.iconst 0, 1) := dkg_X12_312.2.1
theorem dX12_lose_2 : decode cX12_lose 2 = .ok (.aload_n 0, 1) := dkg_X12_312.2.2.1
theorem dX12_lose_3 : decode cX12_lose 3 = .ok (.getfield 279, 3) := dkg_X12_312.2.2.2.1
theorem dX12_lose_6 : decode cX12_lose 6 = .ok (.iconst 1, 1) := dkg_X12_312.2.2.2.2.1
theorem dX12_lose_7 : decode cX12_lose 7 = .ok (.isub, 1) := dkg_X12_312.2.2.2.2.2.1
theorem dX12_lose_8 : decode cX12_lose 8 = .ok (.invokestatic 174, 3) := dkg_X12_312.2.2.2.2.2.2.1
theorem dX12_lose_11 : decode cX12_lose 11 = .ok (.ifCond .ne 9, 3) := dkg_X12_312.2.2.2.2.2.2.2.1
theorem dX12_lose_14 : decode cX12_lose 14 = .ok (.aload_n 0, 1) := dkg_X12_312.2.2.2.2.2.2.2.2.1
theorem dX12_lose_15 : decode cX12_lose 15 = .ok (.iconst 2, 1) := dkg_X12_312.2.2.2.2.2.2.2.2.2.1
theorem dkg_X12_313 : dkp cX12_lose [(16, .invokevirtual 154, 3), (19, .ireturn, 1), (20, .aload_n 0, 1), (21, .getfield 91, 3), (24, .iload_n 1, 1), (25, .iconst (-1), 1), (26, .iastore, 1), (27, .aload_n 0, 1), (28, .iconst 1, 1), (29, .invokevirtual 158, 3)] := dkf (by decide +kernel)
theorem dX12_lose_16 : decode cX12_lose 16 = .ok (.invokevirtual 154, 3) := dkg_X12_313.1
theorem dX12_lose_19 : decode cX12_lose 19 = .ok (.ireturn, 1) := dkg_X12_313.2.1
theorem dX12_lose_20 : decode cX12_lose 20 = .ok (.aload_n 0, 1) := dkg_X12_313.2.2.1
theorem dX12_lose_21 : decode cX12_lose 21 = .ok (.getfield 91, 3) := dkg_X12_313.2.2.2.1
theorem dX12_lose_24 : decode cX12_lose 24 = .ok (.iload_n 1, 1) := dkg_X12_313.2.2.2.2.1
theorem dX12_lose_25 : decode cX12_lose 25 = .ok (.iconst (-1), 1) := dkg_X12_313.2.2.2.2.2.1
theorem dX12_lose_26 : decode cX12_lose 26 = .ok (.iastore, 1) := dkg_X12_313.2.2.2.2.2.2.1
theorem dX12_lose_27 : decode cX12_lose 27 = .ok (.aload_n 0, 1) := dkg_X12_313.2.2.2.2.2.2.2.1
theorem dX12_lose_28 : decode cX12_lose 28 = .ok (.iconst 1, 1) := dkg_X12_313.2.2.2.2.2.2.2.2.1
theorem dX12_lose_29 : decode cX12_lose 29 = .ok (.invokevirtual 158, 3) := dkg_X12_313.2.2.2.2.2.2.2.2.2.1
theorem dkg_X12_314 : dkp cX12_lose [(32, .ireturn, 1)] := dkf (by decide +kernel)
theorem dX12_lose_32 : decode cX12_lose 32 = .ok (.ireturn, 1) := dkg_X12_314.1
theorem dkg_X12_315 : dkp cX12_copyRow [(0, .iload_n 1, 1), (1, .iconst 0, 1), (2, .aload_n 0, 1), (3, .getfield 279, 3), (6, .iconst 1, 1), (7, .isub, 1), (8, .invokestatic 174, 3), (11, .ifCond .eq 17, 3), (14, .iload_n 3, 1), (15, .iconst 0, 1)] := dkf (by decide +kernel)
theorem dX12_copyRow_0 : decode cX12_copyRow 0 = .ok (.iload_n 1, 1) := dkg_X12_315.1
theorem dX12_copyRow_1 : decode cX12_copyRow 1 = .ok (.iconst 0, 1) := dkg_X12_315.2.1
theorem dX12_copyRow_2 : decode cX12_copyRow 2 = .ok (.aload_n 0, 1) := dkg_X12_315.2.2.1
theorem dX12_copyRow_3 : decode cX12_copyRow 3 = .ok (.getfield 279, 3) := dkg_X12_315.2.2.2.1
theorem dX12_copyRow_6 : decode cX12_copyRow 6 = .ok (.iconst 1, 1) := dkg_X12_315.2.2.2.2.1
theorem dX12_copyRow_7 : decode cX12_copyRow 7 = .ok (.isub, 1) := dkg_X12_315.2.2.2.2.2.1
theorem dX12_copyRow_8 : decode cX12_copyRow 8 = .ok (.invokestatic 174, 3) := dkg_X12_315.2.2.2.2.2.2.1
theorem dX12_copyRow_11 : decode cX12_copyRow 11 = .ok (.ifCond .eq 17, 3) := dkg_X12_315.2.2.2.2.2.2.2.1
theorem dX12_copyRow_14 : decode cX12_copyRow 14 = .ok (.iload_n 3, 1) := dkg_X12_315.2.2.2.2.2.2.2.2.1
theorem dX12_copyRow_15 : decode cX12_copyRow 15 = .ok (.iconst 0, 1) := dkg_X12_315.2.2.2.2.2.2.2.2.2.1
theorem dkg_X12_316 : dkp cX12_copyRow [(16, .aload_n 0, 1), (17, .getfield 279, 3), (20, .iconst 1, 1), (21, .isub, 1), (22, .invokestatic 174, 3), (25, .ifCond .ne 9, 3), (28, .aload_n 0, 1), (29, .iconst 2, 1), (30, .invokevirtual 154, 3), (33, .ireturn, 1)] := dkf (by decide +kernel)
theorem dX12_copyRow_16 : decode cX12_copyRow 16 = .ok (.aload_n 0, 1) := dkg_X12_316.1
theorem dX12_copyRow_17 : decode cX12_copyRow 17 = .ok (.getfield 279, 3) := dkg_X12_316.2.1
theorem dX12_copyRow_20 : decode cX12_copyRow 20 = .ok (.iconst 1, 1) := dkg_X12_316.2.2.1
theorem dX12_copyRow_21 : decode cX12_copyRow 21 = .ok (.isub, 1) := dkg_X12_316.2.2.2.1
theorem dX12_copyRow_22 : decode cX12_copyRow 22 = .ok (.invokestatic 174, 3) := dkg_X12_316.2.2.2.2.1
theorem dX12_copyRow_25 : decode cX12_copyRow 25 = .ok (.ifCond .ne 9, 3) := dkg_X12_316.2.2.2.2.2.1
theorem dX12_copyRow_28 : decode cX12_copyRow 28 = .ok (.aload_n 0, 1) := dkg_X12_316.2.2.2.2.2.2.1
theorem dX12_copyRow_29 : decode cX12_copyRow 29 = .ok (.iconst 2, 1) := dkg_X12_316.2.2.2.2.2.2.2.1
theorem dX12_copyRow_30 : decode cX12_copyRow 30 = .ok (.invokevirtual 154, 3) := dkg_X12_316.2.2.2.2.2.2.2.2.1
theorem dX12_copyRow_33 : decode cX12_copyRow 33 = .ok (.ireturn, 1) := dkg_X12_316.2.2.2.2.2.2.2.2.2.1
theorem dkg_X12_317 : dkp cX12_copyRow [(34, .aload_n 0, 1), (35, .getfield 91, 3), (38, .iload_n 1, 1), (39, .iaload, 1), (40, .ifCond .lt 12, 3), (43, .aload_n 0, 1), (44, .getfield 91, 3), (47, .iload_n 3, 1), (48, .iaload, 1), (49, .ifCond .ge 9, 3)] := dkf (by decide +kernel)
theorem dX12_copyRow_34 : decode cX12_copyRow 34 = .ok (.aload_n 0, 1) := dkg_X12_317.1
theorem dX12_copyRow_35 : decode cX12_copyRow 35 = .ok (.getfield 91, 3) := dkg_X12_317.2.1
theorem dX12_copyRow_38 : decode cX12_copyRow 38 = .ok (.iload_n 1, 1) := dkg_X12_317.2.2.1
theorem dX12_copyRow_39 : decode cX12_copyRow 39 = .ok (.iaload, 1) := dkg_X12_317.2.2.2.1
theorem dX12_copyRow_40 : decode cX12_copyRow 40 = .ok (.ifCond .lt 12, 3) := dkg_X12_317.2.2.2.2.1
theorem dX12_copyRow_43 : decode cX12_copyRow 43 = .ok (.aload_n 0, 1) := dkg_X12_317.2.2.2.2.2.1
theorem dX12_copyRow_44 : decode cX12_copyRow 44 = .ok (.getfield 91, 3) := dkg_X12_317.2.2.2.2.2.2.1
theorem dX12_copyRow_47 : decode cX12_copyRow 47 = .ok (.iload_n 3, 1) := dkg_X12_317.2.2.2.2.2.2.2.1
theorem dX12_copyRow_48 : decode cX12_copyRow 48 = .ok (.iaload, 1) := dkg_X12_317.2.2.2.2.2.2.2.2.1
theorem dX12_copyRow_49 : decode cX12_copyRow 49 = .ok (.ifCond .ge 9, 3) := dkg_X12_317.2.2.2.2.2.2.2.2.2.1
theorem dkg_X12_318 : dkp cX12_copyRow [(52, .aload_n 0, 1), (53, .iconst 1, 1), (54, .invokevirtual 154, 3), (57, .ireturn, 1), (58, .iload 5, 2), (60, .ifCond .lt 39, 3), (63, .iload_n 2, 1), (64, .ifCond .lt 35, 3), (67, .iload 4, 2), (69, .ifCond .lt 30, 3)] := dkf (by decide +kernel)
theorem dX12_copyRow_52 : decode cX12_copyRow 52 = .ok (.aload_n 0, 1) := dkg_X12_318.1
theorem dX12_copyRow_53 : decode cX12_copyRow 53 = .ok (.iconst 1, 1) := dkg_X12_318.2.1
theorem dX12_copyRow_54 : decode cX12_copyRow 54 = .ok (.invokevirtual 154, 3) := dkg_X12_318.2.2.1
theorem dX12_copyRow_57 : decode cX12_copyRow 57 = .ok (.ireturn, 1) := dkg_X12_318.2.2.2.1
theorem dX12_copyRow_58 : decode cX12_copyRow 58 = .ok (.iload 5, 2) := dkg_X12_318.2.2.2.2.1
theorem dX12_copyRow_60 : decode cX12_copyRow 60 = .ok (.ifCond .lt 39, 3) := dkg_X12_318.2.2.2.2.2.1
theorem dX12_copyRow_63 : decode cX12_copyRow 63 = .ok (.iload_n 2, 1) := dkg_X12_318.2.2.2.2.2.2.1
theorem dX12_copyRow_64 : decode cX12_copyRow 64 = .ok (.ifCond .lt 35, 3) := dkg_X12_318.2.2.2.2.2.2.2.1
theorem dX12_copyRow_67 : decode cX12_copyRow 67 = .ok (.iload 4, 2) := dkg_X12_318.2.2.2.2.2.2.2.2.1
theorem dX12_copyRow_69 : decode cX12_copyRow 69 = .ok (.ifCond .lt 30, 3) := dkg_X12_318.2.2.2.2.2.2.2.2.2.1
theorem dkg_X12_319 : dkp cX12_copyRow [(72, .iload 5, 2), (74, .aload_n 0, 1), (75, .getfield 91, 3), (78, .iload_n 1, 1), (79, .iaload, 1), (80, .iload_n 2, 1), (81, .isub, 1), (82, .if_icmp .gt 17, 3), (85, .iload 5, 2), (87, .aload_n 0, 1)] := dkf (by decide +kernel)
theorem dX12_copyRow_72 : decode cX12_copyRow 72 = .ok (.iload 5, 2) := dkg_X12_319.1
theorem dX12_copyRow_74 : decode cX12_copyRow 74 = .ok (.aload_n 0, 1) := dkg_X12_319.2.1
theorem dX12_copyRow_75 : decode cX12_copyRow 75 = .ok (.getfield 91, 3) := dkg_X12_319.2.2.1
theorem dX12_copyRow_78 : decode cX12_copyRow 78 = .ok (.iload_n 1, 1) := dkg_X12_319.2.2.2.1
theorem dX12_copyRow_79 : decode cX12_copyRow 79 = .ok (.iaload, 1) := dkg_X12_319.2.2.2.2.1
theorem dX12_copyRow_80 : decode cX12_copyRow 80 = .ok (.iload_n 2, 1) := dkg_X12_319.2.2.2.2.2.1
theorem dX12_copyRow_81 : decode cX12_copyRow 81 = .ok (.isub, 1) := dkg_X12_319.2.2.2.2.2.2.1
theorem dX12_copyRow_82 : decode cX12_copyRow 82 = .ok (.if_icmp .gt 17, 3) := dkg_X12_319.2.2.2.2.2.2.2.1
theorem dX12_copyRow_85 : decode cX12_copyRow 85 = .ok (.iload 5, 2) := dkg_X12_319.2.2.2.2.2.2.2.2.1
theorem dX12_copyRow_87 : decode cX12_copyRow 87 = .ok (.aload_n 0, 1) := dkg_X12_319.2.2.2.2.2.2.2.2.2.1
theorem dkg_X12_320 : dkp cX12_copyRow [(88, .getfield 91, 3), (91, .iload_n 3, 1), (92, .iaload, 1), (93, .iload 4, 2), (95, .isub, 1), (96, .if_icmp .le 9, 3), (99, .aload_n 0, 1), (100, .iconst 2, 1), (101, .invokevirtual 154, 3), (104, .ireturn, 1)] := dkf (by decide +kernel)
theorem dX12_copyRow_88 : decode cX12_copyRow 88 = .ok (.getfield 91, 3) := dkg_X12_320.1
theorem dX12_copyRow_91 : decode cX12_copyRow 91 = .ok (.iload_n 3, 1) := dkg_X12_320.2.1
theorem dX12_copyRow_92 : decode cX12_copyRow 92 = .ok (.iaload, 1) := dkg_X12_320.2.2.1
theorem dX12_copyRow_93 : decode cX12_copyRow 93 = .ok (.iload 4, 2) := dkg_X12_320.2.2.2.1
theorem dX12_copyRow_95 : decode cX12_copyRow 95 = .ok (.isub, 1) := dkg_X12_320.2.2.2.2.1
theorem dX12_copyRow_96 : decode cX12_copyRow 96 = .ok (.if_icmp .le 9, 3) := dkg_X12_320.2.2.2.2.2.1
theorem dX12_copyRow_99 : decode cX12_copyRow 99 = .ok (.aload_n 0, 1) := dkg_X12_320.2.2.2.2.2.2.1
theorem dX12_copyRow_100 : decode cX12_copyRow 100 = .ok (.iconst 2, 1) := dkg_X12_320.2.2.2.2.2.2.2.1
theorem dX12_copyRow_101 : decode cX12_copyRow 101 = .ok (.invokevirtual 154, 3) := dkg_X12_320.2.2.2.2.2.2.2.2.1
theorem dX12_copyRow_104 : decode cX12_copyRow 104 = .ok (.ireturn, 1) := dkg_X12_320.2.2.2.2.2.2.2.2.2.1
theorem dkg_X12_321 : dkp cX12_copyRow [(105, .sipush 200, 3), (108, .iload_n 1, 1), (109, .imul, 1), (110, .iload_n 2, 1), (111, .iadd, 1), (112, .istore 6, 2), (114, .sipush 200, 3), (117, .iload_n 3, 1), (118, .imul, 1), (119, .iload 4, 2)] := dkf (by decide +kernel)
theorem dX12_copyRow_105 : decode cX12_copyRow 105 = .ok (.sipush 200, 3) := dkg_X12_321.1
theorem dX12_copyRow_108 : decode cX12_copyRow 108 = .ok (.iload_n 1, 1) := dkg_X12_321.2.1
theorem dX12_copyRow_109 : decode cX12_copyRow 109 = .ok (.imul, 1) := dkg_X12_321.2.2.1
theorem dX12_copyRow_110 : decode cX12_copyRow 110 = .ok (.iload_n 2, 1) := dkg_X12_321.2.2.2.1
theorem dX12_copyRow_111 : decode cX12_copyRow 111 = .ok (.iadd, 1) := dkg_X12_321.2.2.2.2.1
theorem dX12_copyRow_112 : decode cX12_copyRow 112 = .ok (.istore 6, 2) := dkg_X12_321.2.2.2.2.2.1
theorem dX12_copyRow_114 : decode cX12_copyRow 114 = .ok (.sipush 200, 3) := dkg_X12_321.2.2.2.2.2.2.1
theorem dX12_copyRow_117 : decode cX12_copyRow 117 = .ok (.iload_n 3, 1) := dkg_X12_321.2.2.2.2.2.2.2.1
theorem dX12_copyRow_118 : decode cX12_copyRow 118 = .ok (.imul, 1) := dkg_X12_321.2.2.2.2.2.2.2.2.1
theorem dX12_copyRow_119 : decode cX12_copyRow 119 = .ok (.iload 4, 2) := dkg_X12_321.2.2.2.2.2.2.2.2.2.1
theorem dkg_X12_322 : dkp cX12_copyRow [(121, .iadd, 1), (122, .istore 7, 2), (124, .iload_n 1, 1), (125, .iload_n 3, 1), (126, .if_icmp .ne 13, 3), (129, .iload_n 2, 1), (130, .iload 4, 2), (132, .if_icmp .ge 7, 3), (135, .iconst 1, 1), (136, .goto 4, 3)] := dkf (by decide +kernel)
theorem dX12_copyRow_121 : decode cX12_copyRow 121 = .ok (.iadd, 1) := dkg_X12_322.1
theorem dX12_copyRow_122 : decode cX12_copyRow 122 = .ok (.istore 7, 2) := dkg_X12_322.2.1
theorem dX12_copyRow_124 : decode cX12_copyRow 124 = .ok (.iload_n 1, 1) := dkg_X12_322.2.2.1
theorem dX12_copyRow_125 : decode cX12_copyRow 125 = .ok (.iload_n 3, 1) := dkg_X12_322.2.2.2.1
theorem dX12_copyRow_126 : decode cX12_copyRow 126 = .ok (.if_icmp .ne 13, 3) := dkg_X12_322.2.2.2.2.1
theorem dX12_copyRow_129 : decode cX12_copyRow 129 = .ok (.iload_n 2, 1) := dkg_X12_322.2.2.2.2.2.1
theorem dX12_copyRow_130 : decode cX12_copyRow 130 = .ok (.iload 4, 2) := dkg_X12_322.2.2.2.2.2.2.1
theorem dX12_copyRow_132 : decode cX12_copyRow 132 = .ok (.if_icmp .ge 7, 3) := dkg_X12_322.2.2.2.2.2.2.2.1
theorem dX12_copyRow_135 : decode cX12_copyRow 135 = .ok (.iconst 1, 1) := dkg_X12_322.2.2.2.2.2.2.2.2.1
theorem dX12_copyRow_136 : decode cX12_copyRow 136 = .ok (.goto 4, 3) := dkg_X12_322.2.2.2.2.2.2.2.2.2.1
theorem dkg_X12_323 : dkp cX12_copyRow [(139, .iconst 0, 1), (140, .istore 8, 2), (142, .iconst 0, 1), (143, .istore 9, 2), (145, .iload 9, 2), (147, .iload 5, 2), (149, .if_icmp .ge 48, 3), (152, .iload 8, 2), (154, .ifCond .eq 13, 3), (157, .iload 5, 2)] := dkf (by decide +kernel)
theorem dX12_copyRow_139 : decode cX12_copyRow 139 = .ok (.iconst 0, 1) := dkg_X12_323.1
theorem dX12_copyRow_140 : decode cX12_copyRow 140 = .ok (.istore 8, 2) := dkg_X12_323.2.1
theorem dX12_copyRow_142 : decode cX12_copyRow 142 = .ok (.iconst 0, 1) := dkg_X12_323.2.2.1
theorem dX12_copyRow_143 : decode cX12_copyRow 143 = .ok (.istore 9, 2) := dkg_X12_323.2.2.2.1
theorem dX12_copyRow_145 : decode cX12_copyRow 145 = .ok (.iload 9, 2) := dkg_X12_323.2.2.2.2.1
theorem dX12_copyRow_147 : decode cX12_copyRow 147 = .ok (.iload 5, 2) := dkg_X12_323.2.2.2.2.2.1
theorem dX12_copyRow_149 : decode cX12_copyRow 149 = .ok (.if_icmp .ge 48, 3) := dkg_X12_323.2.2.2.2.2.2.1
theorem dX12_copyRow_152 : decode cX12_copyRow 152 = .ok (.iload 8, 2) := dkg_X12_323.2.2.2.2.2.2.2.1
theorem dX12_copyRow_154 : decode cX12_copyRow 154 = .ok (.ifCond .eq 13, 3) := dkg_X12_323.2.2.2.2.2.2.2.2.1
theorem dX12_copyRow_157 : decode cX12_copyRow 157 = .ok (.iload 5, 2) := dkg_X12_323.2.2.2.2.2.2.2.2.2.1
theorem dkg_X12_324 : dkp cX12_copyRow [(159, .iconst 1, 1), (160, .isub, 1), (161, .iload 9, 2), (163, .isub, 1), (164, .goto 5, 3), (167, .iload 9, 2), (169, .istore 10, 2), (171, .aload_n 0, 1), (172, .getfield 95, 3), (175, .iload 7, 2)] := dkf (by decide +kernel)
theorem dX12_copyRow_159 : decode cX12_copyRow 159 = .ok (.iconst 1, 1) := dkg_X12_324.1
theorem dX12_copyRow_160 : decode cX12_copyRow 160 = .ok (.isub, 1) := dkg_X12_324.2.1
theorem dX12_copyRow_161 : decode cX12_copyRow 161 = .ok (.iload 9, 2) := dkg_X12_324.2.2.1
theorem dX12_copyRow_163 : decode cX12_copyRow 163 = .ok (.isub, 1) := dkg_X12_324.2.2.2.1
theorem dX12_copyRow_164 : decode cX12_copyRow 164 = .ok (.goto 5, 3) := dkg_X12_324.2.2.2.2.1
theorem dX12_copyRow_167 : decode cX12_copyRow 167 = .ok (.iload 9, 2) := dkg_X12_324.2.2.2.2.2.1
theorem dX12_copyRow_169 : decode cX12_copyRow 169 = .ok (.istore 10, 2) := dkg_X12_324.2.2.2.2.2.2.1
theorem dX12_copyRow_171 : decode cX12_copyRow 171 = .ok (.aload_n 0, 1) := dkg_X12_324.2.2.2.2.2.2.2.1
theorem dX12_copyRow_172 : decode cX12_copyRow 172 = .ok (.getfield 95, 3) := dkg_X12_324.2.2.2.2.2.2.2.2.1
theorem dX12_copyRow_175 : decode cX12_copyRow 175 = .ok (.iload 7, 2) := dkg_X12_324.2.2.2.2.2.2.2.2.2.1
theorem dkg_X12_325 : dkp cX12_copyRow [(177, .iload 10, 2), (179, .iadd, 1), (180, .aload_n 0, 1), (181, .getfield 95, 3), (184, .iload 6, 2), (186, .iload 10, 2), (188, .iadd, 1), (189, .iaload, 1), (190, .iastore, 1), (191, .iinc 9 1, 3)] := dkf (by decide +kernel)
theorem dX12_copyRow_177 : decode cX12_copyRow 177 = .ok (.iload 10, 2) := dkg_X12_325.1
theorem dX12_copyRow_179 : decode cX12_copyRow 179 = .ok (.iadd, 1) := dkg_X12_325.2.1
theorem dX12_copyRow_180 : decode cX12_copyRow 180 = .ok (.aload_n 0, 1) := dkg_X12_325.2.2.1
theorem dX12_copyRow_181 : decode cX12_copyRow 181 = .ok (.getfield 95, 3) := dkg_X12_325.2.2.2.1
theorem dX12_copyRow_184 : decode cX12_copyRow 184 = .ok (.iload 6, 2) := dkg_X12_325.2.2.2.2.1
theorem dX12_copyRow_186 : decode cX12_copyRow 186 = .ok (.iload 10, 2) := dkg_X12_325.2.2.2.2.2.1
theorem dX12_copyRow_188 : decode cX12_copyRow 188 = .ok (.iadd, 1) := dkg_X12_325.2.2.2.2.2.2.1
theorem dX12_copyRow_189 : decode cX12_copyRow 189 = .ok (.iaload, 1) := dkg_X12_325.2.2.2.2.2.2.2.1
theorem dX12_copyRow_190 : decode cX12_copyRow 190 = .ok (.iastore, 1) := dkg_X12_325.2.2.2.2.2.2.2.2.1
theorem dX12_copyRow_191 : decode cX12_copyRow 191 = .ok (.iinc 9 1, 3) := dkg_X12_325.2.2.2.2.2.2.2.2.2.1
theorem dkg_X12_326 : dkp cX12_copyRow [(194, .goto (-49), 3), (197, .aload_n 0, 1), (198, .iload 5, 2), (200, .invokevirtual 158, 3), (203, .ireturn, 1)] := dkf (by decide +kernel)
theorem dX12_copyRow_194 : decode cX12_copyRow 194 = .ok (.goto (-49), 3) := dkg_X12_326.1
theorem dX12_copyRow_197 : decode cX12_copyRow 197 = .ok (.aload_n 0, 1) := dkg_X12_326.2.1
theorem dX12_copyRow_198 : decode cX12_copyRow 198 = .ok (.iload 5, 2) := dkg_X12_326.2.2.1
theorem dX12_copyRow_200 : decode cX12_copyRow 200 = .ok (.invokevirtual 158, 3) := dkg_X12_326.2.2.2.1
theorem dX12_copyRow_203 : decode cX12_copyRow 203 = .ok (.ireturn, 1) := dkg_X12_326.2.2.2.2.1
theorem dkg_X12_327 : dkp cX12_copyLines [(0, .iload_n 3, 1), (1, .bipush 10, 2), (3, .if_icmp .le 10, 3), (6, .aload_n 0, 1), (7, .bipush 6, 2), (9, .invokevirtual 154, 3), (12, .ireturn, 1), (13, .iload_n 3, 1), (14, .ifCond .ge 9, 3), (17, .aload_n 0, 1)] := dkf (by decide +kernel)
theorem dX12_copyLines_0 : decode cX12_copyLines 0 = .ok (.iload_n 3, 1) := dkg_X12_327.1
theorem dX12_copyLines_1 : decode cX12_copyLines 1 = .ok (.bipush 10, 2) := dkg_X12_327.2.1
theorem dX12_copyLines_3 : decode cX12_copyLines 3 = .ok (.if_icmp .le 10, 3) := dkg_X12_327.2.2.1
theorem dX12_copyLines_6 : decode cX12_copyLines 6 = .ok (.aload_n 0, 1) := dkg_X12_327.2.2.2.1
theorem dX12_copyLines_7 : decode cX12_copyLines 7 = .ok (.bipush 6, 2) := dkg_X12_327.2.2.2.2.1
theorem dX12_copyLines_9 : decode cX12_copyLines 9 = .ok (.invokevirtual 154, 3) := dkg_X12_327.2.2.2.2.2.1
theorem dX12_copyLines_12 : decode cX12_copyLines 12 = .ok (.ireturn, 1) := dkg_X12_327.2.2.2.2.2.2.1
theorem dX12_copyLines_13 : decode cX12_copyLines 13 = .ok (.iload_n 3, 1) := dkg_X12_327.2.2.2.2.2.2.2.1
theorem dX12_copyLines_14 : decode cX12_copyLines 14 = .ok (.ifCond .ge 9, 3) := dkg_X12_327.2.2.2.2.2.2.2.2.1
theorem dX12_copyLines_17 : decode cX12_copyLines 17 = .ok (.aload_n 0, 1) := dkg_X12_327.2.2.2.2.2.2.2.2.2.1
theorem dkg_X12_328 : dkp cX12_copyLines [(18, .iconst 5, 1), (19, .invokevirtual 154, 3), (22, .ireturn, 1), (23, .aload_n 0, 1), (24, .iconst 0, 1), (25, .putfield 303, 3), (28, .iconst 0, 1), (29, .istore 4, 2), (31, .iload 4, 2), (33, .iload_n 3, 1)] := dkf (by decide +kernel)
theorem dX12_copyLines_18 : decode cX12_copyLines 18 = .ok (.iconst 5, 1) := dkg_X12_328.1
theorem dX12_copyLines_19 : decode cX12_copyLines 19 = .ok (.invokevirtual 154, 3) := dkg_X12_328.2.1
theorem dX12_copyLines_22 : decode cX12_copyLines 22 = .ok (.ireturn, 1) := dkg_X12_328.2.2.1
theorem dX12_copyLines_23 : decode cX12_copyLines 23 = .ok (.aload_n 0, 1) := dkg_X12_328.2.2.2.1
theorem dX12_copyLines_24 : decode cX12_copyLines 24 = .ok (.iconst 0, 1) := dkg_X12_328.2.2.2.2.1
theorem dX12_copyLines_25 : decode cX12_copyLines 25 = .ok (.putfield 303, 3) := dkg_X12_328.2.2.2.2.2.1
theorem dX12_copyLines_28 : decode cX12_copyLines 28 = .ok (.iconst 0, 1) := dkg_X12_328.2.2.2.2.2.2.1
theorem dX12_copyLines_29 : decode cX12_copyLines 29 = .ok (.istore 4, 2) := dkg_X12_328.2.2.2.2.2.2.2.1
theorem dX12_copyLines_31 : decode cX12_copyLines 31 = .ok (.iload 4, 2) := dkg_X12_328.2.2.2.2.2.2.2.2.1
theorem dX12_copyLines_33 : decode cX12_copyLines 33 = .ok (.iload_n 3, 1) := dkg_X12_328.2.2.2.2.2.2.2.2.2.1
theorem dkg_X12_329 : dkp cX12_copyLines [(34, .if_icmp .ge 162, 3), (37, .iload_n 1, 1), (38, .i2l, 1), (39, .iload 4, 2), (41, .i2l, 1), (42, .ladd, 1), (43, .lstore 5, 2), (45, .iload_n 2, 1), (46, .i2l, 1), (47, .iload 4, 2)] := dkf (by decide +kernel)
theorem dX12_copyLines_34 : decode cX12_copyLines 34 = .ok (.if_icmp .ge 162, 3) := dkg_X12_329.1
theorem dX12_copyLines_37 : decode cX12_copyLines 37 = .ok (.iload_n 1, 1) := dkg_X12_329.2.1
theorem dX12_copyLines_38 : decode cX12_copyLines 38 = .ok (.i2l, 1) := dkg_X12_329.2.2.1
theorem dX12_copyLines_39 : decode cX12_copyLines 39 = .ok (.iload 4, 2) := dkg_X12_329.2.2.2.1
theorem dX12_copyLines_41 : decode cX12_copyLines 41 = .ok (.i2l, 1) := dkg_X12_329.2.2.2.2.1
theorem dX12_copyLines_42 : decode cX12_copyLines 42 = .ok (.ladd, 1) := dkg_X12_329.2.2.2.2.2.1
theorem dX12_copyLines_43 : decode cX12_copyLines 43 = .ok (.lstore 5, 2) := dkg_X12_329.2.2.2.2.2.2.1
theorem dX12_copyLines_45 : decode cX12_copyLines 45 = .ok (.iload_n 2, 1) := dkg_X12_329.2.2.2.2.2.2.2.1
theorem dX12_copyLines_46 : decode cX12_copyLines 46 = .ok (.i2l, 1) := dkg_X12_329.2.2.2.2.2.2.2.2.1
theorem dX12_copyLines_47 : decode cX12_copyLines 47 = .ok (.iload 4, 2) := dkg_X12_329.2.2.2.2.2.2.2.2.2.1
theorem dkg_X12_330 : dkp cX12_copyLines [(49, .i2l, 1), (50, .ladd, 1), (51, .lstore 7, 2), (53, .lload 5, 2), (55, .lconst 0, 1), (56, .lcmp, 1), (57, .ifCond .lt 32, 3), (60, .lload 5, 2), (62, .aload_n 0, 1), (63, .getfield 279, 3)] := dkf (by decide +kernel)
theorem dX12_copyLines_49 : decode cX12_copyLines 49 = .ok (.i2l, 1) := dkg_X12_330.1
theorem dX12_copyLines_50 : decode cX12_copyLines 50 = .ok (.ladd, 1) := dkg_X12_330.2.1
theorem dX12_copyLines_51 : decode cX12_copyLines 51 = .ok (.lstore 7, 2) := dkg_X12_330.2.2.1
theorem dX12_copyLines_53 : decode cX12_copyLines 53 = .ok (.lload 5, 2) := dkg_X12_330.2.2.2.1
theorem dX12_copyLines_55 : decode cX12_copyLines 55 = .ok (.lconst 0, 1) := dkg_X12_330.2.2.2.2.1
theorem dX12_copyLines_56 : decode cX12_copyLines 56 = .ok (.lcmp, 1) := dkg_X12_330.2.2.2.2.2.1
theorem dX12_copyLines_57 : decode cX12_copyLines 57 = .ok (.ifCond .lt 32, 3) := dkg_X12_330.2.2.2.2.2.2.1
theorem dX12_copyLines_60 : decode cX12_copyLines 60 = .ok (.lload 5, 2) := dkg_X12_330.2.2.2.2.2.2.2.1
theorem dX12_copyLines_62 : decode cX12_copyLines 62 = .ok (.aload_n 0, 1) := dkg_X12_330.2.2.2.2.2.2.2.2.1
theorem dX12_copyLines_63 : decode cX12_copyLines 63 = .ok (.getfield 279, 3) := dkg_X12_330.2.2.2.2.2.2.2.2.2.1
theorem dkg_X12_331 : dkp cX12_copyLines [(66, .i2l, 1), (67, .lcmp, 1), (68, .ifCond .ge 21, 3), (71, .lload 7, 2), (73, .lconst 0, 1), (74, .lcmp, 1), (75, .ifCond .lt 14, 3), (78, .lload 7, 2), (80, .aload_n 0, 1), (81, .getfield 279, 3)] := dkf (by decide +kernel)
theorem dX12_copyLines_66 : decode cX12_copyLines 66 = .ok (.i2l, 1) := dkg_X12_331.1
theorem dX12_copyLines_67 : decode cX12_copyLines 67 = .ok (.lcmp, 1) := dkg_X12_331.2.1
theorem dX12_copyLines_68 : decode cX12_copyLines 68 = .ok (.ifCond .ge 21, 3) := dkg_X12_331.2.2.1
theorem dX12_copyLines_71 : decode cX12_copyLines 71 = .ok (.lload 7, 2) := dkg_X12_331.2.2.2.1
theorem dX12_copyLines_73 : decode cX12_copyLines 73 = .ok (.lconst 0, 1) := dkg_X12_331.2.2.2.2.1
theorem dX12_copyLines_74 : decode cX12_copyLines 74 = .ok (.lcmp, 1) := dkg_X12_331.2.2.2.2.2.1
theorem dX12_copyLines_75 : decode cX12_copyLines 75 = .ok (.ifCond .lt 14, 3) := dkg_X12_331.2.2.2.2.2.2.1
theorem dX12_copyLines_78 : decode cX12_copyLines 78 = .ok (.lload 7, 2) := dkg_X12_331.2.2.2.2.2.2.2.1
theorem dX12_copyLines_80 : decode cX12_copyLines 80 = .ok (.aload_n 0, 1) := dkg_X12_331.2.2.2.2.2.2.2.2.1
theorem dX12_copyLines_81 : decode cX12_copyLines 81 = .ok (.getfield 279, 3) := dkg_X12_331.2.2.2.2.2.2.2.2.2.1
theorem dkg_X12_332 : dkp cX12_copyLines [(84, .i2l, 1), (85, .lcmp, 1), (86, .ifCond .lt 9, 3), (89, .aload_n 0, 1), (90, .iconst 2, 1), (91, .invokevirtual 154, 3), (94, .ireturn, 1), (95, .aload_n 0, 1), (96, .getfield 91, 3), (99, .lload 5, 2)] := dkf (by decide +kernel)
theorem dX12_copyLines_84 : decode cX12_copyLines 84 = .ok (.i2l, 1) := dkg_X12_332.1
theorem dX12_copyLines_85 : decode cX12_copyLines 85 = .ok (.lcmp, 1) := dkg_X12_332.2.1
theorem dX12_copyLines_86 : decode cX12_copyLines 86 = .ok (.ifCond .lt 9, 3) := dkg_X12_332.2.2.1
theorem dX12_copyLines_89 : decode cX12_copyLines 89 = .ok (.aload_n 0, 1) := dkg_X12_332.2.2.2.1
theorem dX12_copyLines_90 : decode cX12_copyLines 90 = .ok (.iconst 2, 1) := dkg_X12_332.2.2.2.2.1
theorem dX12_copyLines_91 : decode cX12_copyLines 91 = .ok (.invokevirtual 154, 3) := dkg_X12_332.2.2.2.2.2.1
theorem dX12_copyLines_94 : decode cX12_copyLines 94 = .ok (.ireturn, 1) := dkg_X12_332.2.2.2.2.2.2.1
theorem dX12_copyLines_95 : decode cX12_copyLines 95 = .ok (.aload_n 0, 1) := dkg_X12_332.2.2.2.2.2.2.2.1
theorem dX12_copyLines_96 : decode cX12_copyLines 96 = .ok (.getfield 91, 3) := dkg_X12_332.2.2.2.2.2.2.2.2.1
theorem dX12_copyLines_99 : decode cX12_copyLines 99 = .ok (.lload 5, 2) := dkg_X12_332.2.2.2.2.2.2.2.2.2.1
theorem dkg_X12_333 : dkp cX12_copyLines [(101, .l2i, 1), (102, .iaload, 1), (103, .ifCond .ge 9, 3), (106, .aload_n 0, 1), (107, .iconst 1, 1), (108, .invokevirtual 154, 3), (111, .ireturn, 1), (112, .aload_n 0, 1), (113, .getfield 91, 3), (116, .lload 7, 2)] := dkf (by decide +kernel)
theorem dX12_copyLines_101 : decode cX12_copyLines 101 = .ok (.l2i, 1) := dkg_X12_333.1
theorem dX12_copyLines_102 : decode cX12_copyLines 102 = .ok (.iaload, 1) := dkg_X12_333.2.1
theorem dX12_copyLines_103 : decode cX12_copyLines 103 = .ok (.ifCond .ge 9, 3) := dkg_X12_333.2.2.1
theorem dX12_copyLines_106 : decode cX12_copyLines 106 = .ok (.aload_n 0, 1) := dkg_X12_333.2.2.2.1
theorem dX12_copyLines_107 : decode cX12_copyLines 107 = .ok (.iconst 1, 1) := dkg_X12_333.2.2.2.2.1
theorem dX12_copyLines_108 : decode cX12_copyLines 108 = .ok (.invokevirtual 154, 3) := dkg_X12_333.2.2.2.2.2.1
theorem dX12_copyLines_111 : decode cX12_copyLines 111 = .ok (.ireturn, 1) := dkg_X12_333.2.2.2.2.2.2.1
theorem dX12_copyLines_112 : decode cX12_copyLines 112 = .ok (.aload_n 0, 1) := dkg_X12_333.2.2.2.2.2.2.2.1
theorem dX12_copyLines_113 : decode cX12_copyLines 113 = .ok (.getfield 91, 3) := dkg_X12_333.2.2.2.2.2.2.2.2.1
theorem dX12_copyLines_116 : decode cX12_copyLines 116 = .ok (.lload 7, 2) := dkg_X12_333.2.2.2.2.2.2.2.2.2.1
theorem dkg_X12_334 : dkp cX12_copyLines [(118, .l2i, 1), (119, .aload_n 0, 1), (120, .getfield 91, 3), (123, .lload 5, 2), (125, .l2i, 1), (126, .iaload, 1), (127, .iastore, 1), (128, .iconst 0, 1), (129, .istore 9, 2), (131, .iload 9, 2)] := dkf (by decide +kernel)
theorem dX12_copyLines_118 : decode cX12_copyLines 118 = .ok (.l2i, 1) := dkg_X12_334.1
theorem dX12_copyLines_119 : decode cX12_copyLines 119 = .ok (.aload_n 0, 1) := dkg_X12_334.2.1
theorem dX12_copyLines_120 : decode cX12_copyLines 120 = .ok (.getfield 91, 3) := dkg_X12_334.2.2.1
theorem dX12_copyLines_123 : decode cX12_copyLines 123 = .ok (.lload 5, 2) := dkg_X12_334.2.2.2.1
theorem dX12_copyLines_125 : decode cX12_copyLines 125 = .ok (.l2i, 1) := dkg_X12_334.2.2.2.2.1
theorem dX12_copyLines_126 : decode cX12_copyLines 126 = .ok (.iaload, 1) := dkg_X12_334.2.2.2.2.2.1
theorem dX12_copyLines_127 : decode cX12_copyLines 127 = .ok (.iastore, 1) := dkg_X12_334.2.2.2.2.2.2.1
theorem dX12_copyLines_128 : decode cX12_copyLines 128 = .ok (.iconst 0, 1) := dkg_X12_334.2.2.2.2.2.2.2.1
theorem dX12_copyLines_129 : decode cX12_copyLines 129 = .ok (.istore 9, 2) := dkg_X12_334.2.2.2.2.2.2.2.2.1
theorem dX12_copyLines_131 : decode cX12_copyLines 131 = .ok (.iload 9, 2) := dkg_X12_334.2.2.2.2.2.2.2.2.2.1
theorem dkg_X12_335 : dkp cX12_copyLines [(133, .aload_n 0, 1), (134, .getfield 91, 3), (137, .lload 5, 2), (139, .l2i, 1), (140, .iaload, 1), (141, .if_icmp .ge 39, 3), (144, .aload_n 0, 1), (145, .getfield 95, 3), (148, .sipush 200, 3), (151, .lload 7, 2)] := dkf (by decide +kernel)
theorem dX12_copyLines_133 : decode cX12_copyLines 133 = .ok (.aload_n 0, 1) := dkg_X12_335.1
theorem dX12_copyLines_134 : decode cX12_copyLines 134 = .ok (.getfield 91, 3) := dkg_X12_335.2.1
theorem dX12_copyLines_137 : decode cX12_copyLines 137 = .ok (.lload 5, 2) := dkg_X12_335.2.2.1
theorem dX12_copyLines_139 : decode cX12_copyLines 139 = .ok (.l2i, 1) := dkg_X12_335.2.2.2.1
theorem dX12_copyLines_140 : decode cX12_copyLines 140 = .ok (.iaload, 1) := dkg_X12_335.2.2.2.2.1
theorem dX12_copyLines_141 : decode cX12_copyLines 141 = .ok (.if_icmp .ge 39, 3) := dkg_X12_335.2.2.2.2.2.1
theorem dX12_copyLines_144 : decode cX12_copyLines 144 = .ok (.aload_n 0, 1) := dkg_X12_335.2.2.2.2.2.2.1
theorem dX12_copyLines_145 : decode cX12_copyLines 145 = .ok (.getfield 95, 3) := dkg_X12_335.2.2.2.2.2.2.2.1
theorem dX12_copyLines_148 : decode cX12_copyLines 148 = .ok (.sipush 200, 3) := dkg_X12_335.2.2.2.2.2.2.2.2.1
theorem dX12_copyLines_151 : decode cX12_copyLines 151 = .ok (.lload 7, 2) := dkg_X12_335.2.2.2.2.2.2.2.2.2.1
theorem dkg_X12_336 : dkp cX12_copyLines [(153, .l2i, 1), (154, .imul, 1), (155, .iload 9, 2), (157, .iadd, 1), (158, .aload_n 0, 1), (159, .getfield 95, 3), (162, .sipush 200, 3), (165, .lload 5, 2), (167, .l2i, 1), (168, .imul, 1)] := dkf (by decide +kernel)
theorem dX12_copyLines_153 : decode cX12_copyLines 153 = .ok (.l2i, 1) := dkg_X12_336.1
theorem dX12_copyLines_154 : decode cX12_copyLines 154 = .ok (.imul, 1) := dkg_X12_336.2.1
theorem dX12_copyLines_155 : decode cX12_copyLines 155 = .ok (.iload 9, 2) := dkg_X12_336.2.2.1
theorem dX12_copyLines_157 : decode cX12_copyLines 157 = .ok (.iadd, 1) := dkg_X12_336.2.2.2.1
theorem dX12_copyLines_158 : decode cX12_copyLines 158 = .ok (.aload_n 0, 1) := dkg_X12_336.2.2.2.2.1
theorem dX12_copyLines_159 : decode cX12_copyLines 159 = .ok (.getfield 95, 3) := dkg_X12_336.2.2.2.2.2.1
theorem dX12_copyLines_162 : decode cX12_copyLines 162 = .ok (.sipush 200, 3) := dkg_X12_336.2.2.2.2.2.2.1
theorem dX12_copyLines_165 : decode cX12_copyLines 165 = .ok (.lload 5, 2) := dkg_X12_336.2.2.2.2.2.2.2.1
theorem dX12_copyLines_167 : decode cX12_copyLines 167 = .ok (.l2i, 1) := dkg_X12_336.2.2.2.2.2.2.2.2.1
theorem dX12_copyLines_168 : decode cX12_copyLines 168 = .ok (.imul, 1) := dkg_X12_336.2.2.2.2.2.2.2.2.2.1
theorem dkg_X12_337 : dkp cX12_copyLines [(169, .iload 9, 2), (171, .iadd, 1), (172, .iaload, 1), (173, .iastore, 1), (174, .iinc 9 1, 3), (177, .goto (-46), 3), (180, .aload_n 0, 1), (181, .dup, 1), (182, .getfield 303, 3), (185, .iconst 1, 1)] := dkf (by decide +kernel)
theorem dX12_copyLines_169 : decode cX12_copyLines 169 = .ok (.iload 9, 2) := dkg_X12_337.1
theorem dX12_copyLines_171 : decode cX12_copyLines 171 = .ok (.iadd, 1) := dkg_X12_337.2.1
theorem dX12_copyLines_172 : decode cX12_copyLines 172 = .ok (.iaload, 1) := dkg_X12_337.2.2.1
theorem dX12_copyLines_173 : decode cX12_copyLines 173 = .ok (.iastore, 1) := dkg_X12_337.2.2.2.1
theorem dX12_copyLines_174 : decode cX12_copyLines 174 = .ok (.iinc 9 1, 3) := dkg_X12_337.2.2.2.2.1
theorem dX12_copyLines_177 : decode cX12_copyLines 177 = .ok (.goto (-46), 3) := dkg_X12_337.2.2.2.2.2.1
theorem dX12_copyLines_180 : decode cX12_copyLines 180 = .ok (.aload_n 0, 1) := dkg_X12_337.2.2.2.2.2.2.1
theorem dX12_copyLines_181 : decode cX12_copyLines 181 = .ok (.dup, 1) := dkg_X12_337.2.2.2.2.2.2.2.1
theorem dX12_copyLines_182 : decode cX12_copyLines 182 = .ok (.getfield 303, 3) := dkg_X12_337.2.2.2.2.2.2.2.2.1
theorem dX12_copyLines_185 : decode cX12_copyLines 185 = .ok (.iconst 1, 1) := dkg_X12_337.2.2.2.2.2.2.2.2.2.1
theorem dkg_X12_338 : dkp cX12_copyLines [(186, .iadd, 1), (187, .putfield 303, 3), (190, .iinc 4 1, 3), (193, .goto (-162), 3), (196, .aload_n 0, 1), (197, .iload_n 3, 1), (198, .invokevirtual 158, 3), (201, .ireturn, 1)] := dkf (by decide +kernel)
theorem dX12_copyLines_186 : decode cX12_copyLines 186 = .ok (.iadd, 1) := dkg_X12_338.1
theorem dX12_copyLines_187 : decode cX12_copyLines 187 = .ok (.putfield 303, 3) := dkg_X12_338.2.1
theorem dX12_copyLines_190 : decode cX12_copyLines 190 = .ok (.iinc 4 1, 3) := dkg_X12_338.2.2.1
theorem dX12_copyLines_193 : decode cX12_copyLines 193 = .ok (.goto (-162), 3) := dkg_X12_338.2.2.2.1
theorem dX12_copyLines_196 : decode cX12_copyLines 196 = .ok (.aload_n 0, 1) := dkg_X12_338.2.2.2.2.1
theorem dX12_copyLines_197 : decode cX12_copyLines 197 = .ok (.iload_n 3, 1) := dkg_X12_338.2.2.2.2.2.1
theorem dX12_copyLines_198 : decode cX12_copyLines 198 = .ok (.invokevirtual 158, 3) := dkg_X12_338.2.2.2.2.2.2.1
theorem dX12_copyLines_201 : decode cX12_copyLines 201 = .ok (.ireturn, 1) := dkg_X12_338.2.2.2.2.2.2.2.1
theorem dkg_X12_339 : dkp cX12_copied [(0, .aload_n 0, 1), (1, .getfield 303, 3), (4, .ireturn, 1)] := dkf (by decide +kernel)
theorem dX12_copied_0 : decode cX12_copied 0 = .ok (.aload_n 0, 1) := dkg_X12_339.1
theorem dX12_copied_1 : decode cX12_copied 1 = .ok (.getfield 303, 3) := dkg_X12_339.2.1
theorem dX12_copied_4 : decode cX12_copied 4 = .ok (.ireturn, 1) := dkg_X12_339.2.2.1
theorem dkg_X12_340 : dkp cX12_emboss [(0, .iload_n 2, 1), (1, .sipush 200, 3), (4, .if_icmp .le 10, 3), (7, .aload_n 0, 1), (8, .bipush 6, 2), (10, .invokevirtual 154, 3), (13, .ireturn, 1), (14, .iload_n 2, 1), (15, .ifCond .ge 9, 3), (18, .aload_n 0, 1)] := dkf (by decide +kernel)
theorem dX12_emboss_0 : decode cX12_emboss 0 = .ok (.iload_n 2, 1) := dkg_X12_340.1
theorem dX12_emboss_1 : decode cX12_emboss 1 = .ok (.sipush 200, 3) := dkg_X12_340.2.1
theorem dX12_emboss_4 : decode cX12_emboss 4 = .ok (.if_icmp .le 10, 3) := dkg_X12_340.2.2.1
theorem dX12_emboss_7 : decode cX12_emboss 7 = .ok (.aload_n 0, 1) := dkg_X12_340.2.2.2.1
theorem dX12_emboss_8 : decode cX12_emboss 8 = .ok (.bipush 6, 2) := dkg_X12_340.2.2.2.2.1
theorem dX12_emboss_10 : decode cX12_emboss 10 = .ok (.invokevirtual 154, 3) := dkg_X12_340.2.2.2.2.2.1
theorem dX12_emboss_13 : decode cX12_emboss 13 = .ok (.ireturn, 1) := dkg_X12_340.2.2.2.2.2.2.1
theorem dX12_emboss_14 : decode cX12_emboss 14 = .ok (.iload_n 2, 1) := dkg_X12_340.2.2.2.2.2.2.2.1
theorem dX12_emboss_15 : decode cX12_emboss 15 = .ok (.ifCond .ge 9, 3) := dkg_X12_340.2.2.2.2.2.2.2.2.1
theorem dX12_emboss_18 : decode cX12_emboss 18 = .ok (.aload_n 0, 1) := dkg_X12_340.2.2.2.2.2.2.2.2.2.1
theorem dkg_X12_341 : dkp cX12_emboss [(19, .iconst 5, 1), (20, .invokevirtual 154, 3), (23, .ireturn, 1), (24, .iconst 0, 1), (25, .istore_n 3, 1), (26, .iconst 0, 1), (27, .istore 4, 2), (29, .iload 4, 2), (31, .iload_n 2, 1), (32, .if_icmp .ge 110, 3)] := dkf (by decide +kernel)
theorem dX12_emboss_19 : decode cX12_emboss 19 = .ok (.iconst 5, 1) := dkg_X12_341.1
theorem dX12_emboss_20 : decode cX12_emboss 20 = .ok (.invokevirtual 154, 3) := dkg_X12_341.2.1
theorem dX12_emboss_23 : decode cX12_emboss 23 = .ok (.ireturn, 1) := dkg_X12_341.2.2.1
theorem dX12_emboss_24 : decode cX12_emboss 24 = .ok (.iconst 0, 1) := dkg_X12_341.2.2.2.1
theorem dX12_emboss_25 : decode cX12_emboss 25 = .ok (.istore_n 3, 1) := dkg_X12_341.2.2.2.2.1
theorem dX12_emboss_26 : decode cX12_emboss 26 = .ok (.iconst 0, 1) := dkg_X12_341.2.2.2.2.2.1
theorem dX12_emboss_27 : decode cX12_emboss 27 = .ok (.istore 4, 2) := dkg_X12_341.2.2.2.2.2.2.1
theorem dX12_emboss_29 : decode cX12_emboss 29 = .ok (.iload 4, 2) := dkg_X12_341.2.2.2.2.2.2.2.1
theorem dX12_emboss_31 : decode cX12_emboss 31 = .ok (.iload_n 2, 1) := dkg_X12_341.2.2.2.2.2.2.2.2.1
theorem dX12_emboss_32 : decode cX12_emboss 32 = .ok (.if_icmp .ge 110, 3) := dkg_X12_341.2.2.2.2.2.2.2.2.2.1
theorem dkg_X12_342 : dkp cX12_emboss [(35, .iload_n 1, 1), (36, .i2l, 1), (37, .iload 4, 2), (39, .i2l, 1), (40, .ladd, 1), (41, .lstore 5, 2), (43, .aload_n 0, 1), (44, .dup, 1), (45, .getfield 306, 3), (48, .iconst 1, 1)] := dkf (by decide +kernel)
theorem dX12_emboss_35 : decode cX12_emboss 35 = .ok (.iload_n 1, 1) := dkg_X12_342.1
theorem dX12_emboss_36 : decode cX12_emboss 36 = .ok (.i2l, 1) := dkg_X12_342.2.1
theorem dX12_emboss_37 : decode cX12_emboss 37 = .ok (.iload 4, 2) := dkg_X12_342.2.2.1
theorem dX12_emboss_39 : decode cX12_emboss 39 = .ok (.i2l, 1) := dkg_X12_342.2.2.2.1
theorem dX12_emboss_40 : decode cX12_emboss 40 = .ok (.ladd, 1) := dkg_X12_342.2.2.2.2.1
theorem dX12_emboss_41 : decode cX12_emboss 41 = .ok (.lstore 5, 2) := dkg_X12_342.2.2.2.2.2.1
theorem dX12_emboss_43 : decode cX12_emboss 43 = .ok (.aload_n 0, 1) := dkg_X12_342.2.2.2.2.2.2.1
theorem dX12_emboss_44 : decode cX12_emboss 44 = .ok (.dup, 1) := dkg_X12_342.2.2.2.2.2.2.2.1
theorem dX12_emboss_45 : decode cX12_emboss 45 = .ok (.getfield 306, 3) := dkg_X12_342.2.2.2.2.2.2.2.2.1
theorem dX12_emboss_48 : decode cX12_emboss 48 = .ok (.iconst 1, 1) := dkg_X12_342.2.2.2.2.2.2.2.2.2.1
theorem dkg_X12_343 : dkp cX12_emboss [(49, .iadd, 1), (50, .putfield 306, 3), (53, .lload 5, 2), (55, .lconst 0, 1), (56, .lcmp, 1), (57, .ifCond .lt 14, 3), (60, .lload 5, 2), (62, .aload_n 0, 1), (63, .getfield 279, 3), (66, .i2l, 1)] := dkf (by decide +kernel)
theorem dX12_emboss_49 : decode cX12_emboss 49 = .ok (.iadd, 1) := dkg_X12_343.1
theorem dX12_emboss_50 : decode cX12_emboss 50 = .ok (.putfield 306, 3) := dkg_X12_343.2.1
theorem dX12_emboss_53 : decode cX12_emboss 53 = .ok (.lload 5, 2) := dkg_X12_343.2.2.1
theorem dX12_emboss_55 : decode cX12_emboss 55 = .ok (.lconst 0, 1) := dkg_X12_343.2.2.2.1
theorem dX12_emboss_56 : decode cX12_emboss 56 = .ok (.lcmp, 1) := dkg_X12_343.2.2.2.2.1
theorem dX12_emboss_57 : decode cX12_emboss 57 = .ok (.ifCond .lt 14, 3) := dkg_X12_343.2.2.2.2.2.1
theorem dX12_emboss_60 : decode cX12_emboss 60 = .ok (.lload 5, 2) := dkg_X12_343.2.2.2.2.2.2.1
theorem dX12_emboss_62 : decode cX12_emboss 62 = .ok (.aload_n 0, 1) := dkg_X12_343.2.2.2.2.2.2.2.1
theorem dX12_emboss_63 : decode cX12_emboss 63 = .ok (.getfield 279, 3) := dkg_X12_343.2.2.2.2.2.2.2.2.1
theorem dX12_emboss_66 : decode cX12_emboss 66 = .ok (.i2l, 1) := dkg_X12_343.2.2.2.2.2.2.2.2.2.1
theorem dkg_X12_344 : dkp cX12_emboss [(67, .lcmp, 1), (68, .ifCond .lt 9, 3), (71, .aload_n 0, 1), (72, .iconst 2, 1), (73, .invokevirtual 154, 3), (76, .ireturn, 1), (77, .aload_n 0, 1), (78, .getfield 91, 3), (81, .lload 5, 2), (83, .l2i, 1)] := dkf (by decide +kernel)
theorem dX12_emboss_67 : decode cX12_emboss 67 = .ok (.lcmp, 1) := dkg_X12_344.1
theorem dX12_emboss_68 : decode cX12_emboss 68 = .ok (.ifCond .lt 9, 3) := dkg_X12_344.2.1
theorem dX12_emboss_71 : decode cX12_emboss 71 = .ok (.aload_n 0, 1) := dkg_X12_344.2.2.1
theorem dX12_emboss_72 : decode cX12_emboss 72 = .ok (.iconst 2, 1) := dkg_X12_344.2.2.2.1
theorem dX12_emboss_73 : decode cX12_emboss 73 = .ok (.invokevirtual 154, 3) := dkg_X12_344.2.2.2.2.1
theorem dX12_emboss_76 : decode cX12_emboss 76 = .ok (.ireturn, 1) := dkg_X12_344.2.2.2.2.2.1
theorem dX12_emboss_77 : decode cX12_emboss 77 = .ok (.aload_n 0, 1) := dkg_X12_344.2.2.2.2.2.2.1
theorem dX12_emboss_78 : decode cX12_emboss 78 = .ok (.getfield 91, 3) := dkg_X12_344.2.2.2.2.2.2.2.1
theorem dX12_emboss_81 : decode cX12_emboss 81 = .ok (.lload 5, 2) := dkg_X12_344.2.2.2.2.2.2.2.2.1
theorem dX12_emboss_83 : decode cX12_emboss 83 = .ok (.l2i, 1) := dkg_X12_344.2.2.2.2.2.2.2.2.2.1
theorem dkg_X12_345 : dkp cX12_emboss [(84, .iaload, 1), (85, .istore 7, 2), (87, .iload 7, 2), (89, .aload_n 0, 1), (90, .getfield 82, 3), (93, .if_icmp .le 6, 3), (96, .goto 46, 3), (99, .iconst 0, 1), (100, .istore 8, 2), (102, .iload 8, 2)] := dkf (by decide +kernel)
theorem dX12_emboss_84 : decode cX12_emboss 84 = .ok (.iaload, 1) := dkg_X12_345.1
theorem dX12_emboss_85 : decode cX12_emboss 85 = .ok (.istore 7, 2) := dkg_X12_345.2.1
theorem dX12_emboss_87 : decode cX12_emboss 87 = .ok (.iload 7, 2) := dkg_X12_345.2.2.1
theorem dX12_emboss_89 : decode cX12_emboss 89 = .ok (.aload_n 0, 1) := dkg_X12_345.2.2.2.1
theorem dX12_emboss_90 : decode cX12_emboss 90 = .ok (.getfield 82, 3) := dkg_X12_345.2.2.2.2.1
theorem dX12_emboss_93 : decode cX12_emboss 93 = .ok (.if_icmp .le 6, 3) := dkg_X12_345.2.2.2.2.2.1
theorem dX12_emboss_96 : decode cX12_emboss 96 = .ok (.goto 46, 3) := dkg_X12_345.2.2.2.2.2.2.1
theorem dX12_emboss_99 : decode cX12_emboss 99 = .ok (.iconst 0, 1) := dkg_X12_345.2.2.2.2.2.2.2.1
theorem dX12_emboss_100 : decode cX12_emboss 100 = .ok (.istore 8, 2) := dkg_X12_345.2.2.2.2.2.2.2.2.1
theorem dX12_emboss_102 : decode cX12_emboss 102 = .ok (.iload 8, 2) := dkg_X12_345.2.2.2.2.2.2.2.2.2.1
theorem dkg_X12_346 : dkp cX12_emboss [(104, .iload 7, 2), (106, .if_icmp .ge 30, 3), (109, .iload_n 3, 1), (110, .aload_n 0, 1), (111, .getfield 95, 3), (114, .sipush 200, 3), (117, .lload 5, 2), (119, .l2i, 1), (120, .imul, 1), (121, .iload 8, 2)] := dkf (by decide +kernel)
theorem dX12_emboss_104 : decode cX12_emboss 104 = .ok (.iload 7, 2) := dkg_X12_346.1
theorem dX12_emboss_106 : decode cX12_emboss 106 = .ok (.if_icmp .ge 30, 3) := dkg_X12_346.2.1
theorem dX12_emboss_109 : decode cX12_emboss 109 = .ok (.iload_n 3, 1) := dkg_X12_346.2.2.1
theorem dX12_emboss_110 : decode cX12_emboss 110 = .ok (.aload_n 0, 1) := dkg_X12_346.2.2.2.1
theorem dX12_emboss_111 : decode cX12_emboss 111 = .ok (.getfield 95, 3) := dkg_X12_346.2.2.2.2.1
theorem dX12_emboss_114 : decode cX12_emboss 114 = .ok (.sipush 200, 3) := dkg_X12_346.2.2.2.2.2.1
theorem dX12_emboss_117 : decode cX12_emboss 117 = .ok (.lload 5, 2) := dkg_X12_346.2.2.2.2.2.2.1
theorem dX12_emboss_119 : decode cX12_emboss 119 = .ok (.l2i, 1) := dkg_X12_346.2.2.2.2.2.2.2.1
theorem dX12_emboss_120 : decode cX12_emboss 120 = .ok (.imul, 1) := dkg_X12_346.2.2.2.2.2.2.2.2.1
theorem dX12_emboss_121 : decode cX12_emboss 121 = .ok (.iload 8, 2) := dkg_X12_346.2.2.2.2.2.2.2.2.2.1
theorem dkg_X12_347 : dkp cX12_emboss [(123, .iadd, 1), (124, .iaload, 1), (125, .invokestatic 309, 3), (128, .iadd, 1), (129, .istore_n 3, 1), (130, .iinc 8 1, 3), (133, .goto (-31), 3), (136, .iinc 4 1, 3), (139, .goto (-110), 3), (142, .aload_n 0, 1)] := dkf (by decide +kernel)
theorem dX12_emboss_123 : decode cX12_emboss 123 = .ok (.iadd, 1) := dkg_X12_347.1
theorem dX12_emboss_124 : decode cX12_emboss 124 = .ok (.iaload, 1) := dkg_X12_347.2.1
theorem dX12_emboss_125 : decode cX12_emboss 125 = .ok (.invokestatic 309, 3) := dkg_X12_347.2.2.1
theorem dX12_emboss_128 : decode cX12_emboss 128 = .ok (.iadd, 1) := dkg_X12_347.2.2.2.1
theorem dX12_emboss_129 : decode cX12_emboss 129 = .ok (.istore_n 3, 1) := dkg_X12_347.2.2.2.2.1
theorem dX12_emboss_130 : decode cX12_emboss 130 = .ok (.iinc 8 1, 3) := dkg_X12_347.2.2.2.2.2.1
theorem dX12_emboss_133 : decode cX12_emboss 133 = .ok (.goto (-31), 3) := dkg_X12_347.2.2.2.2.2.2.1
theorem dX12_emboss_136 : decode cX12_emboss 136 = .ok (.iinc 4 1, 3) := dkg_X12_347.2.2.2.2.2.2.2.1
theorem dX12_emboss_139 : decode cX12_emboss 139 = .ok (.goto (-110), 3) := dkg_X12_347.2.2.2.2.2.2.2.2.1
theorem dX12_emboss_142 : decode cX12_emboss 142 = .ok (.aload_n 0, 1) := dkg_X12_347.2.2.2.2.2.2.2.2.2.1
theorem dkg_X12_348 : dkp cX12_emboss [(143, .iload_n 3, 1), (144, .invokevirtual 158, 3), (147, .ireturn, 1)] := dkf (by decide +kernel)
theorem dX12_emboss_143 : decode cX12_emboss 143 = .ok (.iload_n 3, 1) := dkg_X12_348.1
theorem dX12_emboss_144 : decode cX12_emboss 144 = .ok (.invokevirtual 158, 3) := dkg_X12_348.2.1
theorem dX12_emboss_147 : decode cX12_emboss 147 = .ok (.ireturn, 1) := dkg_X12_348.2.2.1
theorem dkg_X12_349 : dkp cX12_closed [(0, .aload_n 0, 1), (1, .getfield 306, 3), (4, .ireturn, 1)] := dkf (by decide +kernel)
theorem dX12_closed_0 : decode cX12_closed 0 = .ok (.aload_n 0, 1) := dkg_X12_349.1
theorem dX12_closed_1 : decode cX12_closed 1 = .ok (.getfield 306, 3) := dkg_X12_349.2.1
theorem dX12_closed_4 : decode cX12_closed 4 = .ok (.ireturn, 1) := dkg_X12_349.2.2.1
theorem dkg_X12_350 : dkp cX12_saved [(0, .aload_n 0, 1), (1, .iload_n 1, 1), (2, .invokevirtual 171, 3), (5, .ifCond .eq 11, 3), (8, .aload_n 0, 1), (9, .iload_n 2, 1), (10, .invokevirtual 171, 3), (13, .ifCond .ne 9, 3), (16, .aload_n 0, 1), (17, .iconst 3, 1)] := dkf (by decide +kernel)
theorem dX12_saved_0 : decode cX12_saved 0 = .ok (.aload_n 0, 1) := dkg_X12_350.1
theorem dX12_saved_1 : decode cX12_saved 1 = .ok (.iload_n 1, 1) := dkg_X12_350.2.1
theorem dX12_saved_2 : decode cX12_saved 2 = .ok (.invokevirtual 171, 3) := dkg_X12_350.2.2.1
theorem dX12_saved_5 : decode cX12_saved 5 = .ok (.ifCond .eq 11, 3) := dkg_X12_350.2.2.2.1
theorem dX12_saved_8 : decode cX12_saved 8 = .ok (.aload_n 0, 1) := dkg_X12_350.2.2.2.2.1
theorem dX12_saved_9 : decode cX12_saved 9 = .ok (.iload_n 2, 1) := dkg_X12_350.2.2.2.2.2.1
theorem dX12_saved_10 : decode cX12_saved 10 = .ok (.invokevirtual 171, 3) := dkg_X12_350.2.2.2.2.2.2.1
theorem dX12_saved_13 : decode cX12_saved 13 = .ok (.ifCond .ne 9, 3) := dkg_X12_350.2.2.2.2.2.2.2.1
theorem dX12_saved_16 : decode cX12_saved 16 = .ok (.aload_n 0, 1) := dkg_X12_350.2.2.2.2.2.2.2.2.1
theorem dX12_saved_17 : decode cX12_saved 17 = .ok (.iconst 3, 1) := dkg_X12_350.2.2.2.2.2.2.2.2.2.1
theorem dkg_X12_351 : dkp cX12_saved [(18, .invokevirtual 154, 3), (21, .ireturn, 1), (22, .iconst 0, 1), (23, .istore_n 3, 1), (24, .iconst 0, 1), (25, .istore 4, 2), (27, .iload 4, 2), (29, .iconst 2, 1), (30, .if_icmp .ge 131, 3), (33, .iconst 0, 1)] := dkf (by decide +kernel)
theorem dX12_saved_18 : decode cX12_saved 18 = .ok (.invokevirtual 154, 3) := dkg_X12_351.1
theorem dX12_saved_21 : decode cX12_saved 21 = .ok (.ireturn, 1) := dkg_X12_351.2.1
theorem dX12_saved_22 : decode cX12_saved 22 = .ok (.iconst 0, 1) := dkg_X12_351.2.2.1
theorem dX12_saved_23 : decode cX12_saved 23 = .ok (.istore_n 3, 1) := dkg_X12_351.2.2.2.1
theorem dX12_saved_24 : decode cX12_saved 24 = .ok (.iconst 0, 1) := dkg_X12_351.2.2.2.2.1
theorem dX12_saved_25 : decode cX12_saved 25 = .ok (.istore 4, 2) := dkg_X12_351.2.2.2.2.2.1
theorem dX12_saved_27 : decode cX12_saved 27 = .ok (.iload 4, 2) := dkg_X12_351.2.2.2.2.2.2.1
theorem dX12_saved_29 : decode cX12_saved 29 = .ok (.iconst 2, 1) := dkg_X12_351.2.2.2.2.2.2.2.1
theorem dX12_saved_30 : decode cX12_saved 30 = .ok (.if_icmp .ge 131, 3) := dkg_X12_351.2.2.2.2.2.2.2.2.1
theorem dX12_saved_33 : decode cX12_saved 33 = .ok (.iconst 0, 1) := dkg_X12_351.2.2.2.2.2.2.2.2.2.1
theorem dkg_X12_352 : dkp cX12_saved [(34, .istore 5, 2), (36, .iload 5, 2), (38, .aload_n 0, 1), (39, .getfield 243, 3), (42, .if_icmp .ge 113, 3), (45, .aload_n 0, 1), (46, .iload 5, 2), (48, .invokevirtual 261, 3), (51, .istore 6, 2), (53, .aload_n 0, 1)] := dkf (by decide +kernel)
theorem dX12_saved_34 : decode cX12_saved 34 = .ok (.istore 5, 2) := dkg_X12_352.1
theorem dX12_saved_36 : decode cX12_saved 36 = .ok (.iload 5, 2) := dkg_X12_352.2.1
theorem dX12_saved_38 : decode cX12_saved 38 = .ok (.aload_n 0, 1) := dkg_X12_352.2.2.1
theorem dX12_saved_39 : decode cX12_saved 39 = .ok (.getfield 243, 3) := dkg_X12_352.2.2.2.1
theorem dX12_saved_42 : decode cX12_saved 42 = .ok (.if_icmp .ge 113, 3) := dkg_X12_352.2.2.2.2.1
theorem dX12_saved_45 : decode cX12_saved 45 = .ok (.aload_n 0, 1) := dkg_X12_352.2.2.2.2.2.1
theorem dX12_saved_46 : decode cX12_saved 46 = .ok (.iload 5, 2) := dkg_X12_352.2.2.2.2.2.2.1
theorem dX12_saved_48 : decode cX12_saved 48 = .ok (.invokevirtual 261, 3) := dkg_X12_352.2.2.2.2.2.2.2.1
theorem dX12_saved_51 : decode cX12_saved 51 = .ok (.istore 6, 2) := dkg_X12_352.2.2.2.2.2.2.2.2.1
theorem dX12_saved_53 : decode cX12_saved 53 = .ok (.aload_n 0, 1) := dkg_X12_352.2.2.2.2.2.2.2.2.2.1
theorem dkg_X12_353 : dkp cX12_saved [(54, .aload_n 0, 1), (55, .getfield 79, 3), (58, .iload 5, 2), (60, .iaload, 1), (61, .bipush 94, 2), (63, .if_icmp .ne 10, 3), (66, .iload 5, 2), (68, .iconst 1, 1), (69, .iadd, 1), (70, .goto 5, 3)] := dkf (by decide +kernel)
theorem dX12_saved_54 : decode cX12_saved 54 = .ok (.aload_n 0, 1) := dkg_X12_353.1
theorem dX12_saved_55 : decode cX12_saved 55 = .ok (.getfield 79, 3) := dkg_X12_353.2.1
theorem dX12_saved_58 : decode cX12_saved 58 = .ok (.iload 5, 2) := dkg_X12_353.2.2.1
theorem dX12_saved_60 : decode cX12_saved 60 = .ok (.iaload, 1) := dkg_X12_353.2.2.2.1
theorem dX12_saved_61 : decode cX12_saved 61 = .ok (.bipush 94, 2) := dkg_X12_353.2.2.2.2.1
theorem dX12_saved_63 : decode cX12_saved 63 = .ok (.if_icmp .ne 10, 3) := dkg_X12_353.2.2.2.2.2.1
theorem dX12_saved_66 : decode cX12_saved 66 = .ok (.iload 5, 2) := dkg_X12_353.2.2.2.2.2.2.1
theorem dX12_saved_68 : decode cX12_saved 68 = .ok (.iconst 1, 1) := dkg_X12_353.2.2.2.2.2.2.2.1
theorem dX12_saved_69 : decode cX12_saved 69 = .ok (.iadd, 1) := dkg_X12_353.2.2.2.2.2.2.2.2.1
theorem dX12_saved_70 : decode cX12_saved 70 = .ok (.goto 5, 3) := dkg_X12_353.2.2.2.2.2.2.2.2.2.1
theorem dkg_X12_354 : dkp cX12_saved [(73, .iload 5, 2), (75, .iload 6, 2), (77, .invokevirtual 264, 3), (80, .istore 7, 2), (82, .aload_n 0, 1), (83, .getfield 234, 3), (86, .ifCond .le 60, 3), (89, .aload_n 0, 1), (90, .iload 4, 2), (92, .ifCond .ne 7, 3)] := dkf (by decide +kernel)
theorem dX12_saved_73 : decode cX12_saved 73 = .ok (.iload 5, 2) := dkg_X12_354.1
theorem dX12_saved_75 : decode cX12_saved 75 = .ok (.iload 6, 2) := dkg_X12_354.2.1
theorem dX12_saved_77 : decode cX12_saved 77 = .ok (.invokevirtual 264, 3) := dkg_X12_354.2.2.1
theorem dX12_saved_80 : decode cX12_saved 80 = .ok (.istore 7, 2) := dkg_X12_354.2.2.2.1
theorem dX12_saved_82 : decode cX12_saved 82 = .ok (.aload_n 0, 1) := dkg_X12_354.2.2.2.2.1
theorem dX12_saved_83 : decode cX12_saved 83 = .ok (.getfield 234, 3) := dkg_X12_354.2.2.2.2.2.1
theorem dX12_saved_86 : decode cX12_saved 86 = .ok (.ifCond .le 60, 3) := dkg_X12_354.2.2.2.2.2.2.1
theorem dX12_saved_89 : decode cX12_saved 89 = .ok (.aload_n 0, 1) := dkg_X12_354.2.2.2.2.2.2.2.1
theorem dX12_saved_90 : decode cX12_saved 90 = .ok (.iload 4, 2) := dkg_X12_354.2.2.2.2.2.2.2.2.1
theorem dX12_saved_92 : decode cX12_saved 92 = .ok (.ifCond .ne 7, 3) := dkg_X12_354.2.2.2.2.2.2.2.2.2.1
theorem dkg_X12_355 : dkp cX12_saved [(95, .iload_n 1, 1), (96, .goto 4, 3), (99, .iload_n 2, 1), (100, .invokevirtual 267, 3), (103, .ifCond .ne 10, 3), (106, .aload_n 0, 1), (107, .invokevirtual 270, 3), (110, .iconst 1, 1), (111, .iadd, 1), (112, .ireturn, 1)] := dkf (by decide +kernel)
theorem dX12_saved_95 : decode cX12_saved 95 = .ok (.iload_n 1, 1) := dkg_X12_355.1
theorem dX12_saved_96 : decode cX12_saved 96 = .ok (.goto 4, 3) := dkg_X12_355.2.1
theorem dX12_saved_99 : decode cX12_saved 99 = .ok (.iload_n 2, 1) := dkg_X12_355.2.2.1
theorem dX12_saved_100 : decode cX12_saved 100 = .ok (.invokevirtual 267, 3) := dkg_X12_355.2.2.2.1
theorem dX12_saved_103 : decode cX12_saved 103 = .ok (.ifCond .ne 10, 3) := dkg_X12_355.2.2.2.2.1
theorem dX12_saved_106 : decode cX12_saved 106 = .ok (.aload_n 0, 1) := dkg_X12_355.2.2.2.2.2.1
theorem dX12_saved_107 : decode cX12_saved 107 = .ok (.invokevirtual 270, 3) := dkg_X12_355.2.2.2.2.2.2.1
theorem dX12_saved_110 : decode cX12_saved 110 = .ok (.iconst 1, 1) := dkg_X12_355.2.2.2.2.2.2.2.1
theorem dX12_saved_111 : decode cX12_saved 111 = .ok (.iadd, 1) := dkg_X12_355.2.2.2.2.2.2.2.2.1
theorem dX12_saved_112 : decode cX12_saved 112 = .ok (.ireturn, 1) := dkg_X12_355.2.2.2.2.2.2.2.2.2.1
theorem dkg_X12_356 : dkp cX12_saved [(113, .iload_n 3, 1), (114, .iload 4, 2), (116, .ifCond .ne 10, 3), (119, .aload_n 0, 1), (120, .getfield 224, 3), (123, .goto 8, 3), (126, .aload_n 0, 1), (127, .getfield 224, 3), (130, .ineg, 1), (131, .iadd, 1)] := dkf (by decide +kernel)
theorem dX12_saved_113 : decode cX12_saved 113 = .ok (.iload_n 3, 1) := dkg_X12_356.1
theorem dX12_saved_114 : decode cX12_saved 114 = .ok (.iload 4, 2) := dkg_X12_356.2.1
theorem dX12_saved_116 : decode cX12_saved 116 = .ok (.ifCond .ne 10, 3) := dkg_X12_356.2.2.1
theorem dX12_saved_119 : decode cX12_saved 119 = .ok (.aload_n 0, 1) := dkg_X12_356.2.2.2.1
theorem dX12_saved_120 : decode cX12_saved 120 = .ok (.getfield 224, 3) := dkg_X12_356.2.2.2.2.1
theorem dX12_saved_123 : decode cX12_saved 123 = .ok (.goto 8, 3) := dkg_X12_356.2.2.2.2.2.1
theorem dX12_saved_126 : decode cX12_saved 126 = .ok (.aload_n 0, 1) := dkg_X12_356.2.2.2.2.2.2.1
theorem dX12_saved_127 : decode cX12_saved 127 = .ok (.getfield 224, 3) := dkg_X12_356.2.2.2.2.2.2.2.1
theorem dX12_saved_130 : decode cX12_saved 130 = .ok (.ineg, 1) := dkg_X12_356.2.2.2.2.2.2.2.2.1
theorem dX12_saved_131 : decode cX12_saved 131 = .ok (.iadd, 1) := dkg_X12_356.2.2.2.2.2.2.2.2.2.1
theorem dkg_X12_357 : dkp cX12_saved [(132, .istore_n 3, 1), (133, .aload_n 0, 1), (134, .iload 7, 2), (136, .iload 6, 2), (138, .invokevirtual 264, 3), (141, .istore 7, 2), (143, .goto (-61), 3), (146, .iload 6, 2), (148, .iconst 1, 1), (149, .iadd, 1)] := dkf (by decide +kernel)
theorem dX12_saved_132 : decode cX12_saved 132 = .ok (.istore_n 3, 1) := dkg_X12_357.1
theorem dX12_saved_133 : decode cX12_saved 133 = .ok (.aload_n 0, 1) := dkg_X12_357.2.1
theorem dX12_saved_134 : decode cX12_saved 134 = .ok (.iload 7, 2) := dkg_X12_357.2.2.1
theorem dX12_saved_136 : decode cX12_saved 136 = .ok (.iload 6, 2) := dkg_X12_357.2.2.2.1
theorem dX12_saved_138 : decode cX12_saved 138 = .ok (.invokevirtual 264, 3) := dkg_X12_357.2.2.2.2.1
theorem dX12_saved_141 : decode cX12_saved 141 = .ok (.istore 7, 2) := dkg_X12_357.2.2.2.2.2.1
theorem dX12_saved_143 : decode cX12_saved 143 = .ok (.goto (-61), 3) := dkg_X12_357.2.2.2.2.2.2.1
theorem dX12_saved_146 : decode cX12_saved 146 = .ok (.iload 6, 2) := dkg_X12_357.2.2.2.2.2.2.2.1
theorem dX12_saved_148 : decode cX12_saved 148 = .ok (.iconst 1, 1) := dkg_X12_357.2.2.2.2.2.2.2.2.1
theorem dX12_saved_149 : decode cX12_saved 149 = .ok (.iadd, 1) := dkg_X12_357.2.2.2.2.2.2.2.2.2.1
theorem dkg_X12_358 : dkp cX12_saved [(150, .istore 5, 2), (152, .goto (-116), 3), (155, .iinc 4 1, 3), (158, .goto (-131), 3), (161, .aload_n 0, 1), (162, .iload_n 3, 1), (163, .invokevirtual 158, 3), (166, .ireturn, 1)] := dkf (by decide +kernel)
theorem dX12_saved_150 : decode cX12_saved 150 = .ok (.istore 5, 2) := dkg_X12_358.1
theorem dX12_saved_152 : decode cX12_saved 152 = .ok (.goto (-116), 3) := dkg_X12_358.2.1
theorem dX12_saved_155 : decode cX12_saved 155 = .ok (.iinc 4 1, 3) := dkg_X12_358.2.2.1
theorem dX12_saved_158 : decode cX12_saved 158 = .ok (.goto (-131), 3) := dkg_X12_358.2.2.2.1
theorem dX12_saved_161 : decode cX12_saved 161 = .ok (.aload_n 0, 1) := dkg_X12_358.2.2.2.2.1
theorem dX12_saved_162 : decode cX12_saved 162 = .ok (.iload_n 3, 1) := dkg_X12_358.2.2.2.2.2.1
theorem dX12_saved_163 : decode cX12_saved 163 = .ok (.invokevirtual 158, 3) := dkg_X12_358.2.2.2.2.2.2.1
theorem dX12_saved_166 : decode cX12_saved 166 = .ok (.ireturn, 1) := dkg_X12_358.2.2.2.2.2.2.2.1
theorem dkg_X12_359 : dkp cX12_addRow [(0, .sipush 6008, 3), (3, .iload_n 1, 1), (4, .imul, 1), (5, .aload_n 0, 1), (6, .getfield 116, 3), (9, .iload_n 1, 1), (10, .iaload, 1), (11, .iadd, 1), (12, .istore 5, 2), (14, .aload_n 0, 1)] := dkf (by decide +kernel)
theorem dX12_addRow_0 : decode cX12_addRow 0 = .ok (.sipush 6008, 3) := dkg_X12_359.1
theorem dX12_addRow_3 : decode cX12_addRow 3 = .ok (.iload_n 1, 1) := dkg_X12_359.2.1
theorem dX12_addRow_4 : decode cX12_addRow 4 = .ok (.imul, 1) := dkg_X12_359.2.2.1
theorem dX12_addRow_5 : decode cX12_addRow 5 = .ok (.aload_n 0, 1) := dkg_X12_359.2.2.2.1
theorem dX12_addRow_6 : decode cX12_addRow 6 = .ok (.getfield 116, 3) := dkg_X12_359.2.2.2.2.1
theorem dX12_addRow_9 : decode cX12_addRow 9 = .ok (.iload_n 1, 1) := dkg_X12_359.2.2.2.2.2.1
theorem dX12_addRow_10 : decode cX12_addRow 10 = .ok (.iaload, 1) := dkg_X12_359.2.2.2.2.2.2.1
theorem dX12_addRow_11 : decode cX12_addRow 11 = .ok (.iadd, 1) := dkg_X12_359.2.2.2.2.2.2.2.1
theorem dX12_addRow_12 : decode cX12_addRow 12 = .ok (.istore 5, 2) := dkg_X12_359.2.2.2.2.2.2.2.2.1
theorem dX12_addRow_14 : decode cX12_addRow 14 = .ok (.aload_n 0, 1) := dkg_X12_359.2.2.2.2.2.2.2.2.2.1
theorem dkg_X12_360 : dkp cX12_addRow [(15, .getfield 107, 3), (18, .iload 5, 2), (20, .iload_n 2, 1), (21, .iastore, 1), (22, .aload_n 0, 1), (23, .getfield 110, 3), (26, .iload 5, 2), (28, .iload_n 3, 1), (29, .iastore, 1), (30, .aload_n 0, 1)] := dkf (by decide +kernel)
theorem dX12_addRow_15 : decode cX12_addRow 15 = .ok (.getfield 107, 3) := dkg_X12_360.1
theorem dX12_addRow_18 : decode cX12_addRow 18 = .ok (.iload 5, 2) := dkg_X12_360.2.1
theorem dX12_addRow_20 : decode cX12_addRow 20 = .ok (.iload_n 2, 1) := dkg_X12_360.2.2.1
theorem dX12_addRow_21 : decode cX12_addRow 21 = .ok (.iastore, 1) := dkg_X12_360.2.2.2.1
theorem dX12_addRow_22 : decode cX12_addRow 22 = .ok (.aload_n 0, 1) := dkg_X12_360.2.2.2.2.1
theorem dX12_addRow_23 : decode cX12_addRow 23 = .ok (.getfield 110, 3) := dkg_X12_360.2.2.2.2.2.1
theorem dX12_addRow_26 : decode cX12_addRow 26 = .ok (.iload 5, 2) := dkg_X12_360.2.2.2.2.2.2.1
theorem dX12_addRow_28 : decode cX12_addRow 28 = .ok (.iload_n 3, 1) := dkg_X12_360.2.2.2.2.2.2.2.1
theorem dX12_addRow_29 : decode cX12_addRow 29 = .ok (.iastore, 1) := dkg_X12_360.2.2.2.2.2.2.2.2.1
theorem dX12_addRow_30 : decode cX12_addRow 30 = .ok (.aload_n 0, 1) := dkg_X12_360.2.2.2.2.2.2.2.2.2.1
theorem dkg_X12_361 : dkp cX12_addRow [(31, .getfield 113, 3), (34, .iload 5, 2), (36, .iload 4, 2), (38, .iastore, 1), (39, .aload_n 0, 1), (40, .getfield 116, 3), (43, .iload_n 1, 1), (44, .dup2, 1), (45, .iaload, 1), (46, .iconst 1, 1)] := dkf (by decide +kernel)
theorem dX12_addRow_31 : decode cX12_addRow 31 = .ok (.getfield 113, 3) := dkg_X12_361.1
theorem dX12_addRow_34 : decode cX12_addRow 34 = .ok (.iload 5, 2) := dkg_X12_361.2.1
theorem dX12_addRow_36 : decode cX12_addRow 36 = .ok (.iload 4, 2) := dkg_X12_361.2.2.1
theorem dX12_addRow_38 : decode cX12_addRow 38 = .ok (.iastore, 1) := dkg_X12_361.2.2.2.1
theorem dX12_addRow_39 : decode cX12_addRow 39 = .ok (.aload_n 0, 1) := dkg_X12_361.2.2.2.2.1
theorem dX12_addRow_40 : decode cX12_addRow 40 = .ok (.getfield 116, 3) := dkg_X12_361.2.2.2.2.2.1
theorem dX12_addRow_43 : decode cX12_addRow 43 = .ok (.iload_n 1, 1) := dkg_X12_361.2.2.2.2.2.2.1
theorem dX12_addRow_44 : decode cX12_addRow 44 = .ok (.dup2, 1) := dkg_X12_361.2.2.2.2.2.2.2.1
theorem dX12_addRow_45 : decode cX12_addRow 45 = .ok (.iaload, 1) := dkg_X12_361.2.2.2.2.2.2.2.2.1
theorem dX12_addRow_46 : decode cX12_addRow 46 = .ok (.iconst 1, 1) := dkg_X12_361.2.2.2.2.2.2.2.2.2.1
theorem dkg_X12_362 : dkp cX12_addRow [(47, .iadd, 1), (48, .iastore, 1), (49, .return_, 1)] := dkf (by decide +kernel)
theorem dX12_addRow_47 : decode cX12_addRow 47 = .ok (.iadd, 1) := dkg_X12_362.1
theorem dX12_addRow_48 : decode cX12_addRow 48 = .ok (.iastore, 1) := dkg_X12_362.2.1
theorem dX12_addRow_49 : decode cX12_addRow 49 = .ok (.return_, 1) := dkg_X12_362.2.2.1
theorem dkg_X12_363 : dkp cX12_addIndicator [(0, .iconst 4, 1), (1, .iload_n 2, 1), (2, .imul, 1), (3, .iload_n 3, 1), (4, .iadd, 1), (5, .istore 4, 2), (7, .aload_n 0, 1), (8, .getfield 52, 3), (11, .iload 4, 2), (13, .iaload, 1)] := dkf (by decide +kernel)
theorem dX12_addIndicator_0 : decode cX12_addIndicator 0 = .ok (.iconst 4, 1) := dkg_X12_363.1
theorem dX12_addIndicator_1 : decode cX12_addIndicator 1 = .ok (.iload_n 2, 1) := dkg_X12_363.2.1
theorem dX12_addIndicator_2 : decode cX12_addIndicator 2 = .ok (.imul, 1) := dkg_X12_363.2.2.1
theorem dX12_addIndicator_3 : decode cX12_addIndicator 3 = .ok (.iload_n 3, 1) := dkg_X12_363.2.2.2.1
theorem dX12_addIndicator_4 : decode cX12_addIndicator 4 = .ok (.iadd, 1) := dkg_X12_363.2.2.2.2.1
theorem dX12_addIndicator_5 : decode cX12_addIndicator 5 = .ok (.istore 4, 2) := dkg_X12_363.2.2.2.2.2.1
theorem dX12_addIndicator_7 : decode cX12_addIndicator 7 = .ok (.aload_n 0, 1) := dkg_X12_363.2.2.2.2.2.2.1
theorem dX12_addIndicator_8 : decode cX12_addIndicator 8 = .ok (.getfield 52, 3) := dkg_X12_363.2.2.2.2.2.2.2.1
theorem dX12_addIndicator_11 : decode cX12_addIndicator 11 = .ok (.iload 4, 2) := dkg_X12_363.2.2.2.2.2.2.2.2.1
theorem dX12_addIndicator_13 : decode cX12_addIndicator 13 = .ok (.iaload, 1) := dkg_X12_363.2.2.2.2.2.2.2.2.2.1
theorem dkg_X12_364 : dkp cX12_addIndicator [(14, .ifCond .le 22, 3), (17, .aload_n 0, 1), (18, .iload_n 1, 1), (19, .iconst (-1), 1), (20, .iload_n 3, 1), (21, .isub, 1), (22, .iconst 4, 1), (23, .iload 4, 2), (25, .imul, 1), (26, .aload_n 0, 1)] := dkf (by decide +kernel)
theorem dX12_addIndicator_14 : decode cX12_addIndicator 14 = .ok (.ifCond .le 22, 3) := dkg_X12_364.1
theorem dX12_addIndicator_17 : decode cX12_addIndicator 17 = .ok (.aload_n 0, 1) := dkg_X12_364.2.1
theorem dX12_addIndicator_18 : decode cX12_addIndicator 18 = .ok (.iload_n 1, 1) := dkg_X12_364.2.2.1
theorem dX12_addIndicator_19 : decode cX12_addIndicator 19 = .ok (.iconst (-1), 1) := dkg_X12_364.2.2.2.1
theorem dX12_addIndicator_20 : decode cX12_addIndicator 20 = .ok (.iload_n 3, 1) := dkg_X12_364.2.2.2.2.1
theorem dX12_addIndicator_21 : decode cX12_addIndicator 21 = .ok (.isub, 1) := dkg_X12_364.2.2.2.2.2.1
theorem dX12_addIndicator_22 : decode cX12_addIndicator 22 = .ok (.iconst 4, 1) := dkg_X12_364.2.2.2.2.2.2.1
theorem dX12_addIndicator_23 : decode cX12_addIndicator 23 = .ok (.iload 4, 2) := dkg_X12_364.2.2.2.2.2.2.2.1
theorem dX12_addIndicator_25 : decode cX12_addIndicator 25 = .ok (.imul, 1) := dkg_X12_364.2.2.2.2.2.2.2.2.1
theorem dX12_addIndicator_26 : decode cX12_addIndicator 26 = .ok (.aload_n 0, 1) := dkg_X12_364.2.2.2.2.2.2.2.2.2.1
theorem dkg_X12_365 : dkp cX12_addIndicator [(27, .getfield 52, 3), (30, .iload 4, 2), (32, .iaload, 1), (33, .invokevirtual 314, 3), (36, .return_, 1)] := dkf (by decide +kernel)
theorem dX12_addIndicator_27 : decode cX12_addIndicator 27 = .ok (.getfield 52, 3) := dkg_X12_365.1
theorem dX12_addIndicator_30 : decode cX12_addIndicator 30 = .ok (.iload 4, 2) := dkg_X12_365.2.1
theorem dX12_addIndicator_32 : decode cX12_addIndicator 32 = .ok (.iaload, 1) := dkg_X12_365.2.2.1
theorem dX12_addIndicator_33 : decode cX12_addIndicator 33 = .ok (.invokevirtual 314, 3) := dkg_X12_365.2.2.2.1
theorem dX12_addIndicator_36 : decode cX12_addIndicator 36 = .ok (.return_, 1) := dkg_X12_365.2.2.2.2.1
theorem dkg_X12_366 : dkp cX12_addRows [(0, .aload_n 0, 1), (1, .getfield 116, 3), (4, .iload_n 1, 1), (5, .iconst 0, 1), (6, .iastore, 1), (7, .iload_n 2, 1), (8, .istore_n 3, 1), (9, .iload_n 3, 1), (10, .ifCond .lt 61, 3), (13, .sipush 200, 3)] := dkf (by decide +kernel)
theorem dX12_addRows_0 : decode cX12_addRows 0 = .ok (.aload_n 0, 1) := dkg_X12_366.1
theorem dX12_addRows_1 : decode cX12_addRows 1 = .ok (.getfield 116, 3) := dkg_X12_366.2.1
theorem dX12_addRows_4 : decode cX12_addRows 4 = .ok (.iload_n 1, 1) := dkg_X12_366.2.2.1
theorem dX12_addRows_5 : decode cX12_addRows 5 = .ok (.iconst 0, 1) := dkg_X12_366.2.2.2.1
theorem dX12_addRows_6 : decode cX12_addRows 6 = .ok (.iastore, 1) := dkg_X12_366.2.2.2.2.1
theorem dX12_addRows_7 : decode cX12_addRows 7 = .ok (.iload_n 2, 1) := dkg_X12_366.2.2.2.2.2.1
theorem dX12_addRows_8 : decode cX12_addRows 8 = .ok (.istore_n 3, 1) := dkg_X12_366.2.2.2.2.2.2.1
theorem dX12_addRows_9 : decode cX12_addRows 9 = .ok (.iload_n 3, 1) := dkg_X12_366.2.2.2.2.2.2.2.1
theorem dX12_addRows_10 : decode cX12_addRows 10 = .ok (.ifCond .lt 61, 3) := dkg_X12_366.2.2.2.2.2.2.2.2.1
theorem dX12_addRows_13 : decode cX12_addRows 13 = .ok (.sipush 200, 3) := dkg_X12_366.2.2.2.2.2.2.2.2.2.1
theorem dkg_X12_367 : dkp cX12_addRows [(16, .iload_n 3, 1), (17, .imul, 1), (18, .istore 4, 2), (20, .iload 4, 2), (22, .sipush 200, 3), (25, .iload_n 3, 1), (26, .imul, 1), (27, .aload_n 0, 1), (28, .getfield 33, 3), (31, .iload_n 3, 1)] := dkf (by decide +kernel)
theorem dX12_addRows_16 : decode cX12_addRows 16 = .ok (.iload_n 3, 1) := dkg_X12_367.1
theorem dX12_addRows_17 : decode cX12_addRows 17 = .ok (.imul, 1) := dkg_X12_367.2.1
theorem dX12_addRows_18 : decode cX12_addRows 18 = .ok (.istore 4, 2) := dkg_X12_367.2.2.1
theorem dX12_addRows_20 : decode cX12_addRows 20 = .ok (.iload 4, 2) := dkg_X12_367.2.2.2.1
theorem dX12_addRows_22 : decode cX12_addRows 22 = .ok (.sipush 200, 3) := dkg_X12_367.2.2.2.2.1
theorem dX12_addRows_25 : decode cX12_addRows 25 = .ok (.iload_n 3, 1) := dkg_X12_367.2.2.2.2.2.1
theorem dX12_addRows_26 : decode cX12_addRows 26 = .ok (.imul, 1) := dkg_X12_367.2.2.2.2.2.2.1
theorem dX12_addRows_27 : decode cX12_addRows 27 = .ok (.aload_n 0, 1) := dkg_X12_367.2.2.2.2.2.2.2.1
theorem dX12_addRows_28 : decode cX12_addRows 28 = .ok (.getfield 33, 3) := dkg_X12_367.2.2.2.2.2.2.2.2.1
theorem dX12_addRows_31 : decode cX12_addRows 31 = .ok (.iload_n 3, 1) := dkg_X12_367.2.2.2.2.2.2.2.2.2.1
theorem dkg_X12_368 : dkp cX12_addRows [(32, .iaload, 1), (33, .iadd, 1), (34, .if_icmp .ge 27, 3), (37, .aload_n 0, 1), (38, .iload_n 1, 1), (39, .iload 4, 2), (41, .iconst 4, 1), (42, .iload 4, 2), (44, .imul, 1), (45, .aload_n 0, 1)] := dkf (by decide +kernel)
theorem dX12_addRows_32 : decode cX12_addRows 32 = .ok (.iaload, 1) := dkg_X12_368.1
theorem dX12_addRows_33 : decode cX12_addRows 33 = .ok (.iadd, 1) := dkg_X12_368.2.1
theorem dX12_addRows_34 : decode cX12_addRows 34 = .ok (.if_icmp .ge 27, 3) := dkg_X12_368.2.2.1
theorem dX12_addRows_37 : decode cX12_addRows 37 = .ok (.aload_n 0, 1) := dkg_X12_368.2.2.2.1
theorem dX12_addRows_38 : decode cX12_addRows 38 = .ok (.iload_n 1, 1) := dkg_X12_368.2.2.2.2.1
theorem dX12_addRows_39 : decode cX12_addRows 39 = .ok (.iload 4, 2) := dkg_X12_368.2.2.2.2.2.1
theorem dX12_addRows_41 : decode cX12_addRows 41 = .ok (.iconst 4, 1) := dkg_X12_368.2.2.2.2.2.2.1
theorem dX12_addRows_42 : decode cX12_addRows 42 = .ok (.iload 4, 2) := dkg_X12_368.2.2.2.2.2.2.2.1
theorem dX12_addRows_44 : decode cX12_addRows 44 = .ok (.imul, 1) := dkg_X12_368.2.2.2.2.2.2.2.2.1
theorem dX12_addRows_45 : decode cX12_addRows 45 = .ok (.aload_n 0, 1) := dkg_X12_368.2.2.2.2.2.2.2.2.2.1
theorem dkg_X12_369 : dkp cX12_addRows [(46, .getfield 42, 3), (49, .iload 4, 2), (51, .iaload, 1), (52, .invokevirtual 314, 3), (55, .iinc 4 1, 3), (58, .goto (-38), 3), (61, .aload_n 0, 1), (62, .getfield 27, 3), (65, .iload_n 3, 1), (66, .iaload, 1)] := dkf (by decide +kernel)
theorem dX12_addRows_46 : decode cX12_addRows 46 = .ok (.getfield 42, 3) := dkg_X12_369.1
theorem dX12_addRows_49 : decode cX12_addRows 49 = .ok (.iload 4, 2) := dkg_X12_369.2.1
theorem dX12_addRows_51 : decode cX12_addRows 51 = .ok (.iaload, 1) := dkg_X12_369.2.2.1
theorem dX12_addRows_52 : decode cX12_addRows 52 = .ok (.invokevirtual 314, 3) := dkg_X12_369.2.2.2.1
theorem dX12_addRows_55 : decode cX12_addRows 55 = .ok (.iinc 4 1, 3) := dkg_X12_369.2.2.2.2.1
theorem dX12_addRows_58 : decode cX12_addRows 58 = .ok (.goto (-38), 3) := dkg_X12_369.2.2.2.2.2.1
theorem dX12_addRows_61 : decode cX12_addRows 61 = .ok (.aload_n 0, 1) := dkg_X12_369.2.2.2.2.2.2.1
theorem dX12_addRows_62 : decode cX12_addRows 62 = .ok (.getfield 27, 3) := dkg_X12_369.2.2.2.2.2.2.2.1
theorem dX12_addRows_65 : decode cX12_addRows 65 = .ok (.iload_n 3, 1) := dkg_X12_369.2.2.2.2.2.2.2.2.1
theorem dX12_addRows_66 : decode cX12_addRows 66 = .ok (.iaload, 1) := dkg_X12_369.2.2.2.2.2.2.2.2.2.1
theorem dkg_X12_370 : dkp cX12_addRows [(67, .istore_n 3, 1), (68, .goto (-59), 3), (71, .aload_n 0, 1), (72, .iload_n 1, 1), (73, .iload_n 2, 1), (74, .iconst 0, 1), (75, .invokevirtual 317, 3), (78, .aload_n 0, 1), (79, .iload_n 1, 1), (80, .iload_n 2, 1)] := dkf (by decide +kernel)
theorem dX12_addRows_67 : decode cX12_addRows 67 = .ok (.istore_n 3, 1) := dkg_X12_370.1
theorem dX12_addRows_68 : decode cX12_addRows 68 = .ok (.goto (-59), 3) := dkg_X12_370.2.1
theorem dX12_addRows_71 : decode cX12_addRows 71 = .ok (.aload_n 0, 1) := dkg_X12_370.2.2.1
theorem dX12_addRows_72 : decode cX12_addRows 72 = .ok (.iload_n 1, 1) := dkg_X12_370.2.2.2.1
theorem dX12_addRows_73 : decode cX12_addRows 73 = .ok (.iload_n 2, 1) := dkg_X12_370.2.2.2.2.1
theorem dX12_addRows_74 : decode cX12_addRows 74 = .ok (.iconst 0, 1) := dkg_X12_370.2.2.2.2.2.1
theorem dX12_addRows_75 : decode cX12_addRows 75 = .ok (.invokevirtual 317, 3) := dkg_X12_370.2.2.2.2.2.2.1
theorem dX12_addRows_78 : decode cX12_addRows 78 = .ok (.aload_n 0, 1) := dkg_X12_370.2.2.2.2.2.2.2.1
theorem dX12_addRows_79 : decode cX12_addRows 79 = .ok (.iload_n 1, 1) := dkg_X12_370.2.2.2.2.2.2.2.2.1
theorem dX12_addRows_80 : decode cX12_addRows 80 = .ok (.iload_n 2, 1) := dkg_X12_370.2.2.2.2.2.2.2.2.2.1
theorem dkg_X12_371 : dkp cX12_addRows [(81, .iconst 1, 1), (82, .invokevirtual 317, 3), (85, .return_, 1)] := dkf (by decide +kernel)
theorem dX12_addRows_81 : decode cX12_addRows 81 = .ok (.iconst 1, 1) := dkg_X12_371.1
theorem dX12_addRows_82 : decode cX12_addRows 82 = .ok (.invokevirtual 317, 3) := dkg_X12_371.2.1
theorem dX12_addRows_85 : decode cX12_addRows 85 = .ok (.return_, 1) := dkg_X12_371.2.2.1
theorem dkg_X12_372 : dkp cX12_gather [(0, .aload_n 0, 1), (1, .getfield 116, 3), (4, .iconst 1, 1), (5, .iconst 0, 1), (6, .iastore, 1), (7, .aload_n 0, 1), (8, .getfield 21, 3), (11, .iload_n 1, 1), (12, .iaload, 1), (13, .iconst 5, 1)] := dkf (by decide +kernel)
theorem dX12_gather_0 : decode cX12_gather 0 = .ok (.aload_n 0, 1) := dkg_X12_372.1
theorem dX12_gather_1 : decode cX12_gather 1 = .ok (.getfield 116, 3) := dkg_X12_372.2.1
theorem dX12_gather_4 : decode cX12_gather 4 = .ok (.iconst 1, 1) := dkg_X12_372.2.2.1
theorem dX12_gather_5 : decode cX12_gather 5 = .ok (.iconst 0, 1) := dkg_X12_372.2.2.2.1
theorem dX12_gather_6 : decode cX12_gather 6 = .ok (.iastore, 1) := dkg_X12_372.2.2.2.2.1
theorem dX12_gather_7 : decode cX12_gather 7 = .ok (.aload_n 0, 1) := dkg_X12_372.2.2.2.2.2.1
theorem dX12_gather_8 : decode cX12_gather 8 = .ok (.getfield 21, 3) := dkg_X12_372.2.2.2.2.2.2.1
theorem dX12_gather_11 : decode cX12_gather 11 = .ok (.iload_n 1, 1) := dkg_X12_372.2.2.2.2.2.2.2.1
theorem dX12_gather_12 : decode cX12_gather 12 = .ok (.iaload, 1) := dkg_X12_372.2.2.2.2.2.2.2.2.1
theorem dX12_gather_13 : decode cX12_gather 13 = .ok (.iconst 5, 1) := dkg_X12_372.2.2.2.2.2.2.2.2.2.1
theorem dkg_X12_373 : dkp cX12_gather [(14, .if_icmp .eq 10, 3), (17, .aload_n 0, 1), (18, .iconst 0, 1), (19, .iload_n 1, 1), (20, .invokevirtual 321, 3), (23, .return_, 1), (24, .aload_n 0, 1), (25, .iconst 0, 1), (26, .aload_n 0, 1), (27, .getfield 27, 3)] := dkf (by decide +kernel)
theorem dX12_gather_14 : decode cX12_gather 14 = .ok (.if_icmp .eq 10, 3) := dkg_X12_373.1
theorem dX12_gather_17 : decode cX12_gather 17 = .ok (.aload_n 0, 1) := dkg_X12_373.2.1
theorem dX12_gather_18 : decode cX12_gather 18 = .ok (.iconst 0, 1) := dkg_X12_373.2.2.1
theorem dX12_gather_19 : decode cX12_gather 19 = .ok (.iload_n 1, 1) := dkg_X12_373.2.2.2.1
theorem dX12_gather_20 : decode cX12_gather 20 = .ok (.invokevirtual 321, 3) := dkg_X12_373.2.2.2.2.1
theorem dX12_gather_23 : decode cX12_gather 23 = .ok (.return_, 1) := dkg_X12_373.2.2.2.2.2.1
theorem dX12_gather_24 : decode cX12_gather 24 = .ok (.aload_n 0, 1) := dkg_X12_373.2.2.2.2.2.2.1
theorem dX12_gather_25 : decode cX12_gather 25 = .ok (.iconst 0, 1) := dkg_X12_373.2.2.2.2.2.2.2.1
theorem dX12_gather_26 : decode cX12_gather 26 = .ok (.aload_n 0, 1) := dkg_X12_373.2.2.2.2.2.2.2.2.1
theorem dX12_gather_27 : decode cX12_gather 27 = .ok (.getfield 27, 3) := dkg_X12_373.2.2.2.2.2.2.2.2.2.1
theorem dkg_X12_374 : dkp cX12_gather [(30, .iload_n 1, 1), (31, .iaload, 1), (32, .invokevirtual 321, 3), (35, .aload_n 0, 1), (36, .iconst 0, 1), (37, .iload_n 1, 1), (38, .iconst 2, 1), (39, .invokevirtual 317, 3), (42, .aload_n 0, 1), (43, .iconst 1, 1)] := dkf (by decide +kernel)
theorem dX12_gather_30 : decode cX12_gather 30 = .ok (.iload_n 1, 1) := dkg_X12_374.1
theorem dX12_gather_31 : decode cX12_gather 31 = .ok (.iaload, 1) := dkg_X12_374.2.1
theorem dX12_gather_32 : decode cX12_gather 32 = .ok (.invokevirtual 321, 3) := dkg_X12_374.2.2.1
theorem dX12_gather_35 : decode cX12_gather 35 = .ok (.aload_n 0, 1) := dkg_X12_374.2.2.2.1
theorem dX12_gather_36 : decode cX12_gather 36 = .ok (.iconst 0, 1) := dkg_X12_374.2.2.2.2.1
theorem dX12_gather_37 : decode cX12_gather 37 = .ok (.iload_n 1, 1) := dkg_X12_374.2.2.2.2.2.1
theorem dX12_gather_38 : decode cX12_gather 38 = .ok (.iconst 2, 1) := dkg_X12_374.2.2.2.2.2.2.1
theorem dX12_gather_39 : decode cX12_gather 39 = .ok (.invokevirtual 317, 3) := dkg_X12_374.2.2.2.2.2.2.2.1
theorem dX12_gather_42 : decode cX12_gather 42 = .ok (.aload_n 0, 1) := dkg_X12_374.2.2.2.2.2.2.2.2.1
theorem dX12_gather_43 : decode cX12_gather 43 = .ok (.iconst 1, 1) := dkg_X12_374.2.2.2.2.2.2.2.2.2.1
theorem dkg_X12_375 : dkp cX12_gather [(44, .aload_n 0, 1), (45, .getfield 30, 3), (48, .iload_n 1, 1), (49, .iaload, 1), (50, .invokevirtual 321, 3), (53, .aload_n 0, 1), (54, .iconst 1, 1), (55, .iload_n 1, 1), (56, .iconst 3, 1), (57, .invokevirtual 317, 3)] := dkf (by decide +kernel)
theorem dX12_gather_44 : decode cX12_gather 44 = .ok (.aload_n 0, 1) := dkg_X12_375.1
theorem dX12_gather_45 : decode cX12_gather 45 = .ok (.getfield 30, 3) := dkg_X12_375.2.1
theorem dX12_gather_48 : decode cX12_gather 48 = .ok (.iload_n 1, 1) := dkg_X12_375.2.2.1
theorem dX12_gather_49 : decode cX12_gather 49 = .ok (.iaload, 1) := dkg_X12_375.2.2.2.1
theorem dX12_gather_50 : decode cX12_gather 50 = .ok (.invokevirtual 321, 3) := dkg_X12_375.2.2.2.2.1
theorem dX12_gather_53 : decode cX12_gather 53 = .ok (.aload_n 0, 1) := dkg_X12_375.2.2.2.2.2.1
theorem dX12_gather_54 : decode cX12_gather 54 = .ok (.iconst 1, 1) := dkg_X12_375.2.2.2.2.2.2.1
theorem dX12_gather_55 : decode cX12_gather 55 = .ok (.iload_n 1, 1) := dkg_X12_375.2.2.2.2.2.2.2.1
theorem dX12_gather_56 : decode cX12_gather 56 = .ok (.iconst 3, 1) := dkg_X12_375.2.2.2.2.2.2.2.2.1
theorem dX12_gather_57 : decode cX12_gather 57 = .ok (.invokevirtual 317, 3) := dkg_X12_375.2.2.2.2.2.2.2.2.2.1
theorem dkg_X12_376 : dkp cX12_gather [(60, .return_, 1)] := dkf (by decide +kernel)
theorem dX12_gather_60 : decode cX12_gather 60 = .ok (.return_, 1) := dkg_X12_376.1
theorem dkg_X12_377 : dkp cX12_rowCell [(0, .aload_n 0, 1), (1, .getfield 107, 3), (4, .iload_n 1, 1), (5, .iaload, 1), (6, .ifCond .lt 19, 3), (9, .aload_n 0, 1), (10, .getfield 49, 3), (13, .aload_n 0, 1), (14, .getfield 110, 3), (17, .iload_n 1, 1)] := dkf (by decide +kernel)
theorem dX12_rowCell_0 : decode cX12_rowCell 0 = .ok (.aload_n 0, 1) := dkg_X12_377.1
theorem dX12_rowCell_1 : decode cX12_rowCell 1 = .ok (.getfield 107, 3) := dkg_X12_377.2.1
theorem dX12_rowCell_4 : decode cX12_rowCell 4 = .ok (.iload_n 1, 1) := dkg_X12_377.2.2.1
theorem dX12_rowCell_5 : decode cX12_rowCell 5 = .ok (.iaload, 1) := dkg_X12_377.2.2.2.1
theorem dX12_rowCell_6 : decode cX12_rowCell 6 = .ok (.ifCond .lt 19, 3) := dkg_X12_377.2.2.2.2.1
theorem dX12_rowCell_9 : decode cX12_rowCell 9 = .ok (.aload_n 0, 1) := dkg_X12_377.2.2.2.2.2.1
theorem dX12_rowCell_10 : decode cX12_rowCell 10 = .ok (.getfield 49, 3) := dkg_X12_377.2.2.2.2.2.2.1
theorem dX12_rowCell_13 : decode cX12_rowCell 13 = .ok (.aload_n 0, 1) := dkg_X12_377.2.2.2.2.2.2.2.1
theorem dX12_rowCell_14 : decode cX12_rowCell 14 = .ok (.getfield 110, 3) := dkg_X12_377.2.2.2.2.2.2.2.2.1
theorem dX12_rowCell_17 : decode cX12_rowCell 17 = .ok (.iload_n 1, 1) := dkg_X12_377.2.2.2.2.2.2.2.2.2.1
theorem dkg_X12_378 : dkp cX12_rowCell [(18, .iaload, 1), (19, .iload_n 2, 1), (20, .iadd, 1), (21, .iaload, 1), (22, .goto 16, 3), (25, .aload_n 0, 1), (26, .getfield 55, 3), (29, .aload_n 0, 1), (30, .getfield 110, 3), (33, .iload_n 1, 1)] := dkf (by decide +kernel)
theorem dX12_rowCell_18 : decode cX12_rowCell 18 = .ok (.iaload, 1) := dkg_X12_378.1
theorem dX12_rowCell_19 : decode cX12_rowCell 19 = .ok (.iload_n 2, 1) := dkg_X12_378.2.1
theorem dX12_rowCell_20 : decode cX12_rowCell 20 = .ok (.iadd, 1) := dkg_X12_378.2.2.1
theorem dX12_rowCell_21 : decode cX12_rowCell 21 = .ok (.iaload, 1) := dkg_X12_378.2.2.2.1
theorem dX12_rowCell_22 : decode cX12_rowCell 22 = .ok (.goto 16, 3) := dkg_X12_378.2.2.2.2.1
theorem dX12_rowCell_25 : decode cX12_rowCell 25 = .ok (.aload_n 0, 1) := dkg_X12_378.2.2.2.2.2.1
theorem dX12_rowCell_26 : decode cX12_rowCell 26 = .ok (.getfield 55, 3) := dkg_X12_378.2.2.2.2.2.2.1
theorem dX12_rowCell_29 : decode cX12_rowCell 29 = .ok (.aload_n 0, 1) := dkg_X12_378.2.2.2.2.2.2.2.1
theorem dX12_rowCell_30 : decode cX12_rowCell 30 = .ok (.getfield 110, 3) := dkg_X12_378.2.2.2.2.2.2.2.2.1
theorem dX12_rowCell_33 : decode cX12_rowCell 33 = .ok (.iload_n 1, 1) := dkg_X12_378.2.2.2.2.2.2.2.2.2.1
theorem dkg_X12_379 : dkp cX12_rowCell [(34, .iaload, 1), (35, .iload_n 2, 1), (36, .iadd, 1), (37, .iaload, 1), (38, .ireturn, 1)] := dkf (by decide +kernel)
theorem dX12_rowCell_34 : decode cX12_rowCell 34 = .ok (.iaload, 1) := dkg_X12_379.1
theorem dX12_rowCell_35 : decode cX12_rowCell 35 = .ok (.iload_n 2, 1) := dkg_X12_379.2.1
theorem dX12_rowCell_36 : decode cX12_rowCell 36 = .ok (.iadd, 1) := dkg_X12_379.2.2.1
theorem dX12_rowCell_37 : decode cX12_rowCell 37 = .ok (.iaload, 1) := dkg_X12_379.2.2.2.1
theorem dX12_rowCell_38 : decode cX12_rowCell 38 = .ok (.ireturn, 1) := dkg_X12_379.2.2.2.2.1
theorem dkg_X12_380 : dkp cX12_isSmallRule [(0, .aload_n 0, 1), (1, .getfield 107, 3), (4, .iload_n 1, 1), (5, .iaload, 1), (6, .ifCond .lt 27, 3), (9, .aload_n 0, 1), (10, .getfield 46, 3), (13, .bipush 8, 2), (15, .aload_n 0, 1), (16, .getfield 107, 3)] := dkf (by decide +kernel)
theorem dX12_isSmallRule_0 : decode cX12_isSmallRule 0 = .ok (.aload_n 0, 1) := dkg_X12_380.1
theorem dX12_isSmallRule_1 : decode cX12_isSmallRule 1 = .ok (.getfield 107, 3) := dkg_X12_380.2.1
theorem dX12_isSmallRule_4 : decode cX12_isSmallRule 4 = .ok (.iload_n 1, 1) := dkg_X12_380.2.2.1
theorem dX12_isSmallRule_5 : decode cX12_isSmallRule 5 = .ok (.iaload, 1) := dkg_X12_380.2.2.2.1
theorem dX12_isSmallRule_6 : decode cX12_isSmallRule 6 = .ok (.ifCond .lt 27, 3) := dkg_X12_380.2.2.2.2.1
theorem dX12_isSmallRule_9 : decode cX12_isSmallRule 9 = .ok (.aload_n 0, 1) := dkg_X12_380.2.2.2.2.2.1
theorem dX12_isSmallRule_10 : decode cX12_isSmallRule 10 = .ok (.getfield 46, 3) := dkg_X12_380.2.2.2.2.2.2.1
theorem dX12_isSmallRule_13 : decode cX12_isSmallRule 13 = .ok (.bipush 8, 2) := dkg_X12_380.2.2.2.2.2.2.2.1
theorem dX12_isSmallRule_15 : decode cX12_isSmallRule 15 = .ok (.aload_n 0, 1) := dkg_X12_380.2.2.2.2.2.2.2.2.1
theorem dX12_isSmallRule_16 : decode cX12_isSmallRule 16 = .ok (.getfield 107, 3) := dkg_X12_380.2.2.2.2.2.2.2.2.2.1
theorem dkg_X12_381 : dkp cX12_isSmallRule [(19, .iload_n 1, 1), (20, .iaload, 1), (21, .imul, 1), (22, .iaload, 1), (23, .invokestatic 208, 3), (26, .ifCond .eq 7, 3), (29, .iconst 1, 1), (30, .goto 4, 3), (33, .iconst 0, 1), (34, .ireturn, 1)] := dkf (by decide +kernel)
theorem dX12_isSmallRule_19 : decode cX12_isSmallRule 19 = .ok (.iload_n 1, 1) := dkg_X12_381.1
theorem dX12_isSmallRule_20 : decode cX12_isSmallRule 20 = .ok (.iaload, 1) := dkg_X12_381.2.1
theorem dX12_isSmallRule_21 : decode cX12_isSmallRule 21 = .ok (.imul, 1) := dkg_X12_381.2.2.1
theorem dX12_isSmallRule_22 : decode cX12_isSmallRule 22 = .ok (.iaload, 1) := dkg_X12_381.2.2.2.1
theorem dX12_isSmallRule_23 : decode cX12_isSmallRule 23 = .ok (.invokestatic 208, 3) := dkg_X12_381.2.2.2.2.1
theorem dX12_isSmallRule_26 : decode cX12_isSmallRule 26 = .ok (.ifCond .eq 7, 3) := dkg_X12_381.2.2.2.2.2.1
theorem dX12_isSmallRule_29 : decode cX12_isSmallRule 29 = .ok (.iconst 1, 1) := dkg_X12_381.2.2.2.2.2.2.1
theorem dX12_isSmallRule_30 : decode cX12_isSmallRule 30 = .ok (.goto 4, 3) := dkg_X12_381.2.2.2.2.2.2.2.1
theorem dX12_isSmallRule_33 : decode cX12_isSmallRule 33 = .ok (.iconst 0, 1) := dkg_X12_381.2.2.2.2.2.2.2.2.1
theorem dX12_isSmallRule_34 : decode cX12_isSmallRule 34 = .ok (.ireturn, 1) := dkg_X12_381.2.2.2.2.2.2.2.2.2.1
theorem dkg_X12_382 : dkp cX12_stands [(0, .iload_n 2, 1), (1, .aload_n 0, 1), (2, .getfield 113, 3), (5, .iload_n 1, 1), (6, .iaload, 1), (7, .iadd, 1), (8, .iload_n 3, 1), (9, .if_icmp .gt 7, 3), (12, .iconst 1, 1), (13, .goto 4, 3)] := dkf (by decide +kernel)
theorem dX12_stands_0 : decode cX12_stands 0 = .ok (.iload_n 2, 1) := dkg_X12_382.1
theorem dX12_stands_1 : decode cX12_stands 1 = .ok (.aload_n 0, 1) := dkg_X12_382.2.1
theorem dX12_stands_2 : decode cX12_stands 2 = .ok (.getfield 113, 3) := dkg_X12_382.2.2.1
theorem dX12_stands_5 : decode cX12_stands 5 = .ok (.iload_n 1, 1) := dkg_X12_382.2.2.2.1
theorem dX12_stands_6 : decode cX12_stands 6 = .ok (.iaload, 1) := dkg_X12_382.2.2.2.2.1
theorem dX12_stands_7 : decode cX12_stands 7 = .ok (.iadd, 1) := dkg_X12_382.2.2.2.2.2.1
theorem dX12_stands_8 : decode cX12_stands 8 = .ok (.iload_n 3, 1) := dkg_X12_382.2.2.2.2.2.2.1
theorem dX12_stands_9 : decode cX12_stands 9 = .ok (.if_icmp .gt 7, 3) := dkg_X12_382.2.2.2.2.2.2.2.1
theorem dX12_stands_12 : decode cX12_stands 12 = .ok (.iconst 1, 1) := dkg_X12_382.2.2.2.2.2.2.2.2.1
theorem dX12_stands_13 : decode cX12_stands 13 = .ok (.goto 4, 3) := dkg_X12_382.2.2.2.2.2.2.2.2.2.1
theorem dkg_X12_383 : dkp cX12_stands [(16, .iconst 0, 1), (17, .istore 4, 2), (19, .iconst 0, 1), (20, .istore 5, 2), (22, .iload 5, 2), (24, .aload_n 0, 1), (25, .getfield 113, 3), (28, .iload_n 1, 1), (29, .iaload, 1), (30, .if_icmp .ge 40, 3)] := dkf (by decide +kernel)
theorem dX12_stands_16 : decode cX12_stands 16 = .ok (.iconst 0, 1) := dkg_X12_383.1
theorem dX12_stands_17 : decode cX12_stands 17 = .ok (.istore 4, 2) := dkg_X12_383.2.1
theorem dX12_stands_19 : decode cX12_stands 19 = .ok (.iconst 0, 1) := dkg_X12_383.2.2.1
theorem dX12_stands_20 : decode cX12_stands 20 = .ok (.istore 5, 2) := dkg_X12_383.2.2.2.1
theorem dX12_stands_22 : decode cX12_stands 22 = .ok (.iload 5, 2) := dkg_X12_383.2.2.2.2.1
theorem dX12_stands_24 : decode cX12_stands 24 = .ok (.aload_n 0, 1) := dkg_X12_383.2.2.2.2.2.1
theorem dX12_stands_25 : decode cX12_stands 25 = .ok (.getfield 113, 3) := dkg_X12_383.2.2.2.2.2.2.1
theorem dX12_stands_28 : decode cX12_stands 28 = .ok (.iload_n 1, 1) := dkg_X12_383.2.2.2.2.2.2.2.1
theorem dX12_stands_29 : decode cX12_stands 29 = .ok (.iaload, 1) := dkg_X12_383.2.2.2.2.2.2.2.2.1
theorem dX12_stands_30 : decode cX12_stands 30 = .ok (.if_icmp .ge 40, 3) := dkg_X12_383.2.2.2.2.2.2.2.2.2.1
theorem dkg_X12_384 : dkp cX12_stands [(33, .iload 4, 2), (35, .ifCond .eq 35, 3), (38, .aload_n 0, 1), (39, .iload_n 1, 1), (40, .iload 5, 2), (42, .invokevirtual 324, 3), (45, .aload_n 0, 1), (46, .getfield 120, 3), (49, .iload_n 2, 1), (50, .iload 5, 2)] := dkf (by decide +kernel)
theorem dX12_stands_33 : decode cX12_stands 33 = .ok (.iload 4, 2) := dkg_X12_384.1
theorem dX12_stands_35 : decode cX12_stands 35 = .ok (.ifCond .eq 35, 3) := dkg_X12_384.2.1
theorem dX12_stands_38 : decode cX12_stands 38 = .ok (.aload_n 0, 1) := dkg_X12_384.2.2.1
theorem dX12_stands_39 : decode cX12_stands 39 = .ok (.iload_n 1, 1) := dkg_X12_384.2.2.2.1
theorem dX12_stands_40 : decode cX12_stands 40 = .ok (.iload 5, 2) := dkg_X12_384.2.2.2.2.1
theorem dX12_stands_42 : decode cX12_stands 42 = .ok (.invokevirtual 324, 3) := dkg_X12_384.2.2.2.2.2.1
theorem dX12_stands_45 : decode cX12_stands 45 = .ok (.aload_n 0, 1) := dkg_X12_384.2.2.2.2.2.2.1
theorem dX12_stands_46 : decode cX12_stands 46 = .ok (.getfield 120, 3) := dkg_X12_384.2.2.2.2.2.2.2.1
theorem dX12_stands_49 : decode cX12_stands 49 = .ok (.iload_n 2, 1) := dkg_X12_384.2.2.2.2.2.2.2.2.1
theorem dX12_stands_50 : decode cX12_stands 50 = .ok (.iload 5, 2) := dkg_X12_384.2.2.2.2.2.2.2.2.2.1
theorem dkg_X12_385 : dkp cX12_stands [(52, .iadd, 1), (53, .iaload, 1), (54, .if_icmp .ne 7, 3), (57, .iconst 1, 1), (58, .goto 4, 3), (61, .iconst 0, 1), (62, .istore 4, 2), (64, .iinc 5 1, 3), (67, .goto (-45), 3), (70, .iload 4, 2)] := dkf (by decide +kernel)
theorem dX12_stands_52 : decode cX12_stands 52 = .ok (.iadd, 1) := dkg_X12_385.1
theorem dX12_stands_53 : decode cX12_stands 53 = .ok (.iaload, 1) := dkg_X12_385.2.1
theorem dX12_stands_54 : decode cX12_stands 54 = .ok (.if_icmp .ne 7, 3) := dkg_X12_385.2.2.1
theorem dX12_stands_57 : decode cX12_stands 57 = .ok (.iconst 1, 1) := dkg_X12_385.2.2.2.1
theorem dX12_stands_58 : decode cX12_stands 58 = .ok (.goto 4, 3) := dkg_X12_385.2.2.2.2.1
theorem dX12_stands_61 : decode cX12_stands 61 = .ok (.iconst 0, 1) := dkg_X12_385.2.2.2.2.2.1
theorem dX12_stands_62 : decode cX12_stands 62 = .ok (.istore 4, 2) := dkg_X12_385.2.2.2.2.2.2.1
theorem dX12_stands_64 : decode cX12_stands 64 = .ok (.iinc 5 1, 3) := dkg_X12_385.2.2.2.2.2.2.2.1
theorem dX12_stands_67 : decode cX12_stands 67 = .ok (.goto (-45), 3) := dkg_X12_385.2.2.2.2.2.2.2.2.1
theorem dX12_stands_70 : decode cX12_stands 70 = .ok (.iload 4, 2) := dkg_X12_385.2.2.2.2.2.2.2.2.2.1
theorem dkg_X12_386 : dkp cX12_stands [(72, .ireturn, 1)] := dkf (by decide +kernel)
theorem dX12_stands_72 : decode cX12_stands 72 = .ok (.ireturn, 1) := dkg_X12_386.1
theorem dkg_X12_387 : dkp cX12_longest [(0, .iconst (-1), 1), (1, .istore 4, 2), (3, .sipush 6008, 3), (6, .iload_n 1, 1), (7, .imul, 1), (8, .istore 5, 2), (10, .iload 5, 2), (12, .sipush 6008, 3), (15, .iload_n 1, 1), (16, .imul, 1)] := dkf (by decide +kernel)
theorem dX12_longest_0 : decode cX12_longest 0 = .ok (.iconst (-1), 1) := dkg_X12_387.1
theorem dX12_longest_1 : decode cX12_longest 1 = .ok (.istore 4, 2) := dkg_X12_387.2.1
theorem dX12_longest_3 : decode cX12_longest 3 = .ok (.sipush 6008, 3) := dkg_X12_387.2.2.1
theorem dX12_longest_6 : decode cX12_longest 6 = .ok (.iload_n 1, 1) := dkg_X12_387.2.2.2.1
theorem dX12_longest_7 : decode cX12_longest 7 = .ok (.imul, 1) := dkg_X12_387.2.2.2.2.1
theorem dX12_longest_8 : decode cX12_longest 8 = .ok (.istore 5, 2) := dkg_X12_387.2.2.2.2.2.1
theorem dX12_longest_10 : decode cX12_longest 10 = .ok (.iload 5, 2) := dkg_X12_387.2.2.2.2.2.2.1
theorem dX12_longest_12 : decode cX12_longest 12 = .ok (.sipush 6008, 3) := dkg_X12_387.2.2.2.2.2.2.2.1
theorem dX12_longest_15 : decode cX12_longest 15 = .ok (.iload_n 1, 1) := dkg_X12_387.2.2.2.2.2.2.2.2.1
theorem dX12_longest_16 : decode cX12_longest 16 = .ok (.imul, 1) := dkg_X12_387.2.2.2.2.2.2.2.2.2.1
theorem dkg_X12_388 : dkp cX12_longest [(17, .aload_n 0, 1), (18, .getfield 116, 3), (21, .iload_n 1, 1), (22, .iaload, 1), (23, .iadd, 1), (24, .if_icmp .ge 46, 3), (27, .iload 4, 2), (29, .ifCond .lt 20, 3), (32, .aload_n 0, 1), (33, .getfield 113, 3)] := dkf (by decide +kernel)
theorem dX12_longest_17 : decode cX12_longest 17 = .ok (.aload_n 0, 1) := dkg_X12_388.1
theorem dX12_longest_18 : decode cX12_longest 18 = .ok (.getfield 116, 3) := dkg_X12_388.2.1
theorem dX12_longest_21 : decode cX12_longest 21 = .ok (.iload_n 1, 1) := dkg_X12_388.2.2.1
theorem dX12_longest_22 : decode cX12_longest 22 = .ok (.iaload, 1) := dkg_X12_388.2.2.2.1
theorem dX12_longest_23 : decode cX12_longest 23 = .ok (.iadd, 1) := dkg_X12_388.2.2.2.2.1
theorem dX12_longest_24 : decode cX12_longest 24 = .ok (.if_icmp .ge 46, 3) := dkg_X12_388.2.2.2.2.2.1
theorem dX12_longest_27 : decode cX12_longest 27 = .ok (.iload 4, 2) := dkg_X12_388.2.2.2.2.2.2.1
theorem dX12_longest_29 : decode cX12_longest 29 = .ok (.ifCond .lt 20, 3) := dkg_X12_388.2.2.2.2.2.2.2.1
theorem dX12_longest_32 : decode cX12_longest 32 = .ok (.aload_n 0, 1) := dkg_X12_388.2.2.2.2.2.2.2.2.1
theorem dX12_longest_33 : decode cX12_longest 33 = .ok (.getfield 113, 3) := dkg_X12_388.2.2.2.2.2.2.2.2.2.1
theorem dkg_X12_389 : dkp cX12_longest [(36, .iload 5, 2), (38, .iaload, 1), (39, .aload_n 0, 1), (40, .getfield 113, 3), (43, .iload 4, 2), (45, .iaload, 1), (46, .if_icmp .le 18, 3), (49, .aload_n 0, 1), (50, .iload 5, 2), (52, .iload_n 2, 1)] := dkf (by decide +kernel)
theorem dX12_longest_36 : decode cX12_longest 36 = .ok (.iload 5, 2) := dkg_X12_389.1
theorem dX12_longest_38 : decode cX12_longest 38 = .ok (.iaload, 1) := dkg_X12_389.2.1
theorem dX12_longest_39 : decode cX12_longest 39 = .ok (.aload_n 0, 1) := dkg_X12_389.2.2.1
theorem dX12_longest_40 : decode cX12_longest 40 = .ok (.getfield 113, 3) := dkg_X12_389.2.2.2.1
theorem dX12_longest_43 : decode cX12_longest 43 = .ok (.iload 4, 2) := dkg_X12_389.2.2.2.2.1
theorem dX12_longest_45 : decode cX12_longest 45 = .ok (.iaload, 1) := dkg_X12_389.2.2.2.2.2.1
theorem dX12_longest_46 : decode cX12_longest 46 = .ok (.if_icmp .le 18, 3) := dkg_X12_389.2.2.2.2.2.2.1
theorem dX12_longest_49 : decode cX12_longest 49 = .ok (.aload_n 0, 1) := dkg_X12_389.2.2.2.2.2.2.2.1
theorem dX12_longest_50 : decode cX12_longest 50 = .ok (.iload 5, 2) := dkg_X12_389.2.2.2.2.2.2.2.2.1
theorem dX12_longest_52 : decode cX12_longest 52 = .ok (.iload_n 2, 1) := dkg_X12_389.2.2.2.2.2.2.2.2.2.1
theorem dkg_X12_390 : dkp cX12_longest [(53, .iload_n 3, 1), (54, .invokevirtual 327, 3), (57, .ifCond .eq 7, 3), (60, .iload 5, 2), (62, .istore 4, 2), (64, .iinc 5 1, 3), (67, .goto (-57), 3), (70, .iload 4, 2), (72, .ireturn, 1)] := dkf (by decide +kernel)
theorem dX12_longest_53 : decode cX12_longest 53 = .ok (.iload_n 3, 1) := dkg_X12_390.1
theorem dX12_longest_54 : decode cX12_longest 54 = .ok (.invokevirtual 327, 3) := dkg_X12_390.2.1
theorem dX12_longest_57 : decode cX12_longest 57 = .ok (.ifCond .eq 7, 3) := dkg_X12_390.2.2.1
theorem dX12_longest_60 : decode cX12_longest 60 = .ok (.iload 5, 2) := dkg_X12_390.2.2.2.1
theorem dX12_longest_62 : decode cX12_longest 62 = .ok (.istore 4, 2) := dkg_X12_390.2.2.2.2.1
theorem dX12_longest_64 : decode cX12_longest 64 = .ok (.iinc 5 1, 3) := dkg_X12_390.2.2.2.2.2.1
theorem dX12_longest_67 : decode cX12_longest 67 = .ok (.goto (-57), 3) := dkg_X12_390.2.2.2.2.2.2.1
theorem dX12_longest_70 : decode cX12_longest 70 = .ok (.iload 4, 2) := dkg_X12_390.2.2.2.2.2.2.2.1
theorem dX12_longest_72 : decode cX12_longest 72 = .ok (.ireturn, 1) := dkg_X12_390.2.2.2.2.2.2.2.2.1
theorem dkg_X12_391 : dkp cX12_tell [(0, .aload_n 0, 1), (1, .getfield 330, 3), (4, .sipush 4000, 3), (7, .if_icmp .ne 5, 3), (10, .iconst 0, 1), (11, .ireturn, 1), (12, .aload_n 0, 1), (13, .getfield 126, 3), (16, .aload_n 0, 1), (17, .getfield 330, 3)] := dkf (by decide +kernel)
theorem dX12_tell_0 : decode cX12_tell 0 = .ok (.aload_n 0, 1) := dkg_X12_391.1
theorem dX12_tell_1 : decode cX12_tell 1 = .ok (.getfield 330, 3) := dkg_X12_391.2.1
theorem dX12_tell_4 : decode cX12_tell 4 = .ok (.sipush 4000, 3) := dkg_X12_391.2.2.1
theorem dX12_tell_7 : decode cX12_tell 7 = .ok (.if_icmp .ne 5, 3) := dkg_X12_391.2.2.2.1
theorem dX12_tell_10 : decode cX12_tell 10 = .ok (.iconst 0, 1) := dkg_X12_391.2.2.2.2.1
theorem dX12_tell_11 : decode cX12_tell 11 = .ok (.ireturn, 1) := dkg_X12_391.2.2.2.2.2.1
theorem dX12_tell_12 : decode cX12_tell 12 = .ok (.aload_n 0, 1) := dkg_X12_391.2.2.2.2.2.2.1
theorem dX12_tell_13 : decode cX12_tell 13 = .ok (.getfield 126, 3) := dkg_X12_391.2.2.2.2.2.2.2.1
theorem dX12_tell_16 : decode cX12_tell 16 = .ok (.aload_n 0, 1) := dkg_X12_391.2.2.2.2.2.2.2.2.1
theorem dX12_tell_17 : decode cX12_tell 17 = .ok (.getfield 330, 3) := dkg_X12_391.2.2.2.2.2.2.2.2.2.1
theorem dkg_X12_392 : dkp cX12_tell [(20, .iload_n 1, 1), (21, .iastore, 1), (22, .aload_n 0, 1), (23, .dup, 1), (24, .getfield 330, 3), (27, .iconst 1, 1), (28, .iadd, 1), (29, .putfield 330, 3), (32, .iconst 1, 1), (33, .ireturn, 1)] := dkf (by decide +kernel)
theorem dX12_tell_20 : decode cX12_tell 20 = .ok (.iload_n 1, 1) := dkg_X12_392.1
theorem dX12_tell_21 : decode cX12_tell 21 = .ok (.iastore, 1) := dkg_X12_392.2.1
theorem dX12_tell_22 : decode cX12_tell 22 = .ok (.aload_n 0, 1) := dkg_X12_392.2.2.1
theorem dX12_tell_23 : decode cX12_tell 23 = .ok (.dup, 1) := dkg_X12_392.2.2.2.1
theorem dX12_tell_24 : decode cX12_tell 24 = .ok (.getfield 330, 3) := dkg_X12_392.2.2.2.2.1
theorem dX12_tell_27 : decode cX12_tell 27 = .ok (.iconst 1, 1) := dkg_X12_392.2.2.2.2.2.1
theorem dX12_tell_28 : decode cX12_tell 28 = .ok (.iadd, 1) := dkg_X12_392.2.2.2.2.2.2.1
theorem dX12_tell_29 : decode cX12_tell 29 = .ok (.putfield 330, 3) := dkg_X12_392.2.2.2.2.2.2.2.1
theorem dX12_tell_32 : decode cX12_tell 32 = .ok (.iconst 1, 1) := dkg_X12_392.2.2.2.2.2.2.2.2.1
theorem dX12_tell_33 : decode cX12_tell 33 = .ok (.ireturn, 1) := dkg_X12_392.2.2.2.2.2.2.2.2.2.1
theorem dkg_X12_393 : dkp cX12_readAll [(0, .aload_n 0, 1), (1, .iconst 0, 1), (2, .putfield 330, 3), (5, .iconst 0, 1), (6, .istore_n 1, 1), (7, .iconst 0, 1), (8, .istore_n 2, 1), (9, .iload_n 2, 1), (10, .aload_n 0, 1), (11, .getfield 333, 3)] := dkf (by decide +kernel)
theorem dX12_readAll_0 : decode cX12_readAll 0 = .ok (.aload_n 0, 1) := dkg_X12_393.1
theorem dX12_readAll_1 : decode cX12_readAll 1 = .ok (.iconst 0, 1) := dkg_X12_393.2.1
theorem dX12_readAll_2 : decode cX12_readAll 2 = .ok (.putfield 330, 3) := dkg_X12_393.2.2.1
theorem dX12_readAll_5 : decode cX12_readAll 5 = .ok (.iconst 0, 1) := dkg_X12_393.2.2.2.1
theorem dX12_readAll_6 : decode cX12_readAll 6 = .ok (.istore_n 1, 1) := dkg_X12_393.2.2.2.2.1
theorem dX12_readAll_7 : decode cX12_readAll 7 = .ok (.iconst 0, 1) := dkg_X12_393.2.2.2.2.2.1
theorem dX12_readAll_8 : decode cX12_readAll 8 = .ok (.istore_n 2, 1) := dkg_X12_393.2.2.2.2.2.2.1
theorem dX12_readAll_9 : decode cX12_readAll 9 = .ok (.iload_n 2, 1) := dkg_X12_393.2.2.2.2.2.2.2.1
theorem dX12_readAll_10 : decode cX12_readAll 10 = .ok (.aload_n 0, 1) := dkg_X12_393.2.2.2.2.2.2.2.2.1
theorem dX12_readAll_11 : decode cX12_readAll 11 = .ok (.getfield 333, 3) := dkg_X12_393.2.2.2.2.2.2.2.2.2.1
theorem dkg_X12_394 : dkp cX12_readAll [(14, .if_icmp .ge 82, 3), (17, .aload_n 0, 1), (18, .getfield 120, 3), (21, .iload_n 2, 1), (22, .iaload, 1), (23, .ifCond .ne 9, 3), (26, .iinc 2 1, 3), (29, .goto (-20), 3), (32, .iload_n 2, 1), (33, .istore_n 3, 1)] := dkf (by decide +kernel)
theorem dX12_readAll_14 : decode cX12_readAll 14 = .ok (.if_icmp .ge 82, 3) := dkg_X12_394.1
theorem dX12_readAll_17 : decode cX12_readAll 17 = .ok (.aload_n 0, 1) := dkg_X12_394.2.1
theorem dX12_readAll_18 : decode cX12_readAll 18 = .ok (.getfield 120, 3) := dkg_X12_394.2.2.1
theorem dX12_readAll_21 : decode cX12_readAll 21 = .ok (.iload_n 2, 1) := dkg_X12_394.2.2.2.1
theorem dX12_readAll_22 : decode cX12_readAll 22 = .ok (.iaload, 1) := dkg_X12_394.2.2.2.2.1
theorem dX12_readAll_23 : decode cX12_readAll 23 = .ok (.ifCond .ne 9, 3) := dkg_X12_394.2.2.2.2.2.1
theorem dX12_readAll_26 : decode cX12_readAll 26 = .ok (.iinc 2 1, 3) := dkg_X12_394.2.2.2.2.2.2.1
theorem dX12_readAll_29 : decode cX12_readAll 29 = .ok (.goto (-20), 3) := dkg_X12_394.2.2.2.2.2.2.2.1
theorem dX12_readAll_32 : decode cX12_readAll 32 = .ok (.iload_n 2, 1) := dkg_X12_394.2.2.2.2.2.2.2.2.1
theorem dX12_readAll_33 : decode cX12_readAll 33 = .ok (.istore_n 3, 1) := dkg_X12_394.2.2.2.2.2.2.2.2.2.1
theorem dkg_X12_395 : dkp cX12_readAll [(34, .iload_n 3, 1), (35, .aload_n 0, 1), (36, .getfield 333, 3), (39, .if_icmp .ge 18, 3), (42, .aload_n 0, 1), (43, .getfield 120, 3), (46, .iload_n 3, 1), (47, .iaload, 1), (48, .ifCond .eq 9, 3), (51, .iinc 3 1, 3)] := dkf (by decide +kernel)
theorem dX12_readAll_34 : decode cX12_readAll 34 = .ok (.iload_n 3, 1) := dkg_X12_395.1
theorem dX12_readAll_35 : decode cX12_readAll 35 = .ok (.aload_n 0, 1) := dkg_X12_395.2.1
theorem dX12_readAll_36 : decode cX12_readAll 36 = .ok (.getfield 333, 3) := dkg_X12_395.2.2.1
theorem dX12_readAll_39 : decode cX12_readAll 39 = .ok (.if_icmp .ge 18, 3) := dkg_X12_395.2.2.2.1
theorem dX12_readAll_42 : decode cX12_readAll 42 = .ok (.aload_n 0, 1) := dkg_X12_395.2.2.2.2.1
theorem dX12_readAll_43 : decode cX12_readAll 43 = .ok (.getfield 120, 3) := dkg_X12_395.2.2.2.2.2.1
theorem dX12_readAll_46 : decode cX12_readAll 46 = .ok (.iload_n 3, 1) := dkg_X12_395.2.2.2.2.2.2.1
theorem dX12_readAll_47 : decode cX12_readAll 47 = .ok (.iaload, 1) := dkg_X12_395.2.2.2.2.2.2.2.1
theorem dX12_readAll_48 : decode cX12_readAll 48 = .ok (.ifCond .eq 9, 3) := dkg_X12_395.2.2.2.2.2.2.2.2.1
theorem dX12_readAll_51 : decode cX12_readAll 51 = .ok (.iinc 3 1, 3) := dkg_X12_395.2.2.2.2.2.2.2.2.2.1
theorem dkg_X12_396 : dkp cX12_readAll [(54, .goto (-20), 3), (57, .iload_n 1, 1), (58, .ifCond .eq 15, 3), (61, .aload_n 0, 1), (62, .bipush 32, 2), (64, .invokevirtual 336, 3), (67, .ifCond .ne 6, 3), (70, .bipush 6, 2), (72, .ireturn, 1), (73, .iconst 1, 1)] := dkf (by decide +kernel)
theorem dX12_readAll_54 : decode cX12_readAll 54 = .ok (.goto (-20), 3) := dkg_X12_396.1
theorem dX12_readAll_57 : decode cX12_readAll 57 = .ok (.iload_n 1, 1) := dkg_X12_396.2.1
theorem dX12_readAll_58 : decode cX12_readAll 58 = .ok (.ifCond .eq 15, 3) := dkg_X12_396.2.2.1
theorem dX12_readAll_61 : decode cX12_readAll 61 = .ok (.aload_n 0, 1) := dkg_X12_396.2.2.2.1
theorem dX12_readAll_62 : decode cX12_readAll 62 = .ok (.bipush 32, 2) := dkg_X12_396.2.2.2.2.1
theorem dX12_readAll_64 : decode cX12_readAll 64 = .ok (.invokevirtual 336, 3) := dkg_X12_396.2.2.2.2.2.1
theorem dX12_readAll_67 : decode cX12_readAll 67 = .ok (.ifCond .ne 6, 3) := dkg_X12_396.2.2.2.2.2.2.1
theorem dX12_readAll_70 : decode cX12_readAll 70 = .ok (.bipush 6, 2) := dkg_X12_396.2.2.2.2.2.2.2.1
theorem dX12_readAll_72 : decode cX12_readAll 72 = .ok (.ireturn, 1) := dkg_X12_396.2.2.2.2.2.2.2.2.1
theorem dX12_readAll_73 : decode cX12_readAll 73 = .ok (.iconst 1, 1) := dkg_X12_396.2.2.2.2.2.2.2.2.2.1
theorem dkg_X12_397 : dkp cX12_readAll [(74, .istore_n 1, 1), (75, .aload_n 0, 1), (76, .iload_n 2, 1), (77, .iload_n 3, 1), (78, .invokevirtual 339, 3), (81, .istore 4, 2), (83, .iload 4, 2), (85, .ifCond .le 6, 3), (88, .iload 4, 2), (90, .ireturn, 1)] := dkf (by decide +kernel)
theorem dX12_readAll_74 : decode cX12_readAll 74 = .ok (.istore_n 1, 1) := dkg_X12_397.1
theorem dX12_readAll_75 : decode cX12_readAll 75 = .ok (.aload_n 0, 1) := dkg_X12_397.2.1
theorem dX12_readAll_76 : decode cX12_readAll 76 = .ok (.iload_n 2, 1) := dkg_X12_397.2.2.1
theorem dX12_readAll_77 : decode cX12_readAll 77 = .ok (.iload_n 3, 1) := dkg_X12_397.2.2.2.1
theorem dX12_readAll_78 : decode cX12_readAll 78 = .ok (.invokevirtual 339, 3) := dkg_X12_397.2.2.2.2.1
theorem dX12_readAll_81 : decode cX12_readAll 81 = .ok (.istore 4, 2) := dkg_X12_397.2.2.2.2.2.1
theorem dX12_readAll_83 : decode cX12_readAll 83 = .ok (.iload 4, 2) := dkg_X12_397.2.2.2.2.2.2.1
theorem dX12_readAll_85 : decode cX12_readAll 85 = .ok (.ifCond .le 6, 3) := dkg_X12_397.2.2.2.2.2.2.2.1
theorem dX12_readAll_88 : decode cX12_readAll 88 = .ok (.iload 4, 2) := dkg_X12_397.2.2.2.2.2.2.2.2.1
theorem dX12_readAll_90 : decode cX12_readAll 90 = .ok (.ireturn, 1) := dkg_X12_397.2.2.2.2.2.2.2.2.2.1
theorem dkg_X12_398 : dkp cX12_readAll [(91, .iload_n 3, 1), (92, .istore_n 2, 1), (93, .goto (-84), 3), (96, .iconst 0, 1), (97, .ireturn, 1)] := dkf (by decide +kernel)
theorem dX12_readAll_91 : decode cX12_readAll 91 = .ok (.iload_n 3, 1) := dkg_X12_398.1
theorem dX12_readAll_92 : decode cX12_readAll 92 = .ok (.istore_n 2, 1) := dkg_X12_398.2.1
theorem dX12_readAll_93 : decode cX12_readAll 93 = .ok (.goto (-84), 3) := dkg_X12_398.2.2.1
theorem dX12_readAll_96 : decode cX12_readAll 96 = .ok (.iconst 0, 1) := dkg_X12_398.2.2.2.1
theorem dX12_readAll_97 : decode cX12_readAll 97 = .ok (.ireturn, 1) := dkg_X12_398.2.2.2.2.1
theorem dkg_X12_399 : dkp cX12_readWord [(0, .iconst 0, 1), (1, .istore_n 3, 1), (2, .iconst 0, 1), (3, .istore 4, 2), (5, .iload_n 1, 1), (6, .istore 5, 2), (8, .iload 5, 2), (10, .iload_n 2, 1), (11, .if_icmp .ge 186, 3), (14, .aload_n 0, 1)] := dkf (by decide +kernel)
theorem dX12_readWord_0 : decode cX12_readWord 0 = .ok (.iconst 0, 1) := dkg_X12_399.1
theorem dX12_readWord_1 : decode cX12_readWord 1 = .ok (.istore_n 3, 1) := dkg_X12_399.2.1
theorem dX12_readWord_2 : decode cX12_readWord 2 = .ok (.iconst 0, 1) := dkg_X12_399.2.2.1
theorem dX12_readWord_3 : decode cX12_readWord 3 = .ok (.istore 4, 2) := dkg_X12_399.2.2.2.1
theorem dX12_readWord_5 : decode cX12_readWord 5 = .ok (.iload_n 1, 1) := dkg_X12_399.2.2.2.2.1
theorem dX12_readWord_6 : decode cX12_readWord 6 = .ok (.istore 5, 2) := dkg_X12_399.2.2.2.2.2.1
theorem dX12_readWord_8 : decode cX12_readWord 8 = .ok (.iload 5, 2) := dkg_X12_399.2.2.2.2.2.2.1
theorem dX12_readWord_10 : decode cX12_readWord 10 = .ok (.iload_n 2, 1) := dkg_X12_399.2.2.2.2.2.2.2.1
theorem dX12_readWord_11 : decode cX12_readWord 11 = .ok (.if_icmp .ge 186, 3) := dkg_X12_399.2.2.2.2.2.2.2.2.1
theorem dX12_readWord_14 : decode cX12_readWord 14 = .ok (.aload_n 0, 1) := dkg_X12_399.2.2.2.2.2.2.2.2.2.1
theorem dkg_X12_400 : dkp cX12_readWord [(15, .iload_n 3, 1), (16, .iload 5, 2), (18, .iload_n 2, 1), (19, .invokevirtual 342, 3), (22, .istore 6, 2), (24, .aload_n 0, 1), (25, .iload 5, 2), (27, .putfield 345, 3), (30, .iload 6, 2), (32, .ifCond .lt 17, 3)] := dkf (by decide +kernel)
theorem dX12_readWord_15 : decode cX12_readWord 15 = .ok (.iload_n 3, 1) := dkg_X12_400.1
theorem dX12_readWord_16 : decode cX12_readWord 16 = .ok (.iload 5, 2) := dkg_X12_400.2.1
theorem dX12_readWord_18 : decode cX12_readWord 18 = .ok (.iload_n 2, 1) := dkg_X12_400.2.2.1
theorem dX12_readWord_19 : decode cX12_readWord 19 = .ok (.invokevirtual 342, 3) := dkg_X12_400.2.2.2.1
theorem dX12_readWord_22 : decode cX12_readWord 22 = .ok (.istore 6, 2) := dkg_X12_400.2.2.2.2.1
theorem dX12_readWord_24 : decode cX12_readWord 24 = .ok (.aload_n 0, 1) := dkg_X12_400.2.2.2.2.2.1
theorem dX12_readWord_25 : decode cX12_readWord 25 = .ok (.iload 5, 2) := dkg_X12_400.2.2.2.2.2.2.1
theorem dX12_readWord_27 : decode cX12_readWord 27 = .ok (.putfield 345, 3) := dkg_X12_400.2.2.2.2.2.2.2.1
theorem dX12_readWord_30 : decode cX12_readWord 30 = .ok (.iload 6, 2) := dkg_X12_400.2.2.2.2.2.2.2.2.1
theorem dX12_readWord_32 : decode cX12_readWord 32 = .ok (.ifCond .lt 17, 3) := dkg_X12_400.2.2.2.2.2.2.2.2.2.1
theorem dkg_X12_401 : dkp cX12_readWord [(35, .iload 4, 2), (37, .ifCond .eq 15, 3), (40, .aload_n 0, 1), (41, .iload 6, 2), (43, .invokevirtual 348, 3), (46, .ifCond .ne 6, 3), (49, .bipush 9, 2), (51, .ireturn, 1), (52, .aload_n 0, 1), (53, .getfield 107, 3)] := dkf (by decide +kernel)
theorem dX12_readWord_35 : decode cX12_readWord 35 = .ok (.iload 4, 2) := dkg_X12_401.1
theorem dX12_readWord_37 : decode cX12_readWord 37 = .ok (.ifCond .eq 15, 3) := dkg_X12_401.2.1
theorem dX12_readWord_40 : decode cX12_readWord 40 = .ok (.aload_n 0, 1) := dkg_X12_401.2.2.1
theorem dX12_readWord_41 : decode cX12_readWord 41 = .ok (.iload 6, 2) := dkg_X12_401.2.2.2.1
theorem dX12_readWord_43 : decode cX12_readWord 43 = .ok (.invokevirtual 348, 3) := dkg_X12_401.2.2.2.2.1
theorem dX12_readWord_46 : decode cX12_readWord 46 = .ok (.ifCond .ne 6, 3) := dkg_X12_401.2.2.2.2.2.1
theorem dX12_readWord_49 : decode cX12_readWord 49 = .ok (.bipush 9, 2) := dkg_X12_401.2.2.2.2.2.2.1
theorem dX12_readWord_51 : decode cX12_readWord 51 = .ok (.ireturn, 1) := dkg_X12_401.2.2.2.2.2.2.2.1
theorem dX12_readWord_52 : decode cX12_readWord 52 = .ok (.aload_n 0, 1) := dkg_X12_401.2.2.2.2.2.2.2.2.1
theorem dX12_readWord_53 : decode cX12_readWord 53 = .ok (.getfield 107, 3) := dkg_X12_401.2.2.2.2.2.2.2.2.2.1
theorem dkg_X12_402 : dkp cX12_readWord [(56, .iload 6, 2), (58, .iaload, 1), (59, .istore 7, 2), (61, .iload 7, 2), (63, .ifCond .lt 64, 3), (66, .iconst 0, 1), (67, .istore 8, 2), (69, .iload 8, 2), (71, .aload_n 0, 1), (72, .getfield 39, 3)] := dkf (by decide +kernel)
theorem dX12_readWord_56 : decode cX12_readWord 56 = .ok (.iload 6, 2) := dkg_X12_402.1
theorem dX12_readWord_58 : decode cX12_readWord 58 = .ok (.iaload, 1) := dkg_X12_402.2.1
theorem dX12_readWord_59 : decode cX12_readWord 59 = .ok (.istore 7, 2) := dkg_X12_402.2.2.1
theorem dX12_readWord_61 : decode cX12_readWord 61 = .ok (.iload 7, 2) := dkg_X12_402.2.2.2.1
theorem dX12_readWord_63 : decode cX12_readWord 63 = .ok (.ifCond .lt 64, 3) := dkg_X12_402.2.2.2.2.1
theorem dX12_readWord_66 : decode cX12_readWord 66 = .ok (.iconst 0, 1) := dkg_X12_402.2.2.2.2.2.1
theorem dX12_readWord_67 : decode cX12_readWord 67 = .ok (.istore 8, 2) := dkg_X12_402.2.2.2.2.2.2.1
theorem dX12_readWord_69 : decode cX12_readWord 69 = .ok (.iload 8, 2) := dkg_X12_402.2.2.2.2.2.2.2.1
theorem dX12_readWord_71 : decode cX12_readWord 71 = .ok (.aload_n 0, 1) := dkg_X12_402.2.2.2.2.2.2.2.2.1
theorem dX12_readWord_72 : decode cX12_readWord 72 = .ok (.getfield 39, 3) := dkg_X12_402.2.2.2.2.2.2.2.2.2.1
theorem dkg_X12_403 : dkp cX12_readWord [(75, .iload 7, 2), (77, .iaload, 1), (78, .if_icmp .ge 49, 3), (81, .aload_n 0, 1), (82, .aload_n 0, 1), (83, .getfield 46, 3), (86, .bipush 8, 2), (88, .iload 7, 2), (90, .imul, 1), (91, .iload 8, 2)] := dkf (by decide +kernel)
theorem dX12_readWord_75 : decode cX12_readWord 75 = .ok (.iload 7, 2) := dkg_X12_403.1
theorem dX12_readWord_77 : decode cX12_readWord 77 = .ok (.iaload, 1) := dkg_X12_403.2.1
theorem dX12_readWord_78 : decode cX12_readWord 78 = .ok (.if_icmp .ge 49, 3) := dkg_X12_403.2.2.1
theorem dX12_readWord_81 : decode cX12_readWord 81 = .ok (.aload_n 0, 1) := dkg_X12_403.2.2.2.1
theorem dX12_readWord_82 : decode cX12_readWord 82 = .ok (.aload_n 0, 1) := dkg_X12_403.2.2.2.2.1
theorem dX12_readWord_83 : decode cX12_readWord 83 = .ok (.getfield 46, 3) := dkg_X12_403.2.2.2.2.2.1
theorem dX12_readWord_86 : decode cX12_readWord 86 = .ok (.bipush 8, 2) := dkg_X12_403.2.2.2.2.2.2.1
theorem dX12_readWord_88 : decode cX12_readWord 88 = .ok (.iload 7, 2) := dkg_X12_403.2.2.2.2.2.2.2.1
theorem dX12_readWord_90 : decode cX12_readWord 90 = .ok (.imul, 1) := dkg_X12_403.2.2.2.2.2.2.2.2.1
theorem dX12_readWord_91 : decode cX12_readWord 91 = .ok (.iload 8, 2) := dkg_X12_403.2.2.2.2.2.2.2.2.2.1
theorem dkg_X12_404 : dkp cX12_readWord [(93, .iadd, 1), (94, .iaload, 1), (95, .iload 4, 2), (97, .ifCond .eq 13, 3), (100, .iload 8, 2), (102, .ifCond .ne 8, 3), (105, .bipush 32, 2), (107, .goto 4, 3), (110, .iconst 0, 1), (111, .isub, 1)] := dkf (by decide +kernel)
theorem dX12_readWord_93 : decode cX12_readWord 93 = .ok (.iadd, 1) := dkg_X12_404.1
theorem dX12_readWord_94 : decode cX12_readWord 94 = .ok (.iaload, 1) := dkg_X12_404.2.1
theorem dX12_readWord_95 : decode cX12_readWord 95 = .ok (.iload 4, 2) := dkg_X12_404.2.2.1
theorem dX12_readWord_97 : decode cX12_readWord 97 = .ok (.ifCond .eq 13, 3) := dkg_X12_404.2.2.2.1
theorem dX12_readWord_100 : decode cX12_readWord 100 = .ok (.iload 8, 2) := dkg_X12_404.2.2.2.2.1
theorem dX12_readWord_102 : decode cX12_readWord 102 = .ok (.ifCond .ne 8, 3) := dkg_X12_404.2.2.2.2.2.1
theorem dX12_readWord_105 : decode cX12_readWord 105 = .ok (.bipush 32, 2) := dkg_X12_404.2.2.2.2.2.2.1
theorem dX12_readWord_107 : decode cX12_readWord 107 = .ok (.goto 4, 3) := dkg_X12_404.2.2.2.2.2.2.2.1
theorem dX12_readWord_110 : decode cX12_readWord 110 = .ok (.iconst 0, 1) := dkg_X12_404.2.2.2.2.2.2.2.2.1
theorem dX12_readWord_111 : decode cX12_readWord 111 = .ok (.isub, 1) := dkg_X12_404.2.2.2.2.2.2.2.2.2.1
theorem dkg_X12_405 : dkp cX12_readWord [(112, .invokevirtual 336, 3), (115, .ifCond .ne 6, 3), (118, .bipush 6, 2), (120, .ireturn, 1), (121, .iinc 8 1, 3), (124, .goto (-55), 3), (127, .iload 7, 2), (129, .iconst (-1), 1), (130, .if_icmp .ne 7, 3), (133, .iconst 1, 1)] := dkf (by decide +kernel)
theorem dX12_readWord_112 : decode cX12_readWord 112 = .ok (.invokevirtual 336, 3) := dkg_X12_405.1
theorem dX12_readWord_115 : decode cX12_readWord 115 = .ok (.ifCond .ne 6, 3) := dkg_X12_405.2.1
theorem dX12_readWord_118 : decode cX12_readWord 118 = .ok (.bipush 6, 2) := dkg_X12_405.2.2.1
theorem dX12_readWord_120 : decode cX12_readWord 120 = .ok (.ireturn, 1) := dkg_X12_405.2.2.2.1
theorem dX12_readWord_121 : decode cX12_readWord 121 = .ok (.iinc 8 1, 3) := dkg_X12_405.2.2.2.2.1
theorem dX12_readWord_124 : decode cX12_readWord 124 = .ok (.goto (-55), 3) := dkg_X12_405.2.2.2.2.2.1
theorem dX12_readWord_127 : decode cX12_readWord 127 = .ok (.iload 7, 2) := dkg_X12_405.2.2.2.2.2.2.1
theorem dX12_readWord_129 : decode cX12_readWord 129 = .ok (.iconst (-1), 1) := dkg_X12_405.2.2.2.2.2.2.2.1
theorem dX12_readWord_130 : decode cX12_readWord 130 = .ok (.if_icmp .ne 7, 3) := dkg_X12_405.2.2.2.2.2.2.2.2.1
theorem dX12_readWord_133 : decode cX12_readWord 133 = .ok (.iconst 1, 1) := dkg_X12_405.2.2.2.2.2.2.2.2.2.1
theorem dkg_X12_406 : dkp cX12_readWord [(134, .goto 4, 3), (137, .iconst 0, 1), (138, .istore 4, 2), (140, .iload 7, 2), (142, .bipush (-3), 2), (144, .if_icmp .eq 10, 3), (147, .iload 7, 2), (149, .bipush (-4), 2), (151, .if_icmp .ne 31, 3), (154, .iconst 1, 1)] := dkf (by decide +kernel)
theorem dX12_readWord_134 : decode cX12_readWord 134 = .ok (.goto 4, 3) := dkg_X12_406.1
theorem dX12_readWord_137 : decode cX12_readWord 137 = .ok (.iconst 0, 1) := dkg_X12_406.2.1
theorem dX12_readWord_138 : decode cX12_readWord 138 = .ok (.istore 4, 2) := dkg_X12_406.2.2.1
theorem dX12_readWord_140 : decode cX12_readWord 140 = .ok (.iload 7, 2) := dkg_X12_406.2.2.2.1
theorem dX12_readWord_142 : decode cX12_readWord 142 = .ok (.bipush (-3), 2) := dkg_X12_406.2.2.2.2.1
theorem dX12_readWord_144 : decode cX12_readWord 144 = .ok (.if_icmp .eq 10, 3) := dkg_X12_406.2.2.2.2.2.1
theorem dX12_readWord_147 : decode cX12_readWord 147 = .ok (.iload 7, 2) := dkg_X12_406.2.2.2.2.2.2.1
theorem dX12_readWord_149 : decode cX12_readWord 149 = .ok (.bipush (-4), 2) := dkg_X12_406.2.2.2.2.2.2.2.1
theorem dX12_readWord_151 : decode cX12_readWord 151 = .ok (.if_icmp .ne 31, 3) := dkg_X12_406.2.2.2.2.2.2.2.2.1
theorem dX12_readWord_154 : decode cX12_readWord 154 = .ok (.iconst 1, 1) := dkg_X12_406.2.2.2.2.2.2.2.2.2.1
theorem dkg_X12_407 : dkp cX12_readWord [(155, .iload_n 3, 1), (156, .isub, 1), (157, .istore_n 3, 1), (158, .aload_n 0, 1), (159, .iload 7, 2), (161, .bipush (-3), 2), (163, .if_icmp .ne 8, 3), (166, .bipush 60, 2), (168, .goto 5, 3), (171, .bipush 62, 2)] := dkf (by decide +kernel)
theorem dX12_readWord_155 : decode cX12_readWord 155 = .ok (.iload_n 3, 1) := dkg_X12_407.1
theorem dX12_readWord_156 : decode cX12_readWord 156 = .ok (.isub, 1) := dkg_X12_407.2.1
theorem dX12_readWord_157 : decode cX12_readWord 157 = .ok (.istore_n 3, 1) := dkg_X12_407.2.2.1
theorem dX12_readWord_158 : decode cX12_readWord 158 = .ok (.aload_n 0, 1) := dkg_X12_407.2.2.2.1
theorem dX12_readWord_159 : decode cX12_readWord 159 = .ok (.iload 7, 2) := dkg_X12_407.2.2.2.2.1
theorem dX12_readWord_161 : decode cX12_readWord 161 = .ok (.bipush (-3), 2) := dkg_X12_407.2.2.2.2.2.1
theorem dX12_readWord_163 : decode cX12_readWord 163 = .ok (.if_icmp .ne 8, 3) := dkg_X12_407.2.2.2.2.2.2.1
theorem dX12_readWord_166 : decode cX12_readWord 166 = .ok (.bipush 60, 2) := dkg_X12_407.2.2.2.2.2.2.2.1
theorem dX12_readWord_168 : decode cX12_readWord 168 = .ok (.goto 5, 3) := dkg_X12_407.2.2.2.2.2.2.2.2.1
theorem dX12_readWord_171 : decode cX12_readWord 171 = .ok (.bipush 62, 2) := dkg_X12_407.2.2.2.2.2.2.2.2.2.1
theorem dkg_X12_408 : dkp cX12_readWord [(173, .invokevirtual 336, 3), (176, .ifCond .ne 6, 3), (179, .bipush 6, 2), (181, .ireturn, 1), (182, .iload 5, 2), (184, .aload_n 0, 1), (185, .getfield 113, 3), (188, .iload 6, 2), (190, .iaload, 1), (191, .iadd, 1)] := dkf (by decide +kernel)
theorem dX12_readWord_173 : decode cX12_readWord 173 = .ok (.invokevirtual 336, 3) := dkg_X12_408.1
theorem dX12_readWord_176 : decode cX12_readWord 176 = .ok (.ifCond .ne 6, 3) := dkg_X12_408.2.1
theorem dX12_readWord_179 : decode cX12_readWord 179 = .ok (.bipush 6, 2) := dkg_X12_408.2.2.1
theorem dX12_readWord_181 : decode cX12_readWord 181 = .ok (.ireturn, 1) := dkg_X12_408.2.2.2.1
theorem dX12_readWord_182 : decode cX12_readWord 182 = .ok (.iload 5, 2) := dkg_X12_408.2.2.2.2.1
theorem dX12_readWord_184 : decode cX12_readWord 184 = .ok (.aload_n 0, 1) := dkg_X12_408.2.2.2.2.2.1
theorem dX12_readWord_185 : decode cX12_readWord 185 = .ok (.getfield 113, 3) := dkg_X12_408.2.2.2.2.2.2.1
theorem dX12_readWord_188 : decode cX12_readWord 188 = .ok (.iload 6, 2) := dkg_X12_408.2.2.2.2.2.2.2.1
theorem dX12_readWord_190 : decode cX12_readWord 190 = .ok (.iaload, 1) := dkg_X12_408.2.2.2.2.2.2.2.2.1
theorem dX12_readWord_191 : decode cX12_readWord 191 = .ok (.iadd, 1) := dkg_X12_408.2.2.2.2.2.2.2.2.2.1
theorem dkg_X12_409 : dkp cX12_readWord [(192, .istore 5, 2), (194, .goto (-186), 3), (197, .aload_n 0, 1), (198, .iload_n 2, 1), (199, .putfield 345, 3), (202, .iload 4, 2), (204, .ifCond .eq 8, 3), (207, .bipush 9, 2), (209, .goto 4, 3), (212, .iconst 0, 1)] := dkf (by decide +kernel)
theorem dX12_readWord_192 : decode cX12_readWord 192 = .ok (.istore 5, 2) := dkg_X12_409.1
theorem dX12_readWord_194 : decode cX12_readWord 194 = .ok (.goto (-186), 3) := dkg_X12_409.2.1
theorem dX12_readWord_197 : decode cX12_readWord 197 = .ok (.aload_n 0, 1) := dkg_X12_409.2.2.1
theorem dX12_readWord_198 : decode cX12_readWord 198 = .ok (.iload_n 2, 1) := dkg_X12_409.2.2.2.1
theorem dX12_readWord_199 : decode cX12_readWord 199 = .ok (.putfield 345, 3) := dkg_X12_409.2.2.2.2.1
theorem dX12_readWord_202 : decode cX12_readWord 202 = .ok (.iload 4, 2) := dkg_X12_409.2.2.2.2.2.1
theorem dX12_readWord_204 : decode cX12_readWord 204 = .ok (.ifCond .eq 8, 3) := dkg_X12_409.2.2.2.2.2.2.1
theorem dX12_readWord_207 : decode cX12_readWord 207 = .ok (.bipush 9, 2) := dkg_X12_409.2.2.2.2.2.2.2.1
theorem dX12_readWord_209 : decode cX12_readWord 209 = .ok (.goto 4, 3) := dkg_X12_409.2.2.2.2.2.2.2.2.1
theorem dX12_readWord_212 : decode cX12_readWord 212 = .ok (.iconst 0, 1) := dkg_X12_409.2.2.2.2.2.2.2.2.2.1
theorem dkg_X12_410 : dkp cX12_readWord [(213, .ireturn, 1)] := dkf (by decide +kernel)
theorem dX12_readWord_213 : decode cX12_readWord 213 = .ok (.ireturn, 1) := dkg_X12_410.1
theorem dkg_X12_411 : dkp cX12_read [(0, .aload_n 0, 1), (1, .iload_n 1, 1), (2, .invokevirtual 171, 3), (5, .ifCond .ne 9, 3), (8, .aload_n 0, 1), (9, .iconst 3, 1), (10, .invokevirtual 154, 3), (13, .ireturn, 1), (14, .iload_n 3, 1), (15, .ifCond .ge 9, 3)] := dkf (by decide +kernel)
theorem dX12_read_0 : decode cX12_read 0 = .ok (.aload_n 0, 1) := dkg_X12_411.1
theorem dX12_read_1 : decode cX12_read 1 = .ok (.iload_n 1, 1) := dkg_X12_411.2.1
theorem dX12_read_2 : decode cX12_read 2 = .ok (.invokevirtual 171, 3) := dkg_X12_411.2.2.1
theorem dX12_read_5 : decode cX12_read 5 = .ok (.ifCond .ne 9, 3) := dkg_X12_411.2.2.2.1
theorem dX12_read_8 : decode cX12_read 8 = .ok (.aload_n 0, 1) := dkg_X12_411.2.2.2.2.1
theorem dX12_read_9 : decode cX12_read 9 = .ok (.iconst 3, 1) := dkg_X12_411.2.2.2.2.2.1
theorem dX12_read_10 : decode cX12_read 10 = .ok (.invokevirtual 154, 3) := dkg_X12_411.2.2.2.2.2.2.1
theorem dX12_read_13 : decode cX12_read 13 = .ok (.ireturn, 1) := dkg_X12_411.2.2.2.2.2.2.2.1
theorem dX12_read_14 : decode cX12_read 14 = .ok (.iload_n 3, 1) := dkg_X12_411.2.2.2.2.2.2.2.2.1
theorem dX12_read_15 : decode cX12_read 15 = .ok (.ifCond .ge 9, 3) := dkg_X12_411.2.2.2.2.2.2.2.2.2.1
theorem dkg_X12_412 : dkp cX12_read [(18, .aload_n 0, 1), (19, .iconst 5, 1), (20, .invokevirtual 154, 3), (23, .ireturn, 1), (24, .aload_n 0, 1), (25, .iconst 0, 1), (26, .putfield 333, 3), (29, .iconst 0, 1), (30, .istore 4, 2), (32, .iload 4, 2)] := dkf (by decide +kernel)
theorem dX12_read_18 : decode cX12_read 18 = .ok (.aload_n 0, 1) := dkg_X12_412.1
theorem dX12_read_19 : decode cX12_read 19 = .ok (.iconst 5, 1) := dkg_X12_412.2.1
theorem dX12_read_20 : decode cX12_read 20 = .ok (.invokevirtual 154, 3) := dkg_X12_412.2.2.1
theorem dX12_read_23 : decode cX12_read 23 = .ok (.ireturn, 1) := dkg_X12_412.2.2.2.1
theorem dX12_read_24 : decode cX12_read 24 = .ok (.aload_n 0, 1) := dkg_X12_412.2.2.2.2.1
theorem dX12_read_25 : decode cX12_read 25 = .ok (.iconst 0, 1) := dkg_X12_412.2.2.2.2.2.1
theorem dX12_read_26 : decode cX12_read 26 = .ok (.putfield 333, 3) := dkg_X12_412.2.2.2.2.2.2.1
theorem dX12_read_29 : decode cX12_read 29 = .ok (.iconst 0, 1) := dkg_X12_412.2.2.2.2.2.2.2.1
theorem dX12_read_30 : decode cX12_read 30 = .ok (.istore 4, 2) := dkg_X12_412.2.2.2.2.2.2.2.2.1
theorem dX12_read_32 : decode cX12_read 32 = .ok (.iload 4, 2) := dkg_X12_412.2.2.2.2.2.2.2.2.2.1
theorem dkg_X12_413 : dkp cX12_read [(34, .iload_n 3, 1), (35, .if_icmp .ge 174, 3), (38, .iload_n 2, 1), (39, .i2l, 1), (40, .iload 4, 2), (42, .i2l, 1), (43, .ladd, 1), (44, .lstore 5, 2), (46, .lload 5, 2), (48, .lconst 0, 1)] := dkf (by decide +kernel)
theorem dX12_read_34 : decode cX12_read 34 = .ok (.iload_n 3, 1) := dkg_X12_413.1
theorem dX12_read_35 : decode cX12_read 35 = .ok (.if_icmp .ge 174, 3) := dkg_X12_413.2.1
theorem dX12_read_38 : decode cX12_read 38 = .ok (.iload_n 2, 1) := dkg_X12_413.2.2.1
theorem dX12_read_39 : decode cX12_read 39 = .ok (.i2l, 1) := dkg_X12_413.2.2.2.1
theorem dX12_read_40 : decode cX12_read 40 = .ok (.iload 4, 2) := dkg_X12_413.2.2.2.2.1
theorem dX12_read_42 : decode cX12_read 42 = .ok (.i2l, 1) := dkg_X12_413.2.2.2.2.2.1
theorem dX12_read_43 : decode cX12_read 43 = .ok (.ladd, 1) := dkg_X12_413.2.2.2.2.2.2.1
theorem dX12_read_44 : decode cX12_read 44 = .ok (.lstore 5, 2) := dkg_X12_413.2.2.2.2.2.2.2.1
theorem dX12_read_46 : decode cX12_read 46 = .ok (.lload 5, 2) := dkg_X12_413.2.2.2.2.2.2.2.2.1
theorem dX12_read_48 : decode cX12_read 48 = .ok (.lconst 0, 1) := dkg_X12_413.2.2.2.2.2.2.2.2.2.1
theorem dkg_X12_414 : dkp cX12_read [(49, .lcmp, 1), (50, .ifCond .lt 14, 3), (53, .lload 5, 2), (55, .aload_n 0, 1), (56, .getfield 279, 3), (59, .i2l, 1), (60, .lcmp, 1), (61, .ifCond .lt 7, 3), (64, .iconst (-1), 1), (65, .goto 6, 3)] := dkf (by decide +kernel)
theorem dX12_read_49 : decode cX12_read 49 = .ok (.lcmp, 1) := dkg_X12_414.1
theorem dX12_read_50 : decode cX12_read 50 = .ok (.ifCond .lt 14, 3) := dkg_X12_414.2.1
theorem dX12_read_53 : decode cX12_read 53 = .ok (.lload 5, 2) := dkg_X12_414.2.2.1
theorem dX12_read_55 : decode cX12_read 55 = .ok (.aload_n 0, 1) := dkg_X12_414.2.2.2.1
theorem dX12_read_56 : decode cX12_read 56 = .ok (.getfield 279, 3) := dkg_X12_414.2.2.2.2.1
theorem dX12_read_59 : decode cX12_read 59 = .ok (.i2l, 1) := dkg_X12_414.2.2.2.2.2.1
theorem dX12_read_60 : decode cX12_read 60 = .ok (.lcmp, 1) := dkg_X12_414.2.2.2.2.2.2.1
theorem dX12_read_61 : decode cX12_read 61 = .ok (.ifCond .lt 7, 3) := dkg_X12_414.2.2.2.2.2.2.2.1
theorem dX12_read_64 : decode cX12_read 64 = .ok (.iconst (-1), 1) := dkg_X12_414.2.2.2.2.2.2.2.2.1
theorem dX12_read_65 : decode cX12_read 65 = .ok (.goto 6, 3) := dkg_X12_414.2.2.2.2.2.2.2.2.2.1
theorem dkg_X12_415 : dkp cX12_read [(68, .lload 5, 2), (70, .l2i, 1), (71, .istore 7, 2), (73, .aload_n 0, 1), (74, .iload 7, 2), (76, .invokevirtual 294, 3), (79, .ifCond .le 14, 3), (82, .aload_n 0, 1), (83, .aload_n 0, 1), (84, .iload 7, 2)] := dkf (by decide +kernel)
theorem dX12_read_68 : decode cX12_read 68 = .ok (.lload 5, 2) := dkg_X12_415.1
theorem dX12_read_70 : decode cX12_read 70 = .ok (.l2i, 1) := dkg_X12_415.2.1
theorem dX12_read_71 : decode cX12_read 71 = .ok (.istore 7, 2) := dkg_X12_415.2.2.1
theorem dX12_read_73 : decode cX12_read 73 = .ok (.aload_n 0, 1) := dkg_X12_415.2.2.2.1
theorem dX12_read_74 : decode cX12_read 74 = .ok (.iload 7, 2) := dkg_X12_415.2.2.2.2.1
theorem dX12_read_76 : decode cX12_read 76 = .ok (.invokevirtual 294, 3) := dkg_X12_415.2.2.2.2.2.1
theorem dX12_read_79 : decode cX12_read 79 = .ok (.ifCond .le 14, 3) := dkg_X12_415.2.2.2.2.2.2.1
theorem dX12_read_82 : decode cX12_read 82 = .ok (.aload_n 0, 1) := dkg_X12_415.2.2.2.2.2.2.2.1
theorem dX12_read_83 : decode cX12_read 83 = .ok (.aload_n 0, 1) := dkg_X12_415.2.2.2.2.2.2.2.2.1
theorem dX12_read_84 : decode cX12_read 84 = .ok (.iload 7, 2) := dkg_X12_415.2.2.2.2.2.2.2.2.2.1
theorem dkg_X12_416 : dkp cX12_read [(86, .invokevirtual 294, 3), (89, .invokevirtual 154, 3), (92, .ireturn, 1), (93, .aload_n 0, 1), (94, .getfield 91, 3), (97, .iload 7, 2), (99, .iaload, 1), (100, .istore 8, 2), (102, .iload 8, 2), (104, .ifCond .le 30, 3)] := dkf (by decide +kernel)
theorem dX12_read_86 : decode cX12_read 86 = .ok (.invokevirtual 294, 3) := dkg_X12_416.1
theorem dX12_read_89 : decode cX12_read 89 = .ok (.invokevirtual 154, 3) := dkg_X12_416.2.1
theorem dX12_read_92 : decode cX12_read 92 = .ok (.ireturn, 1) := dkg_X12_416.2.2.1
theorem dX12_read_93 : decode cX12_read 93 = .ok (.aload_n 0, 1) := dkg_X12_416.2.2.2.1
theorem dX12_read_94 : decode cX12_read 94 = .ok (.getfield 91, 3) := dkg_X12_416.2.2.2.2.1
theorem dX12_read_97 : decode cX12_read 97 = .ok (.iload 7, 2) := dkg_X12_416.2.2.2.2.2.1
theorem dX12_read_99 : decode cX12_read 99 = .ok (.iaload, 1) := dkg_X12_416.2.2.2.2.2.2.1
theorem dX12_read_100 : decode cX12_read 100 = .ok (.istore 8, 2) := dkg_X12_416.2.2.2.2.2.2.2.1
theorem dX12_read_102 : decode cX12_read 102 = .ok (.iload 8, 2) := dkg_X12_416.2.2.2.2.2.2.2.2.1
theorem dX12_read_104 : decode cX12_read 104 = .ok (.ifCond .le 30, 3) := dkg_X12_416.2.2.2.2.2.2.2.2.2.1
theorem dkg_X12_417 : dkp cX12_read [(107, .aload_n 0, 1), (108, .getfield 95, 3), (111, .sipush 200, 3), (114, .iload 7, 2), (116, .imul, 1), (117, .iload 8, 2), (119, .iadd, 1), (120, .iconst 1, 1), (121, .isub, 1), (122, .iaload, 1)] := dkf (by decide +kernel)
theorem dX12_read_107 : decode cX12_read 107 = .ok (.aload_n 0, 1) := dkg_X12_417.1
theorem dX12_read_108 : decode cX12_read 108 = .ok (.getfield 95, 3) := dkg_X12_417.2.1
theorem dX12_read_111 : decode cX12_read 111 = .ok (.sipush 200, 3) := dkg_X12_417.2.2.1
theorem dX12_read_114 : decode cX12_read 114 = .ok (.iload 7, 2) := dkg_X12_417.2.2.2.1
theorem dX12_read_116 : decode cX12_read 116 = .ok (.imul, 1) := dkg_X12_417.2.2.2.2.1
theorem dX12_read_117 : decode cX12_read 117 = .ok (.iload 8, 2) := dkg_X12_417.2.2.2.2.2.1
theorem dX12_read_119 : decode cX12_read 119 = .ok (.iadd, 1) := dkg_X12_417.2.2.2.2.2.2.1
theorem dX12_read_120 : decode cX12_read 120 = .ok (.iconst 1, 1) := dkg_X12_417.2.2.2.2.2.2.2.1
theorem dX12_read_121 : decode cX12_read 121 = .ok (.isub, 1) := dkg_X12_417.2.2.2.2.2.2.2.2.1
theorem dX12_read_122 : decode cX12_read 122 = .ok (.iaload, 1) := dkg_X12_417.2.2.2.2.2.2.2.2.2.1
theorem dkg_X12_418 : dkp cX12_read [(123, .aload_n 0, 1), (124, .getfield 88, 3), (127, .if_icmp .ne 7, 3), (130, .iconst 1, 1), (131, .goto 4, 3), (134, .iconst 0, 1), (135, .istore 9, 2), (137, .iconst 0, 1), (138, .istore 10, 2), (140, .iload 10, 2)] := dkf (by decide +kernel)
theorem dX12_read_123 : decode cX12_read 123 = .ok (.aload_n 0, 1) := dkg_X12_418.1
theorem dX12_read_124 : decode cX12_read 124 = .ok (.getfield 88, 3) := dkg_X12_418.2.1
theorem dX12_read_127 : decode cX12_read 127 = .ok (.if_icmp .ne 7, 3) := dkg_X12_418.2.2.1
theorem dX12_read_130 : decode cX12_read 130 = .ok (.iconst 1, 1) := dkg_X12_418.2.2.2.1
theorem dX12_read_131 : decode cX12_read 131 = .ok (.goto 4, 3) := dkg_X12_418.2.2.2.2.1
theorem dX12_read_134 : decode cX12_read 134 = .ok (.iconst 0, 1) := dkg_X12_418.2.2.2.2.2.1
theorem dX12_read_135 : decode cX12_read 135 = .ok (.istore 9, 2) := dkg_X12_418.2.2.2.2.2.2.1
theorem dX12_read_137 : decode cX12_read 137 = .ok (.iconst 0, 1) := dkg_X12_418.2.2.2.2.2.2.2.1
theorem dX12_read_138 : decode cX12_read 138 = .ok (.istore 10, 2) := dkg_X12_418.2.2.2.2.2.2.2.2.1
theorem dX12_read_140 : decode cX12_read 140 = .ok (.iload 10, 2) := dkg_X12_418.2.2.2.2.2.2.2.2.2.1
theorem dkg_X12_419 : dkp cX12_read [(142, .iload 9, 2), (144, .ifCond .eq 10, 3), (147, .iload 8, 2), (149, .iconst 1, 1), (150, .isub, 1), (151, .goto 5, 3), (154, .iload 8, 2), (156, .if_icmp .ge 36, 3), (159, .aload_n 0, 1), (160, .aload_n 0, 1)] := dkf (by decide +kernel)
theorem dX12_read_142 : decode cX12_read 142 = .ok (.iload 9, 2) := dkg_X12_419.1
theorem dX12_read_144 : decode cX12_read 144 = .ok (.ifCond .eq 10, 3) := dkg_X12_419.2.1
theorem dX12_read_147 : decode cX12_read 147 = .ok (.iload 8, 2) := dkg_X12_419.2.2.1
theorem dX12_read_149 : decode cX12_read 149 = .ok (.iconst 1, 1) := dkg_X12_419.2.2.2.1
theorem dX12_read_150 : decode cX12_read 150 = .ok (.isub, 1) := dkg_X12_419.2.2.2.2.1
theorem dX12_read_151 : decode cX12_read 151 = .ok (.goto 5, 3) := dkg_X12_419.2.2.2.2.2.1
theorem dX12_read_154 : decode cX12_read 154 = .ok (.iload 8, 2) := dkg_X12_419.2.2.2.2.2.2.1
theorem dX12_read_156 : decode cX12_read 156 = .ok (.if_icmp .ge 36, 3) := dkg_X12_419.2.2.2.2.2.2.2.1
theorem dX12_read_159 : decode cX12_read 159 = .ok (.aload_n 0, 1) := dkg_X12_419.2.2.2.2.2.2.2.2.1
theorem dX12_read_160 : decode cX12_read 160 = .ok (.aload_n 0, 1) := dkg_X12_419.2.2.2.2.2.2.2.2.2.1
theorem dkg_X12_420 : dkp cX12_read [(161, .getfield 95, 3), (164, .sipush 200, 3), (167, .iload 7, 2), (169, .imul, 1), (170, .iload 10, 2), (172, .iadd, 1), (173, .iaload, 1), (174, .sipush 1000, 3), (177, .iload 7, 2), (179, .imul, 1)] := dkf (by decide +kernel)
theorem dX12_read_161 : decode cX12_read 161 = .ok (.getfield 95, 3) := dkg_X12_420.1
theorem dX12_read_164 : decode cX12_read 164 = .ok (.sipush 200, 3) := dkg_X12_420.2.1
theorem dX12_read_167 : decode cX12_read 167 = .ok (.iload 7, 2) := dkg_X12_420.2.2.1
theorem dX12_read_169 : decode cX12_read 169 = .ok (.imul, 1) := dkg_X12_420.2.2.2.1
theorem dX12_read_170 : decode cX12_read 170 = .ok (.iload 10, 2) := dkg_X12_420.2.2.2.2.1
theorem dX12_read_172 : decode cX12_read 172 = .ok (.iadd, 1) := dkg_X12_420.2.2.2.2.2.1
theorem dX12_read_173 : decode cX12_read 173 = .ok (.iaload, 1) := dkg_X12_420.2.2.2.2.2.2.1
theorem dX12_read_174 : decode cX12_read 174 = .ok (.sipush 1000, 3) := dkg_X12_420.2.2.2.2.2.2.2.1
theorem dX12_read_177 : decode cX12_read 177 = .ok (.iload 7, 2) := dkg_X12_420.2.2.2.2.2.2.2.2.1
theorem dX12_read_179 : decode cX12_read 179 = .ok (.imul, 1) := dkg_X12_420.2.2.2.2.2.2.2.2.2.1
theorem dkg_X12_421 : dkp cX12_read [(180, .iload 10, 2), (182, .iadd, 1), (183, .invokevirtual 351, 3), (186, .iinc 10 1, 3), (189, .goto (-49), 3), (192, .iload 9, 2), (194, .ifCond .ne 9, 3), (197, .aload_n 0, 1), (198, .iconst 0, 1), (199, .iconst 0, 1)] := dkf (by decide +kernel)
theorem dX12_read_180 : decode cX12_read 180 = .ok (.iload 10, 2) := dkg_X12_421.1
theorem dX12_read_182 : decode cX12_read 182 = .ok (.iadd, 1) := dkg_X12_421.2.1
theorem dX12_read_183 : decode cX12_read 183 = .ok (.invokevirtual 351, 3) := dkg_X12_421.2.2.1
theorem dX12_read_186 : decode cX12_read 186 = .ok (.iinc 10 1, 3) := dkg_X12_421.2.2.2.1
theorem dX12_read_189 : decode cX12_read 189 = .ok (.goto (-49), 3) := dkg_X12_421.2.2.2.2.1
theorem dX12_read_192 : decode cX12_read 192 = .ok (.iload 9, 2) := dkg_X12_421.2.2.2.2.2.1
theorem dX12_read_194 : decode cX12_read 194 = .ok (.ifCond .ne 9, 3) := dkg_X12_421.2.2.2.2.2.2.1
theorem dX12_read_197 : decode cX12_read 197 = .ok (.aload_n 0, 1) := dkg_X12_421.2.2.2.2.2.2.2.1
theorem dX12_read_198 : decode cX12_read 198 = .ok (.iconst 0, 1) := dkg_X12_421.2.2.2.2.2.2.2.2.1
theorem dX12_read_199 : decode cX12_read 199 = .ok (.iconst 0, 1) := dkg_X12_421.2.2.2.2.2.2.2.2.2.1
theorem dkg_X12_422 : dkp cX12_read [(200, .invokevirtual 351, 3), (203, .iinc 4 1, 3), (206, .goto (-174), 3), (209, .aload_n 0, 1), (210, .iload_n 1, 1), (211, .invokevirtual 354, 3), (214, .aload_n 0, 1), (215, .invokevirtual 357, 3), (218, .istore 4, 2), (220, .iload 4, 2)] := dkf (by decide +kernel)
theorem dX12_read_200 : decode cX12_read 200 = .ok (.invokevirtual 351, 3) := dkg_X12_422.1
theorem dX12_read_203 : decode cX12_read 203 = .ok (.iinc 4 1, 3) := dkg_X12_422.2.1
theorem dX12_read_206 : decode cX12_read 206 = .ok (.goto (-174), 3) := dkg_X12_422.2.2.1
theorem dX12_read_209 : decode cX12_read 209 = .ok (.aload_n 0, 1) := dkg_X12_422.2.2.2.1
theorem dX12_read_210 : decode cX12_read 210 = .ok (.iload_n 1, 1) := dkg_X12_422.2.2.2.2.1
theorem dX12_read_211 : decode cX12_read 211 = .ok (.invokevirtual 354, 3) := dkg_X12_422.2.2.2.2.2.1
theorem dX12_read_214 : decode cX12_read 214 = .ok (.aload_n 0, 1) := dkg_X12_422.2.2.2.2.2.2.1
theorem dX12_read_215 : decode cX12_read 215 = .ok (.invokevirtual 357, 3) := dkg_X12_422.2.2.2.2.2.2.2.1
theorem dX12_read_218 : decode cX12_read 218 = .ok (.istore 4, 2) := dkg_X12_422.2.2.2.2.2.2.2.2.1
theorem dX12_read_220 : decode cX12_read 220 = .ok (.iload 4, 2) := dkg_X12_422.2.2.2.2.2.2.2.2.2.1
theorem dkg_X12_423 : dkp cX12_read [(222, .ifCond .ne 12, 3), (225, .aload_n 0, 1), (226, .aload_n 0, 1), (227, .getfield 330, 3), (230, .invokevirtual 158, 3), (233, .ireturn, 1), (234, .aload_n 0, 1), (235, .iconst 0, 1), (236, .putfield 330, 3), (239, .aload_n 0, 1)] := dkf (by decide +kernel)
theorem dX12_read_222 : decode cX12_read 222 = .ok (.ifCond .ne 12, 3) := dkg_X12_423.1
theorem dX12_read_225 : decode cX12_read 225 = .ok (.aload_n 0, 1) := dkg_X12_423.2.1
theorem dX12_read_226 : decode cX12_read 226 = .ok (.aload_n 0, 1) := dkg_X12_423.2.2.1
theorem dX12_read_227 : decode cX12_read 227 = .ok (.getfield 330, 3) := dkg_X12_423.2.2.2.1
theorem dX12_read_230 : decode cX12_read 230 = .ok (.invokevirtual 158, 3) := dkg_X12_423.2.2.2.2.1
theorem dX12_read_233 : decode cX12_read 233 = .ok (.ireturn, 1) := dkg_X12_423.2.2.2.2.2.1
theorem dX12_read_234 : decode cX12_read 234 = .ok (.aload_n 0, 1) := dkg_X12_423.2.2.2.2.2.2.1
theorem dX12_read_235 : decode cX12_read 235 = .ok (.iconst 0, 1) := dkg_X12_423.2.2.2.2.2.2.2.1
theorem dX12_read_236 : decode cX12_read 236 = .ok (.putfield 330, 3) := dkg_X12_423.2.2.2.2.2.2.2.2.1
theorem dX12_read_239 : decode cX12_read 239 = .ok (.aload_n 0, 1) := dkg_X12_423.2.2.2.2.2.2.2.2.2.1
theorem dkg_X12_424 : dkp cX12_read [(240, .getfield 345, 3), (243, .aload_n 0, 1), (244, .getfield 333, 3), (247, .if_icmp .ge 27, 3), (250, .aload_n 0, 1), (251, .getfield 120, 3), (254, .aload_n 0, 1), (255, .getfield 345, 3), (258, .iaload, 1), (259, .ifCond .eq 15, 3)] := dkf (by decide +kernel)
theorem dX12_read_240 : decode cX12_read 240 = .ok (.getfield 345, 3) := dkg_X12_424.1
theorem dX12_read_243 : decode cX12_read 243 = .ok (.aload_n 0, 1) := dkg_X12_424.2.1
theorem dX12_read_244 : decode cX12_read 244 = .ok (.getfield 333, 3) := dkg_X12_424.2.2.1
theorem dX12_read_247 : decode cX12_read 247 = .ok (.if_icmp .ge 27, 3) := dkg_X12_424.2.2.2.1
theorem dX12_read_250 : decode cX12_read 250 = .ok (.aload_n 0, 1) := dkg_X12_424.2.2.2.2.1
theorem dX12_read_251 : decode cX12_read 251 = .ok (.getfield 120, 3) := dkg_X12_424.2.2.2.2.2.1
theorem dX12_read_254 : decode cX12_read 254 = .ok (.aload_n 0, 1) := dkg_X12_424.2.2.2.2.2.2.1
theorem dX12_read_255 : decode cX12_read 255 = .ok (.getfield 345, 3) := dkg_X12_424.2.2.2.2.2.2.2.1
theorem dX12_read_258 : decode cX12_read 258 = .ok (.iaload, 1) := dkg_X12_424.2.2.2.2.2.2.2.2.1
theorem dX12_read_259 : decode cX12_read 259 = .ok (.ifCond .eq 15, 3) := dkg_X12_424.2.2.2.2.2.2.2.2.2.1
theorem dkg_X12_425 : dkp cX12_read [(262, .aload_n 0, 1), (263, .getfield 123, 3), (266, .aload_n 0, 1), (267, .getfield 345, 3), (270, .iaload, 1), (271, .goto 27, 3), (274, .aload_n 0, 1), (275, .getfield 345, 3), (278, .ifCond .le 19, 3), (281, .aload_n 0, 1)] := dkf (by decide +kernel)
theorem dX12_read_262 : decode cX12_read 262 = .ok (.aload_n 0, 1) := dkg_X12_425.1
theorem dX12_read_263 : decode cX12_read 263 = .ok (.getfield 123, 3) := dkg_X12_425.2.1
theorem dX12_read_266 : decode cX12_read 266 = .ok (.aload_n 0, 1) := dkg_X12_425.2.2.1
theorem dX12_read_267 : decode cX12_read 267 = .ok (.getfield 345, 3) := dkg_X12_425.2.2.2.1
theorem dX12_read_270 : decode cX12_read 270 = .ok (.iaload, 1) := dkg_X12_425.2.2.2.2.1
theorem dX12_read_271 : decode cX12_read 271 = .ok (.goto 27, 3) := dkg_X12_425.2.2.2.2.2.1
theorem dX12_read_274 : decode cX12_read 274 = .ok (.aload_n 0, 1) := dkg_X12_425.2.2.2.2.2.2.1
theorem dX12_read_275 : decode cX12_read 275 = .ok (.getfield 345, 3) := dkg_X12_425.2.2.2.2.2.2.2.1
theorem dX12_read_278 : decode cX12_read 278 = .ok (.ifCond .le 19, 3) := dkg_X12_425.2.2.2.2.2.2.2.2.1
theorem dX12_read_281 : decode cX12_read 281 = .ok (.aload_n 0, 1) := dkg_X12_425.2.2.2.2.2.2.2.2.2.1
theorem dkg_X12_426 : dkp cX12_read [(282, .getfield 123, 3), (285, .aload_n 0, 1), (286, .getfield 345, 3), (289, .iconst 1, 1), (290, .isub, 1), (291, .iaload, 1), (292, .iconst 1, 1), (293, .iadd, 1), (294, .goto 4, 3), (297, .iconst 0, 1)] := dkf (by decide +kernel)
theorem dX12_read_282 : decode cX12_read 282 = .ok (.getfield 123, 3) := dkg_X12_426.1
theorem dX12_read_285 : decode cX12_read 285 = .ok (.aload_n 0, 1) := dkg_X12_426.2.1
theorem dX12_read_286 : decode cX12_read 286 = .ok (.getfield 345, 3) := dkg_X12_426.2.2.1
theorem dX12_read_289 : decode cX12_read 289 = .ok (.iconst 1, 1) := dkg_X12_426.2.2.2.1
theorem dX12_read_290 : decode cX12_read 290 = .ok (.isub, 1) := dkg_X12_426.2.2.2.2.1
theorem dX12_read_291 : decode cX12_read 291 = .ok (.iaload, 1) := dkg_X12_426.2.2.2.2.2.1
theorem dX12_read_292 : decode cX12_read 292 = .ok (.iconst 1, 1) := dkg_X12_426.2.2.2.2.2.2.1
theorem dX12_read_293 : decode cX12_read 293 = .ok (.iadd, 1) := dkg_X12_426.2.2.2.2.2.2.2.1
theorem dX12_read_294 : decode cX12_read 294 = .ok (.goto 4, 3) := dkg_X12_426.2.2.2.2.2.2.2.2.1
theorem dX12_read_297 : decode cX12_read 297 = .ok (.iconst 0, 1) := dkg_X12_426.2.2.2.2.2.2.2.2.2.1
theorem dkg_X12_427 : dkp cX12_read [(298, .istore 5, 2), (300, .aload_n 0, 1), (301, .iload 4, 2), (303, .iload 5, 2), (305, .invokevirtual 240, 3), (308, .ireturn, 1)] := dkf (by decide +kernel)
theorem dX12_read_298 : decode cX12_read 298 = .ok (.istore 5, 2) := dkg_X12_427.1
theorem dX12_read_300 : decode cX12_read 300 = .ok (.aload_n 0, 1) := dkg_X12_427.2.1
theorem dX12_read_301 : decode cX12_read 301 = .ok (.iload 4, 2) := dkg_X12_427.2.2.1
theorem dX12_read_303 : decode cX12_read 303 = .ok (.iload 5, 2) := dkg_X12_427.2.2.2.1
theorem dX12_read_305 : decode cX12_read 305 = .ok (.invokevirtual 240, 3) := dkg_X12_427.2.2.2.2.1
theorem dX12_read_308 : decode cX12_read 308 = .ok (.ireturn, 1) := dkg_X12_427.2.2.2.2.2.1
theorem dkg_X12_428 : dkp cX12_putRow [(0, .aload_n 0, 1), (1, .getfield 120, 3), (4, .aload_n 0, 1), (5, .getfield 333, 3), (8, .iload_n 1, 1), (9, .iastore, 1), (10, .aload_n 0, 1), (11, .getfield 123, 3), (14, .aload_n 0, 1), (15, .getfield 333, 3)] := dkf (by decide +kernel)
theorem dX12_putRow_0 : decode cX12_putRow 0 = .ok (.aload_n 0, 1) := dkg_X12_428.1
theorem dX12_putRow_1 : decode cX12_putRow 1 = .ok (.getfield 120, 3) := dkg_X12_428.2.1
theorem dX12_putRow_4 : decode cX12_putRow 4 = .ok (.aload_n 0, 1) := dkg_X12_428.2.2.1
theorem dX12_putRow_5 : decode cX12_putRow 5 = .ok (.getfield 333, 3) := dkg_X12_428.2.2.2.1
theorem dX12_putRow_8 : decode cX12_putRow 8 = .ok (.iload_n 1, 1) := dkg_X12_428.2.2.2.2.1
theorem dX12_putRow_9 : decode cX12_putRow 9 = .ok (.iastore, 1) := dkg_X12_428.2.2.2.2.2.1
theorem dX12_putRow_10 : decode cX12_putRow 10 = .ok (.aload_n 0, 1) := dkg_X12_428.2.2.2.2.2.2.1
theorem dX12_putRow_11 : decode cX12_putRow 11 = .ok (.getfield 123, 3) := dkg_X12_428.2.2.2.2.2.2.2.1
theorem dX12_putRow_14 : decode cX12_putRow 14 = .ok (.aload_n 0, 1) := dkg_X12_428.2.2.2.2.2.2.2.2.1
theorem dX12_putRow_15 : decode cX12_putRow 15 = .ok (.getfield 333, 3) := dkg_X12_428.2.2.2.2.2.2.2.2.2.1
theorem dkg_X12_429 : dkp cX12_putRow [(18, .iload_n 2, 1), (19, .iastore, 1), (20, .aload_n 0, 1), (21, .dup, 1), (22, .getfield 333, 3), (25, .iconst 1, 1), (26, .iadd, 1), (27, .putfield 333, 3), (30, .return_, 1)] := dkf (by decide +kernel)
theorem dX12_putRow_18 : decode cX12_putRow 18 = .ok (.iload_n 2, 1) := dkg_X12_429.1
theorem dX12_putRow_19 : decode cX12_putRow 19 = .ok (.iastore, 1) := dkg_X12_429.2.1
theorem dX12_putRow_20 : decode cX12_putRow 20 = .ok (.aload_n 0, 1) := dkg_X12_429.2.2.1
theorem dX12_putRow_21 : decode cX12_putRow 21 = .ok (.dup, 1) := dkg_X12_429.2.2.2.1
theorem dX12_putRow_22 : decode cX12_putRow 22 = .ok (.getfield 333, 3) := dkg_X12_429.2.2.2.2.1
theorem dX12_putRow_25 : decode cX12_putRow 25 = .ok (.iconst 1, 1) := dkg_X12_429.2.2.2.2.2.1
theorem dX12_putRow_26 : decode cX12_putRow 26 = .ok (.iadd, 1) := dkg_X12_429.2.2.2.2.2.2.1
theorem dX12_putRow_27 : decode cX12_putRow 27 = .ok (.putfield 333, 3) := dkg_X12_429.2.2.2.2.2.2.2.1
theorem dX12_putRow_30 : decode cX12_putRow 30 = .ok (.return_, 1) := dkg_X12_429.2.2.2.2.2.2.2.2.1
theorem dkg_X12_430 : dkp cX12_letter [(0, .iload_n 1, 1), (1, .iconst 0, 1), (2, .aload_n 0, 1), (3, .getfield 330, 3), (6, .iconst 1, 1), (7, .isub, 1), (8, .invokestatic 174, 3), (11, .ifCond .eq 16, 3), (14, .aload_n 0, 1), (15, .aload_n 0, 1)] := dkf (by decide +kernel)
theorem dX12_letter_0 : decode cX12_letter 0 = .ok (.iload_n 1, 1) := dkg_X12_430.1
theorem dX12_letter_1 : decode cX12_letter 1 = .ok (.iconst 0, 1) := dkg_X12_430.2.1
theorem dX12_letter_2 : decode cX12_letter 2 = .ok (.aload_n 0, 1) := dkg_X12_430.2.2.1
theorem dX12_letter_3 : decode cX12_letter 3 = .ok (.getfield 330, 3) := dkg_X12_430.2.2.2.1
theorem dX12_letter_6 : decode cX12_letter 6 = .ok (.iconst 1, 1) := dkg_X12_430.2.2.2.2.1
theorem dX12_letter_7 : decode cX12_letter 7 = .ok (.isub, 1) := dkg_X12_430.2.2.2.2.2.1
theorem dX12_letter_8 : decode cX12_letter 8 = .ok (.invokestatic 174, 3) := dkg_X12_430.2.2.2.2.2.2.1
theorem dX12_letter_11 : decode cX12_letter 11 = .ok (.ifCond .eq 16, 3) := dkg_X12_430.2.2.2.2.2.2.2.1
theorem dX12_letter_14 : decode cX12_letter 14 = .ok (.aload_n 0, 1) := dkg_X12_430.2.2.2.2.2.2.2.2.1
theorem dX12_letter_15 : decode cX12_letter 15 = .ok (.aload_n 0, 1) := dkg_X12_430.2.2.2.2.2.2.2.2.2.1
theorem dkg_X12_431 : dkp cX12_letter [(16, .getfield 126, 3), (19, .iload_n 1, 1), (20, .iaload, 1), (21, .invokevirtual 158, 3), (24, .goto 8, 3), (27, .aload_n 0, 1), (28, .iconst 2, 1), (29, .invokevirtual 154, 3), (32, .ireturn, 1)] := dkf (by decide +kernel)
theorem dX12_letter_16 : decode cX12_letter 16 = .ok (.getfield 126, 3) := dkg_X12_431.1
theorem dX12_letter_19 : decode cX12_letter 19 = .ok (.iload_n 1, 1) := dkg_X12_431.2.1
theorem dX12_letter_20 : decode cX12_letter 20 = .ok (.iaload, 1) := dkg_X12_431.2.2.1
theorem dX12_letter_21 : decode cX12_letter 21 = .ok (.invokevirtual 158, 3) := dkg_X12_431.2.2.2.1
theorem dX12_letter_24 : decode cX12_letter 24 = .ok (.goto 8, 3) := dkg_X12_431.2.2.2.2.1
theorem dX12_letter_27 : decode cX12_letter 27 = .ok (.aload_n 0, 1) := dkg_X12_431.2.2.2.2.2.1
theorem dX12_letter_28 : decode cX12_letter 28 = .ok (.iconst 2, 1) := dkg_X12_431.2.2.2.2.2.2.1
theorem dX12_letter_29 : decode cX12_letter 29 = .ok (.invokevirtual 154, 3) := dkg_X12_431.2.2.2.2.2.2.2.1
theorem dX12_letter_32 : decode cX12_letter 32 = .ok (.ireturn, 1) := dkg_X12_431.2.2.2.2.2.2.2.2.1
theorem dkg_X12_432 : dkp cX12_failed [(0, .iload_n 1, 1), (1, .iconst 0, 1), (2, .bipush 7, 2), (4, .invokestatic 174, 3), (7, .ifCond .ne 10, 3), (10, .aload_n 0, 1), (11, .bipush 6, 2), (13, .invokevirtual 154, 3), (16, .ireturn, 1), (17, .aload_n 0, 1)] := dkf (by decide +kernel)
theorem dX12_failed_0 : decode cX12_failed 0 = .ok (.iload_n 1, 1) := dkg_X12_432.1
theorem dX12_failed_1 : decode cX12_failed 1 = .ok (.iconst 0, 1) := dkg_X12_432.2.1
theorem dX12_failed_2 : decode cX12_failed 2 = .ok (.bipush 7, 2) := dkg_X12_432.2.2.1
theorem dX12_failed_4 : decode cX12_failed 4 = .ok (.invokestatic 174, 3) := dkg_X12_432.2.2.2.1
theorem dX12_failed_7 : decode cX12_failed 7 = .ok (.ifCond .ne 10, 3) := dkg_X12_432.2.2.2.2.1
theorem dX12_failed_10 : decode cX12_failed 10 = .ok (.aload_n 0, 1) := dkg_X12_432.2.2.2.2.2.1
theorem dX12_failed_11 : decode cX12_failed 11 = .ok (.bipush 6, 2) := dkg_X12_432.2.2.2.2.2.2.1
theorem dX12_failed_13 : decode cX12_failed 13 = .ok (.invokevirtual 154, 3) := dkg_X12_432.2.2.2.2.2.2.2.1
theorem dX12_failed_16 : decode cX12_failed 16 = .ok (.ireturn, 1) := dkg_X12_432.2.2.2.2.2.2.2.2.1
theorem dX12_failed_17 : decode cX12_failed 17 = .ok (.aload_n 0, 1) := dkg_X12_432.2.2.2.2.2.2.2.2.2.1
theorem dkg_X12_433 : dkp cX12_failed [(18, .iload_n 2, 1), (19, .ifCond .eq 14, 3), (22, .aload_n 0, 1), (23, .getfield 360, 3), (26, .iconst 1, 1), (27, .iload_n 1, 1), (28, .ishl, 1), (29, .ior, 1), (30, .goto 13, 3), (33, .aload_n 0, 1)] := dkf (by decide +kernel)
theorem dX12_failed_18 : decode cX12_failed 18 = .ok (.iload_n 2, 1) := dkg_X12_433.1
theorem dX12_failed_19 : decode cX12_failed 19 = .ok (.ifCond .eq 14, 3) := dkg_X12_433.2.1
theorem dX12_failed_22 : decode cX12_failed 22 = .ok (.aload_n 0, 1) := dkg_X12_433.2.2.1
theorem dX12_failed_23 : decode cX12_failed 23 = .ok (.getfield 360, 3) := dkg_X12_433.2.2.2.1
theorem dX12_failed_26 : decode cX12_failed 26 = .ok (.iconst 1, 1) := dkg_X12_433.2.2.2.2.1
theorem dX12_failed_27 : decode cX12_failed 27 = .ok (.iload_n 1, 1) := dkg_X12_433.2.2.2.2.2.1
theorem dX12_failed_28 : decode cX12_failed 28 = .ok (.ishl, 1) := dkg_X12_433.2.2.2.2.2.2.1
theorem dX12_failed_29 : decode cX12_failed 29 = .ok (.ior, 1) := dkg_X12_433.2.2.2.2.2.2.2.1
theorem dX12_failed_30 : decode cX12_failed 30 = .ok (.goto 13, 3) := dkg_X12_433.2.2.2.2.2.2.2.2.1
theorem dX12_failed_33 : decode cX12_failed 33 = .ok (.aload_n 0, 1) := dkg_X12_433.2.2.2.2.2.2.2.2.2.1
theorem dkg_X12_434 : dkp cX12_failed [(34, .getfield 360, 3), (37, .iconst 1, 1), (38, .iload_n 1, 1), (39, .ishl, 1), (40, .iconst (-1), 1), (41, .ixor, 1), (42, .iand, 1), (43, .putfield 360, 3), (46, .aload_n 0, 1), (47, .aload_n 0, 1)] := dkf (by decide +kernel)
theorem dX12_failed_34 : decode cX12_failed 34 = .ok (.getfield 360, 3) := dkg_X12_434.1
theorem dX12_failed_37 : decode cX12_failed 37 = .ok (.iconst 1, 1) := dkg_X12_434.2.1
theorem dX12_failed_38 : decode cX12_failed 38 = .ok (.iload_n 1, 1) := dkg_X12_434.2.2.1
theorem dX12_failed_39 : decode cX12_failed 39 = .ok (.ishl, 1) := dkg_X12_434.2.2.2.1
theorem dX12_failed_40 : decode cX12_failed 40 = .ok (.iconst (-1), 1) := dkg_X12_434.2.2.2.2.1
theorem dX12_failed_41 : decode cX12_failed 41 = .ok (.ixor, 1) := dkg_X12_434.2.2.2.2.2.1
theorem dX12_failed_42 : decode cX12_failed 42 = .ok (.iand, 1) := dkg_X12_434.2.2.2.2.2.2.1
theorem dX12_failed_43 : decode cX12_failed 43 = .ok (.putfield 360, 3) := dkg_X12_434.2.2.2.2.2.2.2.1
theorem dX12_failed_46 : decode cX12_failed 46 = .ok (.aload_n 0, 1) := dkg_X12_434.2.2.2.2.2.2.2.2.1
theorem dX12_failed_47 : decode cX12_failed 47 = .ok (.aload_n 0, 1) := dkg_X12_434.2.2.2.2.2.2.2.2.2.1
theorem dkg_X12_435 : dkp cX12_failed [(48, .getfield 360, 3), (51, .invokestatic 309, 3), (54, .invokevirtual 158, 3), (57, .ireturn, 1)] := dkf (by decide +kernel)
theorem dX12_failed_48 : decode cX12_failed 48 = .ok (.getfield 360, 3) := dkg_X12_435.1
theorem dX12_failed_51 : decode cX12_failed 51 = .ok (.invokestatic 309, 3) := dkg_X12_435.2.1
theorem dX12_failed_54 : decode cX12_failed 54 = .ok (.invokevirtual 158, 3) := dkg_X12_435.2.2.1
theorem dX12_failed_57 : decode cX12_failed 57 = .ok (.ireturn, 1) := dkg_X12_435.2.2.2.1
theorem dkg_X12_436 : dkp cX12_looksLike [(0, .iload_n 1, 1), (1, .iload_n 2, 1), (2, .ixor, 1), (3, .sipush 255, 3), (6, .iand, 1), (7, .aload_n 0, 1), (8, .getfield 360, 3), (11, .iconst (-1), 1), (12, .ixor, 1), (13, .iand, 1)] := dkf (by decide +kernel)
theorem dX12_looksLike_0 : decode cX12_looksLike 0 = .ok (.iload_n 1, 1) := dkg_X12_436.1
theorem dX12_looksLike_1 : decode cX12_looksLike 1 = .ok (.iload_n 2, 1) := dkg_X12_436.2.1
theorem dX12_looksLike_2 : decode cX12_looksLike 2 = .ok (.ixor, 1) := dkg_X12_436.2.2.1
theorem dX12_looksLike_3 : decode cX12_looksLike 3 = .ok (.sipush 255, 3) := dkg_X12_436.2.2.2.1
theorem dX12_looksLike_6 : decode cX12_looksLike 6 = .ok (.iand, 1) := dkg_X12_436.2.2.2.2.1
theorem dX12_looksLike_7 : decode cX12_looksLike 7 = .ok (.aload_n 0, 1) := dkg_X12_436.2.2.2.2.2.1
theorem dX12_looksLike_8 : decode cX12_looksLike 8 = .ok (.getfield 360, 3) := dkg_X12_436.2.2.2.2.2.2.1
theorem dX12_looksLike_11 : decode cX12_looksLike 11 = .ok (.iconst (-1), 1) := dkg_X12_436.2.2.2.2.2.2.2.1
theorem dX12_looksLike_12 : decode cX12_looksLike 12 = .ok (.ixor, 1) := dkg_X12_436.2.2.2.2.2.2.2.2.1
theorem dX12_looksLike_13 : decode cX12_looksLike 13 = .ok (.iand, 1) := dkg_X12_436.2.2.2.2.2.2.2.2.2.1
theorem dkg_X12_437 : dkp cX12_looksLike [(14, .ifCond .ne 7, 3), (17, .iconst 1, 1), (18, .goto 4, 3), (21, .iconst 0, 1), (22, .ireturn, 1)] := dkf (by decide +kernel)
theorem dX12_looksLike_14 : decode cX12_looksLike 14 = .ok (.ifCond .ne 7, 3) := dkg_X12_437.1
theorem dX12_looksLike_17 : decode cX12_looksLike 17 = .ok (.iconst 1, 1) := dkg_X12_437.2.1
theorem dX12_looksLike_18 : decode cX12_looksLike 18 = .ok (.goto 4, 3) := dkg_X12_437.2.2.1
theorem dX12_looksLike_21 : decode cX12_looksLike 21 = .ok (.iconst 0, 1) := dkg_X12_437.2.2.2.1
theorem dX12_looksLike_22 : decode cX12_looksLike 22 = .ok (.ireturn, 1) := dkg_X12_437.2.2.2.2.1
theorem dkg_X12_438 : dkp cX12_next [(0, .aload_n 0, 1), (1, .getfield 107, 3), (4, .iload_n 1, 1), (5, .iaload, 1), (6, .bipush (-3), 2), (8, .if_icmp .ne 7, 3), (11, .iconst 1, 1), (12, .goto 19, 3), (15, .aload_n 0, 1), (16, .getfield 107, 3)] := dkf (by decide +kernel)
theorem dX12_next_0 : decode cX12_next 0 = .ok (.aload_n 0, 1) := dkg_X12_438.1
theorem dX12_next_1 : decode cX12_next 1 = .ok (.getfield 107, 3) := dkg_X12_438.2.1
theorem dX12_next_4 : decode cX12_next 4 = .ok (.iload_n 1, 1) := dkg_X12_438.2.2.1
theorem dX12_next_5 : decode cX12_next 5 = .ok (.iaload, 1) := dkg_X12_438.2.2.2.1
theorem dX12_next_6 : decode cX12_next 6 = .ok (.bipush (-3), 2) := dkg_X12_438.2.2.2.2.1
theorem dX12_next_8 : decode cX12_next 8 = .ok (.if_icmp .ne 7, 3) := dkg_X12_438.2.2.2.2.2.1
theorem dX12_next_11 : decode cX12_next 11 = .ok (.iconst 1, 1) := dkg_X12_438.2.2.2.2.2.2.1
theorem dX12_next_12 : decode cX12_next 12 = .ok (.goto 19, 3) := dkg_X12_438.2.2.2.2.2.2.2.1
theorem dX12_next_15 : decode cX12_next 15 = .ok (.aload_n 0, 1) := dkg_X12_438.2.2.2.2.2.2.2.2.1
theorem dX12_next_16 : decode cX12_next 16 = .ok (.getfield 107, 3) := dkg_X12_438.2.2.2.2.2.2.2.2.2.1
theorem dkg_X12_439 : dkp cX12_next [(19, .iload_n 1, 1), (20, .iaload, 1), (21, .bipush (-4), 2), (23, .if_icmp .ne 7, 3), (26, .iconst 0, 1), (27, .goto 4, 3), (30, .iload_n 2, 1), (31, .ireturn, 1)] := dkf (by decide +kernel)
theorem dX12_next_19 : decode cX12_next 19 = .ok (.iload_n 1, 1) := dkg_X12_439.1
theorem dX12_next_20 : decode cX12_next 20 = .ok (.iaload, 1) := dkg_X12_439.2.1
theorem dX12_next_21 : decode cX12_next 21 = .ok (.bipush (-4), 2) := dkg_X12_439.2.2.1
theorem dX12_next_23 : decode cX12_next 23 = .ok (.if_icmp .ne 7, 3) := dkg_X12_439.2.2.2.1
theorem dX12_next_26 : decode cX12_next 26 = .ok (.iconst 0, 1) := dkg_X12_439.2.2.2.2.1
theorem dX12_next_27 : decode cX12_next 27 = .ok (.goto 4, 3) := dkg_X12_439.2.2.2.2.2.1
theorem dX12_next_30 : decode cX12_next 30 = .ok (.iload_n 2, 1) := dkg_X12_439.2.2.2.2.2.2.1
theorem dX12_next_31 : decode cX12_next 31 = .ok (.ireturn, 1) := dkg_X12_439.2.2.2.2.2.2.2.1
theorem dkg_X12_440 : dkp cX12_state [(0, .iconst 4, 1), (1, .iload_n 0, 1), (2, .imul, 1), (3, .iconst 2, 1), (4, .iload_n 1, 1), (5, .imul, 1), (6, .iadd, 1), (7, .iload_n 2, 1), (8, .ifCond .eq 7, 3), (11, .iconst 1, 1)] := dkf (by decide +kernel)
theorem dX12_state_0 : decode cX12_state 0 = .ok (.iconst 4, 1) := dkg_X12_440.1
theorem dX12_state_1 : decode cX12_state 1 = .ok (.iload_n 0, 1) := dkg_X12_440.2.1
theorem dX12_state_2 : decode cX12_state 2 = .ok (.imul, 1) := dkg_X12_440.2.2.1
theorem dX12_state_3 : decode cX12_state 3 = .ok (.iconst 2, 1) := dkg_X12_440.2.2.2.1
theorem dX12_state_4 : decode cX12_state 4 = .ok (.iload_n 1, 1) := dkg_X12_440.2.2.2.2.1
theorem dX12_state_5 : decode cX12_state 5 = .ok (.imul, 1) := dkg_X12_440.2.2.2.2.2.1
theorem dX12_state_6 : decode cX12_state 6 = .ok (.iadd, 1) := dkg_X12_440.2.2.2.2.2.2.1
theorem dX12_state_7 : decode cX12_state 7 = .ok (.iload_n 2, 1) := dkg_X12_440.2.2.2.2.2.2.2.1
theorem dX12_state_8 : decode cX12_state 8 = .ok (.ifCond .eq 7, 3) := dkg_X12_440.2.2.2.2.2.2.2.2.1
theorem dX12_state_11 : decode cX12_state 11 = .ok (.iconst 1, 1) := dkg_X12_440.2.2.2.2.2.2.2.2.2.1
theorem dkg_X12_441 : dkp cX12_state [(12, .goto 4, 3), (15, .iconst 0, 1), (16, .iadd, 1), (17, .ireturn, 1)] := dkf (by decide +kernel)
theorem dX12_state_12 : decode cX12_state 12 = .ok (.goto 4, 3) := dkg_X12_441.1
theorem dX12_state_15 : decode cX12_state 15 = .ok (.iconst 0, 1) := dkg_X12_441.2.1
theorem dX12_state_16 : decode cX12_state 16 = .ok (.iadd, 1) := dkg_X12_441.2.2.1
theorem dX12_state_17 : decode cX12_state 17 = .ok (.ireturn, 1) := dkg_X12_441.2.2.2.1
theorem dkg_X12_442 : dkp cX12_may [(0, .iload_n 2, 1), (1, .aload_n 0, 1), (2, .getfield 113, 3), (5, .iload_n 1, 1), (6, .iaload, 1), (7, .iadd, 1), (8, .aload_n 0, 1), (9, .getfield 333, 3), (12, .if_icmp .gt 16, 3), (15, .iload 4, 2)] := dkf (by decide +kernel)
theorem dX12_may_0 : decode cX12_may 0 = .ok (.iload_n 2, 1) := dkg_X12_442.1
theorem dX12_may_1 : decode cX12_may 1 = .ok (.aload_n 0, 1) := dkg_X12_442.2.1
theorem dX12_may_2 : decode cX12_may 2 = .ok (.getfield 113, 3) := dkg_X12_442.2.2.1
theorem dX12_may_5 : decode cX12_may 5 = .ok (.iload_n 1, 1) := dkg_X12_442.2.2.2.1
theorem dX12_may_6 : decode cX12_may 6 = .ok (.iaload, 1) := dkg_X12_442.2.2.2.2.1
theorem dX12_may_7 : decode cX12_may 7 = .ok (.iadd, 1) := dkg_X12_442.2.2.2.2.2.1
theorem dX12_may_8 : decode cX12_may 8 = .ok (.aload_n 0, 1) := dkg_X12_442.2.2.2.2.2.2.1
theorem dX12_may_9 : decode cX12_may 9 = .ok (.getfield 333, 3) := dkg_X12_442.2.2.2.2.2.2.2.1
theorem dX12_may_12 : decode cX12_may 12 = .ok (.if_icmp .gt 16, 3) := dkg_X12_442.2.2.2.2.2.2.2.2.1
theorem dX12_may_15 : decode cX12_may 15 = .ok (.iload 4, 2) := dkg_X12_442.2.2.2.2.2.2.2.2.2.1
theorem dkg_X12_443 : dkp cX12_may [(17, .ifCond .eq 13, 3), (20, .aload_n 0, 1), (21, .iload_n 1, 1), (22, .invokevirtual 348, 3), (25, .ifCond .ne 5, 3), (28, .iconst 0, 1), (29, .ireturn, 1), (30, .iconst 0, 1), (31, .istore 5, 2), (33, .iload 5, 2)] := dkf (by decide +kernel)
theorem dX12_may_17 : decode cX12_may 17 = .ok (.ifCond .eq 13, 3) := dkg_X12_443.1
theorem dX12_may_20 : decode cX12_may 20 = .ok (.aload_n 0, 1) := dkg_X12_443.2.1
theorem dX12_may_21 : decode cX12_may 21 = .ok (.iload_n 1, 1) := dkg_X12_443.2.2.1
theorem dX12_may_22 : decode cX12_may 22 = .ok (.invokevirtual 348, 3) := dkg_X12_443.2.2.2.1
theorem dX12_may_25 : decode cX12_may 25 = .ok (.ifCond .ne 5, 3) := dkg_X12_443.2.2.2.2.1
theorem dX12_may_28 : decode cX12_may 28 = .ok (.iconst 0, 1) := dkg_X12_443.2.2.2.2.2.1
theorem dX12_may_29 : decode cX12_may 29 = .ok (.ireturn, 1) := dkg_X12_443.2.2.2.2.2.2.1
theorem dX12_may_30 : decode cX12_may 30 = .ok (.iconst 0, 1) := dkg_X12_443.2.2.2.2.2.2.2.1
theorem dX12_may_31 : decode cX12_may 31 = .ok (.istore 5, 2) := dkg_X12_443.2.2.2.2.2.2.2.2.1
theorem dX12_may_33 : decode cX12_may 33 = .ok (.iload 5, 2) := dkg_X12_443.2.2.2.2.2.2.2.2.2.1
theorem dkg_X12_444 : dkp cX12_may [(35, .aload_n 0, 1), (36, .getfield 113, 3), (39, .iload_n 1, 1), (40, .iaload, 1), (41, .if_icmp .ge 34, 3), (44, .aload_n 0, 1), (45, .aload_n 0, 1), (46, .iload_n 1, 1), (47, .iload 5, 2), (49, .invokevirtual 324, 3)] := dkf (by decide +kernel)
theorem dX12_may_35 : decode cX12_may 35 = .ok (.aload_n 0, 1) := dkg_X12_444.1
theorem dX12_may_36 : decode cX12_may 36 = .ok (.getfield 113, 3) := dkg_X12_444.2.1
theorem dX12_may_39 : decode cX12_may 39 = .ok (.iload_n 1, 1) := dkg_X12_444.2.2.1
theorem dX12_may_40 : decode cX12_may 40 = .ok (.iaload, 1) := dkg_X12_444.2.2.2.1
theorem dX12_may_41 : decode cX12_may 41 = .ok (.if_icmp .ge 34, 3) := dkg_X12_444.2.2.2.2.1
theorem dX12_may_44 : decode cX12_may 44 = .ok (.aload_n 0, 1) := dkg_X12_444.2.2.2.2.2.1
theorem dX12_may_45 : decode cX12_may 45 = .ok (.aload_n 0, 1) := dkg_X12_444.2.2.2.2.2.2.1
theorem dX12_may_46 : decode cX12_may 46 = .ok (.iload_n 1, 1) := dkg_X12_444.2.2.2.2.2.2.2.1
theorem dX12_may_47 : decode cX12_may 47 = .ok (.iload 5, 2) := dkg_X12_444.2.2.2.2.2.2.2.2.1
theorem dX12_may_49 : decode cX12_may 49 = .ok (.invokevirtual 324, 3) := dkg_X12_444.2.2.2.2.2.2.2.2.2.1
theorem dkg_X12_445 : dkp cX12_may [(52, .aload_n 0, 1), (53, .getfield 120, 3), (56, .iload_n 2, 1), (57, .iload 5, 2), (59, .iadd, 1), (60, .iaload, 1), (61, .invokevirtual 363, 3), (64, .ifCond .ne 5, 3), (67, .iconst 0, 1), (68, .ireturn, 1)] := dkf (by decide +kernel)
theorem dX12_may_52 : decode cX12_may 52 = .ok (.aload_n 0, 1) := dkg_X12_445.1
theorem dX12_may_53 : decode cX12_may 53 = .ok (.getfield 120, 3) := dkg_X12_445.2.1
theorem dX12_may_56 : decode cX12_may 56 = .ok (.iload_n 2, 1) := dkg_X12_445.2.2.1
theorem dX12_may_57 : decode cX12_may 57 = .ok (.iload 5, 2) := dkg_X12_445.2.2.2.1
theorem dX12_may_59 : decode cX12_may 59 = .ok (.iadd, 1) := dkg_X12_445.2.2.2.2.1
theorem dX12_may_60 : decode cX12_may 60 = .ok (.iaload, 1) := dkg_X12_445.2.2.2.2.2.1
theorem dX12_may_61 : decode cX12_may 61 = .ok (.invokevirtual 363, 3) := dkg_X12_445.2.2.2.2.2.2.1
theorem dX12_may_64 : decode cX12_may 64 = .ok (.ifCond .ne 5, 3) := dkg_X12_445.2.2.2.2.2.2.2.1
theorem dX12_may_67 : decode cX12_may 67 = .ok (.iconst 0, 1) := dkg_X12_445.2.2.2.2.2.2.2.2.1
theorem dX12_may_68 : decode cX12_may 68 = .ok (.ireturn, 1) := dkg_X12_445.2.2.2.2.2.2.2.2.2.1
theorem dkg_X12_446 : dkp cX12_may [(69, .iinc 5 1, 3), (72, .goto (-39), 3), (75, .aload_n 0, 1), (76, .getfield 132, 3), (79, .iload_n 2, 1), (80, .aload_n 0, 1), (81, .getfield 113, 3), (84, .iload_n 1, 1), (85, .iaload, 1), (86, .iadd, 1)] := dkf (by decide +kernel)
theorem dX12_may_69 : decode cX12_may 69 = .ok (.iinc 5 1, 3) := dkg_X12_446.1
theorem dX12_may_72 : decode cX12_may 72 = .ok (.goto (-39), 3) := dkg_X12_446.2.1
theorem dX12_may_75 : decode cX12_may 75 = .ok (.aload_n 0, 1) := dkg_X12_446.2.2.1
theorem dX12_may_76 : decode cX12_may 76 = .ok (.getfield 132, 3) := dkg_X12_446.2.2.2.1
theorem dX12_may_79 : decode cX12_may 79 = .ok (.iload_n 2, 1) := dkg_X12_446.2.2.2.2.1
theorem dX12_may_80 : decode cX12_may 80 = .ok (.aload_n 0, 1) := dkg_X12_446.2.2.2.2.2.1
theorem dX12_may_81 : decode cX12_may 81 = .ok (.getfield 113, 3) := dkg_X12_446.2.2.2.2.2.2.1
theorem dX12_may_84 : decode cX12_may 84 = .ok (.iload_n 1, 1) := dkg_X12_446.2.2.2.2.2.2.2.1
theorem dX12_may_85 : decode cX12_may 85 = .ok (.iaload, 1) := dkg_X12_446.2.2.2.2.2.2.2.2.1
theorem dX12_may_86 : decode cX12_may 86 = .ok (.iadd, 1) := dkg_X12_446.2.2.2.2.2.2.2.2.2.1
theorem dkg_X12_447 : dkp cX12_may [(87, .aload_n 0, 1), (88, .iload_n 1, 1), (89, .iload_n 3, 1), (90, .invokevirtual 367, 3), (93, .aload_n 0, 1), (94, .getfield 107, 3), (97, .iload_n 1, 1), (98, .iaload, 1), (99, .iconst (-1), 1), (100, .if_icmp .ne 7, 3)] := dkf (by decide +kernel)
theorem dX12_may_87 : decode cX12_may 87 = .ok (.aload_n 0, 1) := dkg_X12_447.1
theorem dX12_may_88 : decode cX12_may 88 = .ok (.iload_n 1, 1) := dkg_X12_447.2.1
theorem dX12_may_89 : decode cX12_may 89 = .ok (.iload_n 3, 1) := dkg_X12_447.2.2.1
theorem dX12_may_90 : decode cX12_may 90 = .ok (.invokevirtual 367, 3) := dkg_X12_447.2.2.2.1
theorem dX12_may_93 : decode cX12_may 93 = .ok (.aload_n 0, 1) := dkg_X12_447.2.2.2.2.1
theorem dX12_may_94 : decode cX12_may 94 = .ok (.getfield 107, 3) := dkg_X12_447.2.2.2.2.2.1
theorem dX12_may_97 : decode cX12_may 97 = .ok (.iload_n 1, 1) := dkg_X12_447.2.2.2.2.2.2.1
theorem dX12_may_98 : decode cX12_may 98 = .ok (.iaload, 1) := dkg_X12_447.2.2.2.2.2.2.2.1
theorem dX12_may_99 : decode cX12_may 99 = .ok (.iconst (-1), 1) := dkg_X12_447.2.2.2.2.2.2.2.2.1
theorem dX12_may_100 : decode cX12_may 100 = .ok (.if_icmp .ne 7, 3) := dkg_X12_447.2.2.2.2.2.2.2.2.2.1
theorem dkg_X12_448 : dkp cX12_may [(103, .iconst 1, 1), (104, .goto 4, 3), (107, .iconst 0, 1), (108, .invokestatic 370, 3), (111, .baload, 1), (112, .ireturn, 1)] := dkf (by decide +kernel)
theorem dX12_may_103 : decode cX12_may 103 = .ok (.iconst 1, 1) := dkg_X12_448.1
theorem dX12_may_104 : decode cX12_may 104 = .ok (.goto 4, 3) := dkg_X12_448.2.1
theorem dX12_may_107 : decode cX12_may 107 = .ok (.iconst 0, 1) := dkg_X12_448.2.2.1
theorem dX12_may_108 : decode cX12_may 108 = .ok (.invokestatic 370, 3) := dkg_X12_448.2.2.2.1
theorem dX12_may_111 : decode cX12_may 111 = .ok (.baload, 1) := dkg_X12_448.2.2.2.2.1
theorem dX12_may_112 : decode cX12_may 112 = .ok (.ireturn, 1) := dkg_X12_448.2.2.2.2.2.1
theorem dkg_X12_449 : dkp cX12_mayBlank [(0, .iload_n 2, 1), (1, .ifCond .ne 37, 3), (4, .aload_n 0, 1), (5, .iconst 0, 1), (6, .aload_n 0, 1), (7, .getfield 120, 3), (10, .iload_n 1, 1), (11, .iaload, 1), (12, .invokevirtual 363, 3), (15, .ifCond .eq 23, 3)] := dkf (by decide +kernel)
theorem dX12_mayBlank_0 : decode cX12_mayBlank 0 = .ok (.iload_n 2, 1) := dkg_X12_449.1
theorem dX12_mayBlank_1 : decode cX12_mayBlank 1 = .ok (.ifCond .ne 37, 3) := dkg_X12_449.2.1
theorem dX12_mayBlank_4 : decode cX12_mayBlank 4 = .ok (.aload_n 0, 1) := dkg_X12_449.2.2.1
theorem dX12_mayBlank_5 : decode cX12_mayBlank 5 = .ok (.iconst 0, 1) := dkg_X12_449.2.2.2.1
theorem dX12_mayBlank_6 : decode cX12_mayBlank 6 = .ok (.aload_n 0, 1) := dkg_X12_449.2.2.2.2.1
theorem dX12_mayBlank_7 : decode cX12_mayBlank 7 = .ok (.getfield 120, 3) := dkg_X12_449.2.2.2.2.2.1
theorem dX12_mayBlank_10 : decode cX12_mayBlank 10 = .ok (.iload_n 1, 1) := dkg_X12_449.2.2.2.2.2.2.1
theorem dX12_mayBlank_11 : decode cX12_mayBlank 11 = .ok (.iaload, 1) := dkg_X12_449.2.2.2.2.2.2.2.1
theorem dX12_mayBlank_12 : decode cX12_mayBlank 12 = .ok (.invokevirtual 363, 3) := dkg_X12_449.2.2.2.2.2.2.2.2.1
theorem dX12_mayBlank_15 : decode cX12_mayBlank 15 = .ok (.ifCond .eq 23, 3) := dkg_X12_449.2.2.2.2.2.2.2.2.2.1
theorem dkg_X12_450 : dkp cX12_mayBlank [(18, .aload_n 0, 1), (19, .getfield 132, 3), (22, .iload_n 1, 1), (23, .iconst 1, 1), (24, .iadd, 1), (25, .iconst 0, 1), (26, .iconst 0, 1), (27, .invokestatic 370, 3), (30, .baload, 1), (31, .ifCond .eq 7, 3)] := dkf (by decide +kernel)
theorem dX12_mayBlank_18 : decode cX12_mayBlank 18 = .ok (.aload_n 0, 1) := dkg_X12_450.1
theorem dX12_mayBlank_19 : decode cX12_mayBlank 19 = .ok (.getfield 132, 3) := dkg_X12_450.2.1
theorem dX12_mayBlank_22 : decode cX12_mayBlank 22 = .ok (.iload_n 1, 1) := dkg_X12_450.2.2.1
theorem dX12_mayBlank_23 : decode cX12_mayBlank 23 = .ok (.iconst 1, 1) := dkg_X12_450.2.2.2.1
theorem dX12_mayBlank_24 : decode cX12_mayBlank 24 = .ok (.iadd, 1) := dkg_X12_450.2.2.2.2.1
theorem dX12_mayBlank_25 : decode cX12_mayBlank 25 = .ok (.iconst 0, 1) := dkg_X12_450.2.2.2.2.2.1
theorem dX12_mayBlank_26 : decode cX12_mayBlank 26 = .ok (.iconst 0, 1) := dkg_X12_450.2.2.2.2.2.2.1
theorem dX12_mayBlank_27 : decode cX12_mayBlank 27 = .ok (.invokestatic 370, 3) := dkg_X12_450.2.2.2.2.2.2.2.1
theorem dX12_mayBlank_30 : decode cX12_mayBlank 30 = .ok (.baload, 1) := dkg_X12_450.2.2.2.2.2.2.2.2.1
theorem dX12_mayBlank_31 : decode cX12_mayBlank 31 = .ok (.ifCond .eq 7, 3) := dkg_X12_450.2.2.2.2.2.2.2.2.2.1
theorem dkg_X12_451 : dkp cX12_mayBlank [(34, .iconst 1, 1), (35, .goto 4, 3), (38, .iconst 0, 1), (39, .ireturn, 1)] := dkf (by decide +kernel)
theorem dX12_mayBlank_34 : decode cX12_mayBlank 34 = .ok (.iconst 1, 1) := dkg_X12_451.1
theorem dX12_mayBlank_35 : decode cX12_mayBlank 35 = .ok (.goto 4, 3) := dkg_X12_451.2.1
theorem dX12_mayBlank_38 : decode cX12_mayBlank 38 = .ok (.iconst 0, 1) := dkg_X12_451.2.2.1
theorem dX12_mayBlank_39 : decode cX12_mayBlank 39 = .ok (.ireturn, 1) := dkg_X12_451.2.2.2.1
theorem dkg_X12_452 : dkp cX12_findCan [(0, .aload_n 0, 1), (1, .getfield 333, 3), (4, .istore_n 1, 1), (5, .iload_n 1, 1), (6, .ifCond .lt 145, 3), (9, .iconst 0, 1), (10, .istore_n 2, 1), (11, .iload_n 2, 1), (12, .iconst 4, 1), (13, .if_icmp .ge 132, 3)] := dkf (by decide +kernel)
theorem dX12_findCan_0 : decode cX12_findCan 0 = .ok (.aload_n 0, 1) := dkg_X12_452.1
theorem dX12_findCan_1 : decode cX12_findCan 1 = .ok (.getfield 333, 3) := dkg_X12_452.2.1
theorem dX12_findCan_4 : decode cX12_findCan 4 = .ok (.istore_n 1, 1) := dkg_X12_452.2.2.1
theorem dX12_findCan_5 : decode cX12_findCan 5 = .ok (.iload_n 1, 1) := dkg_X12_452.2.2.2.1
theorem dX12_findCan_6 : decode cX12_findCan 6 = .ok (.ifCond .lt 145, 3) := dkg_X12_452.2.2.2.2.1
theorem dX12_findCan_9 : decode cX12_findCan 9 = .ok (.iconst 0, 1) := dkg_X12_452.2.2.2.2.2.1
theorem dX12_findCan_10 : decode cX12_findCan 10 = .ok (.istore_n 2, 1) := dkg_X12_452.2.2.2.2.2.2.1
theorem dX12_findCan_11 : decode cX12_findCan 11 = .ok (.iload_n 2, 1) := dkg_X12_452.2.2.2.2.2.2.2.1
theorem dX12_findCan_12 : decode cX12_findCan 12 = .ok (.iconst 4, 1) := dkg_X12_452.2.2.2.2.2.2.2.2.1
theorem dX12_findCan_13 : decode cX12_findCan 13 = .ok (.if_icmp .ge 132, 3) := dkg_X12_452.2.2.2.2.2.2.2.2.2.1
theorem dkg_X12_453 : dkp cX12_findCan [(16, .iload_n 2, 1), (17, .iconst 2, 1), (18, .idiv, 1), (19, .istore_n 3, 1), (20, .iload_n 2, 1), (21, .iconst 2, 1), (22, .irem, 1), (23, .iconst 1, 1), (24, .if_icmp .ne 7, 3), (27, .iconst 1, 1)] := dkf (by decide +kernel)
theorem dX12_findCan_16 : decode cX12_findCan 16 = .ok (.iload_n 2, 1) := dkg_X12_453.1
theorem dX12_findCan_17 : decode cX12_findCan 17 = .ok (.iconst 2, 1) := dkg_X12_453.2.1
theorem dX12_findCan_18 : decode cX12_findCan 18 = .ok (.idiv, 1) := dkg_X12_453.2.2.1
theorem dX12_findCan_19 : decode cX12_findCan 19 = .ok (.istore_n 3, 1) := dkg_X12_453.2.2.2.1
theorem dX12_findCan_20 : decode cX12_findCan 20 = .ok (.iload_n 2, 1) := dkg_X12_453.2.2.2.2.1
theorem dX12_findCan_21 : decode cX12_findCan 21 = .ok (.iconst 2, 1) := dkg_X12_453.2.2.2.2.2.1
theorem dX12_findCan_22 : decode cX12_findCan 22 = .ok (.irem, 1) := dkg_X12_453.2.2.2.2.2.2.1
theorem dX12_findCan_23 : decode cX12_findCan 23 = .ok (.iconst 1, 1) := dkg_X12_453.2.2.2.2.2.2.2.1
theorem dX12_findCan_24 : decode cX12_findCan 24 = .ok (.if_icmp .ne 7, 3) := dkg_X12_453.2.2.2.2.2.2.2.2.1
theorem dX12_findCan_27 : decode cX12_findCan 27 = .ok (.iconst 1, 1) := dkg_X12_453.2.2.2.2.2.2.2.2.2.1
theorem dkg_X12_454 : dkp cX12_findCan [(28, .goto 4, 3), (31, .iconst 0, 1), (32, .istore 4, 2), (34, .iload_n 1, 1), (35, .aload_n 0, 1), (36, .getfield 333, 3), (39, .if_icmp .ne 8, 3), (42, .iload 4, 2), (44, .ifCond .eq 21, 3), (47, .iload_n 1, 1)] := dkf (by decide +kernel)
theorem dX12_findCan_28 : decode cX12_findCan 28 = .ok (.goto 4, 3) := dkg_X12_454.1
theorem dX12_findCan_31 : decode cX12_findCan 31 = .ok (.iconst 0, 1) := dkg_X12_454.2.1
theorem dX12_findCan_32 : decode cX12_findCan 32 = .ok (.istore 4, 2) := dkg_X12_454.2.2.1
theorem dX12_findCan_34 : decode cX12_findCan 34 = .ok (.iload_n 1, 1) := dkg_X12_454.2.2.2.1
theorem dX12_findCan_35 : decode cX12_findCan 35 = .ok (.aload_n 0, 1) := dkg_X12_454.2.2.2.2.1
theorem dX12_findCan_36 : decode cX12_findCan 36 = .ok (.getfield 333, 3) := dkg_X12_454.2.2.2.2.2.1
theorem dX12_findCan_39 : decode cX12_findCan 39 = .ok (.if_icmp .ne 8, 3) := dkg_X12_454.2.2.2.2.2.2.1
theorem dX12_findCan_42 : decode cX12_findCan 42 = .ok (.iload 4, 2) := dkg_X12_454.2.2.2.2.2.2.2.1
theorem dX12_findCan_44 : decode cX12_findCan 44 = .ok (.ifCond .eq 21, 3) := dkg_X12_454.2.2.2.2.2.2.2.2.1
theorem dX12_findCan_47 : decode cX12_findCan 47 = .ok (.iload_n 1, 1) := dkg_X12_454.2.2.2.2.2.2.2.2.2.1
theorem dkg_X12_455 : dkp cX12_findCan [(48, .aload_n 0, 1), (49, .getfield 333, 3), (52, .if_icmp .ge 17, 3), (55, .aload_n 0, 1), (56, .iload_n 1, 1), (57, .iload 4, 2), (59, .invokevirtual 374, 3), (62, .ifCond .eq 7, 3), (65, .iconst 1, 1), (66, .goto 4, 3)] := dkf (by decide +kernel)
theorem dX12_findCan_48 : decode cX12_findCan 48 = .ok (.aload_n 0, 1) := dkg_X12_455.1
theorem dX12_findCan_49 : decode cX12_findCan 49 = .ok (.getfield 333, 3) := dkg_X12_455.2.1
theorem dX12_findCan_52 : decode cX12_findCan 52 = .ok (.if_icmp .ge 17, 3) := dkg_X12_455.2.2.1
theorem dX12_findCan_55 : decode cX12_findCan 55 = .ok (.aload_n 0, 1) := dkg_X12_455.2.2.2.1
theorem dX12_findCan_56 : decode cX12_findCan 56 = .ok (.iload_n 1, 1) := dkg_X12_455.2.2.2.2.1
theorem dX12_findCan_57 : decode cX12_findCan 57 = .ok (.iload 4, 2) := dkg_X12_455.2.2.2.2.2.1
theorem dX12_findCan_59 : decode cX12_findCan 59 = .ok (.invokevirtual 374, 3) := dkg_X12_455.2.2.2.2.2.2.1
theorem dX12_findCan_62 : decode cX12_findCan 62 = .ok (.ifCond .eq 7, 3) := dkg_X12_455.2.2.2.2.2.2.2.1
theorem dX12_findCan_65 : decode cX12_findCan 65 = .ok (.iconst 1, 1) := dkg_X12_455.2.2.2.2.2.2.2.2.1
theorem dX12_findCan_66 : decode cX12_findCan 66 = .ok (.goto 4, 3) := dkg_X12_455.2.2.2.2.2.2.2.2.2.1
theorem dkg_X12_456 : dkp cX12_findCan [(69, .iconst 0, 1), (70, .istore 5, 2), (72, .sipush 6008, 3), (75, .iload_n 3, 1), (76, .imul, 1), (77, .istore 6, 2), (79, .iload 6, 2), (81, .sipush 6008, 3), (84, .iload_n 3, 1), (85, .imul, 1)] := dkf (by decide +kernel)
theorem dX12_findCan_69 : decode cX12_findCan 69 = .ok (.iconst 0, 1) := dkg_X12_456.1
theorem dX12_findCan_70 : decode cX12_findCan 70 = .ok (.istore 5, 2) := dkg_X12_456.2.1
theorem dX12_findCan_72 : decode cX12_findCan 72 = .ok (.sipush 6008, 3) := dkg_X12_456.2.2.1
theorem dX12_findCan_75 : decode cX12_findCan 75 = .ok (.iload_n 3, 1) := dkg_X12_456.2.2.2.1
theorem dX12_findCan_76 : decode cX12_findCan 76 = .ok (.imul, 1) := dkg_X12_456.2.2.2.2.1
theorem dX12_findCan_77 : decode cX12_findCan 77 = .ok (.istore 6, 2) := dkg_X12_456.2.2.2.2.2.1
theorem dX12_findCan_79 : decode cX12_findCan 79 = .ok (.iload 6, 2) := dkg_X12_456.2.2.2.2.2.2.1
theorem dX12_findCan_81 : decode cX12_findCan 81 = .ok (.sipush 6008, 3) := dkg_X12_456.2.2.2.2.2.2.2.1
theorem dX12_findCan_84 : decode cX12_findCan 84 = .ok (.iload_n 3, 1) := dkg_X12_456.2.2.2.2.2.2.2.2.1
theorem dX12_findCan_85 : decode cX12_findCan 85 = .ok (.imul, 1) := dkg_X12_456.2.2.2.2.2.2.2.2.2.1
theorem dkg_X12_457 : dkp cX12_findCan [(86, .aload_n 0, 1), (87, .getfield 116, 3), (90, .iload_n 3, 1), (91, .iaload, 1), (92, .iadd, 1), (93, .if_icmp .ge 34, 3), (96, .iload 5, 2), (98, .ifCond .ne 29, 3), (101, .iload_n 1, 1), (102, .aload_n 0, 1)] := dkf (by decide +kernel)
theorem dX12_findCan_86 : decode cX12_findCan 86 = .ok (.aload_n 0, 1) := dkg_X12_457.1
theorem dX12_findCan_87 : decode cX12_findCan 87 = .ok (.getfield 116, 3) := dkg_X12_457.2.1
theorem dX12_findCan_90 : decode cX12_findCan 90 = .ok (.iload_n 3, 1) := dkg_X12_457.2.2.1
theorem dX12_findCan_91 : decode cX12_findCan 91 = .ok (.iaload, 1) := dkg_X12_457.2.2.2.1
theorem dX12_findCan_92 : decode cX12_findCan 92 = .ok (.iadd, 1) := dkg_X12_457.2.2.2.2.1
theorem dX12_findCan_93 : decode cX12_findCan 93 = .ok (.if_icmp .ge 34, 3) := dkg_X12_457.2.2.2.2.2.1
theorem dX12_findCan_96 : decode cX12_findCan 96 = .ok (.iload 5, 2) := dkg_X12_457.2.2.2.2.2.2.1
theorem dX12_findCan_98 : decode cX12_findCan 98 = .ok (.ifCond .ne 29, 3) := dkg_X12_457.2.2.2.2.2.2.2.1
theorem dX12_findCan_101 : decode cX12_findCan 101 = .ok (.iload_n 1, 1) := dkg_X12_457.2.2.2.2.2.2.2.2.1
theorem dX12_findCan_102 : decode cX12_findCan 102 = .ok (.aload_n 0, 1) := dkg_X12_457.2.2.2.2.2.2.2.2.2.1
theorem dkg_X12_458 : dkp cX12_findCan [(103, .getfield 333, 3), (106, .if_icmp .ge 21, 3), (109, .aload_n 0, 1), (110, .iload 6, 2), (112, .iload_n 1, 1), (113, .iload_n 3, 1), (114, .iload 4, 2), (116, .invokevirtual 378, 3), (119, .istore 5, 2), (121, .iinc 6 1, 3)] := dkf (by decide +kernel)
theorem dX12_findCan_103 : decode cX12_findCan 103 = .ok (.getfield 333, 3) := dkg_X12_458.1
theorem dX12_findCan_106 : decode cX12_findCan 106 = .ok (.if_icmp .ge 21, 3) := dkg_X12_458.2.1
theorem dX12_findCan_109 : decode cX12_findCan 109 = .ok (.aload_n 0, 1) := dkg_X12_458.2.2.1
theorem dX12_findCan_110 : decode cX12_findCan 110 = .ok (.iload 6, 2) := dkg_X12_458.2.2.2.1
theorem dX12_findCan_112 : decode cX12_findCan 112 = .ok (.iload_n 1, 1) := dkg_X12_458.2.2.2.2.1
theorem dX12_findCan_113 : decode cX12_findCan 113 = .ok (.iload_n 3, 1) := dkg_X12_458.2.2.2.2.2.1
theorem dX12_findCan_114 : decode cX12_findCan 114 = .ok (.iload 4, 2) := dkg_X12_458.2.2.2.2.2.2.1
theorem dX12_findCan_116 : decode cX12_findCan 116 = .ok (.invokevirtual 378, 3) := dkg_X12_458.2.2.2.2.2.2.2.1
theorem dX12_findCan_119 : decode cX12_findCan 119 = .ok (.istore 5, 2) := dkg_X12_458.2.2.2.2.2.2.2.2.1
theorem dX12_findCan_121 : decode cX12_findCan 121 = .ok (.iinc 6 1, 3) := dkg_X12_458.2.2.2.2.2.2.2.2.2.1
theorem dkg_X12_459 : dkp cX12_findCan [(124, .goto (-45), 3), (127, .aload_n 0, 1), (128, .getfield 132, 3), (131, .iconst 4, 1), (132, .iload_n 1, 1), (133, .imul, 1), (134, .iload_n 2, 1), (135, .iadd, 1), (136, .iload 5, 2), (138, .bastore, 1)] := dkf (by decide +kernel)
theorem dX12_findCan_124 : decode cX12_findCan 124 = .ok (.goto (-45), 3) := dkg_X12_459.1
theorem dX12_findCan_127 : decode cX12_findCan 127 = .ok (.aload_n 0, 1) := dkg_X12_459.2.1
theorem dX12_findCan_128 : decode cX12_findCan 128 = .ok (.getfield 132, 3) := dkg_X12_459.2.2.1
theorem dX12_findCan_131 : decode cX12_findCan 131 = .ok (.iconst 4, 1) := dkg_X12_459.2.2.2.1
theorem dX12_findCan_132 : decode cX12_findCan 132 = .ok (.iload_n 1, 1) := dkg_X12_459.2.2.2.2.1
theorem dX12_findCan_133 : decode cX12_findCan 133 = .ok (.imul, 1) := dkg_X12_459.2.2.2.2.2.1
theorem dX12_findCan_134 : decode cX12_findCan 134 = .ok (.iload_n 2, 1) := dkg_X12_459.2.2.2.2.2.2.1
theorem dX12_findCan_135 : decode cX12_findCan 135 = .ok (.iadd, 1) := dkg_X12_459.2.2.2.2.2.2.2.1
theorem dX12_findCan_136 : decode cX12_findCan 136 = .ok (.iload 5, 2) := dkg_X12_459.2.2.2.2.2.2.2.2.1
theorem dX12_findCan_138 : decode cX12_findCan 138 = .ok (.bastore, 1) := dkg_X12_459.2.2.2.2.2.2.2.2.2.1
theorem dkg_X12_460 : dkp cX12_findCan [(139, .iinc 2 1, 3), (142, .goto (-131), 3), (145, .iinc 1 (-1), 3), (148, .goto (-143), 3), (151, .return_, 1)] := dkf (by decide +kernel)
theorem dX12_findCan_139 : decode cX12_findCan 139 = .ok (.iinc 2 1, 3) := dkg_X12_460.1
theorem dX12_findCan_142 : decode cX12_findCan 142 = .ok (.goto (-131), 3) := dkg_X12_460.2.1
theorem dX12_findCan_145 : decode cX12_findCan 145 = .ok (.iinc 1 (-1), 3) := dkg_X12_460.2.2.1
theorem dX12_findCan_148 : decode cX12_findCan 148 = .ok (.goto (-143), 3) := dkg_X12_460.2.2.2.1
theorem dX12_findCan_151 : decode cX12_findCan 151 = .ok (.return_, 1) := dkg_X12_460.2.2.2.2.1
theorem dkg_X12_461 : dkp cX12_go [(0, .aload_n 0, 1), (1, .getfield 382, 3), (4, .iconst 1, 1), (5, .if_icmp .ne 4, 3), (8, .return_, 1), (9, .iload_n 1, 1), (10, .aload_n 0, 1), (11, .getfield 333, 3), (14, .if_icmp .ne 8, 3), (17, .aload_n 0, 1)] := dkf (by decide +kernel)
theorem dX12_go_0 : decode cX12_go 0 = .ok (.aload_n 0, 1) := dkg_X12_461.1
theorem dX12_go_1 : decode cX12_go 1 = .ok (.getfield 382, 3) := dkg_X12_461.2.1
theorem dX12_go_4 : decode cX12_go 4 = .ok (.iconst 1, 1) := dkg_X12_461.2.2.1
theorem dX12_go_5 : decode cX12_go 5 = .ok (.if_icmp .ne 4, 3) := dkg_X12_461.2.2.2.1
theorem dX12_go_8 : decode cX12_go 8 = .ok (.return_, 1) := dkg_X12_461.2.2.2.2.1
theorem dX12_go_9 : decode cX12_go 9 = .ok (.iload_n 1, 1) := dkg_X12_461.2.2.2.2.2.1
theorem dX12_go_10 : decode cX12_go 10 = .ok (.aload_n 0, 1) := dkg_X12_461.2.2.2.2.2.2.1
theorem dX12_go_11 : decode cX12_go 11 = .ok (.getfield 333, 3) := dkg_X12_461.2.2.2.2.2.2.2.1
theorem dX12_go_14 : decode cX12_go 14 = .ok (.if_icmp .ne 8, 3) := dkg_X12_461.2.2.2.2.2.2.2.2.1
theorem dX12_go_17 : decode cX12_go 17 = .ok (.aload_n 0, 1) := dkg_X12_461.2.2.2.2.2.2.2.2.2.1
theorem dkg_X12_462 : dkp cX12_go [(18, .invokevirtual 385, 3), (21, .return_, 1), (22, .aload_n 0, 1), (23, .getfield 388, 3), (26, .istore 4, 2), (28, .aload_n 0, 1), (29, .iload_n 1, 1), (30, .iload_n 3, 1), (31, .invokevirtual 374, 3), (34, .ifCond .eq 39, 3)] := dkf (by decide +kernel)
theorem dX12_go_18 : decode cX12_go 18 = .ok (.invokevirtual 385, 3) := dkg_X12_462.1
theorem dX12_go_21 : decode cX12_go 21 = .ok (.return_, 1) := dkg_X12_462.2.1
theorem dX12_go_22 : decode cX12_go 22 = .ok (.aload_n 0, 1) := dkg_X12_462.2.2.1
theorem dX12_go_23 : decode cX12_go 23 = .ok (.getfield 388, 3) := dkg_X12_462.2.2.2.1
theorem dX12_go_26 : decode cX12_go 26 = .ok (.istore 4, 2) := dkg_X12_462.2.2.2.2.1
theorem dX12_go_28 : decode cX12_go 28 = .ok (.aload_n 0, 1) := dkg_X12_462.2.2.2.2.2.1
theorem dX12_go_29 : decode cX12_go 29 = .ok (.iload_n 1, 1) := dkg_X12_462.2.2.2.2.2.2.1
theorem dX12_go_30 : decode cX12_go 30 = .ok (.iload_n 3, 1) := dkg_X12_462.2.2.2.2.2.2.2.1
theorem dX12_go_31 : decode cX12_go 31 = .ok (.invokevirtual 374, 3) := dkg_X12_462.2.2.2.2.2.2.2.2.1
theorem dX12_go_34 : decode cX12_go 34 = .ok (.ifCond .eq 39, 3) := dkg_X12_462.2.2.2.2.2.2.2.2.2.1
theorem dkg_X12_463 : dkp cX12_go [(37, .aload_n 0, 1), (38, .getfield 142, 3), (41, .aload_n 0, 1), (42, .getfield 388, 3), (45, .bipush 32, 2), (47, .iastore, 1), (48, .aload_n 0, 1), (49, .dup, 1), (50, .getfield 388, 3), (53, .iconst 1, 1)] := dkf (by decide +kernel)
theorem dX12_go_37 : decode cX12_go 37 = .ok (.aload_n 0, 1) := dkg_X12_463.1
theorem dX12_go_38 : decode cX12_go 38 = .ok (.getfield 142, 3) := dkg_X12_463.2.1
theorem dX12_go_41 : decode cX12_go 41 = .ok (.aload_n 0, 1) := dkg_X12_463.2.2.1
theorem dX12_go_42 : decode cX12_go 42 = .ok (.getfield 388, 3) := dkg_X12_463.2.2.2.1
theorem dX12_go_45 : decode cX12_go 45 = .ok (.bipush 32, 2) := dkg_X12_463.2.2.2.2.1
theorem dX12_go_47 : decode cX12_go 47 = .ok (.iastore, 1) := dkg_X12_463.2.2.2.2.2.1
theorem dX12_go_48 : decode cX12_go 48 = .ok (.aload_n 0, 1) := dkg_X12_463.2.2.2.2.2.2.1
theorem dX12_go_49 : decode cX12_go 49 = .ok (.dup, 1) := dkg_X12_463.2.2.2.2.2.2.2.1
theorem dX12_go_50 : decode cX12_go 50 = .ok (.getfield 388, 3) := dkg_X12_463.2.2.2.2.2.2.2.2.1
theorem dX12_go_53 : decode cX12_go 53 = .ok (.iconst 1, 1) := dkg_X12_463.2.2.2.2.2.2.2.2.2.1
theorem dkg_X12_464 : dkp cX12_go [(54, .iadd, 1), (55, .putfield 388, 3), (58, .aload_n 0, 1), (59, .iload_n 1, 1), (60, .iconst 1, 1), (61, .iadd, 1), (62, .iconst 0, 1), (63, .iconst 0, 1), (64, .invokevirtual 391, 3), (67, .aload_n 0, 1)] := dkf (by decide +kernel)
theorem dX12_go_54 : decode cX12_go 54 = .ok (.iadd, 1) := dkg_X12_464.1
theorem dX12_go_55 : decode cX12_go 55 = .ok (.putfield 388, 3) := dkg_X12_464.2.1
theorem dX12_go_58 : decode cX12_go 58 = .ok (.aload_n 0, 1) := dkg_X12_464.2.2.1
theorem dX12_go_59 : decode cX12_go 59 = .ok (.iload_n 1, 1) := dkg_X12_464.2.2.2.1
theorem dX12_go_60 : decode cX12_go 60 = .ok (.iconst 1, 1) := dkg_X12_464.2.2.2.2.1
theorem dX12_go_61 : decode cX12_go 61 = .ok (.iadd, 1) := dkg_X12_464.2.2.2.2.2.1
theorem dX12_go_62 : decode cX12_go 62 = .ok (.iconst 0, 1) := dkg_X12_464.2.2.2.2.2.2.1
theorem dX12_go_63 : decode cX12_go 63 = .ok (.iconst 0, 1) := dkg_X12_464.2.2.2.2.2.2.2.1
theorem dX12_go_64 : decode cX12_go 64 = .ok (.invokevirtual 391, 3) := dkg_X12_464.2.2.2.2.2.2.2.2.1
theorem dX12_go_67 : decode cX12_go 67 = .ok (.aload_n 0, 1) := dkg_X12_464.2.2.2.2.2.2.2.2.2.1
theorem dkg_X12_465 : dkp cX12_go [(68, .iload 4, 2), (70, .putfield 388, 3), (73, .sipush 6008, 3), (76, .iload_n 2, 1), (77, .imul, 1), (78, .istore 5, 2), (80, .iload 5, 2), (82, .sipush 6008, 3), (85, .iload_n 2, 1), (86, .imul, 1)] := dkf (by decide +kernel)
theorem dX12_go_68 : decode cX12_go 68 = .ok (.iload 4, 2) := dkg_X12_465.1
theorem dX12_go_70 : decode cX12_go 70 = .ok (.putfield 388, 3) := dkg_X12_465.2.1
theorem dX12_go_73 : decode cX12_go 73 = .ok (.sipush 6008, 3) := dkg_X12_465.2.2.1
theorem dX12_go_76 : decode cX12_go 76 = .ok (.iload_n 2, 1) := dkg_X12_465.2.2.2.1
theorem dX12_go_77 : decode cX12_go 77 = .ok (.imul, 1) := dkg_X12_465.2.2.2.2.1
theorem dX12_go_78 : decode cX12_go 78 = .ok (.istore 5, 2) := dkg_X12_465.2.2.2.2.2.1
theorem dX12_go_80 : decode cX12_go 80 = .ok (.iload 5, 2) := dkg_X12_465.2.2.2.2.2.2.1
theorem dX12_go_82 : decode cX12_go 82 = .ok (.sipush 6008, 3) := dkg_X12_465.2.2.2.2.2.2.2.1
theorem dX12_go_85 : decode cX12_go 85 = .ok (.iload_n 2, 1) := dkg_X12_465.2.2.2.2.2.2.2.2.1
theorem dX12_go_86 : decode cX12_go 86 = .ok (.imul, 1) := dkg_X12_465.2.2.2.2.2.2.2.2.2.1
theorem dkg_X12_466 : dkp cX12_go [(87, .aload_n 0, 1), (88, .getfield 116, 3), (91, .iload_n 2, 1), (92, .iaload, 1), (93, .iadd, 1), (94, .if_icmp .ge 216, 3), (97, .aload_n 0, 1), (98, .getfield 382, 3), (101, .ifCond .ne 209, 3), (104, .aload_n 0, 1)] := dkf (by decide +kernel)
theorem dX12_go_87 : decode cX12_go 87 = .ok (.aload_n 0, 1) := dkg_X12_466.1
theorem dX12_go_88 : decode cX12_go 88 = .ok (.getfield 116, 3) := dkg_X12_466.2.1
theorem dX12_go_91 : decode cX12_go 91 = .ok (.iload_n 2, 1) := dkg_X12_466.2.2.1
theorem dX12_go_92 : decode cX12_go 92 = .ok (.iaload, 1) := dkg_X12_466.2.2.2.1
theorem dX12_go_93 : decode cX12_go 93 = .ok (.iadd, 1) := dkg_X12_466.2.2.2.2.1
theorem dX12_go_94 : decode cX12_go 94 = .ok (.if_icmp .ge 216, 3) := dkg_X12_466.2.2.2.2.2.1
theorem dX12_go_97 : decode cX12_go 97 = .ok (.aload_n 0, 1) := dkg_X12_466.2.2.2.2.2.2.1
theorem dX12_go_98 : decode cX12_go 98 = .ok (.getfield 382, 3) := dkg_X12_466.2.2.2.2.2.2.2.1
theorem dX12_go_101 : decode cX12_go 101 = .ok (.ifCond .ne 209, 3) := dkg_X12_466.2.2.2.2.2.2.2.2.1
theorem dX12_go_104 : decode cX12_go 104 = .ok (.aload_n 0, 1) := dkg_X12_466.2.2.2.2.2.2.2.2.2.1
theorem dkg_X12_467 : dkp cX12_go [(105, .iload 5, 2), (107, .iload_n 1, 1), (108, .iload_n 2, 1), (109, .iload_n 3, 1), (110, .invokevirtual 378, 3), (113, .ifCond .ne 6, 3), (116, .goto 188, 3), (119, .aload_n 0, 1), (120, .getfield 107, 3), (123, .iload 5, 2)] := dkf (by decide +kernel)
theorem dX12_go_105 : decode cX12_go 105 = .ok (.iload 5, 2) := dkg_X12_467.1
theorem dX12_go_107 : decode cX12_go 107 = .ok (.iload_n 1, 1) := dkg_X12_467.2.1
theorem dX12_go_108 : decode cX12_go 108 = .ok (.iload_n 2, 1) := dkg_X12_467.2.2.1
theorem dX12_go_109 : decode cX12_go 109 = .ok (.iload_n 3, 1) := dkg_X12_467.2.2.2.1
theorem dX12_go_110 : decode cX12_go 110 = .ok (.invokevirtual 378, 3) := dkg_X12_467.2.2.2.2.1
theorem dX12_go_113 : decode cX12_go 113 = .ok (.ifCond .ne 6, 3) := dkg_X12_467.2.2.2.2.2.1
theorem dX12_go_116 : decode cX12_go 116 = .ok (.goto 188, 3) := dkg_X12_467.2.2.2.2.2.2.1
theorem dX12_go_119 : decode cX12_go 119 = .ok (.aload_n 0, 1) := dkg_X12_467.2.2.2.2.2.2.2.1
theorem dX12_go_120 : decode cX12_go 120 = .ok (.getfield 107, 3) := dkg_X12_467.2.2.2.2.2.2.2.2.1
theorem dX12_go_123 : decode cX12_go 123 = .ok (.iload 5, 2) := dkg_X12_467.2.2.2.2.2.2.2.2.2.1
theorem dkg_X12_468 : dkp cX12_go [(125, .iaload, 1), (126, .istore 6, 2), (128, .iconst 0, 1), (129, .istore 7, 2), (131, .iload 6, 2), (133, .ifCond .lt 62, 3), (136, .iload 7, 2), (138, .aload_n 0, 1), (139, .getfield 39, 3), (142, .iload 6, 2)] := dkf (by decide +kernel)
theorem dX12_go_125 : decode cX12_go 125 = .ok (.iaload, 1) := dkg_X12_468.1
theorem dX12_go_126 : decode cX12_go 126 = .ok (.istore 6, 2) := dkg_X12_468.2.1
theorem dX12_go_128 : decode cX12_go 128 = .ok (.iconst 0, 1) := dkg_X12_468.2.2.1
theorem dX12_go_129 : decode cX12_go 129 = .ok (.istore 7, 2) := dkg_X12_468.2.2.2.1
theorem dX12_go_131 : decode cX12_go 131 = .ok (.iload 6, 2) := dkg_X12_468.2.2.2.2.1
theorem dX12_go_133 : decode cX12_go 133 = .ok (.ifCond .lt 62, 3) := dkg_X12_468.2.2.2.2.2.1
theorem dX12_go_136 : decode cX12_go 136 = .ok (.iload 7, 2) := dkg_X12_468.2.2.2.2.2.2.1
theorem dX12_go_138 : decode cX12_go 138 = .ok (.aload_n 0, 1) := dkg_X12_468.2.2.2.2.2.2.2.1
theorem dX12_go_139 : decode cX12_go 139 = .ok (.getfield 39, 3) := dkg_X12_468.2.2.2.2.2.2.2.2.1
theorem dX12_go_142 : decode cX12_go 142 = .ok (.iload 6, 2) := dkg_X12_468.2.2.2.2.2.2.2.2.2.1
theorem dkg_X12_469 : dkp cX12_go [(144, .iaload, 1), (145, .if_icmp .ge 50, 3), (148, .aload_n 0, 1), (149, .getfield 142, 3), (152, .aload_n 0, 1), (153, .getfield 388, 3), (156, .iload 7, 2), (158, .iadd, 1), (159, .aload_n 0, 1), (160, .getfield 46, 3)] := dkf (by decide +kernel)
theorem dX12_go_144 : decode cX12_go 144 = .ok (.iaload, 1) := dkg_X12_469.1
theorem dX12_go_145 : decode cX12_go 145 = .ok (.if_icmp .ge 50, 3) := dkg_X12_469.2.1
theorem dX12_go_148 : decode cX12_go 148 = .ok (.aload_n 0, 1) := dkg_X12_469.2.2.1
theorem dX12_go_149 : decode cX12_go 149 = .ok (.getfield 142, 3) := dkg_X12_469.2.2.2.1
theorem dX12_go_152 : decode cX12_go 152 = .ok (.aload_n 0, 1) := dkg_X12_469.2.2.2.2.1
theorem dX12_go_153 : decode cX12_go 153 = .ok (.getfield 388, 3) := dkg_X12_469.2.2.2.2.2.1
theorem dX12_go_156 : decode cX12_go 156 = .ok (.iload 7, 2) := dkg_X12_469.2.2.2.2.2.2.1
theorem dX12_go_158 : decode cX12_go 158 = .ok (.iadd, 1) := dkg_X12_469.2.2.2.2.2.2.2.1
theorem dX12_go_159 : decode cX12_go 159 = .ok (.aload_n 0, 1) := dkg_X12_469.2.2.2.2.2.2.2.2.1
theorem dX12_go_160 : decode cX12_go 160 = .ok (.getfield 46, 3) := dkg_X12_469.2.2.2.2.2.2.2.2.2.1
theorem dkg_X12_470 : dkp cX12_go [(163, .bipush 8, 2), (165, .iload 6, 2), (167, .imul, 1), (168, .iload 7, 2), (170, .iadd, 1), (171, .iaload, 1), (172, .iload_n 3, 1), (173, .ifCond .eq 13, 3), (176, .iload 7, 2), (178, .ifCond .ne 8, 3)] := dkf (by decide +kernel)
theorem dX12_go_163 : decode cX12_go 163 = .ok (.bipush 8, 2) := dkg_X12_470.1
theorem dX12_go_165 : decode cX12_go 165 = .ok (.iload 6, 2) := dkg_X12_470.2.1
theorem dX12_go_167 : decode cX12_go 167 = .ok (.imul, 1) := dkg_X12_470.2.2.1
theorem dX12_go_168 : decode cX12_go 168 = .ok (.iload 7, 2) := dkg_X12_470.2.2.2.1
theorem dX12_go_170 : decode cX12_go 170 = .ok (.iadd, 1) := dkg_X12_470.2.2.2.2.1
theorem dX12_go_171 : decode cX12_go 171 = .ok (.iaload, 1) := dkg_X12_470.2.2.2.2.2.1
theorem dX12_go_172 : decode cX12_go 172 = .ok (.iload_n 3, 1) := dkg_X12_470.2.2.2.2.2.2.1
theorem dX12_go_173 : decode cX12_go 173 = .ok (.ifCond .eq 13, 3) := dkg_X12_470.2.2.2.2.2.2.2.1
theorem dX12_go_176 : decode cX12_go 176 = .ok (.iload 7, 2) := dkg_X12_470.2.2.2.2.2.2.2.2.1
theorem dX12_go_178 : decode cX12_go 178 = .ok (.ifCond .ne 8, 3) := dkg_X12_470.2.2.2.2.2.2.2.2.2.1
theorem dkg_X12_471 : dkp cX12_go [(181, .bipush 32, 2), (183, .goto 4, 3), (186, .iconst 0, 1), (187, .isub, 1), (188, .iastore, 1), (189, .iinc 7 1, 3), (192, .goto (-61), 3), (195, .aload_n 0, 1), (196, .dup, 1), (197, .getfield 388, 3)] := dkf (by decide +kernel)
theorem dX12_go_181 : decode cX12_go 181 = .ok (.bipush 32, 2) := dkg_X12_471.1
theorem dX12_go_183 : decode cX12_go 183 = .ok (.goto 4, 3) := dkg_X12_471.2.1
theorem dX12_go_186 : decode cX12_go 186 = .ok (.iconst 0, 1) := dkg_X12_471.2.2.1
theorem dX12_go_187 : decode cX12_go 187 = .ok (.isub, 1) := dkg_X12_471.2.2.2.1
theorem dX12_go_188 : decode cX12_go 188 = .ok (.iastore, 1) := dkg_X12_471.2.2.2.2.1
theorem dX12_go_189 : decode cX12_go 189 = .ok (.iinc 7 1, 3) := dkg_X12_471.2.2.2.2.2.1
theorem dX12_go_192 : decode cX12_go 192 = .ok (.goto (-61), 3) := dkg_X12_471.2.2.2.2.2.2.1
theorem dX12_go_195 : decode cX12_go 195 = .ok (.aload_n 0, 1) := dkg_X12_471.2.2.2.2.2.2.2.1
theorem dX12_go_196 : decode cX12_go 196 = .ok (.dup, 1) := dkg_X12_471.2.2.2.2.2.2.2.2.1
theorem dX12_go_197 : decode cX12_go 197 = .ok (.getfield 388, 3) := dkg_X12_471.2.2.2.2.2.2.2.2.2.1
theorem dkg_X12_472 : dkp cX12_go [(200, .iload 6, 2), (202, .ifCond .lt 13, 3), (205, .aload_n 0, 1), (206, .getfield 39, 3), (209, .iload 6, 2), (211, .iaload, 1), (212, .goto 4, 3), (215, .iconst 0, 1), (216, .iadd, 1), (217, .putfield 388, 3)] := dkf (by decide +kernel)
theorem dX12_go_200 : decode cX12_go 200 = .ok (.iload 6, 2) := dkg_X12_472.1
theorem dX12_go_202 : decode cX12_go 202 = .ok (.ifCond .lt 13, 3) := dkg_X12_472.2.1
theorem dX12_go_205 : decode cX12_go 205 = .ok (.aload_n 0, 1) := dkg_X12_472.2.2.1
theorem dX12_go_206 : decode cX12_go 206 = .ok (.getfield 39, 3) := dkg_X12_472.2.2.2.1
theorem dX12_go_209 : decode cX12_go 209 = .ok (.iload 6, 2) := dkg_X12_472.2.2.2.2.1
theorem dX12_go_211 : decode cX12_go 211 = .ok (.iaload, 1) := dkg_X12_472.2.2.2.2.2.1
theorem dX12_go_212 : decode cX12_go 212 = .ok (.goto 4, 3) := dkg_X12_472.2.2.2.2.2.2.1
theorem dX12_go_215 : decode cX12_go 215 = .ok (.iconst 0, 1) := dkg_X12_472.2.2.2.2.2.2.2.1
theorem dX12_go_216 : decode cX12_go 216 = .ok (.iadd, 1) := dkg_X12_472.2.2.2.2.2.2.2.2.1
theorem dX12_go_217 : decode cX12_go 217 = .ok (.putfield 388, 3) := dkg_X12_472.2.2.2.2.2.2.2.2.2.1
theorem dkg_X12_473 : dkp cX12_go [(220, .iload 6, 2), (222, .bipush (-3), 2), (224, .if_icmp .eq 10, 3), (227, .iload 6, 2), (229, .bipush (-4), 2), (231, .if_icmp .ne 36, 3), (234, .aload_n 0, 1), (235, .getfield 142, 3), (238, .aload_n 0, 1), (239, .getfield 388, 3)] := dkf (by decide +kernel)
theorem dX12_go_220 : decode cX12_go 220 = .ok (.iload 6, 2) := dkg_X12_473.1
theorem dX12_go_222 : decode cX12_go 222 = .ok (.bipush (-3), 2) := dkg_X12_473.2.1
theorem dX12_go_224 : decode cX12_go 224 = .ok (.if_icmp .eq 10, 3) := dkg_X12_473.2.2.1
theorem dX12_go_227 : decode cX12_go 227 = .ok (.iload 6, 2) := dkg_X12_473.2.2.2.1
theorem dX12_go_229 : decode cX12_go 229 = .ok (.bipush (-4), 2) := dkg_X12_473.2.2.2.2.1
theorem dX12_go_231 : decode cX12_go 231 = .ok (.if_icmp .ne 36, 3) := dkg_X12_473.2.2.2.2.2.1
theorem dX12_go_234 : decode cX12_go 234 = .ok (.aload_n 0, 1) := dkg_X12_473.2.2.2.2.2.2.1
theorem dX12_go_235 : decode cX12_go 235 = .ok (.getfield 142, 3) := dkg_X12_473.2.2.2.2.2.2.2.1
theorem dX12_go_238 : decode cX12_go 238 = .ok (.aload_n 0, 1) := dkg_X12_473.2.2.2.2.2.2.2.2.1
theorem dX12_go_239 : decode cX12_go 239 = .ok (.getfield 388, 3) := dkg_X12_473.2.2.2.2.2.2.2.2.2.1
theorem dkg_X12_474 : dkp cX12_go [(242, .iload 6, 2), (244, .bipush (-3), 2), (246, .if_icmp .ne 8, 3), (249, .bipush 60, 2), (251, .goto 5, 3), (254, .bipush 62, 2), (256, .iastore, 1), (257, .aload_n 0, 1), (258, .dup, 1), (259, .getfield 388, 3)] := dkf (by decide +kernel)
theorem dX12_go_242 : decode cX12_go 242 = .ok (.iload 6, 2) := dkg_X12_474.1
theorem dX12_go_244 : decode cX12_go 244 = .ok (.bipush (-3), 2) := dkg_X12_474.2.1
theorem dX12_go_246 : decode cX12_go 246 = .ok (.if_icmp .ne 8, 3) := dkg_X12_474.2.2.1
theorem dX12_go_249 : decode cX12_go 249 = .ok (.bipush 60, 2) := dkg_X12_474.2.2.2.1
theorem dX12_go_251 : decode cX12_go 251 = .ok (.goto 5, 3) := dkg_X12_474.2.2.2.2.1
theorem dX12_go_254 : decode cX12_go 254 = .ok (.bipush 62, 2) := dkg_X12_474.2.2.2.2.2.1
theorem dX12_go_256 : decode cX12_go 256 = .ok (.iastore, 1) := dkg_X12_474.2.2.2.2.2.2.1
theorem dX12_go_257 : decode cX12_go 257 = .ok (.aload_n 0, 1) := dkg_X12_474.2.2.2.2.2.2.2.1
theorem dX12_go_258 : decode cX12_go 258 = .ok (.dup, 1) := dkg_X12_474.2.2.2.2.2.2.2.2.1
theorem dX12_go_259 : decode cX12_go 259 = .ok (.getfield 388, 3) := dkg_X12_474.2.2.2.2.2.2.2.2.2.1
theorem dkg_X12_475 : dkp cX12_go [(262, .iconst 1, 1), (263, .iadd, 1), (264, .putfield 388, 3), (267, .aload_n 0, 1), (268, .iload_n 1, 1), (269, .aload_n 0, 1), (270, .getfield 113, 3), (273, .iload 5, 2), (275, .iaload, 1), (276, .iadd, 1)] := dkf (by decide +kernel)
theorem dX12_go_262 : decode cX12_go 262 = .ok (.iconst 1, 1) := dkg_X12_475.1
theorem dX12_go_263 : decode cX12_go 263 = .ok (.iadd, 1) := dkg_X12_475.2.1
theorem dX12_go_264 : decode cX12_go 264 = .ok (.putfield 388, 3) := dkg_X12_475.2.2.1
theorem dX12_go_267 : decode cX12_go 267 = .ok (.aload_n 0, 1) := dkg_X12_475.2.2.2.1
theorem dX12_go_268 : decode cX12_go 268 = .ok (.iload_n 1, 1) := dkg_X12_475.2.2.2.2.1
theorem dX12_go_269 : decode cX12_go 269 = .ok (.aload_n 0, 1) := dkg_X12_475.2.2.2.2.2.1
theorem dX12_go_270 : decode cX12_go 270 = .ok (.getfield 113, 3) := dkg_X12_475.2.2.2.2.2.2.1
theorem dX12_go_273 : decode cX12_go 273 = .ok (.iload 5, 2) := dkg_X12_475.2.2.2.2.2.2.2.1
theorem dX12_go_275 : decode cX12_go 275 = .ok (.iaload, 1) := dkg_X12_475.2.2.2.2.2.2.2.2.1
theorem dX12_go_276 : decode cX12_go 276 = .ok (.iadd, 1) := dkg_X12_475.2.2.2.2.2.2.2.2.2.1
theorem dkg_X12_476 : dkp cX12_go [(277, .aload_n 0, 1), (278, .iload 5, 2), (280, .iload_n 2, 1), (281, .invokevirtual 367, 3), (284, .iload 6, 2), (286, .iconst (-1), 1), (287, .if_icmp .ne 7, 3), (290, .iconst 1, 1), (291, .goto 4, 3), (294, .iconst 0, 1)] := dkf (by decide +kernel)
theorem dX12_go_277 : decode cX12_go 277 = .ok (.aload_n 0, 1) := dkg_X12_476.1
theorem dX12_go_278 : decode cX12_go 278 = .ok (.iload 5, 2) := dkg_X12_476.2.1
theorem dX12_go_280 : decode cX12_go 280 = .ok (.iload_n 2, 1) := dkg_X12_476.2.2.1
theorem dX12_go_281 : decode cX12_go 281 = .ok (.invokevirtual 367, 3) := dkg_X12_476.2.2.2.1
theorem dX12_go_284 : decode cX12_go 284 = .ok (.iload 6, 2) := dkg_X12_476.2.2.2.2.1
theorem dX12_go_286 : decode cX12_go 286 = .ok (.iconst (-1), 1) := dkg_X12_476.2.2.2.2.2.1
theorem dX12_go_287 : decode cX12_go 287 = .ok (.if_icmp .ne 7, 3) := dkg_X12_476.2.2.2.2.2.2.1
theorem dX12_go_290 : decode cX12_go 290 = .ok (.iconst 1, 1) := dkg_X12_476.2.2.2.2.2.2.2.1
theorem dX12_go_291 : decode cX12_go 291 = .ok (.goto 4, 3) := dkg_X12_476.2.2.2.2.2.2.2.2.1
theorem dX12_go_294 : decode cX12_go 294 = .ok (.iconst 0, 1) := dkg_X12_476.2.2.2.2.2.2.2.2.2.1
theorem dkg_X12_477 : dkp cX12_go [(295, .invokevirtual 391, 3), (298, .aload_n 0, 1), (299, .iload 4, 2), (301, .putfield 388, 3), (304, .iinc 5 1, 3), (307, .goto (-227), 3), (310, .return_, 1)] := dkf (by decide +kernel)
theorem dX12_go_295 : decode cX12_go 295 = .ok (.invokevirtual 391, 3) := dkg_X12_477.1
theorem dX12_go_298 : decode cX12_go 298 = .ok (.aload_n 0, 1) := dkg_X12_477.2.1
theorem dX12_go_299 : decode cX12_go 299 = .ok (.iload 4, 2) := dkg_X12_477.2.2.1
theorem dX12_go_301 : decode cX12_go 301 = .ok (.putfield 388, 3) := dkg_X12_477.2.2.2.1
theorem dX12_go_304 : decode cX12_go 304 = .ok (.iinc 5 1, 3) := dkg_X12_477.2.2.2.2.1
theorem dX12_go_307 : decode cX12_go 307 = .ok (.goto (-227), 3) := dkg_X12_477.2.2.2.2.2.1
theorem dX12_go_310 : decode cX12_go 310 = .ok (.return_, 1) := dkg_X12_477.2.2.2.2.2.2.1
theorem dkg_X12_478 : dkp cX12_keep [(0, .aload_n 0, 1), (1, .getfield 395, 3), (4, .aload_n 0, 1), (5, .getfield 398, 3), (8, .if_icmp .ne 9, 3), (11, .aload_n 0, 1), (12, .iconst 1, 1), (13, .putfield 382, 3), (16, .return_, 1), (17, .iconst 0, 1)] := dkf (by decide +kernel)
theorem dX12_keep_0 : decode cX12_keep 0 = .ok (.aload_n 0, 1) := dkg_X12_478.1
theorem dX12_keep_1 : decode cX12_keep 1 = .ok (.getfield 395, 3) := dkg_X12_478.2.1
theorem dX12_keep_4 : decode cX12_keep 4 = .ok (.aload_n 0, 1) := dkg_X12_478.2.2.1
theorem dX12_keep_5 : decode cX12_keep 5 = .ok (.getfield 398, 3) := dkg_X12_478.2.2.2.1
theorem dX12_keep_8 : decode cX12_keep 8 = .ok (.if_icmp .ne 9, 3) := dkg_X12_478.2.2.2.2.1
theorem dX12_keep_11 : decode cX12_keep 11 = .ok (.aload_n 0, 1) := dkg_X12_478.2.2.2.2.2.1
theorem dX12_keep_12 : decode cX12_keep 12 = .ok (.iconst 1, 1) := dkg_X12_478.2.2.2.2.2.2.1
theorem dX12_keep_13 : decode cX12_keep 13 = .ok (.putfield 382, 3) := dkg_X12_478.2.2.2.2.2.2.2.1
theorem dX12_keep_16 : decode cX12_keep 16 = .ok (.return_, 1) := dkg_X12_478.2.2.2.2.2.2.2.2.1
theorem dX12_keep_17 : decode cX12_keep 17 = .ok (.iconst 0, 1) := dkg_X12_478.2.2.2.2.2.2.2.2.2.1
theorem dkg_X12_479 : dkp cX12_keep [(18, .istore_n 1, 1), (19, .iload_n 1, 1), (20, .aload_n 0, 1), (21, .getfield 388, 3), (24, .if_icmp .ge 30, 3), (27, .aload_n 0, 1), (28, .getfield 136, 3), (31, .sipush 808, 3), (34, .aload_n 0, 1), (35, .getfield 395, 3)] := dkf (by decide +kernel)
theorem dX12_keep_18 : decode cX12_keep 18 = .ok (.istore_n 1, 1) := dkg_X12_479.1
theorem dX12_keep_19 : decode cX12_keep 19 = .ok (.iload_n 1, 1) := dkg_X12_479.2.1
theorem dX12_keep_20 : decode cX12_keep 20 = .ok (.aload_n 0, 1) := dkg_X12_479.2.2.1
theorem dX12_keep_21 : decode cX12_keep 21 = .ok (.getfield 388, 3) := dkg_X12_479.2.2.2.1
theorem dX12_keep_24 : decode cX12_keep 24 = .ok (.if_icmp .ge 30, 3) := dkg_X12_479.2.2.2.2.1
theorem dX12_keep_27 : decode cX12_keep 27 = .ok (.aload_n 0, 1) := dkg_X12_479.2.2.2.2.2.1
theorem dX12_keep_28 : decode cX12_keep 28 = .ok (.getfield 136, 3) := dkg_X12_479.2.2.2.2.2.2.1
theorem dX12_keep_31 : decode cX12_keep 31 = .ok (.sipush 808, 3) := dkg_X12_479.2.2.2.2.2.2.2.1
theorem dX12_keep_34 : decode cX12_keep 34 = .ok (.aload_n 0, 1) := dkg_X12_479.2.2.2.2.2.2.2.2.1
theorem dX12_keep_35 : decode cX12_keep 35 = .ok (.getfield 395, 3) := dkg_X12_479.2.2.2.2.2.2.2.2.2.1
theorem dkg_X12_480 : dkp cX12_keep [(38, .imul, 1), (39, .iload_n 1, 1), (40, .iadd, 1), (41, .aload_n 0, 1), (42, .getfield 142, 3), (45, .iload_n 1, 1), (46, .iaload, 1), (47, .iastore, 1), (48, .iinc 1 1, 3), (51, .goto (-32), 3)] := dkf (by decide +kernel)
theorem dX12_keep_38 : decode cX12_keep 38 = .ok (.imul, 1) := dkg_X12_480.1
theorem dX12_keep_39 : decode cX12_keep 39 = .ok (.iload_n 1, 1) := dkg_X12_480.2.1
theorem dX12_keep_40 : decode cX12_keep 40 = .ok (.iadd, 1) := dkg_X12_480.2.2.1
theorem dX12_keep_41 : decode cX12_keep 41 = .ok (.aload_n 0, 1) := dkg_X12_480.2.2.2.1
theorem dX12_keep_42 : decode cX12_keep 42 = .ok (.getfield 142, 3) := dkg_X12_480.2.2.2.2.1
theorem dX12_keep_45 : decode cX12_keep 45 = .ok (.iload_n 1, 1) := dkg_X12_480.2.2.2.2.2.1
theorem dX12_keep_46 : decode cX12_keep 46 = .ok (.iaload, 1) := dkg_X12_480.2.2.2.2.2.2.1
theorem dX12_keep_47 : decode cX12_keep 47 = .ok (.iastore, 1) := dkg_X12_480.2.2.2.2.2.2.2.1
theorem dX12_keep_48 : decode cX12_keep 48 = .ok (.iinc 1 1, 3) := dkg_X12_480.2.2.2.2.2.2.2.2.1
theorem dX12_keep_51 : decode cX12_keep 51 = .ok (.goto (-32), 3) := dkg_X12_480.2.2.2.2.2.2.2.2.2.1
theorem dkg_X12_481 : dkp cX12_keep [(54, .aload_n 0, 1), (55, .getfield 139, 3), (58, .aload_n 0, 1), (59, .getfield 395, 3), (62, .aload_n 0, 1), (63, .getfield 388, 3), (66, .iastore, 1), (67, .aload_n 0, 1), (68, .dup, 1), (69, .getfield 395, 3)] := dkf (by decide +kernel)
theorem dX12_keep_54 : decode cX12_keep 54 = .ok (.aload_n 0, 1) := dkg_X12_481.1
theorem dX12_keep_55 : decode cX12_keep 55 = .ok (.getfield 139, 3) := dkg_X12_481.2.1
theorem dX12_keep_58 : decode cX12_keep 58 = .ok (.aload_n 0, 1) := dkg_X12_481.2.2.1
theorem dX12_keep_59 : decode cX12_keep 59 = .ok (.getfield 395, 3) := dkg_X12_481.2.2.2.1
theorem dX12_keep_62 : decode cX12_keep 62 = .ok (.aload_n 0, 1) := dkg_X12_481.2.2.2.2.1
theorem dX12_keep_63 : decode cX12_keep 63 = .ok (.getfield 388, 3) := dkg_X12_481.2.2.2.2.2.1
theorem dX12_keep_66 : decode cX12_keep 66 = .ok (.iastore, 1) := dkg_X12_481.2.2.2.2.2.2.1
theorem dX12_keep_67 : decode cX12_keep 67 = .ok (.aload_n 0, 1) := dkg_X12_481.2.2.2.2.2.2.2.1
theorem dX12_keep_68 : decode cX12_keep 68 = .ok (.dup, 1) := dkg_X12_481.2.2.2.2.2.2.2.2.1
theorem dX12_keep_69 : decode cX12_keep 69 = .ok (.getfield 395, 3) := dkg_X12_481.2.2.2.2.2.2.2.2.2.1
theorem dkg_X12_482 : dkp cX12_keep [(72, .iconst 1, 1), (73, .iadd, 1), (74, .putfield 395, 3), (77, .return_, 1)] := dkf (by decide +kernel)
theorem dX12_keep_72 : decode cX12_keep 72 = .ok (.iconst 1, 1) := dkg_X12_482.1
theorem dX12_keep_73 : decode cX12_keep 73 = .ok (.iadd, 1) := dkg_X12_482.2.1
theorem dX12_keep_74 : decode cX12_keep 74 = .ok (.putfield 395, 3) := dkg_X12_482.2.2.1
theorem dX12_keep_77 : decode cX12_keep 77 = .ok (.return_, 1) := dkg_X12_482.2.2.2.1
theorem dkg_X12_483 : dkp cX12_readings [(0, .iload_n 3, 1), (1, .iconst 1, 1), (2, .bipush 50, 2), (4, .invokestatic 174, 3), (7, .ifCond .ne 10, 3), (10, .aload_n 0, 1), (11, .bipush 6, 2), (13, .invokevirtual 154, 3), (16, .ireturn, 1), (17, .aload_n 0, 1)] := dkf (by decide +kernel)
theorem dX12_readings_0 : decode cX12_readings 0 = .ok (.iload_n 3, 1) := dkg_X12_483.1
theorem dX12_readings_1 : decode cX12_readings 1 = .ok (.iconst 1, 1) := dkg_X12_483.2.1
theorem dX12_readings_2 : decode cX12_readings 2 = .ok (.bipush 50, 2) := dkg_X12_483.2.2.1
theorem dX12_readings_4 : decode cX12_readings 4 = .ok (.invokestatic 174, 3) := dkg_X12_483.2.2.2.1
theorem dX12_readings_7 : decode cX12_readings 7 = .ok (.ifCond .ne 10, 3) := dkg_X12_483.2.2.2.2.1
theorem dX12_readings_10 : decode cX12_readings 10 = .ok (.aload_n 0, 1) := dkg_X12_483.2.2.2.2.2.1
theorem dX12_readings_11 : decode cX12_readings 11 = .ok (.bipush 6, 2) := dkg_X12_483.2.2.2.2.2.2.1
theorem dX12_readings_13 : decode cX12_readings 13 = .ok (.invokevirtual 154, 3) := dkg_X12_483.2.2.2.2.2.2.2.1
theorem dX12_readings_16 : decode cX12_readings 16 = .ok (.ireturn, 1) := dkg_X12_483.2.2.2.2.2.2.2.2.1
theorem dX12_readings_17 : decode cX12_readings 17 = .ok (.aload_n 0, 1) := dkg_X12_483.2.2.2.2.2.2.2.2.2.1
theorem dkg_X12_484 : dkp cX12_readings [(18, .iload_n 1, 1), (19, .invokevirtual 171, 3), (22, .ifCond .ne 9, 3), (25, .aload_n 0, 1), (26, .iconst 3, 1), (27, .invokevirtual 154, 3), (30, .ireturn, 1), (31, .aload_n 0, 1), (32, .iload_n 2, 1), (33, .invokevirtual 294, 3)] := dkf (by decide +kernel)
theorem dX12_readings_18 : decode cX12_readings 18 = .ok (.iload_n 1, 1) := dkg_X12_484.1
theorem dX12_readings_19 : decode cX12_readings 19 = .ok (.invokevirtual 171, 3) := dkg_X12_484.2.1
theorem dX12_readings_22 : decode cX12_readings 22 = .ok (.ifCond .ne 9, 3) := dkg_X12_484.2.2.1
theorem dX12_readings_25 : decode cX12_readings 25 = .ok (.aload_n 0, 1) := dkg_X12_484.2.2.2.1
theorem dX12_readings_26 : decode cX12_readings 26 = .ok (.iconst 3, 1) := dkg_X12_484.2.2.2.2.1
theorem dX12_readings_27 : decode cX12_readings 27 = .ok (.invokevirtual 154, 3) := dkg_X12_484.2.2.2.2.2.1
theorem dX12_readings_30 : decode cX12_readings 30 = .ok (.ireturn, 1) := dkg_X12_484.2.2.2.2.2.2.1
theorem dX12_readings_31 : decode cX12_readings 31 = .ok (.aload_n 0, 1) := dkg_X12_484.2.2.2.2.2.2.2.1
theorem dX12_readings_32 : decode cX12_readings 32 = .ok (.iload_n 2, 1) := dkg_X12_484.2.2.2.2.2.2.2.2.1
theorem dX12_readings_33 : decode cX12_readings 33 = .ok (.invokevirtual 294, 3) := dkg_X12_484.2.2.2.2.2.2.2.2.2.1
theorem dkg_X12_485 : dkp cX12_readings [(36, .ifCond .le 13, 3), (39, .aload_n 0, 1), (40, .aload_n 0, 1), (41, .iload_n 2, 1), (42, .invokevirtual 294, 3), (45, .invokevirtual 154, 3), (48, .ireturn, 1), (49, .aload_n 0, 1), (50, .getfield 91, 3), (53, .iload_n 2, 1)] := dkf (by decide +kernel)
theorem dX12_readings_36 : decode cX12_readings 36 = .ok (.ifCond .le 13, 3) := dkg_X12_485.1
theorem dX12_readings_39 : decode cX12_readings 39 = .ok (.aload_n 0, 1) := dkg_X12_485.2.1
theorem dX12_readings_40 : decode cX12_readings 40 = .ok (.aload_n 0, 1) := dkg_X12_485.2.2.1
theorem dX12_readings_41 : decode cX12_readings 41 = .ok (.iload_n 2, 1) := dkg_X12_485.2.2.2.1
theorem dX12_readings_42 : decode cX12_readings 42 = .ok (.invokevirtual 294, 3) := dkg_X12_485.2.2.2.2.1
theorem dX12_readings_45 : decode cX12_readings 45 = .ok (.invokevirtual 154, 3) := dkg_X12_485.2.2.2.2.2.1
theorem dX12_readings_48 : decode cX12_readings 48 = .ok (.ireturn, 1) := dkg_X12_485.2.2.2.2.2.2.1
theorem dX12_readings_49 : decode cX12_readings 49 = .ok (.aload_n 0, 1) := dkg_X12_485.2.2.2.2.2.2.2.1
theorem dX12_readings_50 : decode cX12_readings 50 = .ok (.getfield 91, 3) := dkg_X12_485.2.2.2.2.2.2.2.2.1
theorem dX12_readings_53 : decode cX12_readings 53 = .ok (.iload_n 2, 1) := dkg_X12_485.2.2.2.2.2.2.2.2.2.1
theorem dkg_X12_486 : dkp cX12_readings [(54, .iaload, 1), (55, .bipush 100, 2), (57, .if_icmp .le 10, 3), (60, .aload_n 0, 1), (61, .bipush 6, 2), (63, .invokevirtual 154, 3), (66, .ireturn, 1), (67, .aload_n 0, 1), (68, .iconst 0, 1), (69, .putfield 333, 3)] := dkf (by decide +kernel)
theorem dX12_readings_54 : decode cX12_readings 54 = .ok (.iaload, 1) := dkg_X12_486.1
theorem dX12_readings_55 : decode cX12_readings 55 = .ok (.bipush 100, 2) := dkg_X12_486.2.1
theorem dX12_readings_57 : decode cX12_readings 57 = .ok (.if_icmp .le 10, 3) := dkg_X12_486.2.2.1
theorem dX12_readings_60 : decode cX12_readings 60 = .ok (.aload_n 0, 1) := dkg_X12_486.2.2.2.1
theorem dX12_readings_61 : decode cX12_readings 61 = .ok (.bipush 6, 2) := dkg_X12_486.2.2.2.2.1
theorem dX12_readings_63 : decode cX12_readings 63 = .ok (.invokevirtual 154, 3) := dkg_X12_486.2.2.2.2.2.1
theorem dX12_readings_66 : decode cX12_readings 66 = .ok (.ireturn, 1) := dkg_X12_486.2.2.2.2.2.2.1
theorem dX12_readings_67 : decode cX12_readings 67 = .ok (.aload_n 0, 1) := dkg_X12_486.2.2.2.2.2.2.2.1
theorem dX12_readings_68 : decode cX12_readings 68 = .ok (.iconst 0, 1) := dkg_X12_486.2.2.2.2.2.2.2.2.1
theorem dX12_readings_69 : decode cX12_readings 69 = .ok (.putfield 333, 3) := dkg_X12_486.2.2.2.2.2.2.2.2.2.1
theorem dkg_X12_487 : dkp cX12_readings [(72, .iconst 0, 1), (73, .istore 4, 2), (75, .iload 4, 2), (77, .aload_n 0, 1), (78, .getfield 91, 3), (81, .iload_n 2, 1), (82, .iaload, 1), (83, .if_icmp .ge 27, 3), (86, .aload_n 0, 1), (87, .aload_n 0, 1)] := dkf (by decide +kernel)
theorem dX12_readings_72 : decode cX12_readings 72 = .ok (.iconst 0, 1) := dkg_X12_487.1
theorem dX12_readings_73 : decode cX12_readings 73 = .ok (.istore 4, 2) := dkg_X12_487.2.1
theorem dX12_readings_75 : decode cX12_readings 75 = .ok (.iload 4, 2) := dkg_X12_487.2.2.1
theorem dX12_readings_77 : decode cX12_readings 77 = .ok (.aload_n 0, 1) := dkg_X12_487.2.2.2.1
theorem dX12_readings_78 : decode cX12_readings 78 = .ok (.getfield 91, 3) := dkg_X12_487.2.2.2.2.1
theorem dX12_readings_81 : decode cX12_readings 81 = .ok (.iload_n 2, 1) := dkg_X12_487.2.2.2.2.2.1
theorem dX12_readings_82 : decode cX12_readings 82 = .ok (.iaload, 1) := dkg_X12_487.2.2.2.2.2.2.1
theorem dX12_readings_83 : decode cX12_readings 83 = .ok (.if_icmp .ge 27, 3) := dkg_X12_487.2.2.2.2.2.2.2.1
theorem dX12_readings_86 : decode cX12_readings 86 = .ok (.aload_n 0, 1) := dkg_X12_487.2.2.2.2.2.2.2.2.1
theorem dX12_readings_87 : decode cX12_readings 87 = .ok (.aload_n 0, 1) := dkg_X12_487.2.2.2.2.2.2.2.2.2.1
theorem dkg_X12_488 : dkp cX12_readings [(88, .getfield 95, 3), (91, .sipush 200, 3), (94, .iload_n 2, 1), (95, .imul, 1), (96, .iload 4, 2), (98, .iadd, 1), (99, .iaload, 1), (100, .iconst 0, 1), (101, .invokevirtual 351, 3), (104, .iinc 4 1, 3)] := dkf (by decide +kernel)
theorem dX12_readings_88 : decode cX12_readings 88 = .ok (.getfield 95, 3) := dkg_X12_488.1
theorem dX12_readings_91 : decode cX12_readings 91 = .ok (.sipush 200, 3) := dkg_X12_488.2.1
theorem dX12_readings_94 : decode cX12_readings 94 = .ok (.iload_n 2, 1) := dkg_X12_488.2.2.1
theorem dX12_readings_95 : decode cX12_readings 95 = .ok (.imul, 1) := dkg_X12_488.2.2.2.1
theorem dX12_readings_96 : decode cX12_readings 96 = .ok (.iload 4, 2) := dkg_X12_488.2.2.2.2.1
theorem dX12_readings_98 : decode cX12_readings 98 = .ok (.iadd, 1) := dkg_X12_488.2.2.2.2.2.1
theorem dX12_readings_99 : decode cX12_readings 99 = .ok (.iaload, 1) := dkg_X12_488.2.2.2.2.2.2.1
theorem dX12_readings_100 : decode cX12_readings 100 = .ok (.iconst 0, 1) := dkg_X12_488.2.2.2.2.2.2.2.1
theorem dX12_readings_101 : decode cX12_readings 101 = .ok (.invokevirtual 351, 3) := dkg_X12_488.2.2.2.2.2.2.2.2.1
theorem dX12_readings_104 : decode cX12_readings 104 = .ok (.iinc 4 1, 3) := dkg_X12_488.2.2.2.2.2.2.2.2.2.1
theorem dkg_X12_489 : dkp cX12_readings [(107, .goto (-32), 3), (110, .aload_n 0, 1), (111, .iload_n 1, 1), (112, .invokevirtual 354, 3), (115, .aload_n 0, 1), (116, .invokevirtual 401, 3), (119, .aload_n 0, 1), (120, .iconst 0, 1), (121, .putfield 395, 3), (124, .aload_n 0, 1)] := dkf (by decide +kernel)
theorem dX12_readings_107 : decode cX12_readings 107 = .ok (.goto (-32), 3) := dkg_X12_489.1
theorem dX12_readings_110 : decode cX12_readings 110 = .ok (.aload_n 0, 1) := dkg_X12_489.2.1
theorem dX12_readings_111 : decode cX12_readings 111 = .ok (.iload_n 1, 1) := dkg_X12_489.2.2.1
theorem dX12_readings_112 : decode cX12_readings 112 = .ok (.invokevirtual 354, 3) := dkg_X12_489.2.2.2.1
theorem dX12_readings_115 : decode cX12_readings 115 = .ok (.aload_n 0, 1) := dkg_X12_489.2.2.2.2.1
theorem dX12_readings_116 : decode cX12_readings 116 = .ok (.invokevirtual 401, 3) := dkg_X12_489.2.2.2.2.2.1
theorem dX12_readings_119 : decode cX12_readings 119 = .ok (.aload_n 0, 1) := dkg_X12_489.2.2.2.2.2.2.1
theorem dX12_readings_120 : decode cX12_readings 120 = .ok (.iconst 0, 1) := dkg_X12_489.2.2.2.2.2.2.2.1
theorem dX12_readings_121 : decode cX12_readings 121 = .ok (.putfield 395, 3) := dkg_X12_489.2.2.2.2.2.2.2.2.1
theorem dX12_readings_124 : decode cX12_readings 124 = .ok (.aload_n 0, 1) := dkg_X12_489.2.2.2.2.2.2.2.2.2.1
theorem dkg_X12_490 : dkp cX12_readings [(125, .iconst 0, 1), (126, .putfield 382, 3), (129, .aload_n 0, 1), (130, .iconst 0, 1), (131, .putfield 388, 3), (134, .aload_n 0, 1), (135, .iload_n 3, 1), (136, .putfield 398, 3), (139, .aload_n 0, 1), (140, .getfield 132, 3)] := dkf (by decide +kernel)
theorem dX12_readings_125 : decode cX12_readings 125 = .ok (.iconst 0, 1) := dkg_X12_490.1
theorem dX12_readings_126 : decode cX12_readings 126 = .ok (.putfield 382, 3) := dkg_X12_490.2.1
theorem dX12_readings_129 : decode cX12_readings 129 = .ok (.aload_n 0, 1) := dkg_X12_490.2.2.1
theorem dX12_readings_130 : decode cX12_readings 130 = .ok (.iconst 0, 1) := dkg_X12_490.2.2.2.1
theorem dX12_readings_131 : decode cX12_readings 131 = .ok (.putfield 388, 3) := dkg_X12_490.2.2.2.2.1
theorem dX12_readings_134 : decode cX12_readings 134 = .ok (.aload_n 0, 1) := dkg_X12_490.2.2.2.2.2.1
theorem dX12_readings_135 : decode cX12_readings 135 = .ok (.iload_n 3, 1) := dkg_X12_490.2.2.2.2.2.2.1
theorem dX12_readings_136 : decode cX12_readings 136 = .ok (.putfield 398, 3) := dkg_X12_490.2.2.2.2.2.2.2.1
theorem dX12_readings_139 : decode cX12_readings 139 = .ok (.aload_n 0, 1) := dkg_X12_490.2.2.2.2.2.2.2.2.1
theorem dX12_readings_140 : decode cX12_readings 140 = .ok (.getfield 132, 3) := dkg_X12_490.2.2.2.2.2.2.2.2.2.1
theorem dkg_X12_491 : dkp cX12_readings [(143, .iconst 0, 1), (144, .baload, 1), (145, .ifCond .eq 10, 3), (148, .aload_n 0, 1), (149, .iconst 0, 1), (150, .iconst 0, 1), (151, .iconst 0, 1), (152, .invokevirtual 391, 3), (155, .aload_n 0, 1), (156, .aload_n 0, 1)] := dkf (by decide +kernel)
theorem dX12_readings_143 : decode cX12_readings 143 = .ok (.iconst 0, 1) := dkg_X12_491.1
theorem dX12_readings_144 : decode cX12_readings 144 = .ok (.baload, 1) := dkg_X12_491.2.1
theorem dX12_readings_145 : decode cX12_readings 145 = .ok (.ifCond .eq 10, 3) := dkg_X12_491.2.2.1
theorem dX12_readings_148 : decode cX12_readings 148 = .ok (.aload_n 0, 1) := dkg_X12_491.2.2.2.1
theorem dX12_readings_149 : decode cX12_readings 149 = .ok (.iconst 0, 1) := dkg_X12_491.2.2.2.2.1
theorem dX12_readings_150 : decode cX12_readings 150 = .ok (.iconst 0, 1) := dkg_X12_491.2.2.2.2.2.1
theorem dX12_readings_151 : decode cX12_readings 151 = .ok (.iconst 0, 1) := dkg_X12_491.2.2.2.2.2.2.1
theorem dX12_readings_152 : decode cX12_readings 152 = .ok (.invokevirtual 391, 3) := dkg_X12_491.2.2.2.2.2.2.2.1
theorem dX12_readings_155 : decode cX12_readings 155 = .ok (.aload_n 0, 1) := dkg_X12_491.2.2.2.2.2.2.2.2.1
theorem dX12_readings_156 : decode cX12_readings 156 = .ok (.aload_n 0, 1) := dkg_X12_491.2.2.2.2.2.2.2.2.2.1
theorem dkg_X12_492 : dkp cX12_readings [(157, .getfield 395, 3), (160, .invokevirtual 158, 3), (163, .ireturn, 1)] := dkf (by decide +kernel)
theorem dX12_readings_157 : decode cX12_readings 157 = .ok (.getfield 395, 3) := dkg_X12_492.1
theorem dX12_readings_160 : decode cX12_readings 160 = .ok (.invokevirtual 158, 3) := dkg_X12_492.2.1
theorem dX12_readings_163 : decode cX12_readings 163 = .ok (.ireturn, 1) := dkg_X12_492.2.2.1
theorem dkg_X12_493 : dkp cX12_more [(0, .aload_n 0, 1), (1, .getfield 382, 3), (4, .ireturn, 1)] := dkf (by decide +kernel)
theorem dX12_more_0 : decode cX12_more 0 = .ok (.aload_n 0, 1) := dkg_X12_493.1
theorem dX12_more_1 : decode cX12_more 1 = .ok (.getfield 382, 3) := dkg_X12_493.2.1
theorem dX12_more_4 : decode cX12_more 4 = .ok (.ireturn, 1) := dkg_X12_493.2.2.1
theorem dkg_X12_494 : dkp cX12_reading [(0, .iload_n 1, 1), (1, .iconst 0, 1), (2, .aload_n 0, 1), (3, .getfield 395, 3), (6, .iconst 1, 1), (7, .isub, 1), (8, .invokestatic 174, 3), (11, .ifCond .eq 38, 3), (14, .iload_n 2, 1), (15, .iconst 0, 1)] := dkf (by decide +kernel)
theorem dX12_reading_0 : decode cX12_reading 0 = .ok (.iload_n 1, 1) := dkg_X12_494.1
theorem dX12_reading_1 : decode cX12_reading 1 = .ok (.iconst 0, 1) := dkg_X12_494.2.1
theorem dX12_reading_2 : decode cX12_reading 2 = .ok (.aload_n 0, 1) := dkg_X12_494.2.2.1
theorem dX12_reading_3 : decode cX12_reading 3 = .ok (.getfield 395, 3) := dkg_X12_494.2.2.2.1
theorem dX12_reading_6 : decode cX12_reading 6 = .ok (.iconst 1, 1) := dkg_X12_494.2.2.2.2.1
theorem dX12_reading_7 : decode cX12_reading 7 = .ok (.isub, 1) := dkg_X12_494.2.2.2.2.2.1
theorem dX12_reading_8 : decode cX12_reading 8 = .ok (.invokestatic 174, 3) := dkg_X12_494.2.2.2.2.2.2.1
theorem dX12_reading_11 : decode cX12_reading 11 = .ok (.ifCond .eq 38, 3) := dkg_X12_494.2.2.2.2.2.2.2.1
theorem dX12_reading_14 : decode cX12_reading 14 = .ok (.iload_n 2, 1) := dkg_X12_494.2.2.2.2.2.2.2.2.1
theorem dX12_reading_15 : decode cX12_reading 15 = .ok (.iconst 0, 1) := dkg_X12_494.2.2.2.2.2.2.2.2.2.1
theorem dkg_X12_495 : dkp cX12_reading [(16, .aload_n 0, 1), (17, .getfield 139, 3), (20, .iload_n 1, 1), (21, .iaload, 1), (22, .iconst 1, 1), (23, .isub, 1), (24, .invokestatic 174, 3), (27, .ifCond .eq 22, 3), (30, .aload_n 0, 1), (31, .aload_n 0, 1)] := dkf (by decide +kernel)
theorem dX12_reading_16 : decode cX12_reading 16 = .ok (.aload_n 0, 1) := dkg_X12_495.1
theorem dX12_reading_17 : decode cX12_reading 17 = .ok (.getfield 139, 3) := dkg_X12_495.2.1
theorem dX12_reading_20 : decode cX12_reading 20 = .ok (.iload_n 1, 1) := dkg_X12_495.2.2.1
theorem dX12_reading_21 : decode cX12_reading 21 = .ok (.iaload, 1) := dkg_X12_495.2.2.2.1
theorem dX12_reading_22 : decode cX12_reading 22 = .ok (.iconst 1, 1) := dkg_X12_495.2.2.2.2.1
theorem dX12_reading_23 : decode cX12_reading 23 = .ok (.isub, 1) := dkg_X12_495.2.2.2.2.2.1
theorem dX12_reading_24 : decode cX12_reading 24 = .ok (.invokestatic 174, 3) := dkg_X12_495.2.2.2.2.2.2.1
theorem dX12_reading_27 : decode cX12_reading 27 = .ok (.ifCond .eq 22, 3) := dkg_X12_495.2.2.2.2.2.2.2.1
theorem dX12_reading_30 : decode cX12_reading 30 = .ok (.aload_n 0, 1) := dkg_X12_495.2.2.2.2.2.2.2.2.1
theorem dX12_reading_31 : decode cX12_reading 31 = .ok (.aload_n 0, 1) := dkg_X12_495.2.2.2.2.2.2.2.2.2.1
theorem dkg_X12_496 : dkp cX12_reading [(32, .getfield 136, 3), (35, .sipush 808, 3), (38, .iload_n 1, 1), (39, .imul, 1), (40, .iload_n 2, 1), (41, .iadd, 1), (42, .iaload, 1), (43, .invokevirtual 158, 3), (46, .goto 8, 3), (49, .aload_n 0, 1)] := dkf (by decide +kernel)
theorem dX12_reading_32 : decode cX12_reading 32 = .ok (.getfield 136, 3) := dkg_X12_496.1
theorem dX12_reading_35 : decode cX12_reading 35 = .ok (.sipush 808, 3) := dkg_X12_496.2.1
theorem dX12_reading_38 : decode cX12_reading 38 = .ok (.iload_n 1, 1) := dkg_X12_496.2.2.1
theorem dX12_reading_39 : decode cX12_reading 39 = .ok (.imul, 1) := dkg_X12_496.2.2.2.1
theorem dX12_reading_40 : decode cX12_reading 40 = .ok (.iload_n 2, 1) := dkg_X12_496.2.2.2.2.1
theorem dX12_reading_41 : decode cX12_reading 41 = .ok (.iadd, 1) := dkg_X12_496.2.2.2.2.2.1
theorem dX12_reading_42 : decode cX12_reading 42 = .ok (.iaload, 1) := dkg_X12_496.2.2.2.2.2.2.1
theorem dX12_reading_43 : decode cX12_reading 43 = .ok (.invokevirtual 158, 3) := dkg_X12_496.2.2.2.2.2.2.2.1
theorem dX12_reading_46 : decode cX12_reading 46 = .ok (.goto 8, 3) := dkg_X12_496.2.2.2.2.2.2.2.2.1
theorem dX12_reading_49 : decode cX12_reading 49 = .ok (.aload_n 0, 1) := dkg_X12_496.2.2.2.2.2.2.2.2.2.1
theorem dkg_X12_497 : dkp cX12_reading [(50, .iconst 2, 1), (51, .invokevirtual 154, 3), (54, .ireturn, 1)] := dkf (by decide +kernel)
theorem dX12_reading_50 : decode cX12_reading 50 = .ok (.iconst 2, 1) := dkg_X12_497.1
theorem dX12_reading_51 : decode cX12_reading 51 = .ok (.invokevirtual 154, 3) := dkg_X12_497.2.1
theorem dX12_reading_54 : decode cX12_reading 54 = .ok (.ireturn, 1) := dkg_X12_497.2.2.1
theorem dkg_X12_498 : dkp cX12_isShort [(0, .iconst 0, 1), (1, .istore_n 2, 1), (2, .iload_n 1, 1), (3, .istore_n 3, 1), (4, .iload_n 3, 1), (5, .ifCond .lt 33, 3), (8, .iload_n 2, 1), (9, .ifCond .ne 13, 3), (12, .aload_n 0, 1), (13, .getfield 21, 3)] := dkf (by decide +kernel)
theorem dX12_isShort_0 : decode cX12_isShort 0 = .ok (.iconst 0, 1) := dkg_X12_498.1
theorem dX12_isShort_1 : decode cX12_isShort 1 = .ok (.istore_n 2, 1) := dkg_X12_498.2.1
theorem dX12_isShort_2 : decode cX12_isShort 2 = .ok (.iload_n 1, 1) := dkg_X12_498.2.2.1
theorem dX12_isShort_3 : decode cX12_isShort 3 = .ok (.istore_n 3, 1) := dkg_X12_498.2.2.2.1
theorem dX12_isShort_4 : decode cX12_isShort 4 = .ok (.iload_n 3, 1) := dkg_X12_498.2.2.2.2.1
theorem dX12_isShort_5 : decode cX12_isShort 5 = .ok (.ifCond .lt 33, 3) := dkg_X12_498.2.2.2.2.2.1
theorem dX12_isShort_8 : decode cX12_isShort 8 = .ok (.iload_n 2, 1) := dkg_X12_498.2.2.2.2.2.2.1
theorem dX12_isShort_9 : decode cX12_isShort 9 = .ok (.ifCond .ne 13, 3) := dkg_X12_498.2.2.2.2.2.2.2.1
theorem dX12_isShort_12 : decode cX12_isShort 12 = .ok (.aload_n 0, 1) := dkg_X12_498.2.2.2.2.2.2.2.2.1
theorem dX12_isShort_13 : decode cX12_isShort 13 = .ok (.getfield 21, 3) := dkg_X12_498.2.2.2.2.2.2.2.2.2.1
theorem dkg_X12_499 : dkp cX12_isShort [(16, .iload_n 3, 1), (17, .iaload, 1), (18, .iconst 3, 1), (19, .if_icmp .ne 7, 3), (22, .iconst 1, 1), (23, .goto 4, 3), (26, .iconst 0, 1), (27, .istore_n 2, 1), (28, .aload_n 0, 1), (29, .getfield 27, 3)] := dkf (by decide +kernel)
theorem dX12_isShort_16 : decode cX12_isShort 16 = .ok (.iload_n 3, 1) := dkg_X12_499.1
theorem dX12_isShort_17 : decode cX12_isShort 17 = .ok (.iaload, 1) := dkg_X12_499.2.1
theorem dX12_isShort_18 : decode cX12_isShort 18 = .ok (.iconst 3, 1) := dkg_X12_499.2.2.1
theorem dX12_isShort_19 : decode cX12_isShort 19 = .ok (.if_icmp .ne 7, 3) := dkg_X12_499.2.2.2.1
theorem dX12_isShort_22 : decode cX12_isShort 22 = .ok (.iconst 1, 1) := dkg_X12_499.2.2.2.2.1
theorem dX12_isShort_23 : decode cX12_isShort 23 = .ok (.goto 4, 3) := dkg_X12_499.2.2.2.2.2.1
theorem dX12_isShort_26 : decode cX12_isShort 26 = .ok (.iconst 0, 1) := dkg_X12_499.2.2.2.2.2.2.1
theorem dX12_isShort_27 : decode cX12_isShort 27 = .ok (.istore_n 2, 1) := dkg_X12_499.2.2.2.2.2.2.2.1
theorem dX12_isShort_28 : decode cX12_isShort 28 = .ok (.aload_n 0, 1) := dkg_X12_499.2.2.2.2.2.2.2.2.1
theorem dX12_isShort_29 : decode cX12_isShort 29 = .ok (.getfield 27, 3) := dkg_X12_499.2.2.2.2.2.2.2.2.2.1
theorem dkg_X12_500 : dkp cX12_isShort [(32, .iload_n 3, 1), (33, .iaload, 1), (34, .istore_n 3, 1), (35, .goto (-31), 3), (38, .iload_n 2, 1), (39, .ireturn, 1)] := dkf (by decide +kernel)
theorem dX12_isShort_32 : decode cX12_isShort 32 = .ok (.iload_n 3, 1) := dkg_X12_500.1
theorem dX12_isShort_33 : decode cX12_isShort 33 = .ok (.iaload, 1) := dkg_X12_500.2.1
theorem dX12_isShort_34 : decode cX12_isShort 34 = .ok (.istore_n 3, 1) := dkg_X12_500.2.2.1
theorem dX12_isShort_35 : decode cX12_isShort 35 = .ok (.goto (-31), 3) := dkg_X12_500.2.2.2.1
theorem dX12_isShort_38 : decode cX12_isShort 38 = .ok (.iload_n 2, 1) := dkg_X12_500.2.2.2.2.1
theorem dX12_isShort_39 : decode cX12_isShort 39 = .ok (.ireturn, 1) := dkg_X12_500.2.2.2.2.2.1
theorem dkg_X12_501 : dkp cX12_alike [(0, .iconst 0, 1), (1, .istore_n 3, 1), (2, .iload_n 3, 1), (3, .aload_n 0, 1), (4, .getfield 113, 3), (7, .iload_n 1, 1), (8, .iaload, 1), (9, .if_icmp .ge 34, 3), (12, .iload_n 3, 1), (13, .aload_n 0, 1)] := dkf (by decide +kernel)
theorem dX12_alike_0 : decode cX12_alike 0 = .ok (.iconst 0, 1) := dkg_X12_501.1
theorem dX12_alike_1 : decode cX12_alike 1 = .ok (.istore_n 3, 1) := dkg_X12_501.2.1
theorem dX12_alike_2 : decode cX12_alike 2 = .ok (.iload_n 3, 1) := dkg_X12_501.2.2.1
theorem dX12_alike_3 : decode cX12_alike 3 = .ok (.aload_n 0, 1) := dkg_X12_501.2.2.2.1
theorem dX12_alike_4 : decode cX12_alike 4 = .ok (.getfield 113, 3) := dkg_X12_501.2.2.2.2.1
theorem dX12_alike_7 : decode cX12_alike 7 = .ok (.iload_n 1, 1) := dkg_X12_501.2.2.2.2.2.1
theorem dX12_alike_8 : decode cX12_alike 8 = .ok (.iaload, 1) := dkg_X12_501.2.2.2.2.2.2.1
theorem dX12_alike_9 : decode cX12_alike 9 = .ok (.if_icmp .ge 34, 3) := dkg_X12_501.2.2.2.2.2.2.2.1
theorem dX12_alike_12 : decode cX12_alike 12 = .ok (.iload_n 3, 1) := dkg_X12_501.2.2.2.2.2.2.2.2.1
theorem dX12_alike_13 : decode cX12_alike 13 = .ok (.aload_n 0, 1) := dkg_X12_501.2.2.2.2.2.2.2.2.2.1
theorem dkg_X12_502 : dkp cX12_alike [(14, .getfield 113, 3), (17, .iload_n 2, 1), (18, .iaload, 1), (19, .if_icmp .ge 24, 3), (22, .aload_n 0, 1), (23, .iload_n 1, 1), (24, .iload_n 3, 1), (25, .invokevirtual 324, 3), (28, .aload_n 0, 1), (29, .iload_n 2, 1)] := dkf (by decide +kernel)
theorem dX12_alike_14 : decode cX12_alike 14 = .ok (.getfield 113, 3) := dkg_X12_502.1
theorem dX12_alike_17 : decode cX12_alike 17 = .ok (.iload_n 2, 1) := dkg_X12_502.2.1
theorem dX12_alike_18 : decode cX12_alike 18 = .ok (.iaload, 1) := dkg_X12_502.2.2.1
theorem dX12_alike_19 : decode cX12_alike 19 = .ok (.if_icmp .ge 24, 3) := dkg_X12_502.2.2.2.1
theorem dX12_alike_22 : decode cX12_alike 22 = .ok (.aload_n 0, 1) := dkg_X12_502.2.2.2.2.1
theorem dX12_alike_23 : decode cX12_alike 23 = .ok (.iload_n 1, 1) := dkg_X12_502.2.2.2.2.2.1
theorem dX12_alike_24 : decode cX12_alike 24 = .ok (.iload_n 3, 1) := dkg_X12_502.2.2.2.2.2.2.1
theorem dX12_alike_25 : decode cX12_alike 25 = .ok (.invokevirtual 324, 3) := dkg_X12_502.2.2.2.2.2.2.2.1
theorem dX12_alike_28 : decode cX12_alike 28 = .ok (.aload_n 0, 1) := dkg_X12_502.2.2.2.2.2.2.2.2.1
theorem dX12_alike_29 : decode cX12_alike 29 = .ok (.iload_n 2, 1) := dkg_X12_502.2.2.2.2.2.2.2.2.2.1
theorem dkg_X12_503 : dkp cX12_alike [(30, .iload_n 3, 1), (31, .invokevirtual 324, 3), (34, .if_icmp .ne 9, 3), (37, .iinc 3 1, 3), (40, .goto (-38), 3), (43, .iload_n 3, 1), (44, .ireturn, 1)] := dkf (by decide +kernel)
theorem dX12_alike_30 : decode cX12_alike 30 = .ok (.iload_n 3, 1) := dkg_X12_503.1
theorem dX12_alike_31 : decode cX12_alike 31 = .ok (.invokevirtual 324, 3) := dkg_X12_503.2.1
theorem dX12_alike_34 : decode cX12_alike 34 = .ok (.if_icmp .ne 9, 3) := dkg_X12_503.2.2.1
theorem dX12_alike_37 : decode cX12_alike 37 = .ok (.iinc 3 1, 3) := dkg_X12_503.2.2.2.1
theorem dX12_alike_40 : decode cX12_alike 40 = .ok (.goto (-38), 3) := dkg_X12_503.2.2.2.2.1
theorem dX12_alike_43 : decode cX12_alike 43 = .ok (.iload_n 3, 1) := dkg_X12_503.2.2.2.2.2.1
theorem dX12_alike_44 : decode cX12_alike 44 = .ok (.ireturn, 1) := dkg_X12_503.2.2.2.2.2.2.1
theorem dkg_X12_504 : dkp cX12_isReadable [(0, .sipush 6008, 3), (3, .iload_n 1, 1), (4, .imul, 1), (5, .istore_n 2, 1), (6, .iload_n 2, 1), (7, .istore_n 3, 1), (8, .iload_n 3, 1), (9, .iload_n 2, 1), (10, .aload_n 0, 1), (11, .getfield 116, 3)] := dkf (by decide +kernel)
theorem dX12_isReadable_0 : decode cX12_isReadable 0 = .ok (.sipush 6008, 3) := dkg_X12_504.1
theorem dX12_isReadable_3 : decode cX12_isReadable 3 = .ok (.iload_n 1, 1) := dkg_X12_504.2.1
theorem dX12_isReadable_4 : decode cX12_isReadable 4 = .ok (.imul, 1) := dkg_X12_504.2.2.1
theorem dX12_isReadable_5 : decode cX12_isReadable 5 = .ok (.istore_n 2, 1) := dkg_X12_504.2.2.2.1
theorem dX12_isReadable_6 : decode cX12_isReadable 6 = .ok (.iload_n 2, 1) := dkg_X12_504.2.2.2.2.1
theorem dX12_isReadable_7 : decode cX12_isReadable 7 = .ok (.istore_n 3, 1) := dkg_X12_504.2.2.2.2.2.1
theorem dX12_isReadable_8 : decode cX12_isReadable 8 = .ok (.iload_n 3, 1) := dkg_X12_504.2.2.2.2.2.2.1
theorem dX12_isReadable_9 : decode cX12_isReadable 9 = .ok (.iload_n 2, 1) := dkg_X12_504.2.2.2.2.2.2.2.1
theorem dX12_isReadable_10 : decode cX12_isReadable 10 = .ok (.aload_n 0, 1) := dkg_X12_504.2.2.2.2.2.2.2.2.1
theorem dX12_isReadable_11 : decode cX12_isReadable 11 = .ok (.getfield 116, 3) := dkg_X12_504.2.2.2.2.2.2.2.2.2.1
theorem dkg_X12_505 : dkp cX12_isReadable [(14, .iload_n 1, 1), (15, .iaload, 1), (16, .iadd, 1), (17, .if_icmp .ge 80, 3), (20, .aload_n 0, 1), (21, .iload_n 3, 1), (22, .aload_n 0, 1), (23, .getfield 113, 3), (26, .iload_n 3, 1), (27, .iaload, 1)] := dkf (by decide +kernel)
theorem dX12_isReadable_14 : decode cX12_isReadable 14 = .ok (.iload_n 1, 1) := dkg_X12_505.1
theorem dX12_isReadable_15 : decode cX12_isReadable 15 = .ok (.iaload, 1) := dkg_X12_505.2.1
theorem dX12_isReadable_16 : decode cX12_isReadable 16 = .ok (.iadd, 1) := dkg_X12_505.2.2.1
theorem dX12_isReadable_17 : decode cX12_isReadable 17 = .ok (.if_icmp .ge 80, 3) := dkg_X12_505.2.2.2.1
theorem dX12_isReadable_20 : decode cX12_isReadable 20 = .ok (.aload_n 0, 1) := dkg_X12_505.2.2.2.2.1
theorem dX12_isReadable_21 : decode cX12_isReadable 21 = .ok (.iload_n 3, 1) := dkg_X12_505.2.2.2.2.2.1
theorem dX12_isReadable_22 : decode cX12_isReadable 22 = .ok (.aload_n 0, 1) := dkg_X12_505.2.2.2.2.2.2.1
theorem dX12_isReadable_23 : decode cX12_isReadable 23 = .ok (.getfield 113, 3) := dkg_X12_505.2.2.2.2.2.2.2.1
theorem dX12_isReadable_26 : decode cX12_isReadable 26 = .ok (.iload_n 3, 1) := dkg_X12_505.2.2.2.2.2.2.2.2.1
theorem dX12_isReadable_27 : decode cX12_isReadable 27 = .ok (.iaload, 1) := dkg_X12_505.2.2.2.2.2.2.2.2.2.1
theorem dkg_X12_506 : dkp cX12_isReadable [(28, .iconst 1, 1), (29, .isub, 1), (30, .invokevirtual 324, 3), (33, .aload_n 0, 1), (34, .getfield 88, 3), (37, .if_icmp .ne 5, 3), (40, .iconst 0, 1), (41, .ireturn, 1), (42, .iload_n 2, 1), (43, .istore 4, 2)] := dkf (by decide +kernel)
theorem dX12_isReadable_28 : decode cX12_isReadable 28 = .ok (.iconst 1, 1) := dkg_X12_506.1
theorem dX12_isReadable_29 : decode cX12_isReadable 29 = .ok (.isub, 1) := dkg_X12_506.2.1
theorem dX12_isReadable_30 : decode cX12_isReadable 30 = .ok (.invokevirtual 324, 3) := dkg_X12_506.2.2.1
theorem dX12_isReadable_33 : decode cX12_isReadable 33 = .ok (.aload_n 0, 1) := dkg_X12_506.2.2.2.1
theorem dX12_isReadable_34 : decode cX12_isReadable 34 = .ok (.getfield 88, 3) := dkg_X12_506.2.2.2.2.1
theorem dX12_isReadable_37 : decode cX12_isReadable 37 = .ok (.if_icmp .ne 5, 3) := dkg_X12_506.2.2.2.2.2.1
theorem dX12_isReadable_40 : decode cX12_isReadable 40 = .ok (.iconst 0, 1) := dkg_X12_506.2.2.2.2.2.2.1
theorem dX12_isReadable_41 : decode cX12_isReadable 41 = .ok (.ireturn, 1) := dkg_X12_506.2.2.2.2.2.2.2.1
theorem dX12_isReadable_42 : decode cX12_isReadable 42 = .ok (.iload_n 2, 1) := dkg_X12_506.2.2.2.2.2.2.2.2.1
theorem dX12_isReadable_43 : decode cX12_isReadable 43 = .ok (.istore 4, 2) := dkg_X12_506.2.2.2.2.2.2.2.2.2.1
theorem dkg_X12_507 : dkp cX12_isReadable [(45, .iload 4, 2), (47, .iload_n 3, 1), (48, .if_icmp .ge 43, 3), (51, .aload_n 0, 1), (52, .iload_n 3, 1), (53, .iload 4, 2), (55, .invokevirtual 404, 3), (58, .istore 5, 2), (60, .iload 5, 2), (62, .aload_n 0, 1)] := dkf (by decide +kernel)
theorem dX12_isReadable_45 : decode cX12_isReadable 45 = .ok (.iload 4, 2) := dkg_X12_507.1
theorem dX12_isReadable_47 : decode cX12_isReadable 47 = .ok (.iload_n 3, 1) := dkg_X12_507.2.1
theorem dX12_isReadable_48 : decode cX12_isReadable 48 = .ok (.if_icmp .ge 43, 3) := dkg_X12_507.2.2.1
theorem dX12_isReadable_51 : decode cX12_isReadable 51 = .ok (.aload_n 0, 1) := dkg_X12_507.2.2.2.1
theorem dX12_isReadable_52 : decode cX12_isReadable 52 = .ok (.iload_n 3, 1) := dkg_X12_507.2.2.2.2.1
theorem dX12_isReadable_53 : decode cX12_isReadable 53 = .ok (.iload 4, 2) := dkg_X12_507.2.2.2.2.2.1
theorem dX12_isReadable_55 : decode cX12_isReadable 55 = .ok (.invokevirtual 404, 3) := dkg_X12_507.2.2.2.2.2.2.1
theorem dX12_isReadable_58 : decode cX12_isReadable 58 = .ok (.istore 5, 2) := dkg_X12_507.2.2.2.2.2.2.2.1
theorem dX12_isReadable_60 : decode cX12_isReadable 60 = .ok (.iload 5, 2) := dkg_X12_507.2.2.2.2.2.2.2.2.1
theorem dX12_isReadable_62 : decode cX12_isReadable 62 = .ok (.aload_n 0, 1) := dkg_X12_507.2.2.2.2.2.2.2.2.2.1
theorem dkg_X12_508 : dkp cX12_isReadable [(63, .getfield 113, 3), (66, .iload_n 3, 1), (67, .iaload, 1), (68, .if_icmp .eq 15, 3), (71, .iload 5, 2), (73, .aload_n 0, 1), (74, .getfield 113, 3), (77, .iload 4, 2), (79, .iaload, 1), (80, .if_icmp .ne 5, 3)] := dkf (by decide +kernel)
theorem dX12_isReadable_63 : decode cX12_isReadable 63 = .ok (.getfield 113, 3) := dkg_X12_508.1
theorem dX12_isReadable_66 : decode cX12_isReadable 66 = .ok (.iload_n 3, 1) := dkg_X12_508.2.1
theorem dX12_isReadable_67 : decode cX12_isReadable 67 = .ok (.iaload, 1) := dkg_X12_508.2.2.1
theorem dX12_isReadable_68 : decode cX12_isReadable 68 = .ok (.if_icmp .eq 15, 3) := dkg_X12_508.2.2.2.1
theorem dX12_isReadable_71 : decode cX12_isReadable 71 = .ok (.iload 5, 2) := dkg_X12_508.2.2.2.2.1
theorem dX12_isReadable_73 : decode cX12_isReadable 73 = .ok (.aload_n 0, 1) := dkg_X12_508.2.2.2.2.2.1
theorem dX12_isReadable_74 : decode cX12_isReadable 74 = .ok (.getfield 113, 3) := dkg_X12_508.2.2.2.2.2.2.1
theorem dX12_isReadable_77 : decode cX12_isReadable 77 = .ok (.iload 4, 2) := dkg_X12_508.2.2.2.2.2.2.2.1
theorem dX12_isReadable_79 : decode cX12_isReadable 79 = .ok (.iaload, 1) := dkg_X12_508.2.2.2.2.2.2.2.2.1
theorem dX12_isReadable_80 : decode cX12_isReadable 80 = .ok (.if_icmp .ne 5, 3) := dkg_X12_508.2.2.2.2.2.2.2.2.2.1
theorem dkg_X12_509 : dkp cX12_isReadable [(83, .iconst 0, 1), (84, .ireturn, 1), (85, .iinc 4 1, 3), (88, .goto (-43), 3), (91, .iinc 3 1, 3), (94, .goto (-86), 3), (97, .iconst 1, 1), (98, .ireturn, 1)] := dkf (by decide +kernel)
theorem dX12_isReadable_83 : decode cX12_isReadable 83 = .ok (.iconst 0, 1) := dkg_X12_509.1
theorem dX12_isReadable_84 : decode cX12_isReadable 84 = .ok (.ireturn, 1) := dkg_X12_509.2.1
theorem dX12_isReadable_85 : decode cX12_isReadable 85 = .ok (.iinc 4 1, 3) := dkg_X12_509.2.2.1
theorem dX12_isReadable_88 : decode cX12_isReadable 88 = .ok (.goto (-43), 3) := dkg_X12_509.2.2.2.1
theorem dX12_isReadable_91 : decode cX12_isReadable 91 = .ok (.iinc 3 1, 3) := dkg_X12_509.2.2.2.2.1
theorem dX12_isReadable_94 : decode cX12_isReadable 94 = .ok (.goto (-86), 3) := dkg_X12_509.2.2.2.2.2.1
theorem dX12_isReadable_97 : decode cX12_isReadable 97 = .ok (.iconst 1, 1) := dkg_X12_509.2.2.2.2.2.2.1
theorem dX12_isReadable_98 : decode cX12_isReadable 98 = .ok (.ireturn, 1) := dkg_X12_509.2.2.2.2.2.2.2.1
theorem dkg_X12_510 : dkp cX12_judge [(0, .aload_n 0, 1), (1, .iload_n 1, 1), (2, .invokevirtual 167, 3), (5, .ifCond .ne 9, 3), (8, .aload_n 0, 1), (9, .iconst 3, 1), (10, .invokevirtual 154, 3), (13, .ireturn, 1), (14, .aload_n 0, 1), (15, .getfield 21, 3)] := dkf (by decide +kernel)
theorem dX12_judge_0 : decode cX12_judge 0 = .ok (.aload_n 0, 1) := dkg_X12_510.1
theorem dX12_judge_1 : decode cX12_judge 1 = .ok (.iload_n 1, 1) := dkg_X12_510.2.1
theorem dX12_judge_2 : decode cX12_judge 2 = .ok (.invokevirtual 167, 3) := dkg_X12_510.2.2.1
theorem dX12_judge_5 : decode cX12_judge 5 = .ok (.ifCond .ne 9, 3) := dkg_X12_510.2.2.2.1
theorem dX12_judge_8 : decode cX12_judge 8 = .ok (.aload_n 0, 1) := dkg_X12_510.2.2.2.2.1
theorem dX12_judge_9 : decode cX12_judge 9 = .ok (.iconst 3, 1) := dkg_X12_510.2.2.2.2.2.1
theorem dX12_judge_10 : decode cX12_judge 10 = .ok (.invokevirtual 154, 3) := dkg_X12_510.2.2.2.2.2.2.1
theorem dX12_judge_13 : decode cX12_judge 13 = .ok (.ireturn, 1) := dkg_X12_510.2.2.2.2.2.2.2.1
theorem dX12_judge_14 : decode cX12_judge 14 = .ok (.aload_n 0, 1) := dkg_X12_510.2.2.2.2.2.2.2.2.1
theorem dX12_judge_15 : decode cX12_judge 15 = .ok (.getfield 21, 3) := dkg_X12_510.2.2.2.2.2.2.2.2.2.1
theorem dkg_X12_511 : dkp cX12_judge [(18, .iload_n 1, 1), (19, .iaload, 1), (20, .iconst 4, 1), (21, .if_icmp .ne 9, 3), (24, .aload_n 0, 1), (25, .iconst 4, 1), (26, .invokevirtual 154, 3), (29, .ireturn, 1), (30, .aload_n 0, 1), (31, .iload_n 1, 1)] := dkf (by decide +kernel)
theorem dX12_judge_18 : decode cX12_judge 18 = .ok (.iload_n 1, 1) := dkg_X12_511.1
theorem dX12_judge_19 : decode cX12_judge 19 = .ok (.iaload, 1) := dkg_X12_511.2.1
theorem dX12_judge_20 : decode cX12_judge 20 = .ok (.iconst 4, 1) := dkg_X12_511.2.2.1
theorem dX12_judge_21 : decode cX12_judge 21 = .ok (.if_icmp .ne 9, 3) := dkg_X12_511.2.2.2.1
theorem dX12_judge_24 : decode cX12_judge 24 = .ok (.aload_n 0, 1) := dkg_X12_511.2.2.2.2.1
theorem dX12_judge_25 : decode cX12_judge 25 = .ok (.iconst 4, 1) := dkg_X12_511.2.2.2.2.2.1
theorem dX12_judge_26 : decode cX12_judge 26 = .ok (.invokevirtual 154, 3) := dkg_X12_511.2.2.2.2.2.2.1
theorem dX12_judge_29 : decode cX12_judge 29 = .ok (.ireturn, 1) := dkg_X12_511.2.2.2.2.2.2.2.1
theorem dX12_judge_30 : decode cX12_judge 30 = .ok (.aload_n 0, 1) := dkg_X12_511.2.2.2.2.2.2.2.2.1
theorem dX12_judge_31 : decode cX12_judge 31 = .ok (.iload_n 1, 1) := dkg_X12_511.2.2.2.2.2.2.2.2.2.1
theorem dkg_X12_512 : dkp cX12_judge [(32, .invokevirtual 171, 3), (35, .ifCond .ne 9, 3), (38, .aload_n 0, 1), (39, .iconst 3, 1), (40, .invokevirtual 154, 3), (43, .ireturn, 1), (44, .aload_n 0, 1), (45, .getfield 21, 3), (48, .iload_n 1, 1), (49, .iaload, 1)] := dkf (by decide +kernel)
theorem dX12_judge_32 : decode cX12_judge 32 = .ok (.invokevirtual 171, 3) := dkg_X12_512.1
theorem dX12_judge_35 : decode cX12_judge 35 = .ok (.ifCond .ne 9, 3) := dkg_X12_512.2.1
theorem dX12_judge_38 : decode cX12_judge 38 = .ok (.aload_n 0, 1) := dkg_X12_512.2.2.1
theorem dX12_judge_39 : decode cX12_judge 39 = .ok (.iconst 3, 1) := dkg_X12_512.2.2.2.1
theorem dX12_judge_40 : decode cX12_judge 40 = .ok (.invokevirtual 154, 3) := dkg_X12_512.2.2.2.2.1
theorem dX12_judge_43 : decode cX12_judge 43 = .ok (.ireturn, 1) := dkg_X12_512.2.2.2.2.2.1
theorem dX12_judge_44 : decode cX12_judge 44 = .ok (.aload_n 0, 1) := dkg_X12_512.2.2.2.2.2.2.1
theorem dX12_judge_45 : decode cX12_judge 45 = .ok (.getfield 21, 3) := dkg_X12_512.2.2.2.2.2.2.2.1
theorem dX12_judge_48 : decode cX12_judge 48 = .ok (.iload_n 1, 1) := dkg_X12_512.2.2.2.2.2.2.2.2.1
theorem dX12_judge_49 : decode cX12_judge 49 = .ok (.iaload, 1) := dkg_X12_512.2.2.2.2.2.2.2.2.2.1
theorem dkg_X12_513 : dkp cX12_judge [(50, .iconst 5, 1), (51, .if_icmp .ne 37, 3), (54, .aload_n 0, 1), (55, .aload_n 0, 1), (56, .getfield 27, 3), (59, .iload_n 1, 1), (60, .iaload, 1), (61, .invokevirtual 407, 3), (64, .ifCond .ne 16, 3), (67, .aload_n 0, 1)] := dkf (by decide +kernel)
theorem dX12_judge_50 : decode cX12_judge 50 = .ok (.iconst 5, 1) := dkg_X12_513.1
theorem dX12_judge_51 : decode cX12_judge 51 = .ok (.if_icmp .ne 37, 3) := dkg_X12_513.2.1
theorem dX12_judge_54 : decode cX12_judge 54 = .ok (.aload_n 0, 1) := dkg_X12_513.2.2.1
theorem dX12_judge_55 : decode cX12_judge 55 = .ok (.aload_n 0, 1) := dkg_X12_513.2.2.2.1
theorem dX12_judge_56 : decode cX12_judge 56 = .ok (.getfield 27, 3) := dkg_X12_513.2.2.2.2.1
theorem dX12_judge_59 : decode cX12_judge 59 = .ok (.iload_n 1, 1) := dkg_X12_513.2.2.2.2.2.1
theorem dX12_judge_60 : decode cX12_judge 60 = .ok (.iaload, 1) := dkg_X12_513.2.2.2.2.2.2.1
theorem dX12_judge_61 : decode cX12_judge 61 = .ok (.invokevirtual 407, 3) := dkg_X12_513.2.2.2.2.2.2.2.1
theorem dX12_judge_64 : decode cX12_judge 64 = .ok (.ifCond .ne 16, 3) := dkg_X12_513.2.2.2.2.2.2.2.2.1
theorem dX12_judge_67 : decode cX12_judge 67 = .ok (.aload_n 0, 1) := dkg_X12_513.2.2.2.2.2.2.2.2.2.1
theorem dkg_X12_514 : dkp cX12_judge [(68, .aload_n 0, 1), (69, .getfield 30, 3), (72, .iload_n 1, 1), (73, .iaload, 1), (74, .invokevirtual 407, 3), (77, .ifCond .eq 7, 3), (80, .iconst 1, 1), (81, .goto 12, 3), (84, .iconst 0, 1), (85, .goto 8, 3)] := dkf (by decide +kernel)
theorem dX12_judge_68 : decode cX12_judge 68 = .ok (.aload_n 0, 1) := dkg_X12_514.1
theorem dX12_judge_69 : decode cX12_judge 69 = .ok (.getfield 30, 3) := dkg_X12_514.2.1
theorem dX12_judge_72 : decode cX12_judge 72 = .ok (.iload_n 1, 1) := dkg_X12_514.2.2.1
theorem dX12_judge_73 : decode cX12_judge 73 = .ok (.iaload, 1) := dkg_X12_514.2.2.2.1
theorem dX12_judge_74 : decode cX12_judge 74 = .ok (.invokevirtual 407, 3) := dkg_X12_514.2.2.2.2.1
theorem dX12_judge_77 : decode cX12_judge 77 = .ok (.ifCond .eq 7, 3) := dkg_X12_514.2.2.2.2.2.1
theorem dX12_judge_80 : decode cX12_judge 80 = .ok (.iconst 1, 1) := dkg_X12_514.2.2.2.2.2.2.1
theorem dX12_judge_81 : decode cX12_judge 81 = .ok (.goto 12, 3) := dkg_X12_514.2.2.2.2.2.2.2.1
theorem dX12_judge_84 : decode cX12_judge 84 = .ok (.iconst 0, 1) := dkg_X12_514.2.2.2.2.2.2.2.2.1
theorem dX12_judge_85 : decode cX12_judge 85 = .ok (.goto 8, 3) := dkg_X12_514.2.2.2.2.2.2.2.2.2.1
theorem dkg_X12_515 : dkp cX12_judge [(88, .aload_n 0, 1), (89, .iload_n 1, 1), (90, .invokevirtual 407, 3), (93, .istore_n 2, 1), (94, .aload_n 0, 1), (95, .iload_n 1, 1), (96, .invokevirtual 354, 3), (99, .aload_n 0, 1), (100, .iload_n 2, 1), (101, .ifCond .ne 23, 3)] := dkf (by decide +kernel)
theorem dX12_judge_88 : decode cX12_judge 88 = .ok (.aload_n 0, 1) := dkg_X12_515.1
theorem dX12_judge_89 : decode cX12_judge 89 = .ok (.iload_n 1, 1) := dkg_X12_515.2.1
theorem dX12_judge_90 : decode cX12_judge 90 = .ok (.invokevirtual 407, 3) := dkg_X12_515.2.2.1
theorem dX12_judge_93 : decode cX12_judge 93 = .ok (.istore_n 2, 1) := dkg_X12_515.2.2.2.1
theorem dX12_judge_94 : decode cX12_judge 94 = .ok (.aload_n 0, 1) := dkg_X12_515.2.2.2.2.1
theorem dX12_judge_95 : decode cX12_judge 95 = .ok (.iload_n 1, 1) := dkg_X12_515.2.2.2.2.2.1
theorem dX12_judge_96 : decode cX12_judge 96 = .ok (.invokevirtual 354, 3) := dkg_X12_515.2.2.2.2.2.2.1
theorem dX12_judge_99 : decode cX12_judge 99 = .ok (.aload_n 0, 1) := dkg_X12_515.2.2.2.2.2.2.2.1
theorem dX12_judge_100 : decode cX12_judge 100 = .ok (.iload_n 2, 1) := dkg_X12_515.2.2.2.2.2.2.2.2.1
theorem dX12_judge_101 : decode cX12_judge 101 = .ok (.ifCond .ne 23, 3) := dkg_X12_515.2.2.2.2.2.2.2.2.2.1
theorem dkg_X12_516 : dkp cX12_judge [(104, .aload_n 0, 1), (105, .iconst 0, 1), (106, .invokevirtual 410, 3), (109, .ifCond .eq 15, 3), (112, .aload_n 0, 1), (113, .iconst 1, 1), (114, .invokevirtual 410, 3), (117, .ifCond .eq 7, 3), (120, .iconst 1, 1), (121, .goto 4, 3)] := dkf (by decide +kernel)
theorem dX12_judge_104 : decode cX12_judge 104 = .ok (.aload_n 0, 1) := dkg_X12_516.1
theorem dX12_judge_105 : decode cX12_judge 105 = .ok (.iconst 0, 1) := dkg_X12_516.2.1
theorem dX12_judge_106 : decode cX12_judge 106 = .ok (.invokevirtual 410, 3) := dkg_X12_516.2.2.1
theorem dX12_judge_109 : decode cX12_judge 109 = .ok (.ifCond .eq 15, 3) := dkg_X12_516.2.2.2.1
theorem dX12_judge_112 : decode cX12_judge 112 = .ok (.aload_n 0, 1) := dkg_X12_516.2.2.2.2.1
theorem dX12_judge_113 : decode cX12_judge 113 = .ok (.iconst 1, 1) := dkg_X12_516.2.2.2.2.2.1
theorem dX12_judge_114 : decode cX12_judge 114 = .ok (.invokevirtual 410, 3) := dkg_X12_516.2.2.2.2.2.2.1
theorem dX12_judge_117 : decode cX12_judge 117 = .ok (.ifCond .eq 7, 3) := dkg_X12_516.2.2.2.2.2.2.2.1
theorem dX12_judge_120 : decode cX12_judge 120 = .ok (.iconst 1, 1) := dkg_X12_516.2.2.2.2.2.2.2.2.1
theorem dX12_judge_121 : decode cX12_judge 121 = .ok (.goto 4, 3) := dkg_X12_516.2.2.2.2.2.2.2.2.2.1
theorem dkg_X12_517 : dkp cX12_judge [(124, .iconst 0, 1), (125, .invokevirtual 158, 3), (128, .ireturn, 1)] := dkf (by decide +kernel)
theorem dX12_judge_124 : decode cX12_judge 124 = .ok (.iconst 0, 1) := dkg_X12_517.1
theorem dX12_judge_125 : decode cX12_judge 125 = .ok (.invokevirtual 158, 3) := dkg_X12_517.2.1
theorem dX12_judge_128 : decode cX12_judge 128 = .ok (.ireturn, 1) := dkg_X12_517.2.2.1
theorem dkg_X12_518 : dkp cX12_parts [(0, .aload_n 0, 1), (1, .iload_n 1, 1), (2, .invokevirtual 171, 3), (5, .ifCond .ne 9, 3), (8, .aload_n 0, 1), (9, .iconst 3, 1), (10, .invokevirtual 154, 3), (13, .ireturn, 1), (14, .aload_n 0, 1), (15, .iload_n 1, 1)] := dkf (by decide +kernel)
theorem dX12_parts_0 : decode cX12_parts 0 = .ok (.aload_n 0, 1) := dkg_X12_518.1
theorem dX12_parts_1 : decode cX12_parts 1 = .ok (.iload_n 1, 1) := dkg_X12_518.2.1
theorem dX12_parts_2 : decode cX12_parts 2 = .ok (.invokevirtual 171, 3) := dkg_X12_518.2.2.1
theorem dX12_parts_5 : decode cX12_parts 5 = .ok (.ifCond .ne 9, 3) := dkg_X12_518.2.2.2.1
theorem dX12_parts_8 : decode cX12_parts 8 = .ok (.aload_n 0, 1) := dkg_X12_518.2.2.2.2.1
theorem dX12_parts_9 : decode cX12_parts 9 = .ok (.iconst 3, 1) := dkg_X12_518.2.2.2.2.2.1
theorem dX12_parts_10 : decode cX12_parts 10 = .ok (.invokevirtual 154, 3) := dkg_X12_518.2.2.2.2.2.2.1
theorem dX12_parts_13 : decode cX12_parts 13 = .ok (.ireturn, 1) := dkg_X12_518.2.2.2.2.2.2.2.1
theorem dX12_parts_14 : decode cX12_parts 14 = .ok (.aload_n 0, 1) := dkg_X12_518.2.2.2.2.2.2.2.2.1
theorem dX12_parts_15 : decode cX12_parts 15 = .ok (.iload_n 1, 1) := dkg_X12_518.2.2.2.2.2.2.2.2.2.1
theorem dkg_X12_519 : dkp cX12_parts [(16, .invokevirtual 354, 3), (19, .iload_n 2, 1), (20, .iconst 0, 1), (21, .aload_n 0, 1), (22, .getfield 116, 3), (25, .iconst 0, 1), (26, .iaload, 1), (27, .iconst 1, 1), (28, .isub, 1), (29, .invokestatic 174, 3)] := dkf (by decide +kernel)
theorem dX12_parts_16 : decode cX12_parts 16 = .ok (.invokevirtual 354, 3) := dkg_X12_519.1
theorem dX12_parts_19 : decode cX12_parts 19 = .ok (.iload_n 2, 1) := dkg_X12_519.2.1
theorem dX12_parts_20 : decode cX12_parts 20 = .ok (.iconst 0, 1) := dkg_X12_519.2.2.1
theorem dX12_parts_21 : decode cX12_parts 21 = .ok (.aload_n 0, 1) := dkg_X12_519.2.2.2.1
theorem dX12_parts_22 : decode cX12_parts 22 = .ok (.getfield 116, 3) := dkg_X12_519.2.2.2.2.1
theorem dX12_parts_25 : decode cX12_parts 25 = .ok (.iconst 0, 1) := dkg_X12_519.2.2.2.2.2.1
theorem dX12_parts_26 : decode cX12_parts 26 = .ok (.iaload, 1) := dkg_X12_519.2.2.2.2.2.2.1
theorem dX12_parts_27 : decode cX12_parts 27 = .ok (.iconst 1, 1) := dkg_X12_519.2.2.2.2.2.2.2.1
theorem dX12_parts_28 : decode cX12_parts 28 = .ok (.isub, 1) := dkg_X12_519.2.2.2.2.2.2.2.2.1
theorem dX12_parts_29 : decode cX12_parts 29 = .ok (.invokestatic 174, 3) := dkg_X12_519.2.2.2.2.2.2.2.2.2.1
theorem dkg_X12_520 : dkp cX12_parts [(32, .ifCond .eq 19, 3), (35, .iload_n 3, 1), (36, .iconst 0, 1), (37, .aload_n 0, 1), (38, .getfield 116, 3), (41, .iconst 0, 1), (42, .iaload, 1), (43, .iconst 1, 1), (44, .isub, 1), (45, .invokestatic 174, 3)] := dkf (by decide +kernel)
theorem dX12_parts_32 : decode cX12_parts 32 = .ok (.ifCond .eq 19, 3) := dkg_X12_520.1
theorem dX12_parts_35 : decode cX12_parts 35 = .ok (.iload_n 3, 1) := dkg_X12_520.2.1
theorem dX12_parts_36 : decode cX12_parts 36 = .ok (.iconst 0, 1) := dkg_X12_520.2.2.1
theorem dX12_parts_37 : decode cX12_parts 37 = .ok (.aload_n 0, 1) := dkg_X12_520.2.2.2.1
theorem dX12_parts_38 : decode cX12_parts 38 = .ok (.getfield 116, 3) := dkg_X12_520.2.2.2.2.1
theorem dX12_parts_41 : decode cX12_parts 41 = .ok (.iconst 0, 1) := dkg_X12_520.2.2.2.2.2.1
theorem dX12_parts_42 : decode cX12_parts 42 = .ok (.iaload, 1) := dkg_X12_520.2.2.2.2.2.2.1
theorem dX12_parts_43 : decode cX12_parts 43 = .ok (.iconst 1, 1) := dkg_X12_520.2.2.2.2.2.2.2.1
theorem dX12_parts_44 : decode cX12_parts 44 = .ok (.isub, 1) := dkg_X12_520.2.2.2.2.2.2.2.2.1
theorem dX12_parts_45 : decode cX12_parts 45 = .ok (.invokestatic 174, 3) := dkg_X12_520.2.2.2.2.2.2.2.2.2.1
theorem dkg_X12_521 : dkp cX12_parts [(48, .ifCond .ne 9, 3), (51, .aload_n 0, 1), (52, .iconst 2, 1), (53, .invokevirtual 154, 3), (56, .ireturn, 1), (57, .aload_n 0, 1), (58, .iload_n 2, 1), (59, .iload_n 3, 1), (60, .invokevirtual 404, 3), (63, .istore 4, 2)] := dkf (by decide +kernel)
theorem dX12_parts_48 : decode cX12_parts 48 = .ok (.ifCond .ne 9, 3) := dkg_X12_521.1
theorem dX12_parts_51 : decode cX12_parts 51 = .ok (.aload_n 0, 1) := dkg_X12_521.2.1
theorem dX12_parts_52 : decode cX12_parts 52 = .ok (.iconst 2, 1) := dkg_X12_521.2.2.1
theorem dX12_parts_53 : decode cX12_parts 53 = .ok (.invokevirtual 154, 3) := dkg_X12_521.2.2.2.1
theorem dX12_parts_56 : decode cX12_parts 56 = .ok (.ireturn, 1) := dkg_X12_521.2.2.2.2.1
theorem dX12_parts_57 : decode cX12_parts 57 = .ok (.aload_n 0, 1) := dkg_X12_521.2.2.2.2.2.1
theorem dX12_parts_58 : decode cX12_parts 58 = .ok (.iload_n 2, 1) := dkg_X12_521.2.2.2.2.2.2.1
theorem dX12_parts_59 : decode cX12_parts 59 = .ok (.iload_n 3, 1) := dkg_X12_521.2.2.2.2.2.2.2.1
theorem dX12_parts_60 : decode cX12_parts 60 = .ok (.invokevirtual 404, 3) := dkg_X12_521.2.2.2.2.2.2.2.2.1
theorem dX12_parts_63 : decode cX12_parts 63 = .ok (.istore 4, 2) := dkg_X12_521.2.2.2.2.2.2.2.2.2.1
theorem dkg_X12_522 : dkp cX12_parts [(65, .aload_n 0, 1), (66, .iload 4, 2), (68, .aload_n 0, 1), (69, .getfield 113, 3), (72, .iload_n 2, 1), (73, .iaload, 1), (74, .if_icmp .eq 14, 3), (77, .iload 4, 2), (79, .aload_n 0, 1), (80, .getfield 113, 3)] := dkf (by decide +kernel)
theorem dX12_parts_65 : decode cX12_parts 65 = .ok (.aload_n 0, 1) := dkg_X12_522.1
theorem dX12_parts_66 : decode cX12_parts 66 = .ok (.iload 4, 2) := dkg_X12_522.2.1
theorem dX12_parts_68 : decode cX12_parts 68 = .ok (.aload_n 0, 1) := dkg_X12_522.2.2.1
theorem dX12_parts_69 : decode cX12_parts 69 = .ok (.getfield 113, 3) := dkg_X12_522.2.2.2.1
theorem dX12_parts_72 : decode cX12_parts 72 = .ok (.iload_n 2, 1) := dkg_X12_522.2.2.2.2.1
theorem dX12_parts_73 : decode cX12_parts 73 = .ok (.iaload, 1) := dkg_X12_522.2.2.2.2.2.1
theorem dX12_parts_74 : decode cX12_parts 74 = .ok (.if_icmp .eq 14, 3) := dkg_X12_522.2.2.2.2.2.2.1
theorem dX12_parts_77 : decode cX12_parts 77 = .ok (.iload 4, 2) := dkg_X12_522.2.2.2.2.2.2.2.1
theorem dX12_parts_79 : decode cX12_parts 79 = .ok (.aload_n 0, 1) := dkg_X12_522.2.2.2.2.2.2.2.2.1
theorem dX12_parts_80 : decode cX12_parts 80 = .ok (.getfield 113, 3) := dkg_X12_522.2.2.2.2.2.2.2.2.2.1
theorem dkg_X12_523 : dkp cX12_parts [(83, .iload_n 3, 1), (84, .iaload, 1), (85, .if_icmp .ne 10, 3), (88, .iconst (-1), 1), (89, .iload 4, 2), (91, .isub, 1), (92, .goto 5, 3), (95, .iload 4, 2), (97, .invokevirtual 158, 3), (100, .ireturn, 1)] := dkf (by decide +kernel)
theorem dX12_parts_83 : decode cX12_parts 83 = .ok (.iload_n 3, 1) := dkg_X12_523.1
theorem dX12_parts_84 : decode cX12_parts 84 = .ok (.iaload, 1) := dkg_X12_523.2.1
theorem dX12_parts_85 : decode cX12_parts 85 = .ok (.if_icmp .ne 10, 3) := dkg_X12_523.2.2.1
theorem dX12_parts_88 : decode cX12_parts 88 = .ok (.iconst (-1), 1) := dkg_X12_523.2.2.2.1
theorem dX12_parts_89 : decode cX12_parts 89 = .ok (.iload 4, 2) := dkg_X12_523.2.2.2.2.1
theorem dX12_parts_91 : decode cX12_parts 91 = .ok (.isub, 1) := dkg_X12_523.2.2.2.2.2.1
theorem dX12_parts_92 : decode cX12_parts 92 = .ok (.goto 5, 3) := dkg_X12_523.2.2.2.2.2.2.1
theorem dX12_parts_95 : decode cX12_parts 95 = .ok (.iload 4, 2) := dkg_X12_523.2.2.2.2.2.2.2.1
theorem dX12_parts_97 : decode cX12_parts 97 = .ok (.invokevirtual 158, 3) := dkg_X12_523.2.2.2.2.2.2.2.2.1
theorem dX12_parts_100 : decode cX12_parts 100 = .ok (.ireturn, 1) := dkg_X12_523.2.2.2.2.2.2.2.2.2.1
theorem dkg_X12_524 : dkp cX12_gatherSigns [(0, .sipush 256, 3), (5, .astore_n 2, 1), (6, .iconst 0, 1), (7, .istore_n 3, 1), (8, .iload_n 3, 1), (9, .iconst 2, 1), (10, .if_icmp .ge 110, 3), (13, .sipush 6008, 3), (16, .iload_n 3, 1), (17, .imul, 1)] := dkf (by decide +kernel)
theorem dX12_gatherSigns_0 : decode cX12_gatherSigns 0 = .ok (.sipush 256, 3) := dkg_X12_524.1
theorem dX12_gatherSigns_5 : decode cX12_gatherSigns 5 = .ok (.astore_n 2, 1) := dkg_X12_524.2.1
theorem dX12_gatherSigns_6 : decode cX12_gatherSigns 6 = .ok (.iconst 0, 1) := dkg_X12_524.2.2.1
theorem dX12_gatherSigns_7 : decode cX12_gatherSigns 7 = .ok (.istore_n 3, 1) := dkg_X12_524.2.2.2.1
theorem dX12_gatherSigns_8 : decode cX12_gatherSigns 8 = .ok (.iload_n 3, 1) := dkg_X12_524.2.2.2.2.1
theorem dX12_gatherSigns_9 : decode cX12_gatherSigns 9 = .ok (.iconst 2, 1) := dkg_X12_524.2.2.2.2.2.1
theorem dX12_gatherSigns_10 : decode cX12_gatherSigns 10 = .ok (.if_icmp .ge 110, 3) := dkg_X12_524.2.2.2.2.2.2.1
theorem dX12_gatherSigns_13 : decode cX12_gatherSigns 13 = .ok (.sipush 6008, 3) := dkg_X12_524.2.2.2.2.2.2.2.1
theorem dX12_gatherSigns_16 : decode cX12_gatherSigns 16 = .ok (.iload_n 3, 1) := dkg_X12_524.2.2.2.2.2.2.2.2.1
theorem dX12_gatherSigns_17 : decode cX12_gatherSigns 17 = .ok (.imul, 1) := dkg_X12_524.2.2.2.2.2.2.2.2.2.1
theorem dkg_X12_525 : dkp cX12_gatherSigns [(18, .istore 4, 2), (20, .iload 4, 2), (22, .sipush 6008, 3), (25, .iload_n 3, 1), (26, .imul, 1), (27, .aload_n 0, 1), (28, .getfield 116, 3), (31, .iload_n 3, 1), (32, .iaload, 1), (33, .iadd, 1)] := dkf (by decide +kernel)
theorem dX12_gatherSigns_18 : decode cX12_gatherSigns 18 = .ok (.istore 4, 2) := dkg_X12_525.1
theorem dX12_gatherSigns_20 : decode cX12_gatherSigns 20 = .ok (.iload 4, 2) := dkg_X12_525.2.1
theorem dX12_gatherSigns_22 : decode cX12_gatherSigns 22 = .ok (.sipush 6008, 3) := dkg_X12_525.2.2.1
theorem dX12_gatherSigns_25 : decode cX12_gatherSigns 25 = .ok (.iload_n 3, 1) := dkg_X12_525.2.2.2.1
theorem dX12_gatherSigns_26 : decode cX12_gatherSigns 26 = .ok (.imul, 1) := dkg_X12_525.2.2.2.2.1
theorem dX12_gatherSigns_27 : decode cX12_gatherSigns 27 = .ok (.aload_n 0, 1) := dkg_X12_525.2.2.2.2.2.1
theorem dX12_gatherSigns_28 : decode cX12_gatherSigns 28 = .ok (.getfield 116, 3) := dkg_X12_525.2.2.2.2.2.2.1
theorem dX12_gatherSigns_31 : decode cX12_gatherSigns 31 = .ok (.iload_n 3, 1) := dkg_X12_525.2.2.2.2.2.2.2.1
theorem dX12_gatherSigns_32 : decode cX12_gatherSigns 32 = .ok (.iaload, 1) := dkg_X12_525.2.2.2.2.2.2.2.2.1
theorem dX12_gatherSigns_33 : decode cX12_gatherSigns 33 = .ok (.iadd, 1) := dkg_X12_525.2.2.2.2.2.2.2.2.2.1
theorem dkg_X12_526 : dkp cX12_gatherSigns [(34, .if_icmp .ge 80, 3), (37, .aload_n 0, 1), (38, .getfield 107, 3), (41, .iload 4, 2), (43, .iaload, 1), (44, .istore 5, 2), (46, .iconst 0, 1), (47, .istore 6, 2), (49, .iload 5, 2), (51, .ifCond .lt 57, 3)] := dkf (by decide +kernel)
theorem dX12_gatherSigns_34 : decode cX12_gatherSigns 34 = .ok (.if_icmp .ge 80, 3) := dkg_X12_526.1
theorem dX12_gatherSigns_37 : decode cX12_gatherSigns 37 = .ok (.aload_n 0, 1) := dkg_X12_526.2.1
theorem dX12_gatherSigns_38 : decode cX12_gatherSigns 38 = .ok (.getfield 107, 3) := dkg_X12_526.2.2.1
theorem dX12_gatherSigns_41 : decode cX12_gatherSigns 41 = .ok (.iload 4, 2) := dkg_X12_526.2.2.2.1
theorem dX12_gatherSigns_43 : decode cX12_gatherSigns 43 = .ok (.iaload, 1) := dkg_X12_526.2.2.2.2.1
theorem dX12_gatherSigns_44 : decode cX12_gatherSigns 44 = .ok (.istore 5, 2) := dkg_X12_526.2.2.2.2.2.1
theorem dX12_gatherSigns_46 : decode cX12_gatherSigns 46 = .ok (.iconst 0, 1) := dkg_X12_526.2.2.2.2.2.2.1
theorem dX12_gatherSigns_47 : decode cX12_gatherSigns 47 = .ok (.istore 6, 2) := dkg_X12_526.2.2.2.2.2.2.2.1
theorem dX12_gatherSigns_49 : decode cX12_gatherSigns 49 = .ok (.iload 5, 2) := dkg_X12_526.2.2.2.2.2.2.2.2.1
theorem dX12_gatherSigns_51 : decode cX12_gatherSigns 51 = .ok (.ifCond .lt 57, 3) := dkg_X12_526.2.2.2.2.2.2.2.2.2.1
theorem dkg_X12_527 : dkp cX12_gatherSigns [(54, .iload 6, 2), (56, .aload_n 0, 1), (57, .getfield 39, 3), (60, .iload 5, 2), (62, .iaload, 1), (63, .if_icmp .ge 45, 3), (66, .aload_n 0, 1), (67, .getfield 46, 3), (70, .bipush 8, 2), (72, .iload 5, 2)] := dkf (by decide +kernel)
theorem dX12_gatherSigns_54 : decode cX12_gatherSigns 54 = .ok (.iload 6, 2) := dkg_X12_527.1
theorem dX12_gatherSigns_56 : decode cX12_gatherSigns 56 = .ok (.aload_n 0, 1) := dkg_X12_527.2.1
theorem dX12_gatherSigns_57 : decode cX12_gatherSigns 57 = .ok (.getfield 39, 3) := dkg_X12_527.2.2.1
theorem dX12_gatherSigns_60 : decode cX12_gatherSigns 60 = .ok (.iload 5, 2) := dkg_X12_527.2.2.2.1
theorem dX12_gatherSigns_62 : decode cX12_gatherSigns 62 = .ok (.iaload, 1) := dkg_X12_527.2.2.2.2.1
theorem dX12_gatherSigns_63 : decode cX12_gatherSigns 63 = .ok (.if_icmp .ge 45, 3) := dkg_X12_527.2.2.2.2.2.1
theorem dX12_gatherSigns_66 : decode cX12_gatherSigns 66 = .ok (.aload_n 0, 1) := dkg_X12_527.2.2.2.2.2.2.1
theorem dX12_gatherSigns_67 : decode cX12_gatherSigns 67 = .ok (.getfield 46, 3) := dkg_X12_527.2.2.2.2.2.2.2.1
theorem dX12_gatherSigns_70 : decode cX12_gatherSigns 70 = .ok (.bipush 8, 2) := dkg_X12_527.2.2.2.2.2.2.2.2.1
theorem dX12_gatherSigns_72 : decode cX12_gatherSigns 72 = .ok (.iload 5, 2) := dkg_X12_527.2.2.2.2.2.2.2.2.2.1
theorem dkg_X12_528 : dkp cX12_gatherSigns [(74, .imul, 1), (75, .iload 6, 2), (77, .iadd, 1), (78, .iaload, 1), (79, .istore 7, 2), (81, .aload_n 2, 1), (82, .iload 7, 2), (84, .iconst 1, 1), (85, .bastore, 1), (86, .iload 7, 2)] := dkf (by decide +kernel)
theorem dX12_gatherSigns_74 : decode cX12_gatherSigns 74 = .ok (.imul, 1) := dkg_X12_528.1
theorem dX12_gatherSigns_75 : decode cX12_gatherSigns 75 = .ok (.iload 6, 2) := dkg_X12_528.2.1
theorem dX12_gatherSigns_77 : decode cX12_gatherSigns 77 = .ok (.iadd, 1) := dkg_X12_528.2.2.1
theorem dX12_gatherSigns_78 : decode cX12_gatherSigns 78 = .ok (.iaload, 1) := dkg_X12_528.2.2.2.1
theorem dX12_gatherSigns_79 : decode cX12_gatherSigns 79 = .ok (.istore 7, 2) := dkg_X12_528.2.2.2.2.1
theorem dX12_gatherSigns_81 : decode cX12_gatherSigns 81 = .ok (.aload_n 2, 1) := dkg_X12_528.2.2.2.2.2.1
theorem dX12_gatherSigns_82 : decode cX12_gatherSigns 82 = .ok (.iload 7, 2) := dkg_X12_528.2.2.2.2.2.2.1
theorem dX12_gatherSigns_84 : decode cX12_gatherSigns 84 = .ok (.iconst 1, 1) := dkg_X12_528.2.2.2.2.2.2.2.1
theorem dX12_gatherSigns_85 : decode cX12_gatherSigns 85 = .ok (.bastore, 1) := dkg_X12_528.2.2.2.2.2.2.2.2.1
theorem dX12_gatherSigns_86 : decode cX12_gatherSigns 86 = .ok (.iload 7, 2) := dkg_X12_528.2.2.2.2.2.2.2.2.2.1
theorem dkg_X12_529 : dkp cX12_gatherSigns [(88, .invokestatic 208, 3), (91, .ifCond .eq 11, 3), (94, .aload_n 2, 1), (95, .iload 7, 2), (97, .bipush 32, 2), (99, .isub, 1), (100, .iconst 1, 1), (101, .bastore, 1), (102, .iinc 6 1, 3), (105, .goto (-56), 3)] := dkf (by decide +kernel)
theorem dX12_gatherSigns_88 : decode cX12_gatherSigns 88 = .ok (.invokestatic 208, 3) := dkg_X12_529.1
theorem dX12_gatherSigns_91 : decode cX12_gatherSigns 91 = .ok (.ifCond .eq 11, 3) := dkg_X12_529.2.1
theorem dX12_gatherSigns_94 : decode cX12_gatherSigns 94 = .ok (.aload_n 2, 1) := dkg_X12_529.2.2.1
theorem dX12_gatherSigns_95 : decode cX12_gatherSigns 95 = .ok (.iload 7, 2) := dkg_X12_529.2.2.2.1
theorem dX12_gatherSigns_97 : decode cX12_gatherSigns 97 = .ok (.bipush 32, 2) := dkg_X12_529.2.2.2.2.1
theorem dX12_gatherSigns_99 : decode cX12_gatherSigns 99 = .ok (.isub, 1) := dkg_X12_529.2.2.2.2.2.1
theorem dX12_gatherSigns_100 : decode cX12_gatherSigns 100 = .ok (.iconst 1, 1) := dkg_X12_529.2.2.2.2.2.2.1
theorem dX12_gatherSigns_101 : decode cX12_gatherSigns 101 = .ok (.bastore, 1) := dkg_X12_529.2.2.2.2.2.2.2.1
theorem dX12_gatherSigns_102 : decode cX12_gatherSigns 102 = .ok (.iinc 6 1, 3) := dkg_X12_529.2.2.2.2.2.2.2.2.1
theorem dX12_gatherSigns_105 : decode cX12_gatherSigns 105 = .ok (.goto (-56), 3) := dkg_X12_529.2.2.2.2.2.2.2.2.2.1
theorem dkg_X12_530 : dkp cX12_gatherSigns [(108, .iinc 4 1, 3), (111, .goto (-91), 3), (114, .iinc 3 1, 3), (117, .goto (-109), 3), (120, .aload_n 0, 1), (121, .getfield 21, 3), (124, .iload_n 1, 1), (125, .iaload, 1), (126, .iconst 5, 1), (127, .if_icmp .ne 13, 3)] := dkf (by decide +kernel)
theorem dX12_gatherSigns_108 : decode cX12_gatherSigns 108 = .ok (.iinc 4 1, 3) := dkg_X12_530.1
theorem dX12_gatherSigns_111 : decode cX12_gatherSigns 111 = .ok (.goto (-91), 3) := dkg_X12_530.2.1
theorem dX12_gatherSigns_114 : decode cX12_gatherSigns 114 = .ok (.iinc 3 1, 3) := dkg_X12_530.2.2.1
theorem dX12_gatherSigns_117 : decode cX12_gatherSigns 117 = .ok (.goto (-109), 3) := dkg_X12_530.2.2.2.1
theorem dX12_gatherSigns_120 : decode cX12_gatherSigns 120 = .ok (.aload_n 0, 1) := dkg_X12_530.2.2.2.2.1
theorem dX12_gatherSigns_121 : decode cX12_gatherSigns 121 = .ok (.getfield 21, 3) := dkg_X12_530.2.2.2.2.2.1
theorem dX12_gatherSigns_124 : decode cX12_gatherSigns 124 = .ok (.iload_n 1, 1) := dkg_X12_530.2.2.2.2.2.2.1
theorem dX12_gatherSigns_125 : decode cX12_gatherSigns 125 = .ok (.iaload, 1) := dkg_X12_530.2.2.2.2.2.2.2.1
theorem dX12_gatherSigns_126 : decode cX12_gatherSigns 126 = .ok (.iconst 5, 1) := dkg_X12_530.2.2.2.2.2.2.2.2.1
theorem dX12_gatherSigns_127 : decode cX12_gatherSigns 127 = .ok (.if_icmp .ne 13, 3) := dkg_X12_530.2.2.2.2.2.2.2.2.2.1
theorem dkg_X12_531 : dkp cX12_gatherSigns [(130, .aload_n 2, 1), (131, .bipush 60, 2), (133, .iconst 1, 1), (134, .bastore, 1), (135, .aload_n 2, 1), (136, .bipush 62, 2), (138, .iconst 1, 1), (139, .bastore, 1), (140, .aload_n 0, 1), (141, .iconst 0, 1)] := dkf (by decide +kernel)
theorem dX12_gatherSigns_130 : decode cX12_gatherSigns 130 = .ok (.aload_n 2, 1) := dkg_X12_531.1
theorem dX12_gatherSigns_131 : decode cX12_gatherSigns 131 = .ok (.bipush 60, 2) := dkg_X12_531.2.1
theorem dX12_gatherSigns_133 : decode cX12_gatherSigns 133 = .ok (.iconst 1, 1) := dkg_X12_531.2.2.1
theorem dX12_gatherSigns_134 : decode cX12_gatherSigns 134 = .ok (.bastore, 1) := dkg_X12_531.2.2.2.1
theorem dX12_gatherSigns_135 : decode cX12_gatherSigns 135 = .ok (.aload_n 2, 1) := dkg_X12_531.2.2.2.2.1
theorem dX12_gatherSigns_136 : decode cX12_gatherSigns 136 = .ok (.bipush 62, 2) := dkg_X12_531.2.2.2.2.2.1
theorem dX12_gatherSigns_138 : decode cX12_gatherSigns 138 = .ok (.iconst 1, 1) := dkg_X12_531.2.2.2.2.2.2.1
theorem dX12_gatherSigns_139 : decode cX12_gatherSigns 139 = .ok (.bastore, 1) := dkg_X12_531.2.2.2.2.2.2.2.1
theorem dX12_gatherSigns_140 : decode cX12_gatherSigns 140 = .ok (.aload_n 0, 1) := dkg_X12_531.2.2.2.2.2.2.2.2.1
theorem dX12_gatherSigns_141 : decode cX12_gatherSigns 141 = .ok (.iconst 0, 1) := dkg_X12_531.2.2.2.2.2.2.2.2.2.1
theorem dkg_X12_532 : dkp cX12_gatherSigns [(142, .putfield 413, 3), (145, .iconst 0, 1), (146, .istore_n 3, 1), (147, .iload_n 3, 1), (148, .sipush 256, 3), (151, .if_icmp .ge 38, 3), (154, .aload_n 2, 1), (155, .iload_n 3, 1), (156, .baload, 1), (157, .ifCond .ne 6, 3)] := dkf (by decide +kernel)
theorem dX12_gatherSigns_142 : decode cX12_gatherSigns 142 = .ok (.putfield 413, 3) := dkg_X12_532.1
theorem dX12_gatherSigns_145 : decode cX12_gatherSigns 145 = .ok (.iconst 0, 1) := dkg_X12_532.2.1
theorem dX12_gatherSigns_146 : decode cX12_gatherSigns 146 = .ok (.istore_n 3, 1) := dkg_X12_532.2.2.1
theorem dX12_gatherSigns_147 : decode cX12_gatherSigns 147 = .ok (.iload_n 3, 1) := dkg_X12_532.2.2.2.1
theorem dX12_gatherSigns_148 : decode cX12_gatherSigns 148 = .ok (.sipush 256, 3) := dkg_X12_532.2.2.2.2.1
theorem dX12_gatherSigns_151 : decode cX12_gatherSigns 151 = .ok (.if_icmp .ge 38, 3) := dkg_X12_532.2.2.2.2.2.1
theorem dX12_gatherSigns_154 : decode cX12_gatherSigns 154 = .ok (.aload_n 2, 1) := dkg_X12_532.2.2.2.2.2.2.1
theorem dX12_gatherSigns_155 : decode cX12_gatherSigns 155 = .ok (.iload_n 3, 1) := dkg_X12_532.2.2.2.2.2.2.2.1
theorem dX12_gatherSigns_156 : decode cX12_gatherSigns 156 = .ok (.baload, 1) := dkg_X12_532.2.2.2.2.2.2.2.2.1
theorem dX12_gatherSigns_157 : decode cX12_gatherSigns 157 = .ok (.ifCond .ne 6, 3) := dkg_X12_532.2.2.2.2.2.2.2.2.2.1
theorem dkg_X12_533 : dkp cX12_gatherSigns [(160, .goto 23, 3), (163, .aload_n 0, 1), (164, .getfield 145, 3), (167, .aload_n 0, 1), (168, .getfield 413, 3), (171, .iload_n 3, 1), (172, .iastore, 1), (173, .aload_n 0, 1), (174, .dup, 1), (175, .getfield 413, 3)] := dkf (by decide +kernel)
theorem dX12_gatherSigns_160 : decode cX12_gatherSigns 160 = .ok (.goto 23, 3) := dkg_X12_533.1
theorem dX12_gatherSigns_163 : decode cX12_gatherSigns 163 = .ok (.aload_n 0, 1) := dkg_X12_533.2.1
theorem dX12_gatherSigns_164 : decode cX12_gatherSigns 164 = .ok (.getfield 145, 3) := dkg_X12_533.2.2.1
theorem dX12_gatherSigns_167 : decode cX12_gatherSigns 167 = .ok (.aload_n 0, 1) := dkg_X12_533.2.2.2.1
theorem dX12_gatherSigns_168 : decode cX12_gatherSigns 168 = .ok (.getfield 413, 3) := dkg_X12_533.2.2.2.2.1
theorem dX12_gatherSigns_171 : decode cX12_gatherSigns 171 = .ok (.iload_n 3, 1) := dkg_X12_533.2.2.2.2.2.1
theorem dX12_gatherSigns_172 : decode cX12_gatherSigns 172 = .ok (.iastore, 1) := dkg_X12_533.2.2.2.2.2.2.1
theorem dX12_gatherSigns_173 : decode cX12_gatherSigns 173 = .ok (.aload_n 0, 1) := dkg_X12_533.2.2.2.2.2.2.2.1
theorem dX12_gatherSigns_174 : decode cX12_gatherSigns 174 = .ok (.dup, 1) := dkg_X12_533.2.2.2.2.2.2.2.2.1
theorem dX12_gatherSigns_175 : decode cX12_gatherSigns 175 = .ok (.getfield 413, 3) := dkg_X12_533.2.2.2.2.2.2.2.2.2.1
theorem dkg_X12_534 : dkp cX12_gatherSigns [(178, .iconst 1, 1), (179, .iadd, 1), (180, .putfield 413, 3), (183, .iinc 3 1, 3), (186, .goto (-39), 3), (189, .return_, 1)] := dkf (by decide +kernel)
theorem dX12_gatherSigns_178 : decode cX12_gatherSigns 178 = .ok (.iconst 1, 1) := dkg_X12_534.1
theorem dX12_gatherSigns_179 : decode cX12_gatherSigns 179 = .ok (.iadd, 1) := dkg_X12_534.2.1
theorem dX12_gatherSigns_180 : decode cX12_gatherSigns 180 = .ok (.putfield 413, 3) := dkg_X12_534.2.2.1
theorem dX12_gatherSigns_183 : decode cX12_gatherSigns 183 = .ok (.iinc 3 1, 3) := dkg_X12_534.2.2.2.1
theorem dX12_gatherSigns_186 : decode cX12_gatherSigns 186 = .ok (.goto (-39), 3) := dkg_X12_534.2.2.2.2.1
theorem dX12_gatherSigns_189 : decode cX12_gatherSigns 189 = .ok (.return_, 1) := dkg_X12_534.2.2.2.2.2.1
theorem dkg_X12_535 : dkp cX12_gatherSigns [(3, .newarray .boolean, 2)] := dkq (by decide +kernel)
theorem dX12_gatherSigns_3 : decode cX12_gatherSigns 3 = .ok (.newarray .boolean, 2) := dkg_X12_535.1
theorem dkg_X12_536 : dkp cX12_isUnreadable [(0, .aload_n 0, 1), (1, .iload_n 1, 1), (2, .invokevirtual 267, 3), (5, .ifCond .ne 5, 3), (8, .iconst 0, 1), (9, .ireturn, 1), (10, .aload_n 0, 1), (11, .iconst 0, 1), (12, .putfield 333, 3), (15, .iconst 0, 1)] := dkf (by decide +kernel)
theorem dX12_isUnreadable_0 : decode cX12_isUnreadable 0 = .ok (.aload_n 0, 1) := dkg_X12_536.1
theorem dX12_isUnreadable_1 : decode cX12_isUnreadable 1 = .ok (.iload_n 1, 1) := dkg_X12_536.2.1
theorem dX12_isUnreadable_2 : decode cX12_isUnreadable 2 = .ok (.invokevirtual 267, 3) := dkg_X12_536.2.2.1
theorem dX12_isUnreadable_5 : decode cX12_isUnreadable 5 = .ok (.ifCond .ne 5, 3) := dkg_X12_536.2.2.2.1
theorem dX12_isUnreadable_8 : decode cX12_isUnreadable 8 = .ok (.iconst 0, 1) := dkg_X12_536.2.2.2.2.1
theorem dX12_isUnreadable_9 : decode cX12_isUnreadable 9 = .ok (.ireturn, 1) := dkg_X12_536.2.2.2.2.2.1
theorem dX12_isUnreadable_10 : decode cX12_isUnreadable 10 = .ok (.aload_n 0, 1) := dkg_X12_536.2.2.2.2.2.2.1
theorem dX12_isUnreadable_11 : decode cX12_isUnreadable 11 = .ok (.iconst 0, 1) := dkg_X12_536.2.2.2.2.2.2.2.1
theorem dX12_isUnreadable_12 : decode cX12_isUnreadable 12 = .ok (.putfield 333, 3) := dkg_X12_536.2.2.2.2.2.2.2.2.1
theorem dX12_isUnreadable_15 : decode cX12_isUnreadable 15 = .ok (.iconst 0, 1) := dkg_X12_536.2.2.2.2.2.2.2.2.2.1
theorem dkg_X12_537 : dkp cX12_isUnreadable [(16, .istore_n 2, 1), (17, .iload_n 2, 1), (18, .aload_n 0, 1), (19, .getfield 224, 3), (22, .if_icmp .ge 20, 3), (25, .aload_n 0, 1), (26, .aload_n 0, 1), (27, .getfield 70, 3), (30, .iload_n 2, 1), (31, .iaload, 1)] := dkf (by decide +kernel)
theorem dX12_isUnreadable_16 : decode cX12_isUnreadable 16 = .ok (.istore_n 2, 1) := dkg_X12_537.1
theorem dX12_isUnreadable_17 : decode cX12_isUnreadable 17 = .ok (.iload_n 2, 1) := dkg_X12_537.2.1
theorem dX12_isUnreadable_18 : decode cX12_isUnreadable 18 = .ok (.aload_n 0, 1) := dkg_X12_537.2.2.1
theorem dX12_isUnreadable_19 : decode cX12_isUnreadable 19 = .ok (.getfield 224, 3) := dkg_X12_537.2.2.2.1
theorem dX12_isUnreadable_22 : decode cX12_isUnreadable 22 = .ok (.if_icmp .ge 20, 3) := dkg_X12_537.2.2.2.2.1
theorem dX12_isUnreadable_25 : decode cX12_isUnreadable 25 = .ok (.aload_n 0, 1) := dkg_X12_537.2.2.2.2.2.1
theorem dX12_isUnreadable_26 : decode cX12_isUnreadable 26 = .ok (.aload_n 0, 1) := dkg_X12_537.2.2.2.2.2.2.1
theorem dX12_isUnreadable_27 : decode cX12_isUnreadable 27 = .ok (.getfield 70, 3) := dkg_X12_537.2.2.2.2.2.2.2.1
theorem dX12_isUnreadable_30 : decode cX12_isUnreadable 30 = .ok (.iload_n 2, 1) := dkg_X12_537.2.2.2.2.2.2.2.2.1
theorem dX12_isUnreadable_31 : decode cX12_isUnreadable 31 = .ok (.iaload, 1) := dkg_X12_537.2.2.2.2.2.2.2.2.2.1
theorem dkg_X12_538 : dkp cX12_isUnreadable [(32, .iconst 0, 1), (33, .invokevirtual 351, 3), (36, .iinc 2 1, 3), (39, .goto (-22), 3), (42, .aload_n 0, 1), (43, .invokevirtual 357, 3), (46, .ifCond .ne 14, 3), (49, .aload_n 0, 1), (50, .getfield 330, 3), (53, .aload_n 0, 1)] := dkf (by decide +kernel)
theorem dX12_isUnreadable_32 : decode cX12_isUnreadable 32 = .ok (.iconst 0, 1) := dkg_X12_538.1
theorem dX12_isUnreadable_33 : decode cX12_isUnreadable 33 = .ok (.invokevirtual 351, 3) := dkg_X12_538.2.1
theorem dX12_isUnreadable_36 : decode cX12_isUnreadable 36 = .ok (.iinc 2 1, 3) := dkg_X12_538.2.2.1
theorem dX12_isUnreadable_39 : decode cX12_isUnreadable 39 = .ok (.goto (-22), 3) := dkg_X12_538.2.2.2.1
theorem dX12_isUnreadable_42 : decode cX12_isUnreadable 42 = .ok (.aload_n 0, 1) := dkg_X12_538.2.2.2.2.1
theorem dX12_isUnreadable_43 : decode cX12_isUnreadable 43 = .ok (.invokevirtual 357, 3) := dkg_X12_538.2.2.2.2.2.1
theorem dX12_isUnreadable_46 : decode cX12_isUnreadable 46 = .ok (.ifCond .ne 14, 3) := dkg_X12_538.2.2.2.2.2.2.1
theorem dX12_isUnreadable_49 : decode cX12_isUnreadable 49 = .ok (.aload_n 0, 1) := dkg_X12_538.2.2.2.2.2.2.2.1
theorem dX12_isUnreadable_50 : decode cX12_isUnreadable 50 = .ok (.getfield 330, 3) := dkg_X12_538.2.2.2.2.2.2.2.2.1
theorem dX12_isUnreadable_53 : decode cX12_isUnreadable 53 = .ok (.aload_n 0, 1) := dkg_X12_538.2.2.2.2.2.2.2.2.2.1
theorem dkg_X12_539 : dkp cX12_isUnreadable [(54, .getfield 234, 3), (57, .if_icmp .eq 5, 3), (60, .iconst 1, 1), (61, .ireturn, 1), (62, .iconst 0, 1), (63, .istore_n 2, 1), (64, .iload_n 2, 1), (65, .aload_n 0, 1), (66, .getfield 330, 3), (69, .if_icmp .ge 26, 3)] := dkf (by decide +kernel)
theorem dX12_isUnreadable_54 : decode cX12_isUnreadable 54 = .ok (.getfield 234, 3) := dkg_X12_539.1
theorem dX12_isUnreadable_57 : decode cX12_isUnreadable 57 = .ok (.if_icmp .eq 5, 3) := dkg_X12_539.2.1
theorem dX12_isUnreadable_60 : decode cX12_isUnreadable 60 = .ok (.iconst 1, 1) := dkg_X12_539.2.2.1
theorem dX12_isUnreadable_61 : decode cX12_isUnreadable 61 = .ok (.ireturn, 1) := dkg_X12_539.2.2.2.1
theorem dX12_isUnreadable_62 : decode cX12_isUnreadable 62 = .ok (.iconst 0, 1) := dkg_X12_539.2.2.2.2.1
theorem dX12_isUnreadable_63 : decode cX12_isUnreadable 63 = .ok (.istore_n 2, 1) := dkg_X12_539.2.2.2.2.2.1
theorem dX12_isUnreadable_64 : decode cX12_isUnreadable 64 = .ok (.iload_n 2, 1) := dkg_X12_539.2.2.2.2.2.2.1
theorem dX12_isUnreadable_65 : decode cX12_isUnreadable 65 = .ok (.aload_n 0, 1) := dkg_X12_539.2.2.2.2.2.2.2.1
theorem dX12_isUnreadable_66 : decode cX12_isUnreadable 66 = .ok (.getfield 330, 3) := dkg_X12_539.2.2.2.2.2.2.2.2.1
theorem dX12_isUnreadable_69 : decode cX12_isUnreadable 69 = .ok (.if_icmp .ge 26, 3) := dkg_X12_539.2.2.2.2.2.2.2.2.2.1
theorem dkg_X12_540 : dkp cX12_isUnreadable [(72, .aload_n 0, 1), (73, .getfield 126, 3), (76, .iload_n 2, 1), (77, .iaload, 1), (78, .aload_n 0, 1), (79, .getfield 61, 3), (82, .iload_n 2, 1), (83, .iaload, 1), (84, .if_icmp .eq 5, 3), (87, .iconst 1, 1)] := dkf (by decide +kernel)
theorem dX12_isUnreadable_72 : decode cX12_isUnreadable 72 = .ok (.aload_n 0, 1) := dkg_X12_540.1
theorem dX12_isUnreadable_73 : decode cX12_isUnreadable 73 = .ok (.getfield 126, 3) := dkg_X12_540.2.1
theorem dX12_isUnreadable_76 : decode cX12_isUnreadable 76 = .ok (.iload_n 2, 1) := dkg_X12_540.2.2.1
theorem dX12_isUnreadable_77 : decode cX12_isUnreadable 77 = .ok (.iaload, 1) := dkg_X12_540.2.2.2.1
theorem dX12_isUnreadable_78 : decode cX12_isUnreadable 78 = .ok (.aload_n 0, 1) := dkg_X12_540.2.2.2.2.1
theorem dX12_isUnreadable_79 : decode cX12_isUnreadable 79 = .ok (.getfield 61, 3) := dkg_X12_540.2.2.2.2.2.1
theorem dX12_isUnreadable_82 : decode cX12_isUnreadable 82 = .ok (.iload_n 2, 1) := dkg_X12_540.2.2.2.2.2.2.1
theorem dX12_isUnreadable_83 : decode cX12_isUnreadable 83 = .ok (.iaload, 1) := dkg_X12_540.2.2.2.2.2.2.2.1
theorem dX12_isUnreadable_84 : decode cX12_isUnreadable 84 = .ok (.if_icmp .eq 5, 3) := dkg_X12_540.2.2.2.2.2.2.2.2.1
theorem dX12_isUnreadable_87 : decode cX12_isUnreadable 87 = .ok (.iconst 1, 1) := dkg_X12_540.2.2.2.2.2.2.2.2.2.1
theorem dkg_X12_541 : dkp cX12_isUnreadable [(88, .ireturn, 1), (89, .iinc 2 1, 3), (92, .goto (-28), 3), (95, .iconst 0, 1), (96, .ireturn, 1)] := dkf (by decide +kernel)
theorem dX12_isUnreadable_88 : decode cX12_isUnreadable 88 = .ok (.ireturn, 1) := dkg_X12_541.1
theorem dX12_isUnreadable_89 : decode cX12_isUnreadable 89 = .ok (.iinc 2 1, 3) := dkg_X12_541.2.1
theorem dX12_isUnreadable_92 : decode cX12_isUnreadable 92 = .ok (.goto (-28), 3) := dkg_X12_541.2.2.1
theorem dX12_isUnreadable_95 : decode cX12_isUnreadable 95 = .ok (.iconst 0, 1) := dkg_X12_541.2.2.2.1
theorem dX12_isUnreadable_96 : decode cX12_isUnreadable 96 = .ok (.ireturn, 1) := dkg_X12_541.2.2.2.2.1
theorem dkg_X12_542 : dkp cX12_unreadable [(0, .iload_n 2, 1), (1, .iconst 1, 1), (2, .bipush 6, 2), (4, .invokestatic 174, 3), (7, .ifCond .eq 14, 3), (10, .iload_n 3, 1), (11, .iconst 1, 1), (12, .sipush 5000, 3), (15, .invokestatic 174, 3), (18, .ifCond .ne 10, 3)] := dkf (by decide +kernel)
theorem dX12_unreadable_0 : decode cX12_unreadable 0 = .ok (.iload_n 2, 1) := dkg_X12_542.1
theorem dX12_unreadable_1 : decode cX12_unreadable 1 = .ok (.iconst 1, 1) := dkg_X12_542.2.1
theorem dX12_unreadable_2 : decode cX12_unreadable 2 = .ok (.bipush 6, 2) := dkg_X12_542.2.2.1
theorem dX12_unreadable_4 : decode cX12_unreadable 4 = .ok (.invokestatic 174, 3) := dkg_X12_542.2.2.2.1
theorem dX12_unreadable_7 : decode cX12_unreadable 7 = .ok (.ifCond .eq 14, 3) := dkg_X12_542.2.2.2.2.1
theorem dX12_unreadable_10 : decode cX12_unreadable 10 = .ok (.iload_n 3, 1) := dkg_X12_542.2.2.2.2.2.1
theorem dX12_unreadable_11 : decode cX12_unreadable 11 = .ok (.iconst 1, 1) := dkg_X12_542.2.2.2.2.2.2.1
theorem dX12_unreadable_12 : decode cX12_unreadable 12 = .ok (.sipush 5000, 3) := dkg_X12_542.2.2.2.2.2.2.2.1
theorem dX12_unreadable_15 : decode cX12_unreadable 15 = .ok (.invokestatic 174, 3) := dkg_X12_542.2.2.2.2.2.2.2.2.1
theorem dX12_unreadable_18 : decode cX12_unreadable 18 = .ok (.ifCond .ne 10, 3) := dkg_X12_542.2.2.2.2.2.2.2.2.2.1
theorem dkg_X12_543 : dkp cX12_unreadable [(21, .aload_n 0, 1), (22, .bipush 6, 2), (24, .invokevirtual 154, 3), (27, .ireturn, 1), (28, .aload_n 0, 1), (29, .iload_n 1, 1), (30, .invokevirtual 171, 3), (33, .ifCond .ne 9, 3), (36, .aload_n 0, 1), (37, .iconst 3, 1)] := dkf (by decide +kernel)
theorem dX12_unreadable_21 : decode cX12_unreadable 21 = .ok (.aload_n 0, 1) := dkg_X12_543.1
theorem dX12_unreadable_22 : decode cX12_unreadable 22 = .ok (.bipush 6, 2) := dkg_X12_543.2.1
theorem dX12_unreadable_24 : decode cX12_unreadable 24 = .ok (.invokevirtual 154, 3) := dkg_X12_543.2.2.1
theorem dX12_unreadable_27 : decode cX12_unreadable 27 = .ok (.ireturn, 1) := dkg_X12_543.2.2.2.1
theorem dX12_unreadable_28 : decode cX12_unreadable 28 = .ok (.aload_n 0, 1) := dkg_X12_543.2.2.2.2.1
theorem dX12_unreadable_29 : decode cX12_unreadable 29 = .ok (.iload_n 1, 1) := dkg_X12_543.2.2.2.2.2.1
theorem dX12_unreadable_30 : decode cX12_unreadable 30 = .ok (.invokevirtual 171, 3) := dkg_X12_543.2.2.2.2.2.2.1
theorem dX12_unreadable_33 : decode cX12_unreadable 33 = .ok (.ifCond .ne 9, 3) := dkg_X12_543.2.2.2.2.2.2.2.1
theorem dX12_unreadable_36 : decode cX12_unreadable 36 = .ok (.aload_n 0, 1) := dkg_X12_543.2.2.2.2.2.2.2.2.1
theorem dX12_unreadable_37 : decode cX12_unreadable 37 = .ok (.iconst 3, 1) := dkg_X12_543.2.2.2.2.2.2.2.2.2.1
theorem dkg_X12_544 : dkp cX12_unreadable [(38, .invokevirtual 154, 3), (41, .ireturn, 1), (42, .aload_n 0, 1), (43, .iload_n 1, 1), (44, .invokevirtual 354, 3), (47, .aload_n 0, 1), (48, .iload_n 1, 1), (49, .invokevirtual 416, 3), (52, .aload_n 0, 1), (53, .aload_n 0, 1)] := dkf (by decide +kernel)
theorem dX12_unreadable_38 : decode cX12_unreadable 38 = .ok (.invokevirtual 154, 3) := dkg_X12_544.1
theorem dX12_unreadable_41 : decode cX12_unreadable 41 = .ok (.ireturn, 1) := dkg_X12_544.2.1
theorem dX12_unreadable_42 : decode cX12_unreadable 42 = .ok (.aload_n 0, 1) := dkg_X12_544.2.2.1
theorem dX12_unreadable_43 : decode cX12_unreadable 43 = .ok (.iload_n 1, 1) := dkg_X12_544.2.2.2.1
theorem dX12_unreadable_44 : decode cX12_unreadable 44 = .ok (.invokevirtual 354, 3) := dkg_X12_544.2.2.2.2.1
theorem dX12_unreadable_47 : decode cX12_unreadable 47 = .ok (.aload_n 0, 1) := dkg_X12_544.2.2.2.2.2.1
theorem dX12_unreadable_48 : decode cX12_unreadable 48 = .ok (.iload_n 1, 1) := dkg_X12_544.2.2.2.2.2.2.1
theorem dX12_unreadable_49 : decode cX12_unreadable 49 = .ok (.invokevirtual 416, 3) := dkg_X12_544.2.2.2.2.2.2.2.1
theorem dX12_unreadable_52 : decode cX12_unreadable 52 = .ok (.aload_n 0, 1) := dkg_X12_544.2.2.2.2.2.2.2.2.1
theorem dX12_unreadable_53 : decode cX12_unreadable 53 = .ok (.aload_n 0, 1) := dkg_X12_544.2.2.2.2.2.2.2.2.2.1
theorem dkg_X12_545 : dkp cX12_unreadable [(54, .getfield 330, 3), (57, .putfield 419, 3), (60, .iconst 0, 1), (61, .istore 4, 2), (63, .iload 4, 2), (65, .aload_n 0, 1), (66, .getfield 330, 3), (69, .if_icmp .ge 23, 3), (72, .aload_n 0, 1), (73, .getfield 129, 3)] := dkf (by decide +kernel)
theorem dX12_unreadable_54 : decode cX12_unreadable 54 = .ok (.getfield 330, 3) := dkg_X12_545.1
theorem dX12_unreadable_57 : decode cX12_unreadable 57 = .ok (.putfield 419, 3) := dkg_X12_545.2.1
theorem dX12_unreadable_60 : decode cX12_unreadable 60 = .ok (.iconst 0, 1) := dkg_X12_545.2.2.1
theorem dX12_unreadable_61 : decode cX12_unreadable 61 = .ok (.istore 4, 2) := dkg_X12_545.2.2.2.1
theorem dX12_unreadable_63 : decode cX12_unreadable 63 = .ok (.iload 4, 2) := dkg_X12_545.2.2.2.2.1
theorem dX12_unreadable_65 : decode cX12_unreadable 65 = .ok (.aload_n 0, 1) := dkg_X12_545.2.2.2.2.2.1
theorem dX12_unreadable_66 : decode cX12_unreadable 66 = .ok (.getfield 330, 3) := dkg_X12_545.2.2.2.2.2.2.1
theorem dX12_unreadable_69 : decode cX12_unreadable 69 = .ok (.if_icmp .ge 23, 3) := dkg_X12_545.2.2.2.2.2.2.2.1
theorem dX12_unreadable_72 : decode cX12_unreadable 72 = .ok (.aload_n 0, 1) := dkg_X12_545.2.2.2.2.2.2.2.2.1
theorem dX12_unreadable_73 : decode cX12_unreadable 73 = .ok (.getfield 129, 3) := dkg_X12_545.2.2.2.2.2.2.2.2.2.1
theorem dkg_X12_546 : dkp cX12_unreadable [(76, .iload 4, 2), (78, .aload_n 0, 1), (79, .getfield 126, 3), (82, .iload 4, 2), (84, .iaload, 1), (85, .iastore, 1), (86, .iinc 4 1, 3), (89, .goto (-26), 3), (92, .iconst 0, 1), (93, .istore 4, 2)] := dkf (by decide +kernel)
theorem dX12_unreadable_76 : decode cX12_unreadable 76 = .ok (.iload 4, 2) := dkg_X12_546.1
theorem dX12_unreadable_78 : decode cX12_unreadable 78 = .ok (.aload_n 0, 1) := dkg_X12_546.2.1
theorem dX12_unreadable_79 : decode cX12_unreadable 79 = .ok (.getfield 126, 3) := dkg_X12_546.2.2.1
theorem dX12_unreadable_82 : decode cX12_unreadable 82 = .ok (.iload 4, 2) := dkg_X12_546.2.2.2.1
theorem dX12_unreadable_84 : decode cX12_unreadable 84 = .ok (.iaload, 1) := dkg_X12_546.2.2.2.2.1
theorem dX12_unreadable_85 : decode cX12_unreadable 85 = .ok (.iastore, 1) := dkg_X12_546.2.2.2.2.2.1
theorem dX12_unreadable_86 : decode cX12_unreadable 86 = .ok (.iinc 4 1, 3) := dkg_X12_546.2.2.2.2.2.2.1
theorem dX12_unreadable_89 : decode cX12_unreadable 89 = .ok (.goto (-26), 3) := dkg_X12_546.2.2.2.2.2.2.2.1
theorem dX12_unreadable_92 : decode cX12_unreadable 92 = .ok (.iconst 0, 1) := dkg_X12_546.2.2.2.2.2.2.2.2.1
theorem dX12_unreadable_93 : decode cX12_unreadable 93 = .ok (.istore 4, 2) := dkg_X12_546.2.2.2.2.2.2.2.2.2.1
theorem dkg_X12_547 : dkp cX12_unreadable [(95, .bipush 6, 2), (99, .astore 5, 2), (101, .iconst 1, 1), (102, .istore 6, 2), (104, .iload 6, 2), (106, .iload_n 2, 1), (107, .if_icmp .gt 222, 3), (110, .aload_n 0, 1), (111, .getfield 413, 3), (114, .ifCond .le 215, 3)] := dkf (by decide +kernel)
theorem dX12_unreadable_95 : decode cX12_unreadable 95 = .ok (.bipush 6, 2) := dkg_X12_547.1
theorem dX12_unreadable_99 : decode cX12_unreadable 99 = .ok (.astore 5, 2) := dkg_X12_547.2.1
theorem dX12_unreadable_101 : decode cX12_unreadable 101 = .ok (.iconst 1, 1) := dkg_X12_547.2.2.1
theorem dX12_unreadable_102 : decode cX12_unreadable 102 = .ok (.istore 6, 2) := dkg_X12_547.2.2.2.1
theorem dX12_unreadable_104 : decode cX12_unreadable 104 = .ok (.iload 6, 2) := dkg_X12_547.2.2.2.2.1
theorem dX12_unreadable_106 : decode cX12_unreadable 106 = .ok (.iload_n 2, 1) := dkg_X12_547.2.2.2.2.2.1
theorem dX12_unreadable_107 : decode cX12_unreadable 107 = .ok (.if_icmp .gt 222, 3) := dkg_X12_547.2.2.2.2.2.2.1
theorem dX12_unreadable_110 : decode cX12_unreadable 110 = .ok (.aload_n 0, 1) := dkg_X12_547.2.2.2.2.2.2.2.1
theorem dX12_unreadable_111 : decode cX12_unreadable 111 = .ok (.getfield 413, 3) := dkg_X12_547.2.2.2.2.2.2.2.2.1
theorem dX12_unreadable_114 : decode cX12_unreadable 114 = .ok (.ifCond .le 215, 3) := dkg_X12_547.2.2.2.2.2.2.2.2.2.1
theorem dkg_X12_548 : dkp cX12_unreadable [(117, .iconst 0, 1), (118, .istore 7, 2), (120, .iload 7, 2), (122, .iload 6, 2), (124, .if_icmp .ge 15, 3), (127, .aload 5, 2), (129, .iload 7, 2), (131, .iconst 0, 1), (132, .iastore, 1), (133, .iinc 7 1, 3)] := dkf (by decide +kernel)
theorem dX12_unreadable_117 : decode cX12_unreadable 117 = .ok (.iconst 0, 1) := dkg_X12_548.1
theorem dX12_unreadable_118 : decode cX12_unreadable 118 = .ok (.istore 7, 2) := dkg_X12_548.2.1
theorem dX12_unreadable_120 : decode cX12_unreadable 120 = .ok (.iload 7, 2) := dkg_X12_548.2.2.1
theorem dX12_unreadable_122 : decode cX12_unreadable 122 = .ok (.iload 6, 2) := dkg_X12_548.2.2.2.1
theorem dX12_unreadable_124 : decode cX12_unreadable 124 = .ok (.if_icmp .ge 15, 3) := dkg_X12_548.2.2.2.2.1
theorem dX12_unreadable_127 : decode cX12_unreadable 127 = .ok (.aload 5, 2) := dkg_X12_548.2.2.2.2.2.1
theorem dX12_unreadable_129 : decode cX12_unreadable 129 = .ok (.iload 7, 2) := dkg_X12_548.2.2.2.2.2.2.1
theorem dX12_unreadable_131 : decode cX12_unreadable 131 = .ok (.iconst 0, 1) := dkg_X12_548.2.2.2.2.2.2.2.1
theorem dX12_unreadable_132 : decode cX12_unreadable 132 = .ok (.iastore, 1) := dkg_X12_548.2.2.2.2.2.2.2.2.1
theorem dX12_unreadable_133 : decode cX12_unreadable 133 = .ok (.iinc 7 1, 3) := dkg_X12_548.2.2.2.2.2.2.2.2.2.1
theorem dkg_X12_549 : dkp cX12_unreadable [(136, .goto (-16), 3), (139, .iconst 1, 1), (140, .istore 7, 2), (142, .iload 7, 2), (144, .ifCond .eq 179, 3), (147, .iload 4, 2), (149, .iload_n 3, 1), (150, .if_icmp .ne 14, 3), (153, .aload_n 0, 1), (154, .invokevirtual 422, 3)] := dkf (by decide +kernel)
theorem dX12_unreadable_136 : decode cX12_unreadable 136 = .ok (.goto (-16), 3) := dkg_X12_549.1
theorem dX12_unreadable_139 : decode cX12_unreadable 139 = .ok (.iconst 1, 1) := dkg_X12_549.2.1
theorem dX12_unreadable_140 : decode cX12_unreadable 140 = .ok (.istore 7, 2) := dkg_X12_549.2.2.1
theorem dX12_unreadable_142 : decode cX12_unreadable 142 = .ok (.iload 7, 2) := dkg_X12_549.2.2.2.1
theorem dX12_unreadable_144 : decode cX12_unreadable 144 = .ok (.ifCond .eq 179, 3) := dkg_X12_549.2.2.2.2.1
theorem dX12_unreadable_147 : decode cX12_unreadable 147 = .ok (.iload 4, 2) := dkg_X12_549.2.2.2.2.2.1
theorem dX12_unreadable_149 : decode cX12_unreadable 149 = .ok (.iload_n 3, 1) := dkg_X12_549.2.2.2.2.2.2.1
theorem dX12_unreadable_150 : decode cX12_unreadable 150 = .ok (.if_icmp .ne 14, 3) := dkg_X12_549.2.2.2.2.2.2.2.1
theorem dX12_unreadable_153 : decode cX12_unreadable 153 = .ok (.aload_n 0, 1) := dkg_X12_549.2.2.2.2.2.2.2.2.1
theorem dX12_unreadable_154 : decode cX12_unreadable 154 = .ok (.invokevirtual 422, 3) := dkg_X12_549.2.2.2.2.2.2.2.2.2.1
theorem dkg_X12_550 : dkp cX12_unreadable [(157, .aload_n 0, 1), (158, .bipush 8, 2), (160, .invokevirtual 154, 3), (163, .ireturn, 1), (164, .iinc 4 1, 3), (167, .aload_n 0, 1), (168, .iload 6, 2), (170, .putfield 234, 3), (173, .iconst 0, 1), (174, .istore 8, 2)] := dkf (by decide +kernel)
theorem dX12_unreadable_157 : decode cX12_unreadable 157 = .ok (.aload_n 0, 1) := dkg_X12_550.1
theorem dX12_unreadable_158 : decode cX12_unreadable 158 = .ok (.bipush 8, 2) := dkg_X12_550.2.1
theorem dX12_unreadable_160 : decode cX12_unreadable 160 = .ok (.invokevirtual 154, 3) := dkg_X12_550.2.2.1
theorem dX12_unreadable_163 : decode cX12_unreadable 163 = .ok (.ireturn, 1) := dkg_X12_550.2.2.2.1
theorem dX12_unreadable_164 : decode cX12_unreadable 164 = .ok (.iinc 4 1, 3) := dkg_X12_550.2.2.2.2.1
theorem dX12_unreadable_167 : decode cX12_unreadable 167 = .ok (.aload_n 0, 1) := dkg_X12_550.2.2.2.2.2.1
theorem dX12_unreadable_168 : decode cX12_unreadable 168 = .ok (.iload 6, 2) := dkg_X12_550.2.2.2.2.2.2.1
theorem dX12_unreadable_170 : decode cX12_unreadable 170 = .ok (.putfield 234, 3) := dkg_X12_550.2.2.2.2.2.2.2.1
theorem dX12_unreadable_173 : decode cX12_unreadable 173 = .ok (.iconst 0, 1) := dkg_X12_550.2.2.2.2.2.2.2.2.1
theorem dX12_unreadable_174 : decode cX12_unreadable 174 = .ok (.istore 8, 2) := dkg_X12_550.2.2.2.2.2.2.2.2.2.1
theorem dkg_X12_551 : dkp cX12_unreadable [(176, .iload 8, 2), (178, .iload 6, 2), (180, .if_icmp .ge 26, 3), (183, .aload_n 0, 1), (184, .getfield 61, 3), (187, .iload 8, 2), (189, .aload_n 0, 1), (190, .getfield 145, 3), (193, .aload 5, 2), (195, .iload 8, 2)] := dkf (by decide +kernel)
theorem dX12_unreadable_176 : decode cX12_unreadable 176 = .ok (.iload 8, 2) := dkg_X12_551.1
theorem dX12_unreadable_178 : decode cX12_unreadable 178 = .ok (.iload 6, 2) := dkg_X12_551.2.1
theorem dX12_unreadable_180 : decode cX12_unreadable 180 = .ok (.if_icmp .ge 26, 3) := dkg_X12_551.2.2.1
theorem dX12_unreadable_183 : decode cX12_unreadable 183 = .ok (.aload_n 0, 1) := dkg_X12_551.2.2.2.1
theorem dX12_unreadable_184 : decode cX12_unreadable 184 = .ok (.getfield 61, 3) := dkg_X12_551.2.2.2.2.1
theorem dX12_unreadable_187 : decode cX12_unreadable 187 = .ok (.iload 8, 2) := dkg_X12_551.2.2.2.2.2.1
theorem dX12_unreadable_189 : decode cX12_unreadable 189 = .ok (.aload_n 0, 1) := dkg_X12_551.2.2.2.2.2.2.1
theorem dX12_unreadable_190 : decode cX12_unreadable 190 = .ok (.getfield 145, 3) := dkg_X12_551.2.2.2.2.2.2.2.1
theorem dX12_unreadable_193 : decode cX12_unreadable 193 = .ok (.aload 5, 2) := dkg_X12_551.2.2.2.2.2.2.2.2.1
theorem dX12_unreadable_195 : decode cX12_unreadable 195 = .ok (.iload 8, 2) := dkg_X12_551.2.2.2.2.2.2.2.2.2.1
theorem dkg_X12_552 : dkp cX12_unreadable [(197, .iaload, 1), (198, .iaload, 1), (199, .iastore, 1), (200, .iinc 8 1, 3), (203, .goto (-27), 3), (206, .aload_n 0, 1), (207, .iload_n 1, 1), (208, .invokevirtual 425, 3), (211, .ifCond .eq 46, 3), (214, .aload_n 0, 1)] := dkf (by decide +kernel)
theorem dX12_unreadable_197 : decode cX12_unreadable 197 = .ok (.iaload, 1) := dkg_X12_552.1
theorem dX12_unreadable_198 : decode cX12_unreadable 198 = .ok (.iaload, 1) := dkg_X12_552.2.1
theorem dX12_unreadable_199 : decode cX12_unreadable 199 = .ok (.iastore, 1) := dkg_X12_552.2.2.1
theorem dX12_unreadable_200 : decode cX12_unreadable 200 = .ok (.iinc 8 1, 3) := dkg_X12_552.2.2.2.1
theorem dX12_unreadable_203 : decode cX12_unreadable 203 = .ok (.goto (-27), 3) := dkg_X12_552.2.2.2.2.1
theorem dX12_unreadable_206 : decode cX12_unreadable 206 = .ok (.aload_n 0, 1) := dkg_X12_552.2.2.2.2.2.1
theorem dX12_unreadable_207 : decode cX12_unreadable 207 = .ok (.iload_n 1, 1) := dkg_X12_552.2.2.2.2.2.2.1
theorem dX12_unreadable_208 : decode cX12_unreadable 208 = .ok (.invokevirtual 425, 3) := dkg_X12_552.2.2.2.2.2.2.2.1
theorem dX12_unreadable_211 : decode cX12_unreadable 211 = .ok (.ifCond .eq 46, 3) := dkg_X12_552.2.2.2.2.2.2.2.2.1
theorem dX12_unreadable_214 : decode cX12_unreadable 214 = .ok (.aload_n 0, 1) := dkg_X12_552.2.2.2.2.2.2.2.2.2.1
theorem dkg_X12_553 : dkp cX12_unreadable [(215, .iload 6, 2), (217, .putfield 330, 3), (220, .iconst 0, 1), (221, .istore 8, 2), (223, .iload 8, 2), (225, .iload 6, 2), (227, .if_icmp .ge 23, 3), (230, .aload_n 0, 1), (231, .getfield 126, 3), (234, .iload 8, 2)] := dkf (by decide +kernel)
theorem dX12_unreadable_215 : decode cX12_unreadable 215 = .ok (.iload 6, 2) := dkg_X12_553.1
theorem dX12_unreadable_217 : decode cX12_unreadable 217 = .ok (.putfield 330, 3) := dkg_X12_553.2.1
theorem dX12_unreadable_220 : decode cX12_unreadable 220 = .ok (.iconst 0, 1) := dkg_X12_553.2.2.1
theorem dX12_unreadable_221 : decode cX12_unreadable 221 = .ok (.istore 8, 2) := dkg_X12_553.2.2.2.1
theorem dX12_unreadable_223 : decode cX12_unreadable 223 = .ok (.iload 8, 2) := dkg_X12_553.2.2.2.2.1
theorem dX12_unreadable_225 : decode cX12_unreadable 225 = .ok (.iload 6, 2) := dkg_X12_553.2.2.2.2.2.1
theorem dX12_unreadable_227 : decode cX12_unreadable 227 = .ok (.if_icmp .ge 23, 3) := dkg_X12_553.2.2.2.2.2.2.1
theorem dX12_unreadable_230 : decode cX12_unreadable 230 = .ok (.aload_n 0, 1) := dkg_X12_553.2.2.2.2.2.2.2.1
theorem dX12_unreadable_231 : decode cX12_unreadable 231 = .ok (.getfield 126, 3) := dkg_X12_553.2.2.2.2.2.2.2.2.1
theorem dX12_unreadable_234 : decode cX12_unreadable 234 = .ok (.iload 8, 2) := dkg_X12_553.2.2.2.2.2.2.2.2.2.1
theorem dkg_X12_554 : dkp cX12_unreadable [(236, .aload_n 0, 1), (237, .getfield 61, 3), (240, .iload 8, 2), (242, .iaload, 1), (243, .iastore, 1), (244, .iinc 8 1, 3), (247, .goto (-24), 3), (250, .aload_n 0, 1), (251, .iload 6, 2), (253, .invokevirtual 158, 3)] := dkf (by decide +kernel)
theorem dX12_unreadable_236 : decode cX12_unreadable 236 = .ok (.aload_n 0, 1) := dkg_X12_554.1
theorem dX12_unreadable_237 : decode cX12_unreadable 237 = .ok (.getfield 61, 3) := dkg_X12_554.2.1
theorem dX12_unreadable_240 : decode cX12_unreadable 240 = .ok (.iload 8, 2) := dkg_X12_554.2.2.1
theorem dX12_unreadable_242 : decode cX12_unreadable 242 = .ok (.iaload, 1) := dkg_X12_554.2.2.2.1
theorem dX12_unreadable_243 : decode cX12_unreadable 243 = .ok (.iastore, 1) := dkg_X12_554.2.2.2.2.1
theorem dX12_unreadable_244 : decode cX12_unreadable 244 = .ok (.iinc 8 1, 3) := dkg_X12_554.2.2.2.2.2.1
theorem dX12_unreadable_247 : decode cX12_unreadable 247 = .ok (.goto (-24), 3) := dkg_X12_554.2.2.2.2.2.2.1
theorem dX12_unreadable_250 : decode cX12_unreadable 250 = .ok (.aload_n 0, 1) := dkg_X12_554.2.2.2.2.2.2.2.1
theorem dX12_unreadable_251 : decode cX12_unreadable 251 = .ok (.iload 6, 2) := dkg_X12_554.2.2.2.2.2.2.2.2.1
theorem dX12_unreadable_253 : decode cX12_unreadable 253 = .ok (.invokevirtual 158, 3) := dkg_X12_554.2.2.2.2.2.2.2.2.2.1
theorem dkg_X12_555 : dkp cX12_unreadable [(256, .ireturn, 1), (257, .iload 6, 2), (259, .iconst 1, 1), (260, .isub, 1), (261, .istore 8, 2), (263, .iload 8, 2), (265, .ifCond .lt 29, 3), (268, .aload 5, 2), (270, .iload 8, 2), (272, .iaload, 1)] := dkf (by decide +kernel)
theorem dX12_unreadable_256 : decode cX12_unreadable 256 = .ok (.ireturn, 1) := dkg_X12_555.1
theorem dX12_unreadable_257 : decode cX12_unreadable 257 = .ok (.iload 6, 2) := dkg_X12_555.2.1
theorem dX12_unreadable_259 : decode cX12_unreadable 259 = .ok (.iconst 1, 1) := dkg_X12_555.2.2.1
theorem dX12_unreadable_260 : decode cX12_unreadable 260 = .ok (.isub, 1) := dkg_X12_555.2.2.2.1
theorem dX12_unreadable_261 : decode cX12_unreadable 261 = .ok (.istore 8, 2) := dkg_X12_555.2.2.2.2.1
theorem dX12_unreadable_263 : decode cX12_unreadable 263 = .ok (.iload 8, 2) := dkg_X12_555.2.2.2.2.2.1
theorem dX12_unreadable_265 : decode cX12_unreadable 265 = .ok (.ifCond .lt 29, 3) := dkg_X12_555.2.2.2.2.2.2.1
theorem dX12_unreadable_268 : decode cX12_unreadable 268 = .ok (.aload 5, 2) := dkg_X12_555.2.2.2.2.2.2.2.1
theorem dX12_unreadable_270 : decode cX12_unreadable 270 = .ok (.iload 8, 2) := dkg_X12_555.2.2.2.2.2.2.2.2.1
theorem dX12_unreadable_272 : decode cX12_unreadable 272 = .ok (.iaload, 1) := dkg_X12_555.2.2.2.2.2.2.2.2.2.1
theorem dkg_X12_556 : dkp cX12_unreadable [(273, .aload_n 0, 1), (274, .getfield 413, 3), (277, .iconst 1, 1), (278, .isub, 1), (279, .if_icmp .ne 15, 3), (282, .aload 5, 2), (284, .iload 8, 2), (286, .iconst 0, 1), (287, .iastore, 1), (288, .iinc 8 (-1), 3)] := dkf (by decide +kernel)
theorem dX12_unreadable_273 : decode cX12_unreadable 273 = .ok (.aload_n 0, 1) := dkg_X12_556.1
theorem dX12_unreadable_274 : decode cX12_unreadable 274 = .ok (.getfield 413, 3) := dkg_X12_556.2.1
theorem dX12_unreadable_277 : decode cX12_unreadable 277 = .ok (.iconst 1, 1) := dkg_X12_556.2.2.1
theorem dX12_unreadable_278 : decode cX12_unreadable 278 = .ok (.isub, 1) := dkg_X12_556.2.2.2.1
theorem dX12_unreadable_279 : decode cX12_unreadable 279 = .ok (.if_icmp .ne 15, 3) := dkg_X12_556.2.2.2.2.1
theorem dX12_unreadable_282 : decode cX12_unreadable 282 = .ok (.aload 5, 2) := dkg_X12_556.2.2.2.2.2.1
theorem dX12_unreadable_284 : decode cX12_unreadable 284 = .ok (.iload 8, 2) := dkg_X12_556.2.2.2.2.2.2.1
theorem dX12_unreadable_286 : decode cX12_unreadable 286 = .ok (.iconst 0, 1) := dkg_X12_556.2.2.2.2.2.2.2.1
theorem dX12_unreadable_287 : decode cX12_unreadable 287 = .ok (.iastore, 1) := dkg_X12_556.2.2.2.2.2.2.2.2.1
theorem dX12_unreadable_288 : decode cX12_unreadable 288 = .ok (.iinc 8 (-1), 3) := dkg_X12_556.2.2.2.2.2.2.2.2.2.1
theorem dkg_X12_557 : dkp cX12_unreadable [(291, .goto (-28), 3), (294, .iload 8, 2), (296, .ifCond .lt 7, 3), (299, .iconst 1, 1), (300, .goto 4, 3), (303, .iconst 0, 1), (304, .istore 7, 2), (306, .iload 7, 2), (308, .ifCond .eq 12, 3), (311, .aload 5, 2)] := dkf (by decide +kernel)
theorem dX12_unreadable_291 : decode cX12_unreadable 291 = .ok (.goto (-28), 3) := dkg_X12_557.1
theorem dX12_unreadable_294 : decode cX12_unreadable 294 = .ok (.iload 8, 2) := dkg_X12_557.2.1
theorem dX12_unreadable_296 : decode cX12_unreadable 296 = .ok (.ifCond .lt 7, 3) := dkg_X12_557.2.2.1
theorem dX12_unreadable_299 : decode cX12_unreadable 299 = .ok (.iconst 1, 1) := dkg_X12_557.2.2.2.1
theorem dX12_unreadable_300 : decode cX12_unreadable 300 = .ok (.goto 4, 3) := dkg_X12_557.2.2.2.2.1
theorem dX12_unreadable_303 : decode cX12_unreadable 303 = .ok (.iconst 0, 1) := dkg_X12_557.2.2.2.2.2.1
theorem dX12_unreadable_304 : decode cX12_unreadable 304 = .ok (.istore 7, 2) := dkg_X12_557.2.2.2.2.2.2.1
theorem dX12_unreadable_306 : decode cX12_unreadable 306 = .ok (.iload 7, 2) := dkg_X12_557.2.2.2.2.2.2.2.1
theorem dX12_unreadable_308 : decode cX12_unreadable 308 = .ok (.ifCond .eq 12, 3) := dkg_X12_557.2.2.2.2.2.2.2.2.1
theorem dX12_unreadable_311 : decode cX12_unreadable 311 = .ok (.aload 5, 2) := dkg_X12_557.2.2.2.2.2.2.2.2.2.1
theorem dkg_X12_558 : dkp cX12_unreadable [(313, .iload 8, 2), (315, .dup2, 1), (316, .iaload, 1), (317, .iconst 1, 1), (318, .iadd, 1), (319, .iastore, 1), (320, .goto (-178), 3), (323, .iinc 6 1, 3), (326, .goto (-222), 3), (329, .aload_n 0, 1)] := dkf (by decide +kernel)
theorem dX12_unreadable_313 : decode cX12_unreadable 313 = .ok (.iload 8, 2) := dkg_X12_558.1
theorem dX12_unreadable_315 : decode cX12_unreadable 315 = .ok (.dup2, 1) := dkg_X12_558.2.1
theorem dX12_unreadable_316 : decode cX12_unreadable 316 = .ok (.iaload, 1) := dkg_X12_558.2.2.1
theorem dX12_unreadable_317 : decode cX12_unreadable 317 = .ok (.iconst 1, 1) := dkg_X12_558.2.2.2.1
theorem dX12_unreadable_318 : decode cX12_unreadable 318 = .ok (.iadd, 1) := dkg_X12_558.2.2.2.2.1
theorem dX12_unreadable_319 : decode cX12_unreadable 319 = .ok (.iastore, 1) := dkg_X12_558.2.2.2.2.2.1
theorem dX12_unreadable_320 : decode cX12_unreadable 320 = .ok (.goto (-178), 3) := dkg_X12_558.2.2.2.2.2.2.1
theorem dX12_unreadable_323 : decode cX12_unreadable 323 = .ok (.iinc 6 1, 3) := dkg_X12_558.2.2.2.2.2.2.2.1
theorem dX12_unreadable_326 : decode cX12_unreadable 326 = .ok (.goto (-222), 3) := dkg_X12_558.2.2.2.2.2.2.2.2.1
theorem dX12_unreadable_329 : decode cX12_unreadable 329 = .ok (.aload_n 0, 1) := dkg_X12_558.2.2.2.2.2.2.2.2.2.1
theorem dkg_X12_559 : dkp cX12_unreadable [(330, .invokevirtual 422, 3), (333, .aload_n 0, 1), (334, .iconst 0, 1), (335, .invokevirtual 158, 3), (338, .ireturn, 1)] := dkf (by decide +kernel)
theorem dX12_unreadable_330 : decode cX12_unreadable 330 = .ok (.invokevirtual 422, 3) := dkg_X12_559.1
theorem dX12_unreadable_333 : decode cX12_unreadable 333 = .ok (.aload_n 0, 1) := dkg_X12_559.2.1
theorem dX12_unreadable_334 : decode cX12_unreadable 334 = .ok (.iconst 0, 1) := dkg_X12_559.2.2.1
theorem dX12_unreadable_335 : decode cX12_unreadable 335 = .ok (.invokevirtual 158, 3) := dkg_X12_559.2.2.2.1
theorem dX12_unreadable_338 : decode cX12_unreadable 338 = .ok (.ireturn, 1) := dkg_X12_559.2.2.2.2.1
theorem dkg_X12_560 : dkp cX12_unreadable [(97, .newarray .int, 2)] := dkq (by decide +kernel)
theorem dX12_unreadable_97 : decode cX12_unreadable 97 = .ok (.newarray .int, 2) := dkg_X12_560.1
theorem dkg_X12_561 : dkp cX12_putBack [(0, .aload_n 0, 1), (1, .aload_n 0, 1), (2, .getfield 419, 3), (5, .putfield 330, 3), (8, .iconst 0, 1), (9, .istore_n 1, 1), (10, .iload_n 1, 1), (11, .aload_n 0, 1), (12, .getfield 330, 3), (15, .if_icmp .ge 21, 3)] := dkf (by decide +kernel)
theorem dX12_putBack_0 : decode cX12_putBack 0 = .ok (.aload_n 0, 1) := dkg_X12_561.1
theorem dX12_putBack_1 : decode cX12_putBack 1 = .ok (.aload_n 0, 1) := dkg_X12_561.2.1
theorem dX12_putBack_2 : decode cX12_putBack 2 = .ok (.getfield 419, 3) := dkg_X12_561.2.2.1
theorem dX12_putBack_5 : decode cX12_putBack 5 = .ok (.putfield 330, 3) := dkg_X12_561.2.2.2.1
theorem dX12_putBack_8 : decode cX12_putBack 8 = .ok (.iconst 0, 1) := dkg_X12_561.2.2.2.2.1
theorem dX12_putBack_9 : decode cX12_putBack 9 = .ok (.istore_n 1, 1) := dkg_X12_561.2.2.2.2.2.1
theorem dX12_putBack_10 : decode cX12_putBack 10 = .ok (.iload_n 1, 1) := dkg_X12_561.2.2.2.2.2.2.1
theorem dX12_putBack_11 : decode cX12_putBack 11 = .ok (.aload_n 0, 1) := dkg_X12_561.2.2.2.2.2.2.2.1
theorem dX12_putBack_12 : decode cX12_putBack 12 = .ok (.getfield 330, 3) := dkg_X12_561.2.2.2.2.2.2.2.2.1
theorem dX12_putBack_15 : decode cX12_putBack 15 = .ok (.if_icmp .ge 21, 3) := dkg_X12_561.2.2.2.2.2.2.2.2.2.1
theorem dkg_X12_562 : dkp cX12_putBack [(18, .aload_n 0, 1), (19, .getfield 126, 3), (22, .iload_n 1, 1), (23, .aload_n 0, 1), (24, .getfield 129, 3), (27, .iload_n 1, 1), (28, .iaload, 1), (29, .iastore, 1), (30, .iinc 1 1, 3), (33, .goto (-23), 3)] := dkf (by decide +kernel)
theorem dX12_putBack_18 : decode cX12_putBack 18 = .ok (.aload_n 0, 1) := dkg_X12_562.1
theorem dX12_putBack_19 : decode cX12_putBack 19 = .ok (.getfield 126, 3) := dkg_X12_562.2.1
theorem dX12_putBack_22 : decode cX12_putBack 22 = .ok (.iload_n 1, 1) := dkg_X12_562.2.2.1
theorem dX12_putBack_23 : decode cX12_putBack 23 = .ok (.aload_n 0, 1) := dkg_X12_562.2.2.2.1
theorem dX12_putBack_24 : decode cX12_putBack 24 = .ok (.getfield 129, 3) := dkg_X12_562.2.2.2.2.1
theorem dX12_putBack_27 : decode cX12_putBack 27 = .ok (.iload_n 1, 1) := dkg_X12_562.2.2.2.2.2.1
theorem dX12_putBack_28 : decode cX12_putBack 28 = .ok (.iaload, 1) := dkg_X12_562.2.2.2.2.2.2.1
theorem dX12_putBack_29 : decode cX12_putBack 29 = .ok (.iastore, 1) := dkg_X12_562.2.2.2.2.2.2.2.1
theorem dX12_putBack_30 : decode cX12_putBack 30 = .ok (.iinc 1 1, 3) := dkg_X12_562.2.2.2.2.2.2.2.2.1
theorem dX12_putBack_33 : decode cX12_putBack 33 = .ok (.goto (-23), 3) := dkg_X12_562.2.2.2.2.2.2.2.2.2.1
theorem dkg_X12_563 : dkp cX12_putBack [(36, .return_, 1)] := dkf (by decide +kernel)
theorem dX12_putBack_36 : decode cX12_putBack 36 = .ok (.return_, 1) := dkg_X12_563.1
theorem dkg_X12_564 : dkp cX12_place [(0, .aload_n 0, 1), (1, .getfield 9, 3), (4, .ireturn, 1)] := dkf (by decide +kernel)
theorem dX12_place_0 : decode cX12_place 0 = .ok (.aload_n 0, 1) := dkg_X12_564.1
theorem dX12_place_1 : decode cX12_place 1 = .ok (.getfield 9, 3) := dkg_X12_564.2.1
theorem dX12_place_4 : decode cX12_place 4 = .ok (.ireturn, 1) := dkg_X12_564.2.2.1
theorem dkg_X12_565 : dkp cX12_status [(0, .aload_n 0, 1), (1, .getfield 148, 3), (4, .ireturn, 1)] := dkf (by decide +kernel)
theorem dX12_status_0 : decode cX12_status 0 = .ok (.aload_n 0, 1) := dkg_X12_565.1
theorem dX12_status_1 : decode cX12_status 1 = .ok (.getfield 148, 3) := dkg_X12_565.2.1
theorem dX12_status_4 : decode cX12_status 4 = .ok (.ireturn, 1) := dkg_X12_565.2.2.1
theorem dkg_X12_566 : dkp cX12_digest [(0, .sipush 527, 3), (3, .aload_n 0, 1), (4, .getfield 279, 3), (7, .iadd, 1), (8, .istore_n 1, 1), (9, .iconst 0, 1), (10, .istore_n 2, 1), (11, .iload_n 2, 1), (12, .aload_n 0, 1), (13, .getfield 279, 3)] := dkf (by decide +kernel)
theorem dX12_digest_0 : decode cX12_digest 0 = .ok (.sipush 527, 3) := dkg_X12_566.1
theorem dX12_digest_3 : decode cX12_digest 3 = .ok (.aload_n 0, 1) := dkg_X12_566.2.1
theorem dX12_digest_4 : decode cX12_digest 4 = .ok (.getfield 279, 3) := dkg_X12_566.2.2.1
theorem dX12_digest_7 : decode cX12_digest 7 = .ok (.iadd, 1) := dkg_X12_566.2.2.2.1
theorem dX12_digest_8 : decode cX12_digest 8 = .ok (.istore_n 1, 1) := dkg_X12_566.2.2.2.2.1
theorem dX12_digest_9 : decode cX12_digest 9 = .ok (.iconst 0, 1) := dkg_X12_566.2.2.2.2.2.1
theorem dX12_digest_10 : decode cX12_digest 10 = .ok (.istore_n 2, 1) := dkg_X12_566.2.2.2.2.2.2.1
theorem dX12_digest_11 : decode cX12_digest 11 = .ok (.iload_n 2, 1) := dkg_X12_566.2.2.2.2.2.2.2.1
theorem dX12_digest_12 : decode cX12_digest 12 = .ok (.aload_n 0, 1) := dkg_X12_566.2.2.2.2.2.2.2.2.1
theorem dX12_digest_13 : decode cX12_digest 13 = .ok (.getfield 279, 3) := dkg_X12_566.2.2.2.2.2.2.2.2.2.1
theorem dkg_X12_567 : dkp cX12_digest [(16, .if_icmp .ge 57, 3), (19, .iload_n 1, 1), (20, .bipush 31, 2), (22, .imul, 1), (23, .aload_n 0, 1), (24, .getfield 91, 3), (27, .iload_n 2, 1), (28, .iaload, 1), (29, .iadd, 1), (30, .istore_n 1, 1)] := dkf (by decide +kernel)
theorem dX12_digest_16 : decode cX12_digest 16 = .ok (.if_icmp .ge 57, 3) := dkg_X12_567.1
theorem dX12_digest_19 : decode cX12_digest 19 = .ok (.iload_n 1, 1) := dkg_X12_567.2.1
theorem dX12_digest_20 : decode cX12_digest 20 = .ok (.bipush 31, 2) := dkg_X12_567.2.2.1
theorem dX12_digest_22 : decode cX12_digest 22 = .ok (.imul, 1) := dkg_X12_567.2.2.2.1
theorem dX12_digest_23 : decode cX12_digest 23 = .ok (.aload_n 0, 1) := dkg_X12_567.2.2.2.2.1
theorem dX12_digest_24 : decode cX12_digest 24 = .ok (.getfield 91, 3) := dkg_X12_567.2.2.2.2.2.1
theorem dX12_digest_27 : decode cX12_digest 27 = .ok (.iload_n 2, 1) := dkg_X12_567.2.2.2.2.2.2.1
theorem dX12_digest_28 : decode cX12_digest 28 = .ok (.iaload, 1) := dkg_X12_567.2.2.2.2.2.2.2.1
theorem dX12_digest_29 : decode cX12_digest 29 = .ok (.iadd, 1) := dkg_X12_567.2.2.2.2.2.2.2.2.1
theorem dX12_digest_30 : decode cX12_digest 30 = .ok (.istore_n 1, 1) := dkg_X12_567.2.2.2.2.2.2.2.2.2.1
theorem dkg_X12_568 : dkp cX12_digest [(31, .iconst 0, 1), (32, .istore_n 3, 1), (33, .iload_n 3, 1), (34, .aload_n 0, 1), (35, .getfield 91, 3), (38, .iload_n 2, 1), (39, .iaload, 1), (40, .if_icmp .ge 27, 3), (43, .iload_n 1, 1), (44, .bipush 31, 2)] := dkf (by decide +kernel)
theorem dX12_digest_31 : decode cX12_digest 31 = .ok (.iconst 0, 1) := dkg_X12_568.1
theorem dX12_digest_32 : decode cX12_digest 32 = .ok (.istore_n 3, 1) := dkg_X12_568.2.1
theorem dX12_digest_33 : decode cX12_digest 33 = .ok (.iload_n 3, 1) := dkg_X12_568.2.2.1
theorem dX12_digest_34 : decode cX12_digest 34 = .ok (.aload_n 0, 1) := dkg_X12_568.2.2.2.1
theorem dX12_digest_35 : decode cX12_digest 35 = .ok (.getfield 91, 3) := dkg_X12_568.2.2.2.2.1
theorem dX12_digest_38 : decode cX12_digest 38 = .ok (.iload_n 2, 1) := dkg_X12_568.2.2.2.2.2.1
theorem dX12_digest_39 : decode cX12_digest 39 = .ok (.iaload, 1) := dkg_X12_568.2.2.2.2.2.2.1
theorem dX12_digest_40 : decode cX12_digest 40 = .ok (.if_icmp .ge 27, 3) := dkg_X12_568.2.2.2.2.2.2.2.1
theorem dX12_digest_43 : decode cX12_digest 43 = .ok (.iload_n 1, 1) := dkg_X12_568.2.2.2.2.2.2.2.2.1
theorem dX12_digest_44 : decode cX12_digest 44 = .ok (.bipush 31, 2) := dkg_X12_568.2.2.2.2.2.2.2.2.2.1
theorem dkg_X12_569 : dkp cX12_digest [(46, .imul, 1), (47, .aload_n 0, 1), (48, .getfield 95, 3), (51, .sipush 200, 3), (54, .iload_n 2, 1), (55, .imul, 1), (56, .iload_n 3, 1), (57, .iadd, 1), (58, .iaload, 1), (59, .iadd, 1)] := dkf (by decide +kernel)
theorem dX12_digest_46 : decode cX12_digest 46 = .ok (.imul, 1) := dkg_X12_569.1
theorem dX12_digest_47 : decode cX12_digest 47 = .ok (.aload_n 0, 1) := dkg_X12_569.2.1
theorem dX12_digest_48 : decode cX12_digest 48 = .ok (.getfield 95, 3) := dkg_X12_569.2.2.1
theorem dX12_digest_51 : decode cX12_digest 51 = .ok (.sipush 200, 3) := dkg_X12_569.2.2.2.1
theorem dX12_digest_54 : decode cX12_digest 54 = .ok (.iload_n 2, 1) := dkg_X12_569.2.2.2.2.1
theorem dX12_digest_55 : decode cX12_digest 55 = .ok (.imul, 1) := dkg_X12_569.2.2.2.2.2.1
theorem dX12_digest_56 : decode cX12_digest 56 = .ok (.iload_n 3, 1) := dkg_X12_569.2.2.2.2.2.2.1
theorem dX12_digest_57 : decode cX12_digest 57 = .ok (.iadd, 1) := dkg_X12_569.2.2.2.2.2.2.2.1
theorem dX12_digest_58 : decode cX12_digest 58 = .ok (.iaload, 1) := dkg_X12_569.2.2.2.2.2.2.2.2.1
theorem dX12_digest_59 : decode cX12_digest 59 = .ok (.iadd, 1) := dkg_X12_569.2.2.2.2.2.2.2.2.2.1
theorem dkg_X12_570 : dkp cX12_digest [(60, .istore_n 1, 1), (61, .iinc 3 1, 3), (64, .goto (-31), 3), (67, .iinc 2 1, 3), (70, .goto (-59), 3), (73, .iload_n 1, 1), (74, .bipush 31, 2), (76, .imul, 1), (77, .aload_n 0, 1), (78, .getfield 330, 3)] := dkf (by decide +kernel)
theorem dX12_digest_60 : decode cX12_digest 60 = .ok (.istore_n 1, 1) := dkg_X12_570.1
theorem dX12_digest_61 : decode cX12_digest 61 = .ok (.iinc 3 1, 3) := dkg_X12_570.2.1
theorem dX12_digest_64 : decode cX12_digest 64 = .ok (.goto (-31), 3) := dkg_X12_570.2.2.1
theorem dX12_digest_67 : decode cX12_digest 67 = .ok (.iinc 2 1, 3) := dkg_X12_570.2.2.2.1
theorem dX12_digest_70 : decode cX12_digest 70 = .ok (.goto (-59), 3) := dkg_X12_570.2.2.2.2.1
theorem dX12_digest_73 : decode cX12_digest 73 = .ok (.iload_n 1, 1) := dkg_X12_570.2.2.2.2.2.1
theorem dX12_digest_74 : decode cX12_digest 74 = .ok (.bipush 31, 2) := dkg_X12_570.2.2.2.2.2.2.1
theorem dX12_digest_76 : decode cX12_digest 76 = .ok (.imul, 1) := dkg_X12_570.2.2.2.2.2.2.2.1
theorem dX12_digest_77 : decode cX12_digest 77 = .ok (.aload_n 0, 1) := dkg_X12_570.2.2.2.2.2.2.2.2.1
theorem dX12_digest_78 : decode cX12_digest 78 = .ok (.getfield 330, 3) := dkg_X12_570.2.2.2.2.2.2.2.2.2.1
theorem dkg_X12_571 : dkp cX12_digest [(81, .iadd, 1), (82, .istore_n 1, 1), (83, .iconst 0, 1), (84, .istore_n 2, 1), (85, .iload_n 2, 1), (86, .aload_n 0, 1), (87, .getfield 330, 3), (90, .if_icmp .ge 21, 3), (93, .iload_n 1, 1), (94, .bipush 31, 2)] := dkf (by decide +kernel)
theorem dX12_digest_81 : decode cX12_digest 81 = .ok (.iadd, 1) := dkg_X12_571.1
theorem dX12_digest_82 : decode cX12_digest 82 = .ok (.istore_n 1, 1) := dkg_X12_571.2.1
theorem dX12_digest_83 : decode cX12_digest 83 = .ok (.iconst 0, 1) := dkg_X12_571.2.2.1
theorem dX12_digest_84 : decode cX12_digest 84 = .ok (.istore_n 2, 1) := dkg_X12_571.2.2.2.1
theorem dX12_digest_85 : decode cX12_digest 85 = .ok (.iload_n 2, 1) := dkg_X12_571.2.2.2.2.1
theorem dX12_digest_86 : decode cX12_digest 86 = .ok (.aload_n 0, 1) := dkg_X12_571.2.2.2.2.2.1
theorem dX12_digest_87 : decode cX12_digest 87 = .ok (.getfield 330, 3) := dkg_X12_571.2.2.2.2.2.2.1
theorem dX12_digest_90 : decode cX12_digest 90 = .ok (.if_icmp .ge 21, 3) := dkg_X12_571.2.2.2.2.2.2.2.1
theorem dX12_digest_93 : decode cX12_digest 93 = .ok (.iload_n 1, 1) := dkg_X12_571.2.2.2.2.2.2.2.2.1
theorem dX12_digest_94 : decode cX12_digest 94 = .ok (.bipush 31, 2) := dkg_X12_571.2.2.2.2.2.2.2.2.2.1
theorem dkg_X12_572 : dkp cX12_digest [(96, .imul, 1), (97, .aload_n 0, 1), (98, .getfield 126, 3), (101, .iload_n 2, 1), (102, .iaload, 1), (103, .iadd, 1), (104, .istore_n 1, 1), (105, .iinc 2 1, 3), (108, .goto (-23), 3), (111, .iconst 0, 1)] := dkf (by decide +kernel)
theorem dX12_digest_96 : decode cX12_digest 96 = .ok (.imul, 1) := dkg_X12_572.1
theorem dX12_digest_97 : decode cX12_digest 97 = .ok (.aload_n 0, 1) := dkg_X12_572.2.1
theorem dX12_digest_98 : decode cX12_digest 98 = .ok (.getfield 126, 3) := dkg_X12_572.2.2.1
theorem dX12_digest_101 : decode cX12_digest 101 = .ok (.iload_n 2, 1) := dkg_X12_572.2.2.2.1
theorem dX12_digest_102 : decode cX12_digest 102 = .ok (.iaload, 1) := dkg_X12_572.2.2.2.2.1
theorem dX12_digest_103 : decode cX12_digest 103 = .ok (.iadd, 1) := dkg_X12_572.2.2.2.2.2.1
theorem dX12_digest_104 : decode cX12_digest 104 = .ok (.istore_n 1, 1) := dkg_X12_572.2.2.2.2.2.2.1
theorem dX12_digest_105 : decode cX12_digest 105 = .ok (.iinc 2 1, 3) := dkg_X12_572.2.2.2.2.2.2.2.1
theorem dX12_digest_108 : decode cX12_digest 108 = .ok (.goto (-23), 3) := dkg_X12_572.2.2.2.2.2.2.2.2.1
theorem dX12_digest_111 : decode cX12_digest 111 = .ok (.iconst 0, 1) := dkg_X12_572.2.2.2.2.2.2.2.2.2.1
theorem dkg_X12_573 : dkp cX12_digest [(112, .istore_n 2, 1), (113, .iload_n 2, 1), (114, .iconst 5, 1), (115, .if_icmp .ge 21, 3), (118, .iload_n 1, 1), (119, .bipush 31, 2), (121, .imul, 1), (122, .aload_n 0, 1), (123, .getfield 76, 3), (126, .iload_n 2, 1)] := dkf (by decide +kernel)
theorem dX12_digest_112 : decode cX12_digest 112 = .ok (.istore_n 2, 1) := dkg_X12_573.1
theorem dX12_digest_113 : decode cX12_digest 113 = .ok (.iload_n 2, 1) := dkg_X12_573.2.1
theorem dX12_digest_114 : decode cX12_digest 114 = .ok (.iconst 5, 1) := dkg_X12_573.2.2.1
theorem dX12_digest_115 : decode cX12_digest 115 = .ok (.if_icmp .ge 21, 3) := dkg_X12_573.2.2.2.1
theorem dX12_digest_118 : decode cX12_digest 118 = .ok (.iload_n 1, 1) := dkg_X12_573.2.2.2.2.1
theorem dX12_digest_119 : decode cX12_digest 119 = .ok (.bipush 31, 2) := dkg_X12_573.2.2.2.2.2.1
theorem dX12_digest_121 : decode cX12_digest 121 = .ok (.imul, 1) := dkg_X12_573.2.2.2.2.2.2.1
theorem dX12_digest_122 : decode cX12_digest 122 = .ok (.aload_n 0, 1) := dkg_X12_573.2.2.2.2.2.2.2.1
theorem dX12_digest_123 : decode cX12_digest 123 = .ok (.getfield 76, 3) := dkg_X12_573.2.2.2.2.2.2.2.2.1
theorem dX12_digest_126 : decode cX12_digest 126 = .ok (.iload_n 2, 1) := dkg_X12_573.2.2.2.2.2.2.2.2.2.1
theorem dkg_X12_574 : dkp cX12_digest [(127, .iaload, 1), (128, .iadd, 1), (129, .istore_n 1, 1), (130, .iinc 2 1, 3), (133, .goto (-20), 3), (136, .iload_n 1, 1), (137, .bipush 31, 2), (139, .imul, 1), (140, .aload_n 0, 1), (141, .getfield 303, 3)] := dkf (by decide +kernel)
theorem dX12_digest_127 : decode cX12_digest 127 = .ok (.iaload, 1) := dkg_X12_574.1
theorem dX12_digest_128 : decode cX12_digest 128 = .ok (.iadd, 1) := dkg_X12_574.2.1
theorem dX12_digest_129 : decode cX12_digest 129 = .ok (.istore_n 1, 1) := dkg_X12_574.2.2.1
theorem dX12_digest_130 : decode cX12_digest 130 = .ok (.iinc 2 1, 3) := dkg_X12_574.2.2.2.1
theorem dX12_digest_133 : decode cX12_digest 133 = .ok (.goto (-20), 3) := dkg_X12_574.2.2.2.2.1
theorem dX12_digest_136 : decode cX12_digest 136 = .ok (.iload_n 1, 1) := dkg_X12_574.2.2.2.2.2.1
theorem dX12_digest_137 : decode cX12_digest 137 = .ok (.bipush 31, 2) := dkg_X12_574.2.2.2.2.2.2.1
theorem dX12_digest_139 : decode cX12_digest 139 = .ok (.imul, 1) := dkg_X12_574.2.2.2.2.2.2.2.1
theorem dX12_digest_140 : decode cX12_digest 140 = .ok (.aload_n 0, 1) := dkg_X12_574.2.2.2.2.2.2.2.2.1
theorem dX12_digest_141 : decode cX12_digest 141 = .ok (.getfield 303, 3) := dkg_X12_574.2.2.2.2.2.2.2.2.2.1
theorem dkg_X12_575 : dkp cX12_digest [(144, .iadd, 1), (145, .bipush 31, 2), (147, .imul, 1), (148, .aload_n 0, 1), (149, .getfield 306, 3), (152, .iadd, 1), (153, .ireturn, 1)] := dkf (by decide +kernel)
theorem dX12_digest_144 : decode cX12_digest 144 = .ok (.iadd, 1) := dkg_X12_575.1
theorem dX12_digest_145 : decode cX12_digest 145 = .ok (.bipush 31, 2) := dkg_X12_575.2.1
theorem dX12_digest_147 : decode cX12_digest 147 = .ok (.imul, 1) := dkg_X12_575.2.2.1
theorem dX12_digest_148 : decode cX12_digest 148 = .ok (.aload_n 0, 1) := dkg_X12_575.2.2.2.1
theorem dX12_digest_149 : decode cX12_digest 149 = .ok (.getfield 306, 3) := dkg_X12_575.2.2.2.2.1
theorem dX12_digest_152 : decode cX12_digest 152 = .ok (.iadd, 1) := dkg_X12_575.2.2.2.2.2.1
theorem dX12_digest_153 : decode cX12_digest 153 = .ok (.ireturn, 1) := dkg_X12_575.2.2.2.2.2.2.1
