theorem dkg_X11_0 : dkp cX11_init [(0, .aload_n 0, 1), (1, .invokespecial 1, 3), (4, .aload_n 0, 1), (5, .new 7, 3), (8, .dup, 1), (9, .sipush 3000, 3), (12, .invokespecial 11, 3), (15, .putfield 14, 3), (18, .aload_n 0, 1), (19, .new 7, 3)] := dkf (by decide +kernel)
theorem dX11_init_0 : decode cX11_init 0 = .ok (.aload_n 0, 1) := dkg_X11_0.1
theorem dX11_init_1 : decode cX11_init 1 = .ok (.invokespecial 1, 3) := dkg_X11_0.2.1
theorem dX11_init_4 : decode cX11_init 4 = .ok (.aload_n 0, 1) := dkg_X11_0.2.2.1
theorem dX11_init_5 : decode cX11_init 5 = .ok (.new 7, 3) := dkg_X11_0.2.2.2.1
theorem dX11_init_8 : decode cX11_init 8 = .ok (.dup, 1) := dkg_X11_0.2.2.2.2.1
theorem dX11_init_9 : decode cX11_init 9 = .ok (.sipush 3000, 3) := dkg_X11_0.2.2.2.2.2.1
theorem dX11_init_12 : decode cX11_init 12 = .ok (.invokespecial 11, 3) := dkg_X11_0.2.2.2.2.2.2.1
theorem dX11_init_15 : decode cX11_init 15 = .ok (.putfield 14, 3) := dkg_X11_0.2.2.2.2.2.2.2.1
theorem dX11_init_18 : decode cX11_init 18 = .ok (.aload_n 0, 1) := dkg_X11_0.2.2.2.2.2.2.2.2.1
theorem dX11_init_19 : decode cX11_init 19 = .ok (.new 7, 3) := dkg_X11_0.2.2.2.2.2.2.2.2.2.1
theorem dkg_X11_1 : dkp cX11_init [(22, .dup, 1), (23, .sipush 500, 3), (26, .invokespecial 11, 3), (29, .putfield 18, 3), (32, .aload_n 0, 1), (33, .new 7, 3), (36, .dup, 1), (37, .sipush 4000, 3), (40, .invokespecial 11, 3), (43, .putfield 21, 3)] := dkf (by decide +kernel)
theorem dX11_init_22 : decode cX11_init 22 = .ok (.dup, 1) := dkg_X11_1.1
theorem dX11_init_23 : decode cX11_init 23 = .ok (.sipush 500, 3) := dkg_X11_1.2.1
theorem dX11_init_26 : decode cX11_init 26 = .ok (.invokespecial 11, 3) := dkg_X11_1.2.2.1
theorem dX11_init_29 : decode cX11_init 29 = .ok (.putfield 18, 3) := dkg_X11_1.2.2.2.1
theorem dX11_init_32 : decode cX11_init 32 = .ok (.aload_n 0, 1) := dkg_X11_1.2.2.2.2.1
theorem dX11_init_33 : decode cX11_init 33 = .ok (.new 7, 3) := dkg_X11_1.2.2.2.2.2.1
theorem dX11_init_36 : decode cX11_init 36 = .ok (.dup, 1) := dkg_X11_1.2.2.2.2.2.2.1
theorem dX11_init_37 : decode cX11_init 37 = .ok (.sipush 4000, 3) := dkg_X11_1.2.2.2.2.2.2.2.1
theorem dX11_init_40 : decode cX11_init 40 = .ok (.invokespecial 11, 3) := dkg_X11_1.2.2.2.2.2.2.2.2.1
theorem dX11_init_43 : decode cX11_init 43 = .ok (.putfield 21, 3) := dkg_X11_1.2.2.2.2.2.2.2.2.2.1
theorem dkg_X11_2 : dkp cX11_init [(46, .aload_n 0, 1), (47, .new 7, 3), (50, .dup, 1), (51, .sipush 200, 3), (54, .invokespecial 11, 3), (57, .putfield 24, 3), (60, .aload_n 0, 1), (61, .new 27, 3), (64, .dup, 1), (65, .invokespecial 29, 3)] := dkf (by decide +kernel)
theorem dX11_init_46 : decode cX11_init 46 = .ok (.aload_n 0, 1) := dkg_X11_2.1
theorem dX11_init_47 : decode cX11_init 47 = .ok (.new 7, 3) := dkg_X11_2.2.1
theorem dX11_init_50 : decode cX11_init 50 = .ok (.dup, 1) := dkg_X11_2.2.2.1
theorem dX11_init_51 : decode cX11_init 51 = .ok (.sipush 200, 3) := dkg_X11_2.2.2.2.1
theorem dX11_init_54 : decode cX11_init 54 = .ok (.invokespecial 11, 3) := dkg_X11_2.2.2.2.2.1
theorem dX11_init_57 : decode cX11_init 57 = .ok (.putfield 24, 3) := dkg_X11_2.2.2.2.2.2.1
theorem dX11_init_60 : decode cX11_init 60 = .ok (.aload_n 0, 1) := dkg_X11_2.2.2.2.2.2.2.1
theorem dX11_init_61 : decode cX11_init 61 = .ok (.new 27, 3) := dkg_X11_2.2.2.2.2.2.2.2.1
theorem dX11_init_64 : decode cX11_init 64 = .ok (.dup, 1) := dkg_X11_2.2.2.2.2.2.2.2.2.1
theorem dX11_init_65 : decode cX11_init 65 = .ok (.invokespecial 29, 3) := dkg_X11_2.2.2.2.2.2.2.2.2.2.1
theorem dkg_X11_3 : dkp cX11_init [(68, .putfield 30, 3), (71, .aload_n 0, 1), (72, .new 34, 3), (75, .dup, 1), (76, .invokespecial 36, 3), (79, .putfield 37, 3), (82, .aload_n 0, 1), (83, .new 41, 3), (86, .dup, 1), (87, .invokespecial 43, 3)] := dkf (by decide +kernel)
theorem dX11_init_68 : decode cX11_init 68 = .ok (.putfield 30, 3) := dkg_X11_3.1
theorem dX11_init_71 : decode cX11_init 71 = .ok (.aload_n 0, 1) := dkg_X11_3.2.1
theorem dX11_init_72 : decode cX11_init 72 = .ok (.new 34, 3) := dkg_X11_3.2.2.1
theorem dX11_init_75 : decode cX11_init 75 = .ok (.dup, 1) := dkg_X11_3.2.2.2.1
theorem dX11_init_76 : decode cX11_init 76 = .ok (.invokespecial 36, 3) := dkg_X11_3.2.2.2.2.1
theorem dX11_init_79 : decode cX11_init 79 = .ok (.putfield 37, 3) := dkg_X11_3.2.2.2.2.2.1
theorem dX11_init_82 : decode cX11_init 82 = .ok (.aload_n 0, 1) := dkg_X11_3.2.2.2.2.2.2.1
theorem dX11_init_83 : decode cX11_init 83 = .ok (.new 41, 3) := dkg_X11_3.2.2.2.2.2.2.2.1
theorem dX11_init_86 : decode cX11_init 86 = .ok (.dup, 1) := dkg_X11_3.2.2.2.2.2.2.2.2.1
theorem dX11_init_87 : decode cX11_init 87 = .ok (.invokespecial 43, 3) := dkg_X11_3.2.2.2.2.2.2.2.2.2.1
theorem dkg_X11_4 : dkp cX11_init [(90, .putfield 44, 3), (93, .aload_n 0, 1), (94, .new 48, 3), (97, .dup, 1), (98, .invokespecial 50, 3), (101, .putfield 51, 3), (104, .aload_n 0, 1), (105, .new 55, 3), (108, .dup, 1), (109, .aload_n 0, 1)] := dkf (by decide +kernel)
theorem dX11_init_90 : decode cX11_init 90 = .ok (.putfield 44, 3) := dkg_X11_4.1
theorem dX11_init_93 : decode cX11_init 93 = .ok (.aload_n 0, 1) := dkg_X11_4.2.1
theorem dX11_init_94 : decode cX11_init 94 = .ok (.new 48, 3) := dkg_X11_4.2.2.1
theorem dX11_init_97 : decode cX11_init 97 = .ok (.dup, 1) := dkg_X11_4.2.2.2.1
theorem dX11_init_98 : decode cX11_init 98 = .ok (.invokespecial 50, 3) := dkg_X11_4.2.2.2.2.1
theorem dX11_init_101 : decode cX11_init 101 = .ok (.putfield 51, 3) := dkg_X11_4.2.2.2.2.2.1
theorem dX11_init_104 : decode cX11_init 104 = .ok (.aload_n 0, 1) := dkg_X11_4.2.2.2.2.2.2.1
theorem dX11_init_105 : decode cX11_init 105 = .ok (.new 55, 3) := dkg_X11_4.2.2.2.2.2.2.2.1
theorem dX11_init_108 : decode cX11_init 108 = .ok (.dup, 1) := dkg_X11_4.2.2.2.2.2.2.2.2.1
theorem dX11_init_109 : decode cX11_init 109 = .ok (.aload_n 0, 1) := dkg_X11_4.2.2.2.2.2.2.2.2.2.1
theorem dkg_X11_5 : dkp cX11_init [(110, .getfield 51, 3), (113, .invokespecial 57, 3), (116, .putfield 60, 3), (119, .aload_n 0, 1), (120, .new 64, 3), (123, .dup, 1), (124, .invokespecial 66, 3), (127, .putfield 67, 3), (130, .aload_n 0, 1), (131, .new 64, 3)] := dkf (by decide +kernel)
theorem dX11_init_110 : decode cX11_init 110 = .ok (.getfield 51, 3) := dkg_X11_5.1
theorem dX11_init_113 : decode cX11_init 113 = .ok (.invokespecial 57, 3) := dkg_X11_5.2.1
theorem dX11_init_116 : decode cX11_init 116 = .ok (.putfield 60, 3) := dkg_X11_5.2.2.1
theorem dX11_init_119 : decode cX11_init 119 = .ok (.aload_n 0, 1) := dkg_X11_5.2.2.2.1
theorem dX11_init_120 : decode cX11_init 120 = .ok (.new 64, 3) := dkg_X11_5.2.2.2.2.1
theorem dX11_init_123 : decode cX11_init 123 = .ok (.dup, 1) := dkg_X11_5.2.2.2.2.2.1
theorem dX11_init_124 : decode cX11_init 124 = .ok (.invokespecial 66, 3) := dkg_X11_5.2.2.2.2.2.2.1
theorem dX11_init_127 : decode cX11_init 127 = .ok (.putfield 67, 3) := dkg_X11_5.2.2.2.2.2.2.2.1
theorem dX11_init_130 : decode cX11_init 130 = .ok (.aload_n 0, 1) := dkg_X11_5.2.2.2.2.2.2.2.2.1
theorem dX11_init_131 : decode cX11_init 131 = .ok (.new 64, 3) := dkg_X11_5.2.2.2.2.2.2.2.2.2.1
theorem dkg_X11_6 : dkp cX11_init [(134, .dup, 1), (135, .invokespecial 66, 3), (138, .putfield 71, 3), (141, .aload_n 0, 1), (142, .bipush 32, 2), (144, .putfield 74, 3), (147, .aload_n 0, 1), (148, .bipush 25, 2), (150, .putfield 78, 3), (153, .aload_n 0, 1)] := dkf (by decide +kernel)
theorem dX11_init_134 : decode cX11_init 134 = .ok (.dup, 1) := dkg_X11_6.1
theorem dX11_init_135 : decode cX11_init 135 = .ok (.invokespecial 66, 3) := dkg_X11_6.2.1
theorem dX11_init_138 : decode cX11_init 138 = .ok (.putfield 71, 3) := dkg_X11_6.2.2.1
theorem dX11_init_141 : decode cX11_init 141 = .ok (.aload_n 0, 1) := dkg_X11_6.2.2.2.1
theorem dX11_init_142 : decode cX11_init 142 = .ok (.bipush 32, 2) := dkg_X11_6.2.2.2.2.1
theorem dX11_init_144 : decode cX11_init 144 = .ok (.putfield 74, 3) := dkg_X11_6.2.2.2.2.2.1
theorem dX11_init_147 : decode cX11_init 147 = .ok (.aload_n 0, 1) := dkg_X11_6.2.2.2.2.2.2.1
theorem dX11_init_148 : decode cX11_init 148 = .ok (.bipush 25, 2) := dkg_X11_6.2.2.2.2.2.2.2.1
theorem dX11_init_150 : decode cX11_init 150 = .ok (.putfield 78, 3) := dkg_X11_6.2.2.2.2.2.2.2.2.1
theorem dX11_init_153 : decode cX11_init 153 = .ok (.aload_n 0, 1) := dkg_X11_6.2.2.2.2.2.2.2.2.2.1
theorem dkg_X11_7 : dkp cX11_init [(154, .bipush 36, 2), (156, .putfield 81, 3), (159, .aload_n 0, 1), (160, .iconst 0, 1), (161, .putfield 84, 3), (164, .aload_n 0, 1), (165, .iconst 0, 1), (166, .putfield 87, 3), (169, .aload_n 0, 1), (170, .iconst 0, 1)] := dkf (by decide +kernel)
theorem dX11_init_154 : decode cX11_init 154 = .ok (.bipush 36, 2) := dkg_X11_7.1
theorem dX11_init_156 : decode cX11_init 156 = .ok (.putfield 81, 3) := dkg_X11_7.2.1
theorem dX11_init_159 : decode cX11_init 159 = .ok (.aload_n 0, 1) := dkg_X11_7.2.2.1
theorem dX11_init_160 : decode cX11_init 160 = .ok (.iconst 0, 1) := dkg_X11_7.2.2.2.1
theorem dX11_init_161 : decode cX11_init 161 = .ok (.putfield 84, 3) := dkg_X11_7.2.2.2.2.1
theorem dX11_init_164 : decode cX11_init 164 = .ok (.aload_n 0, 1) := dkg_X11_7.2.2.2.2.2.1
theorem dX11_init_165 : decode cX11_init 165 = .ok (.iconst 0, 1) := dkg_X11_7.2.2.2.2.2.2.1
theorem dX11_init_166 : decode cX11_init 166 = .ok (.putfield 87, 3) := dkg_X11_7.2.2.2.2.2.2.2.1
theorem dX11_init_169 : decode cX11_init 169 = .ok (.aload_n 0, 1) := dkg_X11_7.2.2.2.2.2.2.2.2.1
theorem dX11_init_170 : decode cX11_init 170 = .ok (.iconst 0, 1) := dkg_X11_7.2.2.2.2.2.2.2.2.2.1
theorem dkg_X11_8 : dkp cX11_init [(171, .putfield 90, 3), (174, .aload_n 0, 1), (175, .iconst 0, 1), (176, .putfield 93, 3), (179, .aload_n 0, 1), (180, .iconst (-1), 1), (181, .putfield 96, 3), (184, .return_, 1)] := dkf (by decide +kernel)
theorem dX11_init_171 : decode cX11_init 171 = .ok (.putfield 90, 3) := dkg_X11_8.1
theorem dX11_init_174 : decode cX11_init 174 = .ok (.aload_n 0, 1) := dkg_X11_8.2.1
theorem dX11_init_175 : decode cX11_init 175 = .ok (.iconst 0, 1) := dkg_X11_8.2.2.1
theorem dX11_init_176 : decode cX11_init 176 = .ok (.putfield 93, 3) := dkg_X11_8.2.2.2.1
theorem dX11_init_179 : decode cX11_init 179 = .ok (.aload_n 0, 1) := dkg_X11_8.2.2.2.2.1
theorem dX11_init_180 : decode cX11_init 180 = .ok (.iconst (-1), 1) := dkg_X11_8.2.2.2.2.2.1
theorem dX11_init_181 : decode cX11_init 181 = .ok (.putfield 96, 3) := dkg_X11_8.2.2.2.2.2.2.1
theorem dX11_init_184 : decode cX11_init 184 = .ok (.return_, 1) := dkg_X11_8.2.2.2.2.2.2.2.1
theorem dkg_X11_9 : dkp cX11_feed [(0, .aload_n 0, 1), (1, .getfield 14, 3), (4, .getfield 99, 3), (7, .bipush 20, 2), (9, .iadd, 1), (10, .sipush 3000, 3), (13, .if_icmp .le 10, 3), (16, .aload_n 0, 1), (17, .bipush 6, 2), (19, .invokevirtual 102, 3)] := dkf (by decide +kernel)
theorem dX11_feed_0 : decode cX11_feed 0 = .ok (.aload_n 0, 1) := dkg_X11_9.1
theorem dX11_feed_1 : decode cX11_feed 1 = .ok (.getfield 14, 3) := dkg_X11_9.2.1
theorem dX11_feed_4 : decode cX11_feed 4 = .ok (.getfield 99, 3) := dkg_X11_9.2.2.1
theorem dX11_feed_7 : decode cX11_feed 7 = .ok (.bipush 20, 2) := dkg_X11_9.2.2.2.1
theorem dX11_feed_9 : decode cX11_feed 9 = .ok (.iadd, 1) := dkg_X11_9.2.2.2.2.1
theorem dX11_feed_10 : decode cX11_feed 10 = .ok (.sipush 3000, 3) := dkg_X11_9.2.2.2.2.2.1
theorem dX11_feed_13 : decode cX11_feed 13 = .ok (.if_icmp .le 10, 3) := dkg_X11_9.2.2.2.2.2.2.1
theorem dX11_feed_16 : decode cX11_feed 16 = .ok (.aload_n 0, 1) := dkg_X11_9.2.2.2.2.2.2.2.1
theorem dX11_feed_17 : decode cX11_feed 17 = .ok (.bipush 6, 2) := dkg_X11_9.2.2.2.2.2.2.2.2.1
theorem dX11_feed_19 : decode cX11_feed 19 = .ok (.invokevirtual 102, 3) := dkg_X11_9.2.2.2.2.2.2.2.2.2.1
theorem dkg_X11_10 : dkp cX11_feed [(22, .ireturn, 1), (23, .aload_n 0, 1), (24, .iload_n 1, 1), (25, .invokevirtual 106, 3), (28, .aload_n 0, 1), (29, .iload_n 2, 1), (30, .invokevirtual 106, 3), (33, .aload_n 0, 1), (34, .iload_n 3, 1), (35, .invokevirtual 106, 3)] := dkf (by decide +kernel)
theorem dX11_feed_22 : decode cX11_feed 22 = .ok (.ireturn, 1) := dkg_X11_10.1
theorem dX11_feed_23 : decode cX11_feed 23 = .ok (.aload_n 0, 1) := dkg_X11_10.2.1
theorem dX11_feed_24 : decode cX11_feed 24 = .ok (.iload_n 1, 1) := dkg_X11_10.2.2.1
theorem dX11_feed_25 : decode cX11_feed 25 = .ok (.invokevirtual 106, 3) := dkg_X11_10.2.2.2.1
theorem dX11_feed_28 : decode cX11_feed 28 = .ok (.aload_n 0, 1) := dkg_X11_10.2.2.2.2.1
theorem dX11_feed_29 : decode cX11_feed 29 = .ok (.iload_n 2, 1) := dkg_X11_10.2.2.2.2.2.1
theorem dX11_feed_30 : decode cX11_feed 30 = .ok (.invokevirtual 106, 3) := dkg_X11_10.2.2.2.2.2.2.1
theorem dX11_feed_33 : decode cX11_feed 33 = .ok (.aload_n 0, 1) := dkg_X11_10.2.2.2.2.2.2.2.1
theorem dX11_feed_34 : decode cX11_feed 34 = .ok (.iload_n 3, 1) := dkg_X11_10.2.2.2.2.2.2.2.2.1
theorem dX11_feed_35 : decode cX11_feed 35 = .ok (.invokevirtual 106, 3) := dkg_X11_10.2.2.2.2.2.2.2.2.2.1
theorem dkg_X11_11 : dkp cX11_feed [(38, .aload_n 0, 1), (39, .iload 4, 2), (41, .invokevirtual 106, 3), (44, .aload_n 0, 1), (45, .iload 5, 2), (47, .invokevirtual 106, 3), (50, .aload_n 0, 1), (51, .aload_n 0, 1), (52, .getfield 14, 3), (55, .getfield 99, 3)] := dkf (by decide +kernel)
theorem dX11_feed_38 : decode cX11_feed 38 = .ok (.aload_n 0, 1) := dkg_X11_11.1
theorem dX11_feed_39 : decode cX11_feed 39 = .ok (.iload 4, 2) := dkg_X11_11.2.1
theorem dX11_feed_41 : decode cX11_feed 41 = .ok (.invokevirtual 106, 3) := dkg_X11_11.2.2.1
theorem dX11_feed_44 : decode cX11_feed 44 = .ok (.aload_n 0, 1) := dkg_X11_11.2.2.2.1
theorem dX11_feed_45 : decode cX11_feed 45 = .ok (.iload 5, 2) := dkg_X11_11.2.2.2.2.1
theorem dX11_feed_47 : decode cX11_feed 47 = .ok (.invokevirtual 106, 3) := dkg_X11_11.2.2.2.2.2.1
theorem dX11_feed_50 : decode cX11_feed 50 = .ok (.aload_n 0, 1) := dkg_X11_11.2.2.2.2.2.2.1
theorem dX11_feed_51 : decode cX11_feed 51 = .ok (.aload_n 0, 1) := dkg_X11_11.2.2.2.2.2.2.2.1
theorem dX11_feed_52 : decode cX11_feed 52 = .ok (.getfield 14, 3) := dkg_X11_11.2.2.2.2.2.2.2.2.1
theorem dX11_feed_55 : decode cX11_feed 55 = .ok (.getfield 99, 3) := dkg_X11_11.2.2.2.2.2.2.2.2.2.1
theorem dkg_X11_12 : dkp cX11_feed [(58, .invokevirtual 109, 3), (61, .ireturn, 1)] := dkf (by decide +kernel)
theorem dX11_feed_58 : decode cX11_feed 58 = .ok (.invokevirtual 109, 3) := dkg_X11_12.1
theorem dX11_feed_61 : decode cX11_feed 61 = .ok (.ireturn, 1) := dkg_X11_12.2.1
theorem dkg_X11_13 : dkp cX11_feedFour [(0, .bipush 24, 2), (2, .istore_n 2, 1), (3, .iload_n 2, 1), (4, .ifCond .lt 23, 3), (7, .aload_n 0, 1), (8, .getfield 14, 3), (11, .iload_n 1, 1), (12, .iload_n 2, 1), (13, .iushr, 1), (14, .sipush 255, 3)] := dkf (by decide +kernel)
theorem dX11_feedFour_0 : decode cX11_feedFour 0 = .ok (.bipush 24, 2) := dkg_X11_13.1
theorem dX11_feedFour_2 : decode cX11_feedFour 2 = .ok (.istore_n 2, 1) := dkg_X11_13.2.1
theorem dX11_feedFour_3 : decode cX11_feedFour 3 = .ok (.iload_n 2, 1) := dkg_X11_13.2.2.1
theorem dX11_feedFour_4 : decode cX11_feedFour 4 = .ok (.ifCond .lt 23, 3) := dkg_X11_13.2.2.2.1
theorem dX11_feedFour_7 : decode cX11_feedFour 7 = .ok (.aload_n 0, 1) := dkg_X11_13.2.2.2.2.1
theorem dX11_feedFour_8 : decode cX11_feedFour 8 = .ok (.getfield 14, 3) := dkg_X11_13.2.2.2.2.2.1
theorem dX11_feedFour_11 : decode cX11_feedFour 11 = .ok (.iload_n 1, 1) := dkg_X11_13.2.2.2.2.2.2.1
theorem dX11_feedFour_12 : decode cX11_feedFour 12 = .ok (.iload_n 2, 1) := dkg_X11_13.2.2.2.2.2.2.2.1
theorem dX11_feedFour_13 : decode cX11_feedFour 13 = .ok (.iushr, 1) := dkg_X11_13.2.2.2.2.2.2.2.2.1
theorem dX11_feedFour_14 : decode cX11_feedFour 14 = .ok (.sipush 255, 3) := dkg_X11_13.2.2.2.2.2.2.2.2.2.1
theorem dkg_X11_14 : dkp cX11_feedFour [(17, .iand, 1), (18, .invokevirtual 112, 3), (21, .iinc 2 (-8), 3), (24, .goto (-21), 3), (27, .return_, 1)] := dkf (by decide +kernel)
theorem dX11_feedFour_17 : decode cX11_feedFour 17 = .ok (.iand, 1) := dkg_X11_14.1
theorem dX11_feedFour_18 : decode cX11_feedFour 18 = .ok (.invokevirtual 112, 3) := dkg_X11_14.2.1
theorem dX11_feedFour_21 : decode cX11_feedFour 21 = .ok (.iinc 2 (-8), 3) := dkg_X11_14.2.2.1
theorem dX11_feedFour_24 : decode cX11_feedFour 24 = .ok (.goto (-21), 3) := dkg_X11_14.2.2.2.1
theorem dX11_feedFour_27 : decode cX11_feedFour 27 = .ok (.return_, 1) := dkg_X11_14.2.2.2.2.1
theorem dkg_X11_15 : dkp cX11_end [(0, .iload_n 1, 1), (1, .ifCond .ge 9, 3), (4, .aload_n 0, 1), (5, .iconst 5, 1), (6, .invokevirtual 102, 3), (9, .ireturn, 1), (10, .iload_n 1, 1), (11, .aload_n 0, 1), (12, .getfield 14, 3), (15, .getfield 99, 3)] := dkf (by decide +kernel)
theorem dX11_end_0 : decode cX11_end 0 = .ok (.iload_n 1, 1) := dkg_X11_15.1
theorem dX11_end_1 : decode cX11_end 1 = .ok (.ifCond .ge 9, 3) := dkg_X11_15.2.1
theorem dX11_end_4 : decode cX11_end 4 = .ok (.aload_n 0, 1) := dkg_X11_15.2.2.1
theorem dX11_end_5 : decode cX11_end 5 = .ok (.iconst 5, 1) := dkg_X11_15.2.2.2.1
theorem dX11_end_6 : decode cX11_end 6 = .ok (.invokevirtual 102, 3) := dkg_X11_15.2.2.2.2.1
theorem dX11_end_9 : decode cX11_end 9 = .ok (.ireturn, 1) := dkg_X11_15.2.2.2.2.2.1
theorem dX11_end_10 : decode cX11_end 10 = .ok (.iload_n 1, 1) := dkg_X11_15.2.2.2.2.2.2.1
theorem dX11_end_11 : decode cX11_end 11 = .ok (.aload_n 0, 1) := dkg_X11_15.2.2.2.2.2.2.2.1
theorem dX11_end_12 : decode cX11_end 12 = .ok (.getfield 14, 3) := dkg_X11_15.2.2.2.2.2.2.2.2.1
theorem dX11_end_15 : decode cX11_end 15 = .ok (.getfield 99, 3) := dkg_X11_15.2.2.2.2.2.2.2.2.2.1
theorem dkg_X11_16 : dkp cX11_end [(18, .if_icmp .le 10, 3), (21, .aload_n 0, 1), (22, .bipush 6, 2), (24, .invokevirtual 102, 3), (27, .ireturn, 1), (28, .aload_n 0, 1), (29, .getfield 14, 3), (32, .iload_n 1, 1), (33, .invokevirtual 115, 3), (36, .aload_n 0, 1)] := dkf (by decide +kernel)
theorem dX11_end_18 : decode cX11_end 18 = .ok (.if_icmp .le 10, 3) := dkg_X11_16.1
theorem dX11_end_21 : decode cX11_end 21 = .ok (.aload_n 0, 1) := dkg_X11_16.2.1
theorem dX11_end_22 : decode cX11_end 22 = .ok (.bipush 6, 2) := dkg_X11_16.2.2.1
theorem dX11_end_24 : decode cX11_end 24 = .ok (.invokevirtual 102, 3) := dkg_X11_16.2.2.2.1
theorem dX11_end_27 : decode cX11_end 27 = .ok (.ireturn, 1) := dkg_X11_16.2.2.2.2.1
theorem dX11_end_28 : decode cX11_end 28 = .ok (.aload_n 0, 1) := dkg_X11_16.2.2.2.2.2.1
theorem dX11_end_29 : decode cX11_end 29 = .ok (.getfield 14, 3) := dkg_X11_16.2.2.2.2.2.2.1
theorem dX11_end_32 : decode cX11_end 32 = .ok (.iload_n 1, 1) := dkg_X11_16.2.2.2.2.2.2.2.1
theorem dX11_end_33 : decode cX11_end 33 = .ok (.invokevirtual 115, 3) := dkg_X11_16.2.2.2.2.2.2.2.2.1
theorem dX11_end_36 : decode cX11_end 36 = .ok (.aload_n 0, 1) := dkg_X11_16.2.2.2.2.2.2.2.2.2.1
theorem dkg_X11_17 : dkp cX11_end [(37, .iload_n 1, 1), (38, .invokevirtual 109, 3), (41, .ireturn, 1)] := dkf (by decide +kernel)
theorem dX11_end_37 : decode cX11_end 37 = .ok (.iload_n 1, 1) := dkg_X11_17.1
theorem dX11_end_38 : decode cX11_end 38 = .ok (.invokevirtual 109, 3) := dkg_X11_17.2.1
theorem dX11_end_41 : decode cX11_end 41 = .ok (.ireturn, 1) := dkg_X11_17.2.2.1
theorem dkg_X11_18 : dkp cX11_table [(0, .iload_n 1, 1), (1, .ifCond .lt 30, 3), (4, .iload_n 1, 1), (5, .iconst 4, 1), (6, .if_icmp .gt 25, 3), (9, .iload_n 2, 1), (10, .bipush 6, 2), (12, .if_icmp .eq 9, 3), (15, .iload_n 2, 1), (16, .bipush 8, 2)] := dkf (by decide +kernel)
theorem dX11_table_0 : decode cX11_table 0 = .ok (.iload_n 1, 1) := dkg_X11_18.1
theorem dX11_table_1 : decode cX11_table 1 = .ok (.ifCond .lt 30, 3) := dkg_X11_18.2.1
theorem dX11_table_4 : decode cX11_table 4 = .ok (.iload_n 1, 1) := dkg_X11_18.2.2.1
theorem dX11_table_5 : decode cX11_table 5 = .ok (.iconst 4, 1) := dkg_X11_18.2.2.2.1
theorem dX11_table_6 : decode cX11_table 6 = .ok (.if_icmp .gt 25, 3) := dkg_X11_18.2.2.2.2.1
theorem dX11_table_9 : decode cX11_table 9 = .ok (.iload_n 2, 1) := dkg_X11_18.2.2.2.2.2.1
theorem dX11_table_10 : decode cX11_table 10 = .ok (.bipush 6, 2) := dkg_X11_18.2.2.2.2.2.2.1
theorem dX11_table_12 : decode cX11_table 12 = .ok (.if_icmp .eq 9, 3) := dkg_X11_18.2.2.2.2.2.2.2.1
theorem dX11_table_15 : decode cX11_table 15 = .ok (.iload_n 2, 1) := dkg_X11_18.2.2.2.2.2.2.2.2.1
theorem dX11_table_16 : decode cX11_table 16 = .ok (.bipush 8, 2) := dkg_X11_18.2.2.2.2.2.2.2.2.2.1
theorem dkg_X11_19 : dkp cX11_table [(18, .if_icmp .ne 13, 3), (21, .aload_n 0, 1), (22, .getfield 30, 3), (25, .invokevirtual 118, 3), (28, .ifCond .eq 10, 3), (31, .aload_n 0, 1), (32, .bipush 6, 2), (34, .invokevirtual 102, 3), (37, .ireturn, 1), (38, .iload_n 1, 1)] := dkf (by decide +kernel)
theorem dX11_table_18 : decode cX11_table 18 = .ok (.if_icmp .ne 13, 3) := dkg_X11_19.1
theorem dX11_table_21 : decode cX11_table 21 = .ok (.aload_n 0, 1) := dkg_X11_19.2.1
theorem dX11_table_22 : decode cX11_table 22 = .ok (.getfield 30, 3) := dkg_X11_19.2.2.1
theorem dX11_table_25 : decode cX11_table 25 = .ok (.invokevirtual 118, 3) := dkg_X11_19.2.2.2.1
theorem dX11_table_28 : decode cX11_table 28 = .ok (.ifCond .eq 10, 3) := dkg_X11_19.2.2.2.2.1
theorem dX11_table_31 : decode cX11_table 31 = .ok (.aload_n 0, 1) := dkg_X11_19.2.2.2.2.2.1
theorem dX11_table_32 : decode cX11_table 32 = .ok (.bipush 6, 2) := dkg_X11_19.2.2.2.2.2.2.1
theorem dX11_table_34 : decode cX11_table 34 = .ok (.invokevirtual 102, 3) := dkg_X11_19.2.2.2.2.2.2.2.1
theorem dX11_table_37 : decode cX11_table 37 = .ok (.ireturn, 1) := dkg_X11_19.2.2.2.2.2.2.2.2.1
theorem dX11_table_38 : decode cX11_table 38 = .ok (.iload_n 1, 1) := dkg_X11_19.2.2.2.2.2.2.2.2.2.1
theorem dkg_X11_20 : dkp cX11_table [(39, .ifCond .eq 8, 3), (42, .iload_n 1, 1), (43, .iconst 4, 1), (44, .if_icmp .ne 26, 3), (47, .aload_n 0, 1), (48, .aload_n 0, 1), (49, .getfield 30, 3), (52, .new 122, 3), (55, .dup, 1), (56, .iload_n 1, 1)] := dkf (by decide +kernel)
theorem dX11_table_39 : decode cX11_table 39 = .ok (.ifCond .eq 8, 3) := dkg_X11_20.1
theorem dX11_table_42 : decode cX11_table 42 = .ok (.iload_n 1, 1) := dkg_X11_20.2.1
theorem dX11_table_43 : decode cX11_table 43 = .ok (.iconst 4, 1) := dkg_X11_20.2.2.1
theorem dX11_table_44 : decode cX11_table 44 = .ok (.if_icmp .ne 26, 3) := dkg_X11_20.2.2.2.1
theorem dX11_table_47 : decode cX11_table 47 = .ok (.aload_n 0, 1) := dkg_X11_20.2.2.2.2.1
theorem dX11_table_48 : decode cX11_table 48 = .ok (.aload_n 0, 1) := dkg_X11_20.2.2.2.2.2.1
theorem dX11_table_49 : decode cX11_table 49 = .ok (.getfield 30, 3) := dkg_X11_20.2.2.2.2.2.2.1
theorem dX11_table_52 : decode cX11_table 52 = .ok (.new 122, 3) := dkg_X11_20.2.2.2.2.2.2.2.1
theorem dX11_table_55 : decode cX11_table 55 = .ok (.dup, 1) := dkg_X11_20.2.2.2.2.2.2.2.2.1
theorem dX11_table_56 : decode cX11_table 56 = .ok (.iload_n 1, 1) := dkg_X11_20.2.2.2.2.2.2.2.2.2.1
theorem dkg_X11_21 : dkp cX11_table [(57, .iload_n 2, 1), (58, .aconst_null, 1), (59, .aconst_null, 1), (60, .invokespecial 124, 3), (63, .invokevirtual 127, 3), (66, .invokevirtual 109, 3), (69, .ireturn, 1), (70, .aload_n 0, 1), (71, .getfield 30, 3), (74, .iload_n 3, 1)] := dkf (by decide +kernel)
theorem dX11_table_57 : decode cX11_table 57 = .ok (.iload_n 2, 1) := dkg_X11_21.1
theorem dX11_table_58 : decode cX11_table 58 = .ok (.aconst_null, 1) := dkg_X11_21.2.1
theorem dX11_table_59 : decode cX11_table 59 = .ok (.aconst_null, 1) := dkg_X11_21.2.2.1
theorem dX11_table_60 : decode cX11_table 60 = .ok (.invokespecial 124, 3) := dkg_X11_21.2.2.2.1
theorem dX11_table_63 : decode cX11_table 63 = .ok (.invokevirtual 127, 3) := dkg_X11_21.2.2.2.2.1
theorem dX11_table_66 : decode cX11_table 66 = .ok (.invokevirtual 109, 3) := dkg_X11_21.2.2.2.2.2.1
theorem dX11_table_69 : decode cX11_table 69 = .ok (.ireturn, 1) := dkg_X11_21.2.2.2.2.2.2.1
theorem dX11_table_70 : decode cX11_table 70 = .ok (.aload_n 0, 1) := dkg_X11_21.2.2.2.2.2.2.2.1
theorem dX11_table_71 : decode cX11_table 71 = .ok (.getfield 30, 3) := dkg_X11_21.2.2.2.2.2.2.2.2.1
theorem dX11_table_74 : decode cX11_table 74 = .ok (.iload_n 3, 1) := dkg_X11_21.2.2.2.2.2.2.2.2.2.1
theorem dkg_X11_22 : dkp cX11_table [(75, .invokevirtual 131, 3), (78, .astore 4, 2), (80, .aload 4, 2), (82, .ifnull 12, 3), (85, .aload 4, 2), (87, .getfield 135, 3), (90, .iconst 3, 1), (91, .if_icmp .le 18, 3), (94, .aload_n 0, 1), (95, .aload 4, 2)] := dkf (by decide +kernel)
theorem dX11_table_75 : decode cX11_table 75 = .ok (.invokevirtual 131, 3) := dkg_X11_22.1
theorem dX11_table_78 : decode cX11_table 78 = .ok (.astore 4, 2) := dkg_X11_22.2.1
theorem dX11_table_80 : decode cX11_table 80 = .ok (.aload 4, 2) := dkg_X11_22.2.2.1
theorem dX11_table_82 : decode cX11_table 82 = .ok (.ifnull 12, 3) := dkg_X11_22.2.2.2.1
theorem dX11_table_85 : decode cX11_table 85 = .ok (.aload 4, 2) := dkg_X11_22.2.2.2.2.1
theorem dX11_table_87 : decode cX11_table 87 = .ok (.getfield 135, 3) := dkg_X11_22.2.2.2.2.2.1
theorem dX11_table_90 : decode cX11_table 90 = .ok (.iconst 3, 1) := dkg_X11_22.2.2.2.2.2.2.1
theorem dX11_table_91 : decode cX11_table 91 = .ok (.if_icmp .le 18, 3) := dkg_X11_22.2.2.2.2.2.2.2.1
theorem dX11_table_94 : decode cX11_table 94 = .ok (.aload_n 0, 1) := dkg_X11_22.2.2.2.2.2.2.2.2.1
theorem dX11_table_95 : decode cX11_table 95 = .ok (.aload 4, 2) := dkg_X11_22.2.2.2.2.2.2.2.2.2.1
theorem dkg_X11_23 : dkp cX11_table [(97, .ifnonnull 7, 3), (100, .iconst 3, 1), (101, .goto 4, 3), (104, .iconst 4, 1), (105, .invokevirtual 102, 3), (108, .ireturn, 1), (109, .aload_n 0, 1), (110, .aload_n 0, 1), (111, .getfield 30, 3), (114, .new 122, 3)] := dkf (by decide +kernel)
theorem dX11_table_97 : decode cX11_table 97 = .ok (.ifnonnull 7, 3) := dkg_X11_23.1
theorem dX11_table_100 : decode cX11_table 100 = .ok (.iconst 3, 1) := dkg_X11_23.2.1
theorem dX11_table_101 : decode cX11_table 101 = .ok (.goto 4, 3) := dkg_X11_23.2.2.1
theorem dX11_table_104 : decode cX11_table 104 = .ok (.iconst 4, 1) := dkg_X11_23.2.2.2.1
theorem dX11_table_105 : decode cX11_table 105 = .ok (.invokevirtual 102, 3) := dkg_X11_23.2.2.2.2.1
theorem dX11_table_108 : decode cX11_table 108 = .ok (.ireturn, 1) := dkg_X11_23.2.2.2.2.2.1
theorem dX11_table_109 : decode cX11_table 109 = .ok (.aload_n 0, 1) := dkg_X11_23.2.2.2.2.2.2.1
theorem dX11_table_110 : decode cX11_table 110 = .ok (.aload_n 0, 1) := dkg_X11_23.2.2.2.2.2.2.2.1
theorem dX11_table_111 : decode cX11_table 111 = .ok (.getfield 30, 3) := dkg_X11_23.2.2.2.2.2.2.2.2.1
theorem dX11_table_114 : decode cX11_table 114 = .ok (.new 122, 3) := dkg_X11_23.2.2.2.2.2.2.2.2.2.1
theorem dkg_X11_24 : dkp cX11_table [(117, .dup, 1), (118, .iload_n 1, 1), (119, .iload_n 2, 1), (120, .aload 4, 2), (122, .aconst_null, 1), (123, .invokespecial 124, 3), (126, .invokevirtual 127, 3), (129, .invokevirtual 109, 3), (132, .ireturn, 1)] := dkf (by decide +kernel)
theorem dX11_table_117 : decode cX11_table 117 = .ok (.dup, 1) := dkg_X11_24.1
theorem dX11_table_118 : decode cX11_table 118 = .ok (.iload_n 1, 1) := dkg_X11_24.2.1
theorem dX11_table_119 : decode cX11_table 119 = .ok (.iload_n 2, 1) := dkg_X11_24.2.2.1
theorem dX11_table_120 : decode cX11_table 120 = .ok (.aload 4, 2) := dkg_X11_24.2.2.2.1
theorem dX11_table_122 : decode cX11_table 122 = .ok (.aconst_null, 1) := dkg_X11_24.2.2.2.2.1
theorem dX11_table_123 : decode cX11_table 123 = .ok (.invokespecial 124, 3) := dkg_X11_24.2.2.2.2.2.1
theorem dX11_table_126 : decode cX11_table 126 = .ok (.invokevirtual 127, 3) := dkg_X11_24.2.2.2.2.2.2.1
theorem dX11_table_129 : decode cX11_table 129 = .ok (.invokevirtual 109, 3) := dkg_X11_24.2.2.2.2.2.2.2.1
theorem dX11_table_132 : decode cX11_table 132 = .ok (.ireturn, 1) := dkg_X11_24.2.2.2.2.2.2.2.2.1
theorem dkg_X11_25 : dkp cX11_join [(0, .aload_n 0, 1), (1, .getfield 30, 3), (4, .iload_n 1, 1), (5, .invokevirtual 131, 3), (8, .astore_n 3, 1), (9, .aload_n 3, 1), (10, .ifnull 11, 3), (13, .aload_n 3, 1), (14, .getfield 135, 3), (17, .iconst 3, 1)] := dkf (by decide +kernel)
theorem dX11_join_0 : decode cX11_join 0 = .ok (.aload_n 0, 1) := dkg_X11_25.1
theorem dX11_join_1 : decode cX11_join 1 = .ok (.getfield 30, 3) := dkg_X11_25.2.1
theorem dX11_join_4 : decode cX11_join 4 = .ok (.iload_n 1, 1) := dkg_X11_25.2.2.1
theorem dX11_join_5 : decode cX11_join 5 = .ok (.invokevirtual 131, 3) := dkg_X11_25.2.2.2.1
theorem dX11_join_8 : decode cX11_join 8 = .ok (.astore_n 3, 1) := dkg_X11_25.2.2.2.2.1
theorem dX11_join_9 : decode cX11_join 9 = .ok (.aload_n 3, 1) := dkg_X11_25.2.2.2.2.2.1
theorem dX11_join_10 : decode cX11_join 10 = .ok (.ifnull 11, 3) := dkg_X11_25.2.2.2.2.2.2.1
theorem dX11_join_13 : decode cX11_join 13 = .ok (.aload_n 3, 1) := dkg_X11_25.2.2.2.2.2.2.2.1
theorem dX11_join_14 : decode cX11_join 14 = .ok (.getfield 135, 3) := dkg_X11_25.2.2.2.2.2.2.2.2.1
theorem dX11_join_17 : decode cX11_join 17 = .ok (.iconst 3, 1) := dkg_X11_25.2.2.2.2.2.2.2.2.2.1
theorem dkg_X11_26 : dkp cX11_join [(18, .if_icmp .le 17, 3), (21, .aload_n 0, 1), (22, .aload_n 3, 1), (23, .ifnonnull 7, 3), (26, .iconst 3, 1), (27, .goto 4, 3), (30, .iconst 4, 1), (31, .invokevirtual 102, 3), (34, .ireturn, 1), (35, .aload_n 0, 1)] := dkf (by decide +kernel)
theorem dX11_join_18 : decode cX11_join 18 = .ok (.if_icmp .le 17, 3) := dkg_X11_26.1
theorem dX11_join_21 : decode cX11_join 21 = .ok (.aload_n 0, 1) := dkg_X11_26.2.1
theorem dX11_join_22 : decode cX11_join 22 = .ok (.aload_n 3, 1) := dkg_X11_26.2.2.1
theorem dX11_join_23 : decode cX11_join 23 = .ok (.ifnonnull 7, 3) := dkg_X11_26.2.2.2.1
theorem dX11_join_26 : decode cX11_join 26 = .ok (.iconst 3, 1) := dkg_X11_26.2.2.2.2.1
theorem dX11_join_27 : decode cX11_join 27 = .ok (.goto 4, 3) := dkg_X11_26.2.2.2.2.2.1
theorem dX11_join_30 : decode cX11_join 30 = .ok (.iconst 4, 1) := dkg_X11_26.2.2.2.2.2.2.1
theorem dX11_join_31 : decode cX11_join 31 = .ok (.invokevirtual 102, 3) := dkg_X11_26.2.2.2.2.2.2.2.1
theorem dX11_join_34 : decode cX11_join 34 = .ok (.ireturn, 1) := dkg_X11_26.2.2.2.2.2.2.2.2.1
theorem dX11_join_35 : decode cX11_join 35 = .ok (.aload_n 0, 1) := dkg_X11_26.2.2.2.2.2.2.2.2.2.1
theorem dkg_X11_27 : dkp cX11_join [(36, .getfield 30, 3), (39, .iload_n 2, 1), (40, .invokevirtual 131, 3), (43, .astore 4, 2), (45, .aload 4, 2), (47, .ifnull 12, 3), (50, .aload 4, 2), (52, .getfield 135, 3), (55, .iconst 3, 1), (56, .if_icmp .le 18, 3)] := dkf (by decide +kernel)
theorem dX11_join_36 : decode cX11_join 36 = .ok (.getfield 30, 3) := dkg_X11_27.1
theorem dX11_join_39 : decode cX11_join 39 = .ok (.iload_n 2, 1) := dkg_X11_27.2.1
theorem dX11_join_40 : decode cX11_join 40 = .ok (.invokevirtual 131, 3) := dkg_X11_27.2.2.1
theorem dX11_join_43 : decode cX11_join 43 = .ok (.astore 4, 2) := dkg_X11_27.2.2.2.1
theorem dX11_join_45 : decode cX11_join 45 = .ok (.aload 4, 2) := dkg_X11_27.2.2.2.2.1
theorem dX11_join_47 : decode cX11_join 47 = .ok (.ifnull 12, 3) := dkg_X11_27.2.2.2.2.2.1
theorem dX11_join_50 : decode cX11_join 50 = .ok (.aload 4, 2) := dkg_X11_27.2.2.2.2.2.2.1
theorem dX11_join_52 : decode cX11_join 52 = .ok (.getfield 135, 3) := dkg_X11_27.2.2.2.2.2.2.2.1
theorem dX11_join_55 : decode cX11_join 55 = .ok (.iconst 3, 1) := dkg_X11_27.2.2.2.2.2.2.2.2.1
theorem dX11_join_56 : decode cX11_join 56 = .ok (.if_icmp .le 18, 3) := dkg_X11_27.2.2.2.2.2.2.2.2.2.1
theorem dkg_X11_28 : dkp cX11_join [(59, .aload_n 0, 1), (60, .aload 4, 2), (62, .ifnonnull 7, 3), (65, .iconst 3, 1), (66, .goto 4, 3), (69, .iconst 4, 1), (70, .invokevirtual 102, 3), (73, .ireturn, 1), (74, .aload_n 0, 1), (75, .getfield 30, 3)] := dkf (by decide +kernel)
theorem dX11_join_59 : decode cX11_join 59 = .ok (.aload_n 0, 1) := dkg_X11_28.1
theorem dX11_join_60 : decode cX11_join 60 = .ok (.aload 4, 2) := dkg_X11_28.2.1
theorem dX11_join_62 : decode cX11_join 62 = .ok (.ifnonnull 7, 3) := dkg_X11_28.2.2.1
theorem dX11_join_65 : decode cX11_join 65 = .ok (.iconst 3, 1) := dkg_X11_28.2.2.2.1
theorem dX11_join_66 : decode cX11_join 66 = .ok (.goto 4, 3) := dkg_X11_28.2.2.2.2.1
theorem dX11_join_69 : decode cX11_join 69 = .ok (.iconst 4, 1) := dkg_X11_28.2.2.2.2.2.1
theorem dX11_join_70 : decode cX11_join 70 = .ok (.invokevirtual 102, 3) := dkg_X11_28.2.2.2.2.2.2.1
theorem dX11_join_73 : decode cX11_join 73 = .ok (.ireturn, 1) := dkg_X11_28.2.2.2.2.2.2.2.1
theorem dX11_join_74 : decode cX11_join 74 = .ok (.aload_n 0, 1) := dkg_X11_28.2.2.2.2.2.2.2.2.1
theorem dX11_join_75 : decode cX11_join 75 = .ok (.getfield 30, 3) := dkg_X11_28.2.2.2.2.2.2.2.2.2.1
theorem dkg_X11_29 : dkp cX11_join [(78, .invokevirtual 118, 3), (81, .ifCond .eq 10, 3), (84, .aload_n 0, 1), (85, .bipush 6, 2), (87, .invokevirtual 102, 3), (90, .ireturn, 1), (91, .aload_n 0, 1), (92, .aload_n 0, 1), (93, .getfield 30, 3), (96, .new 122, 3)] := dkf (by decide +kernel)
theorem dX11_join_78 : decode cX11_join 78 = .ok (.invokevirtual 118, 3) := dkg_X11_29.1
theorem dX11_join_81 : decode cX11_join 81 = .ok (.ifCond .eq 10, 3) := dkg_X11_29.2.1
theorem dX11_join_84 : decode cX11_join 84 = .ok (.aload_n 0, 1) := dkg_X11_29.2.2.1
theorem dX11_join_85 : decode cX11_join 85 = .ok (.bipush 6, 2) := dkg_X11_29.2.2.2.1
theorem dX11_join_87 : decode cX11_join 87 = .ok (.invokevirtual 102, 3) := dkg_X11_29.2.2.2.2.1
theorem dX11_join_90 : decode cX11_join 90 = .ok (.ireturn, 1) := dkg_X11_29.2.2.2.2.2.1
theorem dX11_join_91 : decode cX11_join 91 = .ok (.aload_n 0, 1) := dkg_X11_29.2.2.2.2.2.2.1
theorem dX11_join_92 : decode cX11_join 92 = .ok (.aload_n 0, 1) := dkg_X11_29.2.2.2.2.2.2.2.1
theorem dX11_join_93 : decode cX11_join 93 = .ok (.getfield 30, 3) := dkg_X11_29.2.2.2.2.2.2.2.2.1
theorem dX11_join_96 : decode cX11_join 96 = .ok (.new 122, 3) := dkg_X11_29.2.2.2.2.2.2.2.2.2.1
theorem dkg_X11_30 : dkp cX11_join [(99, .dup, 1), (100, .iconst 5, 1), (101, .aload_n 3, 1), (102, .getfield 138, 3), (105, .aload 4, 2), (107, .getfield 138, 3), (110, .invokestatic 141, 3), (113, .aload_n 3, 1), (114, .aload 4, 2), (116, .invokespecial 124, 3)] := dkf (by decide +kernel)
theorem dX11_join_99 : decode cX11_join 99 = .ok (.dup, 1) := dkg_X11_30.1
theorem dX11_join_100 : decode cX11_join 100 = .ok (.iconst 5, 1) := dkg_X11_30.2.1
theorem dX11_join_101 : decode cX11_join 101 = .ok (.aload_n 3, 1) := dkg_X11_30.2.2.1
theorem dX11_join_102 : decode cX11_join 102 = .ok (.getfield 138, 3) := dkg_X11_30.2.2.2.1
theorem dX11_join_105 : decode cX11_join 105 = .ok (.aload 4, 2) := dkg_X11_30.2.2.2.2.1
theorem dX11_join_107 : decode cX11_join 107 = .ok (.getfield 138, 3) := dkg_X11_30.2.2.2.2.2.1
theorem dX11_join_110 : decode cX11_join 110 = .ok (.invokestatic 141, 3) := dkg_X11_30.2.2.2.2.2.2.1
theorem dX11_join_113 : decode cX11_join 113 = .ok (.aload_n 3, 1) := dkg_X11_30.2.2.2.2.2.2.2.1
theorem dX11_join_114 : decode cX11_join 114 = .ok (.aload 4, 2) := dkg_X11_30.2.2.2.2.2.2.2.2.1
theorem dX11_join_116 : decode cX11_join 116 = .ok (.invokespecial 124, 3) := dkg_X11_30.2.2.2.2.2.2.2.2.2.1
theorem dkg_X11_31 : dkp cX11_join [(119, .invokevirtual 127, 3), (122, .invokevirtual 109, 3), (125, .ireturn, 1)] := dkf (by decide +kernel)
theorem dX11_join_119 : decode cX11_join 119 = .ok (.invokevirtual 127, 3) := dkg_X11_31.1
theorem dX11_join_122 : decode cX11_join 122 = .ok (.invokevirtual 109, 3) := dkg_X11_31.2.1
theorem dX11_join_125 : decode cX11_join 125 = .ok (.ireturn, 1) := dkg_X11_31.2.2.1
theorem dkg_X11_32 : dkp cX11_drop [(0, .aload_n 0, 1), (1, .getfield 30, 3), (4, .iload_n 1, 1), (5, .invokevirtual 131, 3), (8, .astore_n 2, 1), (9, .aload_n 2, 1), (10, .ifnonnull 9, 3), (13, .aload_n 0, 1), (14, .iconst 3, 1), (15, .invokevirtual 102, 3)] := dkf (by decide +kernel)
theorem dX11_drop_0 : decode cX11_drop 0 = .ok (.aload_n 0, 1) := dkg_X11_32.1
theorem dX11_drop_1 : decode cX11_drop 1 = .ok (.getfield 30, 3) := dkg_X11_32.2.1
theorem dX11_drop_4 : decode cX11_drop 4 = .ok (.iload_n 1, 1) := dkg_X11_32.2.2.1
theorem dX11_drop_5 : decode cX11_drop 5 = .ok (.invokevirtual 131, 3) := dkg_X11_32.2.2.2.1
theorem dX11_drop_8 : decode cX11_drop 8 = .ok (.astore_n 2, 1) := dkg_X11_32.2.2.2.2.1
theorem dX11_drop_9 : decode cX11_drop 9 = .ok (.aload_n 2, 1) := dkg_X11_32.2.2.2.2.2.1
theorem dX11_drop_10 : decode cX11_drop 10 = .ok (.ifnonnull 9, 3) := dkg_X11_32.2.2.2.2.2.2.1
theorem dX11_drop_13 : decode cX11_drop 13 = .ok (.aload_n 0, 1) := dkg_X11_32.2.2.2.2.2.2.2.1
theorem dX11_drop_14 : decode cX11_drop 14 = .ok (.iconst 3, 1) := dkg_X11_32.2.2.2.2.2.2.2.2.1
theorem dX11_drop_15 : decode cX11_drop 15 = .ok (.invokevirtual 102, 3) := dkg_X11_32.2.2.2.2.2.2.2.2.2.1
theorem dkg_X11_33 : dkp cX11_drop [(18, .ireturn, 1), (19, .aload_n 0, 1), (20, .getfield 30, 3), (23, .new 147, 3), (26, .dup, 1), (27, .iconst 1, 1), (28, .aload_n 2, 1), (29, .aconst_null, 1), (30, .iconst 0, 1), (31, .invokespecial 149, 3)] := dkf (by decide +kernel)
theorem dX11_drop_18 : decode cX11_drop 18 = .ok (.ireturn, 1) := dkg_X11_33.1
theorem dX11_drop_19 : decode cX11_drop 19 = .ok (.aload_n 0, 1) := dkg_X11_33.2.1
theorem dX11_drop_20 : decode cX11_drop 20 = .ok (.getfield 30, 3) := dkg_X11_33.2.2.1
theorem dX11_drop_23 : decode cX11_drop 23 = .ok (.new 147, 3) := dkg_X11_33.2.2.2.1
theorem dX11_drop_26 : decode cX11_drop 26 = .ok (.dup, 1) := dkg_X11_33.2.2.2.2.1
theorem dX11_drop_27 : decode cX11_drop 27 = .ok (.iconst 1, 1) := dkg_X11_33.2.2.2.2.2.1
theorem dX11_drop_28 : decode cX11_drop 28 = .ok (.aload_n 2, 1) := dkg_X11_33.2.2.2.2.2.2.1
theorem dX11_drop_29 : decode cX11_drop 29 = .ok (.aconst_null, 1) := dkg_X11_33.2.2.2.2.2.2.2.1
theorem dX11_drop_30 : decode cX11_drop 30 = .ok (.iconst 0, 1) := dkg_X11_33.2.2.2.2.2.2.2.2.1
theorem dX11_drop_31 : decode cX11_drop 31 = .ok (.invokespecial 149, 3) := dkg_X11_33.2.2.2.2.2.2.2.2.2.1
theorem dkg_X11_34 : dkp cX11_drop [(34, .invokevirtual 152, 3), (37, .aload_n 2, 1), (38, .iconst 1, 1), (39, .putfield 156, 3), (42, .aload_n 0, 1), (43, .iconst 1, 1), (44, .invokevirtual 109, 3), (47, .ireturn, 1)] := dkf (by decide +kernel)
theorem dX11_drop_34 : decode cX11_drop 34 = .ok (.invokevirtual 152, 3) := dkg_X11_34.1
theorem dX11_drop_37 : decode cX11_drop 37 = .ok (.aload_n 2, 1) := dkg_X11_34.2.1
theorem dX11_drop_38 : decode cX11_drop 38 = .ok (.iconst 1, 1) := dkg_X11_34.2.2.1
theorem dX11_drop_39 : decode cX11_drop 39 = .ok (.putfield 156, 3) := dkg_X11_34.2.2.2.1
theorem dX11_drop_42 : decode cX11_drop 42 = .ok (.aload_n 0, 1) := dkg_X11_34.2.2.2.2.1
theorem dX11_drop_43 : decode cX11_drop 43 = .ok (.iconst 1, 1) := dkg_X11_34.2.2.2.2.2.1
theorem dX11_drop_44 : decode cX11_drop 44 = .ok (.invokevirtual 109, 3) := dkg_X11_34.2.2.2.2.2.2.1
theorem dX11_drop_47 : decode cX11_drop 47 = .ok (.ireturn, 1) := dkg_X11_34.2.2.2.2.2.2.2.1
theorem dkg_X11_35 : dkp cX11_rule [(0, .aload_n 0, 1), (1, .iload_n 1, 1), (2, .iload_n 2, 1), (3, .iload_n 3, 1), (4, .invokevirtual 160, 3), (7, .istore 4, 2), (9, .aload_n 0, 1), (10, .getfield 14, 3), (13, .invokevirtual 164, 3), (16, .iload 4, 2)] := dkf (by decide +kernel)
theorem dX11_rule_0 : decode cX11_rule 0 = .ok (.aload_n 0, 1) := dkg_X11_35.1
theorem dX11_rule_1 : decode cX11_rule 1 = .ok (.iload_n 1, 1) := dkg_X11_35.2.1
theorem dX11_rule_2 : decode cX11_rule 2 = .ok (.iload_n 2, 1) := dkg_X11_35.2.2.1
theorem dX11_rule_3 : decode cX11_rule 3 = .ok (.iload_n 3, 1) := dkg_X11_35.2.2.2.1
theorem dX11_rule_4 : decode cX11_rule 4 = .ok (.invokevirtual 160, 3) := dkg_X11_35.2.2.2.2.1
theorem dX11_rule_7 : decode cX11_rule 7 = .ok (.istore 4, 2) := dkg_X11_35.2.2.2.2.2.1
theorem dX11_rule_9 : decode cX11_rule 9 = .ok (.aload_n 0, 1) := dkg_X11_35.2.2.2.2.2.2.1
theorem dX11_rule_10 : decode cX11_rule 10 = .ok (.getfield 14, 3) := dkg_X11_35.2.2.2.2.2.2.2.1
theorem dX11_rule_13 : decode cX11_rule 13 = .ok (.invokevirtual 164, 3) := dkg_X11_35.2.2.2.2.2.2.2.2.1
theorem dX11_rule_16 : decode cX11_rule 16 = .ok (.iload 4, 2) := dkg_X11_35.2.2.2.2.2.2.2.2.2.1
theorem dkg_X11_36 : dkp cX11_rule [(18, .ireturn, 1)] := dkf (by decide +kernel)
theorem dX11_rule_18 : decode cX11_rule 18 = .ok (.ireturn, 1) := dkg_X11_36.1
theorem dkg_X11_37 : dkp cX11_addRule [(0, .aload_n 0, 1), (1, .getfield 30, 3), (4, .iload_n 1, 1), (5, .invokevirtual 131, 3), (8, .astore 4, 2), (10, .aload 4, 2), (12, .ifnonnull 9, 3), (15, .aload_n 0, 1), (16, .iconst 3, 1), (17, .invokevirtual 102, 3)] := dkf (by decide +kernel)
theorem dX11_addRule_0 : decode cX11_addRule 0 = .ok (.aload_n 0, 1) := dkg_X11_37.1
theorem dX11_addRule_1 : decode cX11_addRule 1 = .ok (.getfield 30, 3) := dkg_X11_37.2.1
theorem dX11_addRule_4 : decode cX11_addRule 4 = .ok (.iload_n 1, 1) := dkg_X11_37.2.2.1
theorem dX11_addRule_5 : decode cX11_addRule 5 = .ok (.invokevirtual 131, 3) := dkg_X11_37.2.2.2.1
theorem dX11_addRule_8 : decode cX11_addRule 8 = .ok (.astore 4, 2) := dkg_X11_37.2.2.2.2.1
theorem dX11_addRule_10 : decode cX11_addRule 10 = .ok (.aload 4, 2) := dkg_X11_37.2.2.2.2.2.1
theorem dX11_addRule_12 : decode cX11_addRule 12 = .ok (.ifnonnull 9, 3) := dkg_X11_37.2.2.2.2.2.2.1
theorem dX11_addRule_15 : decode cX11_addRule 15 = .ok (.aload_n 0, 1) := dkg_X11_37.2.2.2.2.2.2.2.1
theorem dX11_addRule_16 : decode cX11_addRule 16 = .ok (.iconst 3, 1) := dkg_X11_37.2.2.2.2.2.2.2.2.1
theorem dX11_addRule_17 : decode cX11_addRule 17 = .ok (.invokevirtual 102, 3) := dkg_X11_37.2.2.2.2.2.2.2.2.2.1
theorem dkg_X11_38 : dkp cX11_addRule [(20, .ireturn, 1), (21, .aload 4, 2), (23, .getfield 135, 3), (26, .iconst 5, 1), (27, .if_icmp .ne 9, 3), (30, .aload_n 0, 1), (31, .iconst 4, 1), (32, .invokevirtual 102, 3), (35, .ireturn, 1), (36, .iload_n 3, 1)] := dkf (by decide +kernel)
theorem dX11_addRule_20 : decode cX11_addRule 20 = .ok (.ireturn, 1) := dkg_X11_38.1
theorem dX11_addRule_21 : decode cX11_addRule 21 = .ok (.aload 4, 2) := dkg_X11_38.2.1
theorem dX11_addRule_23 : decode cX11_addRule 23 = .ok (.getfield 135, 3) := dkg_X11_38.2.2.1
theorem dX11_addRule_26 : decode cX11_addRule 26 = .ok (.iconst 5, 1) := dkg_X11_38.2.2.2.1
theorem dX11_addRule_27 : decode cX11_addRule 27 = .ok (.if_icmp .ne 9, 3) := dkg_X11_38.2.2.2.2.1
theorem dX11_addRule_30 : decode cX11_addRule 30 = .ok (.aload_n 0, 1) := dkg_X11_38.2.2.2.2.2.1
theorem dX11_addRule_31 : decode cX11_addRule 31 = .ok (.iconst 4, 1) := dkg_X11_38.2.2.2.2.2.2.1
theorem dX11_addRule_32 : decode cX11_addRule 32 = .ok (.invokevirtual 102, 3) := dkg_X11_38.2.2.2.2.2.2.2.1
theorem dX11_addRule_35 : decode cX11_addRule 35 = .ok (.ireturn, 1) := dkg_X11_38.2.2.2.2.2.2.2.2.1
theorem dX11_addRule_36 : decode cX11_addRule 36 = .ok (.iload_n 3, 1) := dkg_X11_38.2.2.2.2.2.2.2.2.2.1
theorem dkg_X11_39 : dkp cX11_addRule [(37, .ifCond .ge 9, 3), (40, .aload_n 0, 1), (41, .iconst 5, 1), (42, .invokevirtual 102, 3), (45, .ireturn, 1), (46, .iload_n 2, 1), (47, .invokestatic 167, 3), (50, .ifCond .eq 68, 3), (53, .iload_n 3, 1), (54, .iconst 1, 1)] := dkf (by decide +kernel)
theorem dX11_addRule_37 : decode cX11_addRule 37 = .ok (.ifCond .ge 9, 3) := dkg_X11_39.1
theorem dX11_addRule_40 : decode cX11_addRule 40 = .ok (.aload_n 0, 1) := dkg_X11_39.2.1
theorem dX11_addRule_41 : decode cX11_addRule 41 = .ok (.iconst 5, 1) := dkg_X11_39.2.2.1
theorem dX11_addRule_42 : decode cX11_addRule 42 = .ok (.invokevirtual 102, 3) := dkg_X11_39.2.2.2.1
theorem dX11_addRule_45 : decode cX11_addRule 45 = .ok (.ireturn, 1) := dkg_X11_39.2.2.2.2.1
theorem dX11_addRule_46 : decode cX11_addRule 46 = .ok (.iload_n 2, 1) := dkg_X11_39.2.2.2.2.2.1
theorem dX11_addRule_47 : decode cX11_addRule 47 = .ok (.invokestatic 167, 3) := dkg_X11_39.2.2.2.2.2.2.1
theorem dX11_addRule_50 : decode cX11_addRule 50 = .ok (.ifCond .eq 68, 3) := dkg_X11_39.2.2.2.2.2.2.2.1
theorem dX11_addRule_53 : decode cX11_addRule 53 = .ok (.iload_n 3, 1) := dkg_X11_39.2.2.2.2.2.2.2.2.1
theorem dX11_addRule_54 : decode cX11_addRule 54 = .ok (.iconst 1, 1) := dkg_X11_39.2.2.2.2.2.2.2.2.2.1
theorem dkg_X11_40 : dkp cX11_addRule [(55, .if_icmp .lt 63, 3), (58, .iload_n 3, 1), (59, .bipush 8, 2), (61, .if_icmp .gt 57, 3), (64, .iload_n 3, 1), (65, .aload_n 0, 1), (66, .getfield 14, 3), (69, .getfield 99, 3), (72, .if_icmp .ge 46, 3), (75, .aload_n 0, 1)] := dkf (by decide +kernel)
theorem dX11_addRule_55 : decode cX11_addRule 55 = .ok (.if_icmp .lt 63, 3) := dkg_X11_40.1
theorem dX11_addRule_58 : decode cX11_addRule 58 = .ok (.iload_n 3, 1) := dkg_X11_40.2.1
theorem dX11_addRule_59 : decode cX11_addRule 59 = .ok (.bipush 8, 2) := dkg_X11_40.2.2.1
theorem dX11_addRule_61 : decode cX11_addRule 61 = .ok (.if_icmp .gt 57, 3) := dkg_X11_40.2.2.2.1
theorem dX11_addRule_64 : decode cX11_addRule 64 = .ok (.iload_n 3, 1) := dkg_X11_40.2.2.2.2.1
theorem dX11_addRule_65 : decode cX11_addRule 65 = .ok (.aload_n 0, 1) := dkg_X11_40.2.2.2.2.2.1
theorem dX11_addRule_66 : decode cX11_addRule 66 = .ok (.getfield 14, 3) := dkg_X11_40.2.2.2.2.2.2.1
theorem dX11_addRule_69 : decode cX11_addRule 69 = .ok (.getfield 99, 3) := dkg_X11_40.2.2.2.2.2.2.2.1
theorem dX11_addRule_72 : decode cX11_addRule 72 = .ok (.if_icmp .ge 46, 3) := dkg_X11_40.2.2.2.2.2.2.2.2.1
theorem dX11_addRule_75 : decode cX11_addRule 75 = .ok (.aload_n 0, 1) := dkg_X11_40.2.2.2.2.2.2.2.2.2.1
theorem dkg_X11_41 : dkp cX11_addRule [(76, .getfield 14, 3), (79, .iconst 0, 1), (80, .iload_n 3, 1), (81, .bipush 33, 2), (83, .bipush 125, 2), (85, .invokevirtual 171, 3), (88, .ifCond .eq 30, 3), (91, .aload_n 0, 1), (92, .iload_n 3, 1), (93, .aload 4, 2)] := dkf (by decide +kernel)
theorem dX11_addRule_76 : decode cX11_addRule 76 = .ok (.getfield 14, 3) := dkg_X11_41.1
theorem dX11_addRule_79 : decode cX11_addRule 79 = .ok (.iconst 0, 1) := dkg_X11_41.2.1
theorem dX11_addRule_80 : decode cX11_addRule 80 = .ok (.iload_n 3, 1) := dkg_X11_41.2.2.1
theorem dX11_addRule_81 : decode cX11_addRule 81 = .ok (.bipush 33, 2) := dkg_X11_41.2.2.2.1
theorem dX11_addRule_83 : decode cX11_addRule 83 = .ok (.bipush 125, 2) := dkg_X11_41.2.2.2.2.1
theorem dX11_addRule_85 : decode cX11_addRule 85 = .ok (.invokevirtual 171, 3) := dkg_X11_41.2.2.2.2.2.1
theorem dX11_addRule_88 : decode cX11_addRule 88 = .ok (.ifCond .eq 30, 3) := dkg_X11_41.2.2.2.2.2.2.1
theorem dX11_addRule_91 : decode cX11_addRule 91 = .ok (.aload_n 0, 1) := dkg_X11_41.2.2.2.2.2.2.2.1
theorem dX11_addRule_92 : decode cX11_addRule 92 = .ok (.iload_n 3, 1) := dkg_X11_41.2.2.2.2.2.2.2.2.1
theorem dX11_addRule_93 : decode cX11_addRule 93 = .ok (.aload 4, 2) := dkg_X11_41.2.2.2.2.2.2.2.2.2.1
theorem dkg_X11_42 : dkp cX11_addRule [(95, .getfield 138, 3), (98, .invokevirtual 175, 3), (101, .ifCond .eq 17, 3), (104, .aload 4, 2), (106, .getfield 179, 3), (109, .invokevirtual 183, 3), (112, .sipush 200, 3), (115, .if_icmp .lt 10, 3), (118, .aload_n 0, 1), (119, .bipush 6, 2)] := dkf (by decide +kernel)
theorem dX11_addRule_95 : decode cX11_addRule 95 = .ok (.getfield 138, 3) := dkg_X11_42.1
theorem dX11_addRule_98 : decode cX11_addRule 98 = .ok (.invokevirtual 175, 3) := dkg_X11_42.2.1
theorem dX11_addRule_101 : decode cX11_addRule 101 = .ok (.ifCond .eq 17, 3) := dkg_X11_42.2.2.1
theorem dX11_addRule_104 : decode cX11_addRule 104 = .ok (.aload 4, 2) := dkg_X11_42.2.2.2.1
theorem dX11_addRule_106 : decode cX11_addRule 106 = .ok (.getfield 179, 3) := dkg_X11_42.2.2.2.2.1
theorem dX11_addRule_109 : decode cX11_addRule 109 = .ok (.invokevirtual 183, 3) := dkg_X11_42.2.2.2.2.2.1
theorem dX11_addRule_112 : decode cX11_addRule 112 = .ok (.sipush 200, 3) := dkg_X11_42.2.2.2.2.2.2.1
theorem dX11_addRule_115 : decode cX11_addRule 115 = .ok (.if_icmp .lt 10, 3) := dkg_X11_42.2.2.2.2.2.2.2.1
theorem dX11_addRule_118 : decode cX11_addRule 118 = .ok (.aload_n 0, 1) := dkg_X11_42.2.2.2.2.2.2.2.2.1
theorem dX11_addRule_119 : decode cX11_addRule 119 = .ok (.bipush 6, 2) := dkg_X11_42.2.2.2.2.2.2.2.2.2.1
theorem dkg_X11_43 : dkp cX11_addRule [(121, .invokevirtual 102, 3), (124, .ireturn, 1), (125, .new 188, 3), (128, .dup, 1), (129, .iconst 4, 1), (130, .aload_n 0, 1), (131, .getfield 14, 3), (134, .iconst 0, 1), (135, .iload_n 3, 1), (136, .invokevirtual 190, 3)] := dkf (by decide +kernel)
theorem dX11_addRule_121 : decode cX11_addRule 121 = .ok (.invokevirtual 102, 3) := dkg_X11_43.1
theorem dX11_addRule_124 : decode cX11_addRule 124 = .ok (.ireturn, 1) := dkg_X11_43.2.1
theorem dX11_addRule_125 : decode cX11_addRule 125 = .ok (.new 188, 3) := dkg_X11_43.2.2.1
theorem dX11_addRule_128 : decode cX11_addRule 128 = .ok (.dup, 1) := dkg_X11_43.2.2.2.1
theorem dX11_addRule_129 : decode cX11_addRule 129 = .ok (.iconst 4, 1) := dkg_X11_43.2.2.2.2.1
theorem dX11_addRule_130 : decode cX11_addRule 130 = .ok (.aload_n 0, 1) := dkg_X11_43.2.2.2.2.2.1
theorem dX11_addRule_131 : decode cX11_addRule 131 = .ok (.getfield 14, 3) := dkg_X11_43.2.2.2.2.2.2.1
theorem dX11_addRule_134 : decode cX11_addRule 134 = .ok (.iconst 0, 1) := dkg_X11_43.2.2.2.2.2.2.2.1
theorem dX11_addRule_135 : decode cX11_addRule 135 = .ok (.iload_n 3, 1) := dkg_X11_43.2.2.2.2.2.2.2.2.1
theorem dX11_addRule_136 : decode cX11_addRule 136 = .ok (.invokevirtual 190, 3) := dkg_X11_43.2.2.2.2.2.2.2.2.2.1
theorem dkg_X11_44 : dkp cX11_addRule [(139, .aload_n 0, 1), (140, .getfield 14, 3), (143, .iload_n 3, 1), (144, .aload_n 0, 1), (145, .getfield 14, 3), (148, .getfield 99, 3), (151, .invokevirtual 190, 3), (154, .invokespecial 194, 3), (157, .astore 5, 2), (159, .aload 5, 2)] := dkf (by decide +kernel)
theorem dX11_addRule_139 : decode cX11_addRule 139 = .ok (.aload_n 0, 1) := dkg_X11_44.1
theorem dX11_addRule_140 : decode cX11_addRule 140 = .ok (.getfield 14, 3) := dkg_X11_44.2.1
theorem dX11_addRule_143 : decode cX11_addRule 143 = .ok (.iload_n 3, 1) := dkg_X11_44.2.2.1
theorem dX11_addRule_144 : decode cX11_addRule 144 = .ok (.aload_n 0, 1) := dkg_X11_44.2.2.2.1
theorem dX11_addRule_145 : decode cX11_addRule 145 = .ok (.getfield 14, 3) := dkg_X11_44.2.2.2.2.1
theorem dX11_addRule_148 : decode cX11_addRule 148 = .ok (.getfield 99, 3) := dkg_X11_44.2.2.2.2.2.1
theorem dX11_addRule_151 : decode cX11_addRule 151 = .ok (.invokevirtual 190, 3) := dkg_X11_44.2.2.2.2.2.2.1
theorem dX11_addRule_154 : decode cX11_addRule 154 = .ok (.invokespecial 194, 3) := dkg_X11_44.2.2.2.2.2.2.2.1
theorem dX11_addRule_157 : decode cX11_addRule 157 = .ok (.astore 5, 2) := dkg_X11_44.2.2.2.2.2.2.2.2.1
theorem dX11_addRule_159 : decode cX11_addRule 159 = .ok (.aload 5, 2) := dkg_X11_44.2.2.2.2.2.2.2.2.2.1
theorem dkg_X11_45 : dkp cX11_addRule [(161, .iload_n 2, 1), (162, .putfield 197, 3), (165, .aload 4, 2), (167, .aload 5, 2), (169, .invokevirtual 200, 3), (172, .aload_n 0, 1), (173, .getfield 30, 3), (176, .new 147, 3), (179, .dup, 1), (180, .iconst 2, 1)] := dkf (by decide +kernel)
theorem dX11_addRule_161 : decode cX11_addRule 161 = .ok (.iload_n 2, 1) := dkg_X11_45.1
theorem dX11_addRule_162 : decode cX11_addRule 162 = .ok (.putfield 197, 3) := dkg_X11_45.2.1
theorem dX11_addRule_165 : decode cX11_addRule 165 = .ok (.aload 4, 2) := dkg_X11_45.2.2.1
theorem dX11_addRule_167 : decode cX11_addRule 167 = .ok (.aload 5, 2) := dkg_X11_45.2.2.2.1
theorem dX11_addRule_169 : decode cX11_addRule 169 = .ok (.invokevirtual 200, 3) := dkg_X11_45.2.2.2.2.1
theorem dX11_addRule_172 : decode cX11_addRule 172 = .ok (.aload_n 0, 1) := dkg_X11_45.2.2.2.2.2.1
theorem dX11_addRule_173 : decode cX11_addRule 173 = .ok (.getfield 30, 3) := dkg_X11_45.2.2.2.2.2.2.1
theorem dX11_addRule_176 : decode cX11_addRule 176 = .ok (.new 147, 3) := dkg_X11_45.2.2.2.2.2.2.2.1
theorem dX11_addRule_179 : decode cX11_addRule 179 = .ok (.dup, 1) := dkg_X11_45.2.2.2.2.2.2.2.2.1
theorem dX11_addRule_180 : decode cX11_addRule 180 = .ok (.iconst 2, 1) := dkg_X11_45.2.2.2.2.2.2.2.2.2.1
theorem dkg_X11_46 : dkp cX11_addRule [(181, .aload 4, 2), (183, .aload 5, 2), (185, .iconst 0, 1), (186, .invokespecial 149, 3), (189, .invokevirtual 152, 3), (192, .aload_n 0, 1), (193, .aload 4, 2), (195, .getfield 179, 3), (198, .invokevirtual 183, 3), (201, .iconst 1, 1)] := dkf (by decide +kernel)
theorem dX11_addRule_181 : decode cX11_addRule 181 = .ok (.aload 4, 2) := dkg_X11_46.1
theorem dX11_addRule_183 : decode cX11_addRule 183 = .ok (.aload 5, 2) := dkg_X11_46.2.1
theorem dX11_addRule_185 : decode cX11_addRule 185 = .ok (.iconst 0, 1) := dkg_X11_46.2.2.1
theorem dX11_addRule_186 : decode cX11_addRule 186 = .ok (.invokespecial 149, 3) := dkg_X11_46.2.2.2.1
theorem dX11_addRule_189 : decode cX11_addRule 189 = .ok (.invokevirtual 152, 3) := dkg_X11_46.2.2.2.2.1
theorem dX11_addRule_192 : decode cX11_addRule 192 = .ok (.aload_n 0, 1) := dkg_X11_46.2.2.2.2.2.1
theorem dX11_addRule_193 : decode cX11_addRule 193 = .ok (.aload 4, 2) := dkg_X11_46.2.2.2.2.2.2.1
theorem dX11_addRule_195 : decode cX11_addRule 195 = .ok (.getfield 179, 3) := dkg_X11_46.2.2.2.2.2.2.2.1
theorem dX11_addRule_198 : decode cX11_addRule 198 = .ok (.invokevirtual 183, 3) := dkg_X11_46.2.2.2.2.2.2.2.2.1
theorem dX11_addRule_201 : decode cX11_addRule 201 = .ok (.iconst 1, 1) := dkg_X11_46.2.2.2.2.2.2.2.2.2.1
theorem dkg_X11_47 : dkp cX11_addRule [(202, .isub, 1), (203, .invokevirtual 109, 3), (206, .ireturn, 1)] := dkf (by decide +kernel)
theorem dX11_addRule_202 : decode cX11_addRule 202 = .ok (.isub, 1) := dkg_X11_47.1
theorem dX11_addRule_203 : decode cX11_addRule 203 = .ok (.invokevirtual 109, 3) := dkg_X11_47.2.1
theorem dX11_addRule_206 : decode cX11_addRule 206 = .ok (.ireturn, 1) := dkg_X11_47.2.2.1
theorem dkg_X11_48 : dkp cX11_isCondition [(0, .iload_n 0, 1), (1, .ifCond .lt 12, 3), (4, .iload_n 0, 1), (5, .iconst 5, 1), (6, .if_icmp .gt 7, 3), (9, .iconst 1, 1), (10, .goto 4, 3), (13, .iconst 0, 1), (14, .ireturn, 1)] := dkf (by decide +kernel)
theorem dX11_isCondition_0 : decode cX11_isCondition 0 = .ok (.iload_n 0, 1) := dkg_X11_48.1
theorem dX11_isCondition_1 : decode cX11_isCondition 1 = .ok (.ifCond .lt 12, 3) := dkg_X11_48.2.1
theorem dX11_isCondition_4 : decode cX11_isCondition 4 = .ok (.iload_n 0, 1) := dkg_X11_48.2.2.1
theorem dX11_isCondition_5 : decode cX11_isCondition 5 = .ok (.iconst 5, 1) := dkg_X11_48.2.2.2.1
theorem dX11_isCondition_6 : decode cX11_isCondition 6 = .ok (.if_icmp .gt 7, 3) := dkg_X11_48.2.2.2.2.1
theorem dX11_isCondition_9 : decode cX11_isCondition 9 = .ok (.iconst 1, 1) := dkg_X11_48.2.2.2.2.2.1
theorem dX11_isCondition_10 : decode cX11_isCondition 10 = .ok (.goto 4, 3) := dkg_X11_48.2.2.2.2.2.2.1
theorem dX11_isCondition_13 : decode cX11_isCondition 13 = .ok (.iconst 0, 1) := dkg_X11_48.2.2.2.2.2.2.2.1
theorem dX11_isCondition_14 : decode cX11_isCondition 14 = .ok (.ireturn, 1) := dkg_X11_48.2.2.2.2.2.2.2.2.1
theorem dkg_X11_49 : dkp cX11_isRowOfCells [(0, .aload_n 0, 1), (1, .getfield 14, 3), (4, .getfield 99, 3), (7, .iload_n 1, 1), (8, .isub, 1), (9, .iconst 4, 1), (10, .if_icmp .gt 31, 3), (13, .aload_n 0, 1), (14, .getfield 14, 3), (17, .iload_n 1, 1)] := dkf (by decide +kernel)
theorem dX11_isRowOfCells_0 : decode cX11_isRowOfCells 0 = .ok (.aload_n 0, 1) := dkg_X11_49.1
theorem dX11_isRowOfCells_1 : decode cX11_isRowOfCells 1 = .ok (.getfield 14, 3) := dkg_X11_49.2.1
theorem dX11_isRowOfCells_4 : decode cX11_isRowOfCells 4 = .ok (.getfield 99, 3) := dkg_X11_49.2.2.1
theorem dX11_isRowOfCells_7 : decode cX11_isRowOfCells 7 = .ok (.iload_n 1, 1) := dkg_X11_49.2.2.2.1
theorem dX11_isRowOfCells_8 : decode cX11_isRowOfCells 8 = .ok (.isub, 1) := dkg_X11_49.2.2.2.2.1
theorem dX11_isRowOfCells_9 : decode cX11_isRowOfCells 9 = .ok (.iconst 4, 1) := dkg_X11_49.2.2.2.2.2.1
theorem dX11_isRowOfCells_10 : decode cX11_isRowOfCells 10 = .ok (.if_icmp .gt 31, 3) := dkg_X11_49.2.2.2.2.2.2.1
theorem dX11_isRowOfCells_13 : decode cX11_isRowOfCells 13 = .ok (.aload_n 0, 1) := dkg_X11_49.2.2.2.2.2.2.2.1
theorem dX11_isRowOfCells_14 : decode cX11_isRowOfCells 14 = .ok (.getfield 14, 3) := dkg_X11_49.2.2.2.2.2.2.2.2.1
theorem dX11_isRowOfCells_17 : decode cX11_isRowOfCells 17 = .ok (.iload_n 1, 1) := dkg_X11_49.2.2.2.2.2.2.2.2.2.1
theorem dkg_X11_50 : dkp cX11_isRowOfCells [(18, .aload_n 0, 1), (19, .getfield 14, 3), (22, .getfield 99, 3), (25, .iconst 1, 1), (26, .iconst 1, 1), (27, .iload_n 2, 1), (28, .ishl, 1), (29, .iconst 1, 1), (30, .isub, 1), (31, .invokevirtual 171, 3)] := dkf (by decide +kernel)
theorem dX11_isRowOfCells_18 : decode cX11_isRowOfCells 18 = .ok (.aload_n 0, 1) := dkg_X11_50.1
theorem dX11_isRowOfCells_19 : decode cX11_isRowOfCells 19 = .ok (.getfield 14, 3) := dkg_X11_50.2.1
theorem dX11_isRowOfCells_22 : decode cX11_isRowOfCells 22 = .ok (.getfield 99, 3) := dkg_X11_50.2.2.1
theorem dX11_isRowOfCells_25 : decode cX11_isRowOfCells 25 = .ok (.iconst 1, 1) := dkg_X11_50.2.2.2.1
theorem dX11_isRowOfCells_26 : decode cX11_isRowOfCells 26 = .ok (.iconst 1, 1) := dkg_X11_50.2.2.2.2.1
theorem dX11_isRowOfCells_27 : decode cX11_isRowOfCells 27 = .ok (.iload_n 2, 1) := dkg_X11_50.2.2.2.2.2.1
theorem dX11_isRowOfCells_28 : decode cX11_isRowOfCells 28 = .ok (.ishl, 1) := dkg_X11_50.2.2.2.2.2.2.1
theorem dX11_isRowOfCells_29 : decode cX11_isRowOfCells 29 = .ok (.iconst 1, 1) := dkg_X11_50.2.2.2.2.2.2.2.1
theorem dX11_isRowOfCells_30 : decode cX11_isRowOfCells 30 = .ok (.isub, 1) := dkg_X11_50.2.2.2.2.2.2.2.2.1
theorem dX11_isRowOfCells_31 : decode cX11_isRowOfCells 31 = .ok (.invokevirtual 171, 3) := dkg_X11_50.2.2.2.2.2.2.2.2.2.1
theorem dkg_X11_51 : dkp cX11_isRowOfCells [(34, .ifCond .eq 7, 3), (37, .iconst 1, 1), (38, .goto 4, 3), (41, .iconst 0, 1), (42, .ireturn, 1)] := dkf (by decide +kernel)
theorem dX11_isRowOfCells_34 : decode cX11_isRowOfCells 34 = .ok (.ifCond .eq 7, 3) := dkg_X11_51.1
theorem dX11_isRowOfCells_37 : decode cX11_isRowOfCells 37 = .ok (.iconst 1, 1) := dkg_X11_51.2.1
theorem dX11_isRowOfCells_38 : decode cX11_isRowOfCells 38 = .ok (.goto 4, 3) := dkg_X11_51.2.2.1
theorem dX11_isRowOfCells_41 : decode cX11_isRowOfCells 41 = .ok (.iconst 0, 1) := dkg_X11_51.2.2.2.1
theorem dX11_isRowOfCells_42 : decode cX11_isRowOfCells 42 = .ok (.ireturn, 1) := dkg_X11_51.2.2.2.2.1
theorem dkg_X11_52 : dkp cX11_condition [(0, .aload_n 0, 1), (1, .getfield 30, 3), (4, .iload_n 1, 1), (5, .invokevirtual 131, 3), (8, .astore 4, 2), (10, .aload 4, 2), (12, .ifnonnull 9, 3), (15, .aload_n 0, 1), (16, .iconst 3, 1), (17, .invokevirtual 102, 3)] := dkf (by decide +kernel)
theorem dX11_condition_0 : decode cX11_condition 0 = .ok (.aload_n 0, 1) := dkg_X11_52.1
theorem dX11_condition_1 : decode cX11_condition 1 = .ok (.getfield 30, 3) := dkg_X11_52.2.1
theorem dX11_condition_4 : decode cX11_condition 4 = .ok (.iload_n 1, 1) := dkg_X11_52.2.2.1
theorem dX11_condition_5 : decode cX11_condition 5 = .ok (.invokevirtual 131, 3) := dkg_X11_52.2.2.2.1
theorem dX11_condition_8 : decode cX11_condition 8 = .ok (.astore 4, 2) := dkg_X11_52.2.2.2.2.1
theorem dX11_condition_10 : decode cX11_condition 10 = .ok (.aload 4, 2) := dkg_X11_52.2.2.2.2.2.1
theorem dX11_condition_12 : decode cX11_condition 12 = .ok (.ifnonnull 9, 3) := dkg_X11_52.2.2.2.2.2.2.1
theorem dX11_condition_15 : decode cX11_condition 15 = .ok (.aload_n 0, 1) := dkg_X11_52.2.2.2.2.2.2.2.1
theorem dX11_condition_16 : decode cX11_condition 16 = .ok (.iconst 3, 1) := dkg_X11_52.2.2.2.2.2.2.2.2.1
theorem dX11_condition_17 : decode cX11_condition 17 = .ok (.invokevirtual 102, 3) := dkg_X11_52.2.2.2.2.2.2.2.2.2.1
theorem dkg_X11_53 : dkp cX11_condition [(20, .ireturn, 1), (21, .aload 4, 2), (23, .getfield 135, 3), (26, .iconst 5, 1), (27, .if_icmp .ne 9, 3), (30, .aload_n 0, 1), (31, .iconst 4, 1), (32, .invokevirtual 102, 3), (35, .ireturn, 1), (36, .iload_n 2, 1)] := dkf (by decide +kernel)
theorem dX11_condition_20 : decode cX11_condition 20 = .ok (.ireturn, 1) := dkg_X11_53.1
theorem dX11_condition_21 : decode cX11_condition 21 = .ok (.aload 4, 2) := dkg_X11_53.2.1
theorem dX11_condition_23 : decode cX11_condition 23 = .ok (.getfield 135, 3) := dkg_X11_53.2.2.1
theorem dX11_condition_26 : decode cX11_condition 26 = .ok (.iconst 5, 1) := dkg_X11_53.2.2.2.1
theorem dX11_condition_27 : decode cX11_condition 27 = .ok (.if_icmp .ne 9, 3) := dkg_X11_53.2.2.2.2.1
theorem dX11_condition_30 : decode cX11_condition 30 = .ok (.aload_n 0, 1) := dkg_X11_53.2.2.2.2.2.1
theorem dX11_condition_31 : decode cX11_condition 31 = .ok (.iconst 4, 1) := dkg_X11_53.2.2.2.2.2.2.1
theorem dX11_condition_32 : decode cX11_condition 32 = .ok (.invokevirtual 102, 3) := dkg_X11_53.2.2.2.2.2.2.2.1
theorem dX11_condition_35 : decode cX11_condition 35 = .ok (.ireturn, 1) := dkg_X11_53.2.2.2.2.2.2.2.2.1
theorem dX11_condition_36 : decode cX11_condition 36 = .ok (.iload_n 2, 1) := dkg_X11_53.2.2.2.2.2.2.2.2.2.1
theorem dkg_X11_54 : dkp cX11_condition [(37, .ifCond .lt 15, 3), (40, .iload_n 2, 1), (41, .aload 4, 2), (43, .getfield 179, 3), (46, .invokevirtual 183, 3), (49, .if_icmp .lt 9, 3), (52, .aload_n 0, 1), (53, .iconst 2, 1), (54, .invokevirtual 102, 3), (57, .ireturn, 1)] := dkf (by decide +kernel)
theorem dX11_condition_37 : decode cX11_condition 37 = .ok (.ifCond .lt 15, 3) := dkg_X11_54.1
theorem dX11_condition_40 : decode cX11_condition 40 = .ok (.iload_n 2, 1) := dkg_X11_54.2.1
theorem dX11_condition_41 : decode cX11_condition 41 = .ok (.aload 4, 2) := dkg_X11_54.2.2.1
theorem dX11_condition_43 : decode cX11_condition 43 = .ok (.getfield 179, 3) := dkg_X11_54.2.2.2.1
theorem dX11_condition_46 : decode cX11_condition 46 = .ok (.invokevirtual 183, 3) := dkg_X11_54.2.2.2.2.1
theorem dX11_condition_49 : decode cX11_condition 49 = .ok (.if_icmp .lt 9, 3) := dkg_X11_54.2.2.2.2.2.1
theorem dX11_condition_52 : decode cX11_condition 52 = .ok (.aload_n 0, 1) := dkg_X11_54.2.2.2.2.2.2.1
theorem dX11_condition_53 : decode cX11_condition 53 = .ok (.iconst 2, 1) := dkg_X11_54.2.2.2.2.2.2.2.1
theorem dX11_condition_54 : decode cX11_condition 54 = .ok (.invokevirtual 102, 3) := dkg_X11_54.2.2.2.2.2.2.2.2.1
theorem dX11_condition_57 : decode cX11_condition 57 = .ok (.ireturn, 1) := dkg_X11_54.2.2.2.2.2.2.2.2.2.1
theorem dkg_X11_55 : dkp cX11_condition [(58, .iload_n 3, 1), (59, .invokestatic 167, 3), (62, .ifCond .ne 10, 3), (65, .aload_n 0, 1), (66, .bipush 6, 2), (68, .invokevirtual 102, 3), (71, .ireturn, 1), (72, .aload 4, 2), (74, .getfield 179, 3), (77, .iload_n 2, 1)] := dkf (by decide +kernel)
theorem dX11_condition_58 : decode cX11_condition 58 = .ok (.iload_n 3, 1) := dkg_X11_55.1
theorem dX11_condition_59 : decode cX11_condition 59 = .ok (.invokestatic 167, 3) := dkg_X11_55.2.1
theorem dX11_condition_62 : decode cX11_condition 62 = .ok (.ifCond .ne 10, 3) := dkg_X11_55.2.2.1
theorem dX11_condition_65 : decode cX11_condition 65 = .ok (.aload_n 0, 1) := dkg_X11_55.2.2.2.1
theorem dX11_condition_66 : decode cX11_condition 66 = .ok (.bipush 6, 2) := dkg_X11_55.2.2.2.2.1
theorem dX11_condition_68 : decode cX11_condition 68 = .ok (.invokevirtual 102, 3) := dkg_X11_55.2.2.2.2.2.1
theorem dX11_condition_71 : decode cX11_condition 71 = .ok (.ireturn, 1) := dkg_X11_55.2.2.2.2.2.2.1
theorem dX11_condition_72 : decode cX11_condition 72 = .ok (.aload 4, 2) := dkg_X11_55.2.2.2.2.2.2.2.1
theorem dX11_condition_74 : decode cX11_condition 74 = .ok (.getfield 179, 3) := dkg_X11_55.2.2.2.2.2.2.2.2.1
theorem dX11_condition_77 : decode cX11_condition 77 = .ok (.iload_n 2, 1) := dkg_X11_55.2.2.2.2.2.2.2.2.2.1
theorem dkg_X11_56 : dkp cX11_condition [(78, .invokevirtual 204, 3), (81, .checkcast 188, 3), (84, .astore 5, 2), (86, .aload 5, 2), (88, .getfield 197, 3), (91, .istore 6, 2), (93, .aload_n 0, 1), (94, .getfield 30, 3), (97, .new 147, 3), (100, .dup, 1)] := dkf (by decide +kernel)
theorem dX11_condition_78 : decode cX11_condition 78 = .ok (.invokevirtual 204, 3) := dkg_X11_56.1
theorem dX11_condition_81 : decode cX11_condition 81 = .ok (.checkcast 188, 3) := dkg_X11_56.2.1
theorem dX11_condition_84 : decode cX11_condition 84 = .ok (.astore 5, 2) := dkg_X11_56.2.2.1
theorem dX11_condition_86 : decode cX11_condition 86 = .ok (.aload 5, 2) := dkg_X11_56.2.2.2.1
theorem dX11_condition_88 : decode cX11_condition 88 = .ok (.getfield 197, 3) := dkg_X11_56.2.2.2.2.1
theorem dX11_condition_91 : decode cX11_condition 91 = .ok (.istore 6, 2) := dkg_X11_56.2.2.2.2.2.1
theorem dX11_condition_93 : decode cX11_condition 93 = .ok (.aload_n 0, 1) := dkg_X11_56.2.2.2.2.2.2.1
theorem dX11_condition_94 : decode cX11_condition 94 = .ok (.getfield 30, 3) := dkg_X11_56.2.2.2.2.2.2.2.1
theorem dX11_condition_97 : decode cX11_condition 97 = .ok (.new 147, 3) := dkg_X11_56.2.2.2.2.2.2.2.2.1
theorem dX11_condition_100 : decode cX11_condition 100 = .ok (.dup, 1) := dkg_X11_56.2.2.2.2.2.2.2.2.2.1
theorem dkg_X11_57 : dkp cX11_condition [(101, .iconst 3, 1), (102, .aload 4, 2), (104, .aload 5, 2), (106, .iload 6, 2), (108, .invokespecial 149, 3), (111, .invokevirtual 152, 3), (114, .aload 5, 2), (116, .iload_n 3, 1), (117, .putfield 197, 3), (120, .aload_n 0, 1)] := dkf (by decide +kernel)
theorem dX11_condition_101 : decode cX11_condition 101 = .ok (.iconst 3, 1) := dkg_X11_57.1
theorem dX11_condition_102 : decode cX11_condition 102 = .ok (.aload 4, 2) := dkg_X11_57.2.1
theorem dX11_condition_104 : decode cX11_condition 104 = .ok (.aload 5, 2) := dkg_X11_57.2.2.1
theorem dX11_condition_106 : decode cX11_condition 106 = .ok (.iload 6, 2) := dkg_X11_57.2.2.2.1
theorem dX11_condition_108 : decode cX11_condition 108 = .ok (.invokespecial 149, 3) := dkg_X11_57.2.2.2.2.1
theorem dX11_condition_111 : decode cX11_condition 111 = .ok (.invokevirtual 152, 3) := dkg_X11_57.2.2.2.2.2.1
theorem dX11_condition_114 : decode cX11_condition 114 = .ok (.aload 5, 2) := dkg_X11_57.2.2.2.2.2.2.1
theorem dX11_condition_116 : decode cX11_condition 116 = .ok (.iload_n 3, 1) := dkg_X11_57.2.2.2.2.2.2.2.1
theorem dX11_condition_117 : decode cX11_condition 117 = .ok (.putfield 197, 3) := dkg_X11_57.2.2.2.2.2.2.2.2.1
theorem dX11_condition_120 : decode cX11_condition 120 = .ok (.aload_n 0, 1) := dkg_X11_57.2.2.2.2.2.2.2.2.2.1
theorem dkg_X11_58 : dkp cX11_condition [(121, .iload 6, 2), (123, .invokevirtual 109, 3), (126, .ireturn, 1)] := dkf (by decide +kernel)
theorem dX11_condition_121 : decode cX11_condition 121 = .ok (.iload 6, 2) := dkg_X11_58.1
theorem dX11_condition_123 : decode cX11_condition 123 = .ok (.invokevirtual 109, 3) := dkg_X11_58.2.1
theorem dX11_condition_126 : decode cX11_condition 126 = .ok (.ireturn, 1) := dkg_X11_58.2.2.1
theorem dkg_X11_59 : dkp cX11_indicator [(0, .aload_n 0, 1), (1, .iload_n 1, 1), (2, .iload_n 2, 1), (3, .invokevirtual 208, 3), (6, .istore_n 3, 1), (7, .aload_n 0, 1), (8, .getfield 14, 3), (11, .invokevirtual 164, 3), (14, .iload_n 3, 1), (15, .ireturn, 1)] := dkf (by decide +kernel)
theorem dX11_indicator_0 : decode cX11_indicator 0 = .ok (.aload_n 0, 1) := dkg_X11_59.1
theorem dX11_indicator_1 : decode cX11_indicator 1 = .ok (.iload_n 1, 1) := dkg_X11_59.2.1
theorem dX11_indicator_2 : decode cX11_indicator 2 = .ok (.iload_n 2, 1) := dkg_X11_59.2.2.1
theorem dX11_indicator_3 : decode cX11_indicator 3 = .ok (.invokevirtual 208, 3) := dkg_X11_59.2.2.2.1
theorem dX11_indicator_6 : decode cX11_indicator 6 = .ok (.istore_n 3, 1) := dkg_X11_59.2.2.2.2.1
theorem dX11_indicator_7 : decode cX11_indicator 7 = .ok (.aload_n 0, 1) := dkg_X11_59.2.2.2.2.2.1
theorem dX11_indicator_8 : decode cX11_indicator 8 = .ok (.getfield 14, 3) := dkg_X11_59.2.2.2.2.2.2.1
theorem dX11_indicator_11 : decode cX11_indicator 11 = .ok (.invokevirtual 164, 3) := dkg_X11_59.2.2.2.2.2.2.2.1
theorem dX11_indicator_14 : decode cX11_indicator 14 = .ok (.iload_n 3, 1) := dkg_X11_59.2.2.2.2.2.2.2.2.1
theorem dX11_indicator_15 : decode cX11_indicator 15 = .ok (.ireturn, 1) := dkg_X11_59.2.2.2.2.2.2.2.2.2.1
theorem dkg_X11_60 : dkp cX11_changeIndicator [(0, .iload_n 2, 1), (1, .ifCond .lt 8, 3), (4, .iload_n 2, 1), (5, .iconst 3, 1), (6, .if_icmp .le 10, 3), (9, .aload_n 0, 1), (10, .bipush 6, 2), (12, .invokevirtual 102, 3), (15, .ireturn, 1), (16, .aload_n 0, 1)] := dkf (by decide +kernel)
theorem dX11_changeIndicator_0 : decode cX11_changeIndicator 0 = .ok (.iload_n 2, 1) := dkg_X11_60.1
theorem dX11_changeIndicator_1 : decode cX11_changeIndicator 1 = .ok (.ifCond .lt 8, 3) := dkg_X11_60.2.1
theorem dX11_changeIndicator_4 : decode cX11_changeIndicator 4 = .ok (.iload_n 2, 1) := dkg_X11_60.2.2.1
theorem dX11_changeIndicator_5 : decode cX11_changeIndicator 5 = .ok (.iconst 3, 1) := dkg_X11_60.2.2.2.1
theorem dX11_changeIndicator_6 : decode cX11_changeIndicator 6 = .ok (.if_icmp .le 10, 3) := dkg_X11_60.2.2.2.2.1
theorem dX11_changeIndicator_9 : decode cX11_changeIndicator 9 = .ok (.aload_n 0, 1) := dkg_X11_60.2.2.2.2.2.1
theorem dX11_changeIndicator_10 : decode cX11_changeIndicator 10 = .ok (.bipush 6, 2) := dkg_X11_60.2.2.2.2.2.2.1
theorem dX11_changeIndicator_12 : decode cX11_changeIndicator 12 = .ok (.invokevirtual 102, 3) := dkg_X11_60.2.2.2.2.2.2.2.1
theorem dX11_changeIndicator_15 : decode cX11_changeIndicator 15 = .ok (.ireturn, 1) := dkg_X11_60.2.2.2.2.2.2.2.2.1
theorem dX11_changeIndicator_16 : decode cX11_changeIndicator 16 = .ok (.aload_n 0, 1) := dkg_X11_60.2.2.2.2.2.2.2.2.2.1
theorem dkg_X11_61 : dkp cX11_changeIndicator [(17, .getfield 30, 3), (20, .iload_n 1, 1), (21, .invokevirtual 131, 3), (24, .astore_n 3, 1), (25, .aload_n 3, 1), (26, .ifnonnull 9, 3), (29, .aload_n 0, 1), (30, .iconst 3, 1), (31, .invokevirtual 102, 3), (34, .ireturn, 1)] := dkf (by decide +kernel)
theorem dX11_changeIndicator_17 : decode cX11_changeIndicator 17 = .ok (.getfield 30, 3) := dkg_X11_61.1
theorem dX11_changeIndicator_20 : decode cX11_changeIndicator 20 = .ok (.iload_n 1, 1) := dkg_X11_61.2.1
theorem dX11_changeIndicator_21 : decode cX11_changeIndicator 21 = .ok (.invokevirtual 131, 3) := dkg_X11_61.2.2.1
theorem dX11_changeIndicator_24 : decode cX11_changeIndicator 24 = .ok (.astore_n 3, 1) := dkg_X11_61.2.2.2.1
theorem dX11_changeIndicator_25 : decode cX11_changeIndicator 25 = .ok (.aload_n 3, 1) := dkg_X11_61.2.2.2.2.1
theorem dX11_changeIndicator_26 : decode cX11_changeIndicator 26 = .ok (.ifnonnull 9, 3) := dkg_X11_61.2.2.2.2.2.1
theorem dX11_changeIndicator_29 : decode cX11_changeIndicator 29 = .ok (.aload_n 0, 1) := dkg_X11_61.2.2.2.2.2.2.1
theorem dX11_changeIndicator_30 : decode cX11_changeIndicator 30 = .ok (.iconst 3, 1) := dkg_X11_61.2.2.2.2.2.2.2.1
theorem dX11_changeIndicator_31 : decode cX11_changeIndicator 31 = .ok (.invokevirtual 102, 3) := dkg_X11_61.2.2.2.2.2.2.2.2.1
theorem dX11_changeIndicator_34 : decode cX11_changeIndicator 34 = .ok (.ireturn, 1) := dkg_X11_61.2.2.2.2.2.2.2.2.2.1
theorem dkg_X11_62 : dkp cX11_changeIndicator [(35, .aload_n 3, 1), (36, .iload_n 2, 1), (37, .invokevirtual 211, 3), (40, .ifCond .ne 9, 3), (43, .aload_n 0, 1), (44, .iconst 4, 1), (45, .invokevirtual 102, 3), (48, .ireturn, 1), (49, .aload_n 0, 1), (50, .iconst 0, 1)] := dkf (by decide +kernel)
theorem dX11_changeIndicator_35 : decode cX11_changeIndicator 35 = .ok (.aload_n 3, 1) := dkg_X11_62.1
theorem dX11_changeIndicator_36 : decode cX11_changeIndicator 36 = .ok (.iload_n 2, 1) := dkg_X11_62.2.1
theorem dX11_changeIndicator_37 : decode cX11_changeIndicator 37 = .ok (.invokevirtual 211, 3) := dkg_X11_62.2.2.1
theorem dX11_changeIndicator_40 : decode cX11_changeIndicator 40 = .ok (.ifCond .ne 9, 3) := dkg_X11_62.2.2.2.1
theorem dX11_changeIndicator_43 : decode cX11_changeIndicator 43 = .ok (.aload_n 0, 1) := dkg_X11_62.2.2.2.2.1
theorem dX11_changeIndicator_44 : decode cX11_changeIndicator 44 = .ok (.iconst 4, 1) := dkg_X11_62.2.2.2.2.2.1
theorem dX11_changeIndicator_45 : decode cX11_changeIndicator 45 = .ok (.invokevirtual 102, 3) := dkg_X11_62.2.2.2.2.2.2.1
theorem dX11_changeIndicator_48 : decode cX11_changeIndicator 48 = .ok (.ireturn, 1) := dkg_X11_62.2.2.2.2.2.2.2.1
theorem dX11_changeIndicator_49 : decode cX11_changeIndicator 49 = .ok (.aload_n 0, 1) := dkg_X11_62.2.2.2.2.2.2.2.2.1
theorem dX11_changeIndicator_50 : decode cX11_changeIndicator 50 = .ok (.iconst 0, 1) := dkg_X11_62.2.2.2.2.2.2.2.2.2.1
theorem dkg_X11_63 : dkp cX11_changeIndicator [(51, .aload_n 3, 1), (52, .getfield 138, 3), (55, .invokevirtual 175, 3), (58, .ifCond .ne 10, 3), (61, .aload_n 0, 1), (62, .bipush 6, 2), (64, .invokevirtual 102, 3), (67, .ireturn, 1), (68, .aload_n 0, 1), (69, .getfield 30, 3)] := dkf (by decide +kernel)
theorem dX11_changeIndicator_51 : decode cX11_changeIndicator 51 = .ok (.aload_n 3, 1) := dkg_X11_63.1
theorem dX11_changeIndicator_52 : decode cX11_changeIndicator 52 = .ok (.getfield 138, 3) := dkg_X11_63.2.1
theorem dX11_changeIndicator_55 : decode cX11_changeIndicator 55 = .ok (.invokevirtual 175, 3) := dkg_X11_63.2.2.1
theorem dX11_changeIndicator_58 : decode cX11_changeIndicator 58 = .ok (.ifCond .ne 10, 3) := dkg_X11_63.2.2.2.1
theorem dX11_changeIndicator_61 : decode cX11_changeIndicator 61 = .ok (.aload_n 0, 1) := dkg_X11_63.2.2.2.2.1
theorem dX11_changeIndicator_62 : decode cX11_changeIndicator 62 = .ok (.bipush 6, 2) := dkg_X11_63.2.2.2.2.2.1
theorem dX11_changeIndicator_64 : decode cX11_changeIndicator 64 = .ok (.invokevirtual 102, 3) := dkg_X11_63.2.2.2.2.2.2.1
theorem dX11_changeIndicator_67 : decode cX11_changeIndicator 67 = .ok (.ireturn, 1) := dkg_X11_63.2.2.2.2.2.2.2.1
theorem dX11_changeIndicator_68 : decode cX11_changeIndicator 68 = .ok (.aload_n 0, 1) := dkg_X11_63.2.2.2.2.2.2.2.2.1
theorem dX11_changeIndicator_69 : decode cX11_changeIndicator 69 = .ok (.getfield 30, 3) := dkg_X11_63.2.2.2.2.2.2.2.2.2.1
theorem dkg_X11_64 : dkp cX11_changeIndicator [(72, .new 147, 3), (75, .dup, 1), (76, .iconst 4, 1), (77, .aload_n 3, 1), (78, .aload_n 3, 1), (79, .getfield 214, 3), (82, .iload_n 2, 1), (83, .aaload, 1), (84, .iload_n 2, 1), (85, .invokespecial 149, 3)] := dkf (by decide +kernel)
theorem dX11_changeIndicator_72 : decode cX11_changeIndicator 72 = .ok (.new 147, 3) := dkg_X11_64.1
theorem dX11_changeIndicator_75 : decode cX11_changeIndicator 75 = .ok (.dup, 1) := dkg_X11_64.2.1
theorem dX11_changeIndicator_76 : decode cX11_changeIndicator 76 = .ok (.iconst 4, 1) := dkg_X11_64.2.2.1
theorem dX11_changeIndicator_77 : decode cX11_changeIndicator 77 = .ok (.aload_n 3, 1) := dkg_X11_64.2.2.2.1
theorem dX11_changeIndicator_78 : decode cX11_changeIndicator 78 = .ok (.aload_n 3, 1) := dkg_X11_64.2.2.2.2.1
theorem dX11_changeIndicator_79 : decode cX11_changeIndicator 79 = .ok (.getfield 214, 3) := dkg_X11_64.2.2.2.2.2.1
theorem dX11_changeIndicator_82 : decode cX11_changeIndicator 82 = .ok (.iload_n 2, 1) := dkg_X11_64.2.2.2.2.2.2.1
theorem dX11_changeIndicator_83 : decode cX11_changeIndicator 83 = .ok (.aaload, 1) := dkg_X11_64.2.2.2.2.2.2.2.1
theorem dX11_changeIndicator_84 : decode cX11_changeIndicator 84 = .ok (.iload_n 2, 1) := dkg_X11_64.2.2.2.2.2.2.2.2.1
theorem dX11_changeIndicator_85 : decode cX11_changeIndicator 85 = .ok (.invokespecial 149, 3) := dkg_X11_64.2.2.2.2.2.2.2.2.2.1
theorem dkg_X11_65 : dkp cX11_changeIndicator [(88, .invokevirtual 152, 3), (91, .aload_n 3, 1), (92, .getfield 214, 3), (95, .iload_n 2, 1), (96, .aload_n 0, 1), (97, .getfield 14, 3), (100, .getfield 99, 3), (103, .ifCond .ne 7, 3), (106, .aconst_null, 1), (107, .goto 35, 3)] := dkf (by decide +kernel)
theorem dX11_changeIndicator_88 : decode cX11_changeIndicator 88 = .ok (.invokevirtual 152, 3) := dkg_X11_65.1
theorem dX11_changeIndicator_91 : decode cX11_changeIndicator 91 = .ok (.aload_n 3, 1) := dkg_X11_65.2.1
theorem dX11_changeIndicator_92 : decode cX11_changeIndicator 92 = .ok (.getfield 214, 3) := dkg_X11_65.2.2.1
theorem dX11_changeIndicator_95 : decode cX11_changeIndicator 95 = .ok (.iload_n 2, 1) := dkg_X11_65.2.2.2.1
theorem dX11_changeIndicator_96 : decode cX11_changeIndicator 96 = .ok (.aload_n 0, 1) := dkg_X11_65.2.2.2.2.1
theorem dX11_changeIndicator_97 : decode cX11_changeIndicator 97 = .ok (.getfield 14, 3) := dkg_X11_65.2.2.2.2.2.1
theorem dX11_changeIndicator_100 : decode cX11_changeIndicator 100 = .ok (.getfield 99, 3) := dkg_X11_65.2.2.2.2.2.2.1
theorem dX11_changeIndicator_103 : decode cX11_changeIndicator 103 = .ok (.ifCond .ne 7, 3) := dkg_X11_65.2.2.2.2.2.2.2.1
theorem dX11_changeIndicator_106 : decode cX11_changeIndicator 106 = .ok (.aconst_null, 1) := dkg_X11_65.2.2.2.2.2.2.2.2.1
theorem dX11_changeIndicator_107 : decode cX11_changeIndicator 107 = .ok (.goto 35, 3) := dkg_X11_65.2.2.2.2.2.2.2.2.2.1
theorem dkg_X11_66 : dkp cX11_changeIndicator [(110, .new 188, 3), (113, .dup, 1), (114, .iload_n 2, 1), (115, .aload_n 0, 1), (116, .getfield 14, 3), (119, .iconst 0, 1), (120, .iconst 0, 1), (121, .invokevirtual 190, 3), (124, .aload_n 0, 1), (125, .getfield 14, 3)] := dkf (by decide +kernel)
theorem dX11_changeIndicator_110 : decode cX11_changeIndicator 110 = .ok (.new 188, 3) := dkg_X11_66.1
theorem dX11_changeIndicator_113 : decode cX11_changeIndicator 113 = .ok (.dup, 1) := dkg_X11_66.2.1
theorem dX11_changeIndicator_114 : decode cX11_changeIndicator 114 = .ok (.iload_n 2, 1) := dkg_X11_66.2.2.1
theorem dX11_changeIndicator_115 : decode cX11_changeIndicator 115 = .ok (.aload_n 0, 1) := dkg_X11_66.2.2.2.1
theorem dX11_changeIndicator_116 : decode cX11_changeIndicator 116 = .ok (.getfield 14, 3) := dkg_X11_66.2.2.2.2.1
theorem dX11_changeIndicator_119 : decode cX11_changeIndicator 119 = .ok (.iconst 0, 1) := dkg_X11_66.2.2.2.2.2.1
theorem dX11_changeIndicator_120 : decode cX11_changeIndicator 120 = .ok (.iconst 0, 1) := dkg_X11_66.2.2.2.2.2.2.1
theorem dX11_changeIndicator_121 : decode cX11_changeIndicator 121 = .ok (.invokevirtual 190, 3) := dkg_X11_66.2.2.2.2.2.2.2.1
theorem dX11_changeIndicator_124 : decode cX11_changeIndicator 124 = .ok (.aload_n 0, 1) := dkg_X11_66.2.2.2.2.2.2.2.2.1
theorem dX11_changeIndicator_125 : decode cX11_changeIndicator 125 = .ok (.getfield 14, 3) := dkg_X11_66.2.2.2.2.2.2.2.2.2.1
theorem dkg_X11_67 : dkp cX11_changeIndicator [(128, .iconst 0, 1), (129, .aload_n 0, 1), (130, .getfield 14, 3), (133, .getfield 99, 3), (136, .invokevirtual 190, 3), (139, .invokespecial 194, 3), (142, .aastore, 1), (143, .aload_n 0, 1), (144, .aload_n 0, 1), (145, .getfield 14, 3)] := dkf (by decide +kernel)
theorem dX11_changeIndicator_128 : decode cX11_changeIndicator 128 = .ok (.iconst 0, 1) := dkg_X11_67.1
theorem dX11_changeIndicator_129 : decode cX11_changeIndicator 129 = .ok (.aload_n 0, 1) := dkg_X11_67.2.1
theorem dX11_changeIndicator_130 : decode cX11_changeIndicator 130 = .ok (.getfield 14, 3) := dkg_X11_67.2.2.1
theorem dX11_changeIndicator_133 : decode cX11_changeIndicator 133 = .ok (.getfield 99, 3) := dkg_X11_67.2.2.2.1
theorem dX11_changeIndicator_136 : decode cX11_changeIndicator 136 = .ok (.invokevirtual 190, 3) := dkg_X11_67.2.2.2.2.1
theorem dX11_changeIndicator_139 : decode cX11_changeIndicator 139 = .ok (.invokespecial 194, 3) := dkg_X11_67.2.2.2.2.2.1
theorem dX11_changeIndicator_142 : decode cX11_changeIndicator 142 = .ok (.aastore, 1) := dkg_X11_67.2.2.2.2.2.2.1
theorem dX11_changeIndicator_143 : decode cX11_changeIndicator 143 = .ok (.aload_n 0, 1) := dkg_X11_67.2.2.2.2.2.2.2.1
theorem dX11_changeIndicator_144 : decode cX11_changeIndicator 144 = .ok (.aload_n 0, 1) := dkg_X11_67.2.2.2.2.2.2.2.2.1
theorem dX11_changeIndicator_145 : decode cX11_changeIndicator 145 = .ok (.getfield 14, 3) := dkg_X11_67.2.2.2.2.2.2.2.2.2.1
theorem dkg_X11_68 : dkp cX11_changeIndicator [(148, .getfield 99, 3), (151, .invokevirtual 109, 3), (154, .ireturn, 1)] := dkf (by decide +kernel)
theorem dX11_changeIndicator_148 : decode cX11_changeIndicator 148 = .ok (.getfield 99, 3) := dkg_X11_68.1
theorem dX11_changeIndicator_151 : decode cX11_changeIndicator 151 = .ok (.invokevirtual 109, 3) := dkg_X11_68.2.1
theorem dX11_changeIndicator_154 : decode cX11_changeIndicator 154 = .ok (.ireturn, 1) := dkg_X11_68.2.2.1
theorem dkg_X11_69 : dkp cX11_undo [(0, .aload_n 0, 1), (1, .aload_n 0, 1), (2, .getfield 30, 3), (5, .invokevirtual 218, 3), (8, .ifCond .eq 7, 3), (11, .iconst 1, 1), (12, .goto 4, 3), (15, .iconst 0, 1), (16, .invokevirtual 109, 3), (19, .ireturn, 1)] := dkf (by decide +kernel)
theorem dX11_undo_0 : decode cX11_undo 0 = .ok (.aload_n 0, 1) := dkg_X11_69.1
theorem dX11_undo_1 : decode cX11_undo 1 = .ok (.aload_n 0, 1) := dkg_X11_69.2.1
theorem dX11_undo_2 : decode cX11_undo 2 = .ok (.getfield 30, 3) := dkg_X11_69.2.2.1
theorem dX11_undo_5 : decode cX11_undo 5 = .ok (.invokevirtual 218, 3) := dkg_X11_69.2.2.2.1
theorem dX11_undo_8 : decode cX11_undo 8 = .ok (.ifCond .eq 7, 3) := dkg_X11_69.2.2.2.2.1
theorem dX11_undo_11 : decode cX11_undo 11 = .ok (.iconst 1, 1) := dkg_X11_69.2.2.2.2.2.1
theorem dX11_undo_12 : decode cX11_undo 12 = .ok (.goto 4, 3) := dkg_X11_69.2.2.2.2.2.2.1
theorem dX11_undo_15 : decode cX11_undo 15 = .ok (.iconst 0, 1) := dkg_X11_69.2.2.2.2.2.2.2.1
theorem dX11_undo_16 : decode cX11_undo 16 = .ok (.invokevirtual 109, 3) := dkg_X11_69.2.2.2.2.2.2.2.2.1
theorem dX11_undo_19 : decode cX11_undo 19 = .ok (.ireturn, 1) := dkg_X11_69.2.2.2.2.2.2.2.2.2.1
theorem dkg_X11_70 : dkp cX11_text [(0, .aload_n 0, 1), (1, .invokevirtual 221, 3), (4, .istore_n 1, 1), (5, .aload_n 0, 1), (6, .getfield 14, 3), (9, .invokevirtual 164, 3), (12, .iload_n 1, 1), (13, .ireturn, 1)] := dkf (by decide +kernel)
theorem dX11_text_0 : decode cX11_text 0 = .ok (.aload_n 0, 1) := dkg_X11_70.1
theorem dX11_text_1 : decode cX11_text 1 = .ok (.invokevirtual 221, 3) := dkg_X11_70.2.1
theorem dX11_text_4 : decode cX11_text 4 = .ok (.istore_n 1, 1) := dkg_X11_70.2.2.1
theorem dX11_text_5 : decode cX11_text 5 = .ok (.aload_n 0, 1) := dkg_X11_70.2.2.2.1
theorem dX11_text_6 : decode cX11_text 6 = .ok (.getfield 14, 3) := dkg_X11_70.2.2.2.2.1
theorem dX11_text_9 : decode cX11_text 9 = .ok (.invokevirtual 164, 3) := dkg_X11_70.2.2.2.2.2.1
theorem dX11_text_12 : decode cX11_text 12 = .ok (.iload_n 1, 1) := dkg_X11_70.2.2.2.2.2.2.1
theorem dX11_text_13 : decode cX11_text 13 = .ok (.ireturn, 1) := dkg_X11_70.2.2.2.2.2.2.2.1
theorem dkg_X11_71 : dkp cX11_addText [(0, .iconst 0, 1), (1, .istore_n 1, 1), (2, .iload_n 1, 1), (3, .aload_n 0, 1), (4, .getfield 14, 3), (7, .getfield 99, 3), (10, .if_icmp .ge 43, 3), (13, .aload_n 0, 1), (14, .getfield 14, 3), (17, .iload_n 1, 1)] := dkf (by decide +kernel)
theorem dX11_addText_0 : decode cX11_addText 0 = .ok (.iconst 0, 1) := dkg_X11_71.1
theorem dX11_addText_1 : decode cX11_addText 1 = .ok (.istore_n 1, 1) := dkg_X11_71.2.1
theorem dX11_addText_2 : decode cX11_addText 2 = .ok (.iload_n 1, 1) := dkg_X11_71.2.2.1
theorem dX11_addText_3 : decode cX11_addText 3 = .ok (.aload_n 0, 1) := dkg_X11_71.2.2.2.1
theorem dX11_addText_4 : decode cX11_addText 4 = .ok (.getfield 14, 3) := dkg_X11_71.2.2.2.2.1
theorem dX11_addText_7 : decode cX11_addText 7 = .ok (.getfield 99, 3) := dkg_X11_71.2.2.2.2.2.1
theorem dX11_addText_10 : decode cX11_addText 10 = .ok (.if_icmp .ge 43, 3) := dkg_X11_71.2.2.2.2.2.2.1
theorem dX11_addText_13 : decode cX11_addText 13 = .ok (.aload_n 0, 1) := dkg_X11_71.2.2.2.2.2.2.2.1
theorem dX11_addText_14 : decode cX11_addText 14 = .ok (.getfield 14, 3) := dkg_X11_71.2.2.2.2.2.2.2.2.1
theorem dX11_addText_17 : decode cX11_addText 17 = .ok (.iload_n 1, 1) := dkg_X11_71.2.2.2.2.2.2.2.2.2.1
theorem dkg_X11_72 : dkp cX11_addText [(18, .invokevirtual 224, 3), (21, .istore_n 2, 1), (22, .iload_n 2, 1), (23, .bipush 10, 2), (25, .if_icmp .eq 22, 3), (28, .iload_n 2, 1), (29, .bipush 32, 2), (31, .if_icmp .lt 9, 3), (34, .iload_n 2, 1), (35, .bipush 126, 2)] := dkf (by decide +kernel)
theorem dX11_addText_18 : decode cX11_addText 18 = .ok (.invokevirtual 224, 3) := dkg_X11_72.1
theorem dX11_addText_21 : decode cX11_addText 21 = .ok (.istore_n 2, 1) := dkg_X11_72.2.1
theorem dX11_addText_22 : decode cX11_addText 22 = .ok (.iload_n 2, 1) := dkg_X11_72.2.2.1
theorem dX11_addText_23 : decode cX11_addText 23 = .ok (.bipush 10, 2) := dkg_X11_72.2.2.2.1
theorem dX11_addText_25 : decode cX11_addText 25 = .ok (.if_icmp .eq 22, 3) := dkg_X11_72.2.2.2.2.1
theorem dX11_addText_28 : decode cX11_addText 28 = .ok (.iload_n 2, 1) := dkg_X11_72.2.2.2.2.2.1
theorem dX11_addText_29 : decode cX11_addText 29 = .ok (.bipush 32, 2) := dkg_X11_72.2.2.2.2.2.2.1
theorem dX11_addText_31 : decode cX11_addText 31 = .ok (.if_icmp .lt 9, 3) := dkg_X11_72.2.2.2.2.2.2.2.1
theorem dX11_addText_34 : decode cX11_addText 34 = .ok (.iload_n 2, 1) := dkg_X11_72.2.2.2.2.2.2.2.2.1
theorem dX11_addText_35 : decode cX11_addText 35 = .ok (.bipush 126, 2) := dkg_X11_72.2.2.2.2.2.2.2.2.2.1
theorem dkg_X11_73 : dkp cX11_addText [(37, .if_icmp .le 10, 3), (40, .aload_n 0, 1), (41, .bipush 6, 2), (43, .invokevirtual 102, 3), (46, .ireturn, 1), (47, .iinc 1 1, 3), (50, .goto (-48), 3), (53, .aload_n 0, 1), (54, .getfield 18, 3), (57, .getfield 99, 3)] := dkf (by decide +kernel)
theorem dX11_addText_37 : decode cX11_addText 37 = .ok (.if_icmp .le 10, 3) := dkg_X11_73.1
theorem dX11_addText_40 : decode cX11_addText 40 = .ok (.aload_n 0, 1) := dkg_X11_73.2.1
theorem dX11_addText_41 : decode cX11_addText 41 = .ok (.bipush 6, 2) := dkg_X11_73.2.2.1
theorem dX11_addText_43 : decode cX11_addText 43 = .ok (.invokevirtual 102, 3) := dkg_X11_73.2.2.2.1
theorem dX11_addText_46 : decode cX11_addText 46 = .ok (.ireturn, 1) := dkg_X11_73.2.2.2.2.1
theorem dX11_addText_47 : decode cX11_addText 47 = .ok (.iinc 1 1, 3) := dkg_X11_73.2.2.2.2.2.1
theorem dX11_addText_50 : decode cX11_addText 50 = .ok (.goto (-48), 3) := dkg_X11_73.2.2.2.2.2.2.1
theorem dX11_addText_53 : decode cX11_addText 53 = .ok (.aload_n 0, 1) := dkg_X11_73.2.2.2.2.2.2.2.1
theorem dX11_addText_54 : decode cX11_addText 54 = .ok (.getfield 18, 3) := dkg_X11_73.2.2.2.2.2.2.2.2.1
theorem dX11_addText_57 : decode cX11_addText 57 = .ok (.getfield 99, 3) := dkg_X11_73.2.2.2.2.2.2.2.2.2.1
theorem dkg_X11_74 : dkp cX11_addText [(60, .aload_n 0, 1), (61, .getfield 14, 3), (64, .getfield 99, 3), (67, .iadd, 1), (68, .sipush 500, 3), (71, .if_icmp .le 10, 3), (74, .aload_n 0, 1), (75, .bipush 6, 2), (77, .invokevirtual 102, 3), (80, .ireturn, 1)] := dkf (by decide +kernel)
theorem dX11_addText_60 : decode cX11_addText 60 = .ok (.aload_n 0, 1) := dkg_X11_74.1
theorem dX11_addText_61 : decode cX11_addText 61 = .ok (.getfield 14, 3) := dkg_X11_74.2.1
theorem dX11_addText_64 : decode cX11_addText 64 = .ok (.getfield 99, 3) := dkg_X11_74.2.2.1
theorem dX11_addText_67 : decode cX11_addText 67 = .ok (.iadd, 1) := dkg_X11_74.2.2.2.1
theorem dX11_addText_68 : decode cX11_addText 68 = .ok (.sipush 500, 3) := dkg_X11_74.2.2.2.2.1
theorem dX11_addText_71 : decode cX11_addText 71 = .ok (.if_icmp .le 10, 3) := dkg_X11_74.2.2.2.2.2.1
theorem dX11_addText_74 : decode cX11_addText 74 = .ok (.aload_n 0, 1) := dkg_X11_74.2.2.2.2.2.2.1
theorem dX11_addText_75 : decode cX11_addText 75 = .ok (.bipush 6, 2) := dkg_X11_74.2.2.2.2.2.2.2.1
theorem dX11_addText_77 : decode cX11_addText 77 = .ok (.invokevirtual 102, 3) := dkg_X11_74.2.2.2.2.2.2.2.2.1
theorem dX11_addText_80 : decode cX11_addText 80 = .ok (.ireturn, 1) := dkg_X11_74.2.2.2.2.2.2.2.2.2.1
theorem dkg_X11_75 : dkp cX11_addText [(81, .aload_n 0, 1), (82, .getfield 14, 3), (85, .getfield 99, 3), (88, .ifCond .ne 10, 3), (91, .aload_n 0, 1), (92, .getfield 18, 3), (95, .invokevirtual 164, 3), (98, .aload_n 0, 1), (99, .getfield 18, 3), (102, .aload_n 0, 1)] := dkf (by decide +kernel)
theorem dX11_addText_81 : decode cX11_addText 81 = .ok (.aload_n 0, 1) := dkg_X11_75.1
theorem dX11_addText_82 : decode cX11_addText 82 = .ok (.getfield 14, 3) := dkg_X11_75.2.1
theorem dX11_addText_85 : decode cX11_addText 85 = .ok (.getfield 99, 3) := dkg_X11_75.2.2.1
theorem dX11_addText_88 : decode cX11_addText 88 = .ok (.ifCond .ne 10, 3) := dkg_X11_75.2.2.2.1
theorem dX11_addText_91 : decode cX11_addText 91 = .ok (.aload_n 0, 1) := dkg_X11_75.2.2.2.2.1
theorem dX11_addText_92 : decode cX11_addText 92 = .ok (.getfield 18, 3) := dkg_X11_75.2.2.2.2.2.1
theorem dX11_addText_95 : decode cX11_addText 95 = .ok (.invokevirtual 164, 3) := dkg_X11_75.2.2.2.2.2.2.1
theorem dX11_addText_98 : decode cX11_addText 98 = .ok (.aload_n 0, 1) := dkg_X11_75.2.2.2.2.2.2.2.1
theorem dX11_addText_99 : decode cX11_addText 99 = .ok (.getfield 18, 3) := dkg_X11_75.2.2.2.2.2.2.2.2.1
theorem dX11_addText_102 : decode cX11_addText 102 = .ok (.aload_n 0, 1) := dkg_X11_75.2.2.2.2.2.2.2.2.2.1
theorem dkg_X11_76 : dkp cX11_addText [(103, .getfield 14, 3), (106, .invokevirtual 227, 3), (109, .aload_n 0, 1), (110, .aload_n 0, 1), (111, .getfield 18, 3), (114, .getfield 99, 3), (117, .invokevirtual 109, 3), (120, .ireturn, 1)] := dkf (by decide +kernel)
theorem dX11_addText_103 : decode cX11_addText 103 = .ok (.getfield 14, 3) := dkg_X11_76.1
theorem dX11_addText_106 : decode cX11_addText 106 = .ok (.invokevirtual 227, 3) := dkg_X11_76.2.1
theorem dX11_addText_109 : decode cX11_addText 109 = .ok (.aload_n 0, 1) := dkg_X11_76.2.2.1
theorem dX11_addText_110 : decode cX11_addText 110 = .ok (.aload_n 0, 1) := dkg_X11_76.2.2.2.1
theorem dX11_addText_111 : decode cX11_addText 111 = .ok (.getfield 18, 3) := dkg_X11_76.2.2.2.2.1
theorem dX11_addText_114 : decode cX11_addText 114 = .ok (.getfield 99, 3) := dkg_X11_76.2.2.2.2.2.1
theorem dX11_addText_117 : decode cX11_addText 117 = .ok (.invokevirtual 109, 3) := dkg_X11_76.2.2.2.2.2.2.1
theorem dX11_addText_120 : decode cX11_addText 120 = .ok (.ireturn, 1) := dkg_X11_76.2.2.2.2.2.2.2.1
theorem dkg_X11_77 : dkp cX11_measure [(0, .iload_n 1, 1), (1, .iconst 1, 1), (2, .if_icmp .lt 32, 3), (5, .iload_n 1, 1), (6, .bipush 100, 2), (8, .if_icmp .gt 26, 3), (11, .iload_n 2, 1), (12, .iconst 1, 1), (13, .if_icmp .lt 21, 3), (16, .iload_n 2, 1)] := dkf (by decide +kernel)
theorem dX11_measure_0 : decode cX11_measure 0 = .ok (.iload_n 1, 1) := dkg_X11_77.1
theorem dX11_measure_1 : decode cX11_measure 1 = .ok (.iconst 1, 1) := dkg_X11_77.2.1
theorem dX11_measure_2 : decode cX11_measure 2 = .ok (.if_icmp .lt 32, 3) := dkg_X11_77.2.2.1
theorem dX11_measure_5 : decode cX11_measure 5 = .ok (.iload_n 1, 1) := dkg_X11_77.2.2.2.1
theorem dX11_measure_6 : decode cX11_measure 6 = .ok (.bipush 100, 2) := dkg_X11_77.2.2.2.2.1
theorem dX11_measure_8 : decode cX11_measure 8 = .ok (.if_icmp .gt 26, 3) := dkg_X11_77.2.2.2.2.2.1
theorem dX11_measure_11 : decode cX11_measure 11 = .ok (.iload_n 2, 1) := dkg_X11_77.2.2.2.2.2.2.1
theorem dX11_measure_12 : decode cX11_measure 12 = .ok (.iconst 1, 1) := dkg_X11_77.2.2.2.2.2.2.2.1
theorem dX11_measure_13 : decode cX11_measure 13 = .ok (.if_icmp .lt 21, 3) := dkg_X11_77.2.2.2.2.2.2.2.2.1
theorem dX11_measure_16 : decode cX11_measure 16 = .ok (.iload_n 2, 1) := dkg_X11_77.2.2.2.2.2.2.2.2.2.1
theorem dkg_X11_78 : dkp cX11_measure [(17, .bipush 50, 2), (19, .if_icmp .gt 15, 3), (22, .iload_n 3, 1), (23, .iconst 1, 1), (24, .if_icmp .lt 10, 3), (27, .iload_n 3, 1), (28, .sipush 255, 3), (31, .if_icmp .le 10, 3), (34, .aload_n 0, 1), (35, .bipush 6, 2)] := dkf (by decide +kernel)
theorem dX11_measure_17 : decode cX11_measure 17 = .ok (.bipush 50, 2) := dkg_X11_78.1
theorem dX11_measure_19 : decode cX11_measure 19 = .ok (.if_icmp .gt 15, 3) := dkg_X11_78.2.1
theorem dX11_measure_22 : decode cX11_measure 22 = .ok (.iload_n 3, 1) := dkg_X11_78.2.2.1
theorem dX11_measure_23 : decode cX11_measure 23 = .ok (.iconst 1, 1) := dkg_X11_78.2.2.2.1
theorem dX11_measure_24 : decode cX11_measure 24 = .ok (.if_icmp .lt 10, 3) := dkg_X11_78.2.2.2.2.1
theorem dX11_measure_27 : decode cX11_measure 27 = .ok (.iload_n 3, 1) := dkg_X11_78.2.2.2.2.2.1
theorem dX11_measure_28 : decode cX11_measure 28 = .ok (.sipush 255, 3) := dkg_X11_78.2.2.2.2.2.2.1
theorem dX11_measure_31 : decode cX11_measure 31 = .ok (.if_icmp .le 10, 3) := dkg_X11_78.2.2.2.2.2.2.2.1
theorem dX11_measure_34 : decode cX11_measure 34 = .ok (.aload_n 0, 1) := dkg_X11_78.2.2.2.2.2.2.2.2.1
theorem dX11_measure_35 : decode cX11_measure 35 = .ok (.bipush 6, 2) := dkg_X11_78.2.2.2.2.2.2.2.2.2.1
theorem dkg_X11_79 : dkp cX11_measure [(37, .invokevirtual 102, 3), (40, .ireturn, 1), (41, .aload_n 0, 1), (42, .iload_n 1, 1), (43, .putfield 74, 3), (46, .aload_n 0, 1), (47, .iload_n 2, 1), (48, .putfield 78, 3), (51, .aload_n 0, 1), (52, .iload_n 3, 1)] := dkf (by decide +kernel)
theorem dX11_measure_37 : decode cX11_measure 37 = .ok (.invokevirtual 102, 3) := dkg_X11_79.1
theorem dX11_measure_40 : decode cX11_measure 40 = .ok (.ireturn, 1) := dkg_X11_79.2.1
theorem dX11_measure_41 : decode cX11_measure 41 = .ok (.aload_n 0, 1) := dkg_X11_79.2.2.1
theorem dX11_measure_42 : decode cX11_measure 42 = .ok (.iload_n 1, 1) := dkg_X11_79.2.2.2.1
theorem dX11_measure_43 : decode cX11_measure 43 = .ok (.putfield 74, 3) := dkg_X11_79.2.2.2.2.1
theorem dX11_measure_46 : decode cX11_measure 46 = .ok (.aload_n 0, 1) := dkg_X11_79.2.2.2.2.2.1
theorem dX11_measure_47 : decode cX11_measure 47 = .ok (.iload_n 2, 1) := dkg_X11_79.2.2.2.2.2.2.1
theorem dX11_measure_48 : decode cX11_measure 48 = .ok (.putfield 78, 3) := dkg_X11_79.2.2.2.2.2.2.2.1
theorem dX11_measure_51 : decode cX11_measure 51 = .ok (.aload_n 0, 1) := dkg_X11_79.2.2.2.2.2.2.2.2.1
theorem dX11_measure_52 : decode cX11_measure 52 = .ok (.iload_n 3, 1) := dkg_X11_79.2.2.2.2.2.2.2.2.2.1
theorem dkg_X11_80 : dkp cX11_measure [(53, .putfield 81, 3), (56, .aload_n 0, 1), (57, .iconst 1, 1), (58, .invokevirtual 109, 3), (61, .ireturn, 1)] := dkf (by decide +kernel)
theorem dX11_measure_53 : decode cX11_measure 53 = .ok (.putfield 81, 3) := dkg_X11_80.1
theorem dX11_measure_56 : decode cX11_measure 56 = .ok (.aload_n 0, 1) := dkg_X11_80.2.1
theorem dX11_measure_57 : decode cX11_measure 57 = .ok (.iconst 1, 1) := dkg_X11_80.2.2.1
theorem dX11_measure_58 : decode cX11_measure 58 = .ok (.invokevirtual 109, 3) := dkg_X11_80.2.2.2.1
theorem dX11_measure_61 : decode cX11_measure 61 = .ok (.ireturn, 1) := dkg_X11_80.2.2.2.2.1
theorem dkg_X11_81 : dkp cX11_set [(0, .aload_n 0, 1), (1, .getfield 30, 3), (4, .iload_n 1, 1), (5, .invokevirtual 231, 3), (8, .astore_n 2, 1), (9, .aload_n 2, 1), (10, .ifnonnull 9, 3), (13, .aload_n 0, 1), (14, .iconst 3, 1), (15, .invokevirtual 102, 3)] := dkf (by decide +kernel)
theorem dX11_set_0 : decode cX11_set 0 = .ok (.aload_n 0, 1) := dkg_X11_81.1
theorem dX11_set_1 : decode cX11_set 1 = .ok (.getfield 30, 3) := dkg_X11_81.2.1
theorem dX11_set_4 : decode cX11_set 4 = .ok (.iload_n 1, 1) := dkg_X11_81.2.2.1
theorem dX11_set_5 : decode cX11_set 5 = .ok (.invokevirtual 231, 3) := dkg_X11_81.2.2.2.1
theorem dX11_set_8 : decode cX11_set 8 = .ok (.astore_n 2, 1) := dkg_X11_81.2.2.2.2.1
theorem dX11_set_9 : decode cX11_set 9 = .ok (.aload_n 2, 1) := dkg_X11_81.2.2.2.2.2.1
theorem dX11_set_10 : decode cX11_set 10 = .ok (.ifnonnull 9, 3) := dkg_X11_81.2.2.2.2.2.2.1
theorem dX11_set_13 : decode cX11_set 13 = .ok (.aload_n 0, 1) := dkg_X11_81.2.2.2.2.2.2.2.1
theorem dX11_set_14 : decode cX11_set 14 = .ok (.iconst 3, 1) := dkg_X11_81.2.2.2.2.2.2.2.2.1
theorem dX11_set_15 : decode cX11_set 15 = .ok (.invokevirtual 102, 3) := dkg_X11_81.2.2.2.2.2.2.2.2.2.1
theorem dkg_X11_82 : dkp cX11_set [(18, .ireturn, 1), (19, .aload_n 0, 1), (20, .getfield 71, 3), (23, .invokevirtual 234, 3), (26, .aload_n 0, 1), (27, .getfield 37, 3), (30, .invokevirtual 235, 3), (33, .iconst 0, 1), (34, .istore_n 3, 1), (35, .aload_n 0, 1)] := dkf (by decide +kernel)
theorem dX11_set_18 : decode cX11_set 18 = .ok (.ireturn, 1) := dkg_X11_82.1
theorem dX11_set_19 : decode cX11_set 19 = .ok (.aload_n 0, 1) := dkg_X11_82.2.1
theorem dX11_set_20 : decode cX11_set 20 = .ok (.getfield 71, 3) := dkg_X11_82.2.2.1
theorem dX11_set_23 : decode cX11_set 23 = .ok (.invokevirtual 234, 3) := dkg_X11_82.2.2.2.1
theorem dX11_set_26 : decode cX11_set 26 = .ok (.aload_n 0, 1) := dkg_X11_82.2.2.2.2.1
theorem dX11_set_27 : decode cX11_set 27 = .ok (.getfield 37, 3) := dkg_X11_82.2.2.2.2.2.1
theorem dX11_set_30 : decode cX11_set 30 = .ok (.invokevirtual 235, 3) := dkg_X11_82.2.2.2.2.2.2.1
theorem dX11_set_33 : decode cX11_set 33 = .ok (.iconst 0, 1) := dkg_X11_82.2.2.2.2.2.2.2.1
theorem dX11_set_34 : decode cX11_set 34 = .ok (.istore_n 3, 1) := dkg_X11_82.2.2.2.2.2.2.2.2.1
theorem dX11_set_35 : decode cX11_set 35 = .ok (.aload_n 0, 1) := dkg_X11_82.2.2.2.2.2.2.2.2.2.1
theorem dkg_X11_83 : dkp cX11_set [(36, .getfield 37, 3), (39, .aload_n 0, 1), (40, .getfield 18, 3), (43, .aload_n 0, 1), (44, .getfield 44, 3), (47, .invokevirtual 238, 3), (50, .istore 4, 2), (52, .iconst 0, 1), (53, .istore 5, 2), (55, .iload_n 3, 1)] := dkf (by decide +kernel)
theorem dX11_set_36 : decode cX11_set 36 = .ok (.getfield 37, 3) := dkg_X11_83.1
theorem dX11_set_39 : decode cX11_set 39 = .ok (.aload_n 0, 1) := dkg_X11_83.2.1
theorem dX11_set_40 : decode cX11_set 40 = .ok (.getfield 18, 3) := dkg_X11_83.2.2.1
theorem dX11_set_43 : decode cX11_set 43 = .ok (.aload_n 0, 1) := dkg_X11_83.2.2.2.1
theorem dX11_set_44 : decode cX11_set 44 = .ok (.getfield 44, 3) := dkg_X11_83.2.2.2.2.1
theorem dX11_set_47 : decode cX11_set 47 = .ok (.invokevirtual 238, 3) := dkg_X11_83.2.2.2.2.2.1
theorem dX11_set_50 : decode cX11_set 50 = .ok (.istore 4, 2) := dkg_X11_83.2.2.2.2.2.2.1
theorem dX11_set_52 : decode cX11_set 52 = .ok (.iconst 0, 1) := dkg_X11_83.2.2.2.2.2.2.2.1
theorem dX11_set_53 : decode cX11_set 53 = .ok (.istore 5, 2) := dkg_X11_83.2.2.2.2.2.2.2.2.1
theorem dX11_set_55 : decode cX11_set 55 = .ok (.iload_n 3, 1) := dkg_X11_83.2.2.2.2.2.2.2.2.2.1
theorem dkg_X11_84 : dkp cX11_set [(56, .ifCond .ne 147, 3), (59, .iload 4, 2), (61, .ifCond .eq 142, 3), (64, .iload 5, 2), (66, .ldc 242, 2), (68, .if_icmp .ge 135, 3), (71, .iconst 1, 1), (72, .istore 6, 2), (74, .iload 4, 2), (76, .iconst 1, 1)] := dkf (by decide +kernel)
theorem dX11_set_56 : decode cX11_set 56 = .ok (.ifCond .ne 147, 3) := dkg_X11_84.1
theorem dX11_set_59 : decode cX11_set 59 = .ok (.iload 4, 2) := dkg_X11_84.2.1
theorem dX11_set_61 : decode cX11_set 61 = .ok (.ifCond .eq 142, 3) := dkg_X11_84.2.2.1
theorem dX11_set_64 : decode cX11_set 64 = .ok (.iload 5, 2) := dkg_X11_84.2.2.2.1
theorem dX11_set_66 : decode cX11_set 66 = .ok (.ldc 242, 2) := dkg_X11_84.2.2.2.2.1
theorem dX11_set_68 : decode cX11_set 68 = .ok (.if_icmp .ge 135, 3) := dkg_X11_84.2.2.2.2.2.1
theorem dX11_set_71 : decode cX11_set 71 = .ok (.iconst 1, 1) := dkg_X11_84.2.2.2.2.2.2.1
theorem dX11_set_72 : decode cX11_set 72 = .ok (.istore 6, 2) := dkg_X11_84.2.2.2.2.2.2.2.1
theorem dX11_set_74 : decode cX11_set 74 = .ok (.iload 4, 2) := dkg_X11_84.2.2.2.2.2.2.2.2.1
theorem dX11_set_76 : decode cX11_set 76 = .ok (.iconst 1, 1) := dkg_X11_84.2.2.2.2.2.2.2.2.2.1
theorem dkg_X11_85 : dkp cX11_set [(77, .if_icmp .ne 15, 3), (80, .aload_n 0, 1), (81, .getfield 71, 3), (84, .invokevirtual 243, 3), (87, .istore 6, 2), (89, .goto 76, 3), (92, .iload 4, 2), (94, .iconst 3, 1), (95, .if_icmp .ne 24, 3), (98, .aload_n 0, 1)] := dkf (by decide +kernel)
theorem dX11_set_77 : decode cX11_set 77 = .ok (.if_icmp .ne 15, 3) := dkg_X11_85.1
theorem dX11_set_80 : decode cX11_set 80 = .ok (.aload_n 0, 1) := dkg_X11_85.2.1
theorem dX11_set_81 : decode cX11_set 81 = .ok (.getfield 71, 3) := dkg_X11_85.2.2.1
theorem dX11_set_84 : decode cX11_set 84 = .ok (.invokevirtual 243, 3) := dkg_X11_85.2.2.2.1
theorem dX11_set_87 : decode cX11_set 87 = .ok (.istore 6, 2) := dkg_X11_85.2.2.2.2.1
theorem dX11_set_89 : decode cX11_set 89 = .ok (.goto 76, 3) := dkg_X11_85.2.2.2.2.2.1
theorem dX11_set_92 : decode cX11_set 92 = .ok (.iload 4, 2) := dkg_X11_85.2.2.2.2.2.2.1
theorem dX11_set_94 : decode cX11_set 94 = .ok (.iconst 3, 1) := dkg_X11_85.2.2.2.2.2.2.2.1
theorem dX11_set_95 : decode cX11_set 95 = .ok (.if_icmp .ne 24, 3) := dkg_X11_85.2.2.2.2.2.2.2.2.1
theorem dX11_set_98 : decode cX11_set 98 = .ok (.aload_n 0, 1) := dkg_X11_85.2.2.2.2.2.2.2.2.2.1
theorem dkg_X11_86 : dkp cX11_set [(99, .getfield 71, 3), (102, .aload_n 0, 1), (103, .getfield 37, 3), (106, .getfield 246, 3), (109, .aload_n 0, 1), (110, .getfield 74, 3), (113, .invokevirtual 249, 3), (116, .goto 49, 3), (119, .aload_n 0, 1), (120, .getfield 44, 3)] := dkf (by decide +kernel)
theorem dX11_set_99 : decode cX11_set 99 = .ok (.getfield 71, 3) := dkg_X11_86.1
theorem dX11_set_102 : decode cX11_set 102 = .ok (.aload_n 0, 1) := dkg_X11_86.2.1
theorem dX11_set_103 : decode cX11_set 103 = .ok (.getfield 37, 3) := dkg_X11_86.2.2.1
theorem dX11_set_106 : decode cX11_set 106 = .ok (.getfield 246, 3) := dkg_X11_86.2.2.2.1
theorem dX11_set_109 : decode cX11_set 109 = .ok (.aload_n 0, 1) := dkg_X11_86.2.2.2.2.1
theorem dX11_set_110 : decode cX11_set 110 = .ok (.getfield 74, 3) := dkg_X11_86.2.2.2.2.2.1
theorem dX11_set_113 : decode cX11_set 113 = .ok (.invokevirtual 249, 3) := dkg_X11_86.2.2.2.2.2.2.1
theorem dX11_set_116 : decode cX11_set 116 = .ok (.goto 49, 3) := dkg_X11_86.2.2.2.2.2.2.2.1
theorem dX11_set_119 : decode cX11_set 119 = .ok (.aload_n 0, 1) := dkg_X11_86.2.2.2.2.2.2.2.2.1
theorem dX11_set_120 : decode cX11_set 120 = .ok (.getfield 44, 3) := dkg_X11_86.2.2.2.2.2.2.2.2.2.1
theorem dkg_X11_87 : dkp cX11_set [(123, .aload_n 2, 1), (124, .invokevirtual 253, 3), (127, .istore_n 3, 1), (128, .iload_n 3, 1), (129, .ifCond .ne 29, 3), (132, .aload_n 0, 1), (133, .getfield 71, 3), (136, .aload_n 0, 1), (137, .getfield 44, 3), (140, .aload_n 2, 1)] := dkf (by decide +kernel)
theorem dX11_set_123 : decode cX11_set 123 = .ok (.aload_n 2, 1) := dkg_X11_87.1
theorem dX11_set_124 : decode cX11_set 124 = .ok (.invokevirtual 253, 3) := dkg_X11_87.2.1
theorem dX11_set_127 : decode cX11_set 127 = .ok (.istore_n 3, 1) := dkg_X11_87.2.2.1
theorem dX11_set_128 : decode cX11_set 128 = .ok (.iload_n 3, 1) := dkg_X11_87.2.2.2.1
theorem dX11_set_129 : decode cX11_set 129 = .ok (.ifCond .ne 29, 3) := dkg_X11_87.2.2.2.2.1
theorem dX11_set_132 : decode cX11_set 132 = .ok (.aload_n 0, 1) := dkg_X11_87.2.2.2.2.2.1
theorem dX11_set_133 : decode cX11_set 133 = .ok (.getfield 71, 3) := dkg_X11_87.2.2.2.2.2.2.1
theorem dX11_set_136 : decode cX11_set 136 = .ok (.aload_n 0, 1) := dkg_X11_87.2.2.2.2.2.2.2.1
theorem dX11_set_137 : decode cX11_set 137 = .ok (.getfield 44, 3) := dkg_X11_87.2.2.2.2.2.2.2.2.1
theorem dX11_set_140 : decode cX11_set 140 = .ok (.aload_n 2, 1) := dkg_X11_87.2.2.2.2.2.2.2.2.2.1
theorem dkg_X11_88 : dkp cX11_set [(141, .getfield 135, 3), (144, .aload_n 0, 1), (145, .getfield 74, 3), (148, .aload_n 0, 1), (149, .getfield 81, 3), (152, .invokevirtual 256, 3), (155, .ifCond .eq 7, 3), (158, .iconst 1, 1), (159, .goto 4, 3), (162, .iconst 0, 1)] := dkf (by decide +kernel)
theorem dX11_set_141 : decode cX11_set 141 = .ok (.getfield 135, 3) := dkg_X11_88.1
theorem dX11_set_144 : decode cX11_set 144 = .ok (.aload_n 0, 1) := dkg_X11_88.2.1
theorem dX11_set_145 : decode cX11_set 145 = .ok (.getfield 74, 3) := dkg_X11_88.2.2.1
theorem dX11_set_148 : decode cX11_set 148 = .ok (.aload_n 0, 1) := dkg_X11_88.2.2.2.1
theorem dX11_set_149 : decode cX11_set 149 = .ok (.getfield 81, 3) := dkg_X11_88.2.2.2.2.1
theorem dX11_set_152 : decode cX11_set 152 = .ok (.invokevirtual 256, 3) := dkg_X11_88.2.2.2.2.2.1
theorem dX11_set_155 : decode cX11_set 155 = .ok (.ifCond .eq 7, 3) := dkg_X11_88.2.2.2.2.2.2.1
theorem dX11_set_158 : decode cX11_set 158 = .ok (.iconst 1, 1) := dkg_X11_88.2.2.2.2.2.2.2.1
theorem dX11_set_159 : decode cX11_set 159 = .ok (.goto 4, 3) := dkg_X11_88.2.2.2.2.2.2.2.2.1
theorem dX11_set_162 : decode cX11_set 162 = .ok (.iconst 0, 1) := dkg_X11_88.2.2.2.2.2.2.2.2.2.1
theorem dkg_X11_89 : dkp cX11_set [(163, .istore 6, 2), (165, .iload 6, 2), (167, .ifCond .ne 9, 3), (170, .bipush 6, 2), (172, .istore_n 3, 1), (173, .goto 24, 3), (176, .iload_n 3, 1), (177, .ifCond .ne 20, 3), (180, .aload_n 0, 1), (181, .getfield 37, 3)] := dkf (by decide +kernel)
theorem dX11_set_163 : decode cX11_set 163 = .ok (.istore 6, 2) := dkg_X11_89.1
theorem dX11_set_165 : decode cX11_set 165 = .ok (.iload 6, 2) := dkg_X11_89.2.1
theorem dX11_set_167 : decode cX11_set 167 = .ok (.ifCond .ne 9, 3) := dkg_X11_89.2.2.1
theorem dX11_set_170 : decode cX11_set 170 = .ok (.bipush 6, 2) := dkg_X11_89.2.2.2.1
theorem dX11_set_172 : decode cX11_set 172 = .ok (.istore_n 3, 1) := dkg_X11_89.2.2.2.2.1
theorem dX11_set_173 : decode cX11_set 173 = .ok (.goto 24, 3) := dkg_X11_89.2.2.2.2.2.1
theorem dX11_set_176 : decode cX11_set 176 = .ok (.iload_n 3, 1) := dkg_X11_89.2.2.2.2.2.2.1
theorem dX11_set_177 : decode cX11_set 177 = .ok (.ifCond .ne 20, 3) := dkg_X11_89.2.2.2.2.2.2.2.1
theorem dX11_set_180 : decode cX11_set 180 = .ok (.aload_n 0, 1) := dkg_X11_89.2.2.2.2.2.2.2.2.1
theorem dX11_set_181 : decode cX11_set 181 = .ok (.getfield 37, 3) := dkg_X11_89.2.2.2.2.2.2.2.2.2.1
theorem dkg_X11_90 : dkp cX11_set [(184, .aload_n 0, 1), (185, .getfield 18, 3), (188, .aload_n 0, 1), (189, .getfield 44, 3), (192, .invokevirtual 238, 3), (195, .istore 4, 2), (197, .iinc 5 1, 3), (200, .goto (-145), 3), (203, .iload_n 3, 1), (204, .ifCond .ne 10, 3)] := dkf (by decide +kernel)
theorem dX11_set_184 : decode cX11_set 184 = .ok (.aload_n 0, 1) := dkg_X11_90.1
theorem dX11_set_185 : decode cX11_set 185 = .ok (.getfield 18, 3) := dkg_X11_90.2.1
theorem dX11_set_188 : decode cX11_set 188 = .ok (.aload_n 0, 1) := dkg_X11_90.2.2.1
theorem dX11_set_189 : decode cX11_set 189 = .ok (.getfield 44, 3) := dkg_X11_90.2.2.2.1
theorem dX11_set_192 : decode cX11_set 192 = .ok (.invokevirtual 238, 3) := dkg_X11_90.2.2.2.2.1
theorem dX11_set_195 : decode cX11_set 195 = .ok (.istore 4, 2) := dkg_X11_90.2.2.2.2.2.1
theorem dX11_set_197 : decode cX11_set 197 = .ok (.iinc 5 1, 3) := dkg_X11_90.2.2.2.2.2.2.1
theorem dX11_set_200 : decode cX11_set 200 = .ok (.goto (-145), 3) := dkg_X11_90.2.2.2.2.2.2.2.1
theorem dX11_set_203 : decode cX11_set 203 = .ok (.iload_n 3, 1) := dkg_X11_90.2.2.2.2.2.2.2.2.1
theorem dX11_set_204 : decode cX11_set 204 = .ok (.ifCond .ne 10, 3) := dkg_X11_90.2.2.2.2.2.2.2.2.2.1
theorem dkg_X11_91 : dkp cX11_set [(207, .aload_n 0, 1), (208, .invokevirtual 260, 3), (211, .goto 15, 3), (214, .aload_n 0, 1), (215, .iload_n 3, 1), (216, .aload_n 0, 1), (217, .getfield 44, 3), (220, .invokevirtual 263, 3), (223, .invokevirtual 266, 3), (226, .ireturn, 1)] := dkf (by decide +kernel)
theorem dX11_set_207 : decode cX11_set 207 = .ok (.aload_n 0, 1) := dkg_X11_91.1
theorem dX11_set_208 : decode cX11_set 208 = .ok (.invokevirtual 260, 3) := dkg_X11_91.2.1
theorem dX11_set_211 : decode cX11_set 211 = .ok (.goto 15, 3) := dkg_X11_91.2.2.1
theorem dX11_set_214 : decode cX11_set 214 = .ok (.aload_n 0, 1) := dkg_X11_91.2.2.2.1
theorem dX11_set_215 : decode cX11_set 215 = .ok (.iload_n 3, 1) := dkg_X11_91.2.2.2.2.1
theorem dX11_set_216 : decode cX11_set 216 = .ok (.aload_n 0, 1) := dkg_X11_91.2.2.2.2.2.1
theorem dX11_set_217 : decode cX11_set 217 = .ok (.getfield 44, 3) := dkg_X11_91.2.2.2.2.2.2.1
theorem dX11_set_220 : decode cX11_set 220 = .ok (.invokevirtual 263, 3) := dkg_X11_91.2.2.2.2.2.2.2.1
theorem dX11_set_223 : decode cX11_set 223 = .ok (.invokevirtual 266, 3) := dkg_X11_91.2.2.2.2.2.2.2.2.1
theorem dX11_set_226 : decode cX11_set 226 = .ok (.ireturn, 1) := dkg_X11_91.2.2.2.2.2.2.2.2.2.1
theorem dkg_X11_92 : dkp cX11_publish [(0, .aload_n 0, 1), (1, .getfield 67, 3), (4, .astore_n 1, 1), (5, .aload_n 0, 1), (6, .aload_n 0, 1), (7, .getfield 71, 3), (10, .putfield 67, 3), (13, .aload_n 0, 1), (14, .aload_n 1, 1), (15, .putfield 71, 3)] := dkf (by decide +kernel)
theorem dX11_publish_0 : decode cX11_publish 0 = .ok (.aload_n 0, 1) := dkg_X11_92.1
theorem dX11_publish_1 : decode cX11_publish 1 = .ok (.getfield 67, 3) := dkg_X11_92.2.1
theorem dX11_publish_4 : decode cX11_publish 4 = .ok (.astore_n 1, 1) := dkg_X11_92.2.2.1
theorem dX11_publish_5 : decode cX11_publish 5 = .ok (.aload_n 0, 1) := dkg_X11_92.2.2.2.1
theorem dX11_publish_6 : decode cX11_publish 6 = .ok (.aload_n 0, 1) := dkg_X11_92.2.2.2.2.1
theorem dX11_publish_7 : decode cX11_publish 7 = .ok (.getfield 71, 3) := dkg_X11_92.2.2.2.2.2.1
theorem dX11_publish_10 : decode cX11_publish 10 = .ok (.putfield 67, 3) := dkg_X11_92.2.2.2.2.2.2.1
theorem dX11_publish_13 : decode cX11_publish 13 = .ok (.aload_n 0, 1) := dkg_X11_92.2.2.2.2.2.2.2.1
theorem dX11_publish_14 : decode cX11_publish 14 = .ok (.aload_n 1, 1) := dkg_X11_92.2.2.2.2.2.2.2.2.1
theorem dX11_publish_15 : decode cX11_publish 15 = .ok (.putfield 71, 3) := dkg_X11_92.2.2.2.2.2.2.2.2.2.1
theorem dkg_X11_93 : dkp cX11_publish [(18, .aload_n 0, 1), (19, .aload_n 0, 1), (20, .getfield 67, 3), (23, .getfield 269, 3), (26, .invokevirtual 109, 3), (29, .ireturn, 1)] := dkf (by decide +kernel)
theorem dX11_publish_18 : decode cX11_publish 18 = .ok (.aload_n 0, 1) := dkg_X11_93.1
theorem dX11_publish_19 : decode cX11_publish 19 = .ok (.aload_n 0, 1) := dkg_X11_93.2.1
theorem dX11_publish_20 : decode cX11_publish 20 = .ok (.getfield 67, 3) := dkg_X11_93.2.2.1
theorem dX11_publish_23 : decode cX11_publish 23 = .ok (.getfield 269, 3) := dkg_X11_93.2.2.2.1
theorem dX11_publish_26 : decode cX11_publish 26 = .ok (.invokevirtual 109, 3) := dkg_X11_93.2.2.2.2.1
theorem dX11_publish_29 : decode cX11_publish 29 = .ok (.ireturn, 1) := dkg_X11_93.2.2.2.2.2.1
theorem dkg_X11_94 : dkp cX11_head [(0, .aload_n 0, 1), (1, .getfield 14, 3), (4, .getfield 99, 3), (7, .bipush 40, 2), (9, .if_icmp .gt 29, 3), (12, .aload_n 0, 1), (13, .getfield 14, 3), (16, .iconst 0, 1), (17, .aload_n 0, 1), (18, .getfield 14, 3)] := dkf (by decide +kernel)
theorem dX11_head_0 : decode cX11_head 0 = .ok (.aload_n 0, 1) := dkg_X11_94.1
theorem dX11_head_1 : decode cX11_head 1 = .ok (.getfield 14, 3) := dkg_X11_94.2.1
theorem dX11_head_4 : decode cX11_head 4 = .ok (.getfield 99, 3) := dkg_X11_94.2.2.1
theorem dX11_head_7 : decode cX11_head 7 = .ok (.bipush 40, 2) := dkg_X11_94.2.2.2.1
theorem dX11_head_9 : decode cX11_head 9 = .ok (.if_icmp .gt 29, 3) := dkg_X11_94.2.2.2.2.1
theorem dX11_head_12 : decode cX11_head 12 = .ok (.aload_n 0, 1) := dkg_X11_94.2.2.2.2.2.1
theorem dX11_head_13 : decode cX11_head 13 = .ok (.getfield 14, 3) := dkg_X11_94.2.2.2.2.2.2.1
theorem dX11_head_16 : decode cX11_head 16 = .ok (.iconst 0, 1) := dkg_X11_94.2.2.2.2.2.2.2.1
theorem dX11_head_17 : decode cX11_head 17 = .ok (.aload_n 0, 1) := dkg_X11_94.2.2.2.2.2.2.2.2.1
theorem dX11_head_18 : decode cX11_head 18 = .ok (.getfield 14, 3) := dkg_X11_94.2.2.2.2.2.2.2.2.2.1
theorem dkg_X11_95 : dkp cX11_head [(21, .getfield 99, 3), (24, .bipush 33, 2), (26, .bipush 125, 2), (28, .invokevirtual 171, 3), (31, .ifCond .eq 7, 3), (34, .iconst 1, 1), (35, .goto 4, 3), (38, .iconst 0, 1), (39, .istore_n 2, 1), (40, .aload_n 0, 1)] := dkf (by decide +kernel)
theorem dX11_head_21 : decode cX11_head 21 = .ok (.getfield 99, 3) := dkg_X11_95.1
theorem dX11_head_24 : decode cX11_head 24 = .ok (.bipush 33, 2) := dkg_X11_95.2.1
theorem dX11_head_26 : decode cX11_head 26 = .ok (.bipush 125, 2) := dkg_X11_95.2.2.1
theorem dX11_head_28 : decode cX11_head 28 = .ok (.invokevirtual 171, 3) := dkg_X11_95.2.2.2.1
theorem dX11_head_31 : decode cX11_head 31 = .ok (.ifCond .eq 7, 3) := dkg_X11_95.2.2.2.2.1
theorem dX11_head_34 : decode cX11_head 34 = .ok (.iconst 1, 1) := dkg_X11_95.2.2.2.2.2.1
theorem dX11_head_35 : decode cX11_head 35 = .ok (.goto 4, 3) := dkg_X11_95.2.2.2.2.2.2.1
theorem dX11_head_38 : decode cX11_head 38 = .ok (.iconst 0, 1) := dkg_X11_95.2.2.2.2.2.2.2.1
theorem dX11_head_39 : decode cX11_head 39 = .ok (.istore_n 2, 1) := dkg_X11_95.2.2.2.2.2.2.2.2.1
theorem dX11_head_40 : decode cX11_head 40 = .ok (.aload_n 0, 1) := dkg_X11_95.2.2.2.2.2.2.2.2.2.1
theorem dkg_X11_96 : dkp cX11_head [(41, .getfield 44, 3), (44, .invokevirtual 272, 3), (47, .iconst 0, 1), (48, .istore_n 3, 1), (49, .iload_n 2, 1), (50, .ifCond .eq 36, 3), (53, .iload_n 3, 1), (54, .aload_n 0, 1), (55, .getfield 14, 3), (58, .getfield 99, 3)] := dkf (by decide +kernel)
theorem dX11_head_41 : decode cX11_head 41 = .ok (.getfield 44, 3) := dkg_X11_96.1
theorem dX11_head_44 : decode cX11_head 44 = .ok (.invokevirtual 272, 3) := dkg_X11_96.2.1
theorem dX11_head_47 : decode cX11_head 47 = .ok (.iconst 0, 1) := dkg_X11_96.2.2.1
theorem dX11_head_48 : decode cX11_head 48 = .ok (.istore_n 3, 1) := dkg_X11_96.2.2.2.1
theorem dX11_head_49 : decode cX11_head 49 = .ok (.iload_n 2, 1) := dkg_X11_96.2.2.2.2.1
theorem dX11_head_50 : decode cX11_head 50 = .ok (.ifCond .eq 36, 3) := dkg_X11_96.2.2.2.2.2.1
theorem dX11_head_53 : decode cX11_head 53 = .ok (.iload_n 3, 1) := dkg_X11_96.2.2.2.2.2.2.1
theorem dX11_head_54 : decode cX11_head 54 = .ok (.aload_n 0, 1) := dkg_X11_96.2.2.2.2.2.2.2.1
theorem dX11_head_55 : decode cX11_head 55 = .ok (.getfield 14, 3) := dkg_X11_96.2.2.2.2.2.2.2.2.1
theorem dX11_head_58 : decode cX11_head 58 = .ok (.getfield 99, 3) := dkg_X11_96.2.2.2.2.2.2.2.2.2.1
theorem dkg_X11_97 : dkp cX11_head [(61, .if_icmp .ge 25, 3), (64, .aload_n 0, 1), (65, .getfield 44, 3), (68, .aload_n 0, 1), (69, .getfield 14, 3), (72, .iload_n 3, 1), (73, .invokevirtual 224, 3), (76, .iload_n 3, 1), (77, .invokevirtual 273, 3), (80, .iinc 3 1, 3)] := dkf (by decide +kernel)
theorem dX11_head_61 : decode cX11_head 61 = .ok (.if_icmp .ge 25, 3) := dkg_X11_97.1
theorem dX11_head_64 : decode cX11_head 64 = .ok (.aload_n 0, 1) := dkg_X11_97.2.1
theorem dX11_head_65 : decode cX11_head 65 = .ok (.getfield 44, 3) := dkg_X11_97.2.2.1
theorem dX11_head_68 : decode cX11_head 68 = .ok (.aload_n 0, 1) := dkg_X11_97.2.2.2.1
theorem dX11_head_69 : decode cX11_head 69 = .ok (.getfield 14, 3) := dkg_X11_97.2.2.2.2.1
theorem dX11_head_72 : decode cX11_head 72 = .ok (.iload_n 3, 1) := dkg_X11_97.2.2.2.2.2.1
theorem dX11_head_73 : decode cX11_head 73 = .ok (.invokevirtual 224, 3) := dkg_X11_97.2.2.2.2.2.2.1
theorem dX11_head_76 : decode cX11_head 76 = .ok (.iload_n 3, 1) := dkg_X11_97.2.2.2.2.2.2.2.1
theorem dX11_head_77 : decode cX11_head 77 = .ok (.invokevirtual 273, 3) := dkg_X11_97.2.2.2.2.2.2.2.2.1
theorem dX11_head_80 : decode cX11_head 80 = .ok (.iinc 3 1, 3) := dkg_X11_97.2.2.2.2.2.2.2.2.2.1
theorem dkg_X11_98 : dkp cX11_head [(83, .goto (-34), 3), (86, .aload_n 0, 1), (87, .getfield 14, 3), (90, .invokevirtual 164, 3), (93, .iload_n 2, 1), (94, .ifCond .ne 10, 3), (97, .aload_n 0, 1), (98, .bipush 6, 2), (100, .invokevirtual 102, 3), (103, .ireturn, 1)] := dkf (by decide +kernel)
theorem dX11_head_83 : decode cX11_head 83 = .ok (.goto (-34), 3) := dkg_X11_98.1
theorem dX11_head_86 : decode cX11_head 86 = .ok (.aload_n 0, 1) := dkg_X11_98.2.1
theorem dX11_head_87 : decode cX11_head 87 = .ok (.getfield 14, 3) := dkg_X11_98.2.2.1
theorem dX11_head_90 : decode cX11_head 90 = .ok (.invokevirtual 164, 3) := dkg_X11_98.2.2.2.1
theorem dX11_head_93 : decode cX11_head 93 = .ok (.iload_n 2, 1) := dkg_X11_98.2.2.2.2.1
theorem dX11_head_94 : decode cX11_head 94 = .ok (.ifCond .ne 10, 3) := dkg_X11_98.2.2.2.2.2.1
theorem dX11_head_97 : decode cX11_head 97 = .ok (.aload_n 0, 1) := dkg_X11_98.2.2.2.2.2.2.1
theorem dX11_head_98 : decode cX11_head 98 = .ok (.bipush 6, 2) := dkg_X11_98.2.2.2.2.2.2.2.1
theorem dX11_head_100 : decode cX11_head 100 = .ok (.invokevirtual 102, 3) := dkg_X11_98.2.2.2.2.2.2.2.2.1
theorem dX11_head_103 : decode cX11_head 103 = .ok (.ireturn, 1) := dkg_X11_98.2.2.2.2.2.2.2.2.2.1
theorem dkg_X11_99 : dkp cX11_head [(104, .aload_n 0, 1), (105, .getfield 30, 3), (108, .iload_n 1, 1), (109, .invokevirtual 231, 3), (112, .astore_n 3, 1), (113, .aload_n 3, 1), (114, .ifnonnull 9, 3), (117, .aload_n 0, 1), (118, .iconst 3, 1), (119, .invokevirtual 102, 3)] := dkf (by decide +kernel)
theorem dX11_head_104 : decode cX11_head 104 = .ok (.aload_n 0, 1) := dkg_X11_99.1
theorem dX11_head_105 : decode cX11_head 105 = .ok (.getfield 30, 3) := dkg_X11_99.2.1
theorem dX11_head_108 : decode cX11_head 108 = .ok (.iload_n 1, 1) := dkg_X11_99.2.2.1
theorem dX11_head_109 : decode cX11_head 109 = .ok (.invokevirtual 231, 3) := dkg_X11_99.2.2.2.1
theorem dX11_head_112 : decode cX11_head 112 = .ok (.astore_n 3, 1) := dkg_X11_99.2.2.2.2.1
theorem dX11_head_113 : decode cX11_head 113 = .ok (.aload_n 3, 1) := dkg_X11_99.2.2.2.2.2.1
theorem dX11_head_114 : decode cX11_head 114 = .ok (.ifnonnull 9, 3) := dkg_X11_99.2.2.2.2.2.2.1
theorem dX11_head_117 : decode cX11_head 117 = .ok (.aload_n 0, 1) := dkg_X11_99.2.2.2.2.2.2.2.1
theorem dX11_head_118 : decode cX11_head 118 = .ok (.iconst 3, 1) := dkg_X11_99.2.2.2.2.2.2.2.2.1
theorem dX11_head_119 : decode cX11_head 119 = .ok (.invokevirtual 102, 3) := dkg_X11_99.2.2.2.2.2.2.2.2.2.1
theorem dkg_X11_100 : dkp cX11_head [(122, .ireturn, 1), (123, .aload_n 0, 1), (124, .getfield 44, 3), (127, .aload_n 3, 1), (128, .invokevirtual 253, 3), (131, .istore 4, 2), (133, .iload 4, 2), (135, .ifCond .eq 17, 3), (138, .aload_n 0, 1), (139, .iload 4, 2)] := dkf (by decide +kernel)
theorem dX11_head_122 : decode cX11_head 122 = .ok (.ireturn, 1) := dkg_X11_100.1
theorem dX11_head_123 : decode cX11_head 123 = .ok (.aload_n 0, 1) := dkg_X11_100.2.1
theorem dX11_head_124 : decode cX11_head 124 = .ok (.getfield 44, 3) := dkg_X11_100.2.2.1
theorem dX11_head_127 : decode cX11_head 127 = .ok (.aload_n 3, 1) := dkg_X11_100.2.2.2.1
theorem dX11_head_128 : decode cX11_head 128 = .ok (.invokevirtual 253, 3) := dkg_X11_100.2.2.2.2.1
theorem dX11_head_131 : decode cX11_head 131 = .ok (.istore 4, 2) := dkg_X11_100.2.2.2.2.2.1
theorem dX11_head_133 : decode cX11_head 133 = .ok (.iload 4, 2) := dkg_X11_100.2.2.2.2.2.2.1
theorem dX11_head_135 : decode cX11_head 135 = .ok (.ifCond .eq 17, 3) := dkg_X11_100.2.2.2.2.2.2.2.1
theorem dX11_head_138 : decode cX11_head 138 = .ok (.aload_n 0, 1) := dkg_X11_100.2.2.2.2.2.2.2.2.1
theorem dX11_head_139 : decode cX11_head 139 = .ok (.iload 4, 2) := dkg_X11_100.2.2.2.2.2.2.2.2.2.1
theorem dkg_X11_101 : dkp cX11_head [(141, .aload_n 0, 1), (142, .getfield 44, 3), (145, .invokevirtual 263, 3), (148, .invokevirtual 266, 3), (151, .ireturn, 1), (152, .aload_n 0, 1), (153, .getfield 24, 3), (156, .invokevirtual 164, 3), (159, .iconst 0, 1), (160, .istore 5, 2)] := dkf (by decide +kernel)
theorem dX11_head_141 : decode cX11_head 141 = .ok (.aload_n 0, 1) := dkg_X11_101.1
theorem dX11_head_142 : decode cX11_head 142 = .ok (.getfield 44, 3) := dkg_X11_101.2.1
theorem dX11_head_145 : decode cX11_head 145 = .ok (.invokevirtual 263, 3) := dkg_X11_101.2.2.1
theorem dX11_head_148 : decode cX11_head 148 = .ok (.invokevirtual 266, 3) := dkg_X11_101.2.2.2.1
theorem dX11_head_151 : decode cX11_head 151 = .ok (.ireturn, 1) := dkg_X11_101.2.2.2.2.1
theorem dX11_head_152 : decode cX11_head 152 = .ok (.aload_n 0, 1) := dkg_X11_101.2.2.2.2.2.1
theorem dX11_head_153 : decode cX11_head 153 = .ok (.getfield 24, 3) := dkg_X11_101.2.2.2.2.2.2.1
theorem dX11_head_156 : decode cX11_head 156 = .ok (.invokevirtual 164, 3) := dkg_X11_101.2.2.2.2.2.2.2.1
theorem dX11_head_159 : decode cX11_head 159 = .ok (.iconst 0, 1) := dkg_X11_101.2.2.2.2.2.2.2.2.1
theorem dX11_head_160 : decode cX11_head 160 = .ok (.istore 5, 2) := dkg_X11_101.2.2.2.2.2.2.2.2.2.1
theorem dkg_X11_102 : dkp cX11_head [(162, .iload 5, 2), (164, .aload_n 0, 1), (165, .getfield 44, 3), (168, .getfield 277, 3), (171, .if_icmp .ge 35, 3), (174, .iload 5, 2), (176, .aload_n 0, 1), (177, .getfield 74, 3), (180, .if_icmp .ge 26, 3), (183, .aload_n 0, 1)] := dkf (by decide +kernel)
theorem dX11_head_162 : decode cX11_head 162 = .ok (.iload 5, 2) := dkg_X11_102.1
theorem dX11_head_164 : decode cX11_head 164 = .ok (.aload_n 0, 1) := dkg_X11_102.2.1
theorem dX11_head_165 : decode cX11_head 165 = .ok (.getfield 44, 3) := dkg_X11_102.2.2.1
theorem dX11_head_168 : decode cX11_head 168 = .ok (.getfield 277, 3) := dkg_X11_102.2.2.2.1
theorem dX11_head_171 : decode cX11_head 171 = .ok (.if_icmp .ge 35, 3) := dkg_X11_102.2.2.2.2.1
theorem dX11_head_174 : decode cX11_head 174 = .ok (.iload 5, 2) := dkg_X11_102.2.2.2.2.2.1
theorem dX11_head_176 : decode cX11_head 176 = .ok (.aload_n 0, 1) := dkg_X11_102.2.2.2.2.2.2.1
theorem dX11_head_177 : decode cX11_head 177 = .ok (.getfield 74, 3) := dkg_X11_102.2.2.2.2.2.2.2.1
theorem dX11_head_180 : decode cX11_head 180 = .ok (.if_icmp .ge 26, 3) := dkg_X11_102.2.2.2.2.2.2.2.2.1
theorem dX11_head_183 : decode cX11_head 183 = .ok (.aload_n 0, 1) := dkg_X11_102.2.2.2.2.2.2.2.2.2.1
theorem dkg_X11_103 : dkp cX11_head [(184, .getfield 24, 3), (187, .aload_n 0, 1), (188, .getfield 44, 3), (191, .getfield 278, 3), (194, .iload 5, 2), (196, .iaload, 1), (197, .invokevirtual 112, 3), (200, .iinc 5 1, 3), (203, .goto (-41), 3), (206, .aload_n 0, 1)] := dkf (by decide +kernel)
theorem dX11_head_184 : decode cX11_head 184 = .ok (.getfield 24, 3) := dkg_X11_103.1
theorem dX11_head_187 : decode cX11_head 187 = .ok (.aload_n 0, 1) := dkg_X11_103.2.1
theorem dX11_head_188 : decode cX11_head 188 = .ok (.getfield 44, 3) := dkg_X11_103.2.2.1
theorem dX11_head_191 : decode cX11_head 191 = .ok (.getfield 278, 3) := dkg_X11_103.2.2.2.1
theorem dX11_head_194 : decode cX11_head 194 = .ok (.iload 5, 2) := dkg_X11_103.2.2.2.2.1
theorem dX11_head_196 : decode cX11_head 196 = .ok (.iaload, 1) := dkg_X11_103.2.2.2.2.2.1
theorem dX11_head_197 : decode cX11_head 197 = .ok (.invokevirtual 112, 3) := dkg_X11_103.2.2.2.2.2.2.1
theorem dX11_head_200 : decode cX11_head 200 = .ok (.iinc 5 1, 3) := dkg_X11_103.2.2.2.2.2.2.2.1
theorem dX11_head_203 : decode cX11_head 203 = .ok (.goto (-41), 3) := dkg_X11_103.2.2.2.2.2.2.2.2.1
theorem dX11_head_206 : decode cX11_head 206 = .ok (.aload_n 0, 1) := dkg_X11_103.2.2.2.2.2.2.2.2.2.1
theorem dkg_X11_104 : dkp cX11_head [(207, .aload_n 0, 1), (208, .getfield 24, 3), (211, .getfield 99, 3), (214, .invokevirtual 109, 3), (217, .ireturn, 1)] := dkf (by decide +kernel)
theorem dX11_head_207 : decode cX11_head 207 = .ok (.aload_n 0, 1) := dkg_X11_104.1
theorem dX11_head_208 : decode cX11_head 208 = .ok (.getfield 24, 3) := dkg_X11_104.2.1
theorem dX11_head_211 : decode cX11_head 211 = .ok (.getfield 99, 3) := dkg_X11_104.2.2.1
theorem dX11_head_214 : decode cX11_head 214 = .ok (.invokevirtual 109, 3) := dkg_X11_104.2.2.2.1
theorem dX11_head_217 : decode cX11_head 217 = .ok (.ireturn, 1) := dkg_X11_104.2.2.2.2.1
theorem dkg_X11_105 : dkp cX11_lines [(0, .aload_n 0, 1), (1, .getfield 67, 3), (4, .getfield 269, 3), (7, .ireturn, 1)] := dkf (by decide +kernel)
theorem dX11_lines_0 : decode cX11_lines 0 = .ok (.aload_n 0, 1) := dkg_X11_105.1
theorem dX11_lines_1 : decode cX11_lines 1 = .ok (.getfield 67, 3) := dkg_X11_105.2.1
theorem dX11_lines_4 : decode cX11_lines 4 = .ok (.getfield 269, 3) := dkg_X11_105.2.2.1
theorem dX11_lines_7 : decode cX11_lines 7 = .ok (.ireturn, 1) := dkg_X11_105.2.2.2.1
theorem dkg_X11_106 : dkp cX11_pages [(0, .aload_n 0, 1), (1, .invokevirtual 282, 3), (4, .istore_n 1, 1), (5, .aload_n 0, 1), (6, .getfield 67, 3), (9, .getfield 269, 3), (12, .iload_n 1, 1), (13, .iadd, 1), (14, .iconst 1, 1), (15, .isub, 1)] := dkf (by decide +kernel)
theorem dX11_pages_0 : decode cX11_pages 0 = .ok (.aload_n 0, 1) := dkg_X11_106.1
theorem dX11_pages_1 : decode cX11_pages 1 = .ok (.invokevirtual 282, 3) := dkg_X11_106.2.1
theorem dX11_pages_4 : decode cX11_pages 4 = .ok (.istore_n 1, 1) := dkg_X11_106.2.2.1
theorem dX11_pages_5 : decode cX11_pages 5 = .ok (.aload_n 0, 1) := dkg_X11_106.2.2.2.1
theorem dX11_pages_6 : decode cX11_pages 6 = .ok (.getfield 67, 3) := dkg_X11_106.2.2.2.2.1
theorem dX11_pages_9 : decode cX11_pages 9 = .ok (.getfield 269, 3) := dkg_X11_106.2.2.2.2.2.1
theorem dX11_pages_12 : decode cX11_pages 12 = .ok (.iload_n 1, 1) := dkg_X11_106.2.2.2.2.2.2.1
theorem dX11_pages_13 : decode cX11_pages 13 = .ok (.iadd, 1) := dkg_X11_106.2.2.2.2.2.2.2.1
theorem dX11_pages_14 : decode cX11_pages 14 = .ok (.iconst 1, 1) := dkg_X11_106.2.2.2.2.2.2.2.2.1
theorem dX11_pages_15 : decode cX11_pages 15 = .ok (.isub, 1) := dkg_X11_106.2.2.2.2.2.2.2.2.2.1
theorem dkg_X11_107 : dkp cX11_pages [(16, .iload_n 1, 1), (17, .idiv, 1), (18, .ireturn, 1)] := dkf (by decide +kernel)
theorem dX11_pages_16 : decode cX11_pages 16 = .ok (.iload_n 1, 1) := dkg_X11_107.1
theorem dX11_pages_17 : decode cX11_pages 17 = .ok (.idiv, 1) := dkg_X11_107.2.1
theorem dX11_pages_18 : decode cX11_pages 18 = .ok (.ireturn, 1) := dkg_X11_107.2.2.1
theorem dkg_X11_108 : dkp cX11_pagesHaveHeader [(0, .aload_n 0, 1), (1, .getfield 24, 3), (4, .getfield 99, 3), (7, .ifCond .le 15, 3), (10, .aload_n 0, 1), (11, .getfield 78, 3), (14, .iconst 2, 1), (15, .if_icmp .lt 7, 3), (18, .iconst 1, 1), (19, .goto 4, 3)] := dkf (by decide +kernel)
theorem dX11_pagesHaveHeader_0 : decode cX11_pagesHaveHeader 0 = .ok (.aload_n 0, 1) := dkg_X11_108.1
theorem dX11_pagesHaveHeader_1 : decode cX11_pagesHaveHeader 1 = .ok (.getfield 24, 3) := dkg_X11_108.2.1
theorem dX11_pagesHaveHeader_4 : decode cX11_pagesHaveHeader 4 = .ok (.getfield 99, 3) := dkg_X11_108.2.2.1
theorem dX11_pagesHaveHeader_7 : decode cX11_pagesHaveHeader 7 = .ok (.ifCond .le 15, 3) := dkg_X11_108.2.2.2.1
theorem dX11_pagesHaveHeader_10 : decode cX11_pagesHaveHeader 10 = .ok (.aload_n 0, 1) := dkg_X11_108.2.2.2.2.1
theorem dX11_pagesHaveHeader_11 : decode cX11_pagesHaveHeader 11 = .ok (.getfield 78, 3) := dkg_X11_108.2.2.2.2.2.1
theorem dX11_pagesHaveHeader_14 : decode cX11_pagesHaveHeader 14 = .ok (.iconst 2, 1) := dkg_X11_108.2.2.2.2.2.2.1
theorem dX11_pagesHaveHeader_15 : decode cX11_pagesHaveHeader 15 = .ok (.if_icmp .lt 7, 3) := dkg_X11_108.2.2.2.2.2.2.2.1
theorem dX11_pagesHaveHeader_18 : decode cX11_pagesHaveHeader 18 = .ok (.iconst 1, 1) := dkg_X11_108.2.2.2.2.2.2.2.2.1
theorem dX11_pagesHaveHeader_19 : decode cX11_pagesHaveHeader 19 = .ok (.goto 4, 3) := dkg_X11_108.2.2.2.2.2.2.2.2.2.1
theorem dkg_X11_109 : dkp cX11_pagesHaveHeader [(22, .iconst 0, 1), (23, .ireturn, 1)] := dkf (by decide +kernel)
theorem dX11_pagesHaveHeader_22 : decode cX11_pagesHaveHeader 22 = .ok (.iconst 0, 1) := dkg_X11_109.1
theorem dX11_pagesHaveHeader_23 : decode cX11_pagesHaveHeader 23 = .ok (.ireturn, 1) := dkg_X11_109.2.1
theorem dkg_X11_110 : dkp cX11_linesOfPage [(0, .iconst 1, 1), (1, .aload_n 0, 1), (2, .invokevirtual 285, 3), (5, .ifCond .eq 12, 3), (8, .aload_n 0, 1), (9, .getfield 78, 3), (12, .iconst 1, 1), (13, .isub, 1), (14, .goto 7, 3), (17, .aload_n 0, 1)] := dkf (by decide +kernel)
theorem dX11_linesOfPage_0 : decode cX11_linesOfPage 0 = .ok (.iconst 1, 1) := dkg_X11_110.1
theorem dX11_linesOfPage_1 : decode cX11_linesOfPage 1 = .ok (.aload_n 0, 1) := dkg_X11_110.2.1
theorem dX11_linesOfPage_2 : decode cX11_linesOfPage 2 = .ok (.invokevirtual 285, 3) := dkg_X11_110.2.2.1
theorem dX11_linesOfPage_5 : decode cX11_linesOfPage 5 = .ok (.ifCond .eq 12, 3) := dkg_X11_110.2.2.2.1
theorem dX11_linesOfPage_8 : decode cX11_linesOfPage 8 = .ok (.aload_n 0, 1) := dkg_X11_110.2.2.2.2.1
theorem dX11_linesOfPage_9 : decode cX11_linesOfPage 9 = .ok (.getfield 78, 3) := dkg_X11_110.2.2.2.2.2.1
theorem dX11_linesOfPage_12 : decode cX11_linesOfPage 12 = .ok (.iconst 1, 1) := dkg_X11_110.2.2.2.2.2.2.1
theorem dX11_linesOfPage_13 : decode cX11_linesOfPage 13 = .ok (.isub, 1) := dkg_X11_110.2.2.2.2.2.2.2.1
theorem dX11_linesOfPage_14 : decode cX11_linesOfPage 14 = .ok (.goto 7, 3) := dkg_X11_110.2.2.2.2.2.2.2.2.1
theorem dX11_linesOfPage_17 : decode cX11_linesOfPage 17 = .ok (.aload_n 0, 1) := dkg_X11_110.2.2.2.2.2.2.2.2.2.1
theorem dkg_X11_111 : dkp cX11_linesOfPage [(18, .getfield 78, 3), (21, .invokestatic 141, 3), (24, .ireturn, 1)] := dkf (by decide +kernel)
theorem dX11_linesOfPage_18 : decode cX11_linesOfPage 18 = .ok (.getfield 78, 3) := dkg_X11_111.1
theorem dX11_linesOfPage_21 : decode cX11_linesOfPage 21 = .ok (.invokestatic 141, 3) := dkg_X11_111.2.1
theorem dX11_linesOfPage_24 : decode cX11_linesOfPage 24 = .ok (.ireturn, 1) := dkg_X11_111.2.2.1
theorem dkg_X11_112 : dkp cX11_length [(0, .aload_n 0, 1), (1, .getfield 67, 3), (4, .iload_n 1, 1), (5, .invokevirtual 288, 3), (8, .astore_n 2, 1), (9, .aload_n 2, 1), (10, .ifnonnull 18, 3), (13, .aload_n 0, 1), (14, .aload_n 0, 1), (15, .getfield 67, 3)] := dkf (by decide +kernel)
theorem dX11_length_0 : decode cX11_length 0 = .ok (.aload_n 0, 1) := dkg_X11_112.1
theorem dX11_length_1 : decode cX11_length 1 = .ok (.getfield 67, 3) := dkg_X11_112.2.1
theorem dX11_length_4 : decode cX11_length 4 = .ok (.iload_n 1, 1) := dkg_X11_112.2.2.1
theorem dX11_length_5 : decode cX11_length 5 = .ok (.invokevirtual 288, 3) := dkg_X11_112.2.2.2.1
theorem dX11_length_8 : decode cX11_length 8 = .ok (.astore_n 2, 1) := dkg_X11_112.2.2.2.2.1
theorem dX11_length_9 : decode cX11_length 9 = .ok (.aload_n 2, 1) := dkg_X11_112.2.2.2.2.2.1
theorem dX11_length_10 : decode cX11_length 10 = .ok (.ifnonnull 18, 3) := dkg_X11_112.2.2.2.2.2.2.1
theorem dX11_length_13 : decode cX11_length 13 = .ok (.aload_n 0, 1) := dkg_X11_112.2.2.2.2.2.2.2.1
theorem dX11_length_14 : decode cX11_length 14 = .ok (.aload_n 0, 1) := dkg_X11_112.2.2.2.2.2.2.2.2.1
theorem dX11_length_15 : decode cX11_length 15 = .ok (.getfield 67, 3) := dkg_X11_112.2.2.2.2.2.2.2.2.2.1
theorem dkg_X11_113 : dkp cX11_length [(18, .iload_n 1, 1), (19, .invokevirtual 292, 3), (22, .invokevirtual 102, 3), (25, .goto 11, 3), (28, .aload_n 0, 1), (29, .aload_n 2, 1), (30, .getfield 295, 3), (33, .invokevirtual 109, 3), (36, .ireturn, 1)] := dkf (by decide +kernel)
theorem dX11_length_18 : decode cX11_length 18 = .ok (.iload_n 1, 1) := dkg_X11_113.1
theorem dX11_length_19 : decode cX11_length 19 = .ok (.invokevirtual 292, 3) := dkg_X11_113.2.1
theorem dX11_length_22 : decode cX11_length 22 = .ok (.invokevirtual 102, 3) := dkg_X11_113.2.2.1
theorem dX11_length_25 : decode cX11_length 25 = .ok (.goto 11, 3) := dkg_X11_113.2.2.2.1
theorem dX11_length_28 : decode cX11_length 28 = .ok (.aload_n 0, 1) := dkg_X11_113.2.2.2.2.1
theorem dX11_length_29 : decode cX11_length 29 = .ok (.aload_n 2, 1) := dkg_X11_113.2.2.2.2.2.1
theorem dX11_length_30 : decode cX11_length 30 = .ok (.getfield 295, 3) := dkg_X11_113.2.2.2.2.2.2.1
theorem dX11_length_33 : decode cX11_length 33 = .ok (.invokevirtual 109, 3) := dkg_X11_113.2.2.2.2.2.2.2.1
theorem dX11_length_36 : decode cX11_length 36 = .ok (.ireturn, 1) := dkg_X11_113.2.2.2.2.2.2.2.2.1
theorem dkg_X11_114 : dkp cX11_cell [(0, .aload_n 0, 1), (1, .iload_n 1, 1), (2, .iload_n 2, 1), (3, .invokevirtual 298, 3), (6, .ireturn, 1)] := dkf (by decide +kernel)
theorem dX11_cell_0 : decode cX11_cell 0 = .ok (.aload_n 0, 1) := dkg_X11_114.1
theorem dX11_cell_1 : decode cX11_cell 1 = .ok (.iload_n 1, 1) := dkg_X11_114.2.1
theorem dX11_cell_2 : decode cX11_cell 2 = .ok (.iload_n 2, 1) := dkg_X11_114.2.2.1
theorem dX11_cell_3 : decode cX11_cell 3 = .ok (.invokevirtual 298, 3) := dkg_X11_114.2.2.2.1
theorem dX11_cell_6 : decode cX11_cell 6 = .ok (.ireturn, 1) := dkg_X11_114.2.2.2.2.1
theorem dkg_X11_115 : dkp cX11_cellOfLine [(0, .aload_n 0, 1), (1, .getfield 67, 3), (4, .iload_n 1, 1), (5, .invokevirtual 288, 3), (8, .astore_n 3, 1), (9, .aload_n 3, 1), (10, .ifnonnull 16, 3), (13, .aload_n 0, 1), (14, .aload_n 0, 1), (15, .getfield 67, 3)] := dkf (by decide +kernel)
theorem dX11_cellOfLine_0 : decode cX11_cellOfLine 0 = .ok (.aload_n 0, 1) := dkg_X11_115.1
theorem dX11_cellOfLine_1 : decode cX11_cellOfLine 1 = .ok (.getfield 67, 3) := dkg_X11_115.2.1
theorem dX11_cellOfLine_4 : decode cX11_cellOfLine 4 = .ok (.iload_n 1, 1) := dkg_X11_115.2.2.1
theorem dX11_cellOfLine_5 : decode cX11_cellOfLine 5 = .ok (.invokevirtual 288, 3) := dkg_X11_115.2.2.2.1
theorem dX11_cellOfLine_8 : decode cX11_cellOfLine 8 = .ok (.astore_n 3, 1) := dkg_X11_115.2.2.2.2.1
theorem dX11_cellOfLine_9 : decode cX11_cellOfLine 9 = .ok (.aload_n 3, 1) := dkg_X11_115.2.2.2.2.2.1
theorem dX11_cellOfLine_10 : decode cX11_cellOfLine 10 = .ok (.ifnonnull 16, 3) := dkg_X11_115.2.2.2.2.2.2.1
theorem dX11_cellOfLine_13 : decode cX11_cellOfLine 13 = .ok (.aload_n 0, 1) := dkg_X11_115.2.2.2.2.2.2.2.1
theorem dX11_cellOfLine_14 : decode cX11_cellOfLine 14 = .ok (.aload_n 0, 1) := dkg_X11_115.2.2.2.2.2.2.2.2.1
theorem dX11_cellOfLine_15 : decode cX11_cellOfLine 15 = .ok (.getfield 67, 3) := dkg_X11_115.2.2.2.2.2.2.2.2.2.1
theorem dkg_X11_116 : dkp cX11_cellOfLine [(18, .iload_n 1, 1), (19, .invokevirtual 292, 3), (22, .invokevirtual 102, 3), (25, .ireturn, 1), (26, .iload_n 2, 1), (27, .ifCond .lt 11, 3), (30, .iload_n 2, 1), (31, .aload_n 3, 1), (32, .getfield 295, 3), (35, .if_icmp .lt 11, 3)] := dkf (by decide +kernel)
theorem dX11_cellOfLine_18 : decode cX11_cellOfLine 18 = .ok (.iload_n 1, 1) := dkg_X11_116.1
theorem dX11_cellOfLine_19 : decode cX11_cellOfLine 19 = .ok (.invokevirtual 292, 3) := dkg_X11_116.2.1
theorem dX11_cellOfLine_22 : decode cX11_cellOfLine 22 = .ok (.invokevirtual 102, 3) := dkg_X11_116.2.2.1
theorem dX11_cellOfLine_25 : decode cX11_cellOfLine 25 = .ok (.ireturn, 1) := dkg_X11_116.2.2.2.1
theorem dX11_cellOfLine_26 : decode cX11_cellOfLine 26 = .ok (.iload_n 2, 1) := dkg_X11_116.2.2.2.2.1
theorem dX11_cellOfLine_27 : decode cX11_cellOfLine 27 = .ok (.ifCond .lt 11, 3) := dkg_X11_116.2.2.2.2.2.1
theorem dX11_cellOfLine_30 : decode cX11_cellOfLine 30 = .ok (.iload_n 2, 1) := dkg_X11_116.2.2.2.2.2.2.1
theorem dX11_cellOfLine_31 : decode cX11_cellOfLine 31 = .ok (.aload_n 3, 1) := dkg_X11_116.2.2.2.2.2.2.2.1
theorem dX11_cellOfLine_32 : decode cX11_cellOfLine 32 = .ok (.getfield 295, 3) := dkg_X11_116.2.2.2.2.2.2.2.2.1
theorem dX11_cellOfLine_35 : decode cX11_cellOfLine 35 = .ok (.if_icmp .lt 11, 3) := dkg_X11_116.2.2.2.2.2.2.2.2.2.1
theorem dkg_X11_117 : dkp cX11_cellOfLine [(38, .aload_n 0, 1), (39, .iconst 2, 1), (40, .invokevirtual 102, 3), (43, .goto 13, 3), (46, .aload_n 0, 1), (47, .aload_n 3, 1), (48, .getfield 301, 3), (51, .iload_n 2, 1), (52, .iaload, 1), (53, .invokevirtual 109, 3)] := dkf (by decide +kernel)
theorem dX11_cellOfLine_38 : decode cX11_cellOfLine 38 = .ok (.aload_n 0, 1) := dkg_X11_117.1
theorem dX11_cellOfLine_39 : decode cX11_cellOfLine 39 = .ok (.iconst 2, 1) := dkg_X11_117.2.1
theorem dX11_cellOfLine_40 : decode cX11_cellOfLine 40 = .ok (.invokevirtual 102, 3) := dkg_X11_117.2.2.1
theorem dX11_cellOfLine_43 : decode cX11_cellOfLine 43 = .ok (.goto 13, 3) := dkg_X11_117.2.2.2.1
theorem dX11_cellOfLine_46 : decode cX11_cellOfLine 46 = .ok (.aload_n 0, 1) := dkg_X11_117.2.2.2.2.1
theorem dX11_cellOfLine_47 : decode cX11_cellOfLine 47 = .ok (.aload_n 3, 1) := dkg_X11_117.2.2.2.2.2.1
theorem dX11_cellOfLine_48 : decode cX11_cellOfLine 48 = .ok (.getfield 301, 3) := dkg_X11_117.2.2.2.2.2.2.1
theorem dX11_cellOfLine_51 : decode cX11_cellOfLine 51 = .ok (.iload_n 2, 1) := dkg_X11_117.2.2.2.2.2.2.2.1
theorem dX11_cellOfLine_52 : decode cX11_cellOfLine 52 = .ok (.iaload, 1) := dkg_X11_117.2.2.2.2.2.2.2.2.1
theorem dX11_cellOfLine_53 : decode cX11_cellOfLine 53 = .ok (.invokevirtual 109, 3) := dkg_X11_117.2.2.2.2.2.2.2.2.2.1
theorem dkg_X11_118 : dkp cX11_cellOfLine [(56, .ireturn, 1)] := dkf (by decide +kernel)
theorem dX11_cellOfLine_56 : decode cX11_cellOfLine 56 = .ok (.ireturn, 1) := dkg_X11_118.1
theorem dkg_X11_119 : dkp cX11_page [(0, .iload_n 1, 1), (1, .ifCond .lt 23, 3), (4, .iload_n 1, 1), (5, .aload_n 0, 1), (6, .invokevirtual 302, 3), (9, .if_icmp .ge 15, 3), (12, .iload_n 2, 1), (13, .ifCond .lt 11, 3), (16, .iload_n 2, 1), (17, .aload_n 0, 1)] := dkf (by decide +kernel)
theorem dX11_page_0 : decode cX11_page 0 = .ok (.iload_n 1, 1) := dkg_X11_119.1
theorem dX11_page_1 : decode cX11_page 1 = .ok (.ifCond .lt 23, 3) := dkg_X11_119.2.1
theorem dX11_page_4 : decode cX11_page 4 = .ok (.iload_n 1, 1) := dkg_X11_119.2.2.1
theorem dX11_page_5 : decode cX11_page 5 = .ok (.aload_n 0, 1) := dkg_X11_119.2.2.2.1
theorem dX11_page_6 : decode cX11_page 6 = .ok (.invokevirtual 302, 3) := dkg_X11_119.2.2.2.2.1
theorem dX11_page_9 : decode cX11_page 9 = .ok (.if_icmp .ge 15, 3) := dkg_X11_119.2.2.2.2.2.1
theorem dX11_page_12 : decode cX11_page 12 = .ok (.iload_n 2, 1) := dkg_X11_119.2.2.2.2.2.2.1
theorem dX11_page_13 : decode cX11_page 13 = .ok (.ifCond .lt 11, 3) := dkg_X11_119.2.2.2.2.2.2.2.1
theorem dX11_page_16 : decode cX11_page 16 = .ok (.iload_n 2, 1) := dkg_X11_119.2.2.2.2.2.2.2.2.1
theorem dX11_page_17 : decode cX11_page 17 = .ok (.aload_n 0, 1) := dkg_X11_119.2.2.2.2.2.2.2.2.2.1
theorem dkg_X11_120 : dkp cX11_page [(18, .getfield 78, 3), (21, .if_icmp .lt 9, 3), (24, .aload_n 0, 1), (25, .iconst 2, 1), (26, .invokevirtual 102, 3), (29, .ireturn, 1), (30, .aload_n 0, 1), (31, .invokevirtual 285, 3), (34, .ifCond .eq 7, 3), (37, .iconst 1, 1)] := dkf (by decide +kernel)
theorem dX11_page_18 : decode cX11_page 18 = .ok (.getfield 78, 3) := dkg_X11_120.1
theorem dX11_page_21 : decode cX11_page 21 = .ok (.if_icmp .lt 9, 3) := dkg_X11_120.2.1
theorem dX11_page_24 : decode cX11_page 24 = .ok (.aload_n 0, 1) := dkg_X11_120.2.2.1
theorem dX11_page_25 : decode cX11_page 25 = .ok (.iconst 2, 1) := dkg_X11_120.2.2.2.1
theorem dX11_page_26 : decode cX11_page 26 = .ok (.invokevirtual 102, 3) := dkg_X11_120.2.2.2.2.1
theorem dX11_page_29 : decode cX11_page 29 = .ok (.ireturn, 1) := dkg_X11_120.2.2.2.2.2.1
theorem dX11_page_30 : decode cX11_page 30 = .ok (.aload_n 0, 1) := dkg_X11_120.2.2.2.2.2.2.1
theorem dX11_page_31 : decode cX11_page 31 = .ok (.invokevirtual 285, 3) := dkg_X11_120.2.2.2.2.2.2.2.1
theorem dX11_page_34 : decode cX11_page 34 = .ok (.ifCond .eq 7, 3) := dkg_X11_120.2.2.2.2.2.2.2.2.1
theorem dX11_page_37 : decode cX11_page 37 = .ok (.iconst 1, 1) := dkg_X11_120.2.2.2.2.2.2.2.2.2.1
theorem dkg_X11_121 : dkp cX11_page [(38, .goto 4, 3), (41, .iconst 0, 1), (42, .istore 4, 2), (44, .iload_n 2, 1), (45, .iload 4, 2), (47, .if_icmp .ge 39, 3), (50, .iload_n 3, 1), (51, .ifCond .lt 14, 3), (54, .iload_n 3, 1), (55, .aload_n 0, 1)] := dkf (by decide +kernel)
theorem dX11_page_38 : decode cX11_page 38 = .ok (.goto 4, 3) := dkg_X11_121.1
theorem dX11_page_41 : decode cX11_page 41 = .ok (.iconst 0, 1) := dkg_X11_121.2.1
theorem dX11_page_42 : decode cX11_page 42 = .ok (.istore 4, 2) := dkg_X11_121.2.2.1
theorem dX11_page_44 : decode cX11_page 44 = .ok (.iload_n 2, 1) := dkg_X11_121.2.2.2.1
theorem dX11_page_45 : decode cX11_page 45 = .ok (.iload 4, 2) := dkg_X11_121.2.2.2.2.1
theorem dX11_page_47 : decode cX11_page 47 = .ok (.if_icmp .ge 39, 3) := dkg_X11_121.2.2.2.2.2.1
theorem dX11_page_50 : decode cX11_page 50 = .ok (.iload_n 3, 1) := dkg_X11_121.2.2.2.2.2.2.1
theorem dX11_page_51 : decode cX11_page 51 = .ok (.ifCond .lt 14, 3) := dkg_X11_121.2.2.2.2.2.2.2.1
theorem dX11_page_54 : decode cX11_page 54 = .ok (.iload_n 3, 1) := dkg_X11_121.2.2.2.2.2.2.2.2.1
theorem dX11_page_55 : decode cX11_page 55 = .ok (.aload_n 0, 1) := dkg_X11_121.2.2.2.2.2.2.2.2.2.1
theorem dkg_X11_122 : dkp cX11_page [(56, .getfield 24, 3), (59, .getfield 99, 3), (62, .if_icmp .lt 11, 3), (65, .aload_n 0, 1), (66, .iconst 2, 1), (67, .invokevirtual 102, 3), (70, .goto 15, 3), (73, .aload_n 0, 1), (74, .aload_n 0, 1), (75, .getfield 24, 3)] := dkf (by decide +kernel)
theorem dX11_page_56 : decode cX11_page 56 = .ok (.getfield 24, 3) := dkg_X11_122.1
theorem dX11_page_59 : decode cX11_page 59 = .ok (.getfield 99, 3) := dkg_X11_122.2.1
theorem dX11_page_62 : decode cX11_page 62 = .ok (.if_icmp .lt 11, 3) := dkg_X11_122.2.2.1
theorem dX11_page_65 : decode cX11_page 65 = .ok (.aload_n 0, 1) := dkg_X11_122.2.2.2.1
theorem dX11_page_66 : decode cX11_page 66 = .ok (.iconst 2, 1) := dkg_X11_122.2.2.2.2.1
theorem dX11_page_67 : decode cX11_page 67 = .ok (.invokevirtual 102, 3) := dkg_X11_122.2.2.2.2.2.1
theorem dX11_page_70 : decode cX11_page 70 = .ok (.goto 15, 3) := dkg_X11_122.2.2.2.2.2.2.1
theorem dX11_page_73 : decode cX11_page 73 = .ok (.aload_n 0, 1) := dkg_X11_122.2.2.2.2.2.2.2.1
theorem dX11_page_74 : decode cX11_page 74 = .ok (.aload_n 0, 1) := dkg_X11_122.2.2.2.2.2.2.2.2.1
theorem dX11_page_75 : decode cX11_page 75 = .ok (.getfield 24, 3) := dkg_X11_122.2.2.2.2.2.2.2.2.2.1
theorem dkg_X11_123 : dkp cX11_page [(78, .iload_n 3, 1), (79, .invokevirtual 224, 3), (82, .invokevirtual 109, 3), (85, .ireturn, 1), (86, .aload_n 0, 1), (87, .iload_n 1, 1), (88, .aload_n 0, 1), (89, .invokevirtual 282, 3), (92, .imul, 1), (93, .iload_n 2, 1)] := dkf (by decide +kernel)
theorem dX11_page_78 : decode cX11_page 78 = .ok (.iload_n 3, 1) := dkg_X11_123.1
theorem dX11_page_79 : decode cX11_page 79 = .ok (.invokevirtual 224, 3) := dkg_X11_123.2.1
theorem dX11_page_82 : decode cX11_page 82 = .ok (.invokevirtual 109, 3) := dkg_X11_123.2.2.1
theorem dX11_page_85 : decode cX11_page 85 = .ok (.ireturn, 1) := dkg_X11_123.2.2.2.1
theorem dX11_page_86 : decode cX11_page 86 = .ok (.aload_n 0, 1) := dkg_X11_123.2.2.2.2.1
theorem dX11_page_87 : decode cX11_page 87 = .ok (.iload_n 1, 1) := dkg_X11_123.2.2.2.2.2.1
theorem dX11_page_88 : decode cX11_page 88 = .ok (.aload_n 0, 1) := dkg_X11_123.2.2.2.2.2.2.1
theorem dX11_page_89 : decode cX11_page 89 = .ok (.invokevirtual 282, 3) := dkg_X11_123.2.2.2.2.2.2.2.1
theorem dX11_page_92 : decode cX11_page 92 = .ok (.imul, 1) := dkg_X11_123.2.2.2.2.2.2.2.2.1
theorem dX11_page_93 : decode cX11_page 93 = .ok (.iload_n 2, 1) := dkg_X11_123.2.2.2.2.2.2.2.2.2.1
theorem dkg_X11_124 : dkp cX11_page [(94, .iadd, 1), (95, .iload 4, 2), (97, .isub, 1), (98, .iload_n 3, 1), (99, .invokevirtual 298, 3), (102, .ireturn, 1)] := dkf (by decide +kernel)
theorem dX11_page_94 : decode cX11_page 94 = .ok (.iadd, 1) := dkg_X11_124.1
theorem dX11_page_95 : decode cX11_page 95 = .ok (.iload 4, 2) := dkg_X11_124.2.1
theorem dX11_page_97 : decode cX11_page 97 = .ok (.isub, 1) := dkg_X11_124.2.2.1
theorem dX11_page_98 : decode cX11_page 98 = .ok (.iload_n 3, 1) := dkg_X11_124.2.2.2.1
theorem dX11_page_99 : decode cX11_page 99 = .ok (.invokevirtual 298, 3) := dkg_X11_124.2.2.2.2.1
theorem dX11_page_102 : decode cX11_page 102 = .ok (.ireturn, 1) := dkg_X11_124.2.2.2.2.2.1
theorem dkg_X11_125 : dkp cX11_cut [(0, .iload_n 2, 1), (1, .sipush 200, 3), (4, .if_icmp .le 10, 3), (7, .aload_n 0, 1), (8, .bipush 6, 2), (10, .invokevirtual 102, 3), (13, .ireturn, 1), (14, .iload_n 2, 1), (15, .ifCond .ge 9, 3), (18, .aload_n 0, 1)] := dkf (by decide +kernel)
theorem dX11_cut_0 : decode cX11_cut 0 = .ok (.iload_n 2, 1) := dkg_X11_125.1
theorem dX11_cut_1 : decode cX11_cut 1 = .ok (.sipush 200, 3) := dkg_X11_125.2.1
theorem dX11_cut_4 : decode cX11_cut 4 = .ok (.if_icmp .le 10, 3) := dkg_X11_125.2.2.1
theorem dX11_cut_7 : decode cX11_cut 7 = .ok (.aload_n 0, 1) := dkg_X11_125.2.2.2.1
theorem dX11_cut_8 : decode cX11_cut 8 = .ok (.bipush 6, 2) := dkg_X11_125.2.2.2.2.1
theorem dX11_cut_10 : decode cX11_cut 10 = .ok (.invokevirtual 102, 3) := dkg_X11_125.2.2.2.2.2.1
theorem dX11_cut_13 : decode cX11_cut 13 = .ok (.ireturn, 1) := dkg_X11_125.2.2.2.2.2.2.1
theorem dX11_cut_14 : decode cX11_cut 14 = .ok (.iload_n 2, 1) := dkg_X11_125.2.2.2.2.2.2.2.1
theorem dX11_cut_15 : decode cX11_cut 15 = .ok (.ifCond .ge 9, 3) := dkg_X11_125.2.2.2.2.2.2.2.2.1
theorem dX11_cut_18 : decode cX11_cut 18 = .ok (.aload_n 0, 1) := dkg_X11_125.2.2.2.2.2.2.2.2.2.1
theorem dkg_X11_126 : dkp cX11_cut [(19, .iconst 5, 1), (20, .invokevirtual 102, 3), (23, .ireturn, 1), (24, .aload_n 0, 1), (25, .getfield 67, 3), (28, .iload_n 1, 1), (29, .invokevirtual 288, 3), (32, .astore_n 3, 1), (33, .aload_n 3, 1), (34, .ifnonnull 16, 3)] := dkf (by decide +kernel)
theorem dX11_cut_19 : decode cX11_cut 19 = .ok (.iconst 5, 1) := dkg_X11_126.1
theorem dX11_cut_20 : decode cX11_cut 20 = .ok (.invokevirtual 102, 3) := dkg_X11_126.2.1
theorem dX11_cut_23 : decode cX11_cut 23 = .ok (.ireturn, 1) := dkg_X11_126.2.2.1
theorem dX11_cut_24 : decode cX11_cut 24 = .ok (.aload_n 0, 1) := dkg_X11_126.2.2.2.1
theorem dX11_cut_25 : decode cX11_cut 25 = .ok (.getfield 67, 3) := dkg_X11_126.2.2.2.2.1
theorem dX11_cut_28 : decode cX11_cut 28 = .ok (.iload_n 1, 1) := dkg_X11_126.2.2.2.2.2.1
theorem dX11_cut_29 : decode cX11_cut 29 = .ok (.invokevirtual 288, 3) := dkg_X11_126.2.2.2.2.2.2.1
theorem dX11_cut_32 : decode cX11_cut 32 = .ok (.astore_n 3, 1) := dkg_X11_126.2.2.2.2.2.2.2.1
theorem dX11_cut_33 : decode cX11_cut 33 = .ok (.aload_n 3, 1) := dkg_X11_126.2.2.2.2.2.2.2.2.1
theorem dX11_cut_34 : decode cX11_cut 34 = .ok (.ifnonnull 16, 3) := dkg_X11_126.2.2.2.2.2.2.2.2.2.1
theorem dkg_X11_127 : dkp cX11_cut [(37, .aload_n 0, 1), (38, .aload_n 0, 1), (39, .getfield 67, 3), (42, .iload_n 1, 1), (43, .invokevirtual 292, 3), (46, .invokevirtual 102, 3), (49, .ireturn, 1), (50, .aload_n 3, 1), (51, .iload_n 2, 1), (52, .invokevirtual 305, 3)] := dkf (by decide +kernel)
theorem dX11_cut_37 : decode cX11_cut 37 = .ok (.aload_n 0, 1) := dkg_X11_127.1
theorem dX11_cut_38 : decode cX11_cut 38 = .ok (.aload_n 0, 1) := dkg_X11_127.2.1
theorem dX11_cut_39 : decode cX11_cut 39 = .ok (.getfield 67, 3) := dkg_X11_127.2.2.1
theorem dX11_cut_42 : decode cX11_cut 42 = .ok (.iload_n 1, 1) := dkg_X11_127.2.2.2.1
theorem dX11_cut_43 : decode cX11_cut 43 = .ok (.invokevirtual 292, 3) := dkg_X11_127.2.2.2.2.1
theorem dX11_cut_46 : decode cX11_cut 46 = .ok (.invokevirtual 102, 3) := dkg_X11_127.2.2.2.2.2.1
theorem dX11_cut_49 : decode cX11_cut 49 = .ok (.ireturn, 1) := dkg_X11_127.2.2.2.2.2.2.1
theorem dX11_cut_50 : decode cX11_cut 50 = .ok (.aload_n 3, 1) := dkg_X11_127.2.2.2.2.2.2.2.1
theorem dX11_cut_51 : decode cX11_cut 51 = .ok (.iload_n 2, 1) := dkg_X11_127.2.2.2.2.2.2.2.2.1
theorem dX11_cut_52 : decode cX11_cut 52 = .ok (.invokevirtual 305, 3) := dkg_X11_127.2.2.2.2.2.2.2.2.2.1
theorem dkg_X11_128 : dkp cX11_cut [(55, .aload_n 0, 1), (56, .iload_n 2, 1), (57, .invokevirtual 109, 3), (60, .ireturn, 1)] := dkf (by decide +kernel)
theorem dX11_cut_55 : decode cX11_cut 55 = .ok (.aload_n 0, 1) := dkg_X11_128.1
theorem dX11_cut_56 : decode cX11_cut 56 = .ok (.iload_n 2, 1) := dkg_X11_128.2.1
theorem dX11_cut_57 : decode cX11_cut 57 = .ok (.invokevirtual 109, 3) := dkg_X11_128.2.2.1
theorem dX11_cut_60 : decode cX11_cut 60 = .ok (.ireturn, 1) := dkg_X11_128.2.2.2.1
theorem dkg_X11_129 : dkp cX11_lose [(0, .aload_n 0, 1), (1, .getfield 67, 3), (4, .iload_n 1, 1), (5, .invokevirtual 308, 3), (8, .astore_n 2, 1), (9, .aload_n 2, 1), (10, .ifnonnull 9, 3), (13, .aload_n 0, 1), (14, .iconst 2, 1), (15, .invokevirtual 102, 3)] := dkf (by decide +kernel)
theorem dX11_lose_0 : decode cX11_lose 0 = .ok (.aload_n 0, 1) := dkg_X11_129.1
theorem dX11_lose_1 : decode cX11_lose 1 = .ok (.getfield 67, 3) := dkg_X11_129.2.1
theorem dX11_lose_4 : decode cX11_lose 4 = .ok (.iload_n 1, 1) := dkg_X11_129.2.2.1
theorem dX11_lose_5 : decode cX11_lose 5 = .ok (.invokevirtual 308, 3) := dkg_X11_129.2.2.2.1
theorem dX11_lose_8 : decode cX11_lose 8 = .ok (.astore_n 2, 1) := dkg_X11_129.2.2.2.2.1
theorem dX11_lose_9 : decode cX11_lose 9 = .ok (.aload_n 2, 1) := dkg_X11_129.2.2.2.2.2.1
theorem dX11_lose_10 : decode cX11_lose 10 = .ok (.ifnonnull 9, 3) := dkg_X11_129.2.2.2.2.2.2.1
theorem dX11_lose_13 : decode cX11_lose 13 = .ok (.aload_n 0, 1) := dkg_X11_129.2.2.2.2.2.2.2.1
theorem dX11_lose_14 : decode cX11_lose 14 = .ok (.iconst 2, 1) := dkg_X11_129.2.2.2.2.2.2.2.2.1
theorem dX11_lose_15 : decode cX11_lose 15 = .ok (.invokevirtual 102, 3) := dkg_X11_129.2.2.2.2.2.2.2.2.2.1
theorem dkg_X11_130 : dkp cX11_lose [(18, .ireturn, 1), (19, .aload_n 2, 1), (20, .iconst 1, 1), (21, .putfield 310, 3), (24, .aload_n 0, 1), (25, .iconst 1, 1), (26, .invokevirtual 109, 3), (29, .ireturn, 1)] := dkf (by decide +kernel)
theorem dX11_lose_18 : decode cX11_lose 18 = .ok (.ireturn, 1) := dkg_X11_130.1
theorem dX11_lose_19 : decode cX11_lose 19 = .ok (.aload_n 2, 1) := dkg_X11_130.2.1
theorem dX11_lose_20 : decode cX11_lose 20 = .ok (.iconst 1, 1) := dkg_X11_130.2.2.1
theorem dX11_lose_21 : decode cX11_lose 21 = .ok (.putfield 310, 3) := dkg_X11_130.2.2.2.1
theorem dX11_lose_24 : decode cX11_lose 24 = .ok (.aload_n 0, 1) := dkg_X11_130.2.2.2.2.1
theorem dX11_lose_25 : decode cX11_lose 25 = .ok (.iconst 1, 1) := dkg_X11_130.2.2.2.2.2.1
theorem dX11_lose_26 : decode cX11_lose 26 = .ok (.invokevirtual 109, 3) := dkg_X11_130.2.2.2.2.2.2.1
theorem dX11_lose_29 : decode cX11_lose 29 = .ok (.ireturn, 1) := dkg_X11_130.2.2.2.2.2.2.2.1
theorem dkg_X11_131 : dkp cX11_copyRow [(0, .aload_n 0, 1), (1, .getfield 67, 3), (4, .iload_n 1, 1), (5, .invokevirtual 308, 3), (8, .astore 6, 2), (10, .aload_n 0, 1), (11, .getfield 67, 3), (14, .iload_n 3, 1), (15, .invokevirtual 308, 3), (18, .astore 7, 2)] := dkf (by decide +kernel)
theorem dX11_copyRow_0 : decode cX11_copyRow 0 = .ok (.aload_n 0, 1) := dkg_X11_131.1
theorem dX11_copyRow_1 : decode cX11_copyRow 1 = .ok (.getfield 67, 3) := dkg_X11_131.2.1
theorem dX11_copyRow_4 : decode cX11_copyRow 4 = .ok (.iload_n 1, 1) := dkg_X11_131.2.2.1
theorem dX11_copyRow_5 : decode cX11_copyRow 5 = .ok (.invokevirtual 308, 3) := dkg_X11_131.2.2.2.1
theorem dX11_copyRow_8 : decode cX11_copyRow 8 = .ok (.astore 6, 2) := dkg_X11_131.2.2.2.2.1
theorem dX11_copyRow_10 : decode cX11_copyRow 10 = .ok (.aload_n 0, 1) := dkg_X11_131.2.2.2.2.2.1
theorem dX11_copyRow_11 : decode cX11_copyRow 11 = .ok (.getfield 67, 3) := dkg_X11_131.2.2.2.2.2.2.1
theorem dX11_copyRow_14 : decode cX11_copyRow 14 = .ok (.iload_n 3, 1) := dkg_X11_131.2.2.2.2.2.2.2.1
theorem dX11_copyRow_15 : decode cX11_copyRow 15 = .ok (.invokevirtual 308, 3) := dkg_X11_131.2.2.2.2.2.2.2.2.1
theorem dX11_copyRow_18 : decode cX11_copyRow 18 = .ok (.astore 7, 2) := dkg_X11_131.2.2.2.2.2.2.2.2.2.1
theorem dkg_X11_132 : dkp cX11_copyRow [(20, .aload 6, 2), (22, .ifnull 8, 3), (25, .aload 7, 2), (27, .ifnonnull 9, 3), (30, .aload_n 0, 1), (31, .iconst 2, 1), (32, .invokevirtual 102, 3), (35, .ireturn, 1), (36, .aload 6, 2), (38, .getfield 310, 3)] := dkf (by decide +kernel)
theorem dX11_copyRow_20 : decode cX11_copyRow 20 = .ok (.aload 6, 2) := dkg_X11_132.1
theorem dX11_copyRow_22 : decode cX11_copyRow 22 = .ok (.ifnull 8, 3) := dkg_X11_132.2.1
theorem dX11_copyRow_25 : decode cX11_copyRow 25 = .ok (.aload 7, 2) := dkg_X11_132.2.2.1
theorem dX11_copyRow_27 : decode cX11_copyRow 27 = .ok (.ifnonnull 9, 3) := dkg_X11_132.2.2.2.1
theorem dX11_copyRow_30 : decode cX11_copyRow 30 = .ok (.aload_n 0, 1) := dkg_X11_132.2.2.2.2.1
theorem dX11_copyRow_31 : decode cX11_copyRow 31 = .ok (.iconst 2, 1) := dkg_X11_132.2.2.2.2.2.1
theorem dX11_copyRow_32 : decode cX11_copyRow 32 = .ok (.invokevirtual 102, 3) := dkg_X11_132.2.2.2.2.2.2.1
theorem dX11_copyRow_35 : decode cX11_copyRow 35 = .ok (.ireturn, 1) := dkg_X11_132.2.2.2.2.2.2.2.1
theorem dX11_copyRow_36 : decode cX11_copyRow 36 = .ok (.aload 6, 2) := dkg_X11_132.2.2.2.2.2.2.2.2.1
theorem dX11_copyRow_38 : decode cX11_copyRow 38 = .ok (.getfield 310, 3) := dkg_X11_132.2.2.2.2.2.2.2.2.2.1
theorem dkg_X11_133 : dkp cX11_copyRow [(41, .ifCond .ne 11, 3), (44, .aload 7, 2), (46, .getfield 310, 3), (49, .ifCond .eq 9, 3), (52, .aload_n 0, 1), (53, .iconst 1, 1), (54, .invokevirtual 102, 3), (57, .ireturn, 1), (58, .aload 6, 2), (60, .iload_n 2, 1)] := dkf (by decide +kernel)
theorem dX11_copyRow_41 : decode cX11_copyRow 41 = .ok (.ifCond .ne 11, 3) := dkg_X11_133.1
theorem dX11_copyRow_44 : decode cX11_copyRow 44 = .ok (.aload 7, 2) := dkg_X11_133.2.1
theorem dX11_copyRow_46 : decode cX11_copyRow 46 = .ok (.getfield 310, 3) := dkg_X11_133.2.2.1
theorem dX11_copyRow_49 : decode cX11_copyRow 49 = .ok (.ifCond .eq 9, 3) := dkg_X11_133.2.2.2.1
theorem dX11_copyRow_52 : decode cX11_copyRow 52 = .ok (.aload_n 0, 1) := dkg_X11_133.2.2.2.2.1
theorem dX11_copyRow_53 : decode cX11_copyRow 53 = .ok (.iconst 1, 1) := dkg_X11_133.2.2.2.2.2.1
theorem dX11_copyRow_54 : decode cX11_copyRow 54 = .ok (.invokevirtual 102, 3) := dkg_X11_133.2.2.2.2.2.2.1
theorem dX11_copyRow_57 : decode cX11_copyRow 57 = .ok (.ireturn, 1) := dkg_X11_133.2.2.2.2.2.2.2.1
theorem dX11_copyRow_58 : decode cX11_copyRow 58 = .ok (.aload 6, 2) := dkg_X11_133.2.2.2.2.2.2.2.2.1
theorem dX11_copyRow_60 : decode cX11_copyRow 60 = .ok (.iload_n 2, 1) := dkg_X11_133.2.2.2.2.2.2.2.2.2.1
theorem dkg_X11_134 : dkp cX11_copyRow [(61, .iload 5, 2), (63, .invokevirtual 313, 3), (66, .ifCond .eq 15, 3), (69, .aload 7, 2), (71, .iload 4, 2), (73, .iload 5, 2), (75, .invokevirtual 313, 3), (78, .ifCond .ne 9, 3), (81, .aload_n 0, 1), (82, .iconst 2, 1)] := dkf (by decide +kernel)
theorem dX11_copyRow_61 : decode cX11_copyRow 61 = .ok (.iload 5, 2) := dkg_X11_134.1
theorem dX11_copyRow_63 : decode cX11_copyRow 63 = .ok (.invokevirtual 313, 3) := dkg_X11_134.2.1
theorem dX11_copyRow_66 : decode cX11_copyRow 66 = .ok (.ifCond .eq 15, 3) := dkg_X11_134.2.2.1
theorem dX11_copyRow_69 : decode cX11_copyRow 69 = .ok (.aload 7, 2) := dkg_X11_134.2.2.2.1
theorem dX11_copyRow_71 : decode cX11_copyRow 71 = .ok (.iload 4, 2) := dkg_X11_134.2.2.2.2.1
theorem dX11_copyRow_73 : decode cX11_copyRow 73 = .ok (.iload 5, 2) := dkg_X11_134.2.2.2.2.2.1
theorem dX11_copyRow_75 : decode cX11_copyRow 75 = .ok (.invokevirtual 313, 3) := dkg_X11_134.2.2.2.2.2.2.1
theorem dX11_copyRow_78 : decode cX11_copyRow 78 = .ok (.ifCond .ne 9, 3) := dkg_X11_134.2.2.2.2.2.2.2.1
theorem dX11_copyRow_81 : decode cX11_copyRow 81 = .ok (.aload_n 0, 1) := dkg_X11_134.2.2.2.2.2.2.2.2.1
theorem dX11_copyRow_82 : decode cX11_copyRow 82 = .ok (.iconst 2, 1) := dkg_X11_134.2.2.2.2.2.2.2.2.2.1
theorem dkg_X11_135 : dkp cX11_copyRow [(83, .invokevirtual 102, 3), (86, .ireturn, 1), (87, .aload 6, 2), (89, .getfield 301, 3), (92, .iload_n 2, 1), (93, .aload 7, 2), (95, .getfield 301, 3), (98, .iload 4, 2), (100, .iload 5, 2), (102, .invokestatic 316, 3)] := dkf (by decide +kernel)
theorem dX11_copyRow_83 : decode cX11_copyRow 83 = .ok (.invokevirtual 102, 3) := dkg_X11_135.1
theorem dX11_copyRow_86 : decode cX11_copyRow 86 = .ok (.ireturn, 1) := dkg_X11_135.2.1
theorem dX11_copyRow_87 : decode cX11_copyRow 87 = .ok (.aload 6, 2) := dkg_X11_135.2.2.1
theorem dX11_copyRow_89 : decode cX11_copyRow 89 = .ok (.getfield 301, 3) := dkg_X11_135.2.2.2.1
theorem dX11_copyRow_92 : decode cX11_copyRow 92 = .ok (.iload_n 2, 1) := dkg_X11_135.2.2.2.2.1
theorem dX11_copyRow_93 : decode cX11_copyRow 93 = .ok (.aload 7, 2) := dkg_X11_135.2.2.2.2.2.1
theorem dX11_copyRow_95 : decode cX11_copyRow 95 = .ok (.getfield 301, 3) := dkg_X11_135.2.2.2.2.2.2.1
theorem dX11_copyRow_98 : decode cX11_copyRow 98 = .ok (.iload 4, 2) := dkg_X11_135.2.2.2.2.2.2.2.1
theorem dX11_copyRow_100 : decode cX11_copyRow 100 = .ok (.iload 5, 2) := dkg_X11_135.2.2.2.2.2.2.2.2.1
theorem dX11_copyRow_102 : decode cX11_copyRow 102 = .ok (.invokestatic 316, 3) := dkg_X11_135.2.2.2.2.2.2.2.2.2.1
theorem dkg_X11_136 : dkp cX11_copyRow [(105, .aload_n 0, 1), (106, .iload 5, 2), (108, .invokevirtual 109, 3), (111, .ireturn, 1)] := dkf (by decide +kernel)
theorem dX11_copyRow_105 : decode cX11_copyRow 105 = .ok (.aload_n 0, 1) := dkg_X11_136.1
theorem dX11_copyRow_106 : decode cX11_copyRow 106 = .ok (.iload 5, 2) := dkg_X11_136.2.1
theorem dX11_copyRow_108 : decode cX11_copyRow 108 = .ok (.invokevirtual 109, 3) := dkg_X11_136.2.2.1
theorem dX11_copyRow_111 : decode cX11_copyRow 111 = .ok (.ireturn, 1) := dkg_X11_136.2.2.2.1
theorem dkg_X11_137 : dkp cX11_copyLines [(0, .iload_n 3, 1), (1, .bipush 10, 2), (3, .if_icmp .le 10, 3), (6, .aload_n 0, 1), (7, .bipush 6, 2), (9, .invokevirtual 102, 3), (12, .ireturn, 1), (13, .iload_n 3, 1), (14, .ifCond .ge 9, 3), (17, .aload_n 0, 1)] := dkf (by decide +kernel)
theorem dX11_copyLines_0 : decode cX11_copyLines 0 = .ok (.iload_n 3, 1) := dkg_X11_137.1
theorem dX11_copyLines_1 : decode cX11_copyLines 1 = .ok (.bipush 10, 2) := dkg_X11_137.2.1
theorem dX11_copyLines_3 : decode cX11_copyLines 3 = .ok (.if_icmp .le 10, 3) := dkg_X11_137.2.2.1
theorem dX11_copyLines_6 : decode cX11_copyLines 6 = .ok (.aload_n 0, 1) := dkg_X11_137.2.2.2.1
theorem dX11_copyLines_7 : decode cX11_copyLines 7 = .ok (.bipush 6, 2) := dkg_X11_137.2.2.2.2.1
theorem dX11_copyLines_9 : decode cX11_copyLines 9 = .ok (.invokevirtual 102, 3) := dkg_X11_137.2.2.2.2.2.1
theorem dX11_copyLines_12 : decode cX11_copyLines 12 = .ok (.ireturn, 1) := dkg_X11_137.2.2.2.2.2.2.1
theorem dX11_copyLines_13 : decode cX11_copyLines 13 = .ok (.iload_n 3, 1) := dkg_X11_137.2.2.2.2.2.2.2.1
theorem dX11_copyLines_14 : decode cX11_copyLines 14 = .ok (.ifCond .ge 9, 3) := dkg_X11_137.2.2.2.2.2.2.2.2.1
theorem dX11_copyLines_17 : decode cX11_copyLines 17 = .ok (.aload_n 0, 1) := dkg_X11_137.2.2.2.2.2.2.2.2.2.1
theorem dkg_X11_138 : dkp cX11_copyLines [(18, .iconst 5, 1), (19, .invokevirtual 102, 3), (22, .ireturn, 1), (23, .aload_n 0, 1), (24, .iconst 0, 1), (25, .putfield 87, 3), (28, .iconst 0, 1), (29, .istore 4, 2), (31, .iload 4, 2), (33, .iload_n 3, 1)] := dkf (by decide +kernel)
theorem dX11_copyLines_18 : decode cX11_copyLines 18 = .ok (.iconst 5, 1) := dkg_X11_138.1
theorem dX11_copyLines_19 : decode cX11_copyLines 19 = .ok (.invokevirtual 102, 3) := dkg_X11_138.2.1
theorem dX11_copyLines_22 : decode cX11_copyLines 22 = .ok (.ireturn, 1) := dkg_X11_138.2.2.1
theorem dX11_copyLines_23 : decode cX11_copyLines 23 = .ok (.aload_n 0, 1) := dkg_X11_138.2.2.2.1
theorem dX11_copyLines_24 : decode cX11_copyLines 24 = .ok (.iconst 0, 1) := dkg_X11_138.2.2.2.2.1
theorem dX11_copyLines_25 : decode cX11_copyLines 25 = .ok (.putfield 87, 3) := dkg_X11_138.2.2.2.2.2.1
theorem dX11_copyLines_28 : decode cX11_copyLines 28 = .ok (.iconst 0, 1) := dkg_X11_138.2.2.2.2.2.2.1
theorem dX11_copyLines_29 : decode cX11_copyLines 29 = .ok (.istore 4, 2) := dkg_X11_138.2.2.2.2.2.2.2.1
theorem dX11_copyLines_31 : decode cX11_copyLines 31 = .ok (.iload 4, 2) := dkg_X11_138.2.2.2.2.2.2.2.2.1
theorem dX11_copyLines_33 : decode cX11_copyLines 33 = .ok (.iload_n 3, 1) := dkg_X11_138.2.2.2.2.2.2.2.2.2.1
theorem dkg_X11_139 : dkp cX11_copyLines [(34, .if_icmp .ge 82, 3), (37, .aload_n 0, 1), (38, .getfield 67, 3), (41, .iload_n 1, 1), (42, .iload 4, 2), (44, .iadd, 1), (45, .invokevirtual 308, 3), (48, .astore 5, 2), (50, .aload_n 0, 1), (51, .getfield 67, 3)] := dkf (by decide +kernel)
theorem dX11_copyLines_34 : decode cX11_copyLines 34 = .ok (.if_icmp .ge 82, 3) := dkg_X11_139.1
theorem dX11_copyLines_37 : decode cX11_copyLines 37 = .ok (.aload_n 0, 1) := dkg_X11_139.2.1
theorem dX11_copyLines_38 : decode cX11_copyLines 38 = .ok (.getfield 67, 3) := dkg_X11_139.2.2.1
theorem dX11_copyLines_41 : decode cX11_copyLines 41 = .ok (.iload_n 1, 1) := dkg_X11_139.2.2.2.1
theorem dX11_copyLines_42 : decode cX11_copyLines 42 = .ok (.iload 4, 2) := dkg_X11_139.2.2.2.2.1
theorem dX11_copyLines_44 : decode cX11_copyLines 44 = .ok (.iadd, 1) := dkg_X11_139.2.2.2.2.2.1
theorem dX11_copyLines_45 : decode cX11_copyLines 45 = .ok (.invokevirtual 308, 3) := dkg_X11_139.2.2.2.2.2.2.1
theorem dX11_copyLines_48 : decode cX11_copyLines 48 = .ok (.astore 5, 2) := dkg_X11_139.2.2.2.2.2.2.2.1
theorem dX11_copyLines_50 : decode cX11_copyLines 50 = .ok (.aload_n 0, 1) := dkg_X11_139.2.2.2.2.2.2.2.2.1
theorem dX11_copyLines_51 : decode cX11_copyLines 51 = .ok (.getfield 67, 3) := dkg_X11_139.2.2.2.2.2.2.2.2.2.1
theorem dkg_X11_140 : dkp cX11_copyLines [(54, .iload_n 2, 1), (55, .iload 4, 2), (57, .iadd, 1), (58, .invokevirtual 308, 3), (61, .astore 6, 2), (63, .aload 5, 2), (65, .ifnull 8, 3), (68, .aload 6, 2), (70, .ifnonnull 9, 3), (73, .aload_n 0, 1)] := dkf (by decide +kernel)
theorem dX11_copyLines_54 : decode cX11_copyLines 54 = .ok (.iload_n 2, 1) := dkg_X11_140.1
theorem dX11_copyLines_55 : decode cX11_copyLines 55 = .ok (.iload 4, 2) := dkg_X11_140.2.1
theorem dX11_copyLines_57 : decode cX11_copyLines 57 = .ok (.iadd, 1) := dkg_X11_140.2.2.1
theorem dX11_copyLines_58 : decode cX11_copyLines 58 = .ok (.invokevirtual 308, 3) := dkg_X11_140.2.2.2.1
theorem dX11_copyLines_61 : decode cX11_copyLines 61 = .ok (.astore 6, 2) := dkg_X11_140.2.2.2.2.1
theorem dX11_copyLines_63 : decode cX11_copyLines 63 = .ok (.aload 5, 2) := dkg_X11_140.2.2.2.2.2.1
theorem dX11_copyLines_65 : decode cX11_copyLines 65 = .ok (.ifnull 8, 3) := dkg_X11_140.2.2.2.2.2.2.1
theorem dX11_copyLines_68 : decode cX11_copyLines 68 = .ok (.aload 6, 2) := dkg_X11_140.2.2.2.2.2.2.2.1
theorem dX11_copyLines_70 : decode cX11_copyLines 70 = .ok (.ifnonnull 9, 3) := dkg_X11_140.2.2.2.2.2.2.2.2.1
theorem dX11_copyLines_73 : decode cX11_copyLines 73 = .ok (.aload_n 0, 1) := dkg_X11_140.2.2.2.2.2.2.2.2.2.1
theorem dkg_X11_141 : dkp cX11_copyLines [(74, .iconst 2, 1), (75, .invokevirtual 102, 3), (78, .ireturn, 1), (79, .aload 5, 2), (81, .getfield 310, 3), (84, .ifCond .eq 9, 3), (87, .aload_n 0, 1), (88, .iconst 1, 1), (89, .invokevirtual 102, 3), (92, .ireturn, 1)] := dkf (by decide +kernel)
theorem dX11_copyLines_74 : decode cX11_copyLines 74 = .ok (.iconst 2, 1) := dkg_X11_141.1
theorem dX11_copyLines_75 : decode cX11_copyLines 75 = .ok (.invokevirtual 102, 3) := dkg_X11_141.2.1
theorem dX11_copyLines_78 : decode cX11_copyLines 78 = .ok (.ireturn, 1) := dkg_X11_141.2.2.1
theorem dX11_copyLines_79 : decode cX11_copyLines 79 = .ok (.aload 5, 2) := dkg_X11_141.2.2.2.1
theorem dX11_copyLines_81 : decode cX11_copyLines 81 = .ok (.getfield 310, 3) := dkg_X11_141.2.2.2.2.1
theorem dX11_copyLines_84 : decode cX11_copyLines 84 = .ok (.ifCond .eq 9, 3) := dkg_X11_141.2.2.2.2.2.1
theorem dX11_copyLines_87 : decode cX11_copyLines 87 = .ok (.aload_n 0, 1) := dkg_X11_141.2.2.2.2.2.2.1
theorem dX11_copyLines_88 : decode cX11_copyLines 88 = .ok (.iconst 1, 1) := dkg_X11_141.2.2.2.2.2.2.2.1
theorem dX11_copyLines_89 : decode cX11_copyLines 89 = .ok (.invokevirtual 102, 3) := dkg_X11_141.2.2.2.2.2.2.2.2.1
theorem dX11_copyLines_92 : decode cX11_copyLines 92 = .ok (.ireturn, 1) := dkg_X11_141.2.2.2.2.2.2.2.2.2.1
theorem dkg_X11_142 : dkp cX11_copyLines [(93, .aload 6, 2), (95, .aload 5, 2), (97, .invokevirtual 322, 3), (100, .aload_n 0, 1), (101, .dup, 1), (102, .getfield 87, 3), (105, .iconst 1, 1), (106, .iadd, 1), (107, .putfield 87, 3), (110, .iinc 4 1, 3)] := dkf (by decide +kernel)
theorem dX11_copyLines_93 : decode cX11_copyLines 93 = .ok (.aload 6, 2) := dkg_X11_142.1
theorem dX11_copyLines_95 : decode cX11_copyLines 95 = .ok (.aload 5, 2) := dkg_X11_142.2.1
theorem dX11_copyLines_97 : decode cX11_copyLines 97 = .ok (.invokevirtual 322, 3) := dkg_X11_142.2.2.1
theorem dX11_copyLines_100 : decode cX11_copyLines 100 = .ok (.aload_n 0, 1) := dkg_X11_142.2.2.2.1
theorem dX11_copyLines_101 : decode cX11_copyLines 101 = .ok (.dup, 1) := dkg_X11_142.2.2.2.2.1
theorem dX11_copyLines_102 : decode cX11_copyLines 102 = .ok (.getfield 87, 3) := dkg_X11_142.2.2.2.2.2.1
theorem dX11_copyLines_105 : decode cX11_copyLines 105 = .ok (.iconst 1, 1) := dkg_X11_142.2.2.2.2.2.2.1
theorem dX11_copyLines_106 : decode cX11_copyLines 106 = .ok (.iadd, 1) := dkg_X11_142.2.2.2.2.2.2.2.1
theorem dX11_copyLines_107 : decode cX11_copyLines 107 = .ok (.putfield 87, 3) := dkg_X11_142.2.2.2.2.2.2.2.2.1
theorem dX11_copyLines_110 : decode cX11_copyLines 110 = .ok (.iinc 4 1, 3) := dkg_X11_142.2.2.2.2.2.2.2.2.2.1
theorem dkg_X11_143 : dkp cX11_copyLines [(113, .goto (-82), 3), (116, .aload_n 0, 1), (117, .iload_n 3, 1), (118, .invokevirtual 109, 3), (121, .ireturn, 1)] := dkf (by decide +kernel)
theorem dX11_copyLines_113 : decode cX11_copyLines 113 = .ok (.goto (-82), 3) := dkg_X11_143.1
theorem dX11_copyLines_116 : decode cX11_copyLines 116 = .ok (.aload_n 0, 1) := dkg_X11_143.2.1
theorem dX11_copyLines_117 : decode cX11_copyLines 117 = .ok (.iload_n 3, 1) := dkg_X11_143.2.2.1
theorem dX11_copyLines_118 : decode cX11_copyLines 118 = .ok (.invokevirtual 109, 3) := dkg_X11_143.2.2.2.1
theorem dX11_copyLines_121 : decode cX11_copyLines 121 = .ok (.ireturn, 1) := dkg_X11_143.2.2.2.2.1
theorem dkg_X11_144 : dkp cX11_copied [(0, .aload_n 0, 1), (1, .getfield 87, 3), (4, .ireturn, 1)] := dkf (by decide +kernel)
theorem dX11_copied_0 : decode cX11_copied 0 = .ok (.aload_n 0, 1) := dkg_X11_144.1
theorem dX11_copied_1 : decode cX11_copied 1 = .ok (.getfield 87, 3) := dkg_X11_144.2.1
theorem dX11_copied_4 : decode cX11_copied 4 = .ok (.ireturn, 1) := dkg_X11_144.2.2.1
theorem dkg_X11_145 : dkp cX11_emboss [(0, .iload_n 2, 1), (1, .sipush 200, 3), (4, .if_icmp .le 10, 3), (7, .aload_n 0, 1), (8, .bipush 6, 2), (10, .invokevirtual 102, 3), (13, .ireturn, 1), (14, .iload_n 2, 1), (15, .ifCond .ge 9, 3), (18, .aload_n 0, 1)] := dkf (by decide +kernel)
theorem dX11_emboss_0 : decode cX11_emboss 0 = .ok (.iload_n 2, 1) := dkg_X11_145.1
theorem dX11_emboss_1 : decode cX11_emboss 1 = .ok (.sipush 200, 3) := dkg_X11_145.2.1
theorem dX11_emboss_4 : decode cX11_emboss 4 = .ok (.if_icmp .le 10, 3) := dkg_X11_145.2.2.1
theorem dX11_emboss_7 : decode cX11_emboss 7 = .ok (.aload_n 0, 1) := dkg_X11_145.2.2.2.1
theorem dX11_emboss_8 : decode cX11_emboss 8 = .ok (.bipush 6, 2) := dkg_X11_145.2.2.2.2.1
theorem dX11_emboss_10 : decode cX11_emboss 10 = .ok (.invokevirtual 102, 3) := dkg_X11_145.2.2.2.2.2.1
theorem dX11_emboss_13 : decode cX11_emboss 13 = .ok (.ireturn, 1) := dkg_X11_145.2.2.2.2.2.2.1
theorem dX11_emboss_14 : decode cX11_emboss 14 = .ok (.iload_n 2, 1) := dkg_X11_145.2.2.2.2.2.2.2.1
theorem dX11_emboss_15 : decode cX11_emboss 15 = .ok (.ifCond .ge 9, 3) := dkg_X11_145.2.2.2.2.2.2.2.2.1
theorem dX11_emboss_18 : decode cX11_emboss 18 = .ok (.aload_n 0, 1) := dkg_X11_145.2.2.2.2.2.2.2.2.2.1
theorem dkg_X11_146 : dkp cX11_emboss [(19, .iconst 5, 1), (20, .invokevirtual 102, 3), (23, .ireturn, 1), (24, .iconst 0, 1), (25, .istore_n 3, 1), (26, .iconst 0, 1), (27, .istore 4, 2), (29, .iload 4, 2), (31, .iload_n 2, 1), (32, .if_icmp .ge 89, 3)] := dkf (by decide +kernel)
theorem dX11_emboss_19 : decode cX11_emboss 19 = .ok (.iconst 5, 1) := dkg_X11_146.1
theorem dX11_emboss_20 : decode cX11_emboss 20 = .ok (.invokevirtual 102, 3) := dkg_X11_146.2.1
theorem dX11_emboss_23 : decode cX11_emboss 23 = .ok (.ireturn, 1) := dkg_X11_146.2.2.1
theorem dX11_emboss_24 : decode cX11_emboss 24 = .ok (.iconst 0, 1) := dkg_X11_146.2.2.2.1
theorem dX11_emboss_25 : decode cX11_emboss 25 = .ok (.istore_n 3, 1) := dkg_X11_146.2.2.2.2.1
theorem dX11_emboss_26 : decode cX11_emboss 26 = .ok (.iconst 0, 1) := dkg_X11_146.2.2.2.2.2.1
theorem dX11_emboss_27 : decode cX11_emboss 27 = .ok (.istore 4, 2) := dkg_X11_146.2.2.2.2.2.2.1
theorem dX11_emboss_29 : decode cX11_emboss 29 = .ok (.iload 4, 2) := dkg_X11_146.2.2.2.2.2.2.2.1
theorem dX11_emboss_31 : decode cX11_emboss 31 = .ok (.iload_n 2, 1) := dkg_X11_146.2.2.2.2.2.2.2.2.1
theorem dX11_emboss_32 : decode cX11_emboss 32 = .ok (.if_icmp .ge 89, 3) := dkg_X11_146.2.2.2.2.2.2.2.2.2.1
theorem dkg_X11_147 : dkp cX11_emboss [(35, .aload_n 0, 1), (36, .dup, 1), (37, .getfield 90, 3), (40, .iconst 1, 1), (41, .iadd, 1), (42, .putfield 90, 3), (45, .aload_n 0, 1), (46, .getfield 67, 3), (49, .iload_n 1, 1), (50, .iload 4, 2)] := dkf (by decide +kernel)
theorem dX11_emboss_35 : decode cX11_emboss 35 = .ok (.aload_n 0, 1) := dkg_X11_147.1
theorem dX11_emboss_36 : decode cX11_emboss 36 = .ok (.dup, 1) := dkg_X11_147.2.1
theorem dX11_emboss_37 : decode cX11_emboss 37 = .ok (.getfield 90, 3) := dkg_X11_147.2.2.1
theorem dX11_emboss_40 : decode cX11_emboss 40 = .ok (.iconst 1, 1) := dkg_X11_147.2.2.2.1
theorem dX11_emboss_41 : decode cX11_emboss 41 = .ok (.iadd, 1) := dkg_X11_147.2.2.2.2.1
theorem dX11_emboss_42 : decode cX11_emboss 42 = .ok (.putfield 90, 3) := dkg_X11_147.2.2.2.2.2.1
theorem dX11_emboss_45 : decode cX11_emboss 45 = .ok (.aload_n 0, 1) := dkg_X11_147.2.2.2.2.2.2.1
theorem dX11_emboss_46 : decode cX11_emboss 46 = .ok (.getfield 67, 3) := dkg_X11_147.2.2.2.2.2.2.2.1
theorem dX11_emboss_49 : decode cX11_emboss 49 = .ok (.iload_n 1, 1) := dkg_X11_147.2.2.2.2.2.2.2.2.1
theorem dX11_emboss_50 : decode cX11_emboss 50 = .ok (.iload 4, 2) := dkg_X11_147.2.2.2.2.2.2.2.2.2.1
theorem dkg_X11_148 : dkp cX11_emboss [(52, .iadd, 1), (53, .invokevirtual 308, 3), (56, .astore 5, 2), (58, .aload 5, 2), (60, .ifnonnull 9, 3), (63, .aload_n 0, 1), (64, .iconst 2, 1), (65, .invokevirtual 102, 3), (68, .ireturn, 1), (69, .aload 5, 2)] := dkf (by decide +kernel)
theorem dX11_emboss_52 : decode cX11_emboss 52 = .ok (.iadd, 1) := dkg_X11_148.1
theorem dX11_emboss_53 : decode cX11_emboss 53 = .ok (.invokevirtual 308, 3) := dkg_X11_148.2.1
theorem dX11_emboss_56 : decode cX11_emboss 56 = .ok (.astore 5, 2) := dkg_X11_148.2.2.1
theorem dX11_emboss_58 : decode cX11_emboss 58 = .ok (.aload 5, 2) := dkg_X11_148.2.2.2.1
theorem dX11_emboss_60 : decode cX11_emboss 60 = .ok (.ifnonnull 9, 3) := dkg_X11_148.2.2.2.2.1
theorem dX11_emboss_63 : decode cX11_emboss 63 = .ok (.aload_n 0, 1) := dkg_X11_148.2.2.2.2.2.1
theorem dX11_emboss_64 : decode cX11_emboss 64 = .ok (.iconst 2, 1) := dkg_X11_148.2.2.2.2.2.2.1
theorem dX11_emboss_65 : decode cX11_emboss 65 = .ok (.invokevirtual 102, 3) := dkg_X11_148.2.2.2.2.2.2.2.1
theorem dX11_emboss_68 : decode cX11_emboss 68 = .ok (.ireturn, 1) := dkg_X11_148.2.2.2.2.2.2.2.2.1
theorem dX11_emboss_69 : decode cX11_emboss 69 = .ok (.aload 5, 2) := dkg_X11_148.2.2.2.2.2.2.2.2.2.1
theorem dkg_X11_149 : dkp cX11_emboss [(71, .getfield 310, 3), (74, .ifCond .ne 21, 3), (77, .aload 5, 2), (79, .getfield 295, 3), (82, .aload_n 0, 1), (83, .getfield 74, 3), (86, .if_icmp .le 9, 3), (89, .aload_n 0, 1), (90, .iload_n 3, 1), (91, .invokevirtual 109, 3)] := dkf (by decide +kernel)
theorem dX11_emboss_71 : decode cX11_emboss 71 = .ok (.getfield 310, 3) := dkg_X11_149.1
theorem dX11_emboss_74 : decode cX11_emboss 74 = .ok (.ifCond .ne 21, 3) := dkg_X11_149.2.1
theorem dX11_emboss_77 : decode cX11_emboss 77 = .ok (.aload 5, 2) := dkg_X11_149.2.2.1
theorem dX11_emboss_79 : decode cX11_emboss 79 = .ok (.getfield 295, 3) := dkg_X11_149.2.2.2.1
theorem dX11_emboss_82 : decode cX11_emboss 82 = .ok (.aload_n 0, 1) := dkg_X11_149.2.2.2.2.1
theorem dX11_emboss_83 : decode cX11_emboss 83 = .ok (.getfield 74, 3) := dkg_X11_149.2.2.2.2.2.1
theorem dX11_emboss_86 : decode cX11_emboss 86 = .ok (.if_icmp .le 9, 3) := dkg_X11_149.2.2.2.2.2.2.1
theorem dX11_emboss_89 : decode cX11_emboss 89 = .ok (.aload_n 0, 1) := dkg_X11_149.2.2.2.2.2.2.2.1
theorem dX11_emboss_90 : decode cX11_emboss 90 = .ok (.iload_n 3, 1) := dkg_X11_149.2.2.2.2.2.2.2.2.1
theorem dX11_emboss_91 : decode cX11_emboss 91 = .ok (.invokevirtual 109, 3) := dkg_X11_149.2.2.2.2.2.2.2.2.2.1
theorem dkg_X11_150 : dkp cX11_emboss [(94, .ireturn, 1), (95, .iload_n 3, 1), (96, .aload 5, 2), (98, .getfield 310, 3), (101, .ifCond .eq 7, 3), (104, .iconst 0, 1), (105, .goto 8, 3), (108, .aload 5, 2), (110, .invokevirtual 326, 3), (113, .iadd, 1)] := dkf (by decide +kernel)
theorem dX11_emboss_94 : decode cX11_emboss 94 = .ok (.ireturn, 1) := dkg_X11_150.1
theorem dX11_emboss_95 : decode cX11_emboss 95 = .ok (.iload_n 3, 1) := dkg_X11_150.2.1
theorem dX11_emboss_96 : decode cX11_emboss 96 = .ok (.aload 5, 2) := dkg_X11_150.2.2.1
theorem dX11_emboss_98 : decode cX11_emboss 98 = .ok (.getfield 310, 3) := dkg_X11_150.2.2.2.1
theorem dX11_emboss_101 : decode cX11_emboss 101 = .ok (.ifCond .eq 7, 3) := dkg_X11_150.2.2.2.2.1
theorem dX11_emboss_104 : decode cX11_emboss 104 = .ok (.iconst 0, 1) := dkg_X11_150.2.2.2.2.2.1
theorem dX11_emboss_105 : decode cX11_emboss 105 = .ok (.goto 8, 3) := dkg_X11_150.2.2.2.2.2.2.1
theorem dX11_emboss_108 : decode cX11_emboss 108 = .ok (.aload 5, 2) := dkg_X11_150.2.2.2.2.2.2.2.1
theorem dX11_emboss_110 : decode cX11_emboss 110 = .ok (.invokevirtual 326, 3) := dkg_X11_150.2.2.2.2.2.2.2.2.1
theorem dX11_emboss_113 : decode cX11_emboss 113 = .ok (.iadd, 1) := dkg_X11_150.2.2.2.2.2.2.2.2.2.1
theorem dkg_X11_151 : dkp cX11_emboss [(114, .istore_n 3, 1), (115, .iinc 4 1, 3), (118, .goto (-89), 3), (121, .aload_n 0, 1), (122, .iload_n 3, 1), (123, .invokevirtual 109, 3), (126, .ireturn, 1)] := dkf (by decide +kernel)
theorem dX11_emboss_114 : decode cX11_emboss 114 = .ok (.istore_n 3, 1) := dkg_X11_151.1
theorem dX11_emboss_115 : decode cX11_emboss 115 = .ok (.iinc 4 1, 3) := dkg_X11_151.2.1
theorem dX11_emboss_118 : decode cX11_emboss 118 = .ok (.goto (-89), 3) := dkg_X11_151.2.2.1
theorem dX11_emboss_121 : decode cX11_emboss 121 = .ok (.aload_n 0, 1) := dkg_X11_151.2.2.2.1
theorem dX11_emboss_122 : decode cX11_emboss 122 = .ok (.iload_n 3, 1) := dkg_X11_151.2.2.2.2.1
theorem dX11_emboss_123 : decode cX11_emboss 123 = .ok (.invokevirtual 109, 3) := dkg_X11_151.2.2.2.2.2.1
theorem dX11_emboss_126 : decode cX11_emboss 126 = .ok (.ireturn, 1) := dkg_X11_151.2.2.2.2.2.2.1
theorem dkg_X11_152 : dkp cX11_closed [(0, .aload_n 0, 1), (1, .getfield 90, 3), (4, .ireturn, 1)] := dkf (by decide +kernel)
theorem dX11_closed_0 : decode cX11_closed 0 = .ok (.aload_n 0, 1) := dkg_X11_152.1
theorem dX11_closed_1 : decode cX11_closed 1 = .ok (.getfield 90, 3) := dkg_X11_152.2.1
theorem dX11_closed_4 : decode cX11_closed 4 = .ok (.ireturn, 1) := dkg_X11_152.2.2.1
theorem dkg_X11_153 : dkp cX11_read [(0, .aload_n 0, 1), (1, .getfield 30, 3), (4, .iload_n 1, 1), (5, .invokevirtual 231, 3), (8, .astore 4, 2), (10, .aload 4, 2), (12, .ifnonnull 9, 3), (15, .aload_n 0, 1), (16, .iconst 3, 1), (17, .invokevirtual 102, 3)] := dkf (by decide +kernel)
theorem dX11_read_0 : decode cX11_read 0 = .ok (.aload_n 0, 1) := dkg_X11_153.1
theorem dX11_read_1 : decode cX11_read 1 = .ok (.getfield 30, 3) := dkg_X11_153.2.1
theorem dX11_read_4 : decode cX11_read 4 = .ok (.iload_n 1, 1) := dkg_X11_153.2.2.1
theorem dX11_read_5 : decode cX11_read 5 = .ok (.invokevirtual 231, 3) := dkg_X11_153.2.2.2.1
theorem dX11_read_8 : decode cX11_read 8 = .ok (.astore 4, 2) := dkg_X11_153.2.2.2.2.1
theorem dX11_read_10 : decode cX11_read 10 = .ok (.aload 4, 2) := dkg_X11_153.2.2.2.2.2.1
theorem dX11_read_12 : decode cX11_read 12 = .ok (.ifnonnull 9, 3) := dkg_X11_153.2.2.2.2.2.2.1
theorem dX11_read_15 : decode cX11_read 15 = .ok (.aload_n 0, 1) := dkg_X11_153.2.2.2.2.2.2.2.1
theorem dX11_read_16 : decode cX11_read 16 = .ok (.iconst 3, 1) := dkg_X11_153.2.2.2.2.2.2.2.2.1
theorem dX11_read_17 : decode cX11_read 17 = .ok (.invokevirtual 102, 3) := dkg_X11_153.2.2.2.2.2.2.2.2.2.1
theorem dkg_X11_154 : dkp cX11_read [(20, .ireturn, 1), (21, .iload_n 3, 1), (22, .ifCond .ge 9, 3), (25, .aload_n 0, 1), (26, .iconst 5, 1), (27, .invokevirtual 102, 3), (30, .ireturn, 1), (31, .iconst 0, 1), (32, .istore 5, 2), (34, .iload 5, 2)] := dkf (by decide +kernel)
theorem dX11_read_20 : decode cX11_read 20 = .ok (.ireturn, 1) := dkg_X11_154.1
theorem dX11_read_21 : decode cX11_read 21 = .ok (.iload_n 3, 1) := dkg_X11_154.2.1
theorem dX11_read_22 : decode cX11_read 22 = .ok (.ifCond .ge 9, 3) := dkg_X11_154.2.2.1
theorem dX11_read_25 : decode cX11_read 25 = .ok (.aload_n 0, 1) := dkg_X11_154.2.2.2.1
theorem dX11_read_26 : decode cX11_read 26 = .ok (.iconst 5, 1) := dkg_X11_154.2.2.2.2.1
theorem dX11_read_27 : decode cX11_read 27 = .ok (.invokevirtual 102, 3) := dkg_X11_154.2.2.2.2.2.1
theorem dX11_read_30 : decode cX11_read 30 = .ok (.ireturn, 1) := dkg_X11_154.2.2.2.2.2.2.1
theorem dX11_read_31 : decode cX11_read 31 = .ok (.iconst 0, 1) := dkg_X11_154.2.2.2.2.2.2.2.1
theorem dX11_read_32 : decode cX11_read 32 = .ok (.istore 5, 2) := dkg_X11_154.2.2.2.2.2.2.2.2.1
theorem dX11_read_34 : decode cX11_read 34 = .ok (.iload 5, 2) := dkg_X11_154.2.2.2.2.2.2.2.2.2.1
theorem dkg_X11_155 : dkp cX11_read [(36, .iload_n 3, 1), (37, .if_icmp .ge 39, 3), (40, .aload_n 0, 1), (41, .getfield 67, 3), (44, .iload_n 2, 1), (45, .iload 5, 2), (47, .iadd, 1), (48, .invokevirtual 288, 3), (51, .ifnonnull 19, 3), (54, .aload_n 0, 1)] := dkf (by decide +kernel)
theorem dX11_read_36 : decode cX11_read 36 = .ok (.iload_n 3, 1) := dkg_X11_155.1
theorem dX11_read_37 : decode cX11_read 37 = .ok (.if_icmp .ge 39, 3) := dkg_X11_155.2.1
theorem dX11_read_40 : decode cX11_read 40 = .ok (.aload_n 0, 1) := dkg_X11_155.2.2.1
theorem dX11_read_41 : decode cX11_read 41 = .ok (.getfield 67, 3) := dkg_X11_155.2.2.2.1
theorem dX11_read_44 : decode cX11_read 44 = .ok (.iload_n 2, 1) := dkg_X11_155.2.2.2.2.1
theorem dX11_read_45 : decode cX11_read 45 = .ok (.iload 5, 2) := dkg_X11_155.2.2.2.2.2.1
theorem dX11_read_47 : decode cX11_read 47 = .ok (.iadd, 1) := dkg_X11_155.2.2.2.2.2.2.1
theorem dX11_read_48 : decode cX11_read 48 = .ok (.invokevirtual 288, 3) := dkg_X11_155.2.2.2.2.2.2.2.1
theorem dX11_read_51 : decode cX11_read 51 = .ok (.ifnonnull 19, 3) := dkg_X11_155.2.2.2.2.2.2.2.2.1
theorem dX11_read_54 : decode cX11_read 54 = .ok (.aload_n 0, 1) := dkg_X11_155.2.2.2.2.2.2.2.2.2.1
theorem dkg_X11_156 : dkp cX11_read [(55, .aload_n 0, 1), (56, .getfield 67, 3), (59, .iload_n 2, 1), (60, .iload 5, 2), (62, .iadd, 1), (63, .invokevirtual 292, 3), (66, .invokevirtual 102, 3), (69, .ireturn, 1), (70, .iinc 5 1, 3), (73, .goto (-39), 3)] := dkf (by decide +kernel)
theorem dX11_read_55 : decode cX11_read 55 = .ok (.aload_n 0, 1) := dkg_X11_156.1
theorem dX11_read_56 : decode cX11_read 56 = .ok (.getfield 67, 3) := dkg_X11_156.2.1
theorem dX11_read_59 : decode cX11_read 59 = .ok (.iload_n 2, 1) := dkg_X11_156.2.2.1
theorem dX11_read_60 : decode cX11_read 60 = .ok (.iload 5, 2) := dkg_X11_156.2.2.2.1
theorem dX11_read_62 : decode cX11_read 62 = .ok (.iadd, 1) := dkg_X11_156.2.2.2.2.1
theorem dX11_read_63 : decode cX11_read 63 = .ok (.invokevirtual 292, 3) := dkg_X11_156.2.2.2.2.2.1
theorem dX11_read_66 : decode cX11_read 66 = .ok (.invokevirtual 102, 3) := dkg_X11_156.2.2.2.2.2.2.1
theorem dX11_read_69 : decode cX11_read 69 = .ok (.ireturn, 1) := dkg_X11_156.2.2.2.2.2.2.2.1
theorem dX11_read_70 : decode cX11_read 70 = .ok (.iinc 5 1, 3) := dkg_X11_156.2.2.2.2.2.2.2.2.1
theorem dX11_read_73 : decode cX11_read 73 = .ok (.goto (-39), 3) := dkg_X11_156.2.2.2.2.2.2.2.2.2.1
theorem dkg_X11_157 : dkp cX11_read [(76, .aload_n 0, 1), (77, .iload_n 2, 1), (78, .iload_n 3, 1), (79, .invokevirtual 328, 3), (82, .aload_n 0, 1), (83, .getfield 51, 3), (86, .aload 4, 2), (88, .invokevirtual 331, 3), (91, .aload_n 0, 1), (92, .getfield 51, 3)] := dkf (by decide +kernel)
theorem dX11_read_76 : decode cX11_read 76 = .ok (.aload_n 0, 1) := dkg_X11_157.1
theorem dX11_read_77 : decode cX11_read 77 = .ok (.iload_n 2, 1) := dkg_X11_157.2.1
theorem dX11_read_78 : decode cX11_read 78 = .ok (.iload_n 3, 1) := dkg_X11_157.2.2.1
theorem dX11_read_79 : decode cX11_read 79 = .ok (.invokevirtual 328, 3) := dkg_X11_157.2.2.2.1
theorem dX11_read_82 : decode cX11_read 82 = .ok (.aload_n 0, 1) := dkg_X11_157.2.2.2.2.1
theorem dX11_read_83 : decode cX11_read 83 = .ok (.getfield 51, 3) := dkg_X11_157.2.2.2.2.2.1
theorem dX11_read_86 : decode cX11_read 86 = .ok (.aload 4, 2) := dkg_X11_157.2.2.2.2.2.2.1
theorem dX11_read_88 : decode cX11_read 88 = .ok (.invokevirtual 331, 3) := dkg_X11_157.2.2.2.2.2.2.2.1
theorem dX11_read_91 : decode cX11_read 91 = .ok (.aload_n 0, 1) := dkg_X11_157.2.2.2.2.2.2.2.2.1
theorem dX11_read_92 : decode cX11_read 92 = .ok (.getfield 51, 3) := dkg_X11_157.2.2.2.2.2.2.2.2.2.1
theorem dkg_X11_158 : dkp cX11_read [(95, .invokevirtual 335, 3), (98, .istore 5, 2), (100, .aload_n 0, 1), (101, .getfield 21, 3), (104, .invokevirtual 164, 3), (107, .iload 5, 2), (109, .ifCond .ne 17, 3), (112, .aload_n 0, 1), (113, .bipush 9, 2), (115, .aload_n 0, 1)] := dkf (by decide +kernel)
theorem dX11_read_95 : decode cX11_read 95 = .ok (.invokevirtual 335, 3) := dkg_X11_158.1
theorem dX11_read_98 : decode cX11_read 98 = .ok (.istore 5, 2) := dkg_X11_158.2.1
theorem dX11_read_100 : decode cX11_read 100 = .ok (.aload_n 0, 1) := dkg_X11_158.2.2.1
theorem dX11_read_101 : decode cX11_read 101 = .ok (.getfield 21, 3) := dkg_X11_158.2.2.2.1
theorem dX11_read_104 : decode cX11_read 104 = .ok (.invokevirtual 164, 3) := dkg_X11_158.2.2.2.2.1
theorem dX11_read_107 : decode cX11_read 107 = .ok (.iload 5, 2) := dkg_X11_158.2.2.2.2.2.1
theorem dX11_read_109 : decode cX11_read 109 = .ok (.ifCond .ne 17, 3) := dkg_X11_158.2.2.2.2.2.2.1
theorem dX11_read_112 : decode cX11_read 112 = .ok (.aload_n 0, 1) := dkg_X11_158.2.2.2.2.2.2.2.1
theorem dX11_read_113 : decode cX11_read 113 = .ok (.bipush 9, 2) := dkg_X11_158.2.2.2.2.2.2.2.2.1
theorem dX11_read_115 : decode cX11_read 115 = .ok (.aload_n 0, 1) := dkg_X11_158.2.2.2.2.2.2.2.2.2.1
theorem dkg_X11_159 : dkp cX11_read [(116, .getfield 51, 3), (119, .invokevirtual 338, 3), (122, .invokevirtual 266, 3), (125, .ireturn, 1), (126, .aload_n 0, 1), (127, .getfield 51, 3), (130, .getfield 341, 3), (133, .getfield 99, 3), (136, .sipush 4000, 3), (139, .if_icmp .le 10, 3)] := dkf (by decide +kernel)
theorem dX11_read_116 : decode cX11_read 116 = .ok (.getfield 51, 3) := dkg_X11_159.1
theorem dX11_read_119 : decode cX11_read 119 = .ok (.invokevirtual 338, 3) := dkg_X11_159.2.1
theorem dX11_read_122 : decode cX11_read 122 = .ok (.invokevirtual 266, 3) := dkg_X11_159.2.2.1
theorem dX11_read_125 : decode cX11_read 125 = .ok (.ireturn, 1) := dkg_X11_159.2.2.2.1
theorem dX11_read_126 : decode cX11_read 126 = .ok (.aload_n 0, 1) := dkg_X11_159.2.2.2.2.1
theorem dX11_read_127 : decode cX11_read 127 = .ok (.getfield 51, 3) := dkg_X11_159.2.2.2.2.2.1
theorem dX11_read_130 : decode cX11_read 130 = .ok (.getfield 341, 3) := dkg_X11_159.2.2.2.2.2.2.1
theorem dX11_read_133 : decode cX11_read 133 = .ok (.getfield 99, 3) := dkg_X11_159.2.2.2.2.2.2.2.1
theorem dX11_read_136 : decode cX11_read 136 = .ok (.sipush 4000, 3) := dkg_X11_159.2.2.2.2.2.2.2.2.1
theorem dX11_read_139 : decode cX11_read 139 = .ok (.if_icmp .le 10, 3) := dkg_X11_159.2.2.2.2.2.2.2.2.2.1
theorem dkg_X11_160 : dkp cX11_read [(142, .aload_n 0, 1), (143, .bipush 6, 2), (145, .invokevirtual 102, 3), (148, .ireturn, 1), (149, .aload_n 0, 1), (150, .getfield 21, 3), (153, .aload_n 0, 1), (154, .getfield 51, 3), (157, .getfield 341, 3), (160, .invokevirtual 227, 3)] := dkf (by decide +kernel)
theorem dX11_read_142 : decode cX11_read 142 = .ok (.aload_n 0, 1) := dkg_X11_160.1
theorem dX11_read_143 : decode cX11_read 143 = .ok (.bipush 6, 2) := dkg_X11_160.2.1
theorem dX11_read_145 : decode cX11_read 145 = .ok (.invokevirtual 102, 3) := dkg_X11_160.2.2.1
theorem dX11_read_148 : decode cX11_read 148 = .ok (.ireturn, 1) := dkg_X11_160.2.2.2.1
theorem dX11_read_149 : decode cX11_read 149 = .ok (.aload_n 0, 1) := dkg_X11_160.2.2.2.2.1
theorem dX11_read_150 : decode cX11_read 150 = .ok (.getfield 21, 3) := dkg_X11_160.2.2.2.2.2.1
theorem dX11_read_153 : decode cX11_read 153 = .ok (.aload_n 0, 1) := dkg_X11_160.2.2.2.2.2.2.1
theorem dX11_read_154 : decode cX11_read 154 = .ok (.getfield 51, 3) := dkg_X11_160.2.2.2.2.2.2.2.1
theorem dX11_read_157 : decode cX11_read 157 = .ok (.getfield 341, 3) := dkg_X11_160.2.2.2.2.2.2.2.2.1
theorem dX11_read_160 : decode cX11_read 160 = .ok (.invokevirtual 227, 3) := dkg_X11_160.2.2.2.2.2.2.2.2.2.1
theorem dkg_X11_161 : dkp cX11_read [(163, .aload_n 0, 1), (164, .aload_n 0, 1), (165, .getfield 21, 3), (168, .getfield 99, 3), (171, .invokevirtual 109, 3), (174, .ireturn, 1)] := dkf (by decide +kernel)
theorem dX11_read_163 : decode cX11_read 163 = .ok (.aload_n 0, 1) := dkg_X11_161.1
theorem dX11_read_164 : decode cX11_read 164 = .ok (.aload_n 0, 1) := dkg_X11_161.2.1
theorem dX11_read_165 : decode cX11_read 165 = .ok (.getfield 21, 3) := dkg_X11_161.2.2.1
theorem dX11_read_168 : decode cX11_read 168 = .ok (.getfield 99, 3) := dkg_X11_161.2.2.2.1
theorem dX11_read_171 : decode cX11_read 171 = .ok (.invokevirtual 109, 3) := dkg_X11_161.2.2.2.2.1
theorem dX11_read_174 : decode cX11_read 174 = .ok (.ireturn, 1) := dkg_X11_161.2.2.2.2.2.1
theorem dkg_X11_162 : dkp cX11_chainLines [(0, .aload_n 0, 1), (1, .getfield 51, 3), (4, .invokevirtual 344, 3), (7, .iconst 0, 1), (8, .istore_n 3, 1), (9, .iload_n 3, 1), (10, .iload_n 2, 1), (11, .if_icmp .ge 54, 3), (14, .aload_n 0, 1), (15, .getfield 67, 3)] := dkf (by decide +kernel)
theorem dX11_chainLines_0 : decode cX11_chainLines 0 = .ok (.aload_n 0, 1) := dkg_X11_162.1
theorem dX11_chainLines_1 : decode cX11_chainLines 1 = .ok (.getfield 51, 3) := dkg_X11_162.2.1
theorem dX11_chainLines_4 : decode cX11_chainLines 4 = .ok (.invokevirtual 344, 3) := dkg_X11_162.2.2.1
theorem dX11_chainLines_7 : decode cX11_chainLines 7 = .ok (.iconst 0, 1) := dkg_X11_162.2.2.2.1
theorem dX11_chainLines_8 : decode cX11_chainLines 8 = .ok (.istore_n 3, 1) := dkg_X11_162.2.2.2.2.1
theorem dX11_chainLines_9 : decode cX11_chainLines 9 = .ok (.iload_n 3, 1) := dkg_X11_162.2.2.2.2.2.1
theorem dX11_chainLines_10 : decode cX11_chainLines 10 = .ok (.iload_n 2, 1) := dkg_X11_162.2.2.2.2.2.2.1
theorem dX11_chainLines_11 : decode cX11_chainLines 11 = .ok (.if_icmp .ge 54, 3) := dkg_X11_162.2.2.2.2.2.2.2.1
theorem dX11_chainLines_14 : decode cX11_chainLines 14 = .ok (.aload_n 0, 1) := dkg_X11_162.2.2.2.2.2.2.2.2.1
theorem dX11_chainLines_15 : decode cX11_chainLines 15 = .ok (.getfield 67, 3) := dkg_X11_162.2.2.2.2.2.2.2.2.2.1
theorem dkg_X11_163 : dkp cX11_chainLines [(18, .iload_n 1, 1), (19, .iload_n 3, 1), (20, .iadd, 1), (21, .invokevirtual 308, 3), (24, .astore 4, 2), (26, .aload 4, 2), (28, .ifnull 31, 3), (31, .aload_n 0, 1), (32, .getfield 51, 3), (35, .aload 4, 2)] := dkf (by decide +kernel)
theorem dX11_chainLines_18 : decode cX11_chainLines 18 = .ok (.iload_n 1, 1) := dkg_X11_163.1
theorem dX11_chainLines_19 : decode cX11_chainLines 19 = .ok (.iload_n 3, 1) := dkg_X11_163.2.1
theorem dX11_chainLines_20 : decode cX11_chainLines 20 = .ok (.iadd, 1) := dkg_X11_163.2.2.1
theorem dX11_chainLines_21 : decode cX11_chainLines 21 = .ok (.invokevirtual 308, 3) := dkg_X11_163.2.2.2.1
theorem dX11_chainLines_24 : decode cX11_chainLines 24 = .ok (.astore 4, 2) := dkg_X11_163.2.2.2.2.1
theorem dX11_chainLines_26 : decode cX11_chainLines 26 = .ok (.aload 4, 2) := dkg_X11_163.2.2.2.2.2.1
theorem dX11_chainLines_28 : decode cX11_chainLines 28 = .ok (.ifnull 31, 3) := dkg_X11_163.2.2.2.2.2.2.1
theorem dX11_chainLines_31 : decode cX11_chainLines 31 = .ok (.aload_n 0, 1) := dkg_X11_163.2.2.2.2.2.2.2.1
theorem dX11_chainLines_32 : decode cX11_chainLines 32 = .ok (.getfield 51, 3) := dkg_X11_163.2.2.2.2.2.2.2.2.1
theorem dX11_chainLines_35 : decode cX11_chainLines 35 = .ok (.aload 4, 2) := dkg_X11_163.2.2.2.2.2.2.2.2.2.1
theorem dkg_X11_164 : dkp cX11_chainLines [(37, .iload_n 1, 1), (38, .iload_n 3, 1), (39, .iadd, 1), (40, .aload_n 0, 1), (41, .getfield 81, 3), (44, .iload_n 3, 1), (45, .iload_n 2, 1), (46, .iconst 1, 1), (47, .isub, 1), (48, .if_icmp .ne 7, 3)] := dkf (by decide +kernel)
theorem dX11_chainLines_37 : decode cX11_chainLines 37 = .ok (.iload_n 1, 1) := dkg_X11_164.1
theorem dX11_chainLines_38 : decode cX11_chainLines 38 = .ok (.iload_n 3, 1) := dkg_X11_164.2.1
theorem dX11_chainLines_39 : decode cX11_chainLines 39 = .ok (.iadd, 1) := dkg_X11_164.2.2.1
theorem dX11_chainLines_40 : decode cX11_chainLines 40 = .ok (.aload_n 0, 1) := dkg_X11_164.2.2.2.1
theorem dX11_chainLines_41 : decode cX11_chainLines 41 = .ok (.getfield 81, 3) := dkg_X11_164.2.2.2.2.1
theorem dX11_chainLines_44 : decode cX11_chainLines 44 = .ok (.iload_n 3, 1) := dkg_X11_164.2.2.2.2.2.1
theorem dX11_chainLines_45 : decode cX11_chainLines 45 = .ok (.iload_n 2, 1) := dkg_X11_164.2.2.2.2.2.2.1
theorem dX11_chainLines_46 : decode cX11_chainLines 46 = .ok (.iconst 1, 1) := dkg_X11_164.2.2.2.2.2.2.2.1
theorem dX11_chainLines_47 : decode cX11_chainLines 47 = .ok (.isub, 1) := dkg_X11_164.2.2.2.2.2.2.2.2.1
theorem dX11_chainLines_48 : decode cX11_chainLines 48 = .ok (.if_icmp .ne 7, 3) := dkg_X11_164.2.2.2.2.2.2.2.2.2.1
theorem dkg_X11_165 : dkp cX11_chainLines [(51, .iconst 1, 1), (52, .goto 4, 3), (55, .iconst 0, 1), (56, .invokevirtual 347, 3), (59, .iinc 3 1, 3), (62, .goto (-53), 3), (65, .return_, 1)] := dkf (by decide +kernel)
theorem dX11_chainLines_51 : decode cX11_chainLines 51 = .ok (.iconst 1, 1) := dkg_X11_165.1
theorem dX11_chainLines_52 : decode cX11_chainLines 52 = .ok (.goto 4, 3) := dkg_X11_165.2.1
theorem dX11_chainLines_55 : decode cX11_chainLines 55 = .ok (.iconst 0, 1) := dkg_X11_165.2.2.1
theorem dX11_chainLines_56 : decode cX11_chainLines 56 = .ok (.invokevirtual 347, 3) := dkg_X11_165.2.2.2.1
theorem dX11_chainLines_59 : decode cX11_chainLines 59 = .ok (.iinc 3 1, 3) := dkg_X11_165.2.2.2.2.1
theorem dX11_chainLines_62 : decode cX11_chainLines 62 = .ok (.goto (-53), 3) := dkg_X11_165.2.2.2.2.2.1
theorem dX11_chainLines_65 : decode cX11_chainLines 65 = .ok (.return_, 1) := dkg_X11_165.2.2.2.2.2.2.1
theorem dkg_X11_166 : dkp cX11_letter [(0, .iload_n 1, 1), (1, .ifCond .lt 14, 3), (4, .iload_n 1, 1), (5, .aload_n 0, 1), (6, .getfield 21, 3), (9, .getfield 99, 3), (12, .if_icmp .lt 11, 3), (15, .aload_n 0, 1), (16, .iconst 2, 1), (17, .invokevirtual 102, 3)] := dkf (by decide +kernel)
theorem dX11_letter_0 : decode cX11_letter 0 = .ok (.iload_n 1, 1) := dkg_X11_166.1
theorem dX11_letter_1 : decode cX11_letter 1 = .ok (.ifCond .lt 14, 3) := dkg_X11_166.2.1
theorem dX11_letter_4 : decode cX11_letter 4 = .ok (.iload_n 1, 1) := dkg_X11_166.2.2.1
theorem dX11_letter_5 : decode cX11_letter 5 = .ok (.aload_n 0, 1) := dkg_X11_166.2.2.2.1
theorem dX11_letter_6 : decode cX11_letter 6 = .ok (.getfield 21, 3) := dkg_X11_166.2.2.2.2.1
theorem dX11_letter_9 : decode cX11_letter 9 = .ok (.getfield 99, 3) := dkg_X11_166.2.2.2.2.2.1
theorem dX11_letter_12 : decode cX11_letter 12 = .ok (.if_icmp .lt 11, 3) := dkg_X11_166.2.2.2.2.2.2.1
theorem dX11_letter_15 : decode cX11_letter 15 = .ok (.aload_n 0, 1) := dkg_X11_166.2.2.2.2.2.2.2.1
theorem dX11_letter_16 : decode cX11_letter 16 = .ok (.iconst 2, 1) := dkg_X11_166.2.2.2.2.2.2.2.2.1
theorem dX11_letter_17 : decode cX11_letter 17 = .ok (.invokevirtual 102, 3) := dkg_X11_166.2.2.2.2.2.2.2.2.2.1
theorem dkg_X11_167 : dkp cX11_letter [(20, .goto 15, 3), (23, .aload_n 0, 1), (24, .aload_n 0, 1), (25, .getfield 21, 3), (28, .iload_n 1, 1), (29, .invokevirtual 224, 3), (32, .invokevirtual 109, 3), (35, .ireturn, 1)] := dkf (by decide +kernel)
theorem dX11_letter_20 : decode cX11_letter 20 = .ok (.goto 15, 3) := dkg_X11_167.1
theorem dX11_letter_23 : decode cX11_letter 23 = .ok (.aload_n 0, 1) := dkg_X11_167.2.1
theorem dX11_letter_24 : decode cX11_letter 24 = .ok (.aload_n 0, 1) := dkg_X11_167.2.2.1
theorem dX11_letter_25 : decode cX11_letter 25 = .ok (.getfield 21, 3) := dkg_X11_167.2.2.2.1
theorem dX11_letter_28 : decode cX11_letter 28 = .ok (.iload_n 1, 1) := dkg_X11_167.2.2.2.2.1
theorem dX11_letter_29 : decode cX11_letter 29 = .ok (.invokevirtual 224, 3) := dkg_X11_167.2.2.2.2.2.1
theorem dX11_letter_32 : decode cX11_letter 32 = .ok (.invokevirtual 109, 3) := dkg_X11_167.2.2.2.2.2.2.1
theorem dX11_letter_35 : decode cX11_letter 35 = .ok (.ireturn, 1) := dkg_X11_167.2.2.2.2.2.2.2.1
theorem dkg_X11_168 : dkp cX11_failed [(0, .iload_n 1, 1), (1, .ifCond .lt 9, 3), (4, .iload_n 1, 1), (5, .bipush 7, 2), (7, .if_icmp .le 10, 3), (10, .aload_n 0, 1), (11, .bipush 6, 2), (13, .invokevirtual 102, 3), (16, .ireturn, 1), (17, .iconst 1, 1)] := dkf (by decide +kernel)
theorem dX11_failed_0 : decode cX11_failed 0 = .ok (.iload_n 1, 1) := dkg_X11_168.1
theorem dX11_failed_1 : decode cX11_failed 1 = .ok (.ifCond .lt 9, 3) := dkg_X11_168.2.1
theorem dX11_failed_4 : decode cX11_failed 4 = .ok (.iload_n 1, 1) := dkg_X11_168.2.2.1
theorem dX11_failed_5 : decode cX11_failed 5 = .ok (.bipush 7, 2) := dkg_X11_168.2.2.2.1
theorem dX11_failed_7 : decode cX11_failed 7 = .ok (.if_icmp .le 10, 3) := dkg_X11_168.2.2.2.2.1
theorem dX11_failed_10 : decode cX11_failed 10 = .ok (.aload_n 0, 1) := dkg_X11_168.2.2.2.2.2.1
theorem dX11_failed_11 : decode cX11_failed 11 = .ok (.bipush 6, 2) := dkg_X11_168.2.2.2.2.2.2.1
theorem dX11_failed_13 : decode cX11_failed 13 = .ok (.invokevirtual 102, 3) := dkg_X11_168.2.2.2.2.2.2.2.1
theorem dX11_failed_16 : decode cX11_failed 16 = .ok (.ireturn, 1) := dkg_X11_168.2.2.2.2.2.2.2.2.1
theorem dX11_failed_17 : decode cX11_failed 17 = .ok (.iconst 1, 1) := dkg_X11_168.2.2.2.2.2.2.2.2.2.1
theorem dkg_X11_169 : dkp cX11_failed [(18, .iload_n 1, 1), (19, .ishl, 1), (20, .istore_n 3, 1), (21, .aload_n 0, 1), (22, .iload_n 2, 1), (23, .ifCond .eq 12, 3), (26, .aload_n 0, 1), (27, .getfield 84, 3), (30, .iload_n 3, 1), (31, .ior, 1)] := dkf (by decide +kernel)
theorem dX11_failed_18 : decode cX11_failed 18 = .ok (.iload_n 1, 1) := dkg_X11_169.1
theorem dX11_failed_19 : decode cX11_failed 19 = .ok (.ishl, 1) := dkg_X11_169.2.1
theorem dX11_failed_20 : decode cX11_failed 20 = .ok (.istore_n 3, 1) := dkg_X11_169.2.2.1
theorem dX11_failed_21 : decode cX11_failed 21 = .ok (.aload_n 0, 1) := dkg_X11_169.2.2.2.1
theorem dX11_failed_22 : decode cX11_failed 22 = .ok (.iload_n 2, 1) := dkg_X11_169.2.2.2.2.1
theorem dX11_failed_23 : decode cX11_failed 23 = .ok (.ifCond .eq 12, 3) := dkg_X11_169.2.2.2.2.2.1
theorem dX11_failed_26 : decode cX11_failed 26 = .ok (.aload_n 0, 1) := dkg_X11_169.2.2.2.2.2.2.1
theorem dX11_failed_27 : decode cX11_failed 27 = .ok (.getfield 84, 3) := dkg_X11_169.2.2.2.2.2.2.2.1
theorem dX11_failed_30 : decode cX11_failed 30 = .ok (.iload_n 3, 1) := dkg_X11_169.2.2.2.2.2.2.2.2.1
theorem dX11_failed_31 : decode cX11_failed 31 = .ok (.ior, 1) := dkg_X11_169.2.2.2.2.2.2.2.2.2.1
theorem dkg_X11_170 : dkp cX11_failed [(32, .goto 11, 3), (35, .aload_n 0, 1), (36, .getfield 84, 3), (39, .iload_n 3, 1), (40, .iconst (-1), 1), (41, .ixor, 1), (42, .iand, 1), (43, .putfield 84, 3), (46, .aload_n 0, 1), (47, .aload_n 0, 1)] := dkf (by decide +kernel)
theorem dX11_failed_32 : decode cX11_failed 32 = .ok (.goto 11, 3) := dkg_X11_170.1
theorem dX11_failed_35 : decode cX11_failed 35 = .ok (.aload_n 0, 1) := dkg_X11_170.2.1
theorem dX11_failed_36 : decode cX11_failed 36 = .ok (.getfield 84, 3) := dkg_X11_170.2.2.1
theorem dX11_failed_39 : decode cX11_failed 39 = .ok (.iload_n 3, 1) := dkg_X11_170.2.2.2.1
theorem dX11_failed_40 : decode cX11_failed 40 = .ok (.iconst (-1), 1) := dkg_X11_170.2.2.2.2.1
theorem dX11_failed_41 : decode cX11_failed 41 = .ok (.ixor, 1) := dkg_X11_170.2.2.2.2.2.1
theorem dX11_failed_42 : decode cX11_failed 42 = .ok (.iand, 1) := dkg_X11_170.2.2.2.2.2.2.1
theorem dX11_failed_43 : decode cX11_failed 43 = .ok (.putfield 84, 3) := dkg_X11_170.2.2.2.2.2.2.2.1
theorem dX11_failed_46 : decode cX11_failed 46 = .ok (.aload_n 0, 1) := dkg_X11_170.2.2.2.2.2.2.2.2.1
theorem dX11_failed_47 : decode cX11_failed 47 = .ok (.aload_n 0, 1) := dkg_X11_170.2.2.2.2.2.2.2.2.2.1
theorem dkg_X11_171 : dkp cX11_failed [(48, .getfield 84, 3), (51, .invokestatic 351, 3), (54, .invokevirtual 109, 3), (57, .ireturn, 1)] := dkf (by decide +kernel)
theorem dX11_failed_48 : decode cX11_failed 48 = .ok (.getfield 84, 3) := dkg_X11_171.1
theorem dX11_failed_51 : decode cX11_failed 51 = .ok (.invokestatic 351, 3) := dkg_X11_171.2.1
theorem dX11_failed_54 : decode cX11_failed 54 = .ok (.invokevirtual 109, 3) := dkg_X11_171.2.2.1
theorem dX11_failed_57 : decode cX11_failed 57 = .ok (.ireturn, 1) := dkg_X11_171.2.2.2.1
theorem dkg_X11_172 : dkp cX11_readings [(0, .iload_n 3, 1), (1, .iconst 1, 1), (2, .if_icmp .lt 9, 3), (5, .iload_n 3, 1), (6, .bipush 50, 2), (8, .if_icmp .le 10, 3), (11, .aload_n 0, 1), (12, .bipush 6, 2), (14, .invokevirtual 102, 3), (17, .ireturn, 1)] := dkf (by decide +kernel)
theorem dX11_readings_0 : decode cX11_readings 0 = .ok (.iload_n 3, 1) := dkg_X11_172.1
theorem dX11_readings_1 : decode cX11_readings 1 = .ok (.iconst 1, 1) := dkg_X11_172.2.1
theorem dX11_readings_2 : decode cX11_readings 2 = .ok (.if_icmp .lt 9, 3) := dkg_X11_172.2.2.1
theorem dX11_readings_5 : decode cX11_readings 5 = .ok (.iload_n 3, 1) := dkg_X11_172.2.2.2.1
theorem dX11_readings_6 : decode cX11_readings 6 = .ok (.bipush 50, 2) := dkg_X11_172.2.2.2.2.1
theorem dX11_readings_8 : decode cX11_readings 8 = .ok (.if_icmp .le 10, 3) := dkg_X11_172.2.2.2.2.2.1
theorem dX11_readings_11 : decode cX11_readings 11 = .ok (.aload_n 0, 1) := dkg_X11_172.2.2.2.2.2.2.1
theorem dX11_readings_12 : decode cX11_readings 12 = .ok (.bipush 6, 2) := dkg_X11_172.2.2.2.2.2.2.2.1
theorem dX11_readings_14 : decode cX11_readings 14 = .ok (.invokevirtual 102, 3) := dkg_X11_172.2.2.2.2.2.2.2.2.1
theorem dX11_readings_17 : decode cX11_readings 17 = .ok (.ireturn, 1) := dkg_X11_172.2.2.2.2.2.2.2.2.2.1
theorem dkg_X11_173 : dkp cX11_readings [(18, .aload_n 0, 1), (19, .getfield 30, 3), (22, .iload_n 1, 1), (23, .invokevirtual 231, 3), (26, .astore 4, 2), (28, .aload 4, 2), (30, .ifnonnull 9, 3), (33, .aload_n 0, 1), (34, .iconst 3, 1), (35, .invokevirtual 102, 3)] := dkf (by decide +kernel)
theorem dX11_readings_18 : decode cX11_readings 18 = .ok (.aload_n 0, 1) := dkg_X11_173.1
theorem dX11_readings_19 : decode cX11_readings 19 = .ok (.getfield 30, 3) := dkg_X11_173.2.1
theorem dX11_readings_22 : decode cX11_readings 22 = .ok (.iload_n 1, 1) := dkg_X11_173.2.2.1
theorem dX11_readings_23 : decode cX11_readings 23 = .ok (.invokevirtual 231, 3) := dkg_X11_173.2.2.2.1
theorem dX11_readings_26 : decode cX11_readings 26 = .ok (.astore 4, 2) := dkg_X11_173.2.2.2.2.1
theorem dX11_readings_28 : decode cX11_readings 28 = .ok (.aload 4, 2) := dkg_X11_173.2.2.2.2.2.1
theorem dX11_readings_30 : decode cX11_readings 30 = .ok (.ifnonnull 9, 3) := dkg_X11_173.2.2.2.2.2.2.1
theorem dX11_readings_33 : decode cX11_readings 33 = .ok (.aload_n 0, 1) := dkg_X11_173.2.2.2.2.2.2.2.1
theorem dX11_readings_34 : decode cX11_readings 34 = .ok (.iconst 3, 1) := dkg_X11_173.2.2.2.2.2.2.2.2.1
theorem dX11_readings_35 : decode cX11_readings 35 = .ok (.invokevirtual 102, 3) := dkg_X11_173.2.2.2.2.2.2.2.2.2.1
theorem dkg_X11_174 : dkp cX11_readings [(38, .ireturn, 1), (39, .aload_n 0, 1), (40, .getfield 67, 3), (43, .iload_n 2, 1), (44, .invokevirtual 288, 3), (47, .astore 5, 2), (49, .aload 5, 2), (51, .ifnonnull 16, 3), (54, .aload_n 0, 1), (55, .aload_n 0, 1)] := dkf (by decide +kernel)
theorem dX11_readings_38 : decode cX11_readings 38 = .ok (.ireturn, 1) := dkg_X11_174.1
theorem dX11_readings_39 : decode cX11_readings 39 = .ok (.aload_n 0, 1) := dkg_X11_174.2.1
theorem dX11_readings_40 : decode cX11_readings 40 = .ok (.getfield 67, 3) := dkg_X11_174.2.2.1
theorem dX11_readings_43 : decode cX11_readings 43 = .ok (.iload_n 2, 1) := dkg_X11_174.2.2.2.1
theorem dX11_readings_44 : decode cX11_readings 44 = .ok (.invokevirtual 288, 3) := dkg_X11_174.2.2.2.2.1
theorem dX11_readings_47 : decode cX11_readings 47 = .ok (.astore 5, 2) := dkg_X11_174.2.2.2.2.2.1
theorem dX11_readings_49 : decode cX11_readings 49 = .ok (.aload 5, 2) := dkg_X11_174.2.2.2.2.2.2.1
theorem dX11_readings_51 : decode cX11_readings 51 = .ok (.ifnonnull 16, 3) := dkg_X11_174.2.2.2.2.2.2.2.1
theorem dX11_readings_54 : decode cX11_readings 54 = .ok (.aload_n 0, 1) := dkg_X11_174.2.2.2.2.2.2.2.2.1
theorem dX11_readings_55 : decode cX11_readings 55 = .ok (.aload_n 0, 1) := dkg_X11_174.2.2.2.2.2.2.2.2.2.1
theorem dkg_X11_175 : dkp cX11_readings [(56, .getfield 67, 3), (59, .iload_n 2, 1), (60, .invokevirtual 292, 3), (63, .invokevirtual 102, 3), (66, .ireturn, 1), (67, .aload 5, 2), (69, .getfield 295, 3), (72, .bipush 100, 2), (74, .if_icmp .le 10, 3), (77, .aload_n 0, 1)] := dkf (by decide +kernel)
theorem dX11_readings_56 : decode cX11_readings 56 = .ok (.getfield 67, 3) := dkg_X11_175.1
theorem dX11_readings_59 : decode cX11_readings 59 = .ok (.iload_n 2, 1) := dkg_X11_175.2.1
theorem dX11_readings_60 : decode cX11_readings 60 = .ok (.invokevirtual 292, 3) := dkg_X11_175.2.2.1
theorem dX11_readings_63 : decode cX11_readings 63 = .ok (.invokevirtual 102, 3) := dkg_X11_175.2.2.2.1
theorem dX11_readings_66 : decode cX11_readings 66 = .ok (.ireturn, 1) := dkg_X11_175.2.2.2.2.1
theorem dX11_readings_67 : decode cX11_readings 67 = .ok (.aload 5, 2) := dkg_X11_175.2.2.2.2.2.1
theorem dX11_readings_69 : decode cX11_readings 69 = .ok (.getfield 295, 3) := dkg_X11_175.2.2.2.2.2.2.1
theorem dX11_readings_72 : decode cX11_readings 72 = .ok (.bipush 100, 2) := dkg_X11_175.2.2.2.2.2.2.2.1
theorem dX11_readings_74 : decode cX11_readings 74 = .ok (.if_icmp .le 10, 3) := dkg_X11_175.2.2.2.2.2.2.2.2.1
theorem dX11_readings_77 : decode cX11_readings 77 = .ok (.aload_n 0, 1) := dkg_X11_175.2.2.2.2.2.2.2.2.2.1
theorem dkg_X11_176 : dkp cX11_readings [(78, .bipush 6, 2), (80, .invokevirtual 102, 3), (83, .ireturn, 1), (84, .aload_n 0, 1), (85, .getfield 51, 3), (88, .aload 4, 2), (90, .invokevirtual 331, 3), (93, .aload_n 0, 1), (94, .getfield 60, 3), (97, .aload 5, 2)] := dkf (by decide +kernel)
theorem dX11_readings_78 : decode cX11_readings 78 = .ok (.bipush 6, 2) := dkg_X11_176.1
theorem dX11_readings_80 : decode cX11_readings 80 = .ok (.invokevirtual 102, 3) := dkg_X11_176.2.1
theorem dX11_readings_83 : decode cX11_readings 83 = .ok (.ireturn, 1) := dkg_X11_176.2.2.1
theorem dX11_readings_84 : decode cX11_readings 84 = .ok (.aload_n 0, 1) := dkg_X11_176.2.2.2.1
theorem dX11_readings_85 : decode cX11_readings 85 = .ok (.getfield 51, 3) := dkg_X11_176.2.2.2.2.1
theorem dX11_readings_88 : decode cX11_readings 88 = .ok (.aload 4, 2) := dkg_X11_176.2.2.2.2.2.1
theorem dX11_readings_90 : decode cX11_readings 90 = .ok (.invokevirtual 331, 3) := dkg_X11_176.2.2.2.2.2.2.1
theorem dX11_readings_93 : decode cX11_readings 93 = .ok (.aload_n 0, 1) := dkg_X11_176.2.2.2.2.2.2.2.1
theorem dX11_readings_94 : decode cX11_readings 94 = .ok (.getfield 60, 3) := dkg_X11_176.2.2.2.2.2.2.2.2.1
theorem dX11_readings_97 : decode cX11_readings 97 = .ok (.aload 5, 2) := dkg_X11_176.2.2.2.2.2.2.2.2.2.1
theorem dkg_X11_177 : dkp cX11_readings [(99, .sipush 255, 3), (102, .aload_n 0, 1), (103, .getfield 84, 3), (106, .iconst (-1), 1), (107, .ixor, 1), (108, .iand, 1), (109, .iload_n 3, 1), (110, .invokevirtual 356, 3), (113, .aload_n 0, 1), (114, .aload_n 0, 1)] := dkf (by decide +kernel)
theorem dX11_readings_99 : decode cX11_readings 99 = .ok (.sipush 255, 3) := dkg_X11_177.1
theorem dX11_readings_102 : decode cX11_readings 102 = .ok (.aload_n 0, 1) := dkg_X11_177.2.1
theorem dX11_readings_103 : decode cX11_readings 103 = .ok (.getfield 84, 3) := dkg_X11_177.2.2.1
theorem dX11_readings_106 : decode cX11_readings 106 = .ok (.iconst (-1), 1) := dkg_X11_177.2.2.2.1
theorem dX11_readings_107 : decode cX11_readings 107 = .ok (.ixor, 1) := dkg_X11_177.2.2.2.2.1
theorem dX11_readings_108 : decode cX11_readings 108 = .ok (.iand, 1) := dkg_X11_177.2.2.2.2.2.1
theorem dX11_readings_109 : decode cX11_readings 109 = .ok (.iload_n 3, 1) := dkg_X11_177.2.2.2.2.2.2.1
theorem dX11_readings_110 : decode cX11_readings 110 = .ok (.invokevirtual 356, 3) := dkg_X11_177.2.2.2.2.2.2.2.1
theorem dX11_readings_113 : decode cX11_readings 113 = .ok (.aload_n 0, 1) := dkg_X11_177.2.2.2.2.2.2.2.2.1
theorem dX11_readings_114 : decode cX11_readings 114 = .ok (.aload_n 0, 1) := dkg_X11_177.2.2.2.2.2.2.2.2.2.1
theorem dkg_X11_178 : dkp cX11_readings [(115, .getfield 60, 3), (118, .getfield 360, 3), (121, .invokevirtual 109, 3), (124, .ireturn, 1)] := dkf (by decide +kernel)
theorem dX11_readings_115 : decode cX11_readings 115 = .ok (.getfield 60, 3) := dkg_X11_178.1
theorem dX11_readings_118 : decode cX11_readings 118 = .ok (.getfield 360, 3) := dkg_X11_178.2.1
theorem dX11_readings_121 : decode cX11_readings 121 = .ok (.invokevirtual 109, 3) := dkg_X11_178.2.2.1
theorem dX11_readings_124 : decode cX11_readings 124 = .ok (.ireturn, 1) := dkg_X11_178.2.2.2.1
theorem dkg_X11_179 : dkp cX11_more [(0, .aload_n 0, 1), (1, .getfield 60, 3), (4, .getfield 361, 3), (7, .ifCond .eq 7, 3), (10, .iconst 1, 1), (11, .goto 4, 3), (14, .iconst 0, 1), (15, .ireturn, 1)] := dkf (by decide +kernel)
theorem dX11_more_0 : decode cX11_more 0 = .ok (.aload_n 0, 1) := dkg_X11_179.1
theorem dX11_more_1 : decode cX11_more 1 = .ok (.getfield 60, 3) := dkg_X11_179.2.1
theorem dX11_more_4 : decode cX11_more 4 = .ok (.getfield 361, 3) := dkg_X11_179.2.2.1
theorem dX11_more_7 : decode cX11_more 7 = .ok (.ifCond .eq 7, 3) := dkg_X11_179.2.2.2.1
theorem dX11_more_10 : decode cX11_more 10 = .ok (.iconst 1, 1) := dkg_X11_179.2.2.2.2.1
theorem dX11_more_11 : decode cX11_more 11 = .ok (.goto 4, 3) := dkg_X11_179.2.2.2.2.2.1
theorem dX11_more_14 : decode cX11_more 14 = .ok (.iconst 0, 1) := dkg_X11_179.2.2.2.2.2.2.1
theorem dX11_more_15 : decode cX11_more 15 = .ok (.ireturn, 1) := dkg_X11_179.2.2.2.2.2.2.2.1
theorem dkg_X11_180 : dkp cX11_reading [(0, .aload_n 0, 1), (1, .getfield 60, 3), (4, .iload_n 1, 1), (5, .iload_n 2, 1), (6, .invokevirtual 364, 3), (9, .istore_n 3, 1), (10, .iload_n 3, 1), (11, .ifCond .ge 11, 3), (14, .aload_n 0, 1), (15, .iconst 2, 1)] := dkf (by decide +kernel)
theorem dX11_reading_0 : decode cX11_reading 0 = .ok (.aload_n 0, 1) := dkg_X11_180.1
theorem dX11_reading_1 : decode cX11_reading 1 = .ok (.getfield 60, 3) := dkg_X11_180.2.1
theorem dX11_reading_4 : decode cX11_reading 4 = .ok (.iload_n 1, 1) := dkg_X11_180.2.2.1
theorem dX11_reading_5 : decode cX11_reading 5 = .ok (.iload_n 2, 1) := dkg_X11_180.2.2.2.1
theorem dX11_reading_6 : decode cX11_reading 6 = .ok (.invokevirtual 364, 3) := dkg_X11_180.2.2.2.2.1
theorem dX11_reading_9 : decode cX11_reading 9 = .ok (.istore_n 3, 1) := dkg_X11_180.2.2.2.2.2.1
theorem dX11_reading_10 : decode cX11_reading 10 = .ok (.iload_n 3, 1) := dkg_X11_180.2.2.2.2.2.2.1
theorem dX11_reading_11 : decode cX11_reading 11 = .ok (.ifCond .ge 11, 3) := dkg_X11_180.2.2.2.2.2.2.2.1
theorem dX11_reading_14 : decode cX11_reading 14 = .ok (.aload_n 0, 1) := dkg_X11_180.2.2.2.2.2.2.2.2.1
theorem dX11_reading_15 : decode cX11_reading 15 = .ok (.iconst 2, 1) := dkg_X11_180.2.2.2.2.2.2.2.2.2.1
theorem dkg_X11_181 : dkp cX11_reading [(16, .invokevirtual 102, 3), (19, .goto 8, 3), (22, .aload_n 0, 1), (23, .iload_n 3, 1), (24, .invokevirtual 109, 3), (27, .ireturn, 1)] := dkf (by decide +kernel)
theorem dX11_reading_16 : decode cX11_reading 16 = .ok (.invokevirtual 102, 3) := dkg_X11_181.1
theorem dX11_reading_19 : decode cX11_reading 19 = .ok (.goto 8, 3) := dkg_X11_181.2.1
theorem dX11_reading_22 : decode cX11_reading 22 = .ok (.aload_n 0, 1) := dkg_X11_181.2.2.1
theorem dX11_reading_23 : decode cX11_reading 23 = .ok (.iload_n 3, 1) := dkg_X11_181.2.2.2.1
theorem dX11_reading_24 : decode cX11_reading 24 = .ok (.invokevirtual 109, 3) := dkg_X11_181.2.2.2.2.1
theorem dX11_reading_27 : decode cX11_reading 27 = .ok (.ireturn, 1) := dkg_X11_181.2.2.2.2.2.1
theorem dkg_X11_182 : dkp cX11_judge [(0, .aload_n 0, 1), (1, .getfield 30, 3), (4, .iload_n 1, 1), (5, .invokevirtual 131, 3), (8, .astore_n 2, 1), (9, .aload_n 2, 1), (10, .ifnonnull 9, 3), (13, .aload_n 0, 1), (14, .iconst 3, 1), (15, .invokevirtual 102, 3)] := dkf (by decide +kernel)
theorem dX11_judge_0 : decode cX11_judge 0 = .ok (.aload_n 0, 1) := dkg_X11_182.1
theorem dX11_judge_1 : decode cX11_judge 1 = .ok (.getfield 30, 3) := dkg_X11_182.2.1
theorem dX11_judge_4 : decode cX11_judge 4 = .ok (.iload_n 1, 1) := dkg_X11_182.2.2.1
theorem dX11_judge_5 : decode cX11_judge 5 = .ok (.invokevirtual 131, 3) := dkg_X11_182.2.2.2.1
theorem dX11_judge_8 : decode cX11_judge 8 = .ok (.astore_n 2, 1) := dkg_X11_182.2.2.2.2.1
theorem dX11_judge_9 : decode cX11_judge 9 = .ok (.aload_n 2, 1) := dkg_X11_182.2.2.2.2.2.1
theorem dX11_judge_10 : decode cX11_judge 10 = .ok (.ifnonnull 9, 3) := dkg_X11_182.2.2.2.2.2.2.1
theorem dX11_judge_13 : decode cX11_judge 13 = .ok (.aload_n 0, 1) := dkg_X11_182.2.2.2.2.2.2.2.1
theorem dX11_judge_14 : decode cX11_judge 14 = .ok (.iconst 3, 1) := dkg_X11_182.2.2.2.2.2.2.2.2.1
theorem dX11_judge_15 : decode cX11_judge 15 = .ok (.invokevirtual 102, 3) := dkg_X11_182.2.2.2.2.2.2.2.2.2.1
theorem dkg_X11_183 : dkp cX11_judge [(18, .ireturn, 1), (19, .aload_n 2, 1), (20, .getfield 135, 3), (23, .iconst 4, 1), (24, .if_icmp .ne 9, 3), (27, .aload_n 0, 1), (28, .iconst 4, 1), (29, .invokevirtual 102, 3), (32, .ireturn, 1), (33, .aload_n 0, 1)] := dkf (by decide +kernel)
theorem dX11_judge_18 : decode cX11_judge 18 = .ok (.ireturn, 1) := dkg_X11_183.1
theorem dX11_judge_19 : decode cX11_judge 19 = .ok (.aload_n 2, 1) := dkg_X11_183.2.1
theorem dX11_judge_20 : decode cX11_judge 20 = .ok (.getfield 135, 3) := dkg_X11_183.2.2.1
theorem dX11_judge_23 : decode cX11_judge 23 = .ok (.iconst 4, 1) := dkg_X11_183.2.2.2.1
theorem dX11_judge_24 : decode cX11_judge 24 = .ok (.if_icmp .ne 9, 3) := dkg_X11_183.2.2.2.2.1
theorem dX11_judge_27 : decode cX11_judge 27 = .ok (.aload_n 0, 1) := dkg_X11_183.2.2.2.2.2.1
theorem dX11_judge_28 : decode cX11_judge 28 = .ok (.iconst 4, 1) := dkg_X11_183.2.2.2.2.2.2.1
theorem dX11_judge_29 : decode cX11_judge 29 = .ok (.invokevirtual 102, 3) := dkg_X11_183.2.2.2.2.2.2.2.1
theorem dX11_judge_32 : decode cX11_judge 32 = .ok (.ireturn, 1) := dkg_X11_183.2.2.2.2.2.2.2.2.1
theorem dX11_judge_33 : decode cX11_judge 33 = .ok (.aload_n 0, 1) := dkg_X11_183.2.2.2.2.2.2.2.2.2.1
theorem dkg_X11_184 : dkp cX11_judge [(34, .getfield 30, 3), (37, .iload_n 1, 1), (38, .invokevirtual 231, 3), (41, .ifnonnull 9, 3), (44, .aload_n 0, 1), (45, .iconst 3, 1), (46, .invokevirtual 102, 3), (49, .ireturn, 1), (50, .aload_n 2, 1), (51, .invokevirtual 367, 3)] := dkf (by decide +kernel)
theorem dX11_judge_34 : decode cX11_judge 34 = .ok (.getfield 30, 3) := dkg_X11_184.1
theorem dX11_judge_37 : decode cX11_judge 37 = .ok (.iload_n 1, 1) := dkg_X11_184.2.1
theorem dX11_judge_38 : decode cX11_judge 38 = .ok (.invokevirtual 231, 3) := dkg_X11_184.2.2.1
theorem dX11_judge_41 : decode cX11_judge 41 = .ok (.ifnonnull 9, 3) := dkg_X11_184.2.2.2.1
theorem dX11_judge_44 : decode cX11_judge 44 = .ok (.aload_n 0, 1) := dkg_X11_184.2.2.2.2.1
theorem dX11_judge_45 : decode cX11_judge 45 = .ok (.iconst 3, 1) := dkg_X11_184.2.2.2.2.2.1
theorem dX11_judge_46 : decode cX11_judge 46 = .ok (.invokevirtual 102, 3) := dkg_X11_184.2.2.2.2.2.2.1
theorem dX11_judge_49 : decode cX11_judge 49 = .ok (.ireturn, 1) := dkg_X11_184.2.2.2.2.2.2.2.1
theorem dX11_judge_50 : decode cX11_judge 50 = .ok (.aload_n 2, 1) := dkg_X11_184.2.2.2.2.2.2.2.2.1
theorem dX11_judge_51 : decode cX11_judge 51 = .ok (.invokevirtual 367, 3) := dkg_X11_184.2.2.2.2.2.2.2.2.2.1
theorem dkg_X11_185 : dkp cX11_judge [(54, .ifCond .eq 9, 3), (57, .aload_n 0, 1), (58, .iconst 0, 1), (59, .invokevirtual 109, 3), (62, .ireturn, 1), (63, .aload_n 0, 1), (64, .getfield 51, 3), (67, .aload_n 2, 1), (68, .invokevirtual 331, 3), (71, .aload_n 0, 1)] := dkf (by decide +kernel)
theorem dX11_judge_54 : decode cX11_judge 54 = .ok (.ifCond .eq 9, 3) := dkg_X11_185.1
theorem dX11_judge_57 : decode cX11_judge 57 = .ok (.aload_n 0, 1) := dkg_X11_185.2.1
theorem dX11_judge_58 : decode cX11_judge 58 = .ok (.iconst 0, 1) := dkg_X11_185.2.2.1
theorem dX11_judge_59 : decode cX11_judge 59 = .ok (.invokevirtual 109, 3) := dkg_X11_185.2.2.2.1
theorem dX11_judge_62 : decode cX11_judge 62 = .ok (.ireturn, 1) := dkg_X11_185.2.2.2.2.1
theorem dX11_judge_63 : decode cX11_judge 63 = .ok (.aload_n 0, 1) := dkg_X11_185.2.2.2.2.2.1
theorem dX11_judge_64 : decode cX11_judge 64 = .ok (.getfield 51, 3) := dkg_X11_185.2.2.2.2.2.2.1
theorem dX11_judge_67 : decode cX11_judge 67 = .ok (.aload_n 2, 1) := dkg_X11_185.2.2.2.2.2.2.2.1
theorem dX11_judge_68 : decode cX11_judge 68 = .ok (.invokevirtual 331, 3) := dkg_X11_185.2.2.2.2.2.2.2.2.1
theorem dX11_judge_71 : decode cX11_judge 71 = .ok (.aload_n 0, 1) := dkg_X11_185.2.2.2.2.2.2.2.2.2.1
theorem dkg_X11_186 : dkp cX11_judge [(72, .getfield 51, 3), (75, .getfield 370, 3), (78, .aload_n 0, 1), (79, .getfield 81, 3), (82, .invokestatic 373, 3), (85, .ifCond .eq 24, 3), (88, .aload_n 0, 1), (89, .getfield 51, 3), (92, .getfield 377, 3), (95, .aload_n 0, 1)] := dkf (by decide +kernel)
theorem dX11_judge_72 : decode cX11_judge 72 = .ok (.getfield 51, 3) := dkg_X11_186.1
theorem dX11_judge_75 : decode cX11_judge 75 = .ok (.getfield 370, 3) := dkg_X11_186.2.1
theorem dX11_judge_78 : decode cX11_judge 78 = .ok (.aload_n 0, 1) := dkg_X11_186.2.2.1
theorem dX11_judge_79 : decode cX11_judge 79 = .ok (.getfield 81, 3) := dkg_X11_186.2.2.2.1
theorem dX11_judge_82 : decode cX11_judge 82 = .ok (.invokestatic 373, 3) := dkg_X11_186.2.2.2.2.1
theorem dX11_judge_85 : decode cX11_judge 85 = .ok (.ifCond .eq 24, 3) := dkg_X11_186.2.2.2.2.2.1
theorem dX11_judge_88 : decode cX11_judge 88 = .ok (.aload_n 0, 1) := dkg_X11_186.2.2.2.2.2.2.1
theorem dX11_judge_89 : decode cX11_judge 89 = .ok (.getfield 51, 3) := dkg_X11_186.2.2.2.2.2.2.2.1
theorem dX11_judge_92 : decode cX11_judge 92 = .ok (.getfield 377, 3) := dkg_X11_186.2.2.2.2.2.2.2.2.1
theorem dX11_judge_95 : decode cX11_judge 95 = .ok (.aload_n 0, 1) := dkg_X11_186.2.2.2.2.2.2.2.2.2.1
theorem dkg_X11_187 : dkp cX11_judge [(96, .getfield 81, 3), (99, .invokestatic 373, 3), (102, .ifCond .eq 7, 3), (105, .iconst 1, 1), (106, .goto 4, 3), (109, .iconst 0, 1), (110, .istore_n 3, 1), (111, .aload_n 0, 1), (112, .iload_n 3, 1), (113, .ifCond .eq 7, 3)] := dkf (by decide +kernel)
theorem dX11_judge_96 : decode cX11_judge 96 = .ok (.getfield 81, 3) := dkg_X11_187.1
theorem dX11_judge_99 : decode cX11_judge 99 = .ok (.invokestatic 373, 3) := dkg_X11_187.2.1
theorem dX11_judge_102 : decode cX11_judge 102 = .ok (.ifCond .eq 7, 3) := dkg_X11_187.2.2.1
theorem dX11_judge_105 : decode cX11_judge 105 = .ok (.iconst 1, 1) := dkg_X11_187.2.2.2.1
theorem dX11_judge_106 : decode cX11_judge 106 = .ok (.goto 4, 3) := dkg_X11_187.2.2.2.2.1
theorem dX11_judge_109 : decode cX11_judge 109 = .ok (.iconst 0, 1) := dkg_X11_187.2.2.2.2.2.1
theorem dX11_judge_110 : decode cX11_judge 110 = .ok (.istore_n 3, 1) := dkg_X11_187.2.2.2.2.2.2.1
theorem dX11_judge_111 : decode cX11_judge 111 = .ok (.aload_n 0, 1) := dkg_X11_187.2.2.2.2.2.2.2.1
theorem dX11_judge_112 : decode cX11_judge 112 = .ok (.iload_n 3, 1) := dkg_X11_187.2.2.2.2.2.2.2.2.1
theorem dX11_judge_113 : decode cX11_judge 113 = .ok (.ifCond .eq 7, 3) := dkg_X11_187.2.2.2.2.2.2.2.2.2.1
theorem dkg_X11_188 : dkp cX11_judge [(116, .iconst 1, 1), (117, .goto 4, 3), (120, .iconst 0, 1), (121, .invokevirtual 109, 3), (124, .ireturn, 1)] := dkf (by decide +kernel)
theorem dX11_judge_116 : decode cX11_judge 116 = .ok (.iconst 1, 1) := dkg_X11_188.1
theorem dX11_judge_117 : decode cX11_judge 117 = .ok (.goto 4, 3) := dkg_X11_188.2.1
theorem dX11_judge_120 : decode cX11_judge 120 = .ok (.iconst 0, 1) := dkg_X11_188.2.2.1
theorem dX11_judge_121 : decode cX11_judge 121 = .ok (.invokevirtual 109, 3) := dkg_X11_188.2.2.2.1
theorem dX11_judge_124 : decode cX11_judge 124 = .ok (.ireturn, 1) := dkg_X11_188.2.2.2.2.1
theorem dkg_X11_189 : dkp cX11_parts [(0, .aload_n 0, 1), (1, .getfield 30, 3), (4, .iload_n 1, 1), (5, .invokevirtual 231, 3), (8, .astore 4, 2), (10, .aload 4, 2), (12, .ifnonnull 9, 3), (15, .aload_n 0, 1), (16, .iconst 3, 1), (17, .invokevirtual 102, 3)] := dkf (by decide +kernel)
theorem dX11_parts_0 : decode cX11_parts 0 = .ok (.aload_n 0, 1) := dkg_X11_189.1
theorem dX11_parts_1 : decode cX11_parts 1 = .ok (.getfield 30, 3) := dkg_X11_189.2.1
theorem dX11_parts_4 : decode cX11_parts 4 = .ok (.iload_n 1, 1) := dkg_X11_189.2.2.1
theorem dX11_parts_5 : decode cX11_parts 5 = .ok (.invokevirtual 231, 3) := dkg_X11_189.2.2.2.1
theorem dX11_parts_8 : decode cX11_parts 8 = .ok (.astore 4, 2) := dkg_X11_189.2.2.2.2.1
theorem dX11_parts_10 : decode cX11_parts 10 = .ok (.aload 4, 2) := dkg_X11_189.2.2.2.2.2.1
theorem dX11_parts_12 : decode cX11_parts 12 = .ok (.ifnonnull 9, 3) := dkg_X11_189.2.2.2.2.2.2.1
theorem dX11_parts_15 : decode cX11_parts 15 = .ok (.aload_n 0, 1) := dkg_X11_189.2.2.2.2.2.2.2.1
theorem dX11_parts_16 : decode cX11_parts 16 = .ok (.iconst 3, 1) := dkg_X11_189.2.2.2.2.2.2.2.2.1
theorem dX11_parts_17 : decode cX11_parts 17 = .ok (.invokevirtual 102, 3) := dkg_X11_189.2.2.2.2.2.2.2.2.2.1
theorem dkg_X11_190 : dkp cX11_parts [(20, .ireturn, 1), (21, .aload_n 0, 1), (22, .getfield 51, 3), (25, .aload 4, 2), (27, .invokevirtual 331, 3), (30, .aload_n 0, 1), (31, .getfield 51, 3), (34, .getfield 370, 3), (37, .invokevirtual 183, 3), (40, .istore 5, 2)] := dkf (by decide +kernel)
theorem dX11_parts_20 : decode cX11_parts 20 = .ok (.ireturn, 1) := dkg_X11_190.1
theorem dX11_parts_21 : decode cX11_parts 21 = .ok (.aload_n 0, 1) := dkg_X11_190.2.1
theorem dX11_parts_22 : decode cX11_parts 22 = .ok (.getfield 51, 3) := dkg_X11_190.2.2.1
theorem dX11_parts_25 : decode cX11_parts 25 = .ok (.aload 4, 2) := dkg_X11_190.2.2.2.1
theorem dX11_parts_27 : decode cX11_parts 27 = .ok (.invokevirtual 331, 3) := dkg_X11_190.2.2.2.2.1
theorem dX11_parts_30 : decode cX11_parts 30 = .ok (.aload_n 0, 1) := dkg_X11_190.2.2.2.2.2.1
theorem dX11_parts_31 : decode cX11_parts 31 = .ok (.getfield 51, 3) := dkg_X11_190.2.2.2.2.2.2.1
theorem dX11_parts_34 : decode cX11_parts 34 = .ok (.getfield 370, 3) := dkg_X11_190.2.2.2.2.2.2.2.1
theorem dX11_parts_37 : decode cX11_parts 37 = .ok (.invokevirtual 183, 3) := dkg_X11_190.2.2.2.2.2.2.2.2.1
theorem dX11_parts_40 : decode cX11_parts 40 = .ok (.istore 5, 2) := dkg_X11_190.2.2.2.2.2.2.2.2.2.1
theorem dkg_X11_191 : dkp cX11_parts [(42, .iload_n 2, 1), (43, .ifCond .lt 19, 3), (46, .iload_n 2, 1), (47, .iload 5, 2), (49, .if_icmp .ge 13, 3), (52, .iload_n 3, 1), (53, .ifCond .lt 9, 3), (56, .iload_n 3, 1), (57, .iload 5, 2), (59, .if_icmp .lt 9, 3)] := dkf (by decide +kernel)
theorem dX11_parts_42 : decode cX11_parts 42 = .ok (.iload_n 2, 1) := dkg_X11_191.1
theorem dX11_parts_43 : decode cX11_parts 43 = .ok (.ifCond .lt 19, 3) := dkg_X11_191.2.1
theorem dX11_parts_46 : decode cX11_parts 46 = .ok (.iload_n 2, 1) := dkg_X11_191.2.2.1
theorem dX11_parts_47 : decode cX11_parts 47 = .ok (.iload 5, 2) := dkg_X11_191.2.2.2.1
theorem dX11_parts_49 : decode cX11_parts 49 = .ok (.if_icmp .ge 13, 3) := dkg_X11_191.2.2.2.2.1
theorem dX11_parts_52 : decode cX11_parts 52 = .ok (.iload_n 3, 1) := dkg_X11_191.2.2.2.2.2.1
theorem dX11_parts_53 : decode cX11_parts 53 = .ok (.ifCond .lt 9, 3) := dkg_X11_191.2.2.2.2.2.2.1
theorem dX11_parts_56 : decode cX11_parts 56 = .ok (.iload_n 3, 1) := dkg_X11_191.2.2.2.2.2.2.2.1
theorem dX11_parts_57 : decode cX11_parts 57 = .ok (.iload 5, 2) := dkg_X11_191.2.2.2.2.2.2.2.2.1
theorem dX11_parts_59 : decode cX11_parts 59 = .ok (.if_icmp .lt 9, 3) := dkg_X11_191.2.2.2.2.2.2.2.2.2.1
theorem dkg_X11_192 : dkp cX11_parts [(62, .aload_n 0, 1), (63, .iconst 2, 1), (64, .invokevirtual 102, 3), (67, .ireturn, 1), (68, .aload_n 0, 1), (69, .getfield 51, 3), (72, .getfield 370, 3), (75, .iload_n 2, 1), (76, .invokevirtual 204, 3), (79, .checkcast 188, 3)] := dkf (by decide +kernel)
theorem dX11_parts_62 : decode cX11_parts 62 = .ok (.aload_n 0, 1) := dkg_X11_192.1
theorem dX11_parts_63 : decode cX11_parts 63 = .ok (.iconst 2, 1) := dkg_X11_192.2.1
theorem dX11_parts_64 : decode cX11_parts 64 = .ok (.invokevirtual 102, 3) := dkg_X11_192.2.2.1
theorem dX11_parts_67 : decode cX11_parts 67 = .ok (.ireturn, 1) := dkg_X11_192.2.2.2.1
theorem dX11_parts_68 : decode cX11_parts 68 = .ok (.aload_n 0, 1) := dkg_X11_192.2.2.2.2.1
theorem dX11_parts_69 : decode cX11_parts 69 = .ok (.getfield 51, 3) := dkg_X11_192.2.2.2.2.2.1
theorem dX11_parts_72 : decode cX11_parts 72 = .ok (.getfield 370, 3) := dkg_X11_192.2.2.2.2.2.2.1
theorem dX11_parts_75 : decode cX11_parts 75 = .ok (.iload_n 2, 1) := dkg_X11_192.2.2.2.2.2.2.2.1
theorem dX11_parts_76 : decode cX11_parts 76 = .ok (.invokevirtual 204, 3) := dkg_X11_192.2.2.2.2.2.2.2.2.1
theorem dX11_parts_79 : decode cX11_parts 79 = .ok (.checkcast 188, 3) := dkg_X11_192.2.2.2.2.2.2.2.2.2.1
theorem dkg_X11_193 : dkp cX11_parts [(82, .astore 6, 2), (84, .aload_n 0, 1), (85, .getfield 51, 3), (88, .getfield 370, 3), (91, .iload_n 3, 1), (92, .invokevirtual 204, 3), (95, .checkcast 188, 3), (98, .astore 7, 2), (100, .aload 6, 2), (102, .aload 7, 2)] := dkf (by decide +kernel)
theorem dX11_parts_82 : decode cX11_parts 82 = .ok (.astore 6, 2) := dkg_X11_193.1
theorem dX11_parts_84 : decode cX11_parts 84 = .ok (.aload_n 0, 1) := dkg_X11_193.2.1
theorem dX11_parts_85 : decode cX11_parts 85 = .ok (.getfield 51, 3) := dkg_X11_193.2.2.1
theorem dX11_parts_88 : decode cX11_parts 88 = .ok (.getfield 370, 3) := dkg_X11_193.2.2.2.1
theorem dX11_parts_91 : decode cX11_parts 91 = .ok (.iload_n 3, 1) := dkg_X11_193.2.2.2.2.1
theorem dX11_parts_92 : decode cX11_parts 92 = .ok (.invokevirtual 204, 3) := dkg_X11_193.2.2.2.2.2.1
theorem dX11_parts_95 : decode cX11_parts 95 = .ok (.checkcast 188, 3) := dkg_X11_193.2.2.2.2.2.2.1
theorem dX11_parts_98 : decode cX11_parts 98 = .ok (.astore 7, 2) := dkg_X11_193.2.2.2.2.2.2.2.1
theorem dX11_parts_100 : decode cX11_parts 100 = .ok (.aload 6, 2) := dkg_X11_193.2.2.2.2.2.2.2.2.1
theorem dX11_parts_102 : decode cX11_parts 102 = .ok (.aload 7, 2) := dkg_X11_193.2.2.2.2.2.2.2.2.2.1
theorem dkg_X11_194 : dkp cX11_parts [(104, .invokevirtual 380, 3), (107, .istore 8, 2), (109, .iload 8, 2), (111, .aload 6, 2), (113, .getfield 384, 3), (116, .arraylength, 1), (117, .if_icmp .eq 14, 3), (120, .iload 8, 2), (122, .aload 7, 2), (124, .getfield 384, 3)] := dkf (by decide +kernel)
theorem dX11_parts_104 : decode cX11_parts 104 = .ok (.invokevirtual 380, 3) := dkg_X11_194.1
theorem dX11_parts_107 : decode cX11_parts 107 = .ok (.istore 8, 2) := dkg_X11_194.2.1
theorem dX11_parts_109 : decode cX11_parts 109 = .ok (.iload 8, 2) := dkg_X11_194.2.2.1
theorem dX11_parts_111 : decode cX11_parts 111 = .ok (.aload 6, 2) := dkg_X11_194.2.2.2.1
theorem dX11_parts_113 : decode cX11_parts 113 = .ok (.getfield 384, 3) := dkg_X11_194.2.2.2.2.1
theorem dX11_parts_116 : decode cX11_parts 116 = .ok (.arraylength, 1) := dkg_X11_194.2.2.2.2.2.1
theorem dX11_parts_117 : decode cX11_parts 117 = .ok (.if_icmp .eq 14, 3) := dkg_X11_194.2.2.2.2.2.2.1
theorem dX11_parts_120 : decode cX11_parts 120 = .ok (.iload 8, 2) := dkg_X11_194.2.2.2.2.2.2.2.1
theorem dX11_parts_122 : decode cX11_parts 122 = .ok (.aload 7, 2) := dkg_X11_194.2.2.2.2.2.2.2.2.1
theorem dX11_parts_124 : decode cX11_parts 124 = .ok (.getfield 384, 3) := dkg_X11_194.2.2.2.2.2.2.2.2.2.1
theorem dkg_X11_195 : dkp cX11_parts [(127, .arraylength, 1), (128, .if_icmp .ne 7, 3), (131, .iconst 1, 1), (132, .goto 4, 3), (135, .iconst 0, 1), (136, .istore 9, 2), (138, .aload_n 0, 1), (139, .iload 9, 2), (141, .ifCond .eq 10, 3), (144, .iconst (-1), 1)] := dkf (by decide +kernel)
theorem dX11_parts_127 : decode cX11_parts 127 = .ok (.arraylength, 1) := dkg_X11_195.1
theorem dX11_parts_128 : decode cX11_parts 128 = .ok (.if_icmp .ne 7, 3) := dkg_X11_195.2.1
theorem dX11_parts_131 : decode cX11_parts 131 = .ok (.iconst 1, 1) := dkg_X11_195.2.2.1
theorem dX11_parts_132 : decode cX11_parts 132 = .ok (.goto 4, 3) := dkg_X11_195.2.2.2.1
theorem dX11_parts_135 : decode cX11_parts 135 = .ok (.iconst 0, 1) := dkg_X11_195.2.2.2.2.1
theorem dX11_parts_136 : decode cX11_parts 136 = .ok (.istore 9, 2) := dkg_X11_195.2.2.2.2.2.1
theorem dX11_parts_138 : decode cX11_parts 138 = .ok (.aload_n 0, 1) := dkg_X11_195.2.2.2.2.2.2.1
theorem dX11_parts_139 : decode cX11_parts 139 = .ok (.iload 9, 2) := dkg_X11_195.2.2.2.2.2.2.2.1
theorem dX11_parts_141 : decode cX11_parts 141 = .ok (.ifCond .eq 10, 3) := dkg_X11_195.2.2.2.2.2.2.2.2.1
theorem dX11_parts_144 : decode cX11_parts 144 = .ok (.iconst (-1), 1) := dkg_X11_195.2.2.2.2.2.2.2.2.2.1
theorem dkg_X11_196 : dkp cX11_parts [(145, .iload 8, 2), (147, .isub, 1), (148, .goto 5, 3), (151, .iload 8, 2), (153, .invokevirtual 109, 3), (156, .ireturn, 1)] := dkf (by decide +kernel)
theorem dX11_parts_145 : decode cX11_parts 145 = .ok (.iload 8, 2) := dkg_X11_196.1
theorem dX11_parts_147 : decode cX11_parts 147 = .ok (.isub, 1) := dkg_X11_196.2.1
theorem dX11_parts_148 : decode cX11_parts 148 = .ok (.goto 5, 3) := dkg_X11_196.2.2.1
theorem dX11_parts_151 : decode cX11_parts 151 = .ok (.iload 8, 2) := dkg_X11_196.2.2.2.1
theorem dX11_parts_153 : decode cX11_parts 153 = .ok (.invokevirtual 109, 3) := dkg_X11_196.2.2.2.2.1
theorem dX11_parts_156 : decode cX11_parts 156 = .ok (.ireturn, 1) := dkg_X11_196.2.2.2.2.2.1
theorem dkg_X11_197 : dkp cX11_unreadable [(0, .iload_n 2, 1), (1, .iconst 1, 1), (2, .if_icmp .lt 21, 3), (5, .iload_n 2, 1), (6, .bipush 6, 2), (8, .if_icmp .gt 15, 3), (11, .iload_n 3, 1), (12, .iconst 1, 1), (13, .if_icmp .lt 10, 3), (16, .iload_n 3, 1)] := dkf (by decide +kernel)
theorem dX11_unreadable_0 : decode cX11_unreadable 0 = .ok (.iload_n 2, 1) := dkg_X11_197.1
theorem dX11_unreadable_1 : decode cX11_unreadable 1 = .ok (.iconst 1, 1) := dkg_X11_197.2.1
theorem dX11_unreadable_2 : decode cX11_unreadable 2 = .ok (.if_icmp .lt 21, 3) := dkg_X11_197.2.2.1
theorem dX11_unreadable_5 : decode cX11_unreadable 5 = .ok (.iload_n 2, 1) := dkg_X11_197.2.2.2.1
theorem dX11_unreadable_6 : decode cX11_unreadable 6 = .ok (.bipush 6, 2) := dkg_X11_197.2.2.2.2.1
theorem dX11_unreadable_8 : decode cX11_unreadable 8 = .ok (.if_icmp .gt 15, 3) := dkg_X11_197.2.2.2.2.2.1
theorem dX11_unreadable_11 : decode cX11_unreadable 11 = .ok (.iload_n 3, 1) := dkg_X11_197.2.2.2.2.2.2.1
theorem dX11_unreadable_12 : decode cX11_unreadable 12 = .ok (.iconst 1, 1) := dkg_X11_197.2.2.2.2.2.2.2.1
theorem dX11_unreadable_13 : decode cX11_unreadable 13 = .ok (.if_icmp .lt 10, 3) := dkg_X11_197.2.2.2.2.2.2.2.2.1
theorem dX11_unreadable_16 : decode cX11_unreadable 16 = .ok (.iload_n 3, 1) := dkg_X11_197.2.2.2.2.2.2.2.2.2.1
theorem dkg_X11_198 : dkp cX11_unreadable [(17, .sipush 5000, 3), (20, .if_icmp .le 10, 3), (23, .aload_n 0, 1), (24, .bipush 6, 2), (26, .invokevirtual 102, 3), (29, .ireturn, 1), (30, .aload_n 0, 1), (31, .getfield 30, 3), (34, .iload_n 1, 1), (35, .invokevirtual 231, 3)] := dkf (by decide +kernel)
theorem dX11_unreadable_17 : decode cX11_unreadable 17 = .ok (.sipush 5000, 3) := dkg_X11_198.1
theorem dX11_unreadable_20 : decode cX11_unreadable 20 = .ok (.if_icmp .le 10, 3) := dkg_X11_198.2.1
theorem dX11_unreadable_23 : decode cX11_unreadable 23 = .ok (.aload_n 0, 1) := dkg_X11_198.2.2.1
theorem dX11_unreadable_24 : decode cX11_unreadable 24 = .ok (.bipush 6, 2) := dkg_X11_198.2.2.2.1
theorem dX11_unreadable_26 : decode cX11_unreadable 26 = .ok (.invokevirtual 102, 3) := dkg_X11_198.2.2.2.2.1
theorem dX11_unreadable_29 : decode cX11_unreadable 29 = .ok (.ireturn, 1) := dkg_X11_198.2.2.2.2.2.1
theorem dX11_unreadable_30 : decode cX11_unreadable 30 = .ok (.aload_n 0, 1) := dkg_X11_198.2.2.2.2.2.2.1
theorem dX11_unreadable_31 : decode cX11_unreadable 31 = .ok (.getfield 30, 3) := dkg_X11_198.2.2.2.2.2.2.2.1
theorem dX11_unreadable_34 : decode cX11_unreadable 34 = .ok (.iload_n 1, 1) := dkg_X11_198.2.2.2.2.2.2.2.2.1
theorem dX11_unreadable_35 : decode cX11_unreadable 35 = .ok (.invokevirtual 231, 3) := dkg_X11_198.2.2.2.2.2.2.2.2.2.1
theorem dkg_X11_199 : dkp cX11_unreadable [(38, .astore 4, 2), (40, .aload 4, 2), (42, .ifnonnull 9, 3), (45, .aload_n 0, 1), (46, .iconst 3, 1), (47, .invokevirtual 102, 3), (50, .ireturn, 1), (51, .aload_n 0, 1), (52, .getfield 51, 3), (55, .aload 4, 2)] := dkf (by decide +kernel)
theorem dX11_unreadable_38 : decode cX11_unreadable 38 = .ok (.astore 4, 2) := dkg_X11_199.1
theorem dX11_unreadable_40 : decode cX11_unreadable 40 = .ok (.aload 4, 2) := dkg_X11_199.2.1
theorem dX11_unreadable_42 : decode cX11_unreadable 42 = .ok (.ifnonnull 9, 3) := dkg_X11_199.2.2.1
theorem dX11_unreadable_45 : decode cX11_unreadable 45 = .ok (.aload_n 0, 1) := dkg_X11_199.2.2.2.1
theorem dX11_unreadable_46 : decode cX11_unreadable 46 = .ok (.iconst 3, 1) := dkg_X11_199.2.2.2.2.1
theorem dX11_unreadable_47 : decode cX11_unreadable 47 = .ok (.invokevirtual 102, 3) := dkg_X11_199.2.2.2.2.2.1
theorem dX11_unreadable_50 : decode cX11_unreadable 50 = .ok (.ireturn, 1) := dkg_X11_199.2.2.2.2.2.2.1
theorem dX11_unreadable_51 : decode cX11_unreadable 51 = .ok (.aload_n 0, 1) := dkg_X11_199.2.2.2.2.2.2.2.1
theorem dX11_unreadable_52 : decode cX11_unreadable 52 = .ok (.getfield 51, 3) := dkg_X11_199.2.2.2.2.2.2.2.2.1
theorem dX11_unreadable_55 : decode cX11_unreadable 55 = .ok (.aload 4, 2) := dkg_X11_199.2.2.2.2.2.2.2.2.2.1
theorem dkg_X11_200 : dkp cX11_unreadable [(57, .invokevirtual 331, 3), (60, .aload_n 0, 1), (61, .getfield 37, 3), (64, .aload_n 0, 1), (65, .getfield 51, 3), (68, .aload 4, 2), (70, .getfield 135, 3), (73, .iconst 5, 1), (74, .if_icmp .ne 7, 3), (77, .iconst 1, 1)] := dkf (by decide +kernel)
theorem dX11_unreadable_57 : decode cX11_unreadable 57 = .ok (.invokevirtual 331, 3) := dkg_X11_200.1
theorem dX11_unreadable_60 : decode cX11_unreadable 60 = .ok (.aload_n 0, 1) := dkg_X11_200.2.1
theorem dX11_unreadable_61 : decode cX11_unreadable 61 = .ok (.getfield 37, 3) := dkg_X11_200.2.2.1
theorem dX11_unreadable_64 : decode cX11_unreadable 64 = .ok (.aload_n 0, 1) := dkg_X11_200.2.2.2.1
theorem dX11_unreadable_65 : decode cX11_unreadable 65 = .ok (.getfield 51, 3) := dkg_X11_200.2.2.2.2.1
theorem dX11_unreadable_68 : decode cX11_unreadable 68 = .ok (.aload 4, 2) := dkg_X11_200.2.2.2.2.2.1
theorem dX11_unreadable_70 : decode cX11_unreadable 70 = .ok (.getfield 135, 3) := dkg_X11_200.2.2.2.2.2.2.1
theorem dX11_unreadable_73 : decode cX11_unreadable 73 = .ok (.iconst 5, 1) := dkg_X11_200.2.2.2.2.2.2.2.1
theorem dX11_unreadable_74 : decode cX11_unreadable 74 = .ok (.if_icmp .ne 7, 3) := dkg_X11_200.2.2.2.2.2.2.2.2.1
theorem dX11_unreadable_77 : decode cX11_unreadable 77 = .ok (.iconst 1, 1) := dkg_X11_200.2.2.2.2.2.2.2.2.2.1
theorem dkg_X11_201 : dkp cX11_unreadable [(78, .goto 4, 3), (81, .iconst 0, 1), (82, .invokevirtual 385, 3), (85, .aload_n 0, 1), (86, .getfield 37, 3), (89, .iload_n 2, 1), (90, .invokevirtual 389, 3), (93, .istore 5, 2), (95, .iconst 0, 1), (96, .istore 6, 2)] := dkf (by decide +kernel)
theorem dX11_unreadable_78 : decode cX11_unreadable 78 = .ok (.goto 4, 3) := dkg_X11_201.1
theorem dX11_unreadable_81 : decode cX11_unreadable 81 = .ok (.iconst 0, 1) := dkg_X11_201.2.1
theorem dX11_unreadable_82 : decode cX11_unreadable 82 = .ok (.invokevirtual 385, 3) := dkg_X11_201.2.2.1
theorem dX11_unreadable_85 : decode cX11_unreadable 85 = .ok (.aload_n 0, 1) := dkg_X11_201.2.2.2.1
theorem dX11_unreadable_86 : decode cX11_unreadable 86 = .ok (.getfield 37, 3) := dkg_X11_201.2.2.2.2.1
theorem dX11_unreadable_89 : decode cX11_unreadable 89 = .ok (.iload_n 2, 1) := dkg_X11_201.2.2.2.2.2.1
theorem dX11_unreadable_90 : decode cX11_unreadable 90 = .ok (.invokevirtual 389, 3) := dkg_X11_201.2.2.2.2.2.2.1
theorem dX11_unreadable_93 : decode cX11_unreadable 93 = .ok (.istore 5, 2) := dkg_X11_201.2.2.2.2.2.2.2.1
theorem dX11_unreadable_95 : decode cX11_unreadable 95 = .ok (.iconst 0, 1) := dkg_X11_201.2.2.2.2.2.2.2.2.1
theorem dX11_unreadable_96 : decode cX11_unreadable 96 = .ok (.istore 6, 2) := dkg_X11_201.2.2.2.2.2.2.2.2.2.1
theorem dkg_X11_202 : dkp cX11_unreadable [(98, .iload 5, 2), (100, .ifCond .eq 100, 3), (103, .iload 6, 2), (105, .sipush 5000, 3), (108, .if_icmp .gt 92, 3), (111, .iload 6, 2), (113, .iload_n 3, 1), (114, .if_icmp .lt 10, 3), (117, .aload_n 0, 1), (118, .bipush 8, 2)] := dkf (by decide +kernel)
theorem dX11_unreadable_98 : decode cX11_unreadable 98 = .ok (.iload 5, 2) := dkg_X11_202.1
theorem dX11_unreadable_100 : decode cX11_unreadable 100 = .ok (.ifCond .eq 100, 3) := dkg_X11_202.2.1
theorem dX11_unreadable_103 : decode cX11_unreadable 103 = .ok (.iload 6, 2) := dkg_X11_202.2.2.1
theorem dX11_unreadable_105 : decode cX11_unreadable 105 = .ok (.sipush 5000, 3) := dkg_X11_202.2.2.2.1
theorem dX11_unreadable_108 : decode cX11_unreadable 108 = .ok (.if_icmp .gt 92, 3) := dkg_X11_202.2.2.2.2.1
theorem dX11_unreadable_111 : decode cX11_unreadable 111 = .ok (.iload 6, 2) := dkg_X11_202.2.2.2.2.2.1
theorem dX11_unreadable_113 : decode cX11_unreadable 113 = .ok (.iload_n 3, 1) := dkg_X11_202.2.2.2.2.2.2.1
theorem dX11_unreadable_114 : decode cX11_unreadable 114 = .ok (.if_icmp .lt 10, 3) := dkg_X11_202.2.2.2.2.2.2.2.1
theorem dX11_unreadable_117 : decode cX11_unreadable 117 = .ok (.aload_n 0, 1) := dkg_X11_202.2.2.2.2.2.2.2.2.1
theorem dX11_unreadable_118 : decode cX11_unreadable 118 = .ok (.bipush 8, 2) := dkg_X11_202.2.2.2.2.2.2.2.2.2.1
theorem dkg_X11_203 : dkp cX11_unreadable [(120, .invokevirtual 102, 3), (123, .ireturn, 1), (124, .aload_n 0, 1), (125, .getfield 37, 3), (128, .aload_n 0, 1), (129, .getfield 44, 3), (132, .invokevirtual 392, 3), (135, .aload_n 0, 1), (136, .getfield 44, 3), (139, .aload 4, 2)] := dkf (by decide +kernel)
theorem dX11_unreadable_120 : decode cX11_unreadable 120 = .ok (.invokevirtual 102, 3) := dkg_X11_203.1
theorem dX11_unreadable_123 : decode cX11_unreadable 123 = .ok (.ireturn, 1) := dkg_X11_203.2.1
theorem dX11_unreadable_124 : decode cX11_unreadable 124 = .ok (.aload_n 0, 1) := dkg_X11_203.2.2.1
theorem dX11_unreadable_125 : decode cX11_unreadable 125 = .ok (.getfield 37, 3) := dkg_X11_203.2.2.2.1
theorem dX11_unreadable_128 : decode cX11_unreadable 128 = .ok (.aload_n 0, 1) := dkg_X11_203.2.2.2.2.1
theorem dX11_unreadable_129 : decode cX11_unreadable 129 = .ok (.getfield 44, 3) := dkg_X11_203.2.2.2.2.2.1
theorem dX11_unreadable_132 : decode cX11_unreadable 132 = .ok (.invokevirtual 392, 3) := dkg_X11_203.2.2.2.2.2.2.1
theorem dX11_unreadable_135 : decode cX11_unreadable 135 = .ok (.aload_n 0, 1) := dkg_X11_203.2.2.2.2.2.2.2.1
theorem dX11_unreadable_136 : decode cX11_unreadable 136 = .ok (.getfield 44, 3) := dkg_X11_203.2.2.2.2.2.2.2.2.1
theorem dX11_unreadable_139 : decode cX11_unreadable 139 = .ok (.aload 4, 2) := dkg_X11_203.2.2.2.2.2.2.2.2.2.1
theorem dkg_X11_204 : dkp cX11_unreadable [(141, .invokevirtual 253, 3), (144, .ifCond .ne 40, 3), (147, .aload_n 0, 1), (148, .invokevirtual 396, 3), (151, .ifCond .ne 33, 3), (154, .aload_n 0, 1), (155, .getfield 21, 3), (158, .invokevirtual 164, 3), (161, .aload_n 0, 1), (162, .getfield 44, 3)] := dkf (by decide +kernel)
theorem dX11_unreadable_141 : decode cX11_unreadable 141 = .ok (.invokevirtual 253, 3) := dkg_X11_204.1
theorem dX11_unreadable_144 : decode cX11_unreadable 144 = .ok (.ifCond .ne 40, 3) := dkg_X11_204.2.1
theorem dX11_unreadable_147 : decode cX11_unreadable 147 = .ok (.aload_n 0, 1) := dkg_X11_204.2.2.1
theorem dX11_unreadable_148 : decode cX11_unreadable 148 = .ok (.invokevirtual 396, 3) := dkg_X11_204.2.2.2.1
theorem dX11_unreadable_151 : decode cX11_unreadable 151 = .ok (.ifCond .ne 33, 3) := dkg_X11_204.2.2.2.2.1
theorem dX11_unreadable_154 : decode cX11_unreadable 154 = .ok (.aload_n 0, 1) := dkg_X11_204.2.2.2.2.2.1
theorem dX11_unreadable_155 : decode cX11_unreadable 155 = .ok (.getfield 21, 3) := dkg_X11_204.2.2.2.2.2.2.1
theorem dX11_unreadable_158 : decode cX11_unreadable 158 = .ok (.invokevirtual 164, 3) := dkg_X11_204.2.2.2.2.2.2.2.1
theorem dX11_unreadable_161 : decode cX11_unreadable 161 = .ok (.aload_n 0, 1) := dkg_X11_204.2.2.2.2.2.2.2.2.1
theorem dX11_unreadable_162 : decode cX11_unreadable 162 = .ok (.getfield 44, 3) := dkg_X11_204.2.2.2.2.2.2.2.2.2.1
theorem dkg_X11_205 : dkp cX11_unreadable [(165, .aload_n 0, 1), (166, .getfield 21, 3), (169, .invokevirtual 399, 3), (172, .aload_n 0, 1), (173, .aload_n 0, 1), (174, .getfield 44, 3), (177, .getfield 402, 3), (180, .invokevirtual 109, 3), (183, .ireturn, 1), (184, .aload_n 0, 1)] := dkf (by decide +kernel)
theorem dX11_unreadable_165 : decode cX11_unreadable 165 = .ok (.aload_n 0, 1) := dkg_X11_205.1
theorem dX11_unreadable_166 : decode cX11_unreadable 166 = .ok (.getfield 21, 3) := dkg_X11_205.2.1
theorem dX11_unreadable_169 : decode cX11_unreadable 169 = .ok (.invokevirtual 399, 3) := dkg_X11_205.2.2.1
theorem dX11_unreadable_172 : decode cX11_unreadable 172 = .ok (.aload_n 0, 1) := dkg_X11_205.2.2.2.1
theorem dX11_unreadable_173 : decode cX11_unreadable 173 = .ok (.aload_n 0, 1) := dkg_X11_205.2.2.2.2.1
theorem dX11_unreadable_174 : decode cX11_unreadable 174 = .ok (.getfield 44, 3) := dkg_X11_205.2.2.2.2.2.1
theorem dX11_unreadable_177 : decode cX11_unreadable 177 = .ok (.getfield 402, 3) := dkg_X11_205.2.2.2.2.2.2.1
theorem dX11_unreadable_180 : decode cX11_unreadable 180 = .ok (.invokevirtual 109, 3) := dkg_X11_205.2.2.2.2.2.2.2.1
theorem dX11_unreadable_183 : decode cX11_unreadable 183 = .ok (.ireturn, 1) := dkg_X11_205.2.2.2.2.2.2.2.2.1
theorem dX11_unreadable_184 : decode cX11_unreadable 184 = .ok (.aload_n 0, 1) := dkg_X11_205.2.2.2.2.2.2.2.2.2.1
theorem dkg_X11_206 : dkp cX11_unreadable [(185, .getfield 37, 3), (188, .iload_n 2, 1), (189, .invokevirtual 403, 3), (192, .istore 5, 2), (194, .iinc 6 1, 3), (197, .goto (-99), 3), (200, .aload_n 0, 1), (201, .iconst 0, 1), (202, .invokevirtual 109, 3), (205, .ireturn, 1)] := dkf (by decide +kernel)
theorem dX11_unreadable_185 : decode cX11_unreadable 185 = .ok (.getfield 37, 3) := dkg_X11_206.1
theorem dX11_unreadable_188 : decode cX11_unreadable 188 = .ok (.iload_n 2, 1) := dkg_X11_206.2.1
theorem dX11_unreadable_189 : decode cX11_unreadable 189 = .ok (.invokevirtual 403, 3) := dkg_X11_206.2.2.1
theorem dX11_unreadable_192 : decode cX11_unreadable 192 = .ok (.istore 5, 2) := dkg_X11_206.2.2.2.1
theorem dX11_unreadable_194 : decode cX11_unreadable 194 = .ok (.iinc 6 1, 3) := dkg_X11_206.2.2.2.2.1
theorem dX11_unreadable_197 : decode cX11_unreadable 197 = .ok (.goto (-99), 3) := dkg_X11_206.2.2.2.2.2.1
theorem dX11_unreadable_200 : decode cX11_unreadable 200 = .ok (.aload_n 0, 1) := dkg_X11_206.2.2.2.2.2.2.1
theorem dX11_unreadable_201 : decode cX11_unreadable 201 = .ok (.iconst 0, 1) := dkg_X11_206.2.2.2.2.2.2.2.1
theorem dX11_unreadable_202 : decode cX11_unreadable 202 = .ok (.invokevirtual 109, 3) := dkg_X11_206.2.2.2.2.2.2.2.2.1
theorem dX11_unreadable_205 : decode cX11_unreadable 205 = .ok (.ireturn, 1) := dkg_X11_206.2.2.2.2.2.2.2.2.2.1
theorem dkg_X11_207 : dkp cX11_isReadBack [(0, .aload_n 0, 1), (1, .getfield 51, 3), (4, .invokevirtual 344, 3), (7, .iconst 0, 1), (8, .istore_n 1, 1), (9, .iload_n 1, 1), (10, .aload_n 0, 1), (11, .getfield 44, 3), (14, .getfield 277, 3), (17, .if_icmp .ge 26, 3)] := dkf (by decide +kernel)
theorem dX11_isReadBack_0 : decode cX11_isReadBack 0 = .ok (.aload_n 0, 1) := dkg_X11_207.1
theorem dX11_isReadBack_1 : decode cX11_isReadBack 1 = .ok (.getfield 51, 3) := dkg_X11_207.2.1
theorem dX11_isReadBack_4 : decode cX11_isReadBack 4 = .ok (.invokevirtual 344, 3) := dkg_X11_207.2.2.1
theorem dX11_isReadBack_7 : decode cX11_isReadBack 7 = .ok (.iconst 0, 1) := dkg_X11_207.2.2.2.1
theorem dX11_isReadBack_8 : decode cX11_isReadBack 8 = .ok (.istore_n 1, 1) := dkg_X11_207.2.2.2.2.1
theorem dX11_isReadBack_9 : decode cX11_isReadBack 9 = .ok (.iload_n 1, 1) := dkg_X11_207.2.2.2.2.2.1
theorem dX11_isReadBack_10 : decode cX11_isReadBack 10 = .ok (.aload_n 0, 1) := dkg_X11_207.2.2.2.2.2.2.1
theorem dX11_isReadBack_11 : decode cX11_isReadBack 11 = .ok (.getfield 44, 3) := dkg_X11_207.2.2.2.2.2.2.2.1
theorem dX11_isReadBack_14 : decode cX11_isReadBack 14 = .ok (.getfield 277, 3) := dkg_X11_207.2.2.2.2.2.2.2.2.1
theorem dX11_isReadBack_17 : decode cX11_isReadBack 17 = .ok (.if_icmp .ge 26, 3) := dkg_X11_207.2.2.2.2.2.2.2.2.2.1
theorem dkg_X11_208 : dkp cX11_isReadBack [(20, .aload_n 0, 1), (21, .getfield 51, 3), (24, .aload_n 0, 1), (25, .getfield 44, 3), (28, .getfield 278, 3), (31, .iload_n 1, 1), (32, .iaload, 1), (33, .iload_n 1, 1), (34, .invokevirtual 406, 3), (37, .iinc 1 1, 3)] := dkf (by decide +kernel)
theorem dX11_isReadBack_20 : decode cX11_isReadBack 20 = .ok (.aload_n 0, 1) := dkg_X11_208.1
theorem dX11_isReadBack_21 : decode cX11_isReadBack 21 = .ok (.getfield 51, 3) := dkg_X11_208.2.1
theorem dX11_isReadBack_24 : decode cX11_isReadBack 24 = .ok (.aload_n 0, 1) := dkg_X11_208.2.2.1
theorem dX11_isReadBack_25 : decode cX11_isReadBack 25 = .ok (.getfield 44, 3) := dkg_X11_208.2.2.2.1
theorem dX11_isReadBack_28 : decode cX11_isReadBack 28 = .ok (.getfield 278, 3) := dkg_X11_208.2.2.2.2.1
theorem dX11_isReadBack_31 : decode cX11_isReadBack 31 = .ok (.iload_n 1, 1) := dkg_X11_208.2.2.2.2.2.1
theorem dX11_isReadBack_32 : decode cX11_isReadBack 32 = .ok (.iaload, 1) := dkg_X11_208.2.2.2.2.2.2.1
theorem dX11_isReadBack_33 : decode cX11_isReadBack 33 = .ok (.iload_n 1, 1) := dkg_X11_208.2.2.2.2.2.2.2.1
theorem dX11_isReadBack_34 : decode cX11_isReadBack 34 = .ok (.invokevirtual 406, 3) := dkg_X11_208.2.2.2.2.2.2.2.2.1
theorem dX11_isReadBack_37 : decode cX11_isReadBack 37 = .ok (.iinc 1 1, 3) := dkg_X11_208.2.2.2.2.2.2.2.2.2.1
theorem dkg_X11_209 : dkp cX11_isReadBack [(40, .goto (-31), 3), (43, .aload_n 0, 1), (44, .getfield 51, 3), (47, .invokevirtual 335, 3), (50, .ifCond .eq 24, 3), (53, .aload_n 0, 1), (54, .getfield 44, 3), (57, .aload_n 0, 1), (58, .getfield 51, 3), (61, .getfield 341, 3)] := dkf (by decide +kernel)
theorem dX11_isReadBack_40 : decode cX11_isReadBack 40 = .ok (.goto (-31), 3) := dkg_X11_209.1
theorem dX11_isReadBack_43 : decode cX11_isReadBack 43 = .ok (.aload_n 0, 1) := dkg_X11_209.2.1
theorem dX11_isReadBack_44 : decode cX11_isReadBack 44 = .ok (.getfield 51, 3) := dkg_X11_209.2.2.1
theorem dX11_isReadBack_47 : decode cX11_isReadBack 47 = .ok (.invokevirtual 335, 3) := dkg_X11_209.2.2.2.1
theorem dX11_isReadBack_50 : decode cX11_isReadBack 50 = .ok (.ifCond .eq 24, 3) := dkg_X11_209.2.2.2.2.1
theorem dX11_isReadBack_53 : decode cX11_isReadBack 53 = .ok (.aload_n 0, 1) := dkg_X11_209.2.2.2.2.2.1
theorem dX11_isReadBack_54 : decode cX11_isReadBack 54 = .ok (.getfield 44, 3) := dkg_X11_209.2.2.2.2.2.2.1
theorem dX11_isReadBack_57 : decode cX11_isReadBack 57 = .ok (.aload_n 0, 1) := dkg_X11_209.2.2.2.2.2.2.2.1
theorem dX11_isReadBack_58 : decode cX11_isReadBack 58 = .ok (.getfield 51, 3) := dkg_X11_209.2.2.2.2.2.2.2.2.1
theorem dX11_isReadBack_61 : decode cX11_isReadBack 61 = .ok (.getfield 341, 3) := dkg_X11_209.2.2.2.2.2.2.2.2.2.1
theorem dkg_X11_210 : dkp cX11_isReadBack [(64, .invokevirtual 409, 3), (67, .ifCond .eq 7, 3), (70, .iconst 1, 1), (71, .goto 4, 3), (74, .iconst 0, 1), (75, .ireturn, 1)] := dkf (by decide +kernel)
theorem dX11_isReadBack_64 : decode cX11_isReadBack 64 = .ok (.invokevirtual 409, 3) := dkg_X11_210.1
theorem dX11_isReadBack_67 : decode cX11_isReadBack 67 = .ok (.ifCond .eq 7, 3) := dkg_X11_210.2.1
theorem dX11_isReadBack_70 : decode cX11_isReadBack 70 = .ok (.iconst 1, 1) := dkg_X11_210.2.2.1
theorem dX11_isReadBack_71 : decode cX11_isReadBack 71 = .ok (.goto 4, 3) := dkg_X11_210.2.2.2.1
theorem dX11_isReadBack_74 : decode cX11_isReadBack 74 = .ok (.iconst 0, 1) := dkg_X11_210.2.2.2.2.1
theorem dX11_isReadBack_75 : decode cX11_isReadBack 75 = .ok (.ireturn, 1) := dkg_X11_210.2.2.2.2.2.1
theorem dkg_X11_211 : dkp cX11_saved [(0, .aload_n 0, 1), (1, .getfield 30, 3), (4, .iload_n 1, 1), (5, .invokevirtual 231, 3), (8, .astore_n 3, 1), (9, .aload_n 0, 1), (10, .getfield 30, 3), (13, .iload_n 2, 1), (14, .invokevirtual 231, 3), (17, .astore 4, 2)] := dkf (by decide +kernel)
theorem dX11_saved_0 : decode cX11_saved 0 = .ok (.aload_n 0, 1) := dkg_X11_211.1
theorem dX11_saved_1 : decode cX11_saved 1 = .ok (.getfield 30, 3) := dkg_X11_211.2.1
theorem dX11_saved_4 : decode cX11_saved 4 = .ok (.iload_n 1, 1) := dkg_X11_211.2.2.1
theorem dX11_saved_5 : decode cX11_saved 5 = .ok (.invokevirtual 231, 3) := dkg_X11_211.2.2.2.1
theorem dX11_saved_8 : decode cX11_saved 8 = .ok (.astore_n 3, 1) := dkg_X11_211.2.2.2.2.1
theorem dX11_saved_9 : decode cX11_saved 9 = .ok (.aload_n 0, 1) := dkg_X11_211.2.2.2.2.2.1
theorem dX11_saved_10 : decode cX11_saved 10 = .ok (.getfield 30, 3) := dkg_X11_211.2.2.2.2.2.2.1
theorem dX11_saved_13 : decode cX11_saved 13 = .ok (.iload_n 2, 1) := dkg_X11_211.2.2.2.2.2.2.2.1
theorem dX11_saved_14 : decode cX11_saved 14 = .ok (.invokevirtual 231, 3) := dkg_X11_211.2.2.2.2.2.2.2.2.1
theorem dX11_saved_17 : decode cX11_saved 17 = .ok (.astore 4, 2) := dkg_X11_211.2.2.2.2.2.2.2.2.2.1
theorem dkg_X11_212 : dkp cX11_saved [(19, .aload_n 3, 1), (20, .ifnull 8, 3), (23, .aload 4, 2), (25, .ifnonnull 9, 3), (28, .aload_n 0, 1), (29, .iconst 3, 1), (30, .invokevirtual 102, 3), (33, .ireturn, 1), (34, .iconst 0, 1), (35, .istore 5, 2)] := dkf (by decide +kernel)
theorem dX11_saved_19 : decode cX11_saved 19 = .ok (.aload_n 3, 1) := dkg_X11_212.1
theorem dX11_saved_20 : decode cX11_saved 20 = .ok (.ifnull 8, 3) := dkg_X11_212.2.1
theorem dX11_saved_23 : decode cX11_saved 23 = .ok (.aload 4, 2) := dkg_X11_212.2.2.1
theorem dX11_saved_25 : decode cX11_saved 25 = .ok (.ifnonnull 9, 3) := dkg_X11_212.2.2.2.1
theorem dX11_saved_28 : decode cX11_saved 28 = .ok (.aload_n 0, 1) := dkg_X11_212.2.2.2.2.1
theorem dX11_saved_29 : decode cX11_saved 29 = .ok (.iconst 3, 1) := dkg_X11_212.2.2.2.2.2.1
theorem dX11_saved_30 : decode cX11_saved 30 = .ok (.invokevirtual 102, 3) := dkg_X11_212.2.2.2.2.2.2.1
theorem dX11_saved_33 : decode cX11_saved 33 = .ok (.ireturn, 1) := dkg_X11_212.2.2.2.2.2.2.2.1
theorem dX11_saved_34 : decode cX11_saved 34 = .ok (.iconst 0, 1) := dkg_X11_212.2.2.2.2.2.2.2.2.1
theorem dX11_saved_35 : decode cX11_saved 35 = .ok (.istore 5, 2) := dkg_X11_212.2.2.2.2.2.2.2.2.2.1
theorem dkg_X11_213 : dkp cX11_saved [(37, .iconst 0, 1), (38, .istore 6, 2), (40, .iconst 0, 1), (41, .istore 7, 2), (43, .iload 6, 2), (45, .ifCond .ne 141, 3), (48, .iload 7, 2), (50, .iconst 2, 1), (51, .if_icmp .ge 135, 3), (54, .aload_n 0, 1)] := dkf (by decide +kernel)
theorem dX11_saved_37 : decode cX11_saved 37 = .ok (.iconst 0, 1) := dkg_X11_213.1
theorem dX11_saved_38 : decode cX11_saved 38 = .ok (.istore 6, 2) := dkg_X11_213.2.1
theorem dX11_saved_40 : decode cX11_saved 40 = .ok (.iconst 0, 1) := dkg_X11_213.2.2.1
theorem dX11_saved_41 : decode cX11_saved 41 = .ok (.istore 7, 2) := dkg_X11_213.2.2.2.1
theorem dX11_saved_43 : decode cX11_saved 43 = .ok (.iload 6, 2) := dkg_X11_213.2.2.2.2.1
theorem dX11_saved_45 : decode cX11_saved 45 = .ok (.ifCond .ne 141, 3) := dkg_X11_213.2.2.2.2.2.1
theorem dX11_saved_48 : decode cX11_saved 48 = .ok (.iload 7, 2) := dkg_X11_213.2.2.2.2.2.2.1
theorem dX11_saved_50 : decode cX11_saved 50 = .ok (.iconst 2, 1) := dkg_X11_213.2.2.2.2.2.2.2.1
theorem dX11_saved_51 : decode cX11_saved 51 = .ok (.if_icmp .ge 135, 3) := dkg_X11_213.2.2.2.2.2.2.2.2.1
theorem dX11_saved_54 : decode cX11_saved 54 = .ok (.aload_n 0, 1) := dkg_X11_213.2.2.2.2.2.2.2.2.2.1
theorem dkg_X11_214 : dkp cX11_saved [(55, .getfield 37, 3), (58, .invokevirtual 235, 3), (61, .aload_n 0, 1), (62, .getfield 37, 3), (65, .aload_n 0, 1), (66, .getfield 18, 3), (69, .aload_n 0, 1), (70, .getfield 44, 3), (73, .invokevirtual 238, 3), (76, .istore 8, 2)] := dkf (by decide +kernel)
theorem dX11_saved_55 : decode cX11_saved 55 = .ok (.getfield 37, 3) := dkg_X11_214.1
theorem dX11_saved_58 : decode cX11_saved 58 = .ok (.invokevirtual 235, 3) := dkg_X11_214.2.1
theorem dX11_saved_61 : decode cX11_saved 61 = .ok (.aload_n 0, 1) := dkg_X11_214.2.2.1
theorem dX11_saved_62 : decode cX11_saved 62 = .ok (.getfield 37, 3) := dkg_X11_214.2.2.2.1
theorem dX11_saved_65 : decode cX11_saved 65 = .ok (.aload_n 0, 1) := dkg_X11_214.2.2.2.2.1
theorem dX11_saved_66 : decode cX11_saved 66 = .ok (.getfield 18, 3) := dkg_X11_214.2.2.2.2.2.1
theorem dX11_saved_69 : decode cX11_saved 69 = .ok (.aload_n 0, 1) := dkg_X11_214.2.2.2.2.2.2.1
theorem dX11_saved_70 : decode cX11_saved 70 = .ok (.getfield 44, 3) := dkg_X11_214.2.2.2.2.2.2.2.1
theorem dX11_saved_73 : decode cX11_saved 73 = .ok (.invokevirtual 238, 3) := dkg_X11_214.2.2.2.2.2.2.2.2.1
theorem dX11_saved_76 : decode cX11_saved 76 = .ok (.istore 8, 2) := dkg_X11_214.2.2.2.2.2.2.2.2.2.1
theorem dkg_X11_215 : dkp cX11_saved [(78, .iconst 0, 1), (79, .istore 9, 2), (81, .iload 6, 2), (83, .ifCond .ne 97, 3), (86, .iload 8, 2), (88, .ifCond .eq 92, 3), (91, .iload 9, 2), (93, .ldc 242, 2), (95, .if_icmp .ge 85, 3), (98, .iload 8, 2)] := dkf (by decide +kernel)
theorem dX11_saved_78 : decode cX11_saved 78 = .ok (.iconst 0, 1) := dkg_X11_215.1
theorem dX11_saved_79 : decode cX11_saved 79 = .ok (.istore 9, 2) := dkg_X11_215.2.1
theorem dX11_saved_81 : decode cX11_saved 81 = .ok (.iload 6, 2) := dkg_X11_215.2.2.1
theorem dX11_saved_83 : decode cX11_saved 83 = .ok (.ifCond .ne 97, 3) := dkg_X11_215.2.2.2.1
theorem dX11_saved_86 : decode cX11_saved 86 = .ok (.iload 8, 2) := dkg_X11_215.2.2.2.2.1
theorem dX11_saved_88 : decode cX11_saved 88 = .ok (.ifCond .eq 92, 3) := dkg_X11_215.2.2.2.2.2.1
theorem dX11_saved_91 : decode cX11_saved 91 = .ok (.iload 9, 2) := dkg_X11_215.2.2.2.2.2.2.1
theorem dX11_saved_93 : decode cX11_saved 93 = .ok (.ldc 242, 2) := dkg_X11_215.2.2.2.2.2.2.2.1
theorem dX11_saved_95 : decode cX11_saved 95 = .ok (.if_icmp .ge 85, 3) := dkg_X11_215.2.2.2.2.2.2.2.2.1
theorem dX11_saved_98 : decode cX11_saved 98 = .ok (.iload 8, 2) := dkg_X11_215.2.2.2.2.2.2.2.2.2.1
theorem dkg_X11_216 : dkp cX11_saved [(100, .iconst 2, 1), (101, .if_icmp .ne 51, 3), (104, .aload_n 0, 1), (105, .getfield 44, 3), (108, .iload 7, 2), (110, .ifCond .ne 7, 3), (113, .aload_n 3, 1), (114, .goto 5, 3), (117, .aload 4, 2), (119, .invokevirtual 253, 3)] := dkf (by decide +kernel)
theorem dX11_saved_100 : decode cX11_saved 100 = .ok (.iconst 2, 1) := dkg_X11_216.1
theorem dX11_saved_101 : decode cX11_saved 101 = .ok (.if_icmp .ne 51, 3) := dkg_X11_216.2.1
theorem dX11_saved_104 : decode cX11_saved 104 = .ok (.aload_n 0, 1) := dkg_X11_216.2.2.1
theorem dX11_saved_105 : decode cX11_saved 105 = .ok (.getfield 44, 3) := dkg_X11_216.2.2.2.1
theorem dX11_saved_108 : decode cX11_saved 108 = .ok (.iload 7, 2) := dkg_X11_216.2.2.2.2.1
theorem dX11_saved_110 : decode cX11_saved 110 = .ok (.ifCond .ne 7, 3) := dkg_X11_216.2.2.2.2.2.1
theorem dX11_saved_113 : decode cX11_saved 113 = .ok (.aload_n 3, 1) := dkg_X11_216.2.2.2.2.2.2.1
theorem dX11_saved_114 : decode cX11_saved 114 = .ok (.goto 5, 3) := dkg_X11_216.2.2.2.2.2.2.2.1
theorem dX11_saved_117 : decode cX11_saved 117 = .ok (.aload 4, 2) := dkg_X11_216.2.2.2.2.2.2.2.2.1
theorem dX11_saved_119 : decode cX11_saved 119 = .ok (.invokevirtual 253, 3) := dkg_X11_216.2.2.2.2.2.2.2.2.2.1
theorem dkg_X11_217 : dkp cX11_saved [(122, .istore 6, 2), (124, .iload 5, 2), (126, .iload 7, 2), (128, .ifCond .ne 13, 3), (131, .aload_n 0, 1), (132, .getfield 44, 3), (135, .getfield 277, 3), (138, .goto 11, 3), (141, .aload_n 0, 1), (142, .getfield 44, 3)] := dkf (by decide +kernel)
theorem dX11_saved_122 : decode cX11_saved 122 = .ok (.istore 6, 2) := dkg_X11_217.1
theorem dX11_saved_124 : decode cX11_saved 124 = .ok (.iload 5, 2) := dkg_X11_217.2.1
theorem dX11_saved_126 : decode cX11_saved 126 = .ok (.iload 7, 2) := dkg_X11_217.2.2.1
theorem dX11_saved_128 : decode cX11_saved 128 = .ok (.ifCond .ne 13, 3) := dkg_X11_217.2.2.2.1
theorem dX11_saved_131 : decode cX11_saved 131 = .ok (.aload_n 0, 1) := dkg_X11_217.2.2.2.2.1
theorem dX11_saved_132 : decode cX11_saved 132 = .ok (.getfield 44, 3) := dkg_X11_217.2.2.2.2.2.1
theorem dX11_saved_135 : decode cX11_saved 135 = .ok (.getfield 277, 3) := dkg_X11_217.2.2.2.2.2.2.1
theorem dX11_saved_138 : decode cX11_saved 138 = .ok (.goto 11, 3) := dkg_X11_217.2.2.2.2.2.2.2.1
theorem dX11_saved_141 : decode cX11_saved 141 = .ok (.aload_n 0, 1) := dkg_X11_217.2.2.2.2.2.2.2.2.1
theorem dX11_saved_142 : decode cX11_saved 142 = .ok (.getfield 44, 3) := dkg_X11_217.2.2.2.2.2.2.2.2.2.1
theorem dkg_X11_218 : dkp cX11_saved [(145, .getfield 277, 3), (148, .ineg, 1), (149, .iadd, 1), (150, .istore 5, 2), (152, .iload 6, 2), (154, .ifCond .ne 20, 3), (157, .aload_n 0, 1), (158, .getfield 37, 3), (161, .aload_n 0, 1), (162, .getfield 18, 3)] := dkf (by decide +kernel)
theorem dX11_saved_145 : decode cX11_saved 145 = .ok (.getfield 277, 3) := dkg_X11_218.1
theorem dX11_saved_148 : decode cX11_saved 148 = .ok (.ineg, 1) := dkg_X11_218.2.1
theorem dX11_saved_149 : decode cX11_saved 149 = .ok (.iadd, 1) := dkg_X11_218.2.2.1
theorem dX11_saved_150 : decode cX11_saved 150 = .ok (.istore 5, 2) := dkg_X11_218.2.2.2.1
theorem dX11_saved_152 : decode cX11_saved 152 = .ok (.iload 6, 2) := dkg_X11_218.2.2.2.2.1
theorem dX11_saved_154 : decode cX11_saved 154 = .ok (.ifCond .ne 20, 3) := dkg_X11_218.2.2.2.2.2.1
theorem dX11_saved_157 : decode cX11_saved 157 = .ok (.aload_n 0, 1) := dkg_X11_218.2.2.2.2.2.2.1
theorem dX11_saved_158 : decode cX11_saved 158 = .ok (.getfield 37, 3) := dkg_X11_218.2.2.2.2.2.2.2.1
theorem dX11_saved_161 : decode cX11_saved 161 = .ok (.aload_n 0, 1) := dkg_X11_218.2.2.2.2.2.2.2.2.1
theorem dX11_saved_162 : decode cX11_saved 162 = .ok (.getfield 18, 3) := dkg_X11_218.2.2.2.2.2.2.2.2.2.1
theorem dkg_X11_219 : dkp cX11_saved [(165, .aload_n 0, 1), (166, .getfield 44, 3), (169, .invokevirtual 238, 3), (172, .istore 8, 2), (174, .iinc 9 1, 3), (177, .goto (-96), 3), (180, .iinc 7 1, 3), (183, .goto (-140), 3), (186, .iload 6, 2), (188, .ifCond .eq 19, 3)] := dkf (by decide +kernel)
theorem dX11_saved_165 : decode cX11_saved 165 = .ok (.aload_n 0, 1) := dkg_X11_219.1
theorem dX11_saved_166 : decode cX11_saved 166 = .ok (.getfield 44, 3) := dkg_X11_219.2.1
theorem dX11_saved_169 : decode cX11_saved 169 = .ok (.invokevirtual 238, 3) := dkg_X11_219.2.2.1
theorem dX11_saved_172 : decode cX11_saved 172 = .ok (.istore 8, 2) := dkg_X11_219.2.2.2.1
theorem dX11_saved_174 : decode cX11_saved 174 = .ok (.iinc 9 1, 3) := dkg_X11_219.2.2.2.2.1
theorem dX11_saved_177 : decode cX11_saved 177 = .ok (.goto (-96), 3) := dkg_X11_219.2.2.2.2.2.1
theorem dX11_saved_180 : decode cX11_saved 180 = .ok (.iinc 7 1, 3) := dkg_X11_219.2.2.2.2.2.2.1
theorem dX11_saved_183 : decode cX11_saved 183 = .ok (.goto (-140), 3) := dkg_X11_219.2.2.2.2.2.2.2.1
theorem dX11_saved_186 : decode cX11_saved 186 = .ok (.iload 6, 2) := dkg_X11_219.2.2.2.2.2.2.2.2.1
theorem dX11_saved_188 : decode cX11_saved 188 = .ok (.ifCond .eq 19, 3) := dkg_X11_219.2.2.2.2.2.2.2.2.2.1
theorem dkg_X11_220 : dkp cX11_saved [(191, .aload_n 0, 1), (192, .iload 6, 2), (194, .aload_n 0, 1), (195, .getfield 44, 3), (198, .invokevirtual 263, 3), (201, .invokevirtual 266, 3), (204, .pop, 1), (205, .iconst 0, 1), (206, .ireturn, 1), (207, .aload_n 0, 1)] := dkf (by decide +kernel)
theorem dX11_saved_191 : decode cX11_saved 191 = .ok (.aload_n 0, 1) := dkg_X11_220.1
theorem dX11_saved_192 : decode cX11_saved 192 = .ok (.iload 6, 2) := dkg_X11_220.2.1
theorem dX11_saved_194 : decode cX11_saved 194 = .ok (.aload_n 0, 1) := dkg_X11_220.2.2.1
theorem dX11_saved_195 : decode cX11_saved 195 = .ok (.getfield 44, 3) := dkg_X11_220.2.2.2.1
theorem dX11_saved_198 : decode cX11_saved 198 = .ok (.invokevirtual 263, 3) := dkg_X11_220.2.2.2.2.1
theorem dX11_saved_201 : decode cX11_saved 201 = .ok (.invokevirtual 266, 3) := dkg_X11_220.2.2.2.2.2.1
theorem dX11_saved_204 : decode cX11_saved 204 = .ok (.pop, 1) := dkg_X11_220.2.2.2.2.2.2.1
theorem dX11_saved_205 : decode cX11_saved 205 = .ok (.iconst 0, 1) := dkg_X11_220.2.2.2.2.2.2.2.1
theorem dX11_saved_206 : decode cX11_saved 206 = .ok (.ireturn, 1) := dkg_X11_220.2.2.2.2.2.2.2.2.1
theorem dX11_saved_207 : decode cX11_saved 207 = .ok (.aload_n 0, 1) := dkg_X11_220.2.2.2.2.2.2.2.2.2.1
theorem dkg_X11_221 : dkp cX11_saved [(208, .iload 5, 2), (210, .invokevirtual 109, 3), (213, .ireturn, 1)] := dkf (by decide +kernel)
theorem dX11_saved_208 : decode cX11_saved 208 = .ok (.iload 5, 2) := dkg_X11_221.1
theorem dX11_saved_210 : decode cX11_saved 210 = .ok (.invokevirtual 109, 3) := dkg_X11_221.2.1
theorem dX11_saved_213 : decode cX11_saved 213 = .ok (.ireturn, 1) := dkg_X11_221.2.2.1
theorem dkg_X11_222 : dkp cX11_place [(0, .aload_n 0, 1), (1, .getfield 96, 3), (4, .ireturn, 1)] := dkf (by decide +kernel)
theorem dX11_place_0 : decode cX11_place 0 = .ok (.aload_n 0, 1) := dkg_X11_222.1
theorem dX11_place_1 : decode cX11_place 1 = .ok (.getfield 96, 3) := dkg_X11_222.2.1
theorem dX11_place_4 : decode cX11_place 4 = .ok (.ireturn, 1) := dkg_X11_222.2.2.1
theorem dkg_X11_223 : dkp cX11_finds [(0, .aload_n 0, 1), (1, .getfield 44, 3), (4, .iload_n 1, 1), (5, .invokevirtual 413, 3), (8, .ireturn, 1)] := dkf (by decide +kernel)
theorem dX11_finds_0 : decode cX11_finds 0 = .ok (.aload_n 0, 1) := dkg_X11_223.1
theorem dX11_finds_1 : decode cX11_finds 1 = .ok (.getfield 44, 3) := dkg_X11_223.2.1
theorem dX11_finds_4 : decode cX11_finds 4 = .ok (.iload_n 1, 1) := dkg_X11_223.2.2.1
theorem dX11_finds_5 : decode cX11_finds 5 = .ok (.invokevirtual 413, 3) := dkg_X11_223.2.2.2.1
theorem dX11_finds_8 : decode cX11_finds 8 = .ok (.ireturn, 1) := dkg_X11_223.2.2.2.2.1
theorem dkg_X11_224 : dkp cX11_status [(0, .aload_n 0, 1), (1, .getfield 93, 3), (4, .ireturn, 1)] := dkf (by decide +kernel)
theorem dX11_status_0 : decode cX11_status 0 = .ok (.aload_n 0, 1) := dkg_X11_224.1
theorem dX11_status_1 : decode cX11_status 1 = .ok (.getfield 93, 3) := dkg_X11_224.2.1
theorem dX11_status_4 : decode cX11_status 4 = .ok (.ireturn, 1) := dkg_X11_224.2.2.1
theorem dkg_X11_225 : dkp cX11_digest [(0, .aload_n 0, 1), (1, .getfield 67, 3), (4, .sipush 527, 3), (7, .aload_n 0, 1), (8, .getfield 67, 3), (11, .getfield 269, 3), (14, .iadd, 1), (15, .invokevirtual 416, 3), (18, .istore_n 1, 1), (19, .iload_n 1, 1)] := dkf (by decide +kernel)
theorem dX11_digest_0 : decode cX11_digest 0 = .ok (.aload_n 0, 1) := dkg_X11_225.1
theorem dX11_digest_1 : decode cX11_digest 1 = .ok (.getfield 67, 3) := dkg_X11_225.2.1
theorem dX11_digest_4 : decode cX11_digest 4 = .ok (.sipush 527, 3) := dkg_X11_225.2.2.1
theorem dX11_digest_7 : decode cX11_digest 7 = .ok (.aload_n 0, 1) := dkg_X11_225.2.2.2.1
theorem dX11_digest_8 : decode cX11_digest 8 = .ok (.getfield 67, 3) := dkg_X11_225.2.2.2.2.1
theorem dX11_digest_11 : decode cX11_digest 11 = .ok (.getfield 269, 3) := dkg_X11_225.2.2.2.2.2.1
theorem dX11_digest_14 : decode cX11_digest 14 = .ok (.iadd, 1) := dkg_X11_225.2.2.2.2.2.2.1
theorem dX11_digest_15 : decode cX11_digest 15 = .ok (.invokevirtual 416, 3) := dkg_X11_225.2.2.2.2.2.2.2.1
theorem dX11_digest_18 : decode cX11_digest 18 = .ok (.istore_n 1, 1) := dkg_X11_225.2.2.2.2.2.2.2.2.1
theorem dX11_digest_19 : decode cX11_digest 19 = .ok (.iload_n 1, 1) := dkg_X11_225.2.2.2.2.2.2.2.2.2.1
theorem dkg_X11_226 : dkp cX11_digest [(20, .bipush 31, 2), (22, .imul, 1), (23, .aload_n 0, 1), (24, .getfield 21, 3), (27, .getfield 99, 3), (30, .iadd, 1), (31, .istore_n 1, 1), (32, .iconst 0, 1), (33, .istore_n 2, 1), (34, .iload_n 2, 1)] := dkf (by decide +kernel)
theorem dX11_digest_20 : decode cX11_digest 20 = .ok (.bipush 31, 2) := dkg_X11_226.1
theorem dX11_digest_22 : decode cX11_digest 22 = .ok (.imul, 1) := dkg_X11_226.2.1
theorem dX11_digest_23 : decode cX11_digest 23 = .ok (.aload_n 0, 1) := dkg_X11_226.2.2.1
theorem dX11_digest_24 : decode cX11_digest 24 = .ok (.getfield 21, 3) := dkg_X11_226.2.2.2.1
theorem dX11_digest_27 : decode cX11_digest 27 = .ok (.getfield 99, 3) := dkg_X11_226.2.2.2.2.1
theorem dX11_digest_30 : decode cX11_digest 30 = .ok (.iadd, 1) := dkg_X11_226.2.2.2.2.2.1
theorem dX11_digest_31 : decode cX11_digest 31 = .ok (.istore_n 1, 1) := dkg_X11_226.2.2.2.2.2.2.1
theorem dX11_digest_32 : decode cX11_digest 32 = .ok (.iconst 0, 1) := dkg_X11_226.2.2.2.2.2.2.2.1
theorem dX11_digest_33 : decode cX11_digest 33 = .ok (.istore_n 2, 1) := dkg_X11_226.2.2.2.2.2.2.2.2.1
theorem dX11_digest_34 : decode cX11_digest 34 = .ok (.iload_n 2, 1) := dkg_X11_226.2.2.2.2.2.2.2.2.2.1
theorem dkg_X11_227 : dkp cX11_digest [(35, .aload_n 0, 1), (36, .getfield 21, 3), (39, .getfield 99, 3), (42, .if_icmp .ge 23, 3), (45, .iload_n 1, 1), (46, .bipush 31, 2), (48, .imul, 1), (49, .aload_n 0, 1), (50, .getfield 21, 3), (53, .iload_n 2, 1)] := dkf (by decide +kernel)
theorem dX11_digest_35 : decode cX11_digest 35 = .ok (.aload_n 0, 1) := dkg_X11_227.1
theorem dX11_digest_36 : decode cX11_digest 36 = .ok (.getfield 21, 3) := dkg_X11_227.2.1
theorem dX11_digest_39 : decode cX11_digest 39 = .ok (.getfield 99, 3) := dkg_X11_227.2.2.1
theorem dX11_digest_42 : decode cX11_digest 42 = .ok (.if_icmp .ge 23, 3) := dkg_X11_227.2.2.2.1
theorem dX11_digest_45 : decode cX11_digest 45 = .ok (.iload_n 1, 1) := dkg_X11_227.2.2.2.2.1
theorem dX11_digest_46 : decode cX11_digest 46 = .ok (.bipush 31, 2) := dkg_X11_227.2.2.2.2.2.1
theorem dX11_digest_48 : decode cX11_digest 48 = .ok (.imul, 1) := dkg_X11_227.2.2.2.2.2.2.1
theorem dX11_digest_49 : decode cX11_digest 49 = .ok (.aload_n 0, 1) := dkg_X11_227.2.2.2.2.2.2.2.1
theorem dX11_digest_50 : decode cX11_digest 50 = .ok (.getfield 21, 3) := dkg_X11_227.2.2.2.2.2.2.2.2.1
theorem dX11_digest_53 : decode cX11_digest 53 = .ok (.iload_n 2, 1) := dkg_X11_227.2.2.2.2.2.2.2.2.2.1
theorem dkg_X11_228 : dkp cX11_digest [(54, .invokevirtual 224, 3), (57, .iadd, 1), (58, .istore_n 1, 1), (59, .iinc 2 1, 3), (62, .goto (-28), 3), (65, .iconst 0, 1), (66, .istore_n 2, 1), (67, .iload_n 2, 1), (68, .iconst 4, 1), (69, .if_icmp .gt 23, 3)] := dkf (by decide +kernel)
theorem dX11_digest_54 : decode cX11_digest 54 = .ok (.invokevirtual 224, 3) := dkg_X11_228.1
theorem dX11_digest_57 : decode cX11_digest 57 = .ok (.iadd, 1) := dkg_X11_228.2.1
theorem dX11_digest_58 : decode cX11_digest 58 = .ok (.istore_n 1, 1) := dkg_X11_228.2.2.1
theorem dX11_digest_59 : decode cX11_digest 59 = .ok (.iinc 2 1, 3) := dkg_X11_228.2.2.2.1
theorem dX11_digest_62 : decode cX11_digest 62 = .ok (.goto (-28), 3) := dkg_X11_228.2.2.2.2.1
theorem dX11_digest_65 : decode cX11_digest 65 = .ok (.iconst 0, 1) := dkg_X11_228.2.2.2.2.2.1
theorem dX11_digest_66 : decode cX11_digest 66 = .ok (.istore_n 2, 1) := dkg_X11_228.2.2.2.2.2.2.1
theorem dX11_digest_67 : decode cX11_digest 67 = .ok (.iload_n 2, 1) := dkg_X11_228.2.2.2.2.2.2.2.1
theorem dX11_digest_68 : decode cX11_digest 68 = .ok (.iconst 4, 1) := dkg_X11_228.2.2.2.2.2.2.2.2.1
theorem dX11_digest_69 : decode cX11_digest 69 = .ok (.if_icmp .gt 23, 3) := dkg_X11_228.2.2.2.2.2.2.2.2.2.1
theorem dkg_X11_229 : dkp cX11_digest [(72, .iload_n 1, 1), (73, .bipush 31, 2), (75, .imul, 1), (76, .aload_n 0, 1), (77, .getfield 44, 3), (80, .iload_n 2, 1), (81, .invokevirtual 413, 3), (84, .iadd, 1), (85, .istore_n 1, 1), (86, .iinc 2 1, 3)] := dkf (by decide +kernel)
theorem dX11_digest_72 : decode cX11_digest 72 = .ok (.iload_n 1, 1) := dkg_X11_229.1
theorem dX11_digest_73 : decode cX11_digest 73 = .ok (.bipush 31, 2) := dkg_X11_229.2.1
theorem dX11_digest_75 : decode cX11_digest 75 = .ok (.imul, 1) := dkg_X11_229.2.2.1
theorem dX11_digest_76 : decode cX11_digest 76 = .ok (.aload_n 0, 1) := dkg_X11_229.2.2.2.1
theorem dX11_digest_77 : decode cX11_digest 77 = .ok (.getfield 44, 3) := dkg_X11_229.2.2.2.2.1
theorem dX11_digest_80 : decode cX11_digest 80 = .ok (.iload_n 2, 1) := dkg_X11_229.2.2.2.2.2.1
theorem dX11_digest_81 : decode cX11_digest 81 = .ok (.invokevirtual 413, 3) := dkg_X11_229.2.2.2.2.2.2.1
theorem dX11_digest_84 : decode cX11_digest 84 = .ok (.iadd, 1) := dkg_X11_229.2.2.2.2.2.2.2.1
theorem dX11_digest_85 : decode cX11_digest 85 = .ok (.istore_n 1, 1) := dkg_X11_229.2.2.2.2.2.2.2.2.1
theorem dX11_digest_86 : decode cX11_digest 86 = .ok (.iinc 2 1, 3) := dkg_X11_229.2.2.2.2.2.2.2.2.2.1
theorem dkg_X11_230 : dkp cX11_digest [(89, .goto (-22), 3), (92, .iload_n 1, 1), (93, .bipush 31, 2), (95, .imul, 1), (96, .aload_n 0, 1), (97, .getfield 87, 3), (100, .iadd, 1), (101, .istore_n 1, 1), (102, .iload_n 1, 1), (103, .bipush 31, 2)] := dkf (by decide +kernel)
theorem dX11_digest_89 : decode cX11_digest 89 = .ok (.goto (-22), 3) := dkg_X11_230.1
theorem dX11_digest_92 : decode cX11_digest 92 = .ok (.iload_n 1, 1) := dkg_X11_230.2.1
theorem dX11_digest_93 : decode cX11_digest 93 = .ok (.bipush 31, 2) := dkg_X11_230.2.2.1
theorem dX11_digest_95 : decode cX11_digest 95 = .ok (.imul, 1) := dkg_X11_230.2.2.2.1
theorem dX11_digest_96 : decode cX11_digest 96 = .ok (.aload_n 0, 1) := dkg_X11_230.2.2.2.2.1
theorem dX11_digest_97 : decode cX11_digest 97 = .ok (.getfield 87, 3) := dkg_X11_230.2.2.2.2.2.1
theorem dX11_digest_100 : decode cX11_digest 100 = .ok (.iadd, 1) := dkg_X11_230.2.2.2.2.2.2.1
theorem dX11_digest_101 : decode cX11_digest 101 = .ok (.istore_n 1, 1) := dkg_X11_230.2.2.2.2.2.2.2.1
theorem dX11_digest_102 : decode cX11_digest 102 = .ok (.iload_n 1, 1) := dkg_X11_230.2.2.2.2.2.2.2.2.1
theorem dX11_digest_103 : decode cX11_digest 103 = .ok (.bipush 31, 2) := dkg_X11_230.2.2.2.2.2.2.2.2.2.1
theorem dkg_X11_231 : dkp cX11_digest [(105, .imul, 1), (106, .aload_n 0, 1), (107, .getfield 90, 3), (110, .iadd, 1), (111, .ireturn, 1)] := dkf (by decide +kernel)
theorem dX11_digest_105 : decode cX11_digest 105 = .ok (.imul, 1) := dkg_X11_231.1
theorem dX11_digest_106 : decode cX11_digest 106 = .ok (.aload_n 0, 1) := dkg_X11_231.2.1
theorem dX11_digest_107 : decode cX11_digest 107 = .ok (.getfield 90, 3) := dkg_X11_231.2.2.1
theorem dX11_digest_110 : decode cX11_digest 110 = .ok (.iadd, 1) := dkg_X11_231.2.2.2.1
theorem dX11_digest_111 : decode cX11_digest 111 = .ok (.ireturn, 1) := dkg_X11_231.2.2.2.2.1
theorem dkg_X11_232 : dkp cX11_done [(0, .aload_n 0, 1), (1, .iconst 0, 1), (2, .putfield 93, 3), (5, .aload_n 0, 1), (6, .iconst (-1), 1), (7, .putfield 96, 3), (10, .iload_n 1, 1), (11, .ireturn, 1)] := dkf (by decide +kernel)
theorem dX11_done_0 : decode cX11_done 0 = .ok (.aload_n 0, 1) := dkg_X11_232.1
theorem dX11_done_1 : decode cX11_done 1 = .ok (.iconst 0, 1) := dkg_X11_232.2.1
theorem dX11_done_2 : decode cX11_done 2 = .ok (.putfield 93, 3) := dkg_X11_232.2.2.1
theorem dX11_done_5 : decode cX11_done 5 = .ok (.aload_n 0, 1) := dkg_X11_232.2.2.2.1
theorem dX11_done_6 : decode cX11_done 6 = .ok (.iconst (-1), 1) := dkg_X11_232.2.2.2.2.1
theorem dX11_done_7 : decode cX11_done 7 = .ok (.putfield 96, 3) := dkg_X11_232.2.2.2.2.2.1
theorem dX11_done_10 : decode cX11_done 10 = .ok (.iload_n 1, 1) := dkg_X11_232.2.2.2.2.2.2.1
theorem dX11_done_11 : decode cX11_done 11 = .ok (.ireturn, 1) := dkg_X11_232.2.2.2.2.2.2.2.1
theorem dkg_X11_233 : dkp cX11_refuse [(0, .aload_n 0, 1), (1, .iload_n 1, 1), (2, .putfield 93, 3), (5, .aload_n 0, 1), (6, .iconst (-1), 1), (7, .putfield 96, 3), (10, .iconst (-1), 1), (11, .ireturn, 1)] := dkf (by decide +kernel)
theorem dX11_refuse_0 : decode cX11_refuse 0 = .ok (.aload_n 0, 1) := dkg_X11_233.1
theorem dX11_refuse_1 : decode cX11_refuse 1 = .ok (.iload_n 1, 1) := dkg_X11_233.2.1
theorem dX11_refuse_2 : decode cX11_refuse 2 = .ok (.putfield 93, 3) := dkg_X11_233.2.2.1
theorem dX11_refuse_5 : decode cX11_refuse 5 = .ok (.aload_n 0, 1) := dkg_X11_233.2.2.2.1
theorem dX11_refuse_6 : decode cX11_refuse 6 = .ok (.iconst (-1), 1) := dkg_X11_233.2.2.2.2.1
theorem dX11_refuse_7 : decode cX11_refuse 7 = .ok (.putfield 96, 3) := dkg_X11_233.2.2.2.2.2.1
theorem dX11_refuse_10 : decode cX11_refuse 10 = .ok (.iconst (-1), 1) := dkg_X11_233.2.2.2.2.2.2.1
theorem dX11_refuse_11 : decode cX11_refuse 11 = .ok (.ireturn, 1) := dkg_X11_233.2.2.2.2.2.2.2.1
theorem dkg_X11_234 : dkp cX11_refuseAt [(0, .aload_n 0, 1), (1, .iload_n 1, 1), (2, .putfield 93, 3), (5, .aload_n 0, 1), (6, .iload_n 1, 1), (7, .bipush 7, 2), (9, .if_icmp .eq 9, 3), (12, .iload_n 1, 1), (13, .bipush 9, 2), (15, .if_icmp .ne 7, 3)] := dkf (by decide +kernel)
theorem dX11_refuseAt_0 : decode cX11_refuseAt 0 = .ok (.aload_n 0, 1) := dkg_X11_234.1
theorem dX11_refuseAt_1 : decode cX11_refuseAt 1 = .ok (.iload_n 1, 1) := dkg_X11_234.2.1
theorem dX11_refuseAt_2 : decode cX11_refuseAt 2 = .ok (.putfield 93, 3) := dkg_X11_234.2.2.1
theorem dX11_refuseAt_5 : decode cX11_refuseAt 5 = .ok (.aload_n 0, 1) := dkg_X11_234.2.2.2.1
theorem dX11_refuseAt_6 : decode cX11_refuseAt 6 = .ok (.iload_n 1, 1) := dkg_X11_234.2.2.2.2.1
theorem dX11_refuseAt_7 : decode cX11_refuseAt 7 = .ok (.bipush 7, 2) := dkg_X11_234.2.2.2.2.2.1
theorem dX11_refuseAt_9 : decode cX11_refuseAt 9 = .ok (.if_icmp .eq 9, 3) := dkg_X11_234.2.2.2.2.2.2.1
theorem dX11_refuseAt_12 : decode cX11_refuseAt 12 = .ok (.iload_n 1, 1) := dkg_X11_234.2.2.2.2.2.2.2.1
theorem dX11_refuseAt_13 : decode cX11_refuseAt 13 = .ok (.bipush 9, 2) := dkg_X11_234.2.2.2.2.2.2.2.2.1
theorem dX11_refuseAt_15 : decode cX11_refuseAt 15 = .ok (.if_icmp .ne 7, 3) := dkg_X11_234.2.2.2.2.2.2.2.2.2.1
theorem dkg_X11_235 : dkp cX11_refuseAt [(18, .iload_n 2, 1), (19, .goto 4, 3), (22, .iconst (-1), 1), (23, .putfield 96, 3), (26, .iconst (-1), 1), (27, .ireturn, 1)] := dkf (by decide +kernel)
theorem dX11_refuseAt_18 : decode cX11_refuseAt 18 = .ok (.iload_n 2, 1) := dkg_X11_235.1
theorem dX11_refuseAt_19 : decode cX11_refuseAt 19 = .ok (.goto 4, 3) := dkg_X11_235.2.1
theorem dX11_refuseAt_22 : decode cX11_refuseAt 22 = .ok (.iconst (-1), 1) := dkg_X11_235.2.2.1
theorem dX11_refuseAt_23 : decode cX11_refuseAt 23 = .ok (.putfield 96, 3) := dkg_X11_235.2.2.2.1
theorem dX11_refuseAt_26 : decode cX11_refuseAt 26 = .ok (.iconst (-1), 1) := dkg_X11_235.2.2.2.2.1
theorem dX11_refuseAt_27 : decode cX11_refuseAt 27 = .ok (.ireturn, 1) := dkg_X11_235.2.2.2.2.2.1
theorem dkg_X11_236 : dkp cX11_isDigit [(0, .iload_n 0, 1), (1, .bipush 48, 2), (3, .if_icmp .lt 13, 3), (6, .iload_n 0, 1), (7, .bipush 57, 2), (9, .if_icmp .gt 7, 3), (12, .iconst 1, 1), (13, .goto 4, 3), (16, .iconst 0, 1), (17, .ireturn, 1)] := dkf (by decide +kernel)
theorem dX11_isDigit_0 : decode cX11_isDigit 0 = .ok (.iload_n 0, 1) := dkg_X11_236.1
theorem dX11_isDigit_1 : decode cX11_isDigit 1 = .ok (.bipush 48, 2) := dkg_X11_236.2.1
theorem dX11_isDigit_3 : decode cX11_isDigit 3 = .ok (.if_icmp .lt 13, 3) := dkg_X11_236.2.2.1
theorem dX11_isDigit_6 : decode cX11_isDigit 6 = .ok (.iload_n 0, 1) := dkg_X11_236.2.2.2.1
theorem dX11_isDigit_7 : decode cX11_isDigit 7 = .ok (.bipush 57, 2) := dkg_X11_236.2.2.2.2.1
theorem dX11_isDigit_9 : decode cX11_isDigit 9 = .ok (.if_icmp .gt 7, 3) := dkg_X11_236.2.2.2.2.2.1
theorem dX11_isDigit_12 : decode cX11_isDigit 12 = .ok (.iconst 1, 1) := dkg_X11_236.2.2.2.2.2.2.1
theorem dX11_isDigit_13 : decode cX11_isDigit 13 = .ok (.goto 4, 3) := dkg_X11_236.2.2.2.2.2.2.2.1
theorem dX11_isDigit_16 : decode cX11_isDigit 16 = .ok (.iconst 0, 1) := dkg_X11_236.2.2.2.2.2.2.2.2.1
theorem dX11_isDigit_17 : decode cX11_isDigit 17 = .ok (.ireturn, 1) := dkg_X11_236.2.2.2.2.2.2.2.2.2.1
theorem dkg_X11_237 : dkp cX11_isGreat [(0, .iload_n 0, 1), (1, .bipush 65, 2), (3, .if_icmp .lt 13, 3), (6, .iload_n 0, 1), (7, .bipush 90, 2), (9, .if_icmp .gt 7, 3), (12, .iconst 1, 1), (13, .goto 4, 3), (16, .iconst 0, 1), (17, .ireturn, 1)] := dkf (by decide +kernel)
theorem dX11_isGreat_0 : decode cX11_isGreat 0 = .ok (.iload_n 0, 1) := dkg_X11_237.1
theorem dX11_isGreat_1 : decode cX11_isGreat 1 = .ok (.bipush 65, 2) := dkg_X11_237.2.1
theorem dX11_isGreat_3 : decode cX11_isGreat 3 = .ok (.if_icmp .lt 13, 3) := dkg_X11_237.2.2.1
theorem dX11_isGreat_6 : decode cX11_isGreat 6 = .ok (.iload_n 0, 1) := dkg_X11_237.2.2.2.1
theorem dX11_isGreat_7 : decode cX11_isGreat 7 = .ok (.bipush 90, 2) := dkg_X11_237.2.2.2.2.1
theorem dX11_isGreat_9 : decode cX11_isGreat 9 = .ok (.if_icmp .gt 7, 3) := dkg_X11_237.2.2.2.2.2.1
theorem dX11_isGreat_12 : decode cX11_isGreat 12 = .ok (.iconst 1, 1) := dkg_X11_237.2.2.2.2.2.2.1
theorem dX11_isGreat_13 : decode cX11_isGreat 13 = .ok (.goto 4, 3) := dkg_X11_237.2.2.2.2.2.2.2.1
theorem dX11_isGreat_16 : decode cX11_isGreat 16 = .ok (.iconst 0, 1) := dkg_X11_237.2.2.2.2.2.2.2.2.1
theorem dX11_isGreat_17 : decode cX11_isGreat 17 = .ok (.ireturn, 1) := dkg_X11_237.2.2.2.2.2.2.2.2.2.1
theorem dkg_X11_238 : dkp cX11_isSmall [(0, .iload_n 0, 1), (1, .bipush 97, 2), (3, .if_icmp .lt 13, 3), (6, .iload_n 0, 1), (7, .bipush 122, 2), (9, .if_icmp .gt 7, 3), (12, .iconst 1, 1), (13, .goto 4, 3), (16, .iconst 0, 1), (17, .ireturn, 1)] := dkf (by decide +kernel)
theorem dX11_isSmall_0 : decode cX11_isSmall 0 = .ok (.iload_n 0, 1) := dkg_X11_238.1
theorem dX11_isSmall_1 : decode cX11_isSmall 1 = .ok (.bipush 97, 2) := dkg_X11_238.2.1
theorem dX11_isSmall_3 : decode cX11_isSmall 3 = .ok (.if_icmp .lt 13, 3) := dkg_X11_238.2.2.1
theorem dX11_isSmall_6 : decode cX11_isSmall 6 = .ok (.iload_n 0, 1) := dkg_X11_238.2.2.2.1
theorem dX11_isSmall_7 : decode cX11_isSmall 7 = .ok (.bipush 122, 2) := dkg_X11_238.2.2.2.2.1
theorem dX11_isSmall_9 : decode cX11_isSmall 9 = .ok (.if_icmp .gt 7, 3) := dkg_X11_238.2.2.2.2.2.1
theorem dX11_isSmall_12 : decode cX11_isSmall 12 = .ok (.iconst 1, 1) := dkg_X11_238.2.2.2.2.2.2.1
theorem dX11_isSmall_13 : decode cX11_isSmall 13 = .ok (.goto 4, 3) := dkg_X11_238.2.2.2.2.2.2.2.1
theorem dX11_isSmall_16 : decode cX11_isSmall 16 = .ok (.iconst 0, 1) := dkg_X11_238.2.2.2.2.2.2.2.2.1
theorem dX11_isSmall_17 : decode cX11_isSmall 17 = .ok (.ireturn, 1) := dkg_X11_238.2.2.2.2.2.2.2.2.2.1
