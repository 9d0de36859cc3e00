theorem dkg_X3_0 : dkp cX3_init [(0, .aload_n 0, 1), (1, .invokespecial 3, 3), (4, .aload_n 0, 1), (5, .new 9, 3), (8, .dup, 1), (9, .invokespecial 11, 3), (12, .putfield 12, 3), (15, .aload_n 0, 1), (16, .new 9, 3), (19, .dup, 1)] := dkf (by decide +kernel)
theorem dX3_init_0 : decode cX3_init 0 = .ok (.aload_n 0, 1) := dkg_X3_0.1
theorem dX3_init_1 : decode cX3_init 1 = .ok (.invokespecial 3, 3) := dkg_X3_0.2.1
theorem dX3_init_4 : decode cX3_init 4 = .ok (.aload_n 0, 1) := dkg_X3_0.2.2.1
theorem dX3_init_5 : decode cX3_init 5 = .ok (.new 9, 3) := dkg_X3_0.2.2.2.1
theorem dX3_init_8 : decode cX3_init 8 = .ok (.dup, 1) := dkg_X3_0.2.2.2.2.1
theorem dX3_init_9 : decode cX3_init 9 = .ok (.invokespecial 11, 3) := dkg_X3_0.2.2.2.2.2.1
theorem dX3_init_12 : decode cX3_init 12 = .ok (.putfield 12, 3) := dkg_X3_0.2.2.2.2.2.2.1
theorem dX3_init_15 : decode cX3_init 15 = .ok (.aload_n 0, 1) := dkg_X3_0.2.2.2.2.2.2.2.1
theorem dX3_init_16 : decode cX3_init 16 = .ok (.new 9, 3) := dkg_X3_0.2.2.2.2.2.2.2.2.1
theorem dX3_init_19 : decode cX3_init 19 = .ok (.dup, 1) := dkg_X3_0.2.2.2.2.2.2.2.2.2.1
theorem dkg_X3_1 : dkp cX3_init [(20, .invokespecial 11, 3), (23, .putfield 18, 3), (26, .aload_n 0, 1), (27, .new 21, 3), (30, .dup, 1), (31, .sipush 6003, 3), (34, .invokespecial 23, 3), (37, .putfield 26, 3), (40, .aload_n 0, 1), (41, .new 21, 3)] := dkf (by decide +kernel)
theorem dX3_init_20 : decode cX3_init 20 = .ok (.invokespecial 11, 3) := dkg_X3_1.1
theorem dX3_init_23 : decode cX3_init 23 = .ok (.putfield 18, 3) := dkg_X3_1.2.1
theorem dX3_init_26 : decode cX3_init 26 = .ok (.aload_n 0, 1) := dkg_X3_1.2.2.1
theorem dX3_init_27 : decode cX3_init 27 = .ok (.new 21, 3) := dkg_X3_1.2.2.2.1
theorem dX3_init_30 : decode cX3_init 30 = .ok (.dup, 1) := dkg_X3_1.2.2.2.2.1
theorem dX3_init_31 : decode cX3_init 31 = .ok (.sipush 6003, 3) := dkg_X3_1.2.2.2.2.2.1
theorem dX3_init_34 : decode cX3_init 34 = .ok (.invokespecial 23, 3) := dkg_X3_1.2.2.2.2.2.2.1
theorem dX3_init_37 : decode cX3_init 37 = .ok (.putfield 26, 3) := dkg_X3_1.2.2.2.2.2.2.2.1
theorem dX3_init_40 : decode cX3_init 40 = .ok (.aload_n 0, 1) := dkg_X3_1.2.2.2.2.2.2.2.2.1
theorem dX3_init_41 : decode cX3_init 41 = .ok (.new 21, 3) := dkg_X3_1.2.2.2.2.2.2.2.2.2.1
theorem dkg_X3_2 : dkp cX3_init [(44, .dup, 1), (45, .sipush 6003, 3), (48, .invokespecial 23, 3), (51, .putfield 30, 3), (54, .aload_n 0, 1), (55, .new 21, 3), (58, .dup, 1), (59, .ldc 33, 2), (61, .invokespecial 23, 3), (64, .putfield 34, 3)] := dkf (by decide +kernel)
theorem dX3_init_44 : decode cX3_init 44 = .ok (.dup, 1) := dkg_X3_2.1
theorem dX3_init_45 : decode cX3_init 45 = .ok (.sipush 6003, 3) := dkg_X3_2.2.1
theorem dX3_init_48 : decode cX3_init 48 = .ok (.invokespecial 23, 3) := dkg_X3_2.2.2.1
theorem dX3_init_51 : decode cX3_init 51 = .ok (.putfield 30, 3) := dkg_X3_2.2.2.2.1
theorem dX3_init_54 : decode cX3_init 54 = .ok (.aload_n 0, 1) := dkg_X3_2.2.2.2.2.1
theorem dX3_init_55 : decode cX3_init 55 = .ok (.new 21, 3) := dkg_X3_2.2.2.2.2.2.1
theorem dX3_init_58 : decode cX3_init 58 = .ok (.dup, 1) := dkg_X3_2.2.2.2.2.2.2.1
theorem dX3_init_59 : decode cX3_init 59 = .ok (.ldc 33, 2) := dkg_X3_2.2.2.2.2.2.2.2.1
theorem dX3_init_61 : decode cX3_init 61 = .ok (.invokespecial 23, 3) := dkg_X3_2.2.2.2.2.2.2.2.2.1
theorem dX3_init_64 : decode cX3_init 64 = .ok (.putfield 34, 3) := dkg_X3_2.2.2.2.2.2.2.2.2.2.1
theorem dkg_X3_3 : dkp cX3_init [(67, .aload_n 0, 1), (68, .new 21, 3), (71, .dup, 1), (72, .ldc 33, 2), (74, .invokespecial 23, 3), (77, .putfield 37, 3), (80, .aload_n 0, 1), (81, .new 21, 3), (84, .dup, 1), (85, .sipush 4001, 3)] := dkf (by decide +kernel)
theorem dX3_init_67 : decode cX3_init 67 = .ok (.aload_n 0, 1) := dkg_X3_3.1
theorem dX3_init_68 : decode cX3_init 68 = .ok (.new 21, 3) := dkg_X3_3.2.1
theorem dX3_init_71 : decode cX3_init 71 = .ok (.dup, 1) := dkg_X3_3.2.2.1
theorem dX3_init_72 : decode cX3_init 72 = .ok (.ldc 33, 2) := dkg_X3_3.2.2.2.1
theorem dX3_init_74 : decode cX3_init 74 = .ok (.invokespecial 23, 3) := dkg_X3_3.2.2.2.2.1
theorem dX3_init_77 : decode cX3_init 77 = .ok (.putfield 37, 3) := dkg_X3_3.2.2.2.2.2.1
theorem dX3_init_80 : decode cX3_init 80 = .ok (.aload_n 0, 1) := dkg_X3_3.2.2.2.2.2.2.1
theorem dX3_init_81 : decode cX3_init 81 = .ok (.new 21, 3) := dkg_X3_3.2.2.2.2.2.2.2.1
theorem dX3_init_84 : decode cX3_init 84 = .ok (.dup, 1) := dkg_X3_3.2.2.2.2.2.2.2.2.1
theorem dX3_init_85 : decode cX3_init 85 = .ok (.sipush 4001, 3) := dkg_X3_3.2.2.2.2.2.2.2.2.2.1
theorem dkg_X3_4 : dkp cX3_init [(88, .invokespecial 23, 3), (91, .putfield 40, 3), (94, .aload_n 0, 1), (95, .iconst 0, 1), (96, .putfield 43, 3), (99, .return_, 1)] := dkf (by decide +kernel)
theorem dX3_init_88 : decode cX3_init 88 = .ok (.invokespecial 23, 3) := dkg_X3_4.1
theorem dX3_init_91 : decode cX3_init 91 = .ok (.putfield 40, 3) := dkg_X3_4.2.1
theorem dX3_init_94 : decode cX3_init 94 = .ok (.aload_n 0, 1) := dkg_X3_4.2.2.1
theorem dX3_init_95 : decode cX3_init 95 = .ok (.iconst 0, 1) := dkg_X3_4.2.2.2.1
theorem dX3_init_96 : decode cX3_init 96 = .ok (.putfield 43, 3) := dkg_X3_4.2.2.2.2.1
theorem dX3_init_99 : decode cX3_init 99 = .ok (.return_, 1) := dkg_X3_4.2.2.2.2.2.1
theorem dkg_X3_5 : dkp cX3_gather [(0, .aload_n 0, 1), (1, .getfield 12, 3), (4, .invokevirtual 47, 3), (7, .aload_n 0, 1), (8, .getfield 18, 3), (11, .invokevirtual 47, 3), (14, .aload_n 1, 1), (15, .getfield 50, 3), (18, .iconst 5, 1), (19, .if_icmp .ne 54, 3)] := dkf (by decide +kernel)
theorem dX3_gather_0 : decode cX3_gather 0 = .ok (.aload_n 0, 1) := dkg_X3_5.1
theorem dX3_gather_1 : decode cX3_gather 1 = .ok (.getfield 12, 3) := dkg_X3_5.2.1
theorem dX3_gather_4 : decode cX3_gather 4 = .ok (.invokevirtual 47, 3) := dkg_X3_5.2.2.1
theorem dX3_gather_7 : decode cX3_gather 7 = .ok (.aload_n 0, 1) := dkg_X3_5.2.2.2.1
theorem dX3_gather_8 : decode cX3_gather 8 = .ok (.getfield 18, 3) := dkg_X3_5.2.2.2.2.1
theorem dX3_gather_11 : decode cX3_gather 11 = .ok (.invokevirtual 47, 3) := dkg_X3_5.2.2.2.2.2.1
theorem dX3_gather_14 : decode cX3_gather 14 = .ok (.aload_n 1, 1) := dkg_X3_5.2.2.2.2.2.2.1
theorem dX3_gather_15 : decode cX3_gather 15 = .ok (.getfield 50, 3) := dkg_X3_5.2.2.2.2.2.2.2.1
theorem dX3_gather_18 : decode cX3_gather 18 = .ok (.iconst 5, 1) := dkg_X3_5.2.2.2.2.2.2.2.2.1
theorem dX3_gather_19 : decode cX3_gather 19 = .ok (.if_icmp .ne 54, 3) := dkg_X3_5.2.2.2.2.2.2.2.2.2.1
theorem dkg_X3_6 : dkp cX3_gather [(22, .aload_n 0, 1), (23, .getfield 12, 3), (26, .aload_n 1, 1), (27, .getfield 55, 3), (30, .invokestatic 59, 3), (33, .aload_n 0, 1), (34, .getfield 12, 3), (37, .aload_n 1, 1), (38, .getfield 63, 3), (41, .iconst 2, 1)] := dkf (by decide +kernel)
theorem dX3_gather_22 : decode cX3_gather 22 = .ok (.aload_n 0, 1) := dkg_X3_6.1
theorem dX3_gather_23 : decode cX3_gather 23 = .ok (.getfield 12, 3) := dkg_X3_6.2.1
theorem dX3_gather_26 : decode cX3_gather 26 = .ok (.aload_n 1, 1) := dkg_X3_6.2.2.1
theorem dX3_gather_27 : decode cX3_gather 27 = .ok (.getfield 55, 3) := dkg_X3_6.2.2.2.1
theorem dX3_gather_30 : decode cX3_gather 30 = .ok (.invokestatic 59, 3) := dkg_X3_6.2.2.2.2.1
theorem dX3_gather_33 : decode cX3_gather 33 = .ok (.aload_n 0, 1) := dkg_X3_6.2.2.2.2.2.1
theorem dX3_gather_34 : decode cX3_gather 34 = .ok (.getfield 12, 3) := dkg_X3_6.2.2.2.2.2.2.1
theorem dX3_gather_37 : decode cX3_gather 37 = .ok (.aload_n 1, 1) := dkg_X3_6.2.2.2.2.2.2.2.1
theorem dX3_gather_38 : decode cX3_gather 38 = .ok (.getfield 63, 3) := dkg_X3_6.2.2.2.2.2.2.2.2.1
theorem dX3_gather_41 : decode cX3_gather 41 = .ok (.iconst 2, 1) := dkg_X3_6.2.2.2.2.2.2.2.2.2.1
theorem dkg_X3_7 : dkp cX3_gather [(42, .aaload, 1), (43, .invokestatic 67, 3), (46, .aload_n 0, 1), (47, .getfield 18, 3), (50, .aload_n 1, 1), (51, .getfield 71, 3), (54, .invokestatic 59, 3), (57, .aload_n 0, 1), (58, .getfield 18, 3), (61, .aload_n 1, 1)] := dkf (by decide +kernel)
theorem dX3_gather_42 : decode cX3_gather 42 = .ok (.aaload, 1) := dkg_X3_7.1
theorem dX3_gather_43 : decode cX3_gather 43 = .ok (.invokestatic 67, 3) := dkg_X3_7.2.1
theorem dX3_gather_46 : decode cX3_gather 46 = .ok (.aload_n 0, 1) := dkg_X3_7.2.2.1
theorem dX3_gather_47 : decode cX3_gather 47 = .ok (.getfield 18, 3) := dkg_X3_7.2.2.2.1
theorem dX3_gather_50 : decode cX3_gather 50 = .ok (.aload_n 1, 1) := dkg_X3_7.2.2.2.2.1
theorem dX3_gather_51 : decode cX3_gather 51 = .ok (.getfield 71, 3) := dkg_X3_7.2.2.2.2.2.1
theorem dX3_gather_54 : decode cX3_gather 54 = .ok (.invokestatic 59, 3) := dkg_X3_7.2.2.2.2.2.2.1
theorem dX3_gather_57 : decode cX3_gather 57 = .ok (.aload_n 0, 1) := dkg_X3_7.2.2.2.2.2.2.2.1
theorem dX3_gather_58 : decode cX3_gather 58 = .ok (.getfield 18, 3) := dkg_X3_7.2.2.2.2.2.2.2.2.1
theorem dX3_gather_61 : decode cX3_gather 61 = .ok (.aload_n 1, 1) := dkg_X3_7.2.2.2.2.2.2.2.2.2.1
theorem dkg_X3_8 : dkp cX3_gather [(62, .getfield 63, 3), (65, .iconst 3, 1), (66, .aaload, 1), (67, .invokestatic 67, 3), (70, .goto 11, 3), (73, .aload_n 0, 1), (74, .getfield 12, 3), (77, .aload_n 1, 1), (78, .invokestatic 59, 3), (81, .aload_n 0, 1)] := dkf (by decide +kernel)
theorem dX3_gather_62 : decode cX3_gather 62 = .ok (.getfield 63, 3) := dkg_X3_8.1
theorem dX3_gather_65 : decode cX3_gather 65 = .ok (.iconst 3, 1) := dkg_X3_8.2.1
theorem dX3_gather_66 : decode cX3_gather 66 = .ok (.aaload, 1) := dkg_X3_8.2.2.1
theorem dX3_gather_67 : decode cX3_gather 67 = .ok (.invokestatic 67, 3) := dkg_X3_8.2.2.2.1
theorem dX3_gather_70 : decode cX3_gather 70 = .ok (.goto 11, 3) := dkg_X3_8.2.2.2.2.1
theorem dX3_gather_73 : decode cX3_gather 73 = .ok (.aload_n 0, 1) := dkg_X3_8.2.2.2.2.2.1
theorem dX3_gather_74 : decode cX3_gather 74 = .ok (.getfield 12, 3) := dkg_X3_8.2.2.2.2.2.2.1
theorem dX3_gather_77 : decode cX3_gather 77 = .ok (.aload_n 1, 1) := dkg_X3_8.2.2.2.2.2.2.2.1
theorem dX3_gather_78 : decode cX3_gather 78 = .ok (.invokestatic 59, 3) := dkg_X3_8.2.2.2.2.2.2.2.2.1
theorem dX3_gather_81 : decode cX3_gather 81 = .ok (.aload_n 0, 1) := dkg_X3_8.2.2.2.2.2.2.2.2.2.1
theorem dkg_X3_9 : dkp cX3_gather [(82, .getfield 12, 3), (85, .aload_n 0, 1), (86, .getfield 26, 3), (89, .invokestatic 73, 3), (92, .aload_n 0, 1), (93, .getfield 18, 3), (96, .aload_n 0, 1), (97, .getfield 30, 3), (100, .invokestatic 73, 3), (103, .return_, 1)] := dkf (by decide +kernel)
theorem dX3_gather_82 : decode cX3_gather 82 = .ok (.getfield 12, 3) := dkg_X3_9.1
theorem dX3_gather_85 : decode cX3_gather 85 = .ok (.aload_n 0, 1) := dkg_X3_9.2.1
theorem dX3_gather_86 : decode cX3_gather 86 = .ok (.getfield 26, 3) := dkg_X3_9.2.2.1
theorem dX3_gather_89 : decode cX3_gather 89 = .ok (.invokestatic 73, 3) := dkg_X3_9.2.2.2.1
theorem dX3_gather_92 : decode cX3_gather 92 = .ok (.aload_n 0, 1) := dkg_X3_9.2.2.2.2.1
theorem dX3_gather_93 : decode cX3_gather 93 = .ok (.getfield 18, 3) := dkg_X3_9.2.2.2.2.2.1
theorem dX3_gather_96 : decode cX3_gather 96 = .ok (.aload_n 0, 1) := dkg_X3_9.2.2.2.2.2.2.1
theorem dX3_gather_97 : decode cX3_gather 97 = .ok (.getfield 30, 3) := dkg_X3_9.2.2.2.2.2.2.2.1
theorem dX3_gather_100 : decode cX3_gather 100 = .ok (.invokestatic 73, 3) := dkg_X3_9.2.2.2.2.2.2.2.2.1
theorem dX3_gather_103 : decode cX3_gather 103 = .ok (.return_, 1) := dkg_X3_9.2.2.2.2.2.2.2.2.2.1
theorem dkg_X3_10 : dkp cX3_markBegins [(0, .aload_n 1, 1), (1, .invokevirtual 77, 3), (4, .aload_n 0, 1), (5, .invokevirtual 78, 3), (8, .istore_n 2, 1), (9, .iconst 0, 1), (10, .istore_n 3, 1), (11, .iload_n 3, 1), (12, .iload_n 2, 1), (13, .if_icmp .ge 43, 3)] := dkf (by decide +kernel)
theorem dX3_markBegins_0 : decode cX3_markBegins 0 = .ok (.aload_n 1, 1) := dkg_X3_10.1
theorem dX3_markBegins_1 : decode cX3_markBegins 1 = .ok (.invokevirtual 77, 3) := dkg_X3_10.2.1
theorem dX3_markBegins_4 : decode cX3_markBegins 4 = .ok (.aload_n 0, 1) := dkg_X3_10.2.2.1
theorem dX3_markBegins_5 : decode cX3_markBegins 5 = .ok (.invokevirtual 78, 3) := dkg_X3_10.2.2.2.1
theorem dX3_markBegins_8 : decode cX3_markBegins 8 = .ok (.istore_n 2, 1) := dkg_X3_10.2.2.2.2.1
theorem dX3_markBegins_9 : decode cX3_markBegins 9 = .ok (.iconst 0, 1) := dkg_X3_10.2.2.2.2.2.1
theorem dX3_markBegins_10 : decode cX3_markBegins 10 = .ok (.istore_n 3, 1) := dkg_X3_10.2.2.2.2.2.2.1
theorem dX3_markBegins_11 : decode cX3_markBegins 11 = .ok (.iload_n 3, 1) := dkg_X3_10.2.2.2.2.2.2.2.1
theorem dX3_markBegins_12 : decode cX3_markBegins 12 = .ok (.iload_n 2, 1) := dkg_X3_10.2.2.2.2.2.2.2.2.1
theorem dX3_markBegins_13 : decode cX3_markBegins 13 = .ok (.if_icmp .ge 43, 3) := dkg_X3_10.2.2.2.2.2.2.2.2.2.1
theorem dkg_X3_11 : dkp cX3_markBegins [(16, .aload_n 0, 1), (17, .iload_n 3, 1), (18, .invokevirtual 82, 3), (21, .checkcast 86, 3), (24, .astore 4, 2), (26, .aload_n 1, 1), (27, .aload 4, 2), (29, .getfield 88, 3), (32, .arraylength, 1), (33, .ifCond .le 13, 3)] := dkf (by decide +kernel)
theorem dX3_markBegins_16 : decode cX3_markBegins 16 = .ok (.aload_n 0, 1) := dkg_X3_11.1
theorem dX3_markBegins_17 : decode cX3_markBegins 17 = .ok (.iload_n 3, 1) := dkg_X3_11.2.1
theorem dX3_markBegins_18 : decode cX3_markBegins 18 = .ok (.invokevirtual 82, 3) := dkg_X3_11.2.2.1
theorem dX3_markBegins_21 : decode cX3_markBegins 21 = .ok (.checkcast 86, 3) := dkg_X3_11.2.2.2.1
theorem dX3_markBegins_24 : decode cX3_markBegins 24 = .ok (.astore 4, 2) := dkg_X3_11.2.2.2.2.1
theorem dX3_markBegins_26 : decode cX3_markBegins 26 = .ok (.aload_n 1, 1) := dkg_X3_11.2.2.2.2.2.1
theorem dX3_markBegins_27 : decode cX3_markBegins 27 = .ok (.aload 4, 2) := dkg_X3_11.2.2.2.2.2.2.1
theorem dX3_markBegins_29 : decode cX3_markBegins 29 = .ok (.getfield 88, 3) := dkg_X3_11.2.2.2.2.2.2.2.1
theorem dX3_markBegins_32 : decode cX3_markBegins 32 = .ok (.arraylength, 1) := dkg_X3_11.2.2.2.2.2.2.2.2.1
theorem dX3_markBegins_33 : decode cX3_markBegins 33 = .ok (.ifCond .le 13, 3) := dkg_X3_11.2.2.2.2.2.2.2.2.2.1
theorem dkg_X3_12 : dkp cX3_markBegins [(36, .aload 4, 2), (38, .getfield 88, 3), (41, .iconst 0, 1), (42, .iaload, 1), (43, .goto 4, 3), (46, .iconst 0, 1), (47, .invokevirtual 91, 3), (50, .iinc 3 1, 3), (53, .goto (-42), 3), (56, .return_, 1)] := dkf (by decide +kernel)
theorem dX3_markBegins_36 : decode cX3_markBegins 36 = .ok (.aload 4, 2) := dkg_X3_12.1
theorem dX3_markBegins_38 : decode cX3_markBegins 38 = .ok (.getfield 88, 3) := dkg_X3_12.2.1
theorem dX3_markBegins_41 : decode cX3_markBegins 41 = .ok (.iconst 0, 1) := dkg_X3_12.2.2.1
theorem dX3_markBegins_42 : decode cX3_markBegins 42 = .ok (.iaload, 1) := dkg_X3_12.2.2.2.1
theorem dX3_markBegins_43 : decode cX3_markBegins 43 = .ok (.goto 4, 3) := dkg_X3_12.2.2.2.2.1
theorem dX3_markBegins_46 : decode cX3_markBegins 46 = .ok (.iconst 0, 1) := dkg_X3_12.2.2.2.2.2.1
theorem dX3_markBegins_47 : decode cX3_markBegins 47 = .ok (.invokevirtual 91, 3) := dkg_X3_12.2.2.2.2.2.2.1
theorem dX3_markBegins_50 : decode cX3_markBegins 50 = .ok (.iinc 3 1, 3) := dkg_X3_12.2.2.2.2.2.2.2.1
theorem dX3_markBegins_53 : decode cX3_markBegins 53 = .ok (.goto (-42), 3) := dkg_X3_12.2.2.2.2.2.2.2.2.1
theorem dX3_markBegins_56 : decode cX3_markBegins 56 = .ok (.return_, 1) := dkg_X3_12.2.2.2.2.2.2.2.2.2.1
theorem dkg_X3_13 : dkp cX3_gatherPart [(0, .aload_n 1, 1), (1, .ifnonnull 4, 3), (4, .return_, 1), (5, .aload_n 1, 1), (6, .astore_n 2, 1), (7, .aload_n 2, 1), (8, .ifnull 46, 3), (11, .iconst 0, 1), (12, .istore_n 3, 1), (13, .iload_n 3, 1)] := dkf (by decide +kernel)
theorem dX3_gatherPart_0 : decode cX3_gatherPart 0 = .ok (.aload_n 1, 1) := dkg_X3_13.1
theorem dX3_gatherPart_1 : decode cX3_gatherPart 1 = .ok (.ifnonnull 4, 3) := dkg_X3_13.2.1
theorem dX3_gatherPart_4 : decode cX3_gatherPart 4 = .ok (.return_, 1) := dkg_X3_13.2.2.1
theorem dX3_gatherPart_5 : decode cX3_gatherPart 5 = .ok (.aload_n 1, 1) := dkg_X3_13.2.2.2.1
theorem dX3_gatherPart_6 : decode cX3_gatherPart 6 = .ok (.astore_n 2, 1) := dkg_X3_13.2.2.2.2.1
theorem dX3_gatherPart_7 : decode cX3_gatherPart 7 = .ok (.aload_n 2, 1) := dkg_X3_13.2.2.2.2.2.1
theorem dX3_gatherPart_8 : decode cX3_gatherPart 8 = .ok (.ifnull 46, 3) := dkg_X3_13.2.2.2.2.2.2.1
theorem dX3_gatherPart_11 : decode cX3_gatherPart 11 = .ok (.iconst 0, 1) := dkg_X3_13.2.2.2.2.2.2.2.1
theorem dX3_gatherPart_12 : decode cX3_gatherPart 12 = .ok (.istore_n 3, 1) := dkg_X3_13.2.2.2.2.2.2.2.2.1
theorem dX3_gatherPart_13 : decode cX3_gatherPart 13 = .ok (.iload_n 3, 1) := dkg_X3_13.2.2.2.2.2.2.2.2.2.1
theorem dkg_X3_14 : dkp cX3_gatherPart [(14, .aload_n 2, 1), (15, .getfield 94, 3), (18, .invokevirtual 78, 3), (21, .if_icmp .ge 25, 3), (24, .aload_n 0, 1), (25, .aload_n 2, 1), (26, .getfield 94, 3), (29, .iload_n 3, 1), (30, .invokevirtual 82, 3), (33, .checkcast 86, 3)] := dkf (by decide +kernel)
theorem dX3_gatherPart_14 : decode cX3_gatherPart 14 = .ok (.aload_n 2, 1) := dkg_X3_14.1
theorem dX3_gatherPart_15 : decode cX3_gatherPart 15 = .ok (.getfield 94, 3) := dkg_X3_14.2.1
theorem dX3_gatherPart_18 : decode cX3_gatherPart 18 = .ok (.invokevirtual 78, 3) := dkg_X3_14.2.2.1
theorem dX3_gatherPart_21 : decode cX3_gatherPart 21 = .ok (.if_icmp .ge 25, 3) := dkg_X3_14.2.2.2.1
theorem dX3_gatherPart_24 : decode cX3_gatherPart 24 = .ok (.aload_n 0, 1) := dkg_X3_14.2.2.2.2.1
theorem dX3_gatherPart_25 : decode cX3_gatherPart 25 = .ok (.aload_n 2, 1) := dkg_X3_14.2.2.2.2.2.1
theorem dX3_gatherPart_26 : decode cX3_gatherPart 26 = .ok (.getfield 94, 3) := dkg_X3_14.2.2.2.2.2.2.1
theorem dX3_gatherPart_29 : decode cX3_gatherPart 29 = .ok (.iload_n 3, 1) := dkg_X3_14.2.2.2.2.2.2.2.1
theorem dX3_gatherPart_30 : decode cX3_gatherPart 30 = .ok (.invokevirtual 82, 3) := dkg_X3_14.2.2.2.2.2.2.2.2.1
theorem dX3_gatherPart_33 : decode cX3_gatherPart 33 = .ok (.checkcast 86, 3) := dkg_X3_14.2.2.2.2.2.2.2.2.2.1
theorem dkg_X3_15 : dkp cX3_gatherPart [(36, .invokevirtual 97, 3), (39, .pop, 1), (40, .iinc 3 1, 3), (43, .goto (-30), 3), (46, .aload_n 2, 1), (47, .getfield 55, 3), (50, .astore_n 2, 1), (51, .goto (-44), 3), (54, .aload_n 0, 1), (55, .aload_n 1, 1)] := dkf (by decide +kernel)
theorem dX3_gatherPart_36 : decode cX3_gatherPart 36 = .ok (.invokevirtual 97, 3) := dkg_X3_15.1
theorem dX3_gatherPart_39 : decode cX3_gatherPart 39 = .ok (.pop, 1) := dkg_X3_15.2.1
theorem dX3_gatherPart_40 : decode cX3_gatherPart 40 = .ok (.iinc 3 1, 3) := dkg_X3_15.2.2.1
theorem dX3_gatherPart_43 : decode cX3_gatherPart 43 = .ok (.goto (-30), 3) := dkg_X3_15.2.2.2.1
theorem dX3_gatherPart_46 : decode cX3_gatherPart 46 = .ok (.aload_n 2, 1) := dkg_X3_15.2.2.2.2.1
theorem dX3_gatherPart_47 : decode cX3_gatherPart 47 = .ok (.getfield 55, 3) := dkg_X3_15.2.2.2.2.2.1
theorem dX3_gatherPart_50 : decode cX3_gatherPart 50 = .ok (.astore_n 2, 1) := dkg_X3_15.2.2.2.2.2.2.1
theorem dX3_gatherPart_51 : decode cX3_gatherPart 51 = .ok (.goto (-44), 3) := dkg_X3_15.2.2.2.2.2.2.2.1
theorem dX3_gatherPart_54 : decode cX3_gatherPart 54 = .ok (.aload_n 0, 1) := dkg_X3_15.2.2.2.2.2.2.2.2.1
theorem dX3_gatherPart_55 : decode cX3_gatherPart 55 = .ok (.aload_n 1, 1) := dkg_X3_15.2.2.2.2.2.2.2.2.2.1
theorem dkg_X3_16 : dkp cX3_gatherPart [(56, .getfield 63, 3), (59, .iconst 0, 1), (60, .aaload, 1), (61, .invokestatic 67, 3), (64, .aload_n 0, 1), (65, .aload_n 1, 1), (66, .getfield 63, 3), (69, .iconst 1, 1), (70, .aaload, 1), (71, .invokestatic 67, 3)] := dkf (by decide +kernel)
theorem dX3_gatherPart_56 : decode cX3_gatherPart 56 = .ok (.getfield 63, 3) := dkg_X3_16.1
theorem dX3_gatherPart_59 : decode cX3_gatherPart 59 = .ok (.iconst 0, 1) := dkg_X3_16.2.1
theorem dX3_gatherPart_60 : decode cX3_gatherPart 60 = .ok (.aaload, 1) := dkg_X3_16.2.2.1
theorem dX3_gatherPart_61 : decode cX3_gatherPart 61 = .ok (.invokestatic 67, 3) := dkg_X3_16.2.2.2.1
theorem dX3_gatherPart_64 : decode cX3_gatherPart 64 = .ok (.aload_n 0, 1) := dkg_X3_16.2.2.2.2.1
theorem dX3_gatherPart_65 : decode cX3_gatherPart 65 = .ok (.aload_n 1, 1) := dkg_X3_16.2.2.2.2.2.1
theorem dX3_gatherPart_66 : decode cX3_gatherPart 66 = .ok (.getfield 63, 3) := dkg_X3_16.2.2.2.2.2.2.1
theorem dX3_gatherPart_69 : decode cX3_gatherPart 69 = .ok (.iconst 1, 1) := dkg_X3_16.2.2.2.2.2.2.2.1
theorem dX3_gatherPart_70 : decode cX3_gatherPart 70 = .ok (.aaload, 1) := dkg_X3_16.2.2.2.2.2.2.2.2.1
theorem dX3_gatherPart_71 : decode cX3_gatherPart 71 = .ok (.invokestatic 67, 3) := dkg_X3_16.2.2.2.2.2.2.2.2.2.1
theorem dkg_X3_17 : dkp cX3_gatherPart [(74, .return_, 1)] := dkf (by decide +kernel)
theorem dX3_gatherPart_74 : decode cX3_gatherPart 74 = .ok (.return_, 1) := dkg_X3_17.1
theorem dkg_X3_18 : dkp cX3_addIndicator [(0, .aload_n 1, 1), (1, .ifnull 9, 3), (4, .aload_n 0, 1), (5, .aload_n 1, 1), (6, .invokevirtual 97, 3), (9, .pop, 1), (10, .return_, 1)] := dkf (by decide +kernel)
theorem dX3_addIndicator_0 : decode cX3_addIndicator 0 = .ok (.aload_n 1, 1) := dkg_X3_18.1
theorem dX3_addIndicator_1 : decode cX3_addIndicator 1 = .ok (.ifnull 9, 3) := dkg_X3_18.2.1
theorem dX3_addIndicator_4 : decode cX3_addIndicator 4 = .ok (.aload_n 0, 1) := dkg_X3_18.2.2.1
theorem dX3_addIndicator_5 : decode cX3_addIndicator 5 = .ok (.aload_n 1, 1) := dkg_X3_18.2.2.2.1
theorem dX3_addIndicator_6 : decode cX3_addIndicator 6 = .ok (.invokevirtual 97, 3) := dkg_X3_18.2.2.2.2.1
theorem dX3_addIndicator_9 : decode cX3_addIndicator 9 = .ok (.pop, 1) := dkg_X3_18.2.2.2.2.2.1
theorem dX3_addIndicator_10 : decode cX3_addIndicator 10 = .ok (.return_, 1) := dkg_X3_18.2.2.2.2.2.2.1
theorem dkg_X3_19 : dkp cX3_rowsOf [(0, .iload_n 1, 1), (1, .ifCond .eq 10, 3), (4, .aload_n 0, 1), (5, .getfield 18, 3), (8, .goto 7, 3), (11, .aload_n 0, 1), (12, .getfield 12, 3), (15, .areturn, 1)] := dkf (by decide +kernel)
theorem dX3_rowsOf_0 : decode cX3_rowsOf 0 = .ok (.iload_n 1, 1) := dkg_X3_19.1
theorem dX3_rowsOf_1 : decode cX3_rowsOf 1 = .ok (.ifCond .eq 10, 3) := dkg_X3_19.2.1
theorem dX3_rowsOf_4 : decode cX3_rowsOf 4 = .ok (.aload_n 0, 1) := dkg_X3_19.2.2.1
theorem dX3_rowsOf_5 : decode cX3_rowsOf 5 = .ok (.getfield 18, 3) := dkg_X3_19.2.2.2.1
theorem dX3_rowsOf_8 : decode cX3_rowsOf 8 = .ok (.goto 7, 3) := dkg_X3_19.2.2.2.2.1
theorem dX3_rowsOf_11 : decode cX3_rowsOf 11 = .ok (.aload_n 0, 1) := dkg_X3_19.2.2.2.2.2.1
theorem dX3_rowsOf_12 : decode cX3_rowsOf 12 = .ok (.getfield 12, 3) := dkg_X3_19.2.2.2.2.2.2.1
theorem dX3_rowsOf_15 : decode cX3_rowsOf 15 = .ok (.areturn, 1) := dkg_X3_19.2.2.2.2.2.2.2.1
theorem dkg_X3_20 : dkp cX3_isReadable [(0, .aload_n 0, 1), (1, .invokevirtual 78, 3), (4, .istore_n 2, 1), (5, .iconst 0, 1), (6, .istore_n 3, 1), (7, .iload_n 3, 1), (8, .iload_n 2, 1), (9, .if_icmp .ge 70, 3), (12, .aload_n 0, 1), (13, .iload_n 3, 1)] := dkf (by decide +kernel)
theorem dX3_isReadable_0 : decode cX3_isReadable 0 = .ok (.aload_n 0, 1) := dkg_X3_20.1
theorem dX3_isReadable_1 : decode cX3_isReadable 1 = .ok (.invokevirtual 78, 3) := dkg_X3_20.2.1
theorem dX3_isReadable_4 : decode cX3_isReadable 4 = .ok (.istore_n 2, 1) := dkg_X3_20.2.2.1
theorem dX3_isReadable_5 : decode cX3_isReadable 5 = .ok (.iconst 0, 1) := dkg_X3_20.2.2.2.1
theorem dX3_isReadable_6 : decode cX3_isReadable 6 = .ok (.istore_n 3, 1) := dkg_X3_20.2.2.2.2.1
theorem dX3_isReadable_7 : decode cX3_isReadable 7 = .ok (.iload_n 3, 1) := dkg_X3_20.2.2.2.2.2.1
theorem dX3_isReadable_8 : decode cX3_isReadable 8 = .ok (.iload_n 2, 1) := dkg_X3_20.2.2.2.2.2.2.1
theorem dX3_isReadable_9 : decode cX3_isReadable 9 = .ok (.if_icmp .ge 70, 3) := dkg_X3_20.2.2.2.2.2.2.2.1
theorem dX3_isReadable_12 : decode cX3_isReadable 12 = .ok (.aload_n 0, 1) := dkg_X3_20.2.2.2.2.2.2.2.2.1
theorem dX3_isReadable_13 : decode cX3_isReadable 13 = .ok (.iload_n 3, 1) := dkg_X3_20.2.2.2.2.2.2.2.2.2.1
theorem dkg_X3_21 : dkp cX3_isReadable [(14, .invokevirtual 82, 3), (17, .checkcast 86, 3), (20, .astore 4, 2), (22, .aload 4, 2), (24, .iload_n 1, 1), (25, .invokevirtual 100, 3), (28, .ifCond .eq 5, 3), (31, .iconst 0, 1), (32, .ireturn, 1), (33, .iconst 0, 1)] := dkf (by decide +kernel)
theorem dX3_isReadable_14 : decode cX3_isReadable 14 = .ok (.invokevirtual 82, 3) := dkg_X3_21.1
theorem dX3_isReadable_17 : decode cX3_isReadable 17 = .ok (.checkcast 86, 3) := dkg_X3_21.2.1
theorem dX3_isReadable_20 : decode cX3_isReadable 20 = .ok (.astore 4, 2) := dkg_X3_21.2.2.1
theorem dX3_isReadable_22 : decode cX3_isReadable 22 = .ok (.aload 4, 2) := dkg_X3_21.2.2.2.1
theorem dX3_isReadable_24 : decode cX3_isReadable 24 = .ok (.iload_n 1, 1) := dkg_X3_21.2.2.2.2.1
theorem dX3_isReadable_25 : decode cX3_isReadable 25 = .ok (.invokevirtual 100, 3) := dkg_X3_21.2.2.2.2.2.1
theorem dX3_isReadable_28 : decode cX3_isReadable 28 = .ok (.ifCond .eq 5, 3) := dkg_X3_21.2.2.2.2.2.2.1
theorem dX3_isReadable_31 : decode cX3_isReadable 31 = .ok (.iconst 0, 1) := dkg_X3_21.2.2.2.2.2.2.2.1
theorem dX3_isReadable_32 : decode cX3_isReadable 32 = .ok (.ireturn, 1) := dkg_X3_21.2.2.2.2.2.2.2.2.1
theorem dX3_isReadable_33 : decode cX3_isReadable 33 = .ok (.iconst 0, 1) := dkg_X3_21.2.2.2.2.2.2.2.2.2.1
theorem dkg_X3_22 : dkp cX3_isReadable [(34, .istore 5, 2), (36, .iload 5, 2), (38, .iload_n 2, 1), (39, .if_icmp .ge 34, 3), (42, .iload 5, 2), (44, .iload_n 3, 1), (45, .if_icmp .eq 22, 3), (48, .aload 4, 2), (50, .aload_n 0, 1), (51, .iload 5, 2)] := dkf (by decide +kernel)
theorem dX3_isReadable_34 : decode cX3_isReadable 34 = .ok (.istore 5, 2) := dkg_X3_22.1
theorem dX3_isReadable_36 : decode cX3_isReadable 36 = .ok (.iload 5, 2) := dkg_X3_22.2.1
theorem dX3_isReadable_38 : decode cX3_isReadable 38 = .ok (.iload_n 2, 1) := dkg_X3_22.2.2.1
theorem dX3_isReadable_39 : decode cX3_isReadable 39 = .ok (.if_icmp .ge 34, 3) := dkg_X3_22.2.2.2.1
theorem dX3_isReadable_42 : decode cX3_isReadable 42 = .ok (.iload 5, 2) := dkg_X3_22.2.2.2.2.1
theorem dX3_isReadable_44 : decode cX3_isReadable 44 = .ok (.iload_n 3, 1) := dkg_X3_22.2.2.2.2.2.1
theorem dX3_isReadable_45 : decode cX3_isReadable 45 = .ok (.if_icmp .eq 22, 3) := dkg_X3_22.2.2.2.2.2.2.1
theorem dX3_isReadable_48 : decode cX3_isReadable 48 = .ok (.aload 4, 2) := dkg_X3_22.2.2.2.2.2.2.2.1
theorem dX3_isReadable_50 : decode cX3_isReadable 50 = .ok (.aload_n 0, 1) := dkg_X3_22.2.2.2.2.2.2.2.2.1
theorem dX3_isReadable_51 : decode cX3_isReadable 51 = .ok (.iload 5, 2) := dkg_X3_22.2.2.2.2.2.2.2.2.2.1
theorem dkg_X3_23 : dkp cX3_isReadable [(53, .invokevirtual 82, 3), (56, .checkcast 86, 3), (59, .invokevirtual 104, 3), (62, .ifCond .eq 5, 3), (65, .iconst 0, 1), (66, .ireturn, 1), (67, .iinc 5 1, 3), (70, .goto (-34), 3), (73, .iinc 3 1, 3), (76, .goto (-69), 3)] := dkf (by decide +kernel)
theorem dX3_isReadable_53 : decode cX3_isReadable 53 = .ok (.invokevirtual 82, 3) := dkg_X3_23.1
theorem dX3_isReadable_56 : decode cX3_isReadable 56 = .ok (.checkcast 86, 3) := dkg_X3_23.2.1
theorem dX3_isReadable_59 : decode cX3_isReadable 59 = .ok (.invokevirtual 104, 3) := dkg_X3_23.2.2.1
theorem dX3_isReadable_62 : decode cX3_isReadable 62 = .ok (.ifCond .eq 5, 3) := dkg_X3_23.2.2.2.1
theorem dX3_isReadable_65 : decode cX3_isReadable 65 = .ok (.iconst 0, 1) := dkg_X3_23.2.2.2.2.1
theorem dX3_isReadable_66 : decode cX3_isReadable 66 = .ok (.ireturn, 1) := dkg_X3_23.2.2.2.2.2.1
theorem dX3_isReadable_67 : decode cX3_isReadable 67 = .ok (.iinc 5 1, 3) := dkg_X3_23.2.2.2.2.2.2.1
theorem dX3_isReadable_70 : decode cX3_isReadable 70 = .ok (.goto (-34), 3) := dkg_X3_23.2.2.2.2.2.2.2.1
theorem dX3_isReadable_73 : decode cX3_isReadable 73 = .ok (.iinc 3 1, 3) := dkg_X3_23.2.2.2.2.2.2.2.2.1
theorem dX3_isReadable_76 : decode cX3_isReadable 76 = .ok (.goto (-69), 3) := dkg_X3_23.2.2.2.2.2.2.2.2.2.1
theorem dkg_X3_24 : dkp cX3_isReadable [(79, .iconst 1, 1), (80, .ireturn, 1)] := dkf (by decide +kernel)
theorem dX3_isReadable_79 : decode cX3_isReadable 79 = .ok (.iconst 1, 1) := dkg_X3_24.1
theorem dX3_isReadable_80 : decode cX3_isReadable 80 = .ok (.ireturn, 1) := dkg_X3_24.2.1
theorem dkg_X3_25 : dkp cX3_clearCells [(0, .aload_n 0, 1), (1, .getfield 34, 3), (4, .invokevirtual 77, 3), (7, .aload_n 0, 1), (8, .getfield 37, 3), (11, .invokevirtual 77, 3), (14, .return_, 1)] := dkf (by decide +kernel)
theorem dX3_clearCells_0 : decode cX3_clearCells 0 = .ok (.aload_n 0, 1) := dkg_X3_25.1
theorem dX3_clearCells_1 : decode cX3_clearCells 1 = .ok (.getfield 34, 3) := dkg_X3_25.2.1
theorem dX3_clearCells_4 : decode cX3_clearCells 4 = .ok (.invokevirtual 77, 3) := dkg_X3_25.2.2.1
theorem dX3_clearCells_7 : decode cX3_clearCells 7 = .ok (.aload_n 0, 1) := dkg_X3_25.2.2.2.1
theorem dX3_clearCells_8 : decode cX3_clearCells 8 = .ok (.getfield 37, 3) := dkg_X3_25.2.2.2.2.1
theorem dX3_clearCells_11 : decode cX3_clearCells 11 = .ok (.invokevirtual 77, 3) := dkg_X3_25.2.2.2.2.2.1
theorem dX3_clearCells_14 : decode cX3_clearCells 14 = .ok (.return_, 1) := dkg_X3_25.2.2.2.2.2.2.1
theorem dkg_X3_26 : dkp cX3_addCell [(0, .aload_n 0, 1), (1, .getfield 34, 3), (4, .iload_n 1, 1), (5, .invokevirtual 91, 3), (8, .aload_n 0, 1), (9, .getfield 37, 3), (12, .iload_n 2, 1), (13, .invokevirtual 91, 3), (16, .return_, 1)] := dkf (by decide +kernel)
theorem dX3_addCell_0 : decode cX3_addCell 0 = .ok (.aload_n 0, 1) := dkg_X3_26.1
theorem dX3_addCell_1 : decode cX3_addCell 1 = .ok (.getfield 34, 3) := dkg_X3_26.2.1
theorem dX3_addCell_4 : decode cX3_addCell 4 = .ok (.iload_n 1, 1) := dkg_X3_26.2.2.1
theorem dX3_addCell_5 : decode cX3_addCell 5 = .ok (.invokevirtual 91, 3) := dkg_X3_26.2.2.2.1
theorem dX3_addCell_8 : decode cX3_addCell 8 = .ok (.aload_n 0, 1) := dkg_X3_26.2.2.2.2.1
theorem dX3_addCell_9 : decode cX3_addCell 9 = .ok (.getfield 37, 3) := dkg_X3_26.2.2.2.2.2.1
theorem dX3_addCell_12 : decode cX3_addCell 12 = .ok (.iload_n 2, 1) := dkg_X3_26.2.2.2.2.2.2.1
theorem dX3_addCell_13 : decode cX3_addCell 13 = .ok (.invokevirtual 91, 3) := dkg_X3_26.2.2.2.2.2.2.2.1
theorem dX3_addCell_16 : decode cX3_addCell 16 = .ok (.return_, 1) := dkg_X3_26.2.2.2.2.2.2.2.2.1
theorem dkg_X3_27 : dkp cX3_chain [(0, .aload_n 1, 1), (1, .iload_n 3, 1), (2, .invokevirtual 108, 3), (5, .istore 5, 2), (7, .iload 5, 2), (9, .ifCond .eq 12, 3), (12, .aload_n 1, 1), (13, .getfield 111, 3), (16, .iconst 1, 1), (17, .isub, 1)] := dkf (by decide +kernel)
theorem dX3_chain_0 : decode cX3_chain 0 = .ok (.aload_n 1, 1) := dkg_X3_27.1
theorem dX3_chain_1 : decode cX3_chain 1 = .ok (.iload_n 3, 1) := dkg_X3_27.2.1
theorem dX3_chain_2 : decode cX3_chain 2 = .ok (.invokevirtual 108, 3) := dkg_X3_27.2.2.1
theorem dX3_chain_5 : decode cX3_chain 5 = .ok (.istore 5, 2) := dkg_X3_27.2.2.2.1
theorem dX3_chain_7 : decode cX3_chain 7 = .ok (.iload 5, 2) := dkg_X3_27.2.2.2.2.1
theorem dX3_chain_9 : decode cX3_chain 9 = .ok (.ifCond .eq 12, 3) := dkg_X3_27.2.2.2.2.2.1
theorem dX3_chain_12 : decode cX3_chain 12 = .ok (.aload_n 1, 1) := dkg_X3_27.2.2.2.2.2.2.1
theorem dX3_chain_13 : decode cX3_chain 13 = .ok (.getfield 111, 3) := dkg_X3_27.2.2.2.2.2.2.2.1
theorem dX3_chain_16 : decode cX3_chain 16 = .ok (.iconst 1, 1) := dkg_X3_27.2.2.2.2.2.2.2.2.1
theorem dX3_chain_17 : decode cX3_chain 17 = .ok (.isub, 1) := dkg_X3_27.2.2.2.2.2.2.2.2.2.1
theorem dkg_X3_28 : dkp cX3_chain [(18, .goto 7, 3), (21, .aload_n 1, 1), (22, .getfield 111, 3), (25, .istore 6, 2), (27, .iconst 0, 1), (28, .istore 7, 2), (30, .iload 7, 2), (32, .iload 6, 2), (34, .if_icmp .ge 28, 3), (37, .aload_n 0, 1)] := dkf (by decide +kernel)
theorem dX3_chain_18 : decode cX3_chain 18 = .ok (.goto 7, 3) := dkg_X3_28.1
theorem dX3_chain_21 : decode cX3_chain 21 = .ok (.aload_n 1, 1) := dkg_X3_28.2.1
theorem dX3_chain_22 : decode cX3_chain 22 = .ok (.getfield 111, 3) := dkg_X3_28.2.2.1
theorem dX3_chain_25 : decode cX3_chain 25 = .ok (.istore 6, 2) := dkg_X3_28.2.2.2.1
theorem dX3_chain_27 : decode cX3_chain 27 = .ok (.iconst 0, 1) := dkg_X3_28.2.2.2.2.1
theorem dX3_chain_28 : decode cX3_chain 28 = .ok (.istore 7, 2) := dkg_X3_28.2.2.2.2.2.1
theorem dX3_chain_30 : decode cX3_chain 30 = .ok (.iload 7, 2) := dkg_X3_28.2.2.2.2.2.2.1
theorem dX3_chain_32 : decode cX3_chain 32 = .ok (.iload 6, 2) := dkg_X3_28.2.2.2.2.2.2.2.1
theorem dX3_chain_34 : decode cX3_chain 34 = .ok (.if_icmp .ge 28, 3) := dkg_X3_28.2.2.2.2.2.2.2.2.1
theorem dX3_chain_37 : decode cX3_chain 37 = .ok (.aload_n 0, 1) := dkg_X3_28.2.2.2.2.2.2.2.2.2.1
theorem dkg_X3_29 : dkp cX3_chain [(38, .aload_n 1, 1), (39, .getfield 113, 3), (42, .iload 7, 2), (44, .iaload, 1), (45, .iload_n 2, 1), (46, .sipush 1000, 3), (49, .imul, 1), (50, .iload 7, 2), (52, .iadd, 1), (53, .invokevirtual 114, 3)] := dkf (by decide +kernel)
theorem dX3_chain_38 : decode cX3_chain 38 = .ok (.aload_n 1, 1) := dkg_X3_29.1
theorem dX3_chain_39 : decode cX3_chain 39 = .ok (.getfield 113, 3) := dkg_X3_29.2.1
theorem dX3_chain_42 : decode cX3_chain 42 = .ok (.iload 7, 2) := dkg_X3_29.2.2.1
theorem dX3_chain_44 : decode cX3_chain 44 = .ok (.iaload, 1) := dkg_X3_29.2.2.2.1
theorem dX3_chain_45 : decode cX3_chain 45 = .ok (.iload_n 2, 1) := dkg_X3_29.2.2.2.2.1
theorem dX3_chain_46 : decode cX3_chain 46 = .ok (.sipush 1000, 3) := dkg_X3_29.2.2.2.2.2.1
theorem dX3_chain_49 : decode cX3_chain 49 = .ok (.imul, 1) := dkg_X3_29.2.2.2.2.2.2.1
theorem dX3_chain_50 : decode cX3_chain 50 = .ok (.iload 7, 2) := dkg_X3_29.2.2.2.2.2.2.2.1
theorem dX3_chain_52 : decode cX3_chain 52 = .ok (.iadd, 1) := dkg_X3_29.2.2.2.2.2.2.2.2.1
theorem dX3_chain_53 : decode cX3_chain 53 = .ok (.invokevirtual 114, 3) := dkg_X3_29.2.2.2.2.2.2.2.2.2.1
theorem dkg_X3_30 : dkp cX3_chain [(56, .iinc 7 1, 3), (59, .goto (-29), 3), (62, .iload 5, 2), (64, .ifCond .ne 14, 3), (67, .iload 4, 2), (69, .ifCond .ne 9, 3), (72, .aload_n 0, 1), (73, .iconst 0, 1), (74, .iconst (-1), 1), (75, .invokevirtual 114, 3)] := dkf (by decide +kernel)
theorem dX3_chain_56 : decode cX3_chain 56 = .ok (.iinc 7 1, 3) := dkg_X3_30.1
theorem dX3_chain_59 : decode cX3_chain 59 = .ok (.goto (-29), 3) := dkg_X3_30.2.1
theorem dX3_chain_62 : decode cX3_chain 62 = .ok (.iload 5, 2) := dkg_X3_30.2.2.1
theorem dX3_chain_64 : decode cX3_chain 64 = .ok (.ifCond .ne 14, 3) := dkg_X3_30.2.2.2.1
theorem dX3_chain_67 : decode cX3_chain 67 = .ok (.iload 4, 2) := dkg_X3_30.2.2.2.2.1
theorem dX3_chain_69 : decode cX3_chain 69 = .ok (.ifCond .ne 9, 3) := dkg_X3_30.2.2.2.2.2.1
theorem dX3_chain_72 : decode cX3_chain 72 = .ok (.aload_n 0, 1) := dkg_X3_30.2.2.2.2.2.2.1
theorem dX3_chain_73 : decode cX3_chain 73 = .ok (.iconst 0, 1) := dkg_X3_30.2.2.2.2.2.2.2.1
theorem dX3_chain_74 : decode cX3_chain 74 = .ok (.iconst (-1), 1) := dkg_X3_30.2.2.2.2.2.2.2.2.1
theorem dX3_chain_75 : decode cX3_chain 75 = .ok (.invokevirtual 114, 3) := dkg_X3_30.2.2.2.2.2.2.2.2.2.1
theorem dkg_X3_31 : dkp cX3_chain [(78, .return_, 1)] := dkf (by decide +kernel)
theorem dX3_chain_78 : decode cX3_chain 78 = .ok (.return_, 1) := dkg_X3_31.1
theorem dkg_X3_32 : dkp cX3_decode [(0, .aload_n 0, 1), (1, .getfield 40, 3), (4, .invokevirtual 77, 3), (7, .iconst 1, 1), (8, .istore_n 1, 1), (9, .iconst 0, 1), (10, .istore_n 2, 1), (11, .iload_n 2, 1), (12, .aload_n 0, 1), (13, .getfield 34, 3)] := dkf (by decide +kernel)
theorem dX3_decode_0 : decode cX3_decode 0 = .ok (.aload_n 0, 1) := dkg_X3_32.1
theorem dX3_decode_1 : decode cX3_decode 1 = .ok (.getfield 40, 3) := dkg_X3_32.2.1
theorem dX3_decode_4 : decode cX3_decode 4 = .ok (.invokevirtual 77, 3) := dkg_X3_32.2.2.1
theorem dX3_decode_7 : decode cX3_decode 7 = .ok (.iconst 1, 1) := dkg_X3_32.2.2.2.1
theorem dX3_decode_8 : decode cX3_decode 8 = .ok (.istore_n 1, 1) := dkg_X3_32.2.2.2.2.1
theorem dX3_decode_9 : decode cX3_decode 9 = .ok (.iconst 0, 1) := dkg_X3_32.2.2.2.2.2.1
theorem dX3_decode_10 : decode cX3_decode 10 = .ok (.istore_n 2, 1) := dkg_X3_32.2.2.2.2.2.2.1
theorem dX3_decode_11 : decode cX3_decode 11 = .ok (.iload_n 2, 1) := dkg_X3_32.2.2.2.2.2.2.2.1
theorem dX3_decode_12 : decode cX3_decode 12 = .ok (.aload_n 0, 1) := dkg_X3_32.2.2.2.2.2.2.2.2.1
theorem dX3_decode_13 : decode cX3_decode 13 = .ok (.getfield 34, 3) := dkg_X3_32.2.2.2.2.2.2.2.2.2.1
theorem dkg_X3_33 : dkp cX3_decode [(16, .getfield 118, 3), (19, .if_icmp .ge 53, 3), (22, .aload_n 0, 1), (23, .getfield 34, 3), (26, .iload_n 2, 1), (27, .invokevirtual 119, 3), (30, .ifCond .ne 9, 3), (33, .iinc 2 1, 3), (36, .goto (-25), 3), (39, .iload_n 1, 1)] := dkf (by decide +kernel)
theorem dX3_decode_16 : decode cX3_decode 16 = .ok (.getfield 118, 3) := dkg_X3_33.1
theorem dX3_decode_19 : decode cX3_decode 19 = .ok (.if_icmp .ge 53, 3) := dkg_X3_33.2.1
theorem dX3_decode_22 : decode cX3_decode 22 = .ok (.aload_n 0, 1) := dkg_X3_33.2.2.1
theorem dX3_decode_23 : decode cX3_decode 23 = .ok (.getfield 34, 3) := dkg_X3_33.2.2.2.1
theorem dX3_decode_26 : decode cX3_decode 26 = .ok (.iload_n 2, 1) := dkg_X3_33.2.2.2.2.1
theorem dX3_decode_27 : decode cX3_decode 27 = .ok (.invokevirtual 119, 3) := dkg_X3_33.2.2.2.2.2.1
theorem dX3_decode_30 : decode cX3_decode 30 = .ok (.ifCond .ne 9, 3) := dkg_X3_33.2.2.2.2.2.2.1
theorem dX3_decode_33 : decode cX3_decode 33 = .ok (.iinc 2 1, 3) := dkg_X3_33.2.2.2.2.2.2.2.1
theorem dX3_decode_36 : decode cX3_decode 36 = .ok (.goto (-25), 3) := dkg_X3_33.2.2.2.2.2.2.2.2.1
theorem dX3_decode_39 : decode cX3_decode 39 = .ok (.iload_n 1, 1) := dkg_X3_33.2.2.2.2.2.2.2.2.2.1
theorem dkg_X3_34 : dkp cX3_decode [(40, .ifCond .ne 12, 3), (43, .aload_n 0, 1), (44, .getfield 40, 3), (47, .bipush 32, 2), (49, .invokevirtual 91, 3), (52, .iconst 0, 1), (53, .istore_n 1, 1), (54, .aload_n 0, 1), (55, .iload_n 2, 1), (56, .invokevirtual 123, 3)] := dkf (by decide +kernel)
theorem dX3_decode_40 : decode cX3_decode 40 = .ok (.ifCond .ne 12, 3) := dkg_X3_34.1
theorem dX3_decode_43 : decode cX3_decode 43 = .ok (.aload_n 0, 1) := dkg_X3_34.2.1
theorem dX3_decode_44 : decode cX3_decode 44 = .ok (.getfield 40, 3) := dkg_X3_34.2.2.1
theorem dX3_decode_47 : decode cX3_decode 47 = .ok (.bipush 32, 2) := dkg_X3_34.2.2.2.1
theorem dX3_decode_49 : decode cX3_decode 49 = .ok (.invokevirtual 91, 3) := dkg_X3_34.2.2.2.2.1
theorem dX3_decode_52 : decode cX3_decode 52 = .ok (.iconst 0, 1) := dkg_X3_34.2.2.2.2.2.1
theorem dX3_decode_53 : decode cX3_decode 53 = .ok (.istore_n 1, 1) := dkg_X3_34.2.2.2.2.2.2.1
theorem dX3_decode_54 : decode cX3_decode 54 = .ok (.aload_n 0, 1) := dkg_X3_34.2.2.2.2.2.2.2.1
theorem dX3_decode_55 : decode cX3_decode 55 = .ok (.iload_n 2, 1) := dkg_X3_34.2.2.2.2.2.2.2.2.1
theorem dX3_decode_56 : decode cX3_decode 56 = .ok (.invokevirtual 123, 3) := dkg_X3_34.2.2.2.2.2.2.2.2.2.1
theorem dkg_X3_35 : dkp cX3_decode [(59, .istore_n 3, 1), (60, .iload_n 3, 1), (61, .iload_n 2, 1), (62, .if_icmp .gt 5, 3), (65, .iconst 0, 1), (66, .ireturn, 1), (67, .iload_n 3, 1), (68, .istore_n 2, 1), (69, .goto (-58), 3), (72, .iconst 1, 1)] := dkf (by decide +kernel)
theorem dX3_decode_59 : decode cX3_decode 59 = .ok (.istore_n 3, 1) := dkg_X3_35.1
theorem dX3_decode_60 : decode cX3_decode 60 = .ok (.iload_n 3, 1) := dkg_X3_35.2.1
theorem dX3_decode_61 : decode cX3_decode 61 = .ok (.iload_n 2, 1) := dkg_X3_35.2.2.1
theorem dX3_decode_62 : decode cX3_decode 62 = .ok (.if_icmp .gt 5, 3) := dkg_X3_35.2.2.2.1
theorem dX3_decode_65 : decode cX3_decode 65 = .ok (.iconst 0, 1) := dkg_X3_35.2.2.2.2.1
theorem dX3_decode_66 : decode cX3_decode 66 = .ok (.ireturn, 1) := dkg_X3_35.2.2.2.2.2.1
theorem dX3_decode_67 : decode cX3_decode 67 = .ok (.iload_n 3, 1) := dkg_X3_35.2.2.2.2.2.2.1
theorem dX3_decode_68 : decode cX3_decode 68 = .ok (.istore_n 2, 1) := dkg_X3_35.2.2.2.2.2.2.2.1
theorem dX3_decode_69 : decode cX3_decode 69 = .ok (.goto (-58), 3) := dkg_X3_35.2.2.2.2.2.2.2.2.1
theorem dX3_decode_72 : decode cX3_decode 72 = .ok (.iconst 1, 1) := dkg_X3_35.2.2.2.2.2.2.2.2.2.1
theorem dkg_X3_36 : dkp cX3_decode [(73, .ireturn, 1)] := dkf (by decide +kernel)
theorem dX3_decode_73 : decode cX3_decode 73 = .ok (.ireturn, 1) := dkg_X3_36.1
theorem dkg_X3_37 : dkp cX3_decodeWord [(0, .iconst 0, 1), (1, .istore_n 2, 1), (2, .iconst 0, 1), (3, .istore_n 3, 1), (4, .iload_n 1, 1), (5, .istore 4, 2), (7, .iload 4, 2), (9, .aload_n 0, 1), (10, .getfield 34, 3), (13, .getfield 118, 3)] := dkf (by decide +kernel)
theorem dX3_decodeWord_0 : decode cX3_decodeWord 0 = .ok (.iconst 0, 1) := dkg_X3_37.1
theorem dX3_decodeWord_1 : decode cX3_decodeWord 1 = .ok (.istore_n 2, 1) := dkg_X3_37.2.1
theorem dX3_decodeWord_2 : decode cX3_decodeWord 2 = .ok (.iconst 0, 1) := dkg_X3_37.2.2.1
theorem dX3_decodeWord_3 : decode cX3_decodeWord 3 = .ok (.istore_n 3, 1) := dkg_X3_37.2.2.2.1
theorem dX3_decodeWord_4 : decode cX3_decodeWord 4 = .ok (.iload_n 1, 1) := dkg_X3_37.2.2.2.2.1
theorem dX3_decodeWord_5 : decode cX3_decodeWord 5 = .ok (.istore 4, 2) := dkg_X3_37.2.2.2.2.2.1
theorem dX3_decodeWord_7 : decode cX3_decodeWord 7 = .ok (.iload 4, 2) := dkg_X3_37.2.2.2.2.2.2.1
theorem dX3_decodeWord_9 : decode cX3_decodeWord 9 = .ok (.aload_n 0, 1) := dkg_X3_37.2.2.2.2.2.2.2.1
theorem dX3_decodeWord_10 : decode cX3_decodeWord 10 = .ok (.getfield 34, 3) := dkg_X3_37.2.2.2.2.2.2.2.2.1
theorem dX3_decodeWord_13 : decode cX3_decodeWord 13 = .ok (.getfield 118, 3) := dkg_X3_37.2.2.2.2.2.2.2.2.2.1
theorem dkg_X3_38 : dkp cX3_decodeWord [(16, .if_icmp .ge 142, 3), (19, .aload_n 0, 1), (20, .getfield 34, 3), (23, .iload 4, 2), (25, .invokevirtual 119, 3), (28, .ifCond .eq 130, 3), (31, .aload_n 0, 1), (32, .iload_n 2, 1), (33, .iload 4, 2), (35, .invokevirtual 126, 3)] := dkf (by decide +kernel)
theorem dX3_decodeWord_16 : decode cX3_decodeWord 16 = .ok (.if_icmp .ge 142, 3) := dkg_X3_38.1
theorem dX3_decodeWord_19 : decode cX3_decodeWord 19 = .ok (.aload_n 0, 1) := dkg_X3_38.2.1
theorem dX3_decodeWord_20 : decode cX3_decodeWord 20 = .ok (.getfield 34, 3) := dkg_X3_38.2.2.1
theorem dX3_decodeWord_23 : decode cX3_decodeWord 23 = .ok (.iload 4, 2) := dkg_X3_38.2.2.2.1
theorem dX3_decodeWord_25 : decode cX3_decodeWord 25 = .ok (.invokevirtual 119, 3) := dkg_X3_38.2.2.2.2.1
theorem dX3_decodeWord_28 : decode cX3_decodeWord 28 = .ok (.ifCond .eq 130, 3) := dkg_X3_38.2.2.2.2.2.1
theorem dX3_decodeWord_31 : decode cX3_decodeWord 31 = .ok (.aload_n 0, 1) := dkg_X3_38.2.2.2.2.2.2.1
theorem dX3_decodeWord_32 : decode cX3_decodeWord 32 = .ok (.iload_n 2, 1) := dkg_X3_38.2.2.2.2.2.2.2.1
theorem dX3_decodeWord_33 : decode cX3_decodeWord 33 = .ok (.iload 4, 2) := dkg_X3_38.2.2.2.2.2.2.2.2.1
theorem dX3_decodeWord_35 : decode cX3_decodeWord 35 = .ok (.invokevirtual 126, 3) := dkg_X3_38.2.2.2.2.2.2.2.2.2.1
theorem dkg_X3_39 : dkp cX3_decodeWord [(38, .astore 5, 2), (40, .aload 5, 2), (42, .ifnull 15, 3), (45, .iload_n 3, 1), (46, .ifCond .eq 19, 3), (49, .aload 5, 2), (51, .invokevirtual 130, 3), (54, .ifCond .ne 11, 3), (57, .aload_n 0, 1), (58, .iload 4, 2)] := dkf (by decide +kernel)
theorem dX3_decodeWord_38 : decode cX3_decodeWord 38 = .ok (.astore 5, 2) := dkg_X3_39.1
theorem dX3_decodeWord_40 : decode cX3_decodeWord 40 = .ok (.aload 5, 2) := dkg_X3_39.2.1
theorem dX3_decodeWord_42 : decode cX3_decodeWord 42 = .ok (.ifnull 15, 3) := dkg_X3_39.2.2.1
theorem dX3_decodeWord_45 : decode cX3_decodeWord 45 = .ok (.iload_n 3, 1) := dkg_X3_39.2.2.2.1
theorem dX3_decodeWord_46 : decode cX3_decodeWord 46 = .ok (.ifCond .eq 19, 3) := dkg_X3_39.2.2.2.2.1
theorem dX3_decodeWord_49 : decode cX3_decodeWord 49 = .ok (.aload 5, 2) := dkg_X3_39.2.2.2.2.2.1
theorem dX3_decodeWord_51 : decode cX3_decodeWord 51 = .ok (.invokevirtual 130, 3) := dkg_X3_39.2.2.2.2.2.2.1
theorem dX3_decodeWord_54 : decode cX3_decodeWord 54 = .ok (.ifCond .ne 11, 3) := dkg_X3_39.2.2.2.2.2.2.2.1
theorem dX3_decodeWord_57 : decode cX3_decodeWord 57 = .ok (.aload_n 0, 1) := dkg_X3_39.2.2.2.2.2.2.2.2.1
theorem dX3_decodeWord_58 : decode cX3_decodeWord 58 = .ok (.iload 4, 2) := dkg_X3_39.2.2.2.2.2.2.2.2.2.1
theorem dkg_X3_40 : dkp cX3_decodeWord [(60, .putfield 43, 3), (63, .iconst (-1), 1), (64, .ireturn, 1), (65, .aload 5, 2), (67, .getfield 134, 3), (70, .iconst 2, 1), (71, .if_icmp .eq 12, 3), (74, .aload 5, 2), (76, .getfield 134, 3), (79, .iconst 3, 1)] := dkf (by decide +kernel)
theorem dX3_decodeWord_60 : decode cX3_decodeWord 60 = .ok (.putfield 43, 3) := dkg_X3_40.1
theorem dX3_decodeWord_63 : decode cX3_decodeWord 63 = .ok (.iconst (-1), 1) := dkg_X3_40.2.1
theorem dX3_decodeWord_64 : decode cX3_decodeWord 64 = .ok (.ireturn, 1) := dkg_X3_40.2.2.1
theorem dX3_decodeWord_65 : decode cX3_decodeWord 65 = .ok (.aload 5, 2) := dkg_X3_40.2.2.2.1
theorem dX3_decodeWord_67 : decode cX3_decodeWord 67 = .ok (.getfield 134, 3) := dkg_X3_40.2.2.2.2.1
theorem dX3_decodeWord_70 : decode cX3_decodeWord 70 = .ok (.iconst 2, 1) := dkg_X3_40.2.2.2.2.2.1
theorem dX3_decodeWord_71 : decode cX3_decodeWord 71 = .ok (.if_icmp .eq 12, 3) := dkg_X3_40.2.2.2.2.2.2.1
theorem dX3_decodeWord_74 : decode cX3_decodeWord 74 = .ok (.aload 5, 2) := dkg_X3_40.2.2.2.2.2.2.2.1
theorem dX3_decodeWord_76 : decode cX3_decodeWord 76 = .ok (.getfield 134, 3) := dkg_X3_40.2.2.2.2.2.2.2.2.1
theorem dX3_decodeWord_79 : decode cX3_decodeWord 79 = .ok (.iconst 3, 1) := dkg_X3_40.2.2.2.2.2.2.2.2.2.1
theorem dkg_X3_41 : dkp cX3_decodeWord [(80, .if_icmp .ne 36, 3), (83, .aload 5, 2), (85, .getfield 134, 3), (88, .iconst 2, 1), (89, .if_icmp .ne 7, 3), (92, .iconst 1, 1), (93, .goto 4, 3), (96, .iconst 0, 1), (97, .istore_n 2, 1), (98, .aload_n 0, 1)] := dkf (by decide +kernel)
theorem dX3_decodeWord_80 : decode cX3_decodeWord 80 = .ok (.if_icmp .ne 36, 3) := dkg_X3_41.1
theorem dX3_decodeWord_83 : decode cX3_decodeWord 83 = .ok (.aload 5, 2) := dkg_X3_41.2.1
theorem dX3_decodeWord_85 : decode cX3_decodeWord 85 = .ok (.getfield 134, 3) := dkg_X3_41.2.2.1
theorem dX3_decodeWord_88 : decode cX3_decodeWord 88 = .ok (.iconst 2, 1) := dkg_X3_41.2.2.2.1
theorem dX3_decodeWord_89 : decode cX3_decodeWord 89 = .ok (.if_icmp .ne 7, 3) := dkg_X3_41.2.2.2.2.1
theorem dX3_decodeWord_92 : decode cX3_decodeWord 92 = .ok (.iconst 1, 1) := dkg_X3_41.2.2.2.2.2.1
theorem dX3_decodeWord_93 : decode cX3_decodeWord 93 = .ok (.goto 4, 3) := dkg_X3_41.2.2.2.2.2.2.1
theorem dX3_decodeWord_96 : decode cX3_decodeWord 96 = .ok (.iconst 0, 1) := dkg_X3_41.2.2.2.2.2.2.2.1
theorem dX3_decodeWord_97 : decode cX3_decodeWord 97 = .ok (.istore_n 2, 1) := dkg_X3_41.2.2.2.2.2.2.2.2.1
theorem dX3_decodeWord_98 : decode cX3_decodeWord 98 = .ok (.aload_n 0, 1) := dkg_X3_41.2.2.2.2.2.2.2.2.2.1
theorem dkg_X3_42 : dkp cX3_decodeWord [(99, .getfield 40, 3), (102, .iload_n 2, 1), (103, .ifCond .eq 8, 3), (106, .bipush 60, 2), (108, .goto 5, 3), (111, .bipush 62, 2), (113, .invokevirtual 91, 3), (116, .aload 5, 2), (118, .aload_n 0, 1), (119, .getfield 40, 3)] := dkf (by decide +kernel)
theorem dX3_decodeWord_99 : decode cX3_decodeWord 99 = .ok (.getfield 40, 3) := dkg_X3_42.1
theorem dX3_decodeWord_102 : decode cX3_decodeWord 102 = .ok (.iload_n 2, 1) := dkg_X3_42.2.1
theorem dX3_decodeWord_103 : decode cX3_decodeWord 103 = .ok (.ifCond .eq 8, 3) := dkg_X3_42.2.2.1
theorem dX3_decodeWord_106 : decode cX3_decodeWord 106 = .ok (.bipush 60, 2) := dkg_X3_42.2.2.2.1
theorem dX3_decodeWord_108 : decode cX3_decodeWord 108 = .ok (.goto 5, 3) := dkg_X3_42.2.2.2.2.1
theorem dX3_decodeWord_111 : decode cX3_decodeWord 111 = .ok (.bipush 62, 2) := dkg_X3_42.2.2.2.2.2.1
theorem dX3_decodeWord_113 : decode cX3_decodeWord 113 = .ok (.invokevirtual 91, 3) := dkg_X3_42.2.2.2.2.2.2.1
theorem dX3_decodeWord_116 : decode cX3_decodeWord 116 = .ok (.aload 5, 2) := dkg_X3_42.2.2.2.2.2.2.2.1
theorem dX3_decodeWord_118 : decode cX3_decodeWord 118 = .ok (.aload_n 0, 1) := dkg_X3_42.2.2.2.2.2.2.2.2.1
theorem dX3_decodeWord_119 : decode cX3_decodeWord 119 = .ok (.getfield 40, 3) := dkg_X3_42.2.2.2.2.2.2.2.2.2.1
theorem dkg_X3_43 : dkp cX3_decodeWord [(122, .iload_n 3, 1), (123, .invokevirtual 137, 3), (126, .aload 5, 2), (128, .getfield 134, 3), (131, .ifCond .ne 7, 3), (134, .iconst 1, 1), (135, .goto 4, 3), (138, .iconst 0, 1), (139, .istore_n 3, 1), (140, .iload 4, 2)] := dkf (by decide +kernel)
theorem dX3_decodeWord_122 : decode cX3_decodeWord 122 = .ok (.iload_n 3, 1) := dkg_X3_43.1
theorem dX3_decodeWord_123 : decode cX3_decodeWord 123 = .ok (.invokevirtual 137, 3) := dkg_X3_43.2.1
theorem dX3_decodeWord_126 : decode cX3_decodeWord 126 = .ok (.aload 5, 2) := dkg_X3_43.2.2.1
theorem dX3_decodeWord_128 : decode cX3_decodeWord 128 = .ok (.getfield 134, 3) := dkg_X3_43.2.2.2.1
theorem dX3_decodeWord_131 : decode cX3_decodeWord 131 = .ok (.ifCond .ne 7, 3) := dkg_X3_43.2.2.2.2.1
theorem dX3_decodeWord_134 : decode cX3_decodeWord 134 = .ok (.iconst 1, 1) := dkg_X3_43.2.2.2.2.2.1
theorem dX3_decodeWord_135 : decode cX3_decodeWord 135 = .ok (.goto 4, 3) := dkg_X3_43.2.2.2.2.2.2.1
theorem dX3_decodeWord_138 : decode cX3_decodeWord 138 = .ok (.iconst 0, 1) := dkg_X3_43.2.2.2.2.2.2.2.1
theorem dX3_decodeWord_139 : decode cX3_decodeWord 139 = .ok (.istore_n 3, 1) := dkg_X3_43.2.2.2.2.2.2.2.2.1
theorem dX3_decodeWord_140 : decode cX3_decodeWord 140 = .ok (.iload 4, 2) := dkg_X3_43.2.2.2.2.2.2.2.2.2.1
theorem dkg_X3_44 : dkp cX3_decodeWord [(142, .iconst 1, 1), (143, .aload 5, 2), (145, .getfield 88, 3), (148, .arraylength, 1), (149, .invokestatic 141, 3), (152, .iadd, 1), (153, .istore 4, 2), (155, .goto (-148), 3), (158, .aload_n 0, 1), (159, .iload 4, 2)] := dkf (by decide +kernel)
theorem dX3_decodeWord_142 : decode cX3_decodeWord 142 = .ok (.iconst 1, 1) := dkg_X3_44.1
theorem dX3_decodeWord_143 : decode cX3_decodeWord 143 = .ok (.aload 5, 2) := dkg_X3_44.2.1
theorem dX3_decodeWord_145 : decode cX3_decodeWord 145 = .ok (.getfield 88, 3) := dkg_X3_44.2.2.1
theorem dX3_decodeWord_148 : decode cX3_decodeWord 148 = .ok (.arraylength, 1) := dkg_X3_44.2.2.2.1
theorem dX3_decodeWord_149 : decode cX3_decodeWord 149 = .ok (.invokestatic 141, 3) := dkg_X3_44.2.2.2.2.1
theorem dX3_decodeWord_152 : decode cX3_decodeWord 152 = .ok (.iadd, 1) := dkg_X3_44.2.2.2.2.2.1
theorem dX3_decodeWord_153 : decode cX3_decodeWord 153 = .ok (.istore 4, 2) := dkg_X3_44.2.2.2.2.2.2.1
theorem dX3_decodeWord_155 : decode cX3_decodeWord 155 = .ok (.goto (-148), 3) := dkg_X3_44.2.2.2.2.2.2.2.1
theorem dX3_decodeWord_158 : decode cX3_decodeWord 158 = .ok (.aload_n 0, 1) := dkg_X3_44.2.2.2.2.2.2.2.2.1
theorem dX3_decodeWord_159 : decode cX3_decodeWord 159 = .ok (.iload 4, 2) := dkg_X3_44.2.2.2.2.2.2.2.2.2.1
theorem dkg_X3_45 : dkp cX3_decodeWord [(161, .putfield 43, 3), (164, .iload_n 3, 1), (165, .ifCond .eq 7, 3), (168, .iconst (-1), 1), (169, .goto 5, 3), (172, .iload 4, 2), (174, .ireturn, 1)] := dkf (by decide +kernel)
theorem dX3_decodeWord_161 : decode cX3_decodeWord 161 = .ok (.putfield 43, 3) := dkg_X3_45.1
theorem dX3_decodeWord_164 : decode cX3_decodeWord 164 = .ok (.iload_n 3, 1) := dkg_X3_45.2.1
theorem dX3_decodeWord_165 : decode cX3_decodeWord 165 = .ok (.ifCond .eq 7, 3) := dkg_X3_45.2.2.1
theorem dX3_decodeWord_168 : decode cX3_decodeWord 168 = .ok (.iconst (-1), 1) := dkg_X3_45.2.2.2.1
theorem dX3_decodeWord_169 : decode cX3_decodeWord 169 = .ok (.goto 5, 3) := dkg_X3_45.2.2.2.2.1
theorem dX3_decodeWord_172 : decode cX3_decodeWord 172 = .ok (.iload 4, 2) := dkg_X3_45.2.2.2.2.2.1
theorem dX3_decodeWord_174 : decode cX3_decodeWord 174 = .ok (.ireturn, 1) := dkg_X3_45.2.2.2.2.2.2.1
theorem dkg_X3_46 : dkp cX3_longestAt [(0, .aload_n 0, 1), (1, .iload_n 1, 1), (2, .invokevirtual 147, 3), (5, .astore_n 3, 1), (6, .iload_n 1, 1), (7, .ifCond .eq 10, 3), (10, .aload_n 0, 1), (11, .getfield 30, 3), (14, .goto 7, 3), (17, .aload_n 0, 1)] := dkf (by decide +kernel)
theorem dX3_longestAt_0 : decode cX3_longestAt 0 = .ok (.aload_n 0, 1) := dkg_X3_46.1
theorem dX3_longestAt_1 : decode cX3_longestAt 1 = .ok (.iload_n 1, 1) := dkg_X3_46.2.1
theorem dX3_longestAt_2 : decode cX3_longestAt 2 = .ok (.invokevirtual 147, 3) := dkg_X3_46.2.2.1
theorem dX3_longestAt_5 : decode cX3_longestAt 5 = .ok (.astore_n 3, 1) := dkg_X3_46.2.2.2.1
theorem dX3_longestAt_6 : decode cX3_longestAt 6 = .ok (.iload_n 1, 1) := dkg_X3_46.2.2.2.2.1
theorem dX3_longestAt_7 : decode cX3_longestAt 7 = .ok (.ifCond .eq 10, 3) := dkg_X3_46.2.2.2.2.2.1
theorem dX3_longestAt_10 : decode cX3_longestAt 10 = .ok (.aload_n 0, 1) := dkg_X3_46.2.2.2.2.2.2.1
theorem dX3_longestAt_11 : decode cX3_longestAt 11 = .ok (.getfield 30, 3) := dkg_X3_46.2.2.2.2.2.2.2.1
theorem dX3_longestAt_14 : decode cX3_longestAt 14 = .ok (.goto 7, 3) := dkg_X3_46.2.2.2.2.2.2.2.2.1
theorem dX3_longestAt_17 : decode cX3_longestAt 17 = .ok (.aload_n 0, 1) := dkg_X3_46.2.2.2.2.2.2.2.2.2.1
theorem dkg_X3_47 : dkp cX3_longestAt [(18, .getfield 26, 3), (21, .astore 4, 2), (23, .aload_n 0, 1), (24, .getfield 34, 3), (27, .iload_n 2, 1), (28, .invokevirtual 119, 3), (31, .istore 5, 2), (33, .aconst_null, 1), (34, .astore 6, 2), (36, .iconst 0, 1)] := dkf (by decide +kernel)
theorem dX3_longestAt_18 : decode cX3_longestAt 18 = .ok (.getfield 26, 3) := dkg_X3_47.1
theorem dX3_longestAt_21 : decode cX3_longestAt 21 = .ok (.astore 4, 2) := dkg_X3_47.2.1
theorem dX3_longestAt_23 : decode cX3_longestAt 23 = .ok (.aload_n 0, 1) := dkg_X3_47.2.2.1
theorem dX3_longestAt_24 : decode cX3_longestAt 24 = .ok (.getfield 34, 3) := dkg_X3_47.2.2.2.1
theorem dX3_longestAt_27 : decode cX3_longestAt 27 = .ok (.iload_n 2, 1) := dkg_X3_47.2.2.2.2.1
theorem dX3_longestAt_28 : decode cX3_longestAt 28 = .ok (.invokevirtual 119, 3) := dkg_X3_47.2.2.2.2.2.1
theorem dX3_longestAt_31 : decode cX3_longestAt 31 = .ok (.istore 5, 2) := dkg_X3_47.2.2.2.2.2.2.1
theorem dX3_longestAt_33 : decode cX3_longestAt 33 = .ok (.aconst_null, 1) := dkg_X3_47.2.2.2.2.2.2.2.1
theorem dX3_longestAt_34 : decode cX3_longestAt 34 = .ok (.astore 6, 2) := dkg_X3_47.2.2.2.2.2.2.2.2.1
theorem dX3_longestAt_36 : decode cX3_longestAt 36 = .ok (.iconst 0, 1) := dkg_X3_47.2.2.2.2.2.2.2.2.2.1
theorem dkg_X3_48 : dkp cX3_longestAt [(37, .istore 7, 2), (39, .aload 4, 2), (41, .getfield 118, 3), (44, .aload_n 3, 1), (45, .invokevirtual 78, 3), (48, .invokestatic 151, 3), (51, .istore 8, 2), (53, .iconst 0, 1), (54, .istore 9, 2), (56, .iload 9, 2)] := dkf (by decide +kernel)
theorem dX3_longestAt_37 : decode cX3_longestAt 37 = .ok (.istore 7, 2) := dkg_X3_48.1
theorem dX3_longestAt_39 : decode cX3_longestAt 39 = .ok (.aload 4, 2) := dkg_X3_48.2.1
theorem dX3_longestAt_41 : decode cX3_longestAt 41 = .ok (.getfield 118, 3) := dkg_X3_48.2.2.1
theorem dX3_longestAt_44 : decode cX3_longestAt 44 = .ok (.aload_n 3, 1) := dkg_X3_48.2.2.2.1
theorem dX3_longestAt_45 : decode cX3_longestAt 45 = .ok (.invokevirtual 78, 3) := dkg_X3_48.2.2.2.2.1
theorem dX3_longestAt_48 : decode cX3_longestAt 48 = .ok (.invokestatic 151, 3) := dkg_X3_48.2.2.2.2.2.1
theorem dX3_longestAt_51 : decode cX3_longestAt 51 = .ok (.istore 8, 2) := dkg_X3_48.2.2.2.2.2.2.1
theorem dX3_longestAt_53 : decode cX3_longestAt 53 = .ok (.iconst 0, 1) := dkg_X3_48.2.2.2.2.2.2.2.1
theorem dX3_longestAt_54 : decode cX3_longestAt 54 = .ok (.istore 9, 2) := dkg_X3_48.2.2.2.2.2.2.2.2.1
theorem dX3_longestAt_56 : decode cX3_longestAt 56 = .ok (.iload 9, 2) := dkg_X3_48.2.2.2.2.2.2.2.2.2.1
theorem dkg_X3_49 : dkp cX3_longestAt [(58, .iload 8, 2), (60, .if_icmp .ge 72, 3), (63, .aload 4, 2), (65, .getfield 154, 3), (68, .iload 9, 2), (70, .iaload, 1), (71, .iload 5, 2), (73, .if_icmp .eq 6, 3), (76, .goto 50, 3), (79, .aload_n 3, 1)] := dkf (by decide +kernel)
theorem dX3_longestAt_58 : decode cX3_longestAt 58 = .ok (.iload 8, 2) := dkg_X3_49.1
theorem dX3_longestAt_60 : decode cX3_longestAt 60 = .ok (.if_icmp .ge 72, 3) := dkg_X3_49.2.1
theorem dX3_longestAt_63 : decode cX3_longestAt 63 = .ok (.aload 4, 2) := dkg_X3_49.2.2.1
theorem dX3_longestAt_65 : decode cX3_longestAt 65 = .ok (.getfield 154, 3) := dkg_X3_49.2.2.2.1
theorem dX3_longestAt_68 : decode cX3_longestAt 68 = .ok (.iload 9, 2) := dkg_X3_49.2.2.2.2.1
theorem dX3_longestAt_70 : decode cX3_longestAt 70 = .ok (.iaload, 1) := dkg_X3_49.2.2.2.2.2.1
theorem dX3_longestAt_71 : decode cX3_longestAt 71 = .ok (.iload 5, 2) := dkg_X3_49.2.2.2.2.2.2.1
theorem dX3_longestAt_73 : decode cX3_longestAt 73 = .ok (.if_icmp .eq 6, 3) := dkg_X3_49.2.2.2.2.2.2.2.1
theorem dX3_longestAt_76 : decode cX3_longestAt 76 = .ok (.goto 50, 3) := dkg_X3_49.2.2.2.2.2.2.2.2.1
theorem dX3_longestAt_79 : decode cX3_longestAt 79 = .ok (.aload_n 3, 1) := dkg_X3_49.2.2.2.2.2.2.2.2.2.1
theorem dkg_X3_50 : dkp cX3_longestAt [(80, .iload 9, 2), (82, .invokevirtual 82, 3), (85, .checkcast 86, 3), (88, .astore 10, 2), (90, .aload 10, 2), (92, .getfield 88, 3), (95, .arraylength, 1), (96, .iload 7, 2), (98, .if_icmp .le 28, 3), (101, .aload 10, 2)] := dkf (by decide +kernel)
theorem dX3_longestAt_80 : decode cX3_longestAt 80 = .ok (.iload 9, 2) := dkg_X3_50.1
theorem dX3_longestAt_82 : decode cX3_longestAt 82 = .ok (.invokevirtual 82, 3) := dkg_X3_50.2.1
theorem dX3_longestAt_85 : decode cX3_longestAt 85 = .ok (.checkcast 86, 3) := dkg_X3_50.2.2.1
theorem dX3_longestAt_88 : decode cX3_longestAt 88 = .ok (.astore 10, 2) := dkg_X3_50.2.2.2.1
theorem dX3_longestAt_90 : decode cX3_longestAt 90 = .ok (.aload 10, 2) := dkg_X3_50.2.2.2.2.1
theorem dX3_longestAt_92 : decode cX3_longestAt 92 = .ok (.getfield 88, 3) := dkg_X3_50.2.2.2.2.2.1
theorem dX3_longestAt_95 : decode cX3_longestAt 95 = .ok (.arraylength, 1) := dkg_X3_50.2.2.2.2.2.2.1
theorem dX3_longestAt_96 : decode cX3_longestAt 96 = .ok (.iload 7, 2) := dkg_X3_50.2.2.2.2.2.2.2.1
theorem dX3_longestAt_98 : decode cX3_longestAt 98 = .ok (.if_icmp .le 28, 3) := dkg_X3_50.2.2.2.2.2.2.2.2.1
theorem dX3_longestAt_101 : decode cX3_longestAt 101 = .ok (.aload 10, 2) := dkg_X3_50.2.2.2.2.2.2.2.2.2.1
theorem dkg_X3_51 : dkp cX3_longestAt [(103, .aload_n 0, 1), (104, .getfield 34, 3), (107, .iload_n 2, 1), (108, .invokevirtual 157, 3), (111, .ifCond .eq 15, 3), (114, .aload 10, 2), (116, .astore 6, 2), (118, .aload 10, 2), (120, .getfield 88, 3), (123, .arraylength, 1)] := dkf (by decide +kernel)
theorem dX3_longestAt_103 : decode cX3_longestAt 103 = .ok (.aload_n 0, 1) := dkg_X3_51.1
theorem dX3_longestAt_104 : decode cX3_longestAt 104 = .ok (.getfield 34, 3) := dkg_X3_51.2.1
theorem dX3_longestAt_107 : decode cX3_longestAt 107 = .ok (.iload_n 2, 1) := dkg_X3_51.2.2.1
theorem dX3_longestAt_108 : decode cX3_longestAt 108 = .ok (.invokevirtual 157, 3) := dkg_X3_51.2.2.2.1
theorem dX3_longestAt_111 : decode cX3_longestAt 111 = .ok (.ifCond .eq 15, 3) := dkg_X3_51.2.2.2.2.1
theorem dX3_longestAt_114 : decode cX3_longestAt 114 = .ok (.aload 10, 2) := dkg_X3_51.2.2.2.2.2.1
theorem dX3_longestAt_116 : decode cX3_longestAt 116 = .ok (.astore 6, 2) := dkg_X3_51.2.2.2.2.2.2.1
theorem dX3_longestAt_118 : decode cX3_longestAt 118 = .ok (.aload 10, 2) := dkg_X3_51.2.2.2.2.2.2.2.1
theorem dX3_longestAt_120 : decode cX3_longestAt 120 = .ok (.getfield 88, 3) := dkg_X3_51.2.2.2.2.2.2.2.2.1
theorem dX3_longestAt_123 : decode cX3_longestAt 123 = .ok (.arraylength, 1) := dkg_X3_51.2.2.2.2.2.2.2.2.2.1
theorem dkg_X3_52 : dkp cX3_longestAt [(124, .istore 7, 2), (126, .iinc 9 1, 3), (129, .goto (-73), 3), (132, .aload 6, 2), (134, .areturn, 1)] := dkf (by decide +kernel)
theorem dX3_longestAt_124 : decode cX3_longestAt 124 = .ok (.istore 7, 2) := dkg_X3_52.1
theorem dX3_longestAt_126 : decode cX3_longestAt 126 = .ok (.iinc 9 1, 3) := dkg_X3_52.2.1
theorem dX3_longestAt_129 : decode cX3_longestAt 129 = .ok (.goto (-73), 3) := dkg_X3_52.2.2.1
theorem dX3_longestAt_132 : decode cX3_longestAt 132 = .ok (.aload 6, 2) := dkg_X3_52.2.2.2.1
theorem dX3_longestAt_134 : decode cX3_longestAt 134 = .ok (.areturn, 1) := dkg_X3_52.2.2.2.2.1
theorem dkg_X3_53 : dkp cX3_placeOfWrong [(0, .aload_n 0, 1), (1, .getfield 34, 3), (4, .aload_n 0, 1), (5, .getfield 43, 3), (8, .invokevirtual 119, 3), (11, .ifCond .eq 17, 3), (14, .aload_n 0, 1), (15, .getfield 37, 3), (18, .aload_n 0, 1), (19, .getfield 43, 3)] := dkf (by decide +kernel)
theorem dX3_placeOfWrong_0 : decode cX3_placeOfWrong 0 = .ok (.aload_n 0, 1) := dkg_X3_53.1
theorem dX3_placeOfWrong_1 : decode cX3_placeOfWrong 1 = .ok (.getfield 34, 3) := dkg_X3_53.2.1
theorem dX3_placeOfWrong_4 : decode cX3_placeOfWrong 4 = .ok (.aload_n 0, 1) := dkg_X3_53.2.2.1
theorem dX3_placeOfWrong_5 : decode cX3_placeOfWrong 5 = .ok (.getfield 43, 3) := dkg_X3_53.2.2.2.1
theorem dX3_placeOfWrong_8 : decode cX3_placeOfWrong 8 = .ok (.invokevirtual 119, 3) := dkg_X3_53.2.2.2.2.1
theorem dX3_placeOfWrong_11 : decode cX3_placeOfWrong 11 = .ok (.ifCond .eq 17, 3) := dkg_X3_53.2.2.2.2.2.1
theorem dX3_placeOfWrong_14 : decode cX3_placeOfWrong 14 = .ok (.aload_n 0, 1) := dkg_X3_53.2.2.2.2.2.2.1
theorem dX3_placeOfWrong_15 : decode cX3_placeOfWrong 15 = .ok (.getfield 37, 3) := dkg_X3_53.2.2.2.2.2.2.2.1
theorem dX3_placeOfWrong_18 : decode cX3_placeOfWrong 18 = .ok (.aload_n 0, 1) := dkg_X3_53.2.2.2.2.2.2.2.2.1
theorem dX3_placeOfWrong_19 : decode cX3_placeOfWrong 19 = .ok (.getfield 43, 3) := dkg_X3_53.2.2.2.2.2.2.2.2.2.1
theorem dkg_X3_54 : dkp cX3_placeOfWrong [(22, .invokevirtual 119, 3), (25, .goto 18, 3), (28, .aload_n 0, 1), (29, .getfield 37, 3), (32, .aload_n 0, 1), (33, .getfield 43, 3), (36, .iconst 1, 1), (37, .isub, 1), (38, .invokevirtual 119, 3), (41, .iconst 1, 1)] := dkf (by decide +kernel)
theorem dX3_placeOfWrong_22 : decode cX3_placeOfWrong 22 = .ok (.invokevirtual 119, 3) := dkg_X3_54.1
theorem dX3_placeOfWrong_25 : decode cX3_placeOfWrong 25 = .ok (.goto 18, 3) := dkg_X3_54.2.1
theorem dX3_placeOfWrong_28 : decode cX3_placeOfWrong 28 = .ok (.aload_n 0, 1) := dkg_X3_54.2.2.1
theorem dX3_placeOfWrong_29 : decode cX3_placeOfWrong 29 = .ok (.getfield 37, 3) := dkg_X3_54.2.2.2.1
theorem dX3_placeOfWrong_32 : decode cX3_placeOfWrong 32 = .ok (.aload_n 0, 1) := dkg_X3_54.2.2.2.2.1
theorem dX3_placeOfWrong_33 : decode cX3_placeOfWrong 33 = .ok (.getfield 43, 3) := dkg_X3_54.2.2.2.2.2.1
theorem dX3_placeOfWrong_36 : decode cX3_placeOfWrong 36 = .ok (.iconst 1, 1) := dkg_X3_54.2.2.2.2.2.2.1
theorem dX3_placeOfWrong_37 : decode cX3_placeOfWrong 37 = .ok (.isub, 1) := dkg_X3_54.2.2.2.2.2.2.2.1
theorem dX3_placeOfWrong_38 : decode cX3_placeOfWrong 38 = .ok (.invokevirtual 119, 3) := dkg_X3_54.2.2.2.2.2.2.2.2.1
theorem dX3_placeOfWrong_41 : decode cX3_placeOfWrong 41 = .ok (.iconst 1, 1) := dkg_X3_54.2.2.2.2.2.2.2.2.2.1
theorem dkg_X3_55 : dkp cX3_placeOfWrong [(42, .iadd, 1), (43, .ireturn, 1)] := dkf (by decide +kernel)
theorem dX3_placeOfWrong_42 : decode cX3_placeOfWrong 42 = .ok (.iadd, 1) := dkg_X3_55.1
theorem dX3_placeOfWrong_43 : decode cX3_placeOfWrong 43 = .ok (.ireturn, 1) := dkg_X3_55.2.1
