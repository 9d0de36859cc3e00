theorem dkg_X6_0 : dkp cX6_init [(0, .aload_n 0, 1), (1, .invokespecial 3, 3), (4, .aload_n 0, 1), (5, .sipush 500, 3), (10, .putfield 9, 3), (13, .aload_n 0, 1), (14, .sipush 500, 3), (19, .putfield 15, 3), (22, .aload_n 0, 1), (23, .sipush 500, 3)] := dkf (by decide +kernel)
theorem dX6_init_0 : decode cX6_init 0 = .ok (.aload_n 0, 1) := dkg_X6_0.1
theorem dX6_init_1 : decode cX6_init 1 = .ok (.invokespecial 3, 3) := dkg_X6_0.2.1
theorem dX6_init_4 : decode cX6_init 4 = .ok (.aload_n 0, 1) := dkg_X6_0.2.2.1
theorem dX6_init_5 : decode cX6_init 5 = .ok (.sipush 500, 3) := dkg_X6_0.2.2.2.1
theorem dX6_init_10 : decode cX6_init 10 = .ok (.putfield 9, 3) := dkg_X6_0.2.2.2.2.1
theorem dX6_init_13 : decode cX6_init 13 = .ok (.aload_n 0, 1) := dkg_X6_0.2.2.2.2.2.1
theorem dX6_init_14 : decode cX6_init 14 = .ok (.sipush 500, 3) := dkg_X6_0.2.2.2.2.2.2.1
theorem dX6_init_19 : decode cX6_init 19 = .ok (.putfield 15, 3) := dkg_X6_0.2.2.2.2.2.2.2.1
theorem dX6_init_22 : decode cX6_init 22 = .ok (.aload_n 0, 1) := dkg_X6_0.2.2.2.2.2.2.2.2.1
theorem dX6_init_23 : decode cX6_init 23 = .ok (.sipush 500, 3) := dkg_X6_0.2.2.2.2.2.2.2.2.2.1
theorem dkg_X6_1 : dkp cX6_init [(28, .putfield 18, 3), (31, .aload_n 0, 1), (32, .sipush 500, 3), (37, .putfield 22, 3), (40, .aload_n 0, 1), (41, .iconst 0, 1), (42, .putfield 25, 3), (45, .aload_n 0, 1), (46, .iconst 0, 1), (47, .putfield 29, 3)] := dkf (by decide +kernel)
theorem dX6_init_28 : decode cX6_init 28 = .ok (.putfield 18, 3) := dkg_X6_1.1
theorem dX6_init_31 : decode cX6_init 31 = .ok (.aload_n 0, 1) := dkg_X6_1.2.1
theorem dX6_init_32 : decode cX6_init 32 = .ok (.sipush 500, 3) := dkg_X6_1.2.2.1
theorem dX6_init_37 : decode cX6_init 37 = .ok (.putfield 22, 3) := dkg_X6_1.2.2.2.1
theorem dX6_init_40 : decode cX6_init 40 = .ok (.aload_n 0, 1) := dkg_X6_1.2.2.2.2.1
theorem dX6_init_41 : decode cX6_init 41 = .ok (.iconst 0, 1) := dkg_X6_1.2.2.2.2.2.1
theorem dX6_init_42 : decode cX6_init 42 = .ok (.putfield 25, 3) := dkg_X6_1.2.2.2.2.2.2.1
theorem dX6_init_45 : decode cX6_init 45 = .ok (.aload_n 0, 1) := dkg_X6_1.2.2.2.2.2.2.2.1
theorem dX6_init_46 : decode cX6_init 46 = .ok (.iconst 0, 1) := dkg_X6_1.2.2.2.2.2.2.2.2.1
theorem dX6_init_47 : decode cX6_init 47 = .ok (.putfield 29, 3) := dkg_X6_1.2.2.2.2.2.2.2.2.2.1
theorem dkg_X6_2 : dkp cX6_init [(50, .aload_n 0, 1), (51, .sipush 200, 3), (56, .putfield 33, 3), (59, .aload_n 0, 1), (60, .iconst 0, 1), (61, .putfield 36, 3), (64, .aload_n 0, 1), (65, .iconst 5, 1), (68, .putfield 39, 3), (71, .aload_n 0, 1)] := dkf (by decide +kernel)
theorem dX6_init_50 : decode cX6_init 50 = .ok (.aload_n 0, 1) := dkg_X6_2.1
theorem dX6_init_51 : decode cX6_init 51 = .ok (.sipush 200, 3) := dkg_X6_2.2.1
theorem dX6_init_56 : decode cX6_init 56 = .ok (.putfield 33, 3) := dkg_X6_2.2.2.1
theorem dX6_init_59 : decode cX6_init 59 = .ok (.aload_n 0, 1) := dkg_X6_2.2.2.2.1
theorem dX6_init_60 : decode cX6_init 60 = .ok (.iconst 0, 1) := dkg_X6_2.2.2.2.2.1
theorem dX6_init_61 : decode cX6_init 61 = .ok (.putfield 36, 3) := dkg_X6_2.2.2.2.2.2.1
theorem dX6_init_64 : decode cX6_init 64 = .ok (.aload_n 0, 1) := dkg_X6_2.2.2.2.2.2.2.1
theorem dX6_init_65 : decode cX6_init 65 = .ok (.iconst 5, 1) := dkg_X6_2.2.2.2.2.2.2.2.1
theorem dX6_init_68 : decode cX6_init 68 = .ok (.putfield 39, 3) := dkg_X6_2.2.2.2.2.2.2.2.2.1
theorem dX6_init_71 : decode cX6_init 71 = .ok (.aload_n 0, 1) := dkg_X6_2.2.2.2.2.2.2.2.2.2.1
theorem dkg_X6_3 : dkp cX6_init [(72, .iconst 0, 1), (73, .putfield 42, 3), (76, .aload_n 0, 1), (77, .iconst 0, 1), (78, .putfield 45, 3), (81, .aload_n 0, 1), (82, .iconst 0, 1), (83, .putfield 48, 3), (86, .return_, 1)] := dkf (by decide +kernel)
theorem dX6_init_72 : decode cX6_init 72 = .ok (.iconst 0, 1) := dkg_X6_3.1
theorem dX6_init_73 : decode cX6_init 73 = .ok (.putfield 42, 3) := dkg_X6_3.2.1
theorem dX6_init_76 : decode cX6_init 76 = .ok (.aload_n 0, 1) := dkg_X6_3.2.2.1
theorem dX6_init_77 : decode cX6_init 77 = .ok (.iconst 0, 1) := dkg_X6_3.2.2.2.1
theorem dX6_init_78 : decode cX6_init 78 = .ok (.putfield 45, 3) := dkg_X6_3.2.2.2.2.1
theorem dX6_init_81 : decode cX6_init 81 = .ok (.aload_n 0, 1) := dkg_X6_3.2.2.2.2.2.1
theorem dX6_init_82 : decode cX6_init 82 = .ok (.iconst 0, 1) := dkg_X6_3.2.2.2.2.2.2.1
theorem dX6_init_83 : decode cX6_init 83 = .ok (.putfield 48, 3) := dkg_X6_3.2.2.2.2.2.2.2.1
theorem dX6_init_86 : decode cX6_init 86 = .ok (.return_, 1) := dkg_X6_3.2.2.2.2.2.2.2.2.1
theorem dkg_X6_4 : dkp cX6_init [(8, .newarray .int, 2), (17, .newarray .int, 2), (26, .newarray .boolean, 2), (35, .newarray .int, 2), (54, .newarray .int, 2), (66, .newarray .int, 2)] := dkq (by decide +kernel)
theorem dX6_init_8 : decode cX6_init 8 = .ok (.newarray .int, 2) := dkg_X6_4.1
theorem dX6_init_17 : decode cX6_init 17 = .ok (.newarray .int, 2) := dkg_X6_4.2.1
theorem dX6_init_26 : decode cX6_init 26 = .ok (.newarray .boolean, 2) := dkg_X6_4.2.2.1
theorem dX6_init_35 : decode cX6_init 35 = .ok (.newarray .int, 2) := dkg_X6_4.2.2.2.1
theorem dX6_init_54 : decode cX6_init 54 = .ok (.newarray .int, 2) := dkg_X6_4.2.2.2.2.1
theorem dX6_init_66 : decode cX6_init 66 = .ok (.newarray .int, 2) := dkg_X6_4.2.2.2.2.2.1
theorem dkg_X6_5 : dkp cX6_clear [(0, .aload_n 0, 1), (1, .iconst 0, 1), (2, .putfield 25, 3), (5, .aload_n 0, 1), (6, .iconst 0, 1), (7, .putfield 29, 3), (10, .return_, 1)] := dkf (by decide +kernel)
theorem dX6_clear_0 : decode cX6_clear 0 = .ok (.aload_n 0, 1) := dkg_X6_5.1
theorem dX6_clear_1 : decode cX6_clear 1 = .ok (.iconst 0, 1) := dkg_X6_5.2.1
theorem dX6_clear_2 : decode cX6_clear 2 = .ok (.putfield 25, 3) := dkg_X6_5.2.2.1
theorem dX6_clear_5 : decode cX6_clear 5 = .ok (.aload_n 0, 1) := dkg_X6_5.2.2.2.1
theorem dX6_clear_6 : decode cX6_clear 6 = .ok (.iconst 0, 1) := dkg_X6_5.2.2.2.2.1
theorem dX6_clear_7 : decode cX6_clear 7 = .ok (.putfield 29, 3) := dkg_X6_5.2.2.2.2.2.1
theorem dX6_clear_10 : decode cX6_clear 10 = .ok (.return_, 1) := dkg_X6_5.2.2.2.2.2.2.1
theorem dkg_X6_6 : dkp cX6_put [(0, .aload_n 0, 1), (1, .getfield 25, 3), (4, .sipush 500, 3), (7, .if_icmp .lt 4, 3), (10, .return_, 1), (11, .aload_n 0, 1), (12, .getfield 9, 3), (15, .aload_n 0, 1), (16, .getfield 25, 3), (19, .iload_n 1, 1)] := dkf (by decide +kernel)
theorem dX6_put_0 : decode cX6_put 0 = .ok (.aload_n 0, 1) := dkg_X6_6.1
theorem dX6_put_1 : decode cX6_put 1 = .ok (.getfield 25, 3) := dkg_X6_6.2.1
theorem dX6_put_4 : decode cX6_put 4 = .ok (.sipush 500, 3) := dkg_X6_6.2.2.1
theorem dX6_put_7 : decode cX6_put 7 = .ok (.if_icmp .lt 4, 3) := dkg_X6_6.2.2.2.1
theorem dX6_put_10 : decode cX6_put 10 = .ok (.return_, 1) := dkg_X6_6.2.2.2.2.1
theorem dX6_put_11 : decode cX6_put 11 = .ok (.aload_n 0, 1) := dkg_X6_6.2.2.2.2.2.1
theorem dX6_put_12 : decode cX6_put 12 = .ok (.getfield 9, 3) := dkg_X6_6.2.2.2.2.2.2.1
theorem dX6_put_15 : decode cX6_put 15 = .ok (.aload_n 0, 1) := dkg_X6_6.2.2.2.2.2.2.2.1
theorem dX6_put_16 : decode cX6_put 16 = .ok (.getfield 25, 3) := dkg_X6_6.2.2.2.2.2.2.2.2.1
theorem dX6_put_19 : decode cX6_put 19 = .ok (.iload_n 1, 1) := dkg_X6_6.2.2.2.2.2.2.2.2.2.1
theorem dkg_X6_7 : dkp cX6_put [(20, .iastore, 1), (21, .aload_n 0, 1), (22, .getfield 15, 3), (25, .aload_n 0, 1), (26, .getfield 25, 3), (29, .iload_n 2, 1), (30, .iastore, 1), (31, .aload_n 0, 1), (32, .getfield 18, 3), (35, .aload_n 0, 1)] := dkf (by decide +kernel)
theorem dX6_put_20 : decode cX6_put 20 = .ok (.iastore, 1) := dkg_X6_7.1
theorem dX6_put_21 : decode cX6_put 21 = .ok (.aload_n 0, 1) := dkg_X6_7.2.1
theorem dX6_put_22 : decode cX6_put 22 = .ok (.getfield 15, 3) := dkg_X6_7.2.2.1
theorem dX6_put_25 : decode cX6_put 25 = .ok (.aload_n 0, 1) := dkg_X6_7.2.2.2.1
theorem dX6_put_26 : decode cX6_put 26 = .ok (.getfield 25, 3) := dkg_X6_7.2.2.2.2.1
theorem dX6_put_29 : decode cX6_put 29 = .ok (.iload_n 2, 1) := dkg_X6_7.2.2.2.2.2.1
theorem dX6_put_30 : decode cX6_put 30 = .ok (.iastore, 1) := dkg_X6_7.2.2.2.2.2.2.1
theorem dX6_put_31 : decode cX6_put 31 = .ok (.aload_n 0, 1) := dkg_X6_7.2.2.2.2.2.2.2.1
theorem dX6_put_32 : decode cX6_put 32 = .ok (.getfield 18, 3) := dkg_X6_7.2.2.2.2.2.2.2.2.1
theorem dX6_put_35 : decode cX6_put 35 = .ok (.aload_n 0, 1) := dkg_X6_7.2.2.2.2.2.2.2.2.2.1
theorem dkg_X6_8 : dkp cX6_put [(36, .getfield 25, 3), (39, .aload_n 0, 1), (40, .getfield 29, 3), (43, .bastore, 1), (44, .aload_n 0, 1), (45, .iconst 0, 1), (46, .putfield 29, 3), (49, .aload_n 0, 1), (50, .dup, 1), (51, .getfield 25, 3)] := dkf (by decide +kernel)
theorem dX6_put_36 : decode cX6_put 36 = .ok (.getfield 25, 3) := dkg_X6_8.1
theorem dX6_put_39 : decode cX6_put 39 = .ok (.aload_n 0, 1) := dkg_X6_8.2.1
theorem dX6_put_40 : decode cX6_put 40 = .ok (.getfield 29, 3) := dkg_X6_8.2.2.1
theorem dX6_put_43 : decode cX6_put 43 = .ok (.bastore, 1) := dkg_X6_8.2.2.2.1
theorem dX6_put_44 : decode cX6_put 44 = .ok (.aload_n 0, 1) := dkg_X6_8.2.2.2.2.1
theorem dX6_put_45 : decode cX6_put 45 = .ok (.iconst 0, 1) := dkg_X6_8.2.2.2.2.2.1
theorem dX6_put_46 : decode cX6_put 46 = .ok (.putfield 29, 3) := dkg_X6_8.2.2.2.2.2.2.1
theorem dX6_put_49 : decode cX6_put 49 = .ok (.aload_n 0, 1) := dkg_X6_8.2.2.2.2.2.2.2.1
theorem dX6_put_50 : decode cX6_put 50 = .ok (.dup, 1) := dkg_X6_8.2.2.2.2.2.2.2.2.1
theorem dX6_put_51 : decode cX6_put 51 = .ok (.getfield 25, 3) := dkg_X6_8.2.2.2.2.2.2.2.2.2.1
theorem dkg_X6_9 : dkp cX6_put [(54, .iconst 1, 1), (55, .iadd, 1), (56, .putfield 25, 3), (59, .return_, 1)] := dkf (by decide +kernel)
theorem dX6_put_54 : decode cX6_put 54 = .ok (.iconst 1, 1) := dkg_X6_9.1
theorem dX6_put_55 : decode cX6_put 55 = .ok (.iadd, 1) := dkg_X6_9.2.1
theorem dX6_put_56 : decode cX6_put 56 = .ok (.putfield 25, 3) := dkg_X6_9.2.2.1
theorem dX6_put_59 : decode cX6_put 59 = .ok (.return_, 1) := dkg_X6_9.2.2.2.1
theorem dkg_X6_10 : dkp cX6_putBreak [(0, .aload_n 0, 1), (1, .iconst 1, 1), (2, .putfield 29, 3), (5, .return_, 1)] := dkf (by decide +kernel)
theorem dX6_putBreak_0 : decode cX6_putBreak 0 = .ok (.aload_n 0, 1) := dkg_X6_10.1
theorem dX6_putBreak_1 : decode cX6_putBreak 1 = .ok (.iconst 1, 1) := dkg_X6_10.2.1
theorem dX6_putBreak_2 : decode cX6_putBreak 2 = .ok (.putfield 29, 3) := dkg_X6_10.2.2.1
theorem dX6_putBreak_5 : decode cX6_putBreak 5 = .ok (.return_, 1) := dkg_X6_10.2.2.2.1
theorem dkg_X6_11 : dkp cX6_placeOfUnknown [(0, .aload_n 0, 1), (1, .getfield 42, 3), (4, .ifCond .lt 26, 3), (7, .aload_n 0, 1), (8, .getfield 42, 3), (11, .aload_n 0, 1), (12, .getfield 25, 3), (15, .if_icmp .ge 15, 3), (18, .aload_n 0, 1), (19, .getfield 15, 3)] := dkf (by decide +kernel)
theorem dX6_placeOfUnknown_0 : decode cX6_placeOfUnknown 0 = .ok (.aload_n 0, 1) := dkg_X6_11.1
theorem dX6_placeOfUnknown_1 : decode cX6_placeOfUnknown 1 = .ok (.getfield 42, 3) := dkg_X6_11.2.1
theorem dX6_placeOfUnknown_4 : decode cX6_placeOfUnknown 4 = .ok (.ifCond .lt 26, 3) := dkg_X6_11.2.2.1
theorem dX6_placeOfUnknown_7 : decode cX6_placeOfUnknown 7 = .ok (.aload_n 0, 1) := dkg_X6_11.2.2.2.1
theorem dX6_placeOfUnknown_8 : decode cX6_placeOfUnknown 8 = .ok (.getfield 42, 3) := dkg_X6_11.2.2.2.2.1
theorem dX6_placeOfUnknown_11 : decode cX6_placeOfUnknown 11 = .ok (.aload_n 0, 1) := dkg_X6_11.2.2.2.2.2.1
theorem dX6_placeOfUnknown_12 : decode cX6_placeOfUnknown 12 = .ok (.getfield 25, 3) := dkg_X6_11.2.2.2.2.2.2.1
theorem dX6_placeOfUnknown_15 : decode cX6_placeOfUnknown 15 = .ok (.if_icmp .ge 15, 3) := dkg_X6_11.2.2.2.2.2.2.2.1
theorem dX6_placeOfUnknown_18 : decode cX6_placeOfUnknown 18 = .ok (.aload_n 0, 1) := dkg_X6_11.2.2.2.2.2.2.2.2.1
theorem dX6_placeOfUnknown_19 : decode cX6_placeOfUnknown 19 = .ok (.getfield 15, 3) := dkg_X6_11.2.2.2.2.2.2.2.2.2.1
theorem dkg_X6_12 : dkp cX6_placeOfUnknown [(22, .aload_n 0, 1), (23, .getfield 42, 3), (26, .iaload, 1), (27, .goto 4, 3), (30, .iconst (-1), 1), (31, .ireturn, 1)] := dkf (by decide +kernel)
theorem dX6_placeOfUnknown_22 : decode cX6_placeOfUnknown 22 = .ok (.aload_n 0, 1) := dkg_X6_12.1
theorem dX6_placeOfUnknown_23 : decode cX6_placeOfUnknown 23 = .ok (.getfield 42, 3) := dkg_X6_12.2.1
theorem dX6_placeOfUnknown_26 : decode cX6_placeOfUnknown 26 = .ok (.iaload, 1) := dkg_X6_12.2.2.1
theorem dX6_placeOfUnknown_27 : decode cX6_placeOfUnknown 27 = .ok (.goto 4, 3) := dkg_X6_12.2.2.2.1
theorem dX6_placeOfUnknown_30 : decode cX6_placeOfUnknown 30 = .ok (.iconst (-1), 1) := dkg_X6_12.2.2.2.2.1
theorem dX6_placeOfUnknown_31 : decode cX6_placeOfUnknown 31 = .ok (.ireturn, 1) := dkg_X6_12.2.2.2.2.2.1
theorem dkg_X6_13 : dkp cX6_findsOf [(0, .iload_n 1, 1), (1, .ifCond .lt 21, 3), (4, .iload_n 1, 1), (5, .aload_n 0, 1), (6, .getfield 39, 3), (9, .arraylength, 1), (10, .if_icmp .ge 12, 3), (13, .aload_n 0, 1), (14, .getfield 39, 3), (17, .iload_n 1, 1)] := dkf (by decide +kernel)
theorem dX6_findsOf_0 : decode cX6_findsOf 0 = .ok (.iload_n 1, 1) := dkg_X6_13.1
theorem dX6_findsOf_1 : decode cX6_findsOf 1 = .ok (.ifCond .lt 21, 3) := dkg_X6_13.2.1
theorem dX6_findsOf_4 : decode cX6_findsOf 4 = .ok (.iload_n 1, 1) := dkg_X6_13.2.2.1
theorem dX6_findsOf_5 : decode cX6_findsOf 5 = .ok (.aload_n 0, 1) := dkg_X6_13.2.2.2.1
theorem dX6_findsOf_6 : decode cX6_findsOf 6 = .ok (.getfield 39, 3) := dkg_X6_13.2.2.2.2.1
theorem dX6_findsOf_9 : decode cX6_findsOf 9 = .ok (.arraylength, 1) := dkg_X6_13.2.2.2.2.2.1
theorem dX6_findsOf_10 : decode cX6_findsOf 10 = .ok (.if_icmp .ge 12, 3) := dkg_X6_13.2.2.2.2.2.2.1
theorem dX6_findsOf_13 : decode cX6_findsOf 13 = .ok (.aload_n 0, 1) := dkg_X6_13.2.2.2.2.2.2.2.1
theorem dX6_findsOf_14 : decode cX6_findsOf 14 = .ok (.getfield 39, 3) := dkg_X6_13.2.2.2.2.2.2.2.2.1
theorem dX6_findsOf_17 : decode cX6_findsOf 17 = .ok (.iload_n 1, 1) := dkg_X6_13.2.2.2.2.2.2.2.2.2.1
theorem dkg_X6_14 : dkp cX6_findsOf [(18, .iaload, 1), (19, .goto 4, 3), (22, .iconst 0, 1), (23, .ireturn, 1)] := dkf (by decide +kernel)
theorem dX6_findsOf_18 : decode cX6_findsOf 18 = .ok (.iaload, 1) := dkg_X6_14.1
theorem dX6_findsOf_19 : decode cX6_findsOf 19 = .ok (.goto 4, 3) := dkg_X6_14.2.1
theorem dX6_findsOf_22 : decode cX6_findsOf 22 = .ok (.iconst 0, 1) := dkg_X6_14.2.2.1
theorem dX6_findsOf_23 : decode cX6_findsOf 23 = .ok (.ireturn, 1) := dkg_X6_14.2.2.2.1
theorem dkg_X6_15 : dkp cX6_hasLetters [(0, .aload_n 1, 1), (1, .getfield 51, 3), (4, .aload_n 0, 1), (5, .getfield 25, 3), (8, .if_icmp .eq 5, 3), (11, .iconst 0, 1), (12, .ireturn, 1), (13, .iconst 0, 1), (14, .istore_n 2, 1), (15, .iload_n 2, 1)] := dkf (by decide +kernel)
theorem dX6_hasLetters_0 : decode cX6_hasLetters 0 = .ok (.aload_n 1, 1) := dkg_X6_15.1
theorem dX6_hasLetters_1 : decode cX6_hasLetters 1 = .ok (.getfield 51, 3) := dkg_X6_15.2.1
theorem dX6_hasLetters_4 : decode cX6_hasLetters 4 = .ok (.aload_n 0, 1) := dkg_X6_15.2.2.1
theorem dX6_hasLetters_5 : decode cX6_hasLetters 5 = .ok (.getfield 25, 3) := dkg_X6_15.2.2.2.1
theorem dX6_hasLetters_8 : decode cX6_hasLetters 8 = .ok (.if_icmp .eq 5, 3) := dkg_X6_15.2.2.2.2.1
theorem dX6_hasLetters_11 : decode cX6_hasLetters 11 = .ok (.iconst 0, 1) := dkg_X6_15.2.2.2.2.2.1
theorem dX6_hasLetters_12 : decode cX6_hasLetters 12 = .ok (.ireturn, 1) := dkg_X6_15.2.2.2.2.2.2.1
theorem dX6_hasLetters_13 : decode cX6_hasLetters 13 = .ok (.iconst 0, 1) := dkg_X6_15.2.2.2.2.2.2.2.1
theorem dX6_hasLetters_14 : decode cX6_hasLetters 14 = .ok (.istore_n 2, 1) := dkg_X6_15.2.2.2.2.2.2.2.2.1
theorem dX6_hasLetters_15 : decode cX6_hasLetters 15 = .ok (.iload_n 2, 1) := dkg_X6_15.2.2.2.2.2.2.2.2.2.1
theorem dkg_X6_16 : dkp cX6_hasLetters [(16, .aload_n 0, 1), (17, .getfield 25, 3), (20, .if_icmp .ge 25, 3), (23, .aload_n 1, 1), (24, .iload_n 2, 1), (25, .invokevirtual 54, 3), (28, .aload_n 0, 1), (29, .getfield 9, 3), (32, .iload_n 2, 1), (33, .iaload, 1)] := dkf (by decide +kernel)
theorem dX6_hasLetters_16 : decode cX6_hasLetters 16 = .ok (.aload_n 0, 1) := dkg_X6_16.1
theorem dX6_hasLetters_17 : decode cX6_hasLetters 17 = .ok (.getfield 25, 3) := dkg_X6_16.2.1
theorem dX6_hasLetters_20 : decode cX6_hasLetters 20 = .ok (.if_icmp .ge 25, 3) := dkg_X6_16.2.2.1
theorem dX6_hasLetters_23 : decode cX6_hasLetters 23 = .ok (.aload_n 1, 1) := dkg_X6_16.2.2.2.1
theorem dX6_hasLetters_24 : decode cX6_hasLetters 24 = .ok (.iload_n 2, 1) := dkg_X6_16.2.2.2.2.1
theorem dX6_hasLetters_25 : decode cX6_hasLetters 25 = .ok (.invokevirtual 54, 3) := dkg_X6_16.2.2.2.2.2.1
theorem dX6_hasLetters_28 : decode cX6_hasLetters 28 = .ok (.aload_n 0, 1) := dkg_X6_16.2.2.2.2.2.2.1
theorem dX6_hasLetters_29 : decode cX6_hasLetters 29 = .ok (.getfield 9, 3) := dkg_X6_16.2.2.2.2.2.2.2.1
theorem dX6_hasLetters_32 : decode cX6_hasLetters 32 = .ok (.iload_n 2, 1) := dkg_X6_16.2.2.2.2.2.2.2.2.1
theorem dX6_hasLetters_33 : decode cX6_hasLetters 33 = .ok (.iaload, 1) := dkg_X6_16.2.2.2.2.2.2.2.2.2.1
theorem dkg_X6_17 : dkp cX6_hasLetters [(34, .if_icmp .eq 5, 3), (37, .iconst 0, 1), (38, .ireturn, 1), (39, .iinc 2 1, 3), (42, .goto (-27), 3), (45, .iconst 1, 1), (46, .ireturn, 1)] := dkf (by decide +kernel)
theorem dX6_hasLetters_34 : decode cX6_hasLetters 34 = .ok (.if_icmp .eq 5, 3) := dkg_X6_17.1
theorem dX6_hasLetters_37 : decode cX6_hasLetters 37 = .ok (.iconst 0, 1) := dkg_X6_17.2.1
theorem dX6_hasLetters_38 : decode cX6_hasLetters 38 = .ok (.ireturn, 1) := dkg_X6_17.2.2.1
theorem dX6_hasLetters_39 : decode cX6_hasLetters 39 = .ok (.iinc 2 1, 3) := dkg_X6_17.2.2.2.1
theorem dX6_hasLetters_42 : decode cX6_hasLetters 42 = .ok (.goto (-27), 3) := dkg_X6_17.2.2.2.2.1
theorem dX6_hasLetters_45 : decode cX6_hasLetters 45 = .ok (.iconst 1, 1) := dkg_X6_17.2.2.2.2.2.1
theorem dX6_hasLetters_46 : decode cX6_hasLetters 46 = .ok (.ireturn, 1) := dkg_X6_17.2.2.2.2.2.2.1
theorem dkg_X6_18 : dkp cX6_writeLetters [(0, .iconst 0, 1), (1, .istore_n 2, 1), (2, .iload_n 2, 1), (3, .aload_n 0, 1), (4, .getfield 25, 3), (7, .if_icmp .ge 19, 3), (10, .aload_n 1, 1), (11, .aload_n 0, 1), (12, .getfield 9, 3), (15, .iload_n 2, 1)] := dkf (by decide +kernel)
theorem dX6_writeLetters_0 : decode cX6_writeLetters 0 = .ok (.iconst 0, 1) := dkg_X6_18.1
theorem dX6_writeLetters_1 : decode cX6_writeLetters 1 = .ok (.istore_n 2, 1) := dkg_X6_18.2.1
theorem dX6_writeLetters_2 : decode cX6_writeLetters 2 = .ok (.iload_n 2, 1) := dkg_X6_18.2.2.1
theorem dX6_writeLetters_3 : decode cX6_writeLetters 3 = .ok (.aload_n 0, 1) := dkg_X6_18.2.2.2.1
theorem dX6_writeLetters_4 : decode cX6_writeLetters 4 = .ok (.getfield 25, 3) := dkg_X6_18.2.2.2.2.1
theorem dX6_writeLetters_7 : decode cX6_writeLetters 7 = .ok (.if_icmp .ge 19, 3) := dkg_X6_18.2.2.2.2.2.1
theorem dX6_writeLetters_10 : decode cX6_writeLetters 10 = .ok (.aload_n 1, 1) := dkg_X6_18.2.2.2.2.2.2.1
theorem dX6_writeLetters_11 : decode cX6_writeLetters 11 = .ok (.aload_n 0, 1) := dkg_X6_18.2.2.2.2.2.2.2.1
theorem dX6_writeLetters_12 : decode cX6_writeLetters 12 = .ok (.getfield 9, 3) := dkg_X6_18.2.2.2.2.2.2.2.2.1
theorem dX6_writeLetters_15 : decode cX6_writeLetters 15 = .ok (.iload_n 2, 1) := dkg_X6_18.2.2.2.2.2.2.2.2.2.1
theorem dkg_X6_19 : dkp cX6_writeLetters [(16, .iaload, 1), (17, .invokevirtual 58, 3), (20, .iinc 2 1, 3), (23, .goto (-21), 3), (26, .return_, 1)] := dkf (by decide +kernel)
theorem dX6_writeLetters_16 : decode cX6_writeLetters 16 = .ok (.iaload, 1) := dkg_X6_19.1
theorem dX6_writeLetters_17 : decode cX6_writeLetters 17 = .ok (.invokevirtual 58, 3) := dkg_X6_19.2.1
theorem dX6_writeLetters_20 : decode cX6_writeLetters 20 = .ok (.iinc 2 1, 3) := dkg_X6_19.2.2.1
theorem dX6_writeLetters_23 : decode cX6_writeLetters 23 = .ok (.goto (-21), 3) := dkg_X6_19.2.2.2.1
theorem dX6_writeLetters_26 : decode cX6_writeLetters 26 = .ok (.return_, 1) := dkg_X6_19.2.2.2.2.1
theorem dkg_X6_20 : dkp cX6_setBy [(0, .aload_n 0, 1), (1, .iconst 0, 1), (2, .putfield 36, 3), (5, .aload_n 1, 1), (6, .getfield 62, 3), (9, .iconst 5, 1), (10, .if_icmp .ne 7, 3), (13, .iconst 1, 1), (14, .goto 4, 3), (17, .iconst 0, 1)] := dkf (by decide +kernel)
theorem dX6_setBy_0 : decode cX6_setBy 0 = .ok (.aload_n 0, 1) := dkg_X6_20.1
theorem dX6_setBy_1 : decode cX6_setBy 1 = .ok (.iconst 0, 1) := dkg_X6_20.2.1
theorem dX6_setBy_2 : decode cX6_setBy 2 = .ok (.putfield 36, 3) := dkg_X6_20.2.2.1
theorem dX6_setBy_5 : decode cX6_setBy 5 = .ok (.aload_n 1, 1) := dkg_X6_20.2.2.2.1
theorem dX6_setBy_6 : decode cX6_setBy 6 = .ok (.getfield 62, 3) := dkg_X6_20.2.2.2.2.1
theorem dX6_setBy_9 : decode cX6_setBy 9 = .ok (.iconst 5, 1) := dkg_X6_20.2.2.2.2.2.1
theorem dX6_setBy_10 : decode cX6_setBy 10 = .ok (.if_icmp .ne 7, 3) := dkg_X6_20.2.2.2.2.2.2.1
theorem dX6_setBy_13 : decode cX6_setBy 13 = .ok (.iconst 1, 1) := dkg_X6_20.2.2.2.2.2.2.2.1
theorem dX6_setBy_14 : decode cX6_setBy 14 = .ok (.goto 4, 3) := dkg_X6_20.2.2.2.2.2.2.2.2.1
theorem dX6_setBy_17 : decode cX6_setBy 17 = .ok (.iconst 0, 1) := dkg_X6_20.2.2.2.2.2.2.2.2.2.1
theorem dkg_X6_21 : dkp cX6_setBy [(18, .istore_n 2, 1), (19, .iconst 0, 1), (20, .istore_n 3, 1), (21, .iconst 0, 1), (22, .istore 4, 2), (24, .iconst 0, 1), (25, .istore 5, 2), (27, .iload 5, 2), (29, .aload_n 0, 1), (30, .getfield 25, 3)] := dkf (by decide +kernel)
theorem dX6_setBy_18 : decode cX6_setBy 18 = .ok (.istore_n 2, 1) := dkg_X6_21.1
theorem dX6_setBy_19 : decode cX6_setBy 19 = .ok (.iconst 0, 1) := dkg_X6_21.2.1
theorem dX6_setBy_20 : decode cX6_setBy 20 = .ok (.istore_n 3, 1) := dkg_X6_21.2.2.1
theorem dX6_setBy_21 : decode cX6_setBy 21 = .ok (.iconst 0, 1) := dkg_X6_21.2.2.2.1
theorem dX6_setBy_22 : decode cX6_setBy 22 = .ok (.istore 4, 2) := dkg_X6_21.2.2.2.2.1
theorem dX6_setBy_24 : decode cX6_setBy 24 = .ok (.iconst 0, 1) := dkg_X6_21.2.2.2.2.2.1
theorem dX6_setBy_25 : decode cX6_setBy 25 = .ok (.istore 5, 2) := dkg_X6_21.2.2.2.2.2.2.1
theorem dX6_setBy_27 : decode cX6_setBy 27 = .ok (.iload 5, 2) := dkg_X6_21.2.2.2.2.2.2.2.1
theorem dX6_setBy_29 : decode cX6_setBy 29 = .ok (.aload_n 0, 1) := dkg_X6_21.2.2.2.2.2.2.2.2.1
theorem dX6_setBy_30 : decode cX6_setBy 30 = .ok (.getfield 25, 3) := dkg_X6_21.2.2.2.2.2.2.2.2.2.1
theorem dkg_X6_22 : dkp cX6_setBy [(33, .if_icmp .gt 160, 3), (36, .iload_n 2, 1), (37, .ifCond .eq 37, 3), (40, .iload 5, 2), (42, .aload_n 0, 1), (43, .getfield 25, 3), (46, .if_icmp .ge 28, 3), (49, .aload_n 0, 1), (50, .getfield 9, 3), (53, .iload 5, 2)] := dkf (by decide +kernel)
theorem dX6_setBy_33 : decode cX6_setBy 33 = .ok (.if_icmp .gt 160, 3) := dkg_X6_22.1
theorem dX6_setBy_36 : decode cX6_setBy 36 = .ok (.iload_n 2, 1) := dkg_X6_22.2.1
theorem dX6_setBy_37 : decode cX6_setBy 37 = .ok (.ifCond .eq 37, 3) := dkg_X6_22.2.2.1
theorem dX6_setBy_40 : decode cX6_setBy 40 = .ok (.iload 5, 2) := dkg_X6_22.2.2.2.1
theorem dX6_setBy_42 : decode cX6_setBy 42 = .ok (.aload_n 0, 1) := dkg_X6_22.2.2.2.2.1
theorem dX6_setBy_43 : decode cX6_setBy 43 = .ok (.getfield 25, 3) := dkg_X6_22.2.2.2.2.2.1
theorem dX6_setBy_46 : decode cX6_setBy 46 = .ok (.if_icmp .ge 28, 3) := dkg_X6_22.2.2.2.2.2.2.1
theorem dX6_setBy_49 : decode cX6_setBy 49 = .ok (.aload_n 0, 1) := dkg_X6_22.2.2.2.2.2.2.2.1
theorem dX6_setBy_50 : decode cX6_setBy 50 = .ok (.getfield 9, 3) := dkg_X6_22.2.2.2.2.2.2.2.2.1
theorem dX6_setBy_53 : decode cX6_setBy 53 = .ok (.iload 5, 2) := dkg_X6_22.2.2.2.2.2.2.2.2.2.1
theorem dkg_X6_23 : dkp cX6_setBy [(55, .iaload, 1), (56, .iload_n 3, 1), (57, .ifCond .eq 8, 3), (60, .bipush 62, 2), (62, .goto 5, 3), (65, .bipush 60, 2), (67, .if_icmp .ne 7, 3), (70, .iconst 1, 1), (71, .goto 4, 3), (74, .iconst 0, 1)] := dkf (by decide +kernel)
theorem dX6_setBy_55 : decode cX6_setBy 55 = .ok (.iaload, 1) := dkg_X6_23.1
theorem dX6_setBy_56 : decode cX6_setBy 56 = .ok (.iload_n 3, 1) := dkg_X6_23.2.1
theorem dX6_setBy_57 : decode cX6_setBy 57 = .ok (.ifCond .eq 8, 3) := dkg_X6_23.2.2.1
theorem dX6_setBy_60 : decode cX6_setBy 60 = .ok (.bipush 62, 2) := dkg_X6_23.2.2.2.1
theorem dX6_setBy_62 : decode cX6_setBy 62 = .ok (.goto 5, 3) := dkg_X6_23.2.2.2.2.1
theorem dX6_setBy_65 : decode cX6_setBy 65 = .ok (.bipush 60, 2) := dkg_X6_23.2.2.2.2.2.1
theorem dX6_setBy_67 : decode cX6_setBy 67 = .ok (.if_icmp .ne 7, 3) := dkg_X6_23.2.2.2.2.2.2.1
theorem dX6_setBy_70 : decode cX6_setBy 70 = .ok (.iconst 1, 1) := dkg_X6_23.2.2.2.2.2.2.2.1
theorem dX6_setBy_71 : decode cX6_setBy 71 = .ok (.goto 4, 3) := dkg_X6_23.2.2.2.2.2.2.2.2.1
theorem dX6_setBy_74 : decode cX6_setBy 74 = .ok (.iconst 0, 1) := dkg_X6_23.2.2.2.2.2.2.2.2.2.1
theorem dkg_X6_24 : dkp cX6_setBy [(75, .istore 6, 2), (77, .iload 5, 2), (79, .aload_n 0, 1), (80, .getfield 25, 3), (83, .if_icmp .ge 11, 3), (86, .iload 6, 2), (88, .ifCond .ne 6, 3), (91, .goto 96, 3), (94, .iload_n 2, 1), (95, .ifCond .eq 10, 3)] := dkf (by decide +kernel)
theorem dX6_setBy_75 : decode cX6_setBy 75 = .ok (.istore 6, 2) := dkg_X6_24.1
theorem dX6_setBy_77 : decode cX6_setBy 77 = .ok (.iload 5, 2) := dkg_X6_24.2.1
theorem dX6_setBy_79 : decode cX6_setBy 79 = .ok (.aload_n 0, 1) := dkg_X6_24.2.2.1
theorem dX6_setBy_80 : decode cX6_setBy 80 = .ok (.getfield 25, 3) := dkg_X6_24.2.2.2.1
theorem dX6_setBy_83 : decode cX6_setBy 83 = .ok (.if_icmp .ge 11, 3) := dkg_X6_24.2.2.2.2.1
theorem dX6_setBy_86 : decode cX6_setBy 86 = .ok (.iload 6, 2) := dkg_X6_24.2.2.2.2.2.1
theorem dX6_setBy_88 : decode cX6_setBy 88 = .ok (.ifCond .ne 6, 3) := dkg_X6_24.2.2.2.2.2.2.1
theorem dX6_setBy_91 : decode cX6_setBy 91 = .ok (.goto 96, 3) := dkg_X6_24.2.2.2.2.2.2.2.1
theorem dX6_setBy_94 : decode cX6_setBy 94 = .ok (.iload_n 2, 1) := dkg_X6_24.2.2.2.2.2.2.2.2.1
theorem dX6_setBy_95 : decode cX6_setBy 95 = .ok (.ifCond .eq 10, 3) := dkg_X6_24.2.2.2.2.2.2.2.2.2.1
theorem dkg_X6_25 : dkp cX6_setBy [(98, .aload_n 1, 1), (99, .getfield 67, 3), (102, .goto 4, 3), (105, .aload_n 1, 1), (106, .astore 7, 2), (108, .aload_n 0, 1), (109, .iload_n 3, 1), (110, .ifCond .eq 10, 3), (113, .aload_n 1, 1), (114, .getfield 71, 3)] := dkf (by decide +kernel)
theorem dX6_setBy_98 : decode cX6_setBy 98 = .ok (.aload_n 1, 1) := dkg_X6_25.1
theorem dX6_setBy_99 : decode cX6_setBy 99 = .ok (.getfield 67, 3) := dkg_X6_25.2.1
theorem dX6_setBy_102 : decode cX6_setBy 102 = .ok (.goto 4, 3) := dkg_X6_25.2.2.1
theorem dX6_setBy_105 : decode cX6_setBy 105 = .ok (.aload_n 1, 1) := dkg_X6_25.2.2.2.1
theorem dX6_setBy_106 : decode cX6_setBy 106 = .ok (.astore 7, 2) := dkg_X6_25.2.2.2.2.1
theorem dX6_setBy_108 : decode cX6_setBy 108 = .ok (.aload_n 0, 1) := dkg_X6_25.2.2.2.2.2.1
theorem dX6_setBy_109 : decode cX6_setBy 109 = .ok (.iload_n 3, 1) := dkg_X6_25.2.2.2.2.2.2.1
theorem dX6_setBy_110 : decode cX6_setBy 110 = .ok (.ifCond .eq 10, 3) := dkg_X6_25.2.2.2.2.2.2.2.1
theorem dX6_setBy_113 : decode cX6_setBy 113 = .ok (.aload_n 1, 1) := dkg_X6_25.2.2.2.2.2.2.2.2.1
theorem dX6_setBy_114 : decode cX6_setBy 114 = .ok (.getfield 71, 3) := dkg_X6_25.2.2.2.2.2.2.2.2.2.1
theorem dkg_X6_26 : dkp cX6_setBy [(117, .goto 5, 3), (120, .aload 7, 2), (122, .iload 4, 2), (124, .iload 5, 2), (126, .invokevirtual 74, 3), (129, .istore 8, 2), (131, .iload 8, 2), (133, .ifCond .ne 30, 3), (136, .iload 6, 2), (138, .ifCond .eq 25, 3)] := dkf (by decide +kernel)
theorem dX6_setBy_117 : decode cX6_setBy 117 = .ok (.goto 5, 3) := dkg_X6_26.1
theorem dX6_setBy_120 : decode cX6_setBy 120 = .ok (.aload 7, 2) := dkg_X6_26.2.1
theorem dX6_setBy_122 : decode cX6_setBy 122 = .ok (.iload 4, 2) := dkg_X6_26.2.2.1
theorem dX6_setBy_124 : decode cX6_setBy 124 = .ok (.iload 5, 2) := dkg_X6_26.2.2.2.1
theorem dX6_setBy_126 : decode cX6_setBy 126 = .ok (.invokevirtual 74, 3) := dkg_X6_26.2.2.2.2.1
theorem dX6_setBy_129 : decode cX6_setBy 129 = .ok (.istore 8, 2) := dkg_X6_26.2.2.2.2.2.1
theorem dX6_setBy_131 : decode cX6_setBy 131 = .ok (.iload 8, 2) := dkg_X6_26.2.2.2.2.2.2.1
theorem dX6_setBy_133 : decode cX6_setBy 133 = .ok (.ifCond .ne 30, 3) := dkg_X6_26.2.2.2.2.2.2.2.1
theorem dX6_setBy_136 : decode cX6_setBy 136 = .ok (.iload 6, 2) := dkg_X6_26.2.2.2.2.2.2.2.2.1
theorem dX6_setBy_138 : decode cX6_setBy 138 = .ok (.ifCond .eq 25, 3) := dkg_X6_26.2.2.2.2.2.2.2.2.2.1
theorem dkg_X6_27 : dkp cX6_setBy [(141, .aload_n 0, 1), (142, .aload_n 1, 1), (143, .getfield 78, 3), (146, .iload_n 3, 1), (147, .ifCond .eq 7, 3), (150, .iconst 3, 1), (151, .goto 4, 3), (154, .iconst 2, 1), (155, .aaload, 1), (156, .iload 5, 2)] := dkf (by decide +kernel)
theorem dX6_setBy_141 : decode cX6_setBy 141 = .ok (.aload_n 0, 1) := dkg_X6_27.1
theorem dX6_setBy_142 : decode cX6_setBy 142 = .ok (.aload_n 1, 1) := dkg_X6_27.2.1
theorem dX6_setBy_143 : decode cX6_setBy 143 = .ok (.getfield 78, 3) := dkg_X6_27.2.2.1
theorem dX6_setBy_146 : decode cX6_setBy 146 = .ok (.iload_n 3, 1) := dkg_X6_27.2.2.2.1
theorem dX6_setBy_147 : decode cX6_setBy 147 = .ok (.ifCond .eq 7, 3) := dkg_X6_27.2.2.2.2.1
theorem dX6_setBy_150 : decode cX6_setBy 150 = .ok (.iconst 3, 1) := dkg_X6_27.2.2.2.2.2.1
theorem dX6_setBy_151 : decode cX6_setBy 151 = .ok (.goto 4, 3) := dkg_X6_27.2.2.2.2.2.2.1
theorem dX6_setBy_154 : decode cX6_setBy 154 = .ok (.iconst 2, 1) := dkg_X6_27.2.2.2.2.2.2.2.1
theorem dX6_setBy_155 : decode cX6_setBy 155 = .ok (.aaload, 1) := dkg_X6_27.2.2.2.2.2.2.2.2.1
theorem dX6_setBy_156 : decode cX6_setBy 156 = .ok (.iload 5, 2) := dkg_X6_27.2.2.2.2.2.2.2.2.2.1
theorem dkg_X6_28 : dkp cX6_setBy [(158, .invokevirtual 82, 3), (161, .istore 8, 2), (163, .iload 8, 2), (165, .ifCond .eq 6, 3), (168, .iload 8, 2), (170, .ireturn, 1), (171, .iload_n 3, 1), (172, .ifCond .ne 7, 3), (175, .iconst 1, 1), (176, .goto 4, 3)] := dkf (by decide +kernel)
theorem dX6_setBy_158 : decode cX6_setBy 158 = .ok (.invokevirtual 82, 3) := dkg_X6_28.1
theorem dX6_setBy_161 : decode cX6_setBy 161 = .ok (.istore 8, 2) := dkg_X6_28.2.1
theorem dX6_setBy_163 : decode cX6_setBy 163 = .ok (.iload 8, 2) := dkg_X6_28.2.2.1
theorem dX6_setBy_165 : decode cX6_setBy 165 = .ok (.ifCond .eq 6, 3) := dkg_X6_28.2.2.2.1
theorem dX6_setBy_168 : decode cX6_setBy 168 = .ok (.iload 8, 2) := dkg_X6_28.2.2.2.2.1
theorem dX6_setBy_170 : decode cX6_setBy 170 = .ok (.ireturn, 1) := dkg_X6_28.2.2.2.2.2.1
theorem dX6_setBy_171 : decode cX6_setBy 171 = .ok (.iload_n 3, 1) := dkg_X6_28.2.2.2.2.2.2.1
theorem dX6_setBy_172 : decode cX6_setBy 172 = .ok (.ifCond .ne 7, 3) := dkg_X6_28.2.2.2.2.2.2.2.1
theorem dX6_setBy_175 : decode cX6_setBy 175 = .ok (.iconst 1, 1) := dkg_X6_28.2.2.2.2.2.2.2.2.1
theorem dX6_setBy_176 : decode cX6_setBy 176 = .ok (.goto 4, 3) := dkg_X6_28.2.2.2.2.2.2.2.2.2.1
theorem dkg_X6_29 : dkp cX6_setBy [(179, .iconst 0, 1), (180, .istore_n 3, 1), (181, .iload 5, 2), (183, .iconst 1, 1), (184, .iadd, 1), (185, .istore 4, 2), (187, .iinc 5 1, 3), (190, .goto (-163), 3), (193, .aload_n 0, 1), (194, .getfield 36, 3)] := dkf (by decide +kernel)
theorem dX6_setBy_179 : decode cX6_setBy 179 = .ok (.iconst 0, 1) := dkg_X6_29.1
theorem dX6_setBy_180 : decode cX6_setBy 180 = .ok (.istore_n 3, 1) := dkg_X6_29.2.1
theorem dX6_setBy_181 : decode cX6_setBy 181 = .ok (.iload 5, 2) := dkg_X6_29.2.2.1
theorem dX6_setBy_183 : decode cX6_setBy 183 = .ok (.iconst 1, 1) := dkg_X6_29.2.2.2.1
theorem dX6_setBy_184 : decode cX6_setBy 184 = .ok (.iadd, 1) := dkg_X6_29.2.2.2.2.1
theorem dX6_setBy_185 : decode cX6_setBy 185 = .ok (.istore 4, 2) := dkg_X6_29.2.2.2.2.2.1
theorem dX6_setBy_187 : decode cX6_setBy 187 = .ok (.iinc 5 1, 3) := dkg_X6_29.2.2.2.2.2.2.1
theorem dX6_setBy_190 : decode cX6_setBy 190 = .ok (.goto (-163), 3) := dkg_X6_29.2.2.2.2.2.2.2.1
theorem dX6_setBy_193 : decode cX6_setBy 193 = .ok (.aload_n 0, 1) := dkg_X6_29.2.2.2.2.2.2.2.2.1
theorem dX6_setBy_194 : decode cX6_setBy 194 = .ok (.getfield 36, 3) := dkg_X6_29.2.2.2.2.2.2.2.2.2.1
theorem dkg_X6_30 : dkp cX6_setBy [(197, .sipush 200, 3), (200, .if_icmp .le 8, 3), (203, .bipush 6, 2), (205, .goto 4, 3), (208, .iconst 0, 1), (209, .ireturn, 1)] := dkf (by decide +kernel)
theorem dX6_setBy_197 : decode cX6_setBy 197 = .ok (.sipush 200, 3) := dkg_X6_30.1
theorem dX6_setBy_200 : decode cX6_setBy 200 = .ok (.if_icmp .le 8, 3) := dkg_X6_30.2.1
theorem dX6_setBy_203 : decode cX6_setBy 203 = .ok (.bipush 6, 2) := dkg_X6_30.2.2.1
theorem dX6_setBy_205 : decode cX6_setBy 205 = .ok (.goto 4, 3) := dkg_X6_30.2.2.2.1
theorem dX6_setBy_208 : decode cX6_setBy 208 = .ok (.iconst 0, 1) := dkg_X6_30.2.2.2.2.1
theorem dX6_setBy_209 : decode cX6_setBy 209 = .ok (.ireturn, 1) := dkg_X6_30.2.2.2.2.2.1
theorem dkg_X6_31 : dkp cX6_setTurn [(0, .aload_n 1, 1), (1, .ifnonnull 11, 3), (4, .aload_n 0, 1), (5, .iload_n 2, 1), (6, .putfield 42, 3), (9, .bipush 7, 2), (11, .ireturn, 1), (12, .aload_n 0, 1), (13, .aload_n 1, 1), (14, .invokevirtual 86, 3)] := dkf (by decide +kernel)
theorem dX6_setTurn_0 : decode cX6_setTurn 0 = .ok (.aload_n 1, 1) := dkg_X6_31.1
theorem dX6_setTurn_1 : decode cX6_setTurn 1 = .ok (.ifnonnull 11, 3) := dkg_X6_31.2.1
theorem dX6_setTurn_4 : decode cX6_setTurn 4 = .ok (.aload_n 0, 1) := dkg_X6_31.2.2.1
theorem dX6_setTurn_5 : decode cX6_setTurn 5 = .ok (.iload_n 2, 1) := dkg_X6_31.2.2.2.1
theorem dX6_setTurn_6 : decode cX6_setTurn 6 = .ok (.putfield 42, 3) := dkg_X6_31.2.2.2.2.1
theorem dX6_setTurn_9 : decode cX6_setTurn 9 = .ok (.bipush 7, 2) := dkg_X6_31.2.2.2.2.2.1
theorem dX6_setTurn_11 : decode cX6_setTurn 11 = .ok (.ireturn, 1) := dkg_X6_31.2.2.2.2.2.2.1
theorem dX6_setTurn_12 : decode cX6_setTurn 12 = .ok (.aload_n 0, 1) := dkg_X6_31.2.2.2.2.2.2.2.1
theorem dX6_setTurn_13 : decode cX6_setTurn 13 = .ok (.aload_n 1, 1) := dkg_X6_31.2.2.2.2.2.2.2.2.1
theorem dX6_setTurn_14 : decode cX6_setTurn 14 = .ok (.invokevirtual 86, 3) := dkg_X6_31.2.2.2.2.2.2.2.2.2.1
theorem dkg_X6_32 : dkp cX6_setTurn [(17, .iconst 0, 1), (18, .ireturn, 1)] := dkf (by decide +kernel)
theorem dX6_setTurn_17 : decode cX6_setTurn 17 = .ok (.iconst 0, 1) := dkg_X6_32.1
theorem dX6_setTurn_18 : decode cX6_setTurn 18 = .ok (.ireturn, 1) := dkg_X6_32.2.1
theorem dkg_X6_33 : dkp cX6_setPart [(0, .aload_n 1, 1), (1, .ifnonnull 5, 3), (4, .iconst 0, 1), (5, .ireturn, 1), (6, .aload_n 0, 1), (7, .iload_n 2, 1), (8, .putfield 45, 3), (11, .aload_n 0, 1), (12, .iload_n 3, 1), (13, .putfield 48, 3)] := dkf (by decide +kernel)
theorem dX6_setPart_0 : decode cX6_setPart 0 = .ok (.aload_n 1, 1) := dkg_X6_33.1
theorem dX6_setPart_1 : decode cX6_setPart 1 = .ok (.ifnonnull 5, 3) := dkg_X6_33.2.1
theorem dX6_setPart_4 : decode cX6_setPart 4 = .ok (.iconst 0, 1) := dkg_X6_33.2.2.1
theorem dX6_setPart_5 : decode cX6_setPart 5 = .ok (.ireturn, 1) := dkg_X6_33.2.2.2.1
theorem dX6_setPart_6 : decode cX6_setPart 6 = .ok (.aload_n 0, 1) := dkg_X6_33.2.2.2.2.1
theorem dX6_setPart_7 : decode cX6_setPart 7 = .ok (.iload_n 2, 1) := dkg_X6_33.2.2.2.2.2.1
theorem dX6_setPart_8 : decode cX6_setPart 8 = .ok (.putfield 45, 3) := dkg_X6_33.2.2.2.2.2.2.1
theorem dX6_setPart_11 : decode cX6_setPart 11 = .ok (.aload_n 0, 1) := dkg_X6_33.2.2.2.2.2.2.2.1
theorem dX6_setPart_12 : decode cX6_setPart 12 = .ok (.iload_n 3, 1) := dkg_X6_33.2.2.2.2.2.2.2.2.1
theorem dX6_setPart_13 : decode cX6_setPart 13 = .ok (.putfield 48, 3) := dkg_X6_33.2.2.2.2.2.2.2.2.2.1
theorem dkg_X6_34 : dkp cX6_setPart [(16, .aload_n 1, 1), (17, .getfield 62, 3), (20, .iconst 2, 1), (21, .if_icmp .gt 12, 3), (24, .aload_n 1, 1), (25, .getfield 78, 3), (28, .iconst 0, 1), (29, .aaload, 1), (30, .goto 4, 3), (33, .aconst_null, 1)] := dkf (by decide +kernel)
theorem dX6_setPart_16 : decode cX6_setPart 16 = .ok (.aload_n 1, 1) := dkg_X6_34.1
theorem dX6_setPart_17 : decode cX6_setPart 17 = .ok (.getfield 62, 3) := dkg_X6_34.2.1
theorem dX6_setPart_20 : decode cX6_setPart 20 = .ok (.iconst 2, 1) := dkg_X6_34.2.2.1
theorem dX6_setPart_21 : decode cX6_setPart 21 = .ok (.if_icmp .gt 12, 3) := dkg_X6_34.2.2.2.1
theorem dX6_setPart_24 : decode cX6_setPart 24 = .ok (.aload_n 1, 1) := dkg_X6_34.2.2.2.2.1
theorem dX6_setPart_25 : decode cX6_setPart 25 = .ok (.getfield 78, 3) := dkg_X6_34.2.2.2.2.2.1
theorem dX6_setPart_28 : decode cX6_setPart 28 = .ok (.iconst 0, 1) := dkg_X6_34.2.2.2.2.2.2.1
theorem dX6_setPart_29 : decode cX6_setPart 29 = .ok (.aaload, 1) := dkg_X6_34.2.2.2.2.2.2.2.1
theorem dX6_setPart_30 : decode cX6_setPart 30 = .ok (.goto 4, 3) := dkg_X6_34.2.2.2.2.2.2.2.2.1
theorem dX6_setPart_33 : decode cX6_setPart 33 = .ok (.aconst_null, 1) := dkg_X6_34.2.2.2.2.2.2.2.2.2.1
theorem dkg_X6_35 : dkp cX6_setPart [(34, .astore 4, 2), (36, .iload_n 2, 1), (37, .istore 5, 2), (39, .iload 5, 2), (41, .iload_n 3, 1), (42, .if_icmp .ge 137, 3), (45, .aload_n 0, 1), (46, .getfield 9, 3), (49, .iload 5, 2), (51, .iaload, 1)] := dkf (by decide +kernel)
theorem dX6_setPart_34 : decode cX6_setPart 34 = .ok (.astore 4, 2) := dkg_X6_35.1
theorem dX6_setPart_36 : decode cX6_setPart 36 = .ok (.iload_n 2, 1) := dkg_X6_35.2.1
theorem dX6_setPart_37 : decode cX6_setPart 37 = .ok (.istore 5, 2) := dkg_X6_35.2.2.1
theorem dX6_setPart_39 : decode cX6_setPart 39 = .ok (.iload 5, 2) := dkg_X6_35.2.2.2.1
theorem dX6_setPart_41 : decode cX6_setPart 41 = .ok (.iload_n 3, 1) := dkg_X6_35.2.2.2.2.1
theorem dX6_setPart_42 : decode cX6_setPart 42 = .ok (.if_icmp .ge 137, 3) := dkg_X6_35.2.2.2.2.2.1
theorem dX6_setPart_45 : decode cX6_setPart 45 = .ok (.aload_n 0, 1) := dkg_X6_35.2.2.2.2.2.2.1
theorem dX6_setPart_46 : decode cX6_setPart 46 = .ok (.getfield 9, 3) := dkg_X6_35.2.2.2.2.2.2.2.1
theorem dX6_setPart_49 : decode cX6_setPart 49 = .ok (.iload 5, 2) := dkg_X6_35.2.2.2.2.2.2.2.2.1
theorem dX6_setPart_51 : decode cX6_setPart 51 = .ok (.iaload, 1) := dkg_X6_35.2.2.2.2.2.2.2.2.2.1
theorem dkg_X6_36 : dkp cX6_setPart [(52, .istore 6, 2), (54, .aload_n 0, 1), (55, .aload_n 1, 1), (56, .iload 5, 2), (58, .invokevirtual 90, 3), (61, .astore 7, 2), (63, .aload_n 0, 1), (64, .aload_n 1, 1), (65, .iload 5, 2), (67, .iload 6, 2)] := dkf (by decide +kernel)
theorem dX6_setPart_52 : decode cX6_setPart 52 = .ok (.istore 6, 2) := dkg_X6_36.1
theorem dX6_setPart_54 : decode cX6_setPart 54 = .ok (.aload_n 0, 1) := dkg_X6_36.2.1
theorem dX6_setPart_55 : decode cX6_setPart 55 = .ok (.aload_n 1, 1) := dkg_X6_36.2.2.1
theorem dX6_setPart_56 : decode cX6_setPart 56 = .ok (.iload 5, 2) := dkg_X6_36.2.2.2.1
theorem dX6_setPart_58 : decode cX6_setPart 58 = .ok (.invokevirtual 90, 3) := dkg_X6_36.2.2.2.2.1
theorem dX6_setPart_61 : decode cX6_setPart 61 = .ok (.astore 7, 2) := dkg_X6_36.2.2.2.2.2.1
theorem dX6_setPart_63 : decode cX6_setPart 63 = .ok (.aload_n 0, 1) := dkg_X6_36.2.2.2.2.2.2.1
theorem dX6_setPart_64 : decode cX6_setPart 64 = .ok (.aload_n 1, 1) := dkg_X6_36.2.2.2.2.2.2.2.1
theorem dX6_setPart_65 : decode cX6_setPart 65 = .ok (.iload 5, 2) := dkg_X6_36.2.2.2.2.2.2.2.2.1
theorem dX6_setPart_67 : decode cX6_setPart 67 = .ok (.iload 6, 2) := dkg_X6_36.2.2.2.2.2.2.2.2.2.1
theorem dkg_X6_37 : dkp cX6_setPart [(69, .invokevirtual 94, 3), (72, .astore 8, 2), (74, .aload 8, 2), (76, .ifnonnull 34, 3), (79, .aload 4, 2), (81, .ifnull 29, 3), (84, .iload 6, 2), (86, .invokestatic 98, 3), (89, .ifCond .eq 21, 3), (92, .aload 4, 2)] := dkf (by decide +kernel)
theorem dX6_setPart_69 : decode cX6_setPart 69 = .ok (.invokevirtual 94, 3) := dkg_X6_37.1
theorem dX6_setPart_72 : decode cX6_setPart 72 = .ok (.astore 8, 2) := dkg_X6_37.2.1
theorem dX6_setPart_74 : decode cX6_setPart 74 = .ok (.aload 8, 2) := dkg_X6_37.2.2.1
theorem dX6_setPart_76 : decode cX6_setPart 76 = .ok (.ifnonnull 34, 3) := dkg_X6_37.2.2.2.1
theorem dX6_setPart_79 : decode cX6_setPart 79 = .ok (.aload 4, 2) := dkg_X6_37.2.2.2.2.1
theorem dX6_setPart_81 : decode cX6_setPart 81 = .ok (.ifnull 29, 3) := dkg_X6_37.2.2.2.2.2.1
theorem dX6_setPart_84 : decode cX6_setPart 84 = .ok (.iload 6, 2) := dkg_X6_37.2.2.2.2.2.2.1
theorem dX6_setPart_86 : decode cX6_setPart 86 = .ok (.invokestatic 98, 3) := dkg_X6_37.2.2.2.2.2.2.2.1
theorem dX6_setPart_89 : decode cX6_setPart 89 = .ok (.ifCond .eq 21, 3) := dkg_X6_37.2.2.2.2.2.2.2.2.1
theorem dX6_setPart_92 : decode cX6_setPart 92 = .ok (.aload 4, 2) := dkg_X6_37.2.2.2.2.2.2.2.2.2.1
theorem dkg_X6_38 : dkp cX6_setPart [(94, .astore 7, 2), (96, .aload_n 0, 1), (97, .aload_n 1, 1), (98, .iload 5, 2), (100, .iload 6, 2), (102, .bipush 32, 2), (104, .iadd, 1), (105, .invokevirtual 94, 3), (108, .astore 8, 2), (110, .aload 8, 2)] := dkf (by decide +kernel)
theorem dX6_setPart_94 : decode cX6_setPart 94 = .ok (.astore 7, 2) := dkg_X6_38.1
theorem dX6_setPart_96 : decode cX6_setPart 96 = .ok (.aload_n 0, 1) := dkg_X6_38.2.1
theorem dX6_setPart_97 : decode cX6_setPart 97 = .ok (.aload_n 1, 1) := dkg_X6_38.2.2.1
theorem dX6_setPart_98 : decode cX6_setPart 98 = .ok (.iload 5, 2) := dkg_X6_38.2.2.2.1
theorem dX6_setPart_100 : decode cX6_setPart 100 = .ok (.iload 6, 2) := dkg_X6_38.2.2.2.2.1
theorem dX6_setPart_102 : decode cX6_setPart 102 = .ok (.bipush 32, 2) := dkg_X6_38.2.2.2.2.2.1
theorem dX6_setPart_104 : decode cX6_setPart 104 = .ok (.iadd, 1) := dkg_X6_38.2.2.2.2.2.2.1
theorem dX6_setPart_105 : decode cX6_setPart 105 = .ok (.invokevirtual 94, 3) := dkg_X6_38.2.2.2.2.2.2.2.1
theorem dX6_setPart_108 : decode cX6_setPart 108 = .ok (.astore 8, 2) := dkg_X6_38.2.2.2.2.2.2.2.2.1
theorem dX6_setPart_110 : decode cX6_setPart 110 = .ok (.aload 8, 2) := dkg_X6_38.2.2.2.2.2.2.2.2.2.1
theorem dkg_X6_39 : dkp cX6_setPart [(112, .ifnonnull 12, 3), (115, .aload_n 0, 1), (116, .iload 5, 2), (118, .putfield 42, 3), (121, .bipush 7, 2), (123, .ireturn, 1), (124, .aload_n 0, 1), (125, .iload 5, 2), (127, .aload 8, 2), (129, .getfield 102, 3)] := dkf (by decide +kernel)
theorem dX6_setPart_112 : decode cX6_setPart 112 = .ok (.ifnonnull 12, 3) := dkg_X6_39.1
theorem dX6_setPart_115 : decode cX6_setPart 115 = .ok (.aload_n 0, 1) := dkg_X6_39.2.1
theorem dX6_setPart_116 : decode cX6_setPart 116 = .ok (.iload 5, 2) := dkg_X6_39.2.2.1
theorem dX6_setPart_118 : decode cX6_setPart 118 = .ok (.putfield 42, 3) := dkg_X6_39.2.2.2.1
theorem dX6_setPart_121 : decode cX6_setPart 121 = .ok (.bipush 7, 2) := dkg_X6_39.2.2.2.2.1
theorem dX6_setPart_123 : decode cX6_setPart 123 = .ok (.ireturn, 1) := dkg_X6_39.2.2.2.2.2.1
theorem dX6_setPart_124 : decode cX6_setPart 124 = .ok (.aload_n 0, 1) := dkg_X6_39.2.2.2.2.2.2.1
theorem dX6_setPart_125 : decode cX6_setPart 125 = .ok (.iload 5, 2) := dkg_X6_39.2.2.2.2.2.2.2.1
theorem dX6_setPart_127 : decode cX6_setPart 127 = .ok (.aload 8, 2) := dkg_X6_39.2.2.2.2.2.2.2.2.1
theorem dX6_setPart_129 : decode cX6_setPart 129 = .ok (.getfield 102, 3) := dkg_X6_39.2.2.2.2.2.2.2.2.2.1
theorem dkg_X6_40 : dkp cX6_setPart [(132, .arraylength, 1), (133, .invokevirtual 105, 3), (136, .aload_n 0, 1), (137, .aload 7, 2), (139, .invokevirtual 86, 3), (142, .aload_n 0, 1), (143, .aload 8, 2), (145, .invokevirtual 86, 3), (148, .aload_n 0, 1), (149, .getfield 36, 3)] := dkf (by decide +kernel)
theorem dX6_setPart_132 : decode cX6_setPart 132 = .ok (.arraylength, 1) := dkg_X6_40.1
theorem dX6_setPart_133 : decode cX6_setPart 133 = .ok (.invokevirtual 105, 3) := dkg_X6_40.2.1
theorem dX6_setPart_136 : decode cX6_setPart 136 = .ok (.aload_n 0, 1) := dkg_X6_40.2.2.1
theorem dX6_setPart_137 : decode cX6_setPart 137 = .ok (.aload 7, 2) := dkg_X6_40.2.2.2.1
theorem dX6_setPart_139 : decode cX6_setPart 139 = .ok (.invokevirtual 86, 3) := dkg_X6_40.2.2.2.2.1
theorem dX6_setPart_142 : decode cX6_setPart 142 = .ok (.aload_n 0, 1) := dkg_X6_40.2.2.2.2.2.1
theorem dX6_setPart_143 : decode cX6_setPart 143 = .ok (.aload 8, 2) := dkg_X6_40.2.2.2.2.2.2.1
theorem dX6_setPart_145 : decode cX6_setPart 145 = .ok (.invokevirtual 86, 3) := dkg_X6_40.2.2.2.2.2.2.2.1
theorem dX6_setPart_148 : decode cX6_setPart 148 = .ok (.aload_n 0, 1) := dkg_X6_40.2.2.2.2.2.2.2.2.1
theorem dX6_setPart_149 : decode cX6_setPart 149 = .ok (.getfield 36, 3) := dkg_X6_40.2.2.2.2.2.2.2.2.2.1
theorem dkg_X6_41 : dkp cX6_setPart [(152, .sipush 200, 3), (155, .if_icmp .le 6, 3), (158, .bipush 6, 2), (160, .ireturn, 1), (161, .iload 5, 2), (163, .iconst 1, 1), (164, .aload 8, 2), (166, .getfield 102, 3), (169, .arraylength, 1), (170, .invokestatic 109, 3)] := dkf (by decide +kernel)
theorem dX6_setPart_152 : decode cX6_setPart 152 = .ok (.sipush 200, 3) := dkg_X6_41.1
theorem dX6_setPart_155 : decode cX6_setPart 155 = .ok (.if_icmp .le 6, 3) := dkg_X6_41.2.1
theorem dX6_setPart_158 : decode cX6_setPart 158 = .ok (.bipush 6, 2) := dkg_X6_41.2.2.1
theorem dX6_setPart_160 : decode cX6_setPart 160 = .ok (.ireturn, 1) := dkg_X6_41.2.2.2.1
theorem dX6_setPart_161 : decode cX6_setPart 161 = .ok (.iload 5, 2) := dkg_X6_41.2.2.2.2.1
theorem dX6_setPart_163 : decode cX6_setPart 163 = .ok (.iconst 1, 1) := dkg_X6_41.2.2.2.2.2.1
theorem dX6_setPart_164 : decode cX6_setPart 164 = .ok (.aload 8, 2) := dkg_X6_41.2.2.2.2.2.2.1
theorem dX6_setPart_166 : decode cX6_setPart 166 = .ok (.getfield 102, 3) := dkg_X6_41.2.2.2.2.2.2.2.1
theorem dX6_setPart_169 : decode cX6_setPart 169 = .ok (.arraylength, 1) := dkg_X6_41.2.2.2.2.2.2.2.2.1
theorem dX6_setPart_170 : decode cX6_setPart 170 = .ok (.invokestatic 109, 3) := dkg_X6_41.2.2.2.2.2.2.2.2.2.1
theorem dkg_X6_42 : dkp cX6_setPart [(173, .iadd, 1), (174, .istore 5, 2), (176, .goto (-137), 3), (179, .iconst 0, 1), (180, .ireturn, 1)] := dkf (by decide +kernel)
theorem dX6_setPart_173 : decode cX6_setPart 173 = .ok (.iadd, 1) := dkg_X6_42.1
theorem dX6_setPart_174 : decode cX6_setPart 174 = .ok (.istore 5, 2) := dkg_X6_42.2.1
theorem dX6_setPart_176 : decode cX6_setPart 176 = .ok (.goto (-137), 3) := dkg_X6_42.2.2.1
theorem dX6_setPart_179 : decode cX6_setPart 179 = .ok (.iconst 0, 1) := dkg_X6_42.2.2.2.1
theorem dX6_setPart_180 : decode cX6_setPart 180 = .ok (.ireturn, 1) := dkg_X6_42.2.2.2.2.1
theorem dkg_X6_43 : dkp cX6_markStart [(0, .iload_n 1, 1), (1, .istore_n 3, 1), (2, .iload_n 3, 1), (3, .iload_n 1, 1), (4, .iload_n 2, 1), (5, .iadd, 1), (6, .if_icmp .ge 35, 3), (9, .iload_n 3, 1), (10, .sipush 500, 3), (13, .if_icmp .ge 28, 3)] := dkf (by decide +kernel)
theorem dX6_markStart_0 : decode cX6_markStart 0 = .ok (.iload_n 1, 1) := dkg_X6_43.1
theorem dX6_markStart_1 : decode cX6_markStart 1 = .ok (.istore_n 3, 1) := dkg_X6_43.2.1
theorem dX6_markStart_2 : decode cX6_markStart 2 = .ok (.iload_n 3, 1) := dkg_X6_43.2.2.1
theorem dX6_markStart_3 : decode cX6_markStart 3 = .ok (.iload_n 1, 1) := dkg_X6_43.2.2.2.1
theorem dX6_markStart_4 : decode cX6_markStart 4 = .ok (.iload_n 2, 1) := dkg_X6_43.2.2.2.2.1
theorem dX6_markStart_5 : decode cX6_markStart 5 = .ok (.iadd, 1) := dkg_X6_43.2.2.2.2.2.1
theorem dX6_markStart_6 : decode cX6_markStart 6 = .ok (.if_icmp .ge 35, 3) := dkg_X6_43.2.2.2.2.2.2.1
theorem dX6_markStart_9 : decode cX6_markStart 9 = .ok (.iload_n 3, 1) := dkg_X6_43.2.2.2.2.2.2.2.1
theorem dX6_markStart_10 : decode cX6_markStart 10 = .ok (.sipush 500, 3) := dkg_X6_43.2.2.2.2.2.2.2.2.1
theorem dX6_markStart_13 : decode cX6_markStart 13 = .ok (.if_icmp .ge 28, 3) := dkg_X6_43.2.2.2.2.2.2.2.2.2.1
theorem dkg_X6_44 : dkp cX6_markStart [(16, .aload_n 0, 1), (17, .getfield 22, 3), (20, .iload_n 3, 1), (21, .iload_n 3, 1), (22, .iload_n 1, 1), (23, .if_icmp .ne 10, 3), (26, .aload_n 0, 1), (27, .getfield 36, 3), (30, .goto 4, 3), (33, .iconst (-1), 1)] := dkf (by decide +kernel)
theorem dX6_markStart_16 : decode cX6_markStart 16 = .ok (.aload_n 0, 1) := dkg_X6_44.1
theorem dX6_markStart_17 : decode cX6_markStart 17 = .ok (.getfield 22, 3) := dkg_X6_44.2.1
theorem dX6_markStart_20 : decode cX6_markStart 20 = .ok (.iload_n 3, 1) := dkg_X6_44.2.2.1
theorem dX6_markStart_21 : decode cX6_markStart 21 = .ok (.iload_n 3, 1) := dkg_X6_44.2.2.2.1
theorem dX6_markStart_22 : decode cX6_markStart 22 = .ok (.iload_n 1, 1) := dkg_X6_44.2.2.2.2.1
theorem dX6_markStart_23 : decode cX6_markStart 23 = .ok (.if_icmp .ne 10, 3) := dkg_X6_44.2.2.2.2.2.1
theorem dX6_markStart_26 : decode cX6_markStart 26 = .ok (.aload_n 0, 1) := dkg_X6_44.2.2.2.2.2.2.1
theorem dX6_markStart_27 : decode cX6_markStart 27 = .ok (.getfield 36, 3) := dkg_X6_44.2.2.2.2.2.2.2.1
theorem dX6_markStart_30 : decode cX6_markStart 30 = .ok (.goto 4, 3) := dkg_X6_44.2.2.2.2.2.2.2.2.1
theorem dX6_markStart_33 : decode cX6_markStart 33 = .ok (.iconst (-1), 1) := dkg_X6_44.2.2.2.2.2.2.2.2.2.1
theorem dkg_X6_45 : dkp cX6_markStart [(34, .iastore, 1), (35, .iinc 3 1, 3), (38, .goto (-36), 3), (41, .return_, 1)] := dkf (by decide +kernel)
theorem dX6_markStart_34 : decode cX6_markStart 34 = .ok (.iastore, 1) := dkg_X6_45.1
theorem dX6_markStart_35 : decode cX6_markStart 35 = .ok (.iinc 3 1, 3) := dkg_X6_45.2.1
theorem dX6_markStart_38 : decode cX6_markStart 38 = .ok (.goto (-36), 3) := dkg_X6_45.2.2.1
theorem dX6_markStart_41 : decode cX6_markStart 41 = .ok (.return_, 1) := dkg_X6_45.2.2.2.1
theorem dkg_X6_46 : dkp cX6_numberAhead [(0, .aload_n 0, 1), (1, .getfield 9, 3), (4, .iload_n 2, 1), (5, .iaload, 1), (6, .invokestatic 115, 3), (9, .ifCond .eq 29, 3), (12, .iload_n 2, 1), (13, .aload_n 0, 1), (14, .getfield 45, 3), (17, .if_icmp .le 17, 3)] := dkf (by decide +kernel)
theorem dX6_numberAhead_0 : decode cX6_numberAhead 0 = .ok (.aload_n 0, 1) := dkg_X6_46.1
theorem dX6_numberAhead_1 : decode cX6_numberAhead 1 = .ok (.getfield 9, 3) := dkg_X6_46.2.1
theorem dX6_numberAhead_4 : decode cX6_numberAhead 4 = .ok (.iload_n 2, 1) := dkg_X6_46.2.2.1
theorem dX6_numberAhead_5 : decode cX6_numberAhead 5 = .ok (.iaload, 1) := dkg_X6_46.2.2.2.1
theorem dX6_numberAhead_6 : decode cX6_numberAhead 6 = .ok (.invokestatic 115, 3) := dkg_X6_46.2.2.2.2.1
theorem dX6_numberAhead_9 : decode cX6_numberAhead 9 = .ok (.ifCond .eq 29, 3) := dkg_X6_46.2.2.2.2.2.1
theorem dX6_numberAhead_12 : decode cX6_numberAhead 12 = .ok (.iload_n 2, 1) := dkg_X6_46.2.2.2.2.2.2.1
theorem dX6_numberAhead_13 : decode cX6_numberAhead 13 = .ok (.aload_n 0, 1) := dkg_X6_46.2.2.2.2.2.2.2.1
theorem dX6_numberAhead_14 : decode cX6_numberAhead 14 = .ok (.getfield 45, 3) := dkg_X6_46.2.2.2.2.2.2.2.2.1
theorem dX6_numberAhead_17 : decode cX6_numberAhead 17 = .ok (.if_icmp .le 17, 3) := dkg_X6_46.2.2.2.2.2.2.2.2.2.1
theorem dkg_X6_47 : dkp cX6_numberAhead [(20, .aload_n 0, 1), (21, .getfield 9, 3), (24, .iload_n 2, 1), (25, .iconst 1, 1), (26, .isub, 1), (27, .iaload, 1), (28, .invokestatic 115, 3), (31, .ifCond .ne 7, 3), (34, .iconst 1, 1), (35, .goto 4, 3)] := dkf (by decide +kernel)
theorem dX6_numberAhead_20 : decode cX6_numberAhead 20 = .ok (.aload_n 0, 1) := dkg_X6_47.1
theorem dX6_numberAhead_21 : decode cX6_numberAhead 21 = .ok (.getfield 9, 3) := dkg_X6_47.2.1
theorem dX6_numberAhead_24 : decode cX6_numberAhead 24 = .ok (.iload_n 2, 1) := dkg_X6_47.2.2.1
theorem dX6_numberAhead_25 : decode cX6_numberAhead 25 = .ok (.iconst 1, 1) := dkg_X6_47.2.2.2.1
theorem dX6_numberAhead_26 : decode cX6_numberAhead 26 = .ok (.isub, 1) := dkg_X6_47.2.2.2.2.1
theorem dX6_numberAhead_27 : decode cX6_numberAhead 27 = .ok (.iaload, 1) := dkg_X6_47.2.2.2.2.2.1
theorem dX6_numberAhead_28 : decode cX6_numberAhead 28 = .ok (.invokestatic 115, 3) := dkg_X6_47.2.2.2.2.2.2.1
theorem dX6_numberAhead_31 : decode cX6_numberAhead 31 = .ok (.ifCond .ne 7, 3) := dkg_X6_47.2.2.2.2.2.2.2.1
theorem dX6_numberAhead_34 : decode cX6_numberAhead 34 = .ok (.iconst 1, 1) := dkg_X6_47.2.2.2.2.2.2.2.2.1
theorem dX6_numberAhead_35 : decode cX6_numberAhead 35 = .ok (.goto 4, 3) := dkg_X6_47.2.2.2.2.2.2.2.2.2.1
theorem dkg_X6_48 : dkp cX6_numberAhead [(38, .iconst 0, 1), (39, .istore_n 3, 1), (40, .aload_n 1, 1), (41, .getfield 62, 3), (44, .iconst 2, 1), (45, .if_icmp .ne 16, 3), (48, .iload_n 3, 1), (49, .ifCond .eq 12, 3), (52, .aload_n 1, 1), (53, .getfield 78, 3)] := dkf (by decide +kernel)
theorem dX6_numberAhead_38 : decode cX6_numberAhead 38 = .ok (.iconst 0, 1) := dkg_X6_48.1
theorem dX6_numberAhead_39 : decode cX6_numberAhead 39 = .ok (.istore_n 3, 1) := dkg_X6_48.2.1
theorem dX6_numberAhead_40 : decode cX6_numberAhead 40 = .ok (.aload_n 1, 1) := dkg_X6_48.2.2.1
theorem dX6_numberAhead_41 : decode cX6_numberAhead 41 = .ok (.getfield 62, 3) := dkg_X6_48.2.2.2.1
theorem dX6_numberAhead_44 : decode cX6_numberAhead 44 = .ok (.iconst 2, 1) := dkg_X6_48.2.2.2.2.1
theorem dX6_numberAhead_45 : decode cX6_numberAhead 45 = .ok (.if_icmp .ne 16, 3) := dkg_X6_48.2.2.2.2.2.1
theorem dX6_numberAhead_48 : decode cX6_numberAhead 48 = .ok (.iload_n 3, 1) := dkg_X6_48.2.2.2.2.2.2.1
theorem dX6_numberAhead_49 : decode cX6_numberAhead 49 = .ok (.ifCond .eq 12, 3) := dkg_X6_48.2.2.2.2.2.2.2.1
theorem dX6_numberAhead_52 : decode cX6_numberAhead 52 = .ok (.aload_n 1, 1) := dkg_X6_48.2.2.2.2.2.2.2.2.1
theorem dX6_numberAhead_53 : decode cX6_numberAhead 53 = .ok (.getfield 78, 3) := dkg_X6_48.2.2.2.2.2.2.2.2.2.1
theorem dkg_X6_49 : dkp cX6_numberAhead [(56, .iconst 1, 1), (57, .aaload, 1), (58, .goto 4, 3), (61, .aconst_null, 1), (62, .areturn, 1)] := dkf (by decide +kernel)
theorem dX6_numberAhead_56 : decode cX6_numberAhead 56 = .ok (.iconst 1, 1) := dkg_X6_49.1
theorem dX6_numberAhead_57 : decode cX6_numberAhead 57 = .ok (.aaload, 1) := dkg_X6_49.2.1
theorem dX6_numberAhead_58 : decode cX6_numberAhead 58 = .ok (.goto 4, 3) := dkg_X6_49.2.2.1
theorem dX6_numberAhead_61 : decode cX6_numberAhead 61 = .ok (.aconst_null, 1) := dkg_X6_49.2.2.2.1
theorem dX6_numberAhead_62 : decode cX6_numberAhead 62 = .ok (.areturn, 1) := dkg_X6_49.2.2.2.2.1
theorem dkg_X6_50 : dkp cX6_push [(0, .aload_n 1, 1), (1, .ifnonnull 4, 3), (4, .return_, 1), (5, .iconst 0, 1), (6, .istore_n 2, 1), (7, .iload_n 2, 1), (8, .aload_n 1, 1), (9, .getfield 118, 3), (12, .arraylength, 1), (13, .if_icmp .ge 44, 3)] := dkf (by decide +kernel)
theorem dX6_push_0 : decode cX6_push 0 = .ok (.aload_n 1, 1) := dkg_X6_50.1
theorem dX6_push_1 : decode cX6_push 1 = .ok (.ifnonnull 4, 3) := dkg_X6_50.2.1
theorem dX6_push_4 : decode cX6_push 4 = .ok (.return_, 1) := dkg_X6_50.2.2.1
theorem dX6_push_5 : decode cX6_push 5 = .ok (.iconst 0, 1) := dkg_X6_50.2.2.2.1
theorem dX6_push_6 : decode cX6_push 6 = .ok (.istore_n 2, 1) := dkg_X6_50.2.2.2.2.1
theorem dX6_push_7 : decode cX6_push 7 = .ok (.iload_n 2, 1) := dkg_X6_50.2.2.2.2.2.1
theorem dX6_push_8 : decode cX6_push 8 = .ok (.aload_n 1, 1) := dkg_X6_50.2.2.2.2.2.2.1
theorem dX6_push_9 : decode cX6_push 9 = .ok (.getfield 118, 3) := dkg_X6_50.2.2.2.2.2.2.2.1
theorem dX6_push_12 : decode cX6_push 12 = .ok (.arraylength, 1) := dkg_X6_50.2.2.2.2.2.2.2.2.1
theorem dX6_push_13 : decode cX6_push 13 = .ok (.if_icmp .ge 44, 3) := dkg_X6_50.2.2.2.2.2.2.2.2.2.1
theorem dkg_X6_51 : dkp cX6_push [(16, .aload_n 0, 1), (17, .getfield 36, 3), (20, .sipush 200, 3), (23, .if_icmp .ge 18, 3), (26, .aload_n 0, 1), (27, .getfield 33, 3), (30, .aload_n 0, 1), (31, .getfield 36, 3), (34, .aload_n 1, 1), (35, .getfield 118, 3)] := dkf (by decide +kernel)
theorem dX6_push_16 : decode cX6_push 16 = .ok (.aload_n 0, 1) := dkg_X6_51.1
theorem dX6_push_17 : decode cX6_push 17 = .ok (.getfield 36, 3) := dkg_X6_51.2.1
theorem dX6_push_20 : decode cX6_push 20 = .ok (.sipush 200, 3) := dkg_X6_51.2.2.1
theorem dX6_push_23 : decode cX6_push 23 = .ok (.if_icmp .ge 18, 3) := dkg_X6_51.2.2.2.1
theorem dX6_push_26 : decode cX6_push 26 = .ok (.aload_n 0, 1) := dkg_X6_51.2.2.2.2.1
theorem dX6_push_27 : decode cX6_push 27 = .ok (.getfield 33, 3) := dkg_X6_51.2.2.2.2.2.1
theorem dX6_push_30 : decode cX6_push 30 = .ok (.aload_n 0, 1) := dkg_X6_51.2.2.2.2.2.2.1
theorem dX6_push_31 : decode cX6_push 31 = .ok (.getfield 36, 3) := dkg_X6_51.2.2.2.2.2.2.2.1
theorem dX6_push_34 : decode cX6_push 34 = .ok (.aload_n 1, 1) := dkg_X6_51.2.2.2.2.2.2.2.2.1
theorem dX6_push_35 : decode cX6_push 35 = .ok (.getfield 118, 3) := dkg_X6_51.2.2.2.2.2.2.2.2.2.1
theorem dkg_X6_52 : dkp cX6_push [(38, .iload_n 2, 1), (39, .iaload, 1), (40, .iastore, 1), (41, .aload_n 0, 1), (42, .dup, 1), (43, .getfield 36, 3), (46, .iconst 1, 1), (47, .iadd, 1), (48, .putfield 36, 3), (51, .iinc 2 1, 3)] := dkf (by decide +kernel)
theorem dX6_push_38 : decode cX6_push 38 = .ok (.iload_n 2, 1) := dkg_X6_52.1
theorem dX6_push_39 : decode cX6_push 39 = .ok (.iaload, 1) := dkg_X6_52.2.1
theorem dX6_push_40 : decode cX6_push 40 = .ok (.iastore, 1) := dkg_X6_52.2.2.1
theorem dX6_push_41 : decode cX6_push 41 = .ok (.aload_n 0, 1) := dkg_X6_52.2.2.2.1
theorem dX6_push_42 : decode cX6_push 42 = .ok (.dup, 1) := dkg_X6_52.2.2.2.2.1
theorem dX6_push_43 : decode cX6_push 43 = .ok (.getfield 36, 3) := dkg_X6_52.2.2.2.2.2.1
theorem dX6_push_46 : decode cX6_push 46 = .ok (.iconst 1, 1) := dkg_X6_52.2.2.2.2.2.2.1
theorem dX6_push_47 : decode cX6_push 47 = .ok (.iadd, 1) := dkg_X6_52.2.2.2.2.2.2.2.1
theorem dX6_push_48 : decode cX6_push 48 = .ok (.putfield 36, 3) := dkg_X6_52.2.2.2.2.2.2.2.2.1
theorem dX6_push_51 : decode cX6_push 51 = .ok (.iinc 2 1, 3) := dkg_X6_52.2.2.2.2.2.2.2.2.2.1
theorem dkg_X6_53 : dkp cX6_push [(54, .goto (-47), 3), (57, .return_, 1)] := dkf (by decide +kernel)
theorem dX6_push_54 : decode cX6_push 54 = .ok (.goto (-47), 3) := dkg_X6_53.1
theorem dX6_push_57 : decode cX6_push 57 = .ok (.return_, 1) := dkg_X6_53.2.1
theorem dkg_X6_54 : dkp cX6_find [(0, .aconst_null, 1), (1, .astore 4, 2), (3, .iload_n 3, 1), (4, .istore 5, 2), (6, .aload_n 1, 1), (7, .astore 6, 2), (9, .aload 6, 2), (11, .ifnull 135, 3), (14, .aload_n 0, 1), (15, .aload 6, 2)] := dkf (by decide +kernel)
theorem dX6_find_0 : decode cX6_find 0 = .ok (.aconst_null, 1) := dkg_X6_54.1
theorem dX6_find_1 : decode cX6_find 1 = .ok (.astore 4, 2) := dkg_X6_54.2.1
theorem dX6_find_3 : decode cX6_find 3 = .ok (.iload_n 3, 1) := dkg_X6_54.2.2.1
theorem dX6_find_4 : decode cX6_find 4 = .ok (.istore 5, 2) := dkg_X6_54.2.2.2.1
theorem dX6_find_6 : decode cX6_find 6 = .ok (.aload_n 1, 1) := dkg_X6_54.2.2.2.2.1
theorem dX6_find_7 : decode cX6_find 7 = .ok (.astore 6, 2) := dkg_X6_54.2.2.2.2.2.1
theorem dX6_find_9 : decode cX6_find 9 = .ok (.aload 6, 2) := dkg_X6_54.2.2.2.2.2.2.1
theorem dX6_find_11 : decode cX6_find 11 = .ok (.ifnull 135, 3) := dkg_X6_54.2.2.2.2.2.2.2.1
theorem dX6_find_14 : decode cX6_find 14 = .ok (.aload_n 0, 1) := dkg_X6_54.2.2.2.2.2.2.2.2.1
theorem dX6_find_15 : decode cX6_find 15 = .ok (.aload 6, 2) := dkg_X6_54.2.2.2.2.2.2.2.2.2.1
theorem dkg_X6_55 : dkp cX6_find [(17, .getfield 62, 3), (20, .invokevirtual 119, 3), (23, .aload 6, 2), (25, .getfield 62, 3), (28, .ifCond .eq 12, 3), (31, .aload 6, 2), (33, .getfield 62, 3), (36, .iconst 4, 1), (37, .if_icmp .ne 15, 3), (40, .aload_n 0, 1)] := dkf (by decide +kernel)
theorem dX6_find_17 : decode cX6_find 17 = .ok (.getfield 62, 3) := dkg_X6_55.1
theorem dX6_find_20 : decode cX6_find 20 = .ok (.invokevirtual 119, 3) := dkg_X6_55.2.1
theorem dX6_find_23 : decode cX6_find 23 = .ok (.aload 6, 2) := dkg_X6_55.2.2.1
theorem dX6_find_25 : decode cX6_find 25 = .ok (.getfield 62, 3) := dkg_X6_55.2.2.2.1
theorem dX6_find_28 : decode cX6_find 28 = .ok (.ifCond .eq 12, 3) := dkg_X6_55.2.2.2.2.1
theorem dX6_find_31 : decode cX6_find 31 = .ok (.aload 6, 2) := dkg_X6_55.2.2.2.2.2.1
theorem dX6_find_33 : decode cX6_find 33 = .ok (.getfield 62, 3) := dkg_X6_55.2.2.2.2.2.2.1
theorem dX6_find_36 : decode cX6_find 36 = .ok (.iconst 4, 1) := dkg_X6_55.2.2.2.2.2.2.2.1
theorem dX6_find_37 : decode cX6_find 37 = .ok (.if_icmp .ne 15, 3) := dkg_X6_55.2.2.2.2.2.2.2.2.1
theorem dX6_find_40 : decode cX6_find 40 = .ok (.aload_n 0, 1) := dkg_X6_55.2.2.2.2.2.2.2.2.2.1
theorem dkg_X6_56 : dkp cX6_find [(41, .aload 6, 2), (43, .iload_n 2, 1), (44, .iload 5, 2), (46, .aload 4, 2), (48, .invokevirtual 122, 3), (51, .areturn, 1), (52, .aload 6, 2), (54, .getfield 62, 3), (57, .iconst 2, 1), (58, .if_icmp .ne 14, 3)] := dkf (by decide +kernel)
theorem dX6_find_41 : decode cX6_find 41 = .ok (.aload 6, 2) := dkg_X6_56.1
theorem dX6_find_43 : decode cX6_find 43 = .ok (.iload_n 2, 1) := dkg_X6_56.2.1
theorem dX6_find_44 : decode cX6_find 44 = .ok (.iload 5, 2) := dkg_X6_56.2.2.1
theorem dX6_find_46 : decode cX6_find 46 = .ok (.aload 4, 2) := dkg_X6_56.2.2.2.1
theorem dX6_find_48 : decode cX6_find 48 = .ok (.invokevirtual 122, 3) := dkg_X6_56.2.2.2.2.1
theorem dX6_find_51 : decode cX6_find 51 = .ok (.areturn, 1) := dkg_X6_56.2.2.2.2.2.1
theorem dX6_find_52 : decode cX6_find 52 = .ok (.aload 6, 2) := dkg_X6_56.2.2.2.2.2.2.1
theorem dX6_find_54 : decode cX6_find 54 = .ok (.getfield 62, 3) := dkg_X6_56.2.2.2.2.2.2.2.1
theorem dX6_find_57 : decode cX6_find 57 = .ok (.iconst 2, 1) := dkg_X6_56.2.2.2.2.2.2.2.2.1
theorem dX6_find_58 : decode cX6_find 58 = .ok (.if_icmp .ne 14, 3) := dkg_X6_56.2.2.2.2.2.2.2.2.2.1
theorem dkg_X6_57 : dkp cX6_find [(61, .iload 5, 2), (63, .invokestatic 115, 3), (66, .ifCond .ne 6, 3), (69, .goto 67, 3), (72, .aload 6, 2), (74, .getfield 62, 3), (77, .iconst 3, 1), (78, .if_icmp .ne 28, 3), (81, .aload_n 0, 1), (82, .iconst 1, 1)] := dkf (by decide +kernel)
theorem dX6_find_61 : decode cX6_find 61 = .ok (.iload 5, 2) := dkg_X6_57.1
theorem dX6_find_63 : decode cX6_find 63 = .ok (.invokestatic 115, 3) := dkg_X6_57.2.1
theorem dX6_find_66 : decode cX6_find 66 = .ok (.ifCond .ne 6, 3) := dkg_X6_57.2.2.1
theorem dX6_find_69 : decode cX6_find 69 = .ok (.goto 67, 3) := dkg_X6_57.2.2.2.1
theorem dX6_find_72 : decode cX6_find 72 = .ok (.aload 6, 2) := dkg_X6_57.2.2.2.2.1
theorem dX6_find_74 : decode cX6_find 74 = .ok (.getfield 62, 3) := dkg_X6_57.2.2.2.2.2.1
theorem dX6_find_77 : decode cX6_find 77 = .ok (.iconst 3, 1) := dkg_X6_57.2.2.2.2.2.2.1
theorem dX6_find_78 : decode cX6_find 78 = .ok (.if_icmp .ne 28, 3) := dkg_X6_57.2.2.2.2.2.2.2.1
theorem dX6_find_81 : decode cX6_find 81 = .ok (.aload_n 0, 1) := dkg_X6_57.2.2.2.2.2.2.2.2.1
theorem dX6_find_82 : decode cX6_find 82 = .ok (.iconst 1, 1) := dkg_X6_57.2.2.2.2.2.2.2.2.2.1
theorem dkg_X6_58 : dkp cX6_find [(83, .invokevirtual 119, 3), (86, .iload 5, 2), (88, .invokestatic 98, 3), (91, .ifCond .eq 11, 3), (94, .iload 5, 2), (96, .bipush 32, 2), (98, .iadd, 1), (99, .goto 5, 3), (102, .iload 5, 2), (104, .istore 5, 2)] := dkf (by decide +kernel)
theorem dX6_find_83 : decode cX6_find 83 = .ok (.invokevirtual 119, 3) := dkg_X6_58.1
theorem dX6_find_86 : decode cX6_find 86 = .ok (.iload 5, 2) := dkg_X6_58.2.1
theorem dX6_find_88 : decode cX6_find 88 = .ok (.invokestatic 98, 3) := dkg_X6_58.2.2.1
theorem dX6_find_91 : decode cX6_find 91 = .ok (.ifCond .eq 11, 3) := dkg_X6_58.2.2.2.1
theorem dX6_find_94 : decode cX6_find 94 = .ok (.iload 5, 2) := dkg_X6_58.2.2.2.2.1
theorem dX6_find_96 : decode cX6_find 96 = .ok (.bipush 32, 2) := dkg_X6_58.2.2.2.2.2.1
theorem dX6_find_98 : decode cX6_find 98 = .ok (.iadd, 1) := dkg_X6_58.2.2.2.2.2.2.1
theorem dX6_find_99 : decode cX6_find 99 = .ok (.goto 5, 3) := dkg_X6_58.2.2.2.2.2.2.2.1
theorem dX6_find_102 : decode cX6_find 102 = .ok (.iload 5, 2) := dkg_X6_58.2.2.2.2.2.2.2.2.1
theorem dX6_find_104 : decode cX6_find 104 = .ok (.istore 5, 2) := dkg_X6_58.2.2.2.2.2.2.2.2.2.1
theorem dkg_X6_59 : dkp cX6_find [(106, .aload_n 0, 1), (107, .iconst 0, 1), (108, .invokevirtual 119, 3), (111, .aload_n 0, 1), (112, .aload 6, 2), (114, .iload_n 2, 1), (115, .iload 5, 2), (117, .aload 4, 2), (119, .invokevirtual 122, 3), (122, .astore 4, 2)] := dkf (by decide +kernel)
theorem dX6_find_106 : decode cX6_find 106 = .ok (.aload_n 0, 1) := dkg_X6_59.1
theorem dX6_find_107 : decode cX6_find 107 = .ok (.iconst 0, 1) := dkg_X6_59.2.1
theorem dX6_find_108 : decode cX6_find 108 = .ok (.invokevirtual 119, 3) := dkg_X6_59.2.2.1
theorem dX6_find_111 : decode cX6_find 111 = .ok (.aload_n 0, 1) := dkg_X6_59.2.2.2.1
theorem dX6_find_112 : decode cX6_find 112 = .ok (.aload 6, 2) := dkg_X6_59.2.2.2.2.1
theorem dX6_find_114 : decode cX6_find 114 = .ok (.iload_n 2, 1) := dkg_X6_59.2.2.2.2.2.1
theorem dX6_find_115 : decode cX6_find 115 = .ok (.iload 5, 2) := dkg_X6_59.2.2.2.2.2.2.1
theorem dX6_find_117 : decode cX6_find 117 = .ok (.aload 4, 2) := dkg_X6_59.2.2.2.2.2.2.2.1
theorem dX6_find_119 : decode cX6_find 119 = .ok (.invokevirtual 122, 3) := dkg_X6_59.2.2.2.2.2.2.2.2.1
theorem dX6_find_122 : decode cX6_find 122 = .ok (.astore 4, 2) := dkg_X6_59.2.2.2.2.2.2.2.2.2.1
theorem dkg_X6_60 : dkp cX6_find [(124, .aload 6, 2), (126, .getfield 62, 3), (129, .iconst 2, 1), (130, .if_icmp .ne 6, 3), (133, .aload 4, 2), (135, .areturn, 1), (136, .aload 6, 2), (138, .getfield 67, 3), (141, .astore 6, 2), (143, .goto (-134), 3)] := dkf (by decide +kernel)
theorem dX6_find_124 : decode cX6_find 124 = .ok (.aload 6, 2) := dkg_X6_60.1
theorem dX6_find_126 : decode cX6_find 126 = .ok (.getfield 62, 3) := dkg_X6_60.2.1
theorem dX6_find_129 : decode cX6_find 129 = .ok (.iconst 2, 1) := dkg_X6_60.2.2.1
theorem dX6_find_130 : decode cX6_find 130 = .ok (.if_icmp .ne 6, 3) := dkg_X6_60.2.2.2.1
theorem dX6_find_133 : decode cX6_find 133 = .ok (.aload 4, 2) := dkg_X6_60.2.2.2.2.1
theorem dX6_find_135 : decode cX6_find 135 = .ok (.areturn, 1) := dkg_X6_60.2.2.2.2.2.1
theorem dX6_find_136 : decode cX6_find 136 = .ok (.aload 6, 2) := dkg_X6_60.2.2.2.2.2.2.1
theorem dX6_find_138 : decode cX6_find 138 = .ok (.getfield 67, 3) := dkg_X6_60.2.2.2.2.2.2.2.1
theorem dX6_find_141 : decode cX6_find 141 = .ok (.astore 6, 2) := dkg_X6_60.2.2.2.2.2.2.2.2.1
theorem dX6_find_143 : decode cX6_find 143 = .ok (.goto (-134), 3) := dkg_X6_60.2.2.2.2.2.2.2.2.2.1
theorem dkg_X6_61 : dkp cX6_find [(146, .aload 4, 2), (148, .areturn, 1)] := dkf (by decide +kernel)
theorem dX6_find_146 : decode cX6_find 146 = .ok (.aload 4, 2) := dkg_X6_61.1
theorem dX6_find_148 : decode cX6_find 148 = .ok (.areturn, 1) := dkg_X6_61.2.1
theorem dkg_X6_62 : dkp cX6_countFind [(0, .iload_n 1, 1), (1, .ifCond .lt 22, 3), (4, .iload_n 1, 1), (5, .aload_n 0, 1), (6, .getfield 39, 3), (9, .arraylength, 1), (10, .if_icmp .ge 13, 3), (13, .aload_n 0, 1), (14, .getfield 39, 3), (17, .iload_n 1, 1)] := dkf (by decide +kernel)
theorem dX6_countFind_0 : decode cX6_countFind 0 = .ok (.iload_n 1, 1) := dkg_X6_62.1
theorem dX6_countFind_1 : decode cX6_countFind 1 = .ok (.ifCond .lt 22, 3) := dkg_X6_62.2.1
theorem dX6_countFind_4 : decode cX6_countFind 4 = .ok (.iload_n 1, 1) := dkg_X6_62.2.2.1
theorem dX6_countFind_5 : decode cX6_countFind 5 = .ok (.aload_n 0, 1) := dkg_X6_62.2.2.2.1
theorem dX6_countFind_6 : decode cX6_countFind 6 = .ok (.getfield 39, 3) := dkg_X6_62.2.2.2.2.1
theorem dX6_countFind_9 : decode cX6_countFind 9 = .ok (.arraylength, 1) := dkg_X6_62.2.2.2.2.2.1
theorem dX6_countFind_10 : decode cX6_countFind 10 = .ok (.if_icmp .ge 13, 3) := dkg_X6_62.2.2.2.2.2.2.1
theorem dX6_countFind_13 : decode cX6_countFind 13 = .ok (.aload_n 0, 1) := dkg_X6_62.2.2.2.2.2.2.2.1
theorem dX6_countFind_14 : decode cX6_countFind 14 = .ok (.getfield 39, 3) := dkg_X6_62.2.2.2.2.2.2.2.2.1
theorem dX6_countFind_17 : decode cX6_countFind 17 = .ok (.iload_n 1, 1) := dkg_X6_62.2.2.2.2.2.2.2.2.2.1
theorem dkg_X6_63 : dkp cX6_countFind [(18, .dup2, 1), (19, .iaload, 1), (20, .iconst 1, 1), (21, .iadd, 1), (22, .iastore, 1), (23, .return_, 1)] := dkf (by decide +kernel)
theorem dX6_countFind_18 : decode cX6_countFind 18 = .ok (.dup2, 1) := dkg_X6_63.1
theorem dX6_countFind_19 : decode cX6_countFind 19 = .ok (.iaload, 1) := dkg_X6_63.2.1
theorem dX6_countFind_20 : decode cX6_countFind 20 = .ok (.iconst 1, 1) := dkg_X6_63.2.2.1
theorem dX6_countFind_21 : decode cX6_countFind 21 = .ok (.iadd, 1) := dkg_X6_63.2.2.2.1
theorem dX6_countFind_22 : decode cX6_countFind 22 = .ok (.iastore, 1) := dkg_X6_63.2.2.2.2.1
theorem dX6_countFind_23 : decode cX6_countFind 23 = .ok (.return_, 1) := dkg_X6_63.2.2.2.2.2.1
theorem dkg_X6_64 : dkp cX6_findOwn [(0, .aload 4, 2), (2, .astore 5, 2), (4, .aload 5, 2), (6, .ifnonnull 7, 3), (9, .iconst 0, 1), (10, .goto 9, 3), (13, .aload 5, 2), (15, .getfield 102, 3), (18, .arraylength, 1), (19, .istore 6, 2)] := dkf (by decide +kernel)
theorem dX6_findOwn_0 : decode cX6_findOwn 0 = .ok (.aload 4, 2) := dkg_X6_64.1
theorem dX6_findOwn_2 : decode cX6_findOwn 2 = .ok (.astore 5, 2) := dkg_X6_64.2.1
theorem dX6_findOwn_4 : decode cX6_findOwn 4 = .ok (.aload 5, 2) := dkg_X6_64.2.2.1
theorem dX6_findOwn_6 : decode cX6_findOwn 6 = .ok (.ifnonnull 7, 3) := dkg_X6_64.2.2.2.1
theorem dX6_findOwn_9 : decode cX6_findOwn 9 = .ok (.iconst 0, 1) := dkg_X6_64.2.2.2.2.1
theorem dX6_findOwn_10 : decode cX6_findOwn 10 = .ok (.goto 9, 3) := dkg_X6_64.2.2.2.2.2.1
theorem dX6_findOwn_13 : decode cX6_findOwn 13 = .ok (.aload 5, 2) := dkg_X6_64.2.2.2.2.2.2.1
theorem dX6_findOwn_15 : decode cX6_findOwn 15 = .ok (.getfield 102, 3) := dkg_X6_64.2.2.2.2.2.2.2.1
theorem dX6_findOwn_18 : decode cX6_findOwn 18 = .ok (.arraylength, 1) := dkg_X6_64.2.2.2.2.2.2.2.2.1
theorem dX6_findOwn_19 : decode cX6_findOwn 19 = .ok (.istore 6, 2) := dkg_X6_64.2.2.2.2.2.2.2.2.2.1
theorem dkg_X6_65 : dkp cX6_findOwn [(21, .aload_n 1, 1), (22, .getfield 126, 3), (25, .getfield 51, 3), (28, .aload_n 1, 1), (29, .getfield 130, 3), (32, .invokevirtual 134, 3), (35, .invokestatic 139, 3), (38, .istore 7, 2), (40, .aload_n 1, 1), (41, .getfield 126, 3)] := dkf (by decide +kernel)
theorem dX6_findOwn_21 : decode cX6_findOwn 21 = .ok (.aload_n 1, 1) := dkg_X6_65.1
theorem dX6_findOwn_22 : decode cX6_findOwn 22 = .ok (.getfield 126, 3) := dkg_X6_65.2.1
theorem dX6_findOwn_25 : decode cX6_findOwn 25 = .ok (.getfield 51, 3) := dkg_X6_65.2.2.1
theorem dX6_findOwn_28 : decode cX6_findOwn 28 = .ok (.aload_n 1, 1) := dkg_X6_65.2.2.2.1
theorem dX6_findOwn_29 : decode cX6_findOwn 29 = .ok (.getfield 130, 3) := dkg_X6_65.2.2.2.2.1
theorem dX6_findOwn_32 : decode cX6_findOwn 32 = .ok (.invokevirtual 134, 3) := dkg_X6_65.2.2.2.2.2.1
theorem dX6_findOwn_35 : decode cX6_findOwn 35 = .ok (.invokestatic 139, 3) := dkg_X6_65.2.2.2.2.2.2.1
theorem dX6_findOwn_38 : decode cX6_findOwn 38 = .ok (.istore 7, 2) := dkg_X6_65.2.2.2.2.2.2.2.1
theorem dX6_findOwn_40 : decode cX6_findOwn 40 = .ok (.aload_n 1, 1) := dkg_X6_65.2.2.2.2.2.2.2.2.1
theorem dX6_findOwn_41 : decode cX6_findOwn 41 = .ok (.getfield 126, 3) := dkg_X6_65.2.2.2.2.2.2.2.2.2.1
theorem dkg_X6_66 : dkp cX6_findOwn [(44, .getfield 142, 3), (47, .astore 8, 2), (49, .iconst 0, 1), (50, .istore 9, 2), (52, .iload 9, 2), (54, .iload 7, 2), (56, .if_icmp .ge 68, 3), (59, .aload 8, 2), (61, .iload 9, 2), (63, .iaload, 1)] := dkf (by decide +kernel)
theorem dX6_findOwn_44 : decode cX6_findOwn 44 = .ok (.getfield 142, 3) := dkg_X6_66.1
theorem dX6_findOwn_47 : decode cX6_findOwn 47 = .ok (.astore 8, 2) := dkg_X6_66.2.1
theorem dX6_findOwn_49 : decode cX6_findOwn 49 = .ok (.iconst 0, 1) := dkg_X6_66.2.2.1
theorem dX6_findOwn_50 : decode cX6_findOwn 50 = .ok (.istore 9, 2) := dkg_X6_66.2.2.2.1
theorem dX6_findOwn_52 : decode cX6_findOwn 52 = .ok (.iload 9, 2) := dkg_X6_66.2.2.2.2.1
theorem dX6_findOwn_54 : decode cX6_findOwn 54 = .ok (.iload 7, 2) := dkg_X6_66.2.2.2.2.2.1
theorem dX6_findOwn_56 : decode cX6_findOwn 56 = .ok (.if_icmp .ge 68, 3) := dkg_X6_66.2.2.2.2.2.2.1
theorem dX6_findOwn_59 : decode cX6_findOwn 59 = .ok (.aload 8, 2) := dkg_X6_66.2.2.2.2.2.2.2.1
theorem dX6_findOwn_61 : decode cX6_findOwn 61 = .ok (.iload 9, 2) := dkg_X6_66.2.2.2.2.2.2.2.2.1
theorem dX6_findOwn_63 : decode cX6_findOwn 63 = .ok (.iaload, 1) := dkg_X6_66.2.2.2.2.2.2.2.2.2.1
theorem dkg_X6_67 : dkp cX6_findOwn [(64, .iload_n 3, 1), (65, .if_icmp .eq 6, 3), (68, .goto 50, 3), (71, .aload_n 1, 1), (72, .getfield 130, 3), (75, .iload 9, 2), (77, .invokevirtual 145, 3), (80, .checkcast 103, 3), (83, .astore 10, 2), (85, .aload 10, 2)] := dkf (by decide +kernel)
theorem dX6_findOwn_64 : decode cX6_findOwn 64 = .ok (.iload_n 3, 1) := dkg_X6_67.1
theorem dX6_findOwn_65 : decode cX6_findOwn 65 = .ok (.if_icmp .eq 6, 3) := dkg_X6_67.2.1
theorem dX6_findOwn_68 : decode cX6_findOwn 68 = .ok (.goto 50, 3) := dkg_X6_67.2.2.1
theorem dX6_findOwn_71 : decode cX6_findOwn 71 = .ok (.aload_n 1, 1) := dkg_X6_67.2.2.2.1
theorem dX6_findOwn_72 : decode cX6_findOwn 72 = .ok (.getfield 130, 3) := dkg_X6_67.2.2.2.2.1
theorem dX6_findOwn_75 : decode cX6_findOwn 75 = .ok (.iload 9, 2) := dkg_X6_67.2.2.2.2.2.1
theorem dX6_findOwn_77 : decode cX6_findOwn 77 = .ok (.invokevirtual 145, 3) := dkg_X6_67.2.2.2.2.2.2.1
theorem dX6_findOwn_80 : decode cX6_findOwn 80 = .ok (.checkcast 103, 3) := dkg_X6_67.2.2.2.2.2.2.2.1
theorem dX6_findOwn_83 : decode cX6_findOwn 83 = .ok (.astore 10, 2) := dkg_X6_67.2.2.2.2.2.2.2.2.1
theorem dX6_findOwn_85 : decode cX6_findOwn 85 = .ok (.aload 10, 2) := dkg_X6_67.2.2.2.2.2.2.2.2.2.1
theorem dkg_X6_68 : dkp cX6_findOwn [(87, .getfield 102, 3), (90, .arraylength, 1), (91, .iload 6, 2), (93, .if_icmp .le 25, 3), (96, .aload_n 0, 1), (97, .aload 10, 2), (99, .iload_n 2, 1), (100, .invokevirtual 149, 3), (103, .ifCond .eq 15, 3), (106, .aload 10, 2)] := dkf (by decide +kernel)
theorem dX6_findOwn_87 : decode cX6_findOwn 87 = .ok (.getfield 102, 3) := dkg_X6_68.1
theorem dX6_findOwn_90 : decode cX6_findOwn 90 = .ok (.arraylength, 1) := dkg_X6_68.2.1
theorem dX6_findOwn_91 : decode cX6_findOwn 91 = .ok (.iload 6, 2) := dkg_X6_68.2.2.1
theorem dX6_findOwn_93 : decode cX6_findOwn 93 = .ok (.if_icmp .le 25, 3) := dkg_X6_68.2.2.2.1
theorem dX6_findOwn_96 : decode cX6_findOwn 96 = .ok (.aload_n 0, 1) := dkg_X6_68.2.2.2.2.1
theorem dX6_findOwn_97 : decode cX6_findOwn 97 = .ok (.aload 10, 2) := dkg_X6_68.2.2.2.2.2.1
theorem dX6_findOwn_99 : decode cX6_findOwn 99 = .ok (.iload_n 2, 1) := dkg_X6_68.2.2.2.2.2.2.1
theorem dX6_findOwn_100 : decode cX6_findOwn 100 = .ok (.invokevirtual 149, 3) := dkg_X6_68.2.2.2.2.2.2.2.1
theorem dX6_findOwn_103 : decode cX6_findOwn 103 = .ok (.ifCond .eq 15, 3) := dkg_X6_68.2.2.2.2.2.2.2.2.1
theorem dX6_findOwn_106 : decode cX6_findOwn 106 = .ok (.aload 10, 2) := dkg_X6_68.2.2.2.2.2.2.2.2.2.1
theorem dkg_X6_69 : dkp cX6_findOwn [(108, .astore 5, 2), (110, .aload 10, 2), (112, .getfield 102, 3), (115, .arraylength, 1), (116, .istore 6, 2), (118, .iinc 9 1, 3), (121, .goto (-69), 3), (124, .aload 5, 2), (126, .areturn, 1)] := dkf (by decide +kernel)
theorem dX6_findOwn_108 : decode cX6_findOwn 108 = .ok (.astore 5, 2) := dkg_X6_69.1
theorem dX6_findOwn_110 : decode cX6_findOwn 110 = .ok (.aload 10, 2) := dkg_X6_69.2.1
theorem dX6_findOwn_112 : decode cX6_findOwn 112 = .ok (.getfield 102, 3) := dkg_X6_69.2.2.1
theorem dX6_findOwn_115 : decode cX6_findOwn 115 = .ok (.arraylength, 1) := dkg_X6_69.2.2.2.1
theorem dX6_findOwn_116 : decode cX6_findOwn 116 = .ok (.istore 6, 2) := dkg_X6_69.2.2.2.2.1
theorem dX6_findOwn_118 : decode cX6_findOwn 118 = .ok (.iinc 9 1, 3) := dkg_X6_69.2.2.2.2.2.1
theorem dX6_findOwn_121 : decode cX6_findOwn 121 = .ok (.goto (-69), 3) := dkg_X6_69.2.2.2.2.2.2.1
theorem dX6_findOwn_124 : decode cX6_findOwn 124 = .ok (.aload 5, 2) := dkg_X6_69.2.2.2.2.2.2.2.1
theorem dX6_findOwn_126 : decode cX6_findOwn 126 = .ok (.areturn, 1) := dkg_X6_69.2.2.2.2.2.2.2.2.1
theorem dkg_X6_70 : dkp cX6_fits [(0, .iload_n 2, 1), (1, .aload_n 1, 1), (2, .getfield 102, 3), (5, .arraylength, 1), (6, .iadd, 1), (7, .istore_n 3, 1), (8, .iload_n 3, 1), (9, .aload_n 0, 1), (10, .getfield 48, 3), (13, .if_icmp .le 5, 3)] := dkf (by decide +kernel)
theorem dX6_fits_0 : decode cX6_fits 0 = .ok (.iload_n 2, 1) := dkg_X6_70.1
theorem dX6_fits_1 : decode cX6_fits 1 = .ok (.aload_n 1, 1) := dkg_X6_70.2.1
theorem dX6_fits_2 : decode cX6_fits 2 = .ok (.getfield 102, 3) := dkg_X6_70.2.2.1
theorem dX6_fits_5 : decode cX6_fits 5 = .ok (.arraylength, 1) := dkg_X6_70.2.2.2.1
theorem dX6_fits_6 : decode cX6_fits 6 = .ok (.iadd, 1) := dkg_X6_70.2.2.2.2.1
theorem dX6_fits_7 : decode cX6_fits 7 = .ok (.istore_n 3, 1) := dkg_X6_70.2.2.2.2.2.1
theorem dX6_fits_8 : decode cX6_fits 8 = .ok (.iload_n 3, 1) := dkg_X6_70.2.2.2.2.2.2.1
theorem dX6_fits_9 : decode cX6_fits 9 = .ok (.aload_n 0, 1) := dkg_X6_70.2.2.2.2.2.2.2.1
theorem dX6_fits_10 : decode cX6_fits 10 = .ok (.getfield 48, 3) := dkg_X6_70.2.2.2.2.2.2.2.2.1
theorem dX6_fits_13 : decode cX6_fits 13 = .ok (.if_icmp .le 5, 3) := dkg_X6_70.2.2.2.2.2.2.2.2.2.1
theorem dkg_X6_71 : dkp cX6_fits [(16, .iconst 0, 1), (17, .ireturn, 1), (18, .iconst 1, 1), (19, .istore 4, 2), (21, .iload 4, 2), (23, .aload_n 1, 1), (24, .getfield 102, 3), (27, .arraylength, 1), (28, .if_icmp .ge 30, 3), (31, .aload_n 1, 1)] := dkf (by decide +kernel)
theorem dX6_fits_16 : decode cX6_fits 16 = .ok (.iconst 0, 1) := dkg_X6_71.1
theorem dX6_fits_17 : decode cX6_fits 17 = .ok (.ireturn, 1) := dkg_X6_71.2.1
theorem dX6_fits_18 : decode cX6_fits 18 = .ok (.iconst 1, 1) := dkg_X6_71.2.2.1
theorem dX6_fits_19 : decode cX6_fits 19 = .ok (.istore 4, 2) := dkg_X6_71.2.2.2.1
theorem dX6_fits_21 : decode cX6_fits 21 = .ok (.iload 4, 2) := dkg_X6_71.2.2.2.2.1
theorem dX6_fits_23 : decode cX6_fits 23 = .ok (.aload_n 1, 1) := dkg_X6_71.2.2.2.2.2.1
theorem dX6_fits_24 : decode cX6_fits 24 = .ok (.getfield 102, 3) := dkg_X6_71.2.2.2.2.2.2.1
theorem dX6_fits_27 : decode cX6_fits 27 = .ok (.arraylength, 1) := dkg_X6_71.2.2.2.2.2.2.2.1
theorem dX6_fits_28 : decode cX6_fits 28 = .ok (.if_icmp .ge 30, 3) := dkg_X6_71.2.2.2.2.2.2.2.2.1
theorem dX6_fits_31 : decode cX6_fits 31 = .ok (.aload_n 1, 1) := dkg_X6_71.2.2.2.2.2.2.2.2.2.1
theorem dkg_X6_72 : dkp cX6_fits [(32, .getfield 102, 3), (35, .iload 4, 2), (37, .iaload, 1), (38, .aload_n 0, 1), (39, .getfield 9, 3), (42, .iload_n 2, 1), (43, .iload 4, 2), (45, .iadd, 1), (46, .iaload, 1), (47, .if_icmp .eq 5, 3)] := dkf (by decide +kernel)
theorem dX6_fits_32 : decode cX6_fits 32 = .ok (.getfield 102, 3) := dkg_X6_72.1
theorem dX6_fits_35 : decode cX6_fits 35 = .ok (.iload 4, 2) := dkg_X6_72.2.1
theorem dX6_fits_37 : decode cX6_fits 37 = .ok (.iaload, 1) := dkg_X6_72.2.2.1
theorem dX6_fits_38 : decode cX6_fits 38 = .ok (.aload_n 0, 1) := dkg_X6_72.2.2.2.1
theorem dX6_fits_39 : decode cX6_fits 39 = .ok (.getfield 9, 3) := dkg_X6_72.2.2.2.2.1
theorem dX6_fits_42 : decode cX6_fits 42 = .ok (.iload_n 2, 1) := dkg_X6_72.2.2.2.2.2.1
theorem dX6_fits_43 : decode cX6_fits 43 = .ok (.iload 4, 2) := dkg_X6_72.2.2.2.2.2.2.1
theorem dX6_fits_45 : decode cX6_fits 45 = .ok (.iadd, 1) := dkg_X6_72.2.2.2.2.2.2.2.1
theorem dX6_fits_46 : decode cX6_fits 46 = .ok (.iaload, 1) := dkg_X6_72.2.2.2.2.2.2.2.2.1
theorem dX6_fits_47 : decode cX6_fits 47 = .ok (.if_icmp .eq 5, 3) := dkg_X6_72.2.2.2.2.2.2.2.2.2.1
theorem dkg_X6_73 : dkp cX6_fits [(50, .iconst 0, 1), (51, .ireturn, 1), (52, .iinc 4 1, 3), (55, .goto (-34), 3), (58, .iload_n 2, 1), (59, .aload_n 0, 1), (60, .getfield 45, 3), (63, .if_icmp .ne 7, 3), (66, .iconst 1, 1), (67, .goto 4, 3)] := dkf (by decide +kernel)
theorem dX6_fits_50 : decode cX6_fits 50 = .ok (.iconst 0, 1) := dkg_X6_73.1
theorem dX6_fits_51 : decode cX6_fits 51 = .ok (.ireturn, 1) := dkg_X6_73.2.1
theorem dX6_fits_52 : decode cX6_fits 52 = .ok (.iinc 4 1, 3) := dkg_X6_73.2.2.1
theorem dX6_fits_55 : decode cX6_fits 55 = .ok (.goto (-34), 3) := dkg_X6_73.2.2.2.1
theorem dX6_fits_58 : decode cX6_fits 58 = .ok (.iload_n 2, 1) := dkg_X6_73.2.2.2.2.1
theorem dX6_fits_59 : decode cX6_fits 59 = .ok (.aload_n 0, 1) := dkg_X6_73.2.2.2.2.2.1
theorem dX6_fits_60 : decode cX6_fits 60 = .ok (.getfield 45, 3) := dkg_X6_73.2.2.2.2.2.2.1
theorem dX6_fits_63 : decode cX6_fits 63 = .ok (.if_icmp .ne 7, 3) := dkg_X6_73.2.2.2.2.2.2.2.1
theorem dX6_fits_66 : decode cX6_fits 66 = .ok (.iconst 1, 1) := dkg_X6_73.2.2.2.2.2.2.2.2.1
theorem dX6_fits_67 : decode cX6_fits 67 = .ok (.goto 4, 3) := dkg_X6_73.2.2.2.2.2.2.2.2.2.1
theorem dkg_X6_74 : dkp cX6_fits [(70, .iconst 0, 1), (71, .istore 4, 2), (73, .iload_n 3, 1), (74, .aload_n 0, 1), (75, .getfield 48, 3), (78, .if_icmp .ne 7, 3), (81, .iconst 1, 1), (82, .goto 4, 3), (85, .iconst 0, 1), (86, .istore 5, 2)] := dkf (by decide +kernel)
theorem dX6_fits_70 : decode cX6_fits 70 = .ok (.iconst 0, 1) := dkg_X6_74.1
theorem dX6_fits_71 : decode cX6_fits 71 = .ok (.istore 4, 2) := dkg_X6_74.2.1
theorem dX6_fits_73 : decode cX6_fits 73 = .ok (.iload_n 3, 1) := dkg_X6_74.2.2.1
theorem dX6_fits_74 : decode cX6_fits 74 = .ok (.aload_n 0, 1) := dkg_X6_74.2.2.2.1
theorem dX6_fits_75 : decode cX6_fits 75 = .ok (.getfield 48, 3) := dkg_X6_74.2.2.2.2.1
theorem dX6_fits_78 : decode cX6_fits 78 = .ok (.if_icmp .ne 7, 3) := dkg_X6_74.2.2.2.2.2.1
theorem dX6_fits_81 : decode cX6_fits 81 = .ok (.iconst 1, 1) := dkg_X6_74.2.2.2.2.2.2.1
theorem dX6_fits_82 : decode cX6_fits 82 = .ok (.goto 4, 3) := dkg_X6_74.2.2.2.2.2.2.2.1
theorem dX6_fits_85 : decode cX6_fits 85 = .ok (.iconst 0, 1) := dkg_X6_74.2.2.2.2.2.2.2.2.1
theorem dX6_fits_86 : decode cX6_fits 86 = .ok (.istore 5, 2) := dkg_X6_74.2.2.2.2.2.2.2.2.2.1
theorem dkg_X6_75 : dkp cX6_fits [(88, .aload_n 1, 1), (89, .getfield 153, 3), (128, .iload 4, 2), (130, .ireturn, 1), (131, .iload 4, 2), (133, .ifCond .ne 12, 3), (136, .iload 5, 2), (138, .ifCond .ne 7, 3), (141, .iconst 1, 1), (142, .goto 4, 3)] := dkf (by decide +kernel)
theorem dX6_fits_88 : decode cX6_fits 88 = .ok (.aload_n 1, 1) := dkg_X6_75.1
theorem dX6_fits_89 : decode cX6_fits 89 = .ok (.getfield 153, 3) := dkg_X6_75.2.1
theorem dX6_fits_128 : decode cX6_fits 128 = .ok (.iload 4, 2) := dkg_X6_75.2.2.1
theorem dX6_fits_130 : decode cX6_fits 130 = .ok (.ireturn, 1) := dkg_X6_75.2.2.2.1
theorem dX6_fits_131 : decode cX6_fits 131 = .ok (.iload 4, 2) := dkg_X6_75.2.2.2.2.1
theorem dX6_fits_133 : decode cX6_fits 133 = .ok (.ifCond .ne 12, 3) := dkg_X6_75.2.2.2.2.2.1
theorem dX6_fits_136 : decode cX6_fits 136 = .ok (.iload 5, 2) := dkg_X6_75.2.2.2.2.2.2.1
theorem dX6_fits_138 : decode cX6_fits 138 = .ok (.ifCond .ne 7, 3) := dkg_X6_75.2.2.2.2.2.2.2.1
theorem dX6_fits_141 : decode cX6_fits 141 = .ok (.iconst 1, 1) := dkg_X6_75.2.2.2.2.2.2.2.2.1
theorem dX6_fits_142 : decode cX6_fits 142 = .ok (.goto 4, 3) := dkg_X6_75.2.2.2.2.2.2.2.2.2.1
theorem dkg_X6_76 : dkp cX6_fits [(145, .iconst 0, 1), (146, .ireturn, 1), (147, .iload 5, 2), (149, .ireturn, 1), (150, .iload 4, 2), (152, .ifCond .eq 12, 3), (155, .iload 5, 2), (157, .ifCond .eq 7, 3), (160, .iconst 1, 1), (161, .goto 4, 3)] := dkf (by decide +kernel)
theorem dX6_fits_145 : decode cX6_fits 145 = .ok (.iconst 0, 1) := dkg_X6_76.1
theorem dX6_fits_146 : decode cX6_fits 146 = .ok (.ireturn, 1) := dkg_X6_76.2.1
theorem dX6_fits_147 : decode cX6_fits 147 = .ok (.iload 5, 2) := dkg_X6_76.2.2.1
theorem dX6_fits_149 : decode cX6_fits 149 = .ok (.ireturn, 1) := dkg_X6_76.2.2.2.1
theorem dX6_fits_150 : decode cX6_fits 150 = .ok (.iload 4, 2) := dkg_X6_76.2.2.2.2.1
theorem dX6_fits_152 : decode cX6_fits 152 = .ok (.ifCond .eq 12, 3) := dkg_X6_76.2.2.2.2.2.1
theorem dX6_fits_155 : decode cX6_fits 155 = .ok (.iload 5, 2) := dkg_X6_76.2.2.2.2.2.2.1
theorem dX6_fits_157 : decode cX6_fits 157 = .ok (.ifCond .eq 7, 3) := dkg_X6_76.2.2.2.2.2.2.2.1
theorem dX6_fits_160 : decode cX6_fits 160 = .ok (.iconst 1, 1) := dkg_X6_76.2.2.2.2.2.2.2.2.1
theorem dX6_fits_161 : decode cX6_fits 161 = .ok (.goto 4, 3) := dkg_X6_76.2.2.2.2.2.2.2.2.2.1
theorem dkg_X6_77 : dkp cX6_fits [(164, .iconst 0, 1), (165, .ireturn, 1), (166, .iload 5, 2), (168, .ifCond .ne 19, 3), (171, .aload_n 0, 1), (172, .getfield 9, 3), (175, .iload_n 3, 1), (176, .iaload, 1), (177, .invokestatic 156, 3), (180, .ifCond .eq 7, 3)] := dkf (by decide +kernel)
theorem dX6_fits_164 : decode cX6_fits 164 = .ok (.iconst 0, 1) := dkg_X6_77.1
theorem dX6_fits_165 : decode cX6_fits 165 = .ok (.ireturn, 1) := dkg_X6_77.2.1
theorem dX6_fits_166 : decode cX6_fits 166 = .ok (.iload 5, 2) := dkg_X6_77.2.2.1
theorem dX6_fits_168 : decode cX6_fits 168 = .ok (.ifCond .ne 19, 3) := dkg_X6_77.2.2.2.1
theorem dX6_fits_171 : decode cX6_fits 171 = .ok (.aload_n 0, 1) := dkg_X6_77.2.2.2.2.1
theorem dX6_fits_172 : decode cX6_fits 172 = .ok (.getfield 9, 3) := dkg_X6_77.2.2.2.2.2.1
theorem dX6_fits_175 : decode cX6_fits 175 = .ok (.iload_n 3, 1) := dkg_X6_77.2.2.2.2.2.2.1
theorem dX6_fits_176 : decode cX6_fits 176 = .ok (.iaload, 1) := dkg_X6_77.2.2.2.2.2.2.2.1
theorem dX6_fits_177 : decode cX6_fits 177 = .ok (.invokestatic 156, 3) := dkg_X6_77.2.2.2.2.2.2.2.2.1
theorem dX6_fits_180 : decode cX6_fits 180 = .ok (.ifCond .eq 7, 3) := dkg_X6_77.2.2.2.2.2.2.2.2.2.1
theorem dkg_X6_78 : dkp cX6_fits [(183, .iconst 1, 1), (184, .goto 4, 3), (187, .iconst 0, 1), (188, .ireturn, 1), (189, .iconst 1, 1), (190, .ireturn, 1)] := dkf (by decide +kernel)
theorem dX6_fits_183 : decode cX6_fits 183 = .ok (.iconst 1, 1) := dkg_X6_78.1
theorem dX6_fits_184 : decode cX6_fits 184 = .ok (.goto 4, 3) := dkg_X6_78.2.1
theorem dX6_fits_187 : decode cX6_fits 187 = .ok (.iconst 0, 1) := dkg_X6_78.2.2.1
theorem dX6_fits_188 : decode cX6_fits 188 = .ok (.ireturn, 1) := dkg_X6_78.2.2.2.1
theorem dX6_fits_189 : decode cX6_fits 189 = .ok (.iconst 1, 1) := dkg_X6_78.2.2.2.2.1
theorem dX6_fits_190 : decode cX6_fits 190 = .ok (.ireturn, 1) := dkg_X6_78.2.2.2.2.2.1
theorem dkg_X6_79 : dkp cX6_fits [(92, .tableswitch 97 1 5 #[36, 39, 55, 58, 74], 36)] := dkq (by decide +kernel)
theorem dX6_fits_92 : decode cX6_fits 92 = .ok (.tableswitch 97 1 5 #[36, 39, 55, 58, 74], 36) := dkg_X6_79.1
theorem dkg_X6_80 : dkp cX6_isSign [(0, .iload_n 0, 1), (1, .bipush 48, 2), (3, .if_icmp .lt 33, 3), (6, .iload_n 0, 1), (7, .bipush 57, 2), (9, .if_icmp .le 9, 3), (12, .iload_n 0, 1), (13, .bipush 65, 2), (15, .if_icmp .lt 21, 3), (18, .iload_n 0, 1)] := dkf (by decide +kernel)
theorem dX6_isSign_0 : decode cX6_isSign 0 = .ok (.iload_n 0, 1) := dkg_X6_80.1
theorem dX6_isSign_1 : decode cX6_isSign 1 = .ok (.bipush 48, 2) := dkg_X6_80.2.1
theorem dX6_isSign_3 : decode cX6_isSign 3 = .ok (.if_icmp .lt 33, 3) := dkg_X6_80.2.2.1
theorem dX6_isSign_6 : decode cX6_isSign 6 = .ok (.iload_n 0, 1) := dkg_X6_80.2.2.2.1
theorem dX6_isSign_7 : decode cX6_isSign 7 = .ok (.bipush 57, 2) := dkg_X6_80.2.2.2.2.1
theorem dX6_isSign_9 : decode cX6_isSign 9 = .ok (.if_icmp .le 9, 3) := dkg_X6_80.2.2.2.2.2.1
theorem dX6_isSign_12 : decode cX6_isSign 12 = .ok (.iload_n 0, 1) := dkg_X6_80.2.2.2.2.2.2.1
theorem dX6_isSign_13 : decode cX6_isSign 13 = .ok (.bipush 65, 2) := dkg_X6_80.2.2.2.2.2.2.2.1
theorem dX6_isSign_15 : decode cX6_isSign 15 = .ok (.if_icmp .lt 21, 3) := dkg_X6_80.2.2.2.2.2.2.2.2.1
theorem dX6_isSign_18 : decode cX6_isSign 18 = .ok (.iload_n 0, 1) := dkg_X6_80.2.2.2.2.2.2.2.2.2.1
theorem dkg_X6_81 : dkp cX6_isSign [(19, .bipush 90, 2), (21, .if_icmp .le 9, 3), (24, .iload_n 0, 1), (25, .bipush 97, 2), (27, .if_icmp .lt 9, 3), (30, .iload_n 0, 1), (31, .bipush 122, 2), (33, .if_icmp .le 7, 3), (36, .iconst 1, 1), (37, .goto 4, 3)] := dkf (by decide +kernel)
theorem dX6_isSign_19 : decode cX6_isSign 19 = .ok (.bipush 90, 2) := dkg_X6_81.1
theorem dX6_isSign_21 : decode cX6_isSign 21 = .ok (.if_icmp .le 9, 3) := dkg_X6_81.2.1
theorem dX6_isSign_24 : decode cX6_isSign 24 = .ok (.iload_n 0, 1) := dkg_X6_81.2.2.1
theorem dX6_isSign_25 : decode cX6_isSign 25 = .ok (.bipush 97, 2) := dkg_X6_81.2.2.2.1
theorem dX6_isSign_27 : decode cX6_isSign 27 = .ok (.if_icmp .lt 9, 3) := dkg_X6_81.2.2.2.2.1
theorem dX6_isSign_30 : decode cX6_isSign 30 = .ok (.iload_n 0, 1) := dkg_X6_81.2.2.2.2.2.1
theorem dX6_isSign_31 : decode cX6_isSign 31 = .ok (.bipush 122, 2) := dkg_X6_81.2.2.2.2.2.2.1
theorem dX6_isSign_33 : decode cX6_isSign 33 = .ok (.if_icmp .le 7, 3) := dkg_X6_81.2.2.2.2.2.2.2.1
theorem dX6_isSign_36 : decode cX6_isSign 36 = .ok (.iconst 1, 1) := dkg_X6_81.2.2.2.2.2.2.2.2.1
theorem dX6_isSign_37 : decode cX6_isSign 37 = .ok (.goto 4, 3) := dkg_X6_81.2.2.2.2.2.2.2.2.2.1
theorem dkg_X6_82 : dkp cX6_isSign [(40, .iconst 0, 1), (41, .ireturn, 1)] := dkf (by decide +kernel)
theorem dX6_isSign_40 : decode cX6_isSign 40 = .ok (.iconst 0, 1) := dkg_X6_82.1
theorem dX6_isSign_41 : decode cX6_isSign 41 = .ok (.ireturn, 1) := dkg_X6_82.2.1
theorem dkg_X6_83 : dkp cX6_lastBreak [(0, .iload_n 2, 1), (1, .istore 4, 2), (3, .iload_n 1, 1), (4, .iconst 3, 1), (5, .if_icmp .gt 17, 3), (8, .iload_n 1, 1), (9, .iconst 3, 1), (10, .if_icmp .ne 15, 3), (13, .aload_n 0, 1), (14, .getfield 25, 3)] := dkf (by decide +kernel)
theorem dX6_lastBreak_0 : decode cX6_lastBreak 0 = .ok (.iload_n 2, 1) := dkg_X6_83.1
theorem dX6_lastBreak_1 : decode cX6_lastBreak 1 = .ok (.istore 4, 2) := dkg_X6_83.2.1
theorem dX6_lastBreak_3 : decode cX6_lastBreak 3 = .ok (.iload_n 1, 1) := dkg_X6_83.2.2.1
theorem dX6_lastBreak_4 : decode cX6_lastBreak 4 = .ok (.iconst 3, 1) := dkg_X6_83.2.2.2.1
theorem dX6_lastBreak_5 : decode cX6_lastBreak 5 = .ok (.if_icmp .gt 17, 3) := dkg_X6_83.2.2.2.2.1
theorem dX6_lastBreak_8 : decode cX6_lastBreak 8 = .ok (.iload_n 1, 1) := dkg_X6_83.2.2.2.2.2.1
theorem dX6_lastBreak_9 : decode cX6_lastBreak 9 = .ok (.iconst 3, 1) := dkg_X6_83.2.2.2.2.2.2.1
theorem dX6_lastBreak_10 : decode cX6_lastBreak 10 = .ok (.if_icmp .ne 15, 3) := dkg_X6_83.2.2.2.2.2.2.2.1
theorem dX6_lastBreak_13 : decode cX6_lastBreak 13 = .ok (.aload_n 0, 1) := dkg_X6_83.2.2.2.2.2.2.2.2.1
theorem dX6_lastBreak_14 : decode cX6_lastBreak 14 = .ok (.getfield 25, 3) := dkg_X6_83.2.2.2.2.2.2.2.2.2.1
theorem dkg_X6_84 : dkp cX6_lastBreak [(17, .bipush 6, 2), (19, .if_icmp .ge 6, 3), (22, .iload 4, 2), (24, .ireturn, 1), (25, .iconst 1, 1), (26, .istore 5, 2), (28, .iload 5, 2), (30, .aload_n 0, 1), (31, .getfield 25, 3), (34, .if_icmp .ge 98, 3)] := dkf (by decide +kernel)
theorem dX6_lastBreak_17 : decode cX6_lastBreak 17 = .ok (.bipush 6, 2) := dkg_X6_84.1
theorem dX6_lastBreak_19 : decode cX6_lastBreak 19 = .ok (.if_icmp .ge 6, 3) := dkg_X6_84.2.1
theorem dX6_lastBreak_22 : decode cX6_lastBreak 22 = .ok (.iload 4, 2) := dkg_X6_84.2.2.1
theorem dX6_lastBreak_24 : decode cX6_lastBreak 24 = .ok (.ireturn, 1) := dkg_X6_84.2.2.2.1
theorem dX6_lastBreak_25 : decode cX6_lastBreak 25 = .ok (.iconst 1, 1) := dkg_X6_84.2.2.2.2.1
theorem dX6_lastBreak_26 : decode cX6_lastBreak 26 = .ok (.istore 5, 2) := dkg_X6_84.2.2.2.2.2.1
theorem dX6_lastBreak_28 : decode cX6_lastBreak 28 = .ok (.iload 5, 2) := dkg_X6_84.2.2.2.2.2.2.1
theorem dX6_lastBreak_30 : decode cX6_lastBreak 30 = .ok (.aload_n 0, 1) := dkg_X6_84.2.2.2.2.2.2.2.1
theorem dX6_lastBreak_31 : decode cX6_lastBreak 31 = .ok (.getfield 25, 3) := dkg_X6_84.2.2.2.2.2.2.2.2.1
theorem dX6_lastBreak_34 : decode cX6_lastBreak 34 = .ok (.if_icmp .ge 98, 3) := dkg_X6_84.2.2.2.2.2.2.2.2.2.1
theorem dkg_X6_85 : dkp cX6_lastBreak [(37, .aload_n 0, 1), (38, .getfield 18, 3), (41, .iload 5, 2), (43, .baload, 1), (44, .ifCond .eq 32, 3), (47, .aload_n 0, 1), (48, .getfield 22, 3), (51, .iload 5, 2), (53, .iaload, 1), (54, .iload 4, 2)] := dkf (by decide +kernel)
theorem dX6_lastBreak_37 : decode cX6_lastBreak 37 = .ok (.aload_n 0, 1) := dkg_X6_85.1
theorem dX6_lastBreak_38 : decode cX6_lastBreak 38 = .ok (.getfield 18, 3) := dkg_X6_85.2.1
theorem dX6_lastBreak_41 : decode cX6_lastBreak 41 = .ok (.iload 5, 2) := dkg_X6_85.2.2.1
theorem dX6_lastBreak_43 : decode cX6_lastBreak 43 = .ok (.baload, 1) := dkg_X6_85.2.2.2.1
theorem dX6_lastBreak_44 : decode cX6_lastBreak 44 = .ok (.ifCond .eq 32, 3) := dkg_X6_85.2.2.2.2.1
theorem dX6_lastBreak_47 : decode cX6_lastBreak 47 = .ok (.aload_n 0, 1) := dkg_X6_85.2.2.2.2.2.1
theorem dX6_lastBreak_48 : decode cX6_lastBreak 48 = .ok (.getfield 22, 3) := dkg_X6_85.2.2.2.2.2.2.1
theorem dX6_lastBreak_51 : decode cX6_lastBreak 51 = .ok (.iload 5, 2) := dkg_X6_85.2.2.2.2.2.2.2.1
theorem dX6_lastBreak_53 : decode cX6_lastBreak 53 = .ok (.iaload, 1) := dkg_X6_85.2.2.2.2.2.2.2.2.1
theorem dX6_lastBreak_54 : decode cX6_lastBreak 54 = .ok (.iload 4, 2) := dkg_X6_85.2.2.2.2.2.2.2.2.2.1
theorem dkg_X6_86 : dkp cX6_lastBreak [(56, .if_icmp .le 20, 3), (59, .aload_n 0, 1), (60, .getfield 22, 3), (63, .iload 5, 2), (65, .iaload, 1), (66, .iload_n 2, 1), (67, .isub, 1), (68, .iload_n 3, 1), (69, .if_icmp .gt 7, 3), (72, .iconst 1, 1)] := dkf (by decide +kernel)
theorem dX6_lastBreak_56 : decode cX6_lastBreak 56 = .ok (.if_icmp .le 20, 3) := dkg_X6_86.1
theorem dX6_lastBreak_59 : decode cX6_lastBreak 59 = .ok (.aload_n 0, 1) := dkg_X6_86.2.1
theorem dX6_lastBreak_60 : decode cX6_lastBreak 60 = .ok (.getfield 22, 3) := dkg_X6_86.2.2.1
theorem dX6_lastBreak_63 : decode cX6_lastBreak 63 = .ok (.iload 5, 2) := dkg_X6_86.2.2.2.1
theorem dX6_lastBreak_65 : decode cX6_lastBreak 65 = .ok (.iaload, 1) := dkg_X6_86.2.2.2.2.1
theorem dX6_lastBreak_66 : decode cX6_lastBreak 66 = .ok (.iload_n 2, 1) := dkg_X6_86.2.2.2.2.2.1
theorem dX6_lastBreak_67 : decode cX6_lastBreak 67 = .ok (.isub, 1) := dkg_X6_86.2.2.2.2.2.2.1
theorem dX6_lastBreak_68 : decode cX6_lastBreak 68 = .ok (.iload_n 3, 1) := dkg_X6_86.2.2.2.2.2.2.2.1
theorem dX6_lastBreak_69 : decode cX6_lastBreak 69 = .ok (.if_icmp .gt 7, 3) := dkg_X6_86.2.2.2.2.2.2.2.2.1
theorem dX6_lastBreak_72 : decode cX6_lastBreak 72 = .ok (.iconst 1, 1) := dkg_X6_86.2.2.2.2.2.2.2.2.2.1
theorem dkg_X6_87 : dkp cX6_lastBreak [(73, .goto 4, 3), (76, .iconst 0, 1), (77, .istore 6, 2), (79, .iload 6, 2), (81, .ifCond .eq 45, 3), (84, .iload_n 1, 1), (85, .iconst 2, 1), (86, .if_icmp .ne 31, 3), (89, .aload_n 0, 1), (90, .getfield 9, 3)] := dkf (by decide +kernel)
theorem dX6_lastBreak_73 : decode cX6_lastBreak 73 = .ok (.goto 4, 3) := dkg_X6_87.1
theorem dX6_lastBreak_76 : decode cX6_lastBreak 76 = .ok (.iconst 0, 1) := dkg_X6_87.2.1
theorem dX6_lastBreak_77 : decode cX6_lastBreak 77 = .ok (.istore 6, 2) := dkg_X6_87.2.2.1
theorem dX6_lastBreak_79 : decode cX6_lastBreak 79 = .ok (.iload 6, 2) := dkg_X6_87.2.2.2.1
theorem dX6_lastBreak_81 : decode cX6_lastBreak 81 = .ok (.ifCond .eq 45, 3) := dkg_X6_87.2.2.2.2.1
theorem dX6_lastBreak_84 : decode cX6_lastBreak 84 = .ok (.iload_n 1, 1) := dkg_X6_87.2.2.2.2.2.1
theorem dX6_lastBreak_85 : decode cX6_lastBreak 85 = .ok (.iconst 2, 1) := dkg_X6_87.2.2.2.2.2.2.1
theorem dX6_lastBreak_86 : decode cX6_lastBreak 86 = .ok (.if_icmp .ne 31, 3) := dkg_X6_87.2.2.2.2.2.2.2.1
theorem dX6_lastBreak_89 : decode cX6_lastBreak 89 = .ok (.aload_n 0, 1) := dkg_X6_87.2.2.2.2.2.2.2.2.1
theorem dX6_lastBreak_90 : decode cX6_lastBreak 90 = .ok (.getfield 9, 3) := dkg_X6_87.2.2.2.2.2.2.2.2.2.1
theorem dkg_X6_88 : dkp cX6_lastBreak [(93, .iload 5, 2), (95, .iconst 1, 1), (96, .isub, 1), (97, .iaload, 1), (98, .invokestatic 115, 3), (101, .ifCond .ne 25, 3), (104, .aload_n 0, 1), (105, .getfield 9, 3), (108, .iload 5, 2), (110, .iaload, 1)] := dkf (by decide +kernel)
theorem dX6_lastBreak_93 : decode cX6_lastBreak 93 = .ok (.iload 5, 2) := dkg_X6_88.1
theorem dX6_lastBreak_95 : decode cX6_lastBreak 95 = .ok (.iconst 1, 1) := dkg_X6_88.2.1
theorem dX6_lastBreak_96 : decode cX6_lastBreak 96 = .ok (.isub, 1) := dkg_X6_88.2.2.1
theorem dX6_lastBreak_97 : decode cX6_lastBreak 97 = .ok (.iaload, 1) := dkg_X6_88.2.2.2.1
theorem dX6_lastBreak_98 : decode cX6_lastBreak 98 = .ok (.invokestatic 115, 3) := dkg_X6_88.2.2.2.2.1
theorem dX6_lastBreak_101 : decode cX6_lastBreak 101 = .ok (.ifCond .ne 25, 3) := dkg_X6_88.2.2.2.2.2.1
theorem dX6_lastBreak_104 : decode cX6_lastBreak 104 = .ok (.aload_n 0, 1) := dkg_X6_88.2.2.2.2.2.2.1
theorem dX6_lastBreak_105 : decode cX6_lastBreak 105 = .ok (.getfield 9, 3) := dkg_X6_88.2.2.2.2.2.2.2.1
theorem dX6_lastBreak_108 : decode cX6_lastBreak 108 = .ok (.iload 5, 2) := dkg_X6_88.2.2.2.2.2.2.2.2.1
theorem dX6_lastBreak_110 : decode cX6_lastBreak 110 = .ok (.iaload, 1) := dkg_X6_88.2.2.2.2.2.2.2.2.2.1
theorem dkg_X6_89 : dkp cX6_lastBreak [(111, .invokestatic 115, 3), (114, .ifCond .ne 12, 3), (117, .aload_n 0, 1), (118, .getfield 22, 3), (121, .iload 5, 2), (123, .iaload, 1), (124, .istore 4, 2), (126, .iinc 5 1, 3), (129, .goto (-101), 3), (132, .iload 4, 2)] := dkf (by decide +kernel)
theorem dX6_lastBreak_111 : decode cX6_lastBreak 111 = .ok (.invokestatic 115, 3) := dkg_X6_89.1
theorem dX6_lastBreak_114 : decode cX6_lastBreak 114 = .ok (.ifCond .ne 12, 3) := dkg_X6_89.2.1
theorem dX6_lastBreak_117 : decode cX6_lastBreak 117 = .ok (.aload_n 0, 1) := dkg_X6_89.2.2.1
theorem dX6_lastBreak_118 : decode cX6_lastBreak 118 = .ok (.getfield 22, 3) := dkg_X6_89.2.2.2.1
theorem dX6_lastBreak_121 : decode cX6_lastBreak 121 = .ok (.iload 5, 2) := dkg_X6_89.2.2.2.2.1
theorem dX6_lastBreak_123 : decode cX6_lastBreak 123 = .ok (.iaload, 1) := dkg_X6_89.2.2.2.2.2.1
theorem dX6_lastBreak_124 : decode cX6_lastBreak 124 = .ok (.istore 4, 2) := dkg_X6_89.2.2.2.2.2.2.1
theorem dX6_lastBreak_126 : decode cX6_lastBreak 126 = .ok (.iinc 5 1, 3) := dkg_X6_89.2.2.2.2.2.2.2.1
theorem dX6_lastBreak_129 : decode cX6_lastBreak 129 = .ok (.goto (-101), 3) := dkg_X6_89.2.2.2.2.2.2.2.2.1
theorem dX6_lastBreak_132 : decode cX6_lastBreak 132 = .ok (.iload 4, 2) := dkg_X6_89.2.2.2.2.2.2.2.2.2.1
theorem dkg_X6_90 : dkp cX6_lastBreak [(134, .ireturn, 1)] := dkf (by decide +kernel)
theorem dX6_lastBreak_134 : decode cX6_lastBreak 134 = .ok (.ireturn, 1) := dkg_X6_90.1
