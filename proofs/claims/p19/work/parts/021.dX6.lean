section
theorem dkg_X6_0 : dkp cX6_init [(0, .aload_n 0, 1), (1, .invokespecial 3, 3), (4, .aload_n 0, 1), (5, .sipush 500, 3), (10, .putfield 9, 3), (13, .aload_n 0, 1), (14, .sipush 500, 3), (19, .putfield 15, 3), (22, .aload_n 0, 1), (23, .sipush 500, 3)] := dkf (by decide +kernel)
def dX6_init_0 := dkg_X6_0.1
def dX6_init_1 := dkg_X6_0.2.1
def dX6_init_4 := dkg_X6_0.2.2.1
def dX6_init_5 := dkg_X6_0.2.2.2.1
def dX6_init_10 := dkg_X6_0.2.2.2.2.1
def dX6_init_13 := dkg_X6_0.2.2.2.2.2.1
def dX6_init_14 := dkg_X6_0.2.2.2.2.2.2.1
def dX6_init_19 := dkg_X6_0.2.2.2.2.2.2.2.1
def dX6_init_22 := dkg_X6_0.2.2.2.2.2.2.2.2.1
def dX6_init_23 := dkg_X6_0.2.2.2.2.2.2.2.2.2.1
theorem dkg_X6_1 : dkp cX6_init [(28, .putfield 18, 3), (31, .aload_n 0, 1), (32, .sipush 500, 3), (37, .putfield 22, 3), (40, .aload_n 0, 1), (41, .iconst 0, 1), (42, .putfield 25, 3), (45, .aload_n 0, 1), (46, .iconst 0, 1), (47, .putfield 29, 3)] := dkf (by decide +kernel)
def dX6_init_28 := dkg_X6_1.1
def dX6_init_31 := dkg_X6_1.2.1
def dX6_init_32 := dkg_X6_1.2.2.1
def dX6_init_37 := dkg_X6_1.2.2.2.1
def dX6_init_40 := dkg_X6_1.2.2.2.2.1
def dX6_init_41 := dkg_X6_1.2.2.2.2.2.1
def dX6_init_42 := dkg_X6_1.2.2.2.2.2.2.1
def dX6_init_45 := dkg_X6_1.2.2.2.2.2.2.2.1
def dX6_init_46 := dkg_X6_1.2.2.2.2.2.2.2.2.1
def dX6_init_47 := dkg_X6_1.2.2.2.2.2.2.2.2.2.1
theorem dkg_X6_2 : dkp cX6_init [(50, .aload_n 0, 1), (51, .sipush 200, 3), (56, .putfield 33, 3), (59, .aload_n 0, 1), (60, .iconst 0, 1), (61, .putfield 36, 3), (64, .aload_n 0, 1), (65, .iconst 5, 1), (68, .putfield 39, 3), (71, .aload_n 0, 1)] := dkf (by decide +kernel)
def dX6_init_50 := dkg_X6_2.1
def dX6_init_51 := dkg_X6_2.2.1
def dX6_init_56 := dkg_X6_2.2.2.1
def dX6_init_59 := dkg_X6_2.2.2.2.1
def dX6_init_60 := dkg_X6_2.2.2.2.2.1
def dX6_init_61 := dkg_X6_2.2.2.2.2.2.1
def dX6_init_64 := dkg_X6_2.2.2.2.2.2.2.1
def dX6_init_65 := dkg_X6_2.2.2.2.2.2.2.2.1
def dX6_init_68 := dkg_X6_2.2.2.2.2.2.2.2.2.1
def dX6_init_71 := dkg_X6_2.2.2.2.2.2.2.2.2.2.1
theorem dkg_X6_3 : dkp cX6_init [(72, .iconst 0, 1), (73, .putfield 42, 3), (76, .aload_n 0, 1), (77, .iconst 0, 1), (78, .putfield 45, 3), (81, .aload_n 0, 1), (82, .iconst 0, 1), (83, .putfield 48, 3), (86, .return_, 1)] := dkf (by decide +kernel)
def dX6_init_72 := dkg_X6_3.1
def dX6_init_73 := dkg_X6_3.2.1
def dX6_init_76 := dkg_X6_3.2.2.1
def dX6_init_77 := dkg_X6_3.2.2.2.1
def dX6_init_78 := dkg_X6_3.2.2.2.2.1
def dX6_init_81 := dkg_X6_3.2.2.2.2.2.1
def dX6_init_82 := dkg_X6_3.2.2.2.2.2.2.1
def dX6_init_83 := dkg_X6_3.2.2.2.2.2.2.2.1
def dX6_init_86 := dkg_X6_3.2.2.2.2.2.2.2.2.1
theorem dkg_X6_4 : dkp cX6_init [(8, .newarray .int, 2), (17, .newarray .int, 2), (26, .newarray .boolean, 2), (35, .newarray .int, 2), (54, .newarray .int, 2), (66, .newarray .int, 2)] := dkq (by decide +kernel)
def dX6_init_8 := dkg_X6_4.1
def dX6_init_17 := dkg_X6_4.2.1
def dX6_init_26 := dkg_X6_4.2.2.1
def dX6_init_35 := dkg_X6_4.2.2.2.1
def dX6_init_54 := dkg_X6_4.2.2.2.2.1
def dX6_init_66 := dkg_X6_4.2.2.2.2.2.1
theorem dkg_X6_5 : dkp cX6_clear [(0, .aload_n 0, 1), (1, .iconst 0, 1), (2, .putfield 25, 3), (5, .aload_n 0, 1), (6, .iconst 0, 1), (7, .putfield 29, 3), (10, .return_, 1)] := dkf (by decide +kernel)
def dX6_clear_0 := dkg_X6_5.1
def dX6_clear_1 := dkg_X6_5.2.1
def dX6_clear_2 := dkg_X6_5.2.2.1
def dX6_clear_5 := dkg_X6_5.2.2.2.1
def dX6_clear_6 := dkg_X6_5.2.2.2.2.1
def dX6_clear_7 := dkg_X6_5.2.2.2.2.2.1
def dX6_clear_10 := dkg_X6_5.2.2.2.2.2.2.1
theorem dkg_X6_6 : dkp cX6_put [(0, .aload_n 0, 1), (1, .getfield 25, 3), (4, .sipush 500, 3), (7, .if_icmp .lt 4, 3), (10, .return_, 1), (11, .aload_n 0, 1), (12, .getfield 9, 3), (15, .aload_n 0, 1), (16, .getfield 25, 3), (19, .iload_n 1, 1)] := dkf (by decide +kernel)
def dX6_put_0 := dkg_X6_6.1
def dX6_put_1 := dkg_X6_6.2.1
def dX6_put_4 := dkg_X6_6.2.2.1
def dX6_put_7 := dkg_X6_6.2.2.2.1
def dX6_put_10 := dkg_X6_6.2.2.2.2.1
def dX6_put_11 := dkg_X6_6.2.2.2.2.2.1
def dX6_put_12 := dkg_X6_6.2.2.2.2.2.2.1
def dX6_put_15 := dkg_X6_6.2.2.2.2.2.2.2.1
def dX6_put_16 := dkg_X6_6.2.2.2.2.2.2.2.2.1
def dX6_put_19 := dkg_X6_6.2.2.2.2.2.2.2.2.2.1
theorem dkg_X6_7 : dkp cX6_put [(20, .iastore, 1), (21, .aload_n 0, 1), (22, .getfield 15, 3), (25, .aload_n 0, 1), (26, .getfield 25, 3), (29, .iload_n 2, 1), (30, .iastore, 1), (31, .aload_n 0, 1), (32, .getfield 18, 3), (35, .aload_n 0, 1)] := dkf (by decide +kernel)
def dX6_put_20 := dkg_X6_7.1
def dX6_put_21 := dkg_X6_7.2.1
def dX6_put_22 := dkg_X6_7.2.2.1
def dX6_put_25 := dkg_X6_7.2.2.2.1
def dX6_put_26 := dkg_X6_7.2.2.2.2.1
def dX6_put_29 := dkg_X6_7.2.2.2.2.2.1
def dX6_put_30 := dkg_X6_7.2.2.2.2.2.2.1
def dX6_put_31 := dkg_X6_7.2.2.2.2.2.2.2.1
def dX6_put_32 := dkg_X6_7.2.2.2.2.2.2.2.2.1
def dX6_put_35 := dkg_X6_7.2.2.2.2.2.2.2.2.2.1
theorem dkg_X6_8 : dkp cX6_put [(36, .getfield 25, 3), (39, .aload_n 0, 1), (40, .getfield 29, 3), (43, .bastore, 1), (44, .aload_n 0, 1), (45, .iconst 0, 1), (46, .putfield 29, 3), (49, .aload_n 0, 1), (50, .dup, 1), (51, .getfield 25, 3)] := dkf (by decide +kernel)
def dX6_put_36 := dkg_X6_8.1
def dX6_put_39 := dkg_X6_8.2.1
def dX6_put_40 := dkg_X6_8.2.2.1
def dX6_put_43 := dkg_X6_8.2.2.2.1
def dX6_put_44 := dkg_X6_8.2.2.2.2.1
def dX6_put_45 := dkg_X6_8.2.2.2.2.2.1
def dX6_put_46 := dkg_X6_8.2.2.2.2.2.2.1
def dX6_put_49 := dkg_X6_8.2.2.2.2.2.2.2.1
def dX6_put_50 := dkg_X6_8.2.2.2.2.2.2.2.2.1
def dX6_put_51 := dkg_X6_8.2.2.2.2.2.2.2.2.2.1
theorem dkg_X6_9 : dkp cX6_put [(54, .iconst 1, 1), (55, .iadd, 1), (56, .putfield 25, 3), (59, .return_, 1)] := dkf (by decide +kernel)
def dX6_put_54 := dkg_X6_9.1
def dX6_put_55 := dkg_X6_9.2.1
def dX6_put_56 := dkg_X6_9.2.2.1
def dX6_put_59 := dkg_X6_9.2.2.2.1
theorem dkg_X6_10 : dkp cX6_putBreak [(0, .aload_n 0, 1), (1, .iconst 1, 1), (2, .putfield 29, 3), (5, .return_, 1)] := dkf (by decide +kernel)
def dX6_putBreak_0 := dkg_X6_10.1
def dX6_putBreak_1 := dkg_X6_10.2.1
def dX6_putBreak_2 := dkg_X6_10.2.2.1
def dX6_putBreak_5 := dkg_X6_10.2.2.2.1
theorem dkg_X6_11 : dkp cX6_placeOfUnknown [(0, .aload_n 0, 1), (1, .getfield 42, 3), (4, .ifCond .lt 26, 3), (7, .aload_n 0, 1), (8, .getfield 42, 3), (11, .aload_n 0, 1), (12, .getfield 25, 3), (15, .if_icmp .ge 15, 3), (18, .aload_n 0, 1), (19, .getfield 15, 3)] := dkf (by decide +kernel)
def dX6_placeOfUnknown_0 := dkg_X6_11.1
def dX6_placeOfUnknown_1 := dkg_X6_11.2.1
def dX6_placeOfUnknown_4 := dkg_X6_11.2.2.1
def dX6_placeOfUnknown_7 := dkg_X6_11.2.2.2.1
def dX6_placeOfUnknown_8 := dkg_X6_11.2.2.2.2.1
def dX6_placeOfUnknown_11 := dkg_X6_11.2.2.2.2.2.1
def dX6_placeOfUnknown_12 := dkg_X6_11.2.2.2.2.2.2.1
def dX6_placeOfUnknown_15 := dkg_X6_11.2.2.2.2.2.2.2.1
def dX6_placeOfUnknown_18 := dkg_X6_11.2.2.2.2.2.2.2.2.1
def dX6_placeOfUnknown_19 := dkg_X6_11.2.2.2.2.2.2.2.2.2.1
theorem dkg_X6_12 : dkp cX6_placeOfUnknown [(22, .aload_n 0, 1), (23, .getfield 42, 3), (26, .iaload, 1), (27, .goto 4, 3), (30, .iconst (-1), 1), (31, .ireturn, 1)] := dkf (by decide +kernel)
def dX6_placeOfUnknown_22 := dkg_X6_12.1
def dX6_placeOfUnknown_23 := dkg_X6_12.2.1
def dX6_placeOfUnknown_26 := dkg_X6_12.2.2.1
def dX6_placeOfUnknown_27 := dkg_X6_12.2.2.2.1
def dX6_placeOfUnknown_30 := dkg_X6_12.2.2.2.2.1
def dX6_placeOfUnknown_31 := dkg_X6_12.2.2.2.2.2.1
theorem dkg_X6_13 : dkp cX6_findsOf [(0, .iload_n 1, 1), (1, .ifCond .lt 21, 3), (4, .iload_n 1, 1), (5, .aload_n 0, 1), (6, .getfield 39, 3), (9, .arraylength, 1), (10, .if_icmp .ge 12, 3), (13, .aload_n 0, 1), (14, .getfield 39, 3), (17, .iload_n 1, 1)] := dkf (by decide +kernel)
def dX6_findsOf_0 := dkg_X6_13.1
def dX6_findsOf_1 := dkg_X6_13.2.1
def dX6_findsOf_4 := dkg_X6_13.2.2.1
def dX6_findsOf_5 := dkg_X6_13.2.2.2.1
def dX6_findsOf_6 := dkg_X6_13.2.2.2.2.1
def dX6_findsOf_9 := dkg_X6_13.2.2.2.2.2.1
def dX6_findsOf_10 := dkg_X6_13.2.2.2.2.2.2.1
def dX6_findsOf_13 := dkg_X6_13.2.2.2.2.2.2.2.1
def dX6_findsOf_14 := dkg_X6_13.2.2.2.2.2.2.2.2.1
def dX6_findsOf_17 := dkg_X6_13.2.2.2.2.2.2.2.2.2.1
theorem dkg_X6_14 : dkp cX6_findsOf [(18, .iaload, 1), (19, .goto 4, 3), (22, .iconst 0, 1), (23, .ireturn, 1)] := dkf (by decide +kernel)
def dX6_findsOf_18 := dkg_X6_14.1
def dX6_findsOf_19 := dkg_X6_14.2.1
def dX6_findsOf_22 := dkg_X6_14.2.2.1
def dX6_findsOf_23 := dkg_X6_14.2.2.2.1
theorem dkg_X6_15 : dkp cX6_hasLetters [(0, .aload_n 1, 1), (1, .getfield 51, 3), (4, .aload_n 0, 1), (5, .getfield 25, 3), (8, .if_icmp .eq 5, 3), (11, .iconst 0, 1), (12, .ireturn, 1), (13, .iconst 0, 1), (14, .istore_n 2, 1), (15, .iload_n 2, 1)] := dkf (by decide +kernel)
def dX6_hasLetters_0 := dkg_X6_15.1
def dX6_hasLetters_1 := dkg_X6_15.2.1
def dX6_hasLetters_4 := dkg_X6_15.2.2.1
def dX6_hasLetters_5 := dkg_X6_15.2.2.2.1
def dX6_hasLetters_8 := dkg_X6_15.2.2.2.2.1
def dX6_hasLetters_11 := dkg_X6_15.2.2.2.2.2.1
def dX6_hasLetters_12 := dkg_X6_15.2.2.2.2.2.2.1
def dX6_hasLetters_13 := dkg_X6_15.2.2.2.2.2.2.2.1
def dX6_hasLetters_14 := dkg_X6_15.2.2.2.2.2.2.2.2.1
def dX6_hasLetters_15 := dkg_X6_15.2.2.2.2.2.2.2.2.2.1
theorem dkg_X6_16 : dkp cX6_hasLetters [(16, .aload_n 0, 1), (17, .getfield 25, 3), (20, .if_icmp .ge 25, 3), (23, .aload_n 1, 1), (24, .iload_n 2, 1), (25, .invokevirtual 54, 3), (28, .aload_n 0, 1), (29, .getfield 9, 3), (32, .iload_n 2, 1), (33, .iaload, 1)] := dkf (by decide +kernel)
def dX6_hasLetters_16 := dkg_X6_16.1
def dX6_hasLetters_17 := dkg_X6_16.2.1
def dX6_hasLetters_20 := dkg_X6_16.2.2.1
def dX6_hasLetters_23 := dkg_X6_16.2.2.2.1
def dX6_hasLetters_24 := dkg_X6_16.2.2.2.2.1
def dX6_hasLetters_25 := dkg_X6_16.2.2.2.2.2.1
def dX6_hasLetters_28 := dkg_X6_16.2.2.2.2.2.2.1
def dX6_hasLetters_29 := dkg_X6_16.2.2.2.2.2.2.2.1
def dX6_hasLetters_32 := dkg_X6_16.2.2.2.2.2.2.2.2.1
def dX6_hasLetters_33 := dkg_X6_16.2.2.2.2.2.2.2.2.2.1
theorem dkg_X6_17 : dkp cX6_hasLetters [(34, .if_icmp .eq 5, 3), (37, .iconst 0, 1), (38, .ireturn, 1), (39, .iinc 2 1, 3), (42, .goto (-27), 3), (45, .iconst 1, 1), (46, .ireturn, 1)] := dkf (by decide +kernel)
def dX6_hasLetters_34 := dkg_X6_17.1
def dX6_hasLetters_37 := dkg_X6_17.2.1
def dX6_hasLetters_38 := dkg_X6_17.2.2.1
def dX6_hasLetters_39 := dkg_X6_17.2.2.2.1
def dX6_hasLetters_42 := dkg_X6_17.2.2.2.2.1
def dX6_hasLetters_45 := dkg_X6_17.2.2.2.2.2.1
def dX6_hasLetters_46 := dkg_X6_17.2.2.2.2.2.2.1
theorem dkg_X6_18 : dkp cX6_writeLetters [(0, .iconst 0, 1), (1, .istore_n 2, 1), (2, .iload_n 2, 1), (3, .aload_n 0, 1), (4, .getfield 25, 3), (7, .if_icmp .ge 19, 3), (10, .aload_n 1, 1), (11, .aload_n 0, 1), (12, .getfield 9, 3), (15, .iload_n 2, 1)] := dkf (by decide +kernel)
def dX6_writeLetters_0 := dkg_X6_18.1
def dX6_writeLetters_1 := dkg_X6_18.2.1
def dX6_writeLetters_2 := dkg_X6_18.2.2.1
def dX6_writeLetters_3 := dkg_X6_18.2.2.2.1
def dX6_writeLetters_4 := dkg_X6_18.2.2.2.2.1
def dX6_writeLetters_7 := dkg_X6_18.2.2.2.2.2.1
def dX6_writeLetters_10 := dkg_X6_18.2.2.2.2.2.2.1
def dX6_writeLetters_11 := dkg_X6_18.2.2.2.2.2.2.2.1
def dX6_writeLetters_12 := dkg_X6_18.2.2.2.2.2.2.2.2.1
def dX6_writeLetters_15 := dkg_X6_18.2.2.2.2.2.2.2.2.2.1
theorem dkg_X6_19 : dkp cX6_writeLetters [(16, .iaload, 1), (17, .invokevirtual 58, 3), (20, .iinc 2 1, 3), (23, .goto (-21), 3), (26, .return_, 1)] := dkf (by decide +kernel)
def dX6_writeLetters_16 := dkg_X6_19.1
def dX6_writeLetters_17 := dkg_X6_19.2.1
def dX6_writeLetters_20 := dkg_X6_19.2.2.1
def dX6_writeLetters_23 := dkg_X6_19.2.2.2.1
def dX6_writeLetters_26 := dkg_X6_19.2.2.2.2.1
theorem dkg_X6_20 : dkp cX6_setBy [(0, .aload_n 0, 1), (1, .iconst 0, 1), (2, .putfield 36, 3), (5, .aload_n 1, 1), (6, .getfield 62, 3), (9, .iconst 5, 1), (10, .if_icmp .ne 7, 3), (13, .iconst 1, 1), (14, .goto 4, 3), (17, .iconst 0, 1)] := dkf (by decide +kernel)
def dX6_setBy_0 := dkg_X6_20.1
def dX6_setBy_1 := dkg_X6_20.2.1
def dX6_setBy_2 := dkg_X6_20.2.2.1
def dX6_setBy_5 := dkg_X6_20.2.2.2.1
def dX6_setBy_6 := dkg_X6_20.2.2.2.2.1
def dX6_setBy_9 := dkg_X6_20.2.2.2.2.2.1
def dX6_setBy_10 := dkg_X6_20.2.2.2.2.2.2.1
def dX6_setBy_13 := dkg_X6_20.2.2.2.2.2.2.2.1
def dX6_setBy_14 := dkg_X6_20.2.2.2.2.2.2.2.2.1
def dX6_setBy_17 := dkg_X6_20.2.2.2.2.2.2.2.2.2.1
theorem dkg_X6_21 : dkp cX6_setBy [(18, .istore_n 2, 1), (19, .iconst 0, 1), (20, .istore_n 3, 1), (21, .iconst 0, 1), (22, .istore 4, 2), (24, .iconst 0, 1), (25, .istore 5, 2), (27, .iload 5, 2), (29, .aload_n 0, 1), (30, .getfield 25, 3)] := dkf (by decide +kernel)
def dX6_setBy_18 := dkg_X6_21.1
def dX6_setBy_19 := dkg_X6_21.2.1
def dX6_setBy_20 := dkg_X6_21.2.2.1
def dX6_setBy_21 := dkg_X6_21.2.2.2.1
def dX6_setBy_22 := dkg_X6_21.2.2.2.2.1
def dX6_setBy_24 := dkg_X6_21.2.2.2.2.2.1
def dX6_setBy_25 := dkg_X6_21.2.2.2.2.2.2.1
def dX6_setBy_27 := dkg_X6_21.2.2.2.2.2.2.2.1
def dX6_setBy_29 := dkg_X6_21.2.2.2.2.2.2.2.2.1
def dX6_setBy_30 := dkg_X6_21.2.2.2.2.2.2.2.2.2.1
theorem dkg_X6_22 : dkp cX6_setBy [(33, .if_icmp .gt 160, 3), (36, .iload_n 2, 1), (37, .ifCond .eq 37, 3), (40, .iload 5, 2), (42, .aload_n 0, 1), (43, .getfield 25, 3), (46, .if_icmp .ge 28, 3), (49, .aload_n 0, 1), (50, .getfield 9, 3), (53, .iload 5, 2)] := dkf (by decide +kernel)
def dX6_setBy_33 := dkg_X6_22.1
def dX6_setBy_36 := dkg_X6_22.2.1
def dX6_setBy_37 := dkg_X6_22.2.2.1
def dX6_setBy_40 := dkg_X6_22.2.2.2.1
def dX6_setBy_42 := dkg_X6_22.2.2.2.2.1
def dX6_setBy_43 := dkg_X6_22.2.2.2.2.2.1
def dX6_setBy_46 := dkg_X6_22.2.2.2.2.2.2.1
def dX6_setBy_49 := dkg_X6_22.2.2.2.2.2.2.2.1
def dX6_setBy_50 := dkg_X6_22.2.2.2.2.2.2.2.2.1
def dX6_setBy_53 := dkg_X6_22.2.2.2.2.2.2.2.2.2.1
theorem dkg_X6_23 : dkp cX6_setBy [(55, .iaload, 1), (56, .iload_n 3, 1), (57, .ifCond .eq 8, 3), (60, .bipush 62, 2), (62, .goto 5, 3), (65, .bipush 60, 2), (67, .if_icmp .ne 7, 3), (70, .iconst 1, 1), (71, .goto 4, 3), (74, .iconst 0, 1)] := dkf (by decide +kernel)
def dX6_setBy_55 := dkg_X6_23.1
def dX6_setBy_56 := dkg_X6_23.2.1
def dX6_setBy_57 := dkg_X6_23.2.2.1
def dX6_setBy_60 := dkg_X6_23.2.2.2.1
def dX6_setBy_62 := dkg_X6_23.2.2.2.2.1
def dX6_setBy_65 := dkg_X6_23.2.2.2.2.2.1
def dX6_setBy_67 := dkg_X6_23.2.2.2.2.2.2.1
def dX6_setBy_70 := dkg_X6_23.2.2.2.2.2.2.2.1
def dX6_setBy_71 := dkg_X6_23.2.2.2.2.2.2.2.2.1
def dX6_setBy_74 := dkg_X6_23.2.2.2.2.2.2.2.2.2.1
theorem dkg_X6_24 : dkp cX6_setBy [(75, .istore 6, 2), (77, .iload 5, 2), (79, .aload_n 0, 1), (80, .getfield 25, 3), (83, .if_icmp .ge 11, 3), (86, .iload 6, 2), (88, .ifCond .ne 6, 3), (91, .goto 96, 3), (94, .iload_n 2, 1), (95, .ifCond .eq 10, 3)] := dkf (by decide +kernel)
def dX6_setBy_75 := dkg_X6_24.1
def dX6_setBy_77 := dkg_X6_24.2.1
def dX6_setBy_79 := dkg_X6_24.2.2.1
def dX6_setBy_80 := dkg_X6_24.2.2.2.1
def dX6_setBy_83 := dkg_X6_24.2.2.2.2.1
def dX6_setBy_86 := dkg_X6_24.2.2.2.2.2.1
def dX6_setBy_88 := dkg_X6_24.2.2.2.2.2.2.1
def dX6_setBy_91 := dkg_X6_24.2.2.2.2.2.2.2.1
def dX6_setBy_94 := dkg_X6_24.2.2.2.2.2.2.2.2.1
def dX6_setBy_95 := dkg_X6_24.2.2.2.2.2.2.2.2.2.1
theorem dkg_X6_25 : dkp cX6_setBy [(98, .aload_n 1, 1), (99, .getfield 67, 3), (102, .goto 4, 3), (105, .aload_n 1, 1), (106, .astore 7, 2), (108, .aload_n 0, 1), (109, .iload_n 3, 1), (110, .ifCond .eq 10, 3), (113, .aload_n 1, 1), (114, .getfield 71, 3)] := dkf (by decide +kernel)
def dX6_setBy_98 := dkg_X6_25.1
def dX6_setBy_99 := dkg_X6_25.2.1
def dX6_setBy_102 := dkg_X6_25.2.2.1
def dX6_setBy_105 := dkg_X6_25.2.2.2.1
def dX6_setBy_106 := dkg_X6_25.2.2.2.2.1
def dX6_setBy_108 := dkg_X6_25.2.2.2.2.2.1
def dX6_setBy_109 := dkg_X6_25.2.2.2.2.2.2.1
def dX6_setBy_110 := dkg_X6_25.2.2.2.2.2.2.2.1
def dX6_setBy_113 := dkg_X6_25.2.2.2.2.2.2.2.2.1
def dX6_setBy_114 := dkg_X6_25.2.2.2.2.2.2.2.2.2.1
theorem dkg_X6_26 : dkp cX6_setBy [(117, .goto 5, 3), (120, .aload 7, 2), (122, .iload 4, 2), (124, .iload 5, 2), (126, .invokevirtual 74, 3), (129, .istore 8, 2), (131, .iload 8, 2), (133, .ifCond .ne 30, 3), (136, .iload 6, 2), (138, .ifCond .eq 25, 3)] := dkf (by decide +kernel)
def dX6_setBy_117 := dkg_X6_26.1
def dX6_setBy_120 := dkg_X6_26.2.1
def dX6_setBy_122 := dkg_X6_26.2.2.1
def dX6_setBy_124 := dkg_X6_26.2.2.2.1
def dX6_setBy_126 := dkg_X6_26.2.2.2.2.1
def dX6_setBy_129 := dkg_X6_26.2.2.2.2.2.1
def dX6_setBy_131 := dkg_X6_26.2.2.2.2.2.2.1
def dX6_setBy_133 := dkg_X6_26.2.2.2.2.2.2.2.1
def dX6_setBy_136 := dkg_X6_26.2.2.2.2.2.2.2.2.1
def dX6_setBy_138 := dkg_X6_26.2.2.2.2.2.2.2.2.2.1
theorem dkg_X6_27 : dkp cX6_setBy [(141, .aload_n 0, 1), (142, .aload_n 1, 1), (143, .getfield 78, 3), (146, .iload_n 3, 1), (147, .ifCond .eq 7, 3), (150, .iconst 3, 1), (151, .goto 4, 3), (154, .iconst 2, 1), (155, .aaload, 1), (156, .iload 5, 2)] := dkf (by decide +kernel)
def dX6_setBy_141 := dkg_X6_27.1
def dX6_setBy_142 := dkg_X6_27.2.1
def dX6_setBy_143 := dkg_X6_27.2.2.1
def dX6_setBy_146 := dkg_X6_27.2.2.2.1
def dX6_setBy_147 := dkg_X6_27.2.2.2.2.1
def dX6_setBy_150 := dkg_X6_27.2.2.2.2.2.1
def dX6_setBy_151 := dkg_X6_27.2.2.2.2.2.2.1
def dX6_setBy_154 := dkg_X6_27.2.2.2.2.2.2.2.1
def dX6_setBy_155 := dkg_X6_27.2.2.2.2.2.2.2.2.1
def dX6_setBy_156 := dkg_X6_27.2.2.2.2.2.2.2.2.2.1
theorem dkg_X6_28 : dkp cX6_setBy [(158, .invokevirtual 82, 3), (161, .istore 8, 2), (163, .iload 8, 2), (165, .ifCond .eq 6, 3), (168, .iload 8, 2), (170, .ireturn, 1), (171, .iload_n 3, 1), (172, .ifCond .ne 7, 3), (175, .iconst 1, 1), (176, .goto 4, 3)] := dkf (by decide +kernel)
def dX6_setBy_158 := dkg_X6_28.1
def dX6_setBy_161 := dkg_X6_28.2.1
def dX6_setBy_163 := dkg_X6_28.2.2.1
def dX6_setBy_165 := dkg_X6_28.2.2.2.1
def dX6_setBy_168 := dkg_X6_28.2.2.2.2.1
def dX6_setBy_170 := dkg_X6_28.2.2.2.2.2.1
def dX6_setBy_171 := dkg_X6_28.2.2.2.2.2.2.1
def dX6_setBy_172 := dkg_X6_28.2.2.2.2.2.2.2.1
def dX6_setBy_175 := dkg_X6_28.2.2.2.2.2.2.2.2.1
def dX6_setBy_176 := dkg_X6_28.2.2.2.2.2.2.2.2.2.1
theorem dkg_X6_29 : dkp cX6_setBy [(179, .iconst 0, 1), (180, .istore_n 3, 1), (181, .iload 5, 2), (183, .iconst 1, 1), (184, .iadd, 1), (185, .istore 4, 2), (187, .iinc 5 1, 3), (190, .goto (-163), 3), (193, .aload_n 0, 1), (194, .getfield 36, 3)] := dkf (by decide +kernel)
def dX6_setBy_179 := dkg_X6_29.1
def dX6_setBy_180 := dkg_X6_29.2.1
def dX6_setBy_181 := dkg_X6_29.2.2.1
def dX6_setBy_183 := dkg_X6_29.2.2.2.1
def dX6_setBy_184 := dkg_X6_29.2.2.2.2.1
def dX6_setBy_185 := dkg_X6_29.2.2.2.2.2.1
def dX6_setBy_187 := dkg_X6_29.2.2.2.2.2.2.1
def dX6_setBy_190 := dkg_X6_29.2.2.2.2.2.2.2.1
def dX6_setBy_193 := dkg_X6_29.2.2.2.2.2.2.2.2.1
def dX6_setBy_194 := dkg_X6_29.2.2.2.2.2.2.2.2.2.1
theorem dkg_X6_30 : dkp cX6_setBy [(197, .sipush 200, 3), (200, .if_icmp .le 8, 3), (203, .bipush 6, 2), (205, .goto 4, 3), (208, .iconst 0, 1), (209, .ireturn, 1)] := dkf (by decide +kernel)
def dX6_setBy_197 := dkg_X6_30.1
def dX6_setBy_200 := dkg_X6_30.2.1
def dX6_setBy_203 := dkg_X6_30.2.2.1
def dX6_setBy_205 := dkg_X6_30.2.2.2.1
def dX6_setBy_208 := dkg_X6_30.2.2.2.2.1
def dX6_setBy_209 := dkg_X6_30.2.2.2.2.2.1
theorem dkg_X6_31 : dkp cX6_setTurn [(0, .aload_n 1, 1), (1, .ifnonnull 11, 3), (4, .aload_n 0, 1), (5, .iload_n 2, 1), (6, .putfield 42, 3), (9, .bipush 7, 2), (11, .ireturn, 1), (12, .aload_n 0, 1), (13, .aload_n 1, 1), (14, .invokevirtual 86, 3)] := dkf (by decide +kernel)
def dX6_setTurn_0 := dkg_X6_31.1
def dX6_setTurn_1 := dkg_X6_31.2.1
def dX6_setTurn_4 := dkg_X6_31.2.2.1
def dX6_setTurn_5 := dkg_X6_31.2.2.2.1
def dX6_setTurn_6 := dkg_X6_31.2.2.2.2.1
def dX6_setTurn_9 := dkg_X6_31.2.2.2.2.2.1
def dX6_setTurn_11 := dkg_X6_31.2.2.2.2.2.2.1
def dX6_setTurn_12 := dkg_X6_31.2.2.2.2.2.2.2.1
def dX6_setTurn_13 := dkg_X6_31.2.2.2.2.2.2.2.2.1
def dX6_setTurn_14 := dkg_X6_31.2.2.2.2.2.2.2.2.2.1
theorem dkg_X6_32 : dkp cX6_setTurn [(17, .iconst 0, 1), (18, .ireturn, 1)] := dkf (by decide +kernel)
def dX6_setTurn_17 := dkg_X6_32.1
def dX6_setTurn_18 := dkg_X6_32.2.1
theorem dkg_X6_33 : dkp cX6_setPart [(0, .aload_n 1, 1), (1, .ifnonnull 5, 3), (4, .iconst 0, 1), (5, .ireturn, 1), (6, .aload_n 0, 1), (7, .iload_n 2, 1), (8, .putfield 45, 3), (11, .aload_n 0, 1), (12, .iload_n 3, 1), (13, .putfield 48, 3)] := dkf (by decide +kernel)
def dX6_setPart_0 := dkg_X6_33.1
def dX6_setPart_1 := dkg_X6_33.2.1
def dX6_setPart_4 := dkg_X6_33.2.2.1
def dX6_setPart_5 := dkg_X6_33.2.2.2.1
def dX6_setPart_6 := dkg_X6_33.2.2.2.2.1
def dX6_setPart_7 := dkg_X6_33.2.2.2.2.2.1
def dX6_setPart_8 := dkg_X6_33.2.2.2.2.2.2.1
def dX6_setPart_11 := dkg_X6_33.2.2.2.2.2.2.2.1
def dX6_setPart_12 := dkg_X6_33.2.2.2.2.2.2.2.2.1
def dX6_setPart_13 := dkg_X6_33.2.2.2.2.2.2.2.2.2.1
theorem dkg_X6_34 : dkp cX6_setPart [(16, .aload_n 1, 1), (17, .getfield 62, 3), (20, .iconst 2, 1), (21, .if_icmp .gt 12, 3), (24, .aload_n 1, 1), (25, .getfield 78, 3), (28, .iconst 0, 1), (29, .aaload, 1), (30, .goto 4, 3), (33, .aconst_null, 1)] := dkf (by decide +kernel)
def dX6_setPart_16 := dkg_X6_34.1
def dX6_setPart_17 := dkg_X6_34.2.1
def dX6_setPart_20 := dkg_X6_34.2.2.1
def dX6_setPart_21 := dkg_X6_34.2.2.2.1
def dX6_setPart_24 := dkg_X6_34.2.2.2.2.1
def dX6_setPart_25 := dkg_X6_34.2.2.2.2.2.1
def dX6_setPart_28 := dkg_X6_34.2.2.2.2.2.2.1
def dX6_setPart_29 := dkg_X6_34.2.2.2.2.2.2.2.1
def dX6_setPart_30 := dkg_X6_34.2.2.2.2.2.2.2.2.1
def dX6_setPart_33 := dkg_X6_34.2.2.2.2.2.2.2.2.2.1
theorem dkg_X6_35 : dkp cX6_setPart [(34, .astore 4, 2), (36, .iload_n 2, 1), (37, .istore 5, 2), (39, .iload 5, 2), (41, .iload_n 3, 1), (42, .if_icmp .ge 137, 3), (45, .aload_n 0, 1), (46, .getfield 9, 3), (49, .iload 5, 2), (51, .iaload, 1)] := dkf (by decide +kernel)
def dX6_setPart_34 := dkg_X6_35.1
def dX6_setPart_36 := dkg_X6_35.2.1
def dX6_setPart_37 := dkg_X6_35.2.2.1
def dX6_setPart_39 := dkg_X6_35.2.2.2.1
def dX6_setPart_41 := dkg_X6_35.2.2.2.2.1
def dX6_setPart_42 := dkg_X6_35.2.2.2.2.2.1
def dX6_setPart_45 := dkg_X6_35.2.2.2.2.2.2.1
def dX6_setPart_46 := dkg_X6_35.2.2.2.2.2.2.2.1
def dX6_setPart_49 := dkg_X6_35.2.2.2.2.2.2.2.2.1
def dX6_setPart_51 := dkg_X6_35.2.2.2.2.2.2.2.2.2.1
theorem dkg_X6_36 : dkp cX6_setPart [(52, .istore 6, 2), (54, .aload_n 0, 1), (55, .aload_n 1, 1), (56, .iload 5, 2), (58, .invokevirtual 90, 3), (61, .astore 7, 2), (63, .aload_n 0, 1), (64, .aload_n 1, 1), (65, .iload 5, 2), (67, .iload 6, 2)] := dkf (by decide +kernel)
def dX6_setPart_52 := dkg_X6_36.1
def dX6_setPart_54 := dkg_X6_36.2.1
def dX6_setPart_55 := dkg_X6_36.2.2.1
def dX6_setPart_56 := dkg_X6_36.2.2.2.1
def dX6_setPart_58 := dkg_X6_36.2.2.2.2.1
def dX6_setPart_61 := dkg_X6_36.2.2.2.2.2.1
def dX6_setPart_63 := dkg_X6_36.2.2.2.2.2.2.1
def dX6_setPart_64 := dkg_X6_36.2.2.2.2.2.2.2.1
def dX6_setPart_65 := dkg_X6_36.2.2.2.2.2.2.2.2.1
def dX6_setPart_67 := dkg_X6_36.2.2.2.2.2.2.2.2.2.1
theorem dkg_X6_37 : dkp cX6_setPart [(69, .invokevirtual 94, 3), (72, .astore 8, 2), (74, .aload 8, 2), (76, .ifnonnull 34, 3), (79, .aload 4, 2), (81, .ifnull 29, 3), (84, .iload 6, 2), (86, .invokestatic 98, 3), (89, .ifCond .eq 21, 3), (92, .aload 4, 2)] := dkf (by decide +kernel)
def dX6_setPart_69 := dkg_X6_37.1
def dX6_setPart_72 := dkg_X6_37.2.1
def dX6_setPart_74 := dkg_X6_37.2.2.1
def dX6_setPart_76 := dkg_X6_37.2.2.2.1
def dX6_setPart_79 := dkg_X6_37.2.2.2.2.1
def dX6_setPart_81 := dkg_X6_37.2.2.2.2.2.1
def dX6_setPart_84 := dkg_X6_37.2.2.2.2.2.2.1
def dX6_setPart_86 := dkg_X6_37.2.2.2.2.2.2.2.1
def dX6_setPart_89 := dkg_X6_37.2.2.2.2.2.2.2.2.1
def dX6_setPart_92 := dkg_X6_37.2.2.2.2.2.2.2.2.2.1
theorem dkg_X6_38 : dkp cX6_setPart [(94, .astore 7, 2), (96, .aload_n 0, 1), (97, .aload_n 1, 1), (98, .iload 5, 2), (100, .iload 6, 2), (102, .bipush 32, 2), (104, .iadd, 1), (105, .invokevirtual 94, 3), (108, .astore 8, 2), (110, .aload 8, 2)] := dkf (by decide +kernel)
def dX6_setPart_94 := dkg_X6_38.1
def dX6_setPart_96 := dkg_X6_38.2.1
def dX6_setPart_97 := dkg_X6_38.2.2.1
def dX6_setPart_98 := dkg_X6_38.2.2.2.1
def dX6_setPart_100 := dkg_X6_38.2.2.2.2.1
def dX6_setPart_102 := dkg_X6_38.2.2.2.2.2.1
def dX6_setPart_104 := dkg_X6_38.2.2.2.2.2.2.1
def dX6_setPart_105 := dkg_X6_38.2.2.2.2.2.2.2.1
def dX6_setPart_108 := dkg_X6_38.2.2.2.2.2.2.2.2.1
def dX6_setPart_110 := dkg_X6_38.2.2.2.2.2.2.2.2.2.1
theorem dkg_X6_39 : dkp cX6_setPart [(112, .ifnonnull 12, 3), (115, .aload_n 0, 1), (116, .iload 5, 2), (118, .putfield 42, 3), (121, .bipush 7, 2), (123, .ireturn, 1), (124, .aload_n 0, 1), (125, .iload 5, 2), (127, .aload 8, 2), (129, .getfield 102, 3)] := dkf (by decide +kernel)
def dX6_setPart_112 := dkg_X6_39.1
def dX6_setPart_115 := dkg_X6_39.2.1
def dX6_setPart_116 := dkg_X6_39.2.2.1
def dX6_setPart_118 := dkg_X6_39.2.2.2.1
def dX6_setPart_121 := dkg_X6_39.2.2.2.2.1
def dX6_setPart_123 := dkg_X6_39.2.2.2.2.2.1
def dX6_setPart_124 := dkg_X6_39.2.2.2.2.2.2.1
def dX6_setPart_125 := dkg_X6_39.2.2.2.2.2.2.2.1
def dX6_setPart_127 := dkg_X6_39.2.2.2.2.2.2.2.2.1
def dX6_setPart_129 := dkg_X6_39.2.2.2.2.2.2.2.2.2.1
theorem dkg_X6_40 : dkp cX6_setPart [(132, .arraylength, 1), (133, .invokevirtual 105, 3), (136, .aload_n 0, 1), (137, .aload 7, 2), (139, .invokevirtual 86, 3), (142, .aload_n 0, 1), (143, .aload 8, 2), (145, .invokevirtual 86, 3), (148, .aload_n 0, 1), (149, .getfield 36, 3)] := dkf (by decide +kernel)
def dX6_setPart_132 := dkg_X6_40.1
def dX6_setPart_133 := dkg_X6_40.2.1
def dX6_setPart_136 := dkg_X6_40.2.2.1
def dX6_setPart_137 := dkg_X6_40.2.2.2.1
def dX6_setPart_139 := dkg_X6_40.2.2.2.2.1
def dX6_setPart_142 := dkg_X6_40.2.2.2.2.2.1
def dX6_setPart_143 := dkg_X6_40.2.2.2.2.2.2.1
def dX6_setPart_145 := dkg_X6_40.2.2.2.2.2.2.2.1
def dX6_setPart_148 := dkg_X6_40.2.2.2.2.2.2.2.2.1
def dX6_setPart_149 := dkg_X6_40.2.2.2.2.2.2.2.2.2.1
theorem dkg_X6_41 : dkp cX6_setPart [(152, .sipush 200, 3), (155, .if_icmp .le 6, 3), (158, .bipush 6, 2), (160, .ireturn, 1), (161, .iload 5, 2), (163, .iconst 1, 1), (164, .aload 8, 2), (166, .getfield 102, 3), (169, .arraylength, 1), (170, .invokestatic 109, 3)] := dkf (by decide +kernel)
def dX6_setPart_152 := dkg_X6_41.1
def dX6_setPart_155 := dkg_X6_41.2.1
def dX6_setPart_158 := dkg_X6_41.2.2.1
def dX6_setPart_160 := dkg_X6_41.2.2.2.1
def dX6_setPart_161 := dkg_X6_41.2.2.2.2.1
def dX6_setPart_163 := dkg_X6_41.2.2.2.2.2.1
def dX6_setPart_164 := dkg_X6_41.2.2.2.2.2.2.1
def dX6_setPart_166 := dkg_X6_41.2.2.2.2.2.2.2.1
def dX6_setPart_169 := dkg_X6_41.2.2.2.2.2.2.2.2.1
def dX6_setPart_170 := dkg_X6_41.2.2.2.2.2.2.2.2.2.1
theorem dkg_X6_42 : dkp cX6_setPart [(173, .iadd, 1), (174, .istore 5, 2), (176, .goto (-137), 3), (179, .iconst 0, 1), (180, .ireturn, 1)] := dkf (by decide +kernel)
def dX6_setPart_173 := dkg_X6_42.1
def dX6_setPart_174 := dkg_X6_42.2.1
def dX6_setPart_176 := dkg_X6_42.2.2.1
def dX6_setPart_179 := dkg_X6_42.2.2.2.1
def dX6_setPart_180 := dkg_X6_42.2.2.2.2.1
theorem dkg_X6_43 : dkp cX6_markStart [(0, .iload_n 1, 1), (1, .istore_n 3, 1), (2, .iload_n 3, 1), (3, .iload_n 1, 1), (4, .iload_n 2, 1), (5, .iadd, 1), (6, .if_icmp .ge 35, 3), (9, .iload_n 3, 1), (10, .sipush 500, 3), (13, .if_icmp .ge 28, 3)] := dkf (by decide +kernel)
def dX6_markStart_0 := dkg_X6_43.1
def dX6_markStart_1 := dkg_X6_43.2.1
def dX6_markStart_2 := dkg_X6_43.2.2.1
def dX6_markStart_3 := dkg_X6_43.2.2.2.1
def dX6_markStart_4 := dkg_X6_43.2.2.2.2.1
def dX6_markStart_5 := dkg_X6_43.2.2.2.2.2.1
def dX6_markStart_6 := dkg_X6_43.2.2.2.2.2.2.1
def dX6_markStart_9 := dkg_X6_43.2.2.2.2.2.2.2.1
def dX6_markStart_10 := dkg_X6_43.2.2.2.2.2.2.2.2.1
def dX6_markStart_13 := dkg_X6_43.2.2.2.2.2.2.2.2.2.1
theorem dkg_X6_44 : dkp cX6_markStart [(16, .aload_n 0, 1), (17, .getfield 22, 3), (20, .iload_n 3, 1), (21, .iload_n 3, 1), (22, .iload_n 1, 1), (23, .if_icmp .ne 10, 3), (26, .aload_n 0, 1), (27, .getfield 36, 3), (30, .goto 4, 3), (33, .iconst (-1), 1)] := dkf (by decide +kernel)
def dX6_markStart_16 := dkg_X6_44.1
def dX6_markStart_17 := dkg_X6_44.2.1
def dX6_markStart_20 := dkg_X6_44.2.2.1
def dX6_markStart_21 := dkg_X6_44.2.2.2.1
def dX6_markStart_22 := dkg_X6_44.2.2.2.2.1
def dX6_markStart_23 := dkg_X6_44.2.2.2.2.2.1
def dX6_markStart_26 := dkg_X6_44.2.2.2.2.2.2.1
def dX6_markStart_27 := dkg_X6_44.2.2.2.2.2.2.2.1
def dX6_markStart_30 := dkg_X6_44.2.2.2.2.2.2.2.2.1
def dX6_markStart_33 := dkg_X6_44.2.2.2.2.2.2.2.2.2.1
theorem dkg_X6_45 : dkp cX6_markStart [(34, .iastore, 1), (35, .iinc 3 1, 3), (38, .goto (-36), 3), (41, .return_, 1)] := dkf (by decide +kernel)
def dX6_markStart_34 := dkg_X6_45.1
def dX6_markStart_35 := dkg_X6_45.2.1
def dX6_markStart_38 := dkg_X6_45.2.2.1
def dX6_markStart_41 := dkg_X6_45.2.2.2.1
theorem dkg_X6_46 : dkp cX6_numberAhead [(0, .aload_n 0, 1), (1, .getfield 9, 3), (4, .iload_n 2, 1), (5, .iaload, 1), (6, .invokestatic 115, 3), (9, .ifCond .eq 29, 3), (12, .iload_n 2, 1), (13, .aload_n 0, 1), (14, .getfield 45, 3), (17, .if_icmp .le 17, 3)] := dkf (by decide +kernel)
def dX6_numberAhead_0 := dkg_X6_46.1
def dX6_numberAhead_1 := dkg_X6_46.2.1
def dX6_numberAhead_4 := dkg_X6_46.2.2.1
def dX6_numberAhead_5 := dkg_X6_46.2.2.2.1
def dX6_numberAhead_6 := dkg_X6_46.2.2.2.2.1
def dX6_numberAhead_9 := dkg_X6_46.2.2.2.2.2.1
def dX6_numberAhead_12 := dkg_X6_46.2.2.2.2.2.2.1
def dX6_numberAhead_13 := dkg_X6_46.2.2.2.2.2.2.2.1
def dX6_numberAhead_14 := dkg_X6_46.2.2.2.2.2.2.2.2.1
def dX6_numberAhead_17 := dkg_X6_46.2.2.2.2.2.2.2.2.2.1
theorem dkg_X6_47 : dkp cX6_numberAhead [(20, .aload_n 0, 1), (21, .getfield 9, 3), (24, .iload_n 2, 1), (25, .iconst 1, 1), (26, .isub, 1), (27, .iaload, 1), (28, .invokestatic 115, 3), (31, .ifCond .ne 7, 3), (34, .iconst 1, 1), (35, .goto 4, 3)] := dkf (by decide +kernel)
def dX6_numberAhead_20 := dkg_X6_47.1
def dX6_numberAhead_21 := dkg_X6_47.2.1
def dX6_numberAhead_24 := dkg_X6_47.2.2.1
def dX6_numberAhead_25 := dkg_X6_47.2.2.2.1
def dX6_numberAhead_26 := dkg_X6_47.2.2.2.2.1
def dX6_numberAhead_27 := dkg_X6_47.2.2.2.2.2.1
def dX6_numberAhead_28 := dkg_X6_47.2.2.2.2.2.2.1
def dX6_numberAhead_31 := dkg_X6_47.2.2.2.2.2.2.2.1
def dX6_numberAhead_34 := dkg_X6_47.2.2.2.2.2.2.2.2.1
def dX6_numberAhead_35 := dkg_X6_47.2.2.2.2.2.2.2.2.2.1
theorem dkg_X6_48 : dkp cX6_numberAhead [(38, .iconst 0, 1), (39, .istore_n 3, 1), (40, .aload_n 1, 1), (41, .getfield 62, 3), (44, .iconst 2, 1), (45, .if_icmp .ne 16, 3), (48, .iload_n 3, 1), (49, .ifCond .eq 12, 3), (52, .aload_n 1, 1), (53, .getfield 78, 3)] := dkf (by decide +kernel)
def dX6_numberAhead_38 := dkg_X6_48.1
def dX6_numberAhead_39 := dkg_X6_48.2.1
def dX6_numberAhead_40 := dkg_X6_48.2.2.1
def dX6_numberAhead_41 := dkg_X6_48.2.2.2.1
def dX6_numberAhead_44 := dkg_X6_48.2.2.2.2.1
def dX6_numberAhead_45 := dkg_X6_48.2.2.2.2.2.1
def dX6_numberAhead_48 := dkg_X6_48.2.2.2.2.2.2.1
def dX6_numberAhead_49 := dkg_X6_48.2.2.2.2.2.2.2.1
def dX6_numberAhead_52 := dkg_X6_48.2.2.2.2.2.2.2.2.1
def dX6_numberAhead_53 := dkg_X6_48.2.2.2.2.2.2.2.2.2.1
theorem dkg_X6_49 : dkp cX6_numberAhead [(56, .iconst 1, 1), (57, .aaload, 1), (58, .goto 4, 3), (61, .aconst_null, 1), (62, .areturn, 1)] := dkf (by decide +kernel)
def dX6_numberAhead_56 := dkg_X6_49.1
def dX6_numberAhead_57 := dkg_X6_49.2.1
def dX6_numberAhead_58 := dkg_X6_49.2.2.1
def dX6_numberAhead_61 := dkg_X6_49.2.2.2.1
def dX6_numberAhead_62 := dkg_X6_49.2.2.2.2.1
theorem dkg_X6_50 : dkp cX6_push [(0, .aload_n 1, 1), (1, .ifnonnull 4, 3), (4, .return_, 1), (5, .iconst 0, 1), (6, .istore_n 2, 1), (7, .iload_n 2, 1), (8, .aload_n 1, 1), (9, .getfield 118, 3), (12, .arraylength, 1), (13, .if_icmp .ge 44, 3)] := dkf (by decide +kernel)
def dX6_push_0 := dkg_X6_50.1
def dX6_push_1 := dkg_X6_50.2.1
def dX6_push_4 := dkg_X6_50.2.2.1
def dX6_push_5 := dkg_X6_50.2.2.2.1
def dX6_push_6 := dkg_X6_50.2.2.2.2.1
def dX6_push_7 := dkg_X6_50.2.2.2.2.2.1
def dX6_push_8 := dkg_X6_50.2.2.2.2.2.2.1
def dX6_push_9 := dkg_X6_50.2.2.2.2.2.2.2.1
def dX6_push_12 := dkg_X6_50.2.2.2.2.2.2.2.2.1
def dX6_push_13 := dkg_X6_50.2.2.2.2.2.2.2.2.2.1
theorem dkg_X6_51 : dkp cX6_push [(16, .aload_n 0, 1), (17, .getfield 36, 3), (20, .sipush 200, 3), (23, .if_icmp .ge 18, 3), (26, .aload_n 0, 1), (27, .getfield 33, 3), (30, .aload_n 0, 1), (31, .getfield 36, 3), (34, .aload_n 1, 1), (35, .getfield 118, 3)] := dkf (by decide +kernel)
def dX6_push_16 := dkg_X6_51.1
def dX6_push_17 := dkg_X6_51.2.1
def dX6_push_20 := dkg_X6_51.2.2.1
def dX6_push_23 := dkg_X6_51.2.2.2.1
def dX6_push_26 := dkg_X6_51.2.2.2.2.1
def dX6_push_27 := dkg_X6_51.2.2.2.2.2.1
def dX6_push_30 := dkg_X6_51.2.2.2.2.2.2.1
def dX6_push_31 := dkg_X6_51.2.2.2.2.2.2.2.1
def dX6_push_34 := dkg_X6_51.2.2.2.2.2.2.2.2.1
def dX6_push_35 := dkg_X6_51.2.2.2.2.2.2.2.2.2.1
theorem dkg_X6_52 : dkp cX6_push [(38, .iload_n 2, 1), (39, .iaload, 1), (40, .iastore, 1), (41, .aload_n 0, 1), (42, .dup, 1), (43, .getfield 36, 3), (46, .iconst 1, 1), (47, .iadd, 1), (48, .putfield 36, 3), (51, .iinc 2 1, 3)] := dkf (by decide +kernel)
def dX6_push_38 := dkg_X6_52.1
def dX6_push_39 := dkg_X6_52.2.1
def dX6_push_40 := dkg_X6_52.2.2.1
def dX6_push_41 := dkg_X6_52.2.2.2.1
def dX6_push_42 := dkg_X6_52.2.2.2.2.1
def dX6_push_43 := dkg_X6_52.2.2.2.2.2.1
def dX6_push_46 := dkg_X6_52.2.2.2.2.2.2.1
def dX6_push_47 := dkg_X6_52.2.2.2.2.2.2.2.1
def dX6_push_48 := dkg_X6_52.2.2.2.2.2.2.2.2.1
def dX6_push_51 := dkg_X6_52.2.2.2.2.2.2.2.2.2.1
theorem dkg_X6_53 : dkp cX6_push [(54, .goto (-47), 3), (57, .return_, 1)] := dkf (by decide +kernel)
def dX6_push_54 := dkg_X6_53.1
def dX6_push_57 := dkg_X6_53.2.1
theorem dkg_X6_54 : dkp cX6_find [(0, .aconst_null, 1), (1, .astore 4, 2), (3, .iload_n 3, 1), (4, .istore 5, 2), (6, .aload_n 1, 1), (7, .astore 6, 2), (9, .aload 6, 2), (11, .ifnull 135, 3), (14, .aload_n 0, 1), (15, .aload 6, 2)] := dkf (by decide +kernel)
def dX6_find_0 := dkg_X6_54.1
def dX6_find_1 := dkg_X6_54.2.1
def dX6_find_3 := dkg_X6_54.2.2.1
def dX6_find_4 := dkg_X6_54.2.2.2.1
def dX6_find_6 := dkg_X6_54.2.2.2.2.1
def dX6_find_7 := dkg_X6_54.2.2.2.2.2.1
def dX6_find_9 := dkg_X6_54.2.2.2.2.2.2.1
def dX6_find_11 := dkg_X6_54.2.2.2.2.2.2.2.1
def dX6_find_14 := dkg_X6_54.2.2.2.2.2.2.2.2.1
def dX6_find_15 := dkg_X6_54.2.2.2.2.2.2.2.2.2.1
theorem dkg_X6_55 : dkp cX6_find [(17, .getfield 62, 3), (20, .invokevirtual 119, 3), (23, .aload 6, 2), (25, .getfield 62, 3), (28, .ifCond .eq 12, 3), (31, .aload 6, 2), (33, .getfield 62, 3), (36, .iconst 4, 1), (37, .if_icmp .ne 15, 3), (40, .aload_n 0, 1)] := dkf (by decide +kernel)
def dX6_find_17 := dkg_X6_55.1
def dX6_find_20 := dkg_X6_55.2.1
def dX6_find_23 := dkg_X6_55.2.2.1
def dX6_find_25 := dkg_X6_55.2.2.2.1
def dX6_find_28 := dkg_X6_55.2.2.2.2.1
def dX6_find_31 := dkg_X6_55.2.2.2.2.2.1
def dX6_find_33 := dkg_X6_55.2.2.2.2.2.2.1
def dX6_find_36 := dkg_X6_55.2.2.2.2.2.2.2.1
def dX6_find_37 := dkg_X6_55.2.2.2.2.2.2.2.2.1
def dX6_find_40 := dkg_X6_55.2.2.2.2.2.2.2.2.2.1
theorem dkg_X6_56 : dkp cX6_find [(41, .aload 6, 2), (43, .iload_n 2, 1), (44, .iload 5, 2), (46, .aload 4, 2), (48, .invokevirtual 122, 3), (51, .areturn, 1), (52, .aload 6, 2), (54, .getfield 62, 3), (57, .iconst 2, 1), (58, .if_icmp .ne 14, 3)] := dkf (by decide +kernel)
def dX6_find_41 := dkg_X6_56.1
def dX6_find_43 := dkg_X6_56.2.1
def dX6_find_44 := dkg_X6_56.2.2.1
def dX6_find_46 := dkg_X6_56.2.2.2.1
def dX6_find_48 := dkg_X6_56.2.2.2.2.1
def dX6_find_51 := dkg_X6_56.2.2.2.2.2.1
def dX6_find_52 := dkg_X6_56.2.2.2.2.2.2.1
def dX6_find_54 := dkg_X6_56.2.2.2.2.2.2.2.1
def dX6_find_57 := dkg_X6_56.2.2.2.2.2.2.2.2.1
def dX6_find_58 := dkg_X6_56.2.2.2.2.2.2.2.2.2.1
theorem dkg_X6_57 : dkp cX6_find [(61, .iload 5, 2), (63, .invokestatic 115, 3), (66, .ifCond .ne 6, 3), (69, .goto 67, 3), (72, .aload 6, 2), (74, .getfield 62, 3), (77, .iconst 3, 1), (78, .if_icmp .ne 28, 3), (81, .aload_n 0, 1), (82, .iconst 1, 1)] := dkf (by decide +kernel)
def dX6_find_61 := dkg_X6_57.1
def dX6_find_63 := dkg_X6_57.2.1
def dX6_find_66 := dkg_X6_57.2.2.1
def dX6_find_69 := dkg_X6_57.2.2.2.1
def dX6_find_72 := dkg_X6_57.2.2.2.2.1
def dX6_find_74 := dkg_X6_57.2.2.2.2.2.1
def dX6_find_77 := dkg_X6_57.2.2.2.2.2.2.1
def dX6_find_78 := dkg_X6_57.2.2.2.2.2.2.2.1
def dX6_find_81 := dkg_X6_57.2.2.2.2.2.2.2.2.1
def dX6_find_82 := dkg_X6_57.2.2.2.2.2.2.2.2.2.1
theorem dkg_X6_58 : dkp cX6_find [(83, .invokevirtual 119, 3), (86, .iload 5, 2), (88, .invokestatic 98, 3), (91, .ifCond .eq 11, 3), (94, .iload 5, 2), (96, .bipush 32, 2), (98, .iadd, 1), (99, .goto 5, 3), (102, .iload 5, 2), (104, .istore 5, 2)] := dkf (by decide +kernel)
def dX6_find_83 := dkg_X6_58.1
def dX6_find_86 := dkg_X6_58.2.1
def dX6_find_88 := dkg_X6_58.2.2.1
def dX6_find_91 := dkg_X6_58.2.2.2.1
def dX6_find_94 := dkg_X6_58.2.2.2.2.1
def dX6_find_96 := dkg_X6_58.2.2.2.2.2.1
def dX6_find_98 := dkg_X6_58.2.2.2.2.2.2.1
def dX6_find_99 := dkg_X6_58.2.2.2.2.2.2.2.1
def dX6_find_102 := dkg_X6_58.2.2.2.2.2.2.2.2.1
def dX6_find_104 := dkg_X6_58.2.2.2.2.2.2.2.2.2.1
theorem dkg_X6_59 : dkp cX6_find [(106, .aload_n 0, 1), (107, .iconst 0, 1), (108, .invokevirtual 119, 3), (111, .aload_n 0, 1), (112, .aload 6, 2), (114, .iload_n 2, 1), (115, .iload 5, 2), (117, .aload 4, 2), (119, .invokevirtual 122, 3), (122, .astore 4, 2)] := dkf (by decide +kernel)
def dX6_find_106 := dkg_X6_59.1
def dX6_find_107 := dkg_X6_59.2.1
def dX6_find_108 := dkg_X6_59.2.2.1
def dX6_find_111 := dkg_X6_59.2.2.2.1
def dX6_find_112 := dkg_X6_59.2.2.2.2.1
def dX6_find_114 := dkg_X6_59.2.2.2.2.2.1
def dX6_find_115 := dkg_X6_59.2.2.2.2.2.2.1
def dX6_find_117 := dkg_X6_59.2.2.2.2.2.2.2.1
def dX6_find_119 := dkg_X6_59.2.2.2.2.2.2.2.2.1
def dX6_find_122 := dkg_X6_59.2.2.2.2.2.2.2.2.2.1
theorem dkg_X6_60 : dkp cX6_find [(124, .aload 6, 2), (126, .getfield 62, 3), (129, .iconst 2, 1), (130, .if_icmp .ne 6, 3), (133, .aload 4, 2), (135, .areturn, 1), (136, .aload 6, 2), (138, .getfield 67, 3), (141, .astore 6, 2), (143, .goto (-134), 3)] := dkf (by decide +kernel)
def dX6_find_124 := dkg_X6_60.1
def dX6_find_126 := dkg_X6_60.2.1
def dX6_find_129 := dkg_X6_60.2.2.1
def dX6_find_130 := dkg_X6_60.2.2.2.1
def dX6_find_133 := dkg_X6_60.2.2.2.2.1
def dX6_find_135 := dkg_X6_60.2.2.2.2.2.1
def dX6_find_136 := dkg_X6_60.2.2.2.2.2.2.1
def dX6_find_138 := dkg_X6_60.2.2.2.2.2.2.2.1
def dX6_find_141 := dkg_X6_60.2.2.2.2.2.2.2.2.1
def dX6_find_143 := dkg_X6_60.2.2.2.2.2.2.2.2.2.1
theorem dkg_X6_61 : dkp cX6_find [(146, .aload 4, 2), (148, .areturn, 1)] := dkf (by decide +kernel)
def dX6_find_146 := dkg_X6_61.1
def dX6_find_148 := dkg_X6_61.2.1
theorem dkg_X6_62 : dkp cX6_countFind [(0, .iload_n 1, 1), (1, .ifCond .lt 22, 3), (4, .iload_n 1, 1), (5, .aload_n 0, 1), (6, .getfield 39, 3), (9, .arraylength, 1), (10, .if_icmp .ge 13, 3), (13, .aload_n 0, 1), (14, .getfield 39, 3), (17, .iload_n 1, 1)] := dkf (by decide +kernel)
def dX6_countFind_0 := dkg_X6_62.1
def dX6_countFind_1 := dkg_X6_62.2.1
def dX6_countFind_4 := dkg_X6_62.2.2.1
def dX6_countFind_5 := dkg_X6_62.2.2.2.1
def dX6_countFind_6 := dkg_X6_62.2.2.2.2.1
def dX6_countFind_9 := dkg_X6_62.2.2.2.2.2.1
def dX6_countFind_10 := dkg_X6_62.2.2.2.2.2.2.1
def dX6_countFind_13 := dkg_X6_62.2.2.2.2.2.2.2.1
def dX6_countFind_14 := dkg_X6_62.2.2.2.2.2.2.2.2.1
def dX6_countFind_17 := dkg_X6_62.2.2.2.2.2.2.2.2.2.1
theorem dkg_X6_63 : dkp cX6_countFind [(18, .dup2, 1), (19, .iaload, 1), (20, .iconst 1, 1), (21, .iadd, 1), (22, .iastore, 1), (23, .return_, 1)] := dkf (by decide +kernel)
def dX6_countFind_18 := dkg_X6_63.1
def dX6_countFind_19 := dkg_X6_63.2.1
def dX6_countFind_20 := dkg_X6_63.2.2.1
def dX6_countFind_21 := dkg_X6_63.2.2.2.1
def dX6_countFind_22 := dkg_X6_63.2.2.2.2.1
def dX6_countFind_23 := dkg_X6_63.2.2.2.2.2.1
theorem dkg_X6_64 : dkp cX6_findOwn [(0, .aload 4, 2), (2, .astore 5, 2), (4, .aload 5, 2), (6, .ifnonnull 7, 3), (9, .iconst 0, 1), (10, .goto 9, 3), (13, .aload 5, 2), (15, .getfield 102, 3), (18, .arraylength, 1), (19, .istore 6, 2)] := dkf (by decide +kernel)
def dX6_findOwn_0 := dkg_X6_64.1
def dX6_findOwn_2 := dkg_X6_64.2.1
def dX6_findOwn_4 := dkg_X6_64.2.2.1
def dX6_findOwn_6 := dkg_X6_64.2.2.2.1
def dX6_findOwn_9 := dkg_X6_64.2.2.2.2.1
def dX6_findOwn_10 := dkg_X6_64.2.2.2.2.2.1
def dX6_findOwn_13 := dkg_X6_64.2.2.2.2.2.2.1
def dX6_findOwn_15 := dkg_X6_64.2.2.2.2.2.2.2.1
def dX6_findOwn_18 := dkg_X6_64.2.2.2.2.2.2.2.2.1
def dX6_findOwn_19 := dkg_X6_64.2.2.2.2.2.2.2.2.2.1
theorem dkg_X6_65 : dkp cX6_findOwn [(21, .aload_n 1, 1), (22, .getfield 126, 3), (25, .getfield 51, 3), (28, .aload_n 1, 1), (29, .getfield 130, 3), (32, .invokevirtual 134, 3), (35, .invokestatic 139, 3), (38, .istore 7, 2), (40, .aload_n 1, 1), (41, .getfield 126, 3)] := dkf (by decide +kernel)
def dX6_findOwn_21 := dkg_X6_65.1
def dX6_findOwn_22 := dkg_X6_65.2.1
def dX6_findOwn_25 := dkg_X6_65.2.2.1
def dX6_findOwn_28 := dkg_X6_65.2.2.2.1
def dX6_findOwn_29 := dkg_X6_65.2.2.2.2.1
def dX6_findOwn_32 := dkg_X6_65.2.2.2.2.2.1
def dX6_findOwn_35 := dkg_X6_65.2.2.2.2.2.2.1
def dX6_findOwn_38 := dkg_X6_65.2.2.2.2.2.2.2.1
def dX6_findOwn_40 := dkg_X6_65.2.2.2.2.2.2.2.2.1
def dX6_findOwn_41 := dkg_X6_65.2.2.2.2.2.2.2.2.2.1
theorem dkg_X6_66 : dkp cX6_findOwn [(44, .getfield 142, 3), (47, .astore 8, 2), (49, .iconst 0, 1), (50, .istore 9, 2), (52, .iload 9, 2), (54, .iload 7, 2), (56, .if_icmp .ge 68, 3), (59, .aload 8, 2), (61, .iload 9, 2), (63, .iaload, 1)] := dkf (by decide +kernel)
def dX6_findOwn_44 := dkg_X6_66.1
def dX6_findOwn_47 := dkg_X6_66.2.1
def dX6_findOwn_49 := dkg_X6_66.2.2.1
def dX6_findOwn_50 := dkg_X6_66.2.2.2.1
def dX6_findOwn_52 := dkg_X6_66.2.2.2.2.1
def dX6_findOwn_54 := dkg_X6_66.2.2.2.2.2.1
def dX6_findOwn_56 := dkg_X6_66.2.2.2.2.2.2.1
def dX6_findOwn_59 := dkg_X6_66.2.2.2.2.2.2.2.1
def dX6_findOwn_61 := dkg_X6_66.2.2.2.2.2.2.2.2.1
def dX6_findOwn_63 := dkg_X6_66.2.2.2.2.2.2.2.2.2.1
theorem dkg_X6_67 : dkp cX6_findOwn [(64, .iload_n 3, 1), (65, .if_icmp .eq 6, 3), (68, .goto 50, 3), (71, .aload_n 1, 1), (72, .getfield 130, 3), (75, .iload 9, 2), (77, .invokevirtual 145, 3), (80, .checkcast 103, 3), (83, .astore 10, 2), (85, .aload 10, 2)] := dkf (by decide +kernel)
def dX6_findOwn_64 := dkg_X6_67.1
def dX6_findOwn_65 := dkg_X6_67.2.1
def dX6_findOwn_68 := dkg_X6_67.2.2.1
def dX6_findOwn_71 := dkg_X6_67.2.2.2.1
def dX6_findOwn_72 := dkg_X6_67.2.2.2.2.1
def dX6_findOwn_75 := dkg_X6_67.2.2.2.2.2.1
def dX6_findOwn_77 := dkg_X6_67.2.2.2.2.2.2.1
def dX6_findOwn_80 := dkg_X6_67.2.2.2.2.2.2.2.1
def dX6_findOwn_83 := dkg_X6_67.2.2.2.2.2.2.2.2.1
def dX6_findOwn_85 := dkg_X6_67.2.2.2.2.2.2.2.2.2.1
theorem dkg_X6_68 : dkp cX6_findOwn [(87, .getfield 102, 3), (90, .arraylength, 1), (91, .iload 6, 2), (93, .if_icmp .le 25, 3), (96, .aload_n 0, 1), (97, .aload 10, 2), (99, .iload_n 2, 1), (100, .invokevirtual 149, 3), (103, .ifCond .eq 15, 3), (106, .aload 10, 2)] := dkf (by decide +kernel)
def dX6_findOwn_87 := dkg_X6_68.1
def dX6_findOwn_90 := dkg_X6_68.2.1
def dX6_findOwn_91 := dkg_X6_68.2.2.1
def dX6_findOwn_93 := dkg_X6_68.2.2.2.1
def dX6_findOwn_96 := dkg_X6_68.2.2.2.2.1
def dX6_findOwn_97 := dkg_X6_68.2.2.2.2.2.1
def dX6_findOwn_99 := dkg_X6_68.2.2.2.2.2.2.1
def dX6_findOwn_100 := dkg_X6_68.2.2.2.2.2.2.2.1
def dX6_findOwn_103 := dkg_X6_68.2.2.2.2.2.2.2.2.1
def dX6_findOwn_106 := dkg_X6_68.2.2.2.2.2.2.2.2.2.1
theorem dkg_X6_69 : dkp cX6_findOwn [(108, .astore 5, 2), (110, .aload 10, 2), (112, .getfield 102, 3), (115, .arraylength, 1), (116, .istore 6, 2), (118, .iinc 9 1, 3), (121, .goto (-69), 3), (124, .aload 5, 2), (126, .areturn, 1)] := dkf (by decide +kernel)
def dX6_findOwn_108 := dkg_X6_69.1
def dX6_findOwn_110 := dkg_X6_69.2.1
def dX6_findOwn_112 := dkg_X6_69.2.2.1
def dX6_findOwn_115 := dkg_X6_69.2.2.2.1
def dX6_findOwn_116 := dkg_X6_69.2.2.2.2.1
def dX6_findOwn_118 := dkg_X6_69.2.2.2.2.2.1
def dX6_findOwn_121 := dkg_X6_69.2.2.2.2.2.2.1
def dX6_findOwn_124 := dkg_X6_69.2.2.2.2.2.2.2.1
def dX6_findOwn_126 := dkg_X6_69.2.2.2.2.2.2.2.2.1
theorem dkg_X6_70 : dkp cX6_fits [(0, .iload_n 2, 1), (1, .aload_n 1, 1), (2, .getfield 102, 3), (5, .arraylength, 1), (6, .iadd, 1), (7, .istore_n 3, 1), (8, .iload_n 3, 1), (9, .aload_n 0, 1), (10, .getfield 48, 3), (13, .if_icmp .le 5, 3)] := dkf (by decide +kernel)
def dX6_fits_0 := dkg_X6_70.1
def dX6_fits_1 := dkg_X6_70.2.1
def dX6_fits_2 := dkg_X6_70.2.2.1
def dX6_fits_5 := dkg_X6_70.2.2.2.1
def dX6_fits_6 := dkg_X6_70.2.2.2.2.1
def dX6_fits_7 := dkg_X6_70.2.2.2.2.2.1
def dX6_fits_8 := dkg_X6_70.2.2.2.2.2.2.1
def dX6_fits_9 := dkg_X6_70.2.2.2.2.2.2.2.1
def dX6_fits_10 := dkg_X6_70.2.2.2.2.2.2.2.2.1
def dX6_fits_13 := dkg_X6_70.2.2.2.2.2.2.2.2.2.1
theorem dkg_X6_71 : dkp cX6_fits [(16, .iconst 0, 1), (17, .ireturn, 1), (18, .iconst 1, 1), (19, .istore 4, 2), (21, .iload 4, 2), (23, .aload_n 1, 1), (24, .getfield 102, 3), (27, .arraylength, 1), (28, .if_icmp .ge 30, 3), (31, .aload_n 1, 1)] := dkf (by decide +kernel)
def dX6_fits_16 := dkg_X6_71.1
def dX6_fits_17 := dkg_X6_71.2.1
def dX6_fits_18 := dkg_X6_71.2.2.1
def dX6_fits_19 := dkg_X6_71.2.2.2.1
def dX6_fits_21 := dkg_X6_71.2.2.2.2.1
def dX6_fits_23 := dkg_X6_71.2.2.2.2.2.1
def dX6_fits_24 := dkg_X6_71.2.2.2.2.2.2.1
def dX6_fits_27 := dkg_X6_71.2.2.2.2.2.2.2.1
def dX6_fits_28 := dkg_X6_71.2.2.2.2.2.2.2.2.1
def dX6_fits_31 := dkg_X6_71.2.2.2.2.2.2.2.2.2.1
theorem dkg_X6_72 : dkp cX6_fits [(32, .getfield 102, 3), (35, .iload 4, 2), (37, .iaload, 1), (38, .aload_n 0, 1), (39, .getfield 9, 3), (42, .iload_n 2, 1), (43, .iload 4, 2), (45, .iadd, 1), (46, .iaload, 1), (47, .if_icmp .eq 5, 3)] := dkf (by decide +kernel)
def dX6_fits_32 := dkg_X6_72.1
def dX6_fits_35 := dkg_X6_72.2.1
def dX6_fits_37 := dkg_X6_72.2.2.1
def dX6_fits_38 := dkg_X6_72.2.2.2.1
def dX6_fits_39 := dkg_X6_72.2.2.2.2.1
def dX6_fits_42 := dkg_X6_72.2.2.2.2.2.1
def dX6_fits_43 := dkg_X6_72.2.2.2.2.2.2.1
def dX6_fits_45 := dkg_X6_72.2.2.2.2.2.2.2.1
def dX6_fits_46 := dkg_X6_72.2.2.2.2.2.2.2.2.1
def dX6_fits_47 := dkg_X6_72.2.2.2.2.2.2.2.2.2.1
theorem dkg_X6_73 : dkp cX6_fits [(50, .iconst 0, 1), (51, .ireturn, 1), (52, .iinc 4 1, 3), (55, .goto (-34), 3), (58, .iload_n 2, 1), (59, .aload_n 0, 1), (60, .getfield 45, 3), (63, .if_icmp .ne 7, 3), (66, .iconst 1, 1), (67, .goto 4, 3)] := dkf (by decide +kernel)
def dX6_fits_50 := dkg_X6_73.1
def dX6_fits_51 := dkg_X6_73.2.1
def dX6_fits_52 := dkg_X6_73.2.2.1
def dX6_fits_55 := dkg_X6_73.2.2.2.1
def dX6_fits_58 := dkg_X6_73.2.2.2.2.1
def dX6_fits_59 := dkg_X6_73.2.2.2.2.2.1
def dX6_fits_60 := dkg_X6_73.2.2.2.2.2.2.1
def dX6_fits_63 := dkg_X6_73.2.2.2.2.2.2.2.1
def dX6_fits_66 := dkg_X6_73.2.2.2.2.2.2.2.2.1
def dX6_fits_67 := dkg_X6_73.2.2.2.2.2.2.2.2.2.1
theorem dkg_X6_74 : dkp cX6_fits [(70, .iconst 0, 1), (71, .istore 4, 2), (73, .iload_n 3, 1), (74, .aload_n 0, 1), (75, .getfield 48, 3), (78, .if_icmp .ne 7, 3), (81, .iconst 1, 1), (82, .goto 4, 3), (85, .iconst 0, 1), (86, .istore 5, 2)] := dkf (by decide +kernel)
def dX6_fits_70 := dkg_X6_74.1
def dX6_fits_71 := dkg_X6_74.2.1
def dX6_fits_73 := dkg_X6_74.2.2.1
def dX6_fits_74 := dkg_X6_74.2.2.2.1
def dX6_fits_75 := dkg_X6_74.2.2.2.2.1
def dX6_fits_78 := dkg_X6_74.2.2.2.2.2.1
def dX6_fits_81 := dkg_X6_74.2.2.2.2.2.2.1
def dX6_fits_82 := dkg_X6_74.2.2.2.2.2.2.2.1
def dX6_fits_85 := dkg_X6_74.2.2.2.2.2.2.2.2.1
def dX6_fits_86 := dkg_X6_74.2.2.2.2.2.2.2.2.2.1
theorem dkg_X6_75 : dkp cX6_fits [(88, .aload_n 1, 1), (89, .getfield 153, 3), (128, .iload 4, 2), (130, .ireturn, 1), (131, .iload 4, 2), (133, .ifCond .ne 12, 3), (136, .iload 5, 2), (138, .ifCond .ne 7, 3), (141, .iconst 1, 1), (142, .goto 4, 3)] := dkf (by decide +kernel)
def dX6_fits_88 := dkg_X6_75.1
def dX6_fits_89 := dkg_X6_75.2.1
def dX6_fits_128 := dkg_X6_75.2.2.1
def dX6_fits_130 := dkg_X6_75.2.2.2.1
def dX6_fits_131 := dkg_X6_75.2.2.2.2.1
def dX6_fits_133 := dkg_X6_75.2.2.2.2.2.1
def dX6_fits_136 := dkg_X6_75.2.2.2.2.2.2.1
def dX6_fits_138 := dkg_X6_75.2.2.2.2.2.2.2.1
def dX6_fits_141 := dkg_X6_75.2.2.2.2.2.2.2.2.1
def dX6_fits_142 := dkg_X6_75.2.2.2.2.2.2.2.2.2.1
theorem dkg_X6_76 : dkp cX6_fits [(145, .iconst 0, 1), (146, .ireturn, 1), (147, .iload 5, 2), (149, .ireturn, 1), (150, .iload 4, 2), (152, .ifCond .eq 12, 3), (155, .iload 5, 2), (157, .ifCond .eq 7, 3), (160, .iconst 1, 1), (161, .goto 4, 3)] := dkf (by decide +kernel)
def dX6_fits_145 := dkg_X6_76.1
def dX6_fits_146 := dkg_X6_76.2.1
def dX6_fits_147 := dkg_X6_76.2.2.1
def dX6_fits_149 := dkg_X6_76.2.2.2.1
def dX6_fits_150 := dkg_X6_76.2.2.2.2.1
def dX6_fits_152 := dkg_X6_76.2.2.2.2.2.1
def dX6_fits_155 := dkg_X6_76.2.2.2.2.2.2.1
def dX6_fits_157 := dkg_X6_76.2.2.2.2.2.2.2.1
def dX6_fits_160 := dkg_X6_76.2.2.2.2.2.2.2.2.1
def dX6_fits_161 := dkg_X6_76.2.2.2.2.2.2.2.2.2.1
theorem dkg_X6_77 : dkp cX6_fits [(164, .iconst 0, 1), (165, .ireturn, 1), (166, .iload 5, 2), (168, .ifCond .ne 19, 3), (171, .aload_n 0, 1), (172, .getfield 9, 3), (175, .iload_n 3, 1), (176, .iaload, 1), (177, .invokestatic 156, 3), (180, .ifCond .eq 7, 3)] := dkf (by decide +kernel)
def dX6_fits_164 := dkg_X6_77.1
def dX6_fits_165 := dkg_X6_77.2.1
def dX6_fits_166 := dkg_X6_77.2.2.1
def dX6_fits_168 := dkg_X6_77.2.2.2.1
def dX6_fits_171 := dkg_X6_77.2.2.2.2.1
def dX6_fits_172 := dkg_X6_77.2.2.2.2.2.1
def dX6_fits_175 := dkg_X6_77.2.2.2.2.2.2.1
def dX6_fits_176 := dkg_X6_77.2.2.2.2.2.2.2.1
def dX6_fits_177 := dkg_X6_77.2.2.2.2.2.2.2.2.1
def dX6_fits_180 := dkg_X6_77.2.2.2.2.2.2.2.2.2.1
theorem dkg_X6_78 : dkp cX6_fits [(183, .iconst 1, 1), (184, .goto 4, 3), (187, .iconst 0, 1), (188, .ireturn, 1), (189, .iconst 1, 1), (190, .ireturn, 1)] := dkf (by decide +kernel)
def dX6_fits_183 := dkg_X6_78.1
def dX6_fits_184 := dkg_X6_78.2.1
def dX6_fits_187 := dkg_X6_78.2.2.1
def dX6_fits_188 := dkg_X6_78.2.2.2.1
def dX6_fits_189 := dkg_X6_78.2.2.2.2.1
def dX6_fits_190 := dkg_X6_78.2.2.2.2.2.1
theorem dkg_X6_79 : dkp cX6_fits [(92, .tableswitch 97 1 5 #[36, 39, 55, 58, 74], 36)] := dkq (by decide +kernel)
def dX6_fits_92 := dkg_X6_79.1
theorem dkg_X6_80 : dkp cX6_isSign [(0, .iload_n 0, 1), (1, .bipush 48, 2), (3, .if_icmp .lt 33, 3), (6, .iload_n 0, 1), (7, .bipush 57, 2), (9, .if_icmp .le 9, 3), (12, .iload_n 0, 1), (13, .bipush 65, 2), (15, .if_icmp .lt 21, 3), (18, .iload_n 0, 1)] := dkf (by decide +kernel)
def dX6_isSign_0 := dkg_X6_80.1
def dX6_isSign_1 := dkg_X6_80.2.1
def dX6_isSign_3 := dkg_X6_80.2.2.1
def dX6_isSign_6 := dkg_X6_80.2.2.2.1
def dX6_isSign_7 := dkg_X6_80.2.2.2.2.1
def dX6_isSign_9 := dkg_X6_80.2.2.2.2.2.1
def dX6_isSign_12 := dkg_X6_80.2.2.2.2.2.2.1
def dX6_isSign_13 := dkg_X6_80.2.2.2.2.2.2.2.1
def dX6_isSign_15 := dkg_X6_80.2.2.2.2.2.2.2.2.1
def dX6_isSign_18 := dkg_X6_80.2.2.2.2.2.2.2.2.2.1
theorem dkg_X6_81 : dkp cX6_isSign [(19, .bipush 90, 2), (21, .if_icmp .le 9, 3), (24, .iload_n 0, 1), (25, .bipush 97, 2), (27, .if_icmp .lt 9, 3), (30, .iload_n 0, 1), (31, .bipush 122, 2), (33, .if_icmp .le 7, 3), (36, .iconst 1, 1), (37, .goto 4, 3)] := dkf (by decide +kernel)
def dX6_isSign_19 := dkg_X6_81.1
def dX6_isSign_21 := dkg_X6_81.2.1
def dX6_isSign_24 := dkg_X6_81.2.2.1
def dX6_isSign_25 := dkg_X6_81.2.2.2.1
def dX6_isSign_27 := dkg_X6_81.2.2.2.2.1
def dX6_isSign_30 := dkg_X6_81.2.2.2.2.2.1
def dX6_isSign_31 := dkg_X6_81.2.2.2.2.2.2.1
def dX6_isSign_33 := dkg_X6_81.2.2.2.2.2.2.2.1
def dX6_isSign_36 := dkg_X6_81.2.2.2.2.2.2.2.2.1
def dX6_isSign_37 := dkg_X6_81.2.2.2.2.2.2.2.2.2.1
theorem dkg_X6_82 : dkp cX6_isSign [(40, .iconst 0, 1), (41, .ireturn, 1)] := dkf (by decide +kernel)
def dX6_isSign_40 := dkg_X6_82.1
def dX6_isSign_41 := dkg_X6_82.2.1
theorem dkg_X6_83 : dkp cX6_lastBreak [(0, .iload_n 2, 1), (1, .istore 4, 2), (3, .iload_n 1, 1), (4, .iconst 3, 1), (5, .if_icmp .gt 17, 3), (8, .iload_n 1, 1), (9, .iconst 3, 1), (10, .if_icmp .ne 15, 3), (13, .aload_n 0, 1), (14, .getfield 25, 3)] := dkf (by decide +kernel)
def dX6_lastBreak_0 := dkg_X6_83.1
def dX6_lastBreak_1 := dkg_X6_83.2.1
def dX6_lastBreak_3 := dkg_X6_83.2.2.1
def dX6_lastBreak_4 := dkg_X6_83.2.2.2.1
def dX6_lastBreak_5 := dkg_X6_83.2.2.2.2.1
def dX6_lastBreak_8 := dkg_X6_83.2.2.2.2.2.1
def dX6_lastBreak_9 := dkg_X6_83.2.2.2.2.2.2.1
def dX6_lastBreak_10 := dkg_X6_83.2.2.2.2.2.2.2.1
def dX6_lastBreak_13 := dkg_X6_83.2.2.2.2.2.2.2.2.1
def dX6_lastBreak_14 := dkg_X6_83.2.2.2.2.2.2.2.2.2.1
theorem dkg_X6_84 : dkp cX6_lastBreak [(17, .bipush 6, 2), (19, .if_icmp .ge 6, 3), (22, .iload 4, 2), (24, .ireturn, 1), (25, .iconst 1, 1), (26, .istore 5, 2), (28, .iload 5, 2), (30, .aload_n 0, 1), (31, .getfield 25, 3), (34, .if_icmp .ge 98, 3)] := dkf (by decide +kernel)
def dX6_lastBreak_17 := dkg_X6_84.1
def dX6_lastBreak_19 := dkg_X6_84.2.1
def dX6_lastBreak_22 := dkg_X6_84.2.2.1
def dX6_lastBreak_24 := dkg_X6_84.2.2.2.1
def dX6_lastBreak_25 := dkg_X6_84.2.2.2.2.1
def dX6_lastBreak_26 := dkg_X6_84.2.2.2.2.2.1
def dX6_lastBreak_28 := dkg_X6_84.2.2.2.2.2.2.1
def dX6_lastBreak_30 := dkg_X6_84.2.2.2.2.2.2.2.1
def dX6_lastBreak_31 := dkg_X6_84.2.2.2.2.2.2.2.2.1
def dX6_lastBreak_34 := dkg_X6_84.2.2.2.2.2.2.2.2.2.1
theorem dkg_X6_85 : dkp cX6_lastBreak [(37, .aload_n 0, 1), (38, .getfield 18, 3), (41, .iload 5, 2), (43, .baload, 1), (44, .ifCond .eq 32, 3), (47, .aload_n 0, 1), (48, .getfield 22, 3), (51, .iload 5, 2), (53, .iaload, 1), (54, .iload 4, 2)] := dkf (by decide +kernel)
def dX6_lastBreak_37 := dkg_X6_85.1
def dX6_lastBreak_38 := dkg_X6_85.2.1
def dX6_lastBreak_41 := dkg_X6_85.2.2.1
def dX6_lastBreak_43 := dkg_X6_85.2.2.2.1
def dX6_lastBreak_44 := dkg_X6_85.2.2.2.2.1
def dX6_lastBreak_47 := dkg_X6_85.2.2.2.2.2.1
def dX6_lastBreak_48 := dkg_X6_85.2.2.2.2.2.2.1
def dX6_lastBreak_51 := dkg_X6_85.2.2.2.2.2.2.2.1
def dX6_lastBreak_53 := dkg_X6_85.2.2.2.2.2.2.2.2.1
def dX6_lastBreak_54 := dkg_X6_85.2.2.2.2.2.2.2.2.2.1
theorem dkg_X6_86 : dkp cX6_lastBreak [(56, .if_icmp .le 20, 3), (59, .aload_n 0, 1), (60, .getfield 22, 3), (63, .iload 5, 2), (65, .iaload, 1), (66, .iload_n 2, 1), (67, .isub, 1), (68, .iload_n 3, 1), (69, .if_icmp .gt 7, 3), (72, .iconst 1, 1)] := dkf (by decide +kernel)
def dX6_lastBreak_56 := dkg_X6_86.1
def dX6_lastBreak_59 := dkg_X6_86.2.1
def dX6_lastBreak_60 := dkg_X6_86.2.2.1
def dX6_lastBreak_63 := dkg_X6_86.2.2.2.1
def dX6_lastBreak_65 := dkg_X6_86.2.2.2.2.1
def dX6_lastBreak_66 := dkg_X6_86.2.2.2.2.2.1
def dX6_lastBreak_67 := dkg_X6_86.2.2.2.2.2.2.1
def dX6_lastBreak_68 := dkg_X6_86.2.2.2.2.2.2.2.1
def dX6_lastBreak_69 := dkg_X6_86.2.2.2.2.2.2.2.2.1
def dX6_lastBreak_72 := dkg_X6_86.2.2.2.2.2.2.2.2.2.1
theorem dkg_X6_87 : dkp cX6_lastBreak [(73, .goto 4, 3), (76, .iconst 0, 1), (77, .istore 6, 2), (79, .iload 6, 2), (81, .ifCond .eq 45, 3), (84, .iload_n 1, 1), (85, .iconst 2, 1), (86, .if_icmp .ne 31, 3), (89, .aload_n 0, 1), (90, .getfield 9, 3)] := dkf (by decide +kernel)
def dX6_lastBreak_73 := dkg_X6_87.1
def dX6_lastBreak_76 := dkg_X6_87.2.1
def dX6_lastBreak_77 := dkg_X6_87.2.2.1
def dX6_lastBreak_79 := dkg_X6_87.2.2.2.1
def dX6_lastBreak_81 := dkg_X6_87.2.2.2.2.1
def dX6_lastBreak_84 := dkg_X6_87.2.2.2.2.2.1
def dX6_lastBreak_85 := dkg_X6_87.2.2.2.2.2.2.1
def dX6_lastBreak_86 := dkg_X6_87.2.2.2.2.2.2.2.1
def dX6_lastBreak_89 := dkg_X6_87.2.2.2.2.2.2.2.2.1
def dX6_lastBreak_90 := dkg_X6_87.2.2.2.2.2.2.2.2.2.1
theorem dkg_X6_88 : dkp cX6_lastBreak [(93, .iload 5, 2), (95, .iconst 1, 1), (96, .isub, 1), (97, .iaload, 1), (98, .invokestatic 115, 3), (101, .ifCond .ne 25, 3), (104, .aload_n 0, 1), (105, .getfield 9, 3), (108, .iload 5, 2), (110, .iaload, 1)] := dkf (by decide +kernel)
def dX6_lastBreak_93 := dkg_X6_88.1
def dX6_lastBreak_95 := dkg_X6_88.2.1
def dX6_lastBreak_96 := dkg_X6_88.2.2.1
def dX6_lastBreak_97 := dkg_X6_88.2.2.2.1
def dX6_lastBreak_98 := dkg_X6_88.2.2.2.2.1
def dX6_lastBreak_101 := dkg_X6_88.2.2.2.2.2.1
def dX6_lastBreak_104 := dkg_X6_88.2.2.2.2.2.2.1
def dX6_lastBreak_105 := dkg_X6_88.2.2.2.2.2.2.2.1
def dX6_lastBreak_108 := dkg_X6_88.2.2.2.2.2.2.2.2.1
def dX6_lastBreak_110 := dkg_X6_88.2.2.2.2.2.2.2.2.2.1
theorem dkg_X6_89 : dkp cX6_lastBreak [(111, .invokestatic 115, 3), (114, .ifCond .ne 12, 3), (117, .aload_n 0, 1), (118, .getfield 22, 3), (121, .iload 5, 2), (123, .iaload, 1), (124, .istore 4, 2), (126, .iinc 5 1, 3), (129, .goto (-101), 3), (132, .iload 4, 2)] := dkf (by decide +kernel)
def dX6_lastBreak_111 := dkg_X6_89.1
def dX6_lastBreak_114 := dkg_X6_89.2.1
def dX6_lastBreak_117 := dkg_X6_89.2.2.1
def dX6_lastBreak_118 := dkg_X6_89.2.2.2.1
def dX6_lastBreak_121 := dkg_X6_89.2.2.2.2.1
def dX6_lastBreak_123 := dkg_X6_89.2.2.2.2.2.1
def dX6_lastBreak_124 := dkg_X6_89.2.2.2.2.2.2.1
def dX6_lastBreak_126 := dkg_X6_89.2.2.2.2.2.2.2.1
def dX6_lastBreak_129 := dkg_X6_89.2.2.2.2.2.2.2.2.1
def dX6_lastBreak_132 := dkg_X6_89.2.2.2.2.2.2.2.2.2.1
theorem dkg_X6_90 : dkp cX6_lastBreak [(134, .ireturn, 1)] := dkf (by decide +kernel)
def dX6_lastBreak_134 := dkg_X6_90.1
end
section
theorem dkg_X7_0 : dkp cX7_init [(0, .aload_n 0, 1), (1, .invokespecial 3, 3), (4, .aload_n 0, 1), (5, .sipush 200, 3), (8, .anewarray 9, 3), (11, .putfield 11, 3), (14, .aload_n 0, 1), (15, .iconst 0, 1), (16, .putfield 17, 3), (19, .aload_n 0, 1)] := dkf (by decide +kernel)
def dX7_init_0 := dkg_X7_0.1
def dX7_init_1 := dkg_X7_0.2.1
def dX7_init_4 := dkg_X7_0.2.2.1
def dX7_init_5 := dkg_X7_0.2.2.2.1
def dX7_init_8 := dkg_X7_0.2.2.2.2.1
def dX7_init_11 := dkg_X7_0.2.2.2.2.2.1
def dX7_init_14 := dkg_X7_0.2.2.2.2.2.2.1
def dX7_init_15 := dkg_X7_0.2.2.2.2.2.2.2.1
def dX7_init_16 := dkg_X7_0.2.2.2.2.2.2.2.2.1
def dX7_init_19 := dkg_X7_0.2.2.2.2.2.2.2.2.2.1
theorem dkg_X7_1 : dkp cX7_init [(20, .iconst 0, 1), (21, .putfield 21, 3), (24, .return_, 1)] := dkf (by decide +kernel)
def dX7_init_20 := dkg_X7_1.1
def dX7_init_21 := dkg_X7_1.2.1
def dX7_init_24 := dkg_X7_1.2.2.1
theorem dkg_X7_2 : dkp cX7_clear [(0, .aload_n 0, 1), (1, .iconst 0, 1), (2, .putfield 17, 3), (5, .return_, 1)] := dkf (by decide +kernel)
def dX7_clear_0 := dkg_X7_2.1
def dX7_clear_1 := dkg_X7_2.2.1
def dX7_clear_2 := dkg_X7_2.2.2.1
def dX7_clear_5 := dkg_X7_2.2.2.2.1
theorem dkg_X7_3 : dkp cX7_at [(0, .iload_n 1, 1), (1, .ifCond .lt 20, 3), (4, .iload_n 1, 1), (5, .aload_n 0, 1), (6, .getfield 17, 3), (9, .if_icmp .ge 12, 3), (12, .aload_n 0, 1), (13, .getfield 11, 3), (16, .iload_n 1, 1), (17, .aaload, 1)] := dkf (by decide +kernel)
def dX7_at_0 := dkg_X7_3.1
def dX7_at_1 := dkg_X7_3.2.1
def dX7_at_4 := dkg_X7_3.2.2.1
def dX7_at_5 := dkg_X7_3.2.2.2.1
def dX7_at_6 := dkg_X7_3.2.2.2.2.1
def dX7_at_9 := dkg_X7_3.2.2.2.2.2.1
def dX7_at_12 := dkg_X7_3.2.2.2.2.2.2.1
def dX7_at_13 := dkg_X7_3.2.2.2.2.2.2.2.1
def dX7_at_16 := dkg_X7_3.2.2.2.2.2.2.2.2.1
def dX7_at_17 := dkg_X7_3.2.2.2.2.2.2.2.2.2.1
theorem dkg_X7_4 : dkp cX7_at [(18, .goto 4, 3), (21, .aconst_null, 1), (22, .areturn, 1)] := dkf (by decide +kernel)
def dX7_at_18 := dkg_X7_4.1
def dX7_at_21 := dkg_X7_4.2.1
def dX7_at_22 := dkg_X7_4.2.2.1
theorem dkg_X7_5 : dkp cX7_present [(0, .aload_n 0, 1), (1, .iload_n 1, 1), (2, .invokevirtual 24, 3), (5, .astore_n 2, 1), (6, .aload_n 2, 1), (7, .ifnull 10, 3), (10, .aload_n 2, 1), (11, .getfield 28, 3), (14, .ifCond .eq 7, 3), (17, .aconst_null, 1)] := dkf (by decide +kernel)
def dX7_present_0 := dkg_X7_5.1
def dX7_present_1 := dkg_X7_5.2.1
def dX7_present_2 := dkg_X7_5.2.2.1
def dX7_present_5 := dkg_X7_5.2.2.2.1
def dX7_present_6 := dkg_X7_5.2.2.2.2.1
def dX7_present_7 := dkg_X7_5.2.2.2.2.2.1
def dX7_present_10 := dkg_X7_5.2.2.2.2.2.2.1
def dX7_present_11 := dkg_X7_5.2.2.2.2.2.2.2.1
def dX7_present_14 := dkg_X7_5.2.2.2.2.2.2.2.2.1
def dX7_present_17 := dkg_X7_5.2.2.2.2.2.2.2.2.2.1
theorem dkg_X7_6 : dkp cX7_present [(18, .goto 4, 3), (21, .aload_n 2, 1), (22, .areturn, 1)] := dkf (by decide +kernel)
def dX7_present_18 := dkg_X7_6.1
def dX7_present_21 := dkg_X7_6.2.1
def dX7_present_22 := dkg_X7_6.2.2.1
theorem dkg_X7_7 : dkp cX7_whyNone [(0, .aload_n 0, 1), (1, .iload_n 1, 1), (2, .invokevirtual 24, 3), (5, .ifnonnull 7, 3), (8, .iconst 2, 1), (9, .goto 4, 3), (12, .iconst 1, 1), (13, .ireturn, 1)] := dkf (by decide +kernel)
def dX7_whyNone_0 := dkg_X7_7.1
def dX7_whyNone_1 := dkg_X7_7.2.1
def dX7_whyNone_2 := dkg_X7_7.2.2.1
def dX7_whyNone_5 := dkg_X7_7.2.2.2.1
def dX7_whyNone_8 := dkg_X7_7.2.2.2.2.1
def dX7_whyNone_9 := dkg_X7_7.2.2.2.2.2.1
def dX7_whyNone_12 := dkg_X7_7.2.2.2.2.2.2.1
def dX7_whyNone_13 := dkg_X7_7.2.2.2.2.2.2.2.1
theorem dkg_X7_8 : dkp cX7_begin [(0, .aload_n 0, 1), (1, .getfield 17, 3), (4, .sipush 200, 3), (7, .if_icmp .lt 5, 3), (10, .iconst 0, 1), (11, .ireturn, 1), (12, .aload_n 0, 1), (13, .getfield 11, 3), (16, .aload_n 0, 1), (17, .getfield 17, 3)] := dkf (by decide +kernel)
def dX7_begin_0 := dkg_X7_8.1
def dX7_begin_1 := dkg_X7_8.2.1
def dX7_begin_4 := dkg_X7_8.2.2.1
def dX7_begin_7 := dkg_X7_8.2.2.2.1
def dX7_begin_10 := dkg_X7_8.2.2.2.2.1
def dX7_begin_11 := dkg_X7_8.2.2.2.2.2.1
def dX7_begin_12 := dkg_X7_8.2.2.2.2.2.2.1
def dX7_begin_13 := dkg_X7_8.2.2.2.2.2.2.2.1
def dX7_begin_16 := dkg_X7_8.2.2.2.2.2.2.2.2.1
def dX7_begin_17 := dkg_X7_8.2.2.2.2.2.2.2.2.2.1
theorem dkg_X7_9 : dkp cX7_begin [(20, .aaload, 1), (21, .ifnonnull 19, 3), (24, .aload_n 0, 1), (25, .getfield 11, 3), (28, .aload_n 0, 1), (29, .getfield 17, 3), (32, .new 9, 3), (35, .dup, 1), (36, .invokespecial 32, 3), (39, .aastore, 1)] := dkf (by decide +kernel)
def dX7_begin_20 := dkg_X7_9.1
def dX7_begin_21 := dkg_X7_9.2.1
def dX7_begin_24 := dkg_X7_9.2.2.1
def dX7_begin_25 := dkg_X7_9.2.2.2.1
def dX7_begin_28 := dkg_X7_9.2.2.2.2.1
def dX7_begin_29 := dkg_X7_9.2.2.2.2.2.1
def dX7_begin_32 := dkg_X7_9.2.2.2.2.2.2.1
def dX7_begin_35 := dkg_X7_9.2.2.2.2.2.2.2.1
def dX7_begin_36 := dkg_X7_9.2.2.2.2.2.2.2.2.1
def dX7_begin_39 := dkg_X7_9.2.2.2.2.2.2.2.2.2.1
theorem dkg_X7_10 : dkp cX7_begin [(40, .aload_n 0, 1), (41, .getfield 11, 3), (44, .aload_n 0, 1), (45, .getfield 17, 3), (48, .aaload, 1), (49, .invokevirtual 33, 3), (52, .aload_n 0, 1), (53, .dup, 1), (54, .getfield 17, 3), (57, .iconst 1, 1)] := dkf (by decide +kernel)
def dX7_begin_40 := dkg_X7_10.1
def dX7_begin_41 := dkg_X7_10.2.1
def dX7_begin_44 := dkg_X7_10.2.2.1
def dX7_begin_45 := dkg_X7_10.2.2.2.1
def dX7_begin_48 := dkg_X7_10.2.2.2.2.1
def dX7_begin_49 := dkg_X7_10.2.2.2.2.2.1
def dX7_begin_52 := dkg_X7_10.2.2.2.2.2.2.1
def dX7_begin_53 := dkg_X7_10.2.2.2.2.2.2.2.1
def dX7_begin_54 := dkg_X7_10.2.2.2.2.2.2.2.2.1
def dX7_begin_57 := dkg_X7_10.2.2.2.2.2.2.2.2.2.1
theorem dkg_X7_11 : dkp cX7_begin [(58, .iadd, 1), (59, .putfield 17, 3), (62, .iconst 1, 1), (63, .ireturn, 1)] := dkf (by decide +kernel)
def dX7_begin_58 := dkg_X7_11.1
def dX7_begin_59 := dkg_X7_11.2.1
def dX7_begin_62 := dkg_X7_11.2.2.1
def dX7_begin_63 := dkg_X7_11.2.2.2.1
theorem dkg_X7_12 : dkp cX7_take [(0, .iconst 0, 1), (1, .istore 5, 2), (3, .iconst 0, 1), (4, .istore 6, 2), (6, .iload 6, 2), (8, .sipush 200, 3), (11, .if_icmp .gt 152, 3), (14, .aload_n 0, 1), (15, .aload_n 0, 1), (16, .getfield 17, 3)] := dkf (by decide +kernel)
def dX7_take_0 := dkg_X7_12.1
def dX7_take_1 := dkg_X7_12.2.1
def dX7_take_3 := dkg_X7_12.2.2.1
def dX7_take_4 := dkg_X7_12.2.2.2.1
def dX7_take_6 := dkg_X7_12.2.2.2.2.1
def dX7_take_8 := dkg_X7_12.2.2.2.2.2.1
def dX7_take_11 := dkg_X7_12.2.2.2.2.2.2.1
def dX7_take_14 := dkg_X7_12.2.2.2.2.2.2.2.1
def dX7_take_15 := dkg_X7_12.2.2.2.2.2.2.2.2.1
def dX7_take_16 := dkg_X7_12.2.2.2.2.2.2.2.2.2.1
theorem dkg_X7_13 : dkp cX7_take [(19, .iconst 1, 1), (20, .isub, 1), (21, .invokevirtual 24, 3), (24, .astore 7, 2), (26, .aload 7, 2), (28, .ifnonnull 5, 3), (31, .iconst 0, 1), (32, .ireturn, 1), (33, .iload_n 3, 1), (34, .aload 7, 2)] := dkf (by decide +kernel)
def dX7_take_19 := dkg_X7_13.1
def dX7_take_20 := dkg_X7_13.2.1
def dX7_take_21 := dkg_X7_13.2.2.1
def dX7_take_24 := dkg_X7_13.2.2.2.1
def dX7_take_26 := dkg_X7_13.2.2.2.2.1
def dX7_take_28 := dkg_X7_13.2.2.2.2.2.1
def dX7_take_31 := dkg_X7_13.2.2.2.2.2.2.1
def dX7_take_32 := dkg_X7_13.2.2.2.2.2.2.2.1
def dX7_take_33 := dkg_X7_13.2.2.2.2.2.2.2.2.1
def dX7_take_34 := dkg_X7_13.2.2.2.2.2.2.2.2.2.1
theorem dkg_X7_14 : dkp cX7_take [(36, .getfield 36, 3), (39, .ifCond .le 13, 3), (42, .aload 7, 2), (44, .getfield 36, 3), (47, .iconst 1, 1), (48, .iadd, 1), (49, .goto 4, 3), (52, .iconst 0, 1), (53, .isub, 1), (54, .istore 8, 2)] := dkf (by decide +kernel)
def dX7_take_36 := dkg_X7_14.1
def dX7_take_39 := dkg_X7_14.2.1
def dX7_take_42 := dkg_X7_14.2.2.1
def dX7_take_44 := dkg_X7_14.2.2.2.1
def dX7_take_47 := dkg_X7_14.2.2.2.2.1
def dX7_take_48 := dkg_X7_14.2.2.2.2.2.1
def dX7_take_49 := dkg_X7_14.2.2.2.2.2.2.1
def dX7_take_52 := dkg_X7_14.2.2.2.2.2.2.2.1
def dX7_take_53 := dkg_X7_14.2.2.2.2.2.2.2.2.1
def dX7_take_54 := dkg_X7_14.2.2.2.2.2.2.2.2.2.1
theorem dkg_X7_15 : dkp cX7_take [(56, .aload_n 1, 1), (57, .getfield 39, 3), (60, .iload 5, 2), (62, .isub, 1), (63, .iload 8, 2), (65, .if_icmp .gt 17, 3), (68, .aload 7, 2), (70, .aload_n 1, 1), (71, .iload 5, 2), (73, .aload_n 1, 1)] := dkf (by decide +kernel)
def dX7_take_56 := dkg_X7_15.1
def dX7_take_57 := dkg_X7_15.2.1
def dX7_take_60 := dkg_X7_15.2.2.1
def dX7_take_62 := dkg_X7_15.2.2.2.1
def dX7_take_63 := dkg_X7_15.2.2.2.2.1
def dX7_take_65 := dkg_X7_15.2.2.2.2.2.1
def dX7_take_68 := dkg_X7_15.2.2.2.2.2.2.1
def dX7_take_70 := dkg_X7_15.2.2.2.2.2.2.2.1
def dX7_take_71 := dkg_X7_15.2.2.2.2.2.2.2.2.1
def dX7_take_73 := dkg_X7_15.2.2.2.2.2.2.2.2.2.1
theorem dkg_X7_16 : dkp cX7_take [(74, .getfield 39, 3), (77, .invokevirtual 42, 3), (80, .iconst 1, 1), (81, .ireturn, 1), (82, .aload_n 1, 1), (83, .iload_n 2, 1), (84, .iload 5, 2), (86, .iload 8, 2), (88, .iconst 1, 1), (89, .isub, 1)] := dkf (by decide +kernel)
def dX7_take_74 := dkg_X7_16.1
def dX7_take_77 := dkg_X7_16.2.1
def dX7_take_80 := dkg_X7_16.2.2.1
def dX7_take_81 := dkg_X7_16.2.2.2.1
def dX7_take_82 := dkg_X7_16.2.2.2.2.1
def dX7_take_83 := dkg_X7_16.2.2.2.2.2.1
def dX7_take_84 := dkg_X7_16.2.2.2.2.2.2.1
def dX7_take_86 := dkg_X7_16.2.2.2.2.2.2.2.1
def dX7_take_88 := dkg_X7_16.2.2.2.2.2.2.2.2.1
def dX7_take_89 := dkg_X7_16.2.2.2.2.2.2.2.2.2.1
theorem dkg_X7_17 : dkp cX7_take [(90, .invokevirtual 46, 3), (93, .istore 9, 2), (95, .iload 9, 2), (97, .iload 5, 2), (99, .if_icmp .le 27, 3), (102, .aload 7, 2), (104, .aload_n 1, 1), (105, .iload 5, 2), (107, .iload 9, 2), (109, .invokevirtual 42, 3)] := dkf (by decide +kernel)
def dX7_take_90 := dkg_X7_17.1
def dX7_take_93 := dkg_X7_17.2.1
def dX7_take_95 := dkg_X7_17.2.2.1
def dX7_take_97 := dkg_X7_17.2.2.2.1
def dX7_take_99 := dkg_X7_17.2.2.2.2.1
def dX7_take_102 := dkg_X7_17.2.2.2.2.2.1
def dX7_take_104 := dkg_X7_17.2.2.2.2.2.2.1
def dX7_take_105 := dkg_X7_17.2.2.2.2.2.2.2.1
def dX7_take_107 := dkg_X7_17.2.2.2.2.2.2.2.2.1
def dX7_take_109 := dkg_X7_17.2.2.2.2.2.2.2.2.2.1
theorem dkg_X7_18 : dkp cX7_take [(112, .aload 7, 2), (114, .iload 4, 2), (116, .invokevirtual 50, 3), (119, .iload 9, 2), (121, .istore 5, 2), (123, .goto 25, 3), (126, .aload 7, 2), (128, .getfield 36, 3), (131, .ifCond .ne 17, 3), (134, .aload 7, 2)] := dkf (by decide +kernel)
def dX7_take_112 := dkg_X7_18.1
def dX7_take_114 := dkg_X7_18.2.1
def dX7_take_116 := dkg_X7_18.2.2.1
def dX7_take_119 := dkg_X7_18.2.2.2.1
def dX7_take_121 := dkg_X7_18.2.2.2.2.1
def dX7_take_123 := dkg_X7_18.2.2.2.2.2.1
def dX7_take_126 := dkg_X7_18.2.2.2.2.2.2.1
def dX7_take_128 := dkg_X7_18.2.2.2.2.2.2.2.1
def dX7_take_131 := dkg_X7_18.2.2.2.2.2.2.2.2.1
def dX7_take_134 := dkg_X7_18.2.2.2.2.2.2.2.2.2.1
theorem dkg_X7_19 : dkp cX7_take [(136, .aload_n 1, 1), (137, .iload 5, 2), (139, .aload_n 1, 1), (140, .getfield 39, 3), (143, .invokevirtual 42, 3), (146, .iconst 1, 1), (147, .ireturn, 1), (148, .aload_n 0, 1), (149, .invokevirtual 54, 3), (152, .ifCond .ne 5, 3)] := dkf (by decide +kernel)
def dX7_take_136 := dkg_X7_19.1
def dX7_take_137 := dkg_X7_19.2.1
def dX7_take_139 := dkg_X7_19.2.2.1
def dX7_take_140 := dkg_X7_19.2.2.2.1
def dX7_take_143 := dkg_X7_19.2.2.2.2.1
def dX7_take_146 := dkg_X7_19.2.2.2.2.2.1
def dX7_take_147 := dkg_X7_19.2.2.2.2.2.2.1
def dX7_take_148 := dkg_X7_19.2.2.2.2.2.2.2.1
def dX7_take_149 := dkg_X7_19.2.2.2.2.2.2.2.2.1
def dX7_take_152 := dkg_X7_19.2.2.2.2.2.2.2.2.2.1
theorem dkg_X7_20 : dkp cX7_take [(155, .iconst 0, 1), (156, .ireturn, 1), (157, .iinc 6 1, 3), (160, .goto (-154), 3), (163, .iconst 0, 1), (164, .ireturn, 1)] := dkf (by decide +kernel)
def dX7_take_155 := dkg_X7_20.1
def dX7_take_156 := dkg_X7_20.2.1
def dX7_take_157 := dkg_X7_20.2.2.1
def dX7_take_160 := dkg_X7_20.2.2.2.1
def dX7_take_163 := dkg_X7_20.2.2.2.2.1
def dX7_take_164 := dkg_X7_20.2.2.2.2.2.1
theorem dkg_X7_21 : dkp cX7_beginText [(0, .aload_n 0, 1), (1, .aload_n 0, 1), (2, .getfield 17, 3), (5, .putfield 21, 3), (8, .aload_n 0, 1), (9, .invokevirtual 54, 3), (12, .ireturn, 1)] := dkf (by decide +kernel)
def dX7_beginText_0 := dkg_X7_21.1
def dX7_beginText_1 := dkg_X7_21.2.1
def dX7_beginText_2 := dkg_X7_21.2.2.1
def dX7_beginText_5 := dkg_X7_21.2.2.2.1
def dX7_beginText_8 := dkg_X7_21.2.2.2.2.1
def dX7_beginText_9 := dkg_X7_21.2.2.2.2.2.1
def dX7_beginText_12 := dkg_X7_21.2.2.2.2.2.2.1
theorem dkg_X7_22 : dkp cX7_endText [(0, .aload_n 0, 1), (1, .getfield 21, 3), (4, .istore_n 3, 1), (5, .iload_n 1, 1), (6, .ifCond .eq 43, 3), (9, .iload_n 3, 1), (10, .aload_n 0, 1), (11, .getfield 17, 3), (14, .if_icmp .ge 35, 3), (17, .aload_n 0, 1)] := dkf (by decide +kernel)
def dX7_endText_0 := dkg_X7_22.1
def dX7_endText_1 := dkg_X7_22.2.1
def dX7_endText_4 := dkg_X7_22.2.2.1
def dX7_endText_5 := dkg_X7_22.2.2.2.1
def dX7_endText_6 := dkg_X7_22.2.2.2.2.1
def dX7_endText_9 := dkg_X7_22.2.2.2.2.2.1
def dX7_endText_10 := dkg_X7_22.2.2.2.2.2.2.1
def dX7_endText_11 := dkg_X7_22.2.2.2.2.2.2.2.1
def dX7_endText_14 := dkg_X7_22.2.2.2.2.2.2.2.2.1
def dX7_endText_17 := dkg_X7_22.2.2.2.2.2.2.2.2.2.1
theorem dkg_X7_23 : dkp cX7_endText [(18, .iload_n 3, 1), (19, .invokevirtual 24, 3), (22, .astore 4, 2), (24, .aload 4, 2), (26, .ifnull 17, 3), (29, .aload 4, 2), (31, .iload_n 2, 1), (32, .aload 4, 2), (34, .getfield 36, 3), (37, .isub, 1)] := dkf (by decide +kernel)
def dX7_endText_18 := dkg_X7_23.1
def dX7_endText_19 := dkg_X7_23.2.1
def dX7_endText_22 := dkg_X7_23.2.2.1
def dX7_endText_24 := dkg_X7_23.2.2.2.1
def dX7_endText_26 := dkg_X7_23.2.2.2.2.1
def dX7_endText_29 := dkg_X7_23.2.2.2.2.2.1
def dX7_endText_31 := dkg_X7_23.2.2.2.2.2.2.1
def dX7_endText_32 := dkg_X7_23.2.2.2.2.2.2.2.1
def dX7_endText_34 := dkg_X7_23.2.2.2.2.2.2.2.2.1
def dX7_endText_37 := dkg_X7_23.2.2.2.2.2.2.2.2.2.1
theorem dkg_X7_24 : dkp cX7_endText [(38, .iconst 2, 1), (39, .idiv, 1), (40, .invokevirtual 58, 3), (43, .iinc 3 1, 3), (46, .goto (-41), 3), (49, .return_, 1)] := dkf (by decide +kernel)
def dX7_endText_38 := dkg_X7_24.1
def dX7_endText_39 := dkg_X7_24.2.1
def dX7_endText_40 := dkg_X7_24.2.2.1
def dX7_endText_43 := dkg_X7_24.2.2.2.1
def dX7_endText_46 := dkg_X7_24.2.2.2.2.1
def dX7_endText_49 := dkg_X7_24.2.2.2.2.2.1
theorem dkg_X7_25 : dkp cX7_goOver [(0, .iload_n 1, 1), (1, .istore_n 2, 1), (2, .iconst 0, 1), (3, .istore_n 3, 1), (4, .iload_n 3, 1), (5, .aload_n 0, 1), (6, .getfield 17, 3), (9, .if_icmp .ge 74, 3), (12, .aload_n 0, 1), (13, .iload_n 3, 1)] := dkf (by decide +kernel)
def dX7_goOver_0 := dkg_X7_25.1
def dX7_goOver_1 := dkg_X7_25.2.1
def dX7_goOver_2 := dkg_X7_25.2.2.1
def dX7_goOver_3 := dkg_X7_25.2.2.2.1
def dX7_goOver_4 := dkg_X7_25.2.2.2.2.1
def dX7_goOver_5 := dkg_X7_25.2.2.2.2.2.1
def dX7_goOver_6 := dkg_X7_25.2.2.2.2.2.2.1
def dX7_goOver_9 := dkg_X7_25.2.2.2.2.2.2.2.1
def dX7_goOver_12 := dkg_X7_25.2.2.2.2.2.2.2.2.1
def dX7_goOver_13 := dkg_X7_25.2.2.2.2.2.2.2.2.2.1
theorem dkg_X7_26 : dkp cX7_goOver [(14, .invokevirtual 61, 3), (17, .astore 4, 2), (19, .iload_n 2, 1), (20, .bipush 31, 2), (22, .imul, 1), (23, .aload 4, 2), (25, .ifnonnull 7, 3), (28, .iconst (-1), 1), (29, .goto 8, 3), (32, .aload 4, 2)] := dkf (by decide +kernel)
def dX7_goOver_14 := dkg_X7_26.1
def dX7_goOver_17 := dkg_X7_26.2.1
def dX7_goOver_19 := dkg_X7_26.2.2.1
def dX7_goOver_20 := dkg_X7_26.2.2.2.1
def dX7_goOver_22 := dkg_X7_26.2.2.2.2.1
def dX7_goOver_23 := dkg_X7_26.2.2.2.2.2.1
def dX7_goOver_25 := dkg_X7_26.2.2.2.2.2.2.1
def dX7_goOver_28 := dkg_X7_26.2.2.2.2.2.2.2.1
def dX7_goOver_29 := dkg_X7_26.2.2.2.2.2.2.2.2.1
def dX7_goOver_32 := dkg_X7_26.2.2.2.2.2.2.2.2.2.1
theorem dkg_X7_27 : dkp cX7_goOver [(34, .getfield 36, 3), (37, .iadd, 1), (38, .istore_n 2, 1), (39, .iconst 0, 1), (40, .istore 5, 2), (42, .aload 4, 2), (44, .ifnull 33, 3), (47, .iload 5, 2), (49, .aload 4, 2), (51, .getfield 36, 3)] := dkf (by decide +kernel)
def dX7_goOver_34 := dkg_X7_27.1
def dX7_goOver_37 := dkg_X7_27.2.1
def dX7_goOver_38 := dkg_X7_27.2.2.1
def dX7_goOver_39 := dkg_X7_27.2.2.2.1
def dX7_goOver_40 := dkg_X7_27.2.2.2.2.1
def dX7_goOver_42 := dkg_X7_27.2.2.2.2.2.1
def dX7_goOver_44 := dkg_X7_27.2.2.2.2.2.2.1
def dX7_goOver_47 := dkg_X7_27.2.2.2.2.2.2.2.1
def dX7_goOver_49 := dkg_X7_27.2.2.2.2.2.2.2.2.1
def dX7_goOver_51 := dkg_X7_27.2.2.2.2.2.2.2.2.2.1
theorem dkg_X7_28 : dkp cX7_goOver [(54, .if_icmp .ge 23, 3), (57, .iload_n 2, 1), (58, .bipush 31, 2), (60, .imul, 1), (61, .aload 4, 2), (63, .getfield 64, 3), (66, .iload 5, 2), (68, .iaload, 1), (69, .iadd, 1), (70, .istore_n 2, 1)] := dkf (by decide +kernel)
def dX7_goOver_54 := dkg_X7_28.1
def dX7_goOver_57 := dkg_X7_28.2.1
def dX7_goOver_58 := dkg_X7_28.2.2.1
def dX7_goOver_60 := dkg_X7_28.2.2.2.1
def dX7_goOver_61 := dkg_X7_28.2.2.2.2.1
def dX7_goOver_63 := dkg_X7_28.2.2.2.2.2.1
def dX7_goOver_66 := dkg_X7_28.2.2.2.2.2.2.1
def dX7_goOver_68 := dkg_X7_28.2.2.2.2.2.2.2.1
def dX7_goOver_69 := dkg_X7_28.2.2.2.2.2.2.2.2.1
def dX7_goOver_70 := dkg_X7_28.2.2.2.2.2.2.2.2.2.1
theorem dkg_X7_29 : dkp cX7_goOver [(71, .iinc 5 1, 3), (74, .goto (-32), 3), (77, .iinc 3 1, 3), (80, .goto (-76), 3), (83, .iload_n 2, 1), (84, .ireturn, 1)] := dkf (by decide +kernel)
def dX7_goOver_71 := dkg_X7_29.1
def dX7_goOver_74 := dkg_X7_29.2.1
def dX7_goOver_77 := dkg_X7_29.2.2.1
def dX7_goOver_80 := dkg_X7_29.2.2.2.1
def dX7_goOver_83 := dkg_X7_29.2.2.2.2.1
def dX7_goOver_84 := dkg_X7_29.2.2.2.2.2.1
end
section
theorem dkg_X8_0 : dkp cX8_init [(0, .aload_n 0, 1), (1, .invokespecial 3, 3), (4, .aload_n 0, 1), (5, .iconst 0, 1), (6, .putfield 9, 3), (9, .aload_n 0, 1), (10, .iconst 0, 1), (11, .putfield 15, 3), (14, .aload_n 0, 1), (15, .iconst 0, 1)] := dkf (by decide +kernel)
def dX8_init_0 := dkg_X8_0.1
def dX8_init_1 := dkg_X8_0.2.1
def dX8_init_4 := dkg_X8_0.2.2.1
def dX8_init_5 := dkg_X8_0.2.2.2.1
def dX8_init_6 := dkg_X8_0.2.2.2.2.1
def dX8_init_9 := dkg_X8_0.2.2.2.2.2.1
def dX8_init_10 := dkg_X8_0.2.2.2.2.2.2.1
def dX8_init_11 := dkg_X8_0.2.2.2.2.2.2.2.1
def dX8_init_14 := dkg_X8_0.2.2.2.2.2.2.2.2.1
def dX8_init_15 := dkg_X8_0.2.2.2.2.2.2.2.2.2.1
theorem dkg_X8_1 : dkp cX8_init [(16, .putfield 19, 3), (19, .aload_n 0, 1), (20, .bipush 126, 2), (24, .putfield 22, 3), (27, .aload_n 0, 1), (28, .bipush 126, 2), (32, .putfield 26, 3), (35, .aload_n 0, 1), (36, .iconst 0, 1), (37, .putfield 30, 3)] := dkf (by decide +kernel)
def dX8_init_16 := dkg_X8_1.1
def dX8_init_19 := dkg_X8_1.2.1
def dX8_init_20 := dkg_X8_1.2.2.1
def dX8_init_24 := dkg_X8_1.2.2.2.1
def dX8_init_27 := dkg_X8_1.2.2.2.2.1
def dX8_init_28 := dkg_X8_1.2.2.2.2.2.1
def dX8_init_32 := dkg_X8_1.2.2.2.2.2.2.1
def dX8_init_35 := dkg_X8_1.2.2.2.2.2.2.2.1
def dX8_init_36 := dkg_X8_1.2.2.2.2.2.2.2.2.1
def dX8_init_37 := dkg_X8_1.2.2.2.2.2.2.2.2.2.1
theorem dkg_X8_2 : dkp cX8_init [(40, .aload_n 0, 1), (41, .bipush 6, 2), (45, .putfield 33, 3), (48, .aload_n 0, 1), (49, .iconst 0, 1), (50, .putfield 36, 3), (53, .return_, 1)] := dkf (by decide +kernel)
def dX8_init_40 := dkg_X8_2.1
def dX8_init_41 := dkg_X8_2.2.1
def dX8_init_45 := dkg_X8_2.2.2.1
def dX8_init_48 := dkg_X8_2.2.2.2.1
def dX8_init_49 := dkg_X8_2.2.2.2.2.1
def dX8_init_50 := dkg_X8_2.2.2.2.2.2.1
def dX8_init_53 := dkg_X8_2.2.2.2.2.2.2.1
theorem dkg_X8_3 : dkp cX8_init [(22, .newarray .boolean, 2), (30, .newarray .int, 2), (43, .newarray .int, 2)] := dkq (by decide +kernel)
def dX8_init_22 := dkg_X8_3.1
def dX8_init_30 := dkg_X8_3.2.1
def dX8_init_43 := dkg_X8_3.2.2.1
theorem dkg_X8_4 : dkp cX8_restart [(0, .aload_n 0, 1), (1, .iconst 0, 1), (2, .putfield 9, 3), (5, .aload_n 0, 1), (6, .iconst 0, 1), (7, .putfield 15, 3), (10, .return_, 1)] := dkf (by decide +kernel)
def dX8_restart_0 := dkg_X8_4.1
def dX8_restart_1 := dkg_X8_4.2.1
def dX8_restart_2 := dkg_X8_4.2.2.1
def dX8_restart_5 := dkg_X8_4.2.2.2.1
def dX8_restart_6 := dkg_X8_4.2.2.2.2.1
def dX8_restart_7 := dkg_X8_4.2.2.2.2.2.1
def dX8_restart_10 := dkg_X8_4.2.2.2.2.2.2.1
theorem dkg_X8_5 : dkp cX8_step [(0, .aload_n 0, 1), (1, .getfield 15, 3), (4, .ifCond .ne 9, 3), (7, .aload_n 0, 1), (8, .aload_n 1, 1), (9, .invokevirtual 39, 3), (12, .ireturn, 1), (13, .aload_n 2, 1), (14, .invokevirtual 43, 3), (17, .aload_n 0, 1)] := dkf (by decide +kernel)
def dX8_step_0 := dkg_X8_5.1
def dX8_step_1 := dkg_X8_5.2.1
def dX8_step_4 := dkg_X8_5.2.2.1
def dX8_step_7 := dkg_X8_5.2.2.2.1
def dX8_step_8 := dkg_X8_5.2.2.2.2.1
def dX8_step_9 := dkg_X8_5.2.2.2.2.2.1
def dX8_step_12 := dkg_X8_5.2.2.2.2.2.2.1
def dX8_step_13 := dkg_X8_5.2.2.2.2.2.2.2.1
def dX8_step_14 := dkg_X8_5.2.2.2.2.2.2.2.2.1
def dX8_step_17 := dkg_X8_5.2.2.2.2.2.2.2.2.2.1
theorem dkg_X8_6 : dkp cX8_step [(18, .getfield 9, 3), (21, .aload_n 1, 1), (22, .getfield 48, 3), (25, .if_icmp .ge 81, 3), (28, .aload_n 1, 1), (29, .aload_n 0, 1), (30, .getfield 9, 3), (33, .invokevirtual 53, 3), (36, .bipush 10, 2), (38, .if_icmp .eq 68, 3)] := dkf (by decide +kernel)
def dX8_step_18 := dkg_X8_6.1
def dX8_step_21 := dkg_X8_6.2.1
def dX8_step_22 := dkg_X8_6.2.2.1
def dX8_step_25 := dkg_X8_6.2.2.2.1
def dX8_step_28 := dkg_X8_6.2.2.2.2.1
def dX8_step_29 := dkg_X8_6.2.2.2.2.2.1
def dX8_step_30 := dkg_X8_6.2.2.2.2.2.2.1
def dX8_step_33 := dkg_X8_6.2.2.2.2.2.2.2.1
def dX8_step_36 := dkg_X8_6.2.2.2.2.2.2.2.2.1
def dX8_step_38 := dkg_X8_6.2.2.2.2.2.2.2.2.2.1
theorem dkg_X8_7 : dkp cX8_step [(41, .aload_n 1, 1), (42, .aload_n 0, 1), (43, .getfield 9, 3), (46, .invokevirtual 53, 3), (49, .istore_n 3, 1), (50, .iload_n 3, 1), (51, .bipush 32, 2), (53, .if_icmp .ne 12, 3), (56, .aload_n 2, 1), (57, .getfield 56, 3)] := dkf (by decide +kernel)
def dX8_step_41 := dkg_X8_7.1
def dX8_step_42 := dkg_X8_7.2.1
def dX8_step_43 := dkg_X8_7.2.2.1
def dX8_step_46 := dkg_X8_7.2.2.2.1
def dX8_step_49 := dkg_X8_7.2.2.2.2.1
def dX8_step_50 := dkg_X8_7.2.2.2.2.2.1
def dX8_step_51 := dkg_X8_7.2.2.2.2.2.2.1
def dX8_step_53 := dkg_X8_7.2.2.2.2.2.2.2.1
def dX8_step_56 := dkg_X8_7.2.2.2.2.2.2.2.2.1
def dX8_step_57 := dkg_X8_7.2.2.2.2.2.2.2.2.2.1
theorem dkg_X8_8 : dkp cX8_step [(60, .ifCond .le 5, 3), (63, .iconst 2, 1), (64, .ireturn, 1), (65, .iload_n 3, 1), (66, .bipush 126, 2), (68, .if_icmp .ne 10, 3), (71, .aload_n 2, 1), (72, .invokevirtual 57, 3), (75, .goto 18, 3), (78, .iload_n 3, 1)] := dkf (by decide +kernel)
def dX8_step_60 := dkg_X8_8.1
def dX8_step_63 := dkg_X8_8.2.1
def dX8_step_64 := dkg_X8_8.2.2.1
def dX8_step_65 := dkg_X8_8.2.2.2.1
def dX8_step_66 := dkg_X8_8.2.2.2.2.1
def dX8_step_68 := dkg_X8_8.2.2.2.2.2.1
def dX8_step_71 := dkg_X8_8.2.2.2.2.2.2.1
def dX8_step_72 := dkg_X8_8.2.2.2.2.2.2.2.1
def dX8_step_75 := dkg_X8_8.2.2.2.2.2.2.2.2.1
def dX8_step_78 := dkg_X8_8.2.2.2.2.2.2.2.2.2.1
theorem dkg_X8_9 : dkp cX8_step [(79, .bipush 32, 2), (81, .if_icmp .eq 12, 3), (84, .aload_n 2, 1), (85, .iload_n 3, 1), (86, .aload_n 0, 1), (87, .getfield 9, 3), (90, .invokevirtual 60, 3), (93, .aload_n 0, 1), (94, .dup, 1), (95, .getfield 9, 3)] := dkf (by decide +kernel)
def dX8_step_79 := dkg_X8_9.1
def dX8_step_81 := dkg_X8_9.2.1
def dX8_step_84 := dkg_X8_9.2.2.1
def dX8_step_85 := dkg_X8_9.2.2.2.1
def dX8_step_86 := dkg_X8_9.2.2.2.2.1
def dX8_step_87 := dkg_X8_9.2.2.2.2.2.1
def dX8_step_90 := dkg_X8_9.2.2.2.2.2.2.1
def dX8_step_93 := dkg_X8_9.2.2.2.2.2.2.2.1
def dX8_step_94 := dkg_X8_9.2.2.2.2.2.2.2.2.1
def dX8_step_95 := dkg_X8_9.2.2.2.2.2.2.2.2.2.1
theorem dkg_X8_10 : dkp cX8_step [(98, .iconst 1, 1), (99, .iadd, 1), (100, .putfield 9, 3), (103, .goto (-86), 3), (106, .aload_n 2, 1), (107, .getfield 56, 3), (110, .ifCond .le 5, 3), (113, .iconst 2, 1), (114, .ireturn, 1), (115, .aload_n 0, 1)] := dkf (by decide +kernel)
def dX8_step_98 := dkg_X8_10.1
def dX8_step_99 := dkg_X8_10.2.1
def dX8_step_100 := dkg_X8_10.2.2.1
def dX8_step_103 := dkg_X8_10.2.2.2.1
def dX8_step_106 := dkg_X8_10.2.2.2.2.1
def dX8_step_107 := dkg_X8_10.2.2.2.2.2.1
def dX8_step_110 := dkg_X8_10.2.2.2.2.2.2.1
def dX8_step_113 := dkg_X8_10.2.2.2.2.2.2.2.1
def dX8_step_114 := dkg_X8_10.2.2.2.2.2.2.2.2.1
def dX8_step_115 := dkg_X8_10.2.2.2.2.2.2.2.2.2.1
theorem dkg_X8_11 : dkp cX8_step [(116, .iconst 0, 1), (117, .putfield 15, 3), (120, .aload_n 0, 1), (121, .dup, 1), (122, .getfield 9, 3), (125, .iconst 1, 1), (126, .iadd, 1), (127, .putfield 9, 3), (130, .iconst 3, 1), (131, .ireturn, 1)] := dkf (by decide +kernel)
def dX8_step_116 := dkg_X8_11.1
def dX8_step_117 := dkg_X8_11.2.1
def dX8_step_120 := dkg_X8_11.2.2.1
def dX8_step_121 := dkg_X8_11.2.2.2.1
def dX8_step_122 := dkg_X8_11.2.2.2.2.1
def dX8_step_125 := dkg_X8_11.2.2.2.2.2.1
def dX8_step_126 := dkg_X8_11.2.2.2.2.2.2.1
def dX8_step_127 := dkg_X8_11.2.2.2.2.2.2.2.1
def dX8_step_130 := dkg_X8_11.2.2.2.2.2.2.2.2.1
def dX8_step_131 := dkg_X8_11.2.2.2.2.2.2.2.2.2.1
theorem dkg_X8_12 : dkp cX8_enterLine [(0, .aload_n 0, 1), (1, .getfield 9, 3), (4, .aload_n 1, 1), (5, .getfield 48, 3), (8, .if_icmp .lt 5, 3), (11, .iconst 0, 1), (12, .ireturn, 1), (13, .aload_n 0, 1), (14, .iconst 1, 1), (15, .putfield 15, 3)] := dkf (by decide +kernel)
def dX8_enterLine_0 := dkg_X8_12.1
def dX8_enterLine_1 := dkg_X8_12.2.1
def dX8_enterLine_4 := dkg_X8_12.2.2.1
def dX8_enterLine_5 := dkg_X8_12.2.2.2.1
def dX8_enterLine_8 := dkg_X8_12.2.2.2.2.1
def dX8_enterLine_11 := dkg_X8_12.2.2.2.2.2.1
def dX8_enterLine_12 := dkg_X8_12.2.2.2.2.2.2.1
def dX8_enterLine_13 := dkg_X8_12.2.2.2.2.2.2.2.1
def dX8_enterLine_14 := dkg_X8_12.2.2.2.2.2.2.2.2.1
def dX8_enterLine_15 := dkg_X8_12.2.2.2.2.2.2.2.2.2.1
theorem dkg_X8_13 : dkp cX8_enterLine [(18, .aload_n 0, 1), (19, .aload_n 1, 1), (20, .aload_n 0, 1), (21, .getfield 9, 3), (24, .invokevirtual 53, 3), (27, .bipush 94, 2), (29, .if_icmp .ne 7, 3), (32, .iconst 1, 1), (33, .goto 4, 3), (36, .iconst 0, 1)] := dkf (by decide +kernel)
def dX8_enterLine_18 := dkg_X8_13.1
def dX8_enterLine_19 := dkg_X8_13.2.1
def dX8_enterLine_20 := dkg_X8_13.2.2.1
def dX8_enterLine_21 := dkg_X8_13.2.2.2.1
def dX8_enterLine_24 := dkg_X8_13.2.2.2.2.1
def dX8_enterLine_27 := dkg_X8_13.2.2.2.2.2.1
def dX8_enterLine_29 := dkg_X8_13.2.2.2.2.2.2.1
def dX8_enterLine_32 := dkg_X8_13.2.2.2.2.2.2.2.1
def dX8_enterLine_33 := dkg_X8_13.2.2.2.2.2.2.2.2.1
def dX8_enterLine_36 := dkg_X8_13.2.2.2.2.2.2.2.2.2.1
theorem dkg_X8_14 : dkp cX8_enterLine [(37, .putfield 19, 3), (40, .aload_n 0, 1), (41, .dup, 1), (42, .getfield 9, 3), (45, .aload_n 0, 1), (46, .getfield 19, 3), (49, .ifCond .eq 7, 3), (52, .iconst 1, 1), (53, .goto 4, 3), (56, .iconst 0, 1)] := dkf (by decide +kernel)
def dX8_enterLine_37 := dkg_X8_14.1
def dX8_enterLine_40 := dkg_X8_14.2.1
def dX8_enterLine_41 := dkg_X8_14.2.2.1
def dX8_enterLine_42 := dkg_X8_14.2.2.2.1
def dX8_enterLine_45 := dkg_X8_14.2.2.2.2.1
def dX8_enterLine_46 := dkg_X8_14.2.2.2.2.2.1
def dX8_enterLine_49 := dkg_X8_14.2.2.2.2.2.2.1
def dX8_enterLine_52 := dkg_X8_14.2.2.2.2.2.2.2.1
def dX8_enterLine_53 := dkg_X8_14.2.2.2.2.2.2.2.2.1
def dX8_enterLine_56 := dkg_X8_14.2.2.2.2.2.2.2.2.2.1
theorem dkg_X8_15 : dkp cX8_enterLine [(57, .iadd, 1), (58, .putfield 9, 3), (61, .iconst 1, 1), (62, .ireturn, 1)] := dkf (by decide +kernel)
def dX8_enterLine_57 := dkg_X8_15.1
def dX8_enterLine_58 := dkg_X8_15.2.1
def dX8_enterLine_61 := dkg_X8_15.2.2.1
def dX8_enterLine_62 := dkg_X8_15.2.2.2.1
theorem dkg_X8_16 : dkp cX8_gatherAlphabet [(0, .iconst 0, 1), (1, .istore_n 3, 1), (2, .iload_n 3, 1), (3, .bipush 125, 2), (5, .if_icmp .gt 16, 3), (8, .aload_n 0, 1), (9, .getfield 22, 3), (12, .iload_n 3, 1), (13, .iconst 0, 1), (14, .bastore, 1)] := dkf (by decide +kernel)
def dX8_gatherAlphabet_0 := dkg_X8_16.1
def dX8_gatherAlphabet_1 := dkg_X8_16.2.1
def dX8_gatherAlphabet_2 := dkg_X8_16.2.2.1
def dX8_gatherAlphabet_3 := dkg_X8_16.2.2.2.1
def dX8_gatherAlphabet_5 := dkg_X8_16.2.2.2.2.1
def dX8_gatherAlphabet_8 := dkg_X8_16.2.2.2.2.2.1
def dX8_gatherAlphabet_9 := dkg_X8_16.2.2.2.2.2.2.1
def dX8_gatherAlphabet_12 := dkg_X8_16.2.2.2.2.2.2.2.1
def dX8_gatherAlphabet_13 := dkg_X8_16.2.2.2.2.2.2.2.2.1
def dX8_gatherAlphabet_14 := dkg_X8_16.2.2.2.2.2.2.2.2.2.1
theorem dkg_X8_17 : dkp cX8_gatherAlphabet [(15, .iinc 3 1, 3), (18, .goto (-16), 3), (21, .aload_n 0, 1), (22, .aload_n 1, 1), (23, .getfield 64, 3), (26, .invokevirtual 70, 3), (29, .aload_n 0, 1), (30, .aload_n 1, 1), (31, .getfield 74, 3), (34, .invokevirtual 70, 3)] := dkf (by decide +kernel)
def dX8_gatherAlphabet_15 := dkg_X8_17.1
def dX8_gatherAlphabet_18 := dkg_X8_17.2.1
def dX8_gatherAlphabet_21 := dkg_X8_17.2.2.1
def dX8_gatherAlphabet_22 := dkg_X8_17.2.2.2.1
def dX8_gatherAlphabet_23 := dkg_X8_17.2.2.2.2.1
def dX8_gatherAlphabet_26 := dkg_X8_17.2.2.2.2.2.1
def dX8_gatherAlphabet_29 := dkg_X8_17.2.2.2.2.2.2.1
def dX8_gatherAlphabet_30 := dkg_X8_17.2.2.2.2.2.2.2.1
def dX8_gatherAlphabet_31 := dkg_X8_17.2.2.2.2.2.2.2.2.1
def dX8_gatherAlphabet_34 := dkg_X8_17.2.2.2.2.2.2.2.2.2.1
theorem dkg_X8_18 : dkp cX8_gatherAlphabet [(37, .iload_n 2, 1), (38, .ifCond .eq 19, 3), (41, .aload_n 0, 1), (42, .getfield 22, 3), (45, .bipush 60, 2), (47, .iconst 1, 1), (48, .bastore, 1), (49, .aload_n 0, 1), (50, .getfield 22, 3), (53, .bipush 62, 2)] := dkf (by decide +kernel)
def dX8_gatherAlphabet_37 := dkg_X8_18.1
def dX8_gatherAlphabet_38 := dkg_X8_18.2.1
def dX8_gatherAlphabet_41 := dkg_X8_18.2.2.1
def dX8_gatherAlphabet_42 := dkg_X8_18.2.2.2.1
def dX8_gatherAlphabet_45 := dkg_X8_18.2.2.2.2.1
def dX8_gatherAlphabet_47 := dkg_X8_18.2.2.2.2.2.1
def dX8_gatherAlphabet_48 := dkg_X8_18.2.2.2.2.2.2.1
def dX8_gatherAlphabet_49 := dkg_X8_18.2.2.2.2.2.2.2.1
def dX8_gatherAlphabet_50 := dkg_X8_18.2.2.2.2.2.2.2.2.1
def dX8_gatherAlphabet_53 := dkg_X8_18.2.2.2.2.2.2.2.2.2.1
theorem dkg_X8_19 : dkp cX8_gatherAlphabet [(55, .iconst 1, 1), (56, .bastore, 1), (57, .bipush 97, 2), (59, .istore_n 3, 1), (60, .iload_n 3, 1), (61, .bipush 122, 2), (63, .if_icmp .gt 44, 3), (66, .aload_n 0, 1), (67, .getfield 22, 3), (70, .iload_n 3, 1)] := dkf (by decide +kernel)
def dX8_gatherAlphabet_55 := dkg_X8_19.1
def dX8_gatherAlphabet_56 := dkg_X8_19.2.1
def dX8_gatherAlphabet_57 := dkg_X8_19.2.2.1
def dX8_gatherAlphabet_59 := dkg_X8_19.2.2.2.1
def dX8_gatherAlphabet_60 := dkg_X8_19.2.2.2.2.1
def dX8_gatherAlphabet_61 := dkg_X8_19.2.2.2.2.2.1
def dX8_gatherAlphabet_63 := dkg_X8_19.2.2.2.2.2.2.1
def dX8_gatherAlphabet_66 := dkg_X8_19.2.2.2.2.2.2.2.1
def dX8_gatherAlphabet_67 := dkg_X8_19.2.2.2.2.2.2.2.2.1
def dX8_gatherAlphabet_70 := dkg_X8_19.2.2.2.2.2.2.2.2.2.1
theorem dkg_X8_20 : dkp cX8_gatherAlphabet [(71, .bipush 32, 2), (73, .isub, 1), (74, .aload_n 0, 1), (75, .getfield 22, 3), (78, .iload_n 3, 1), (79, .bipush 32, 2), (81, .isub, 1), (82, .baload, 1), (83, .ifCond .ne 12, 3), (86, .aload_n 0, 1)] := dkf (by decide +kernel)
def dX8_gatherAlphabet_71 := dkg_X8_20.1
def dX8_gatherAlphabet_73 := dkg_X8_20.2.1
def dX8_gatherAlphabet_74 := dkg_X8_20.2.2.1
def dX8_gatherAlphabet_75 := dkg_X8_20.2.2.2.1
def dX8_gatherAlphabet_78 := dkg_X8_20.2.2.2.2.1
def dX8_gatherAlphabet_79 := dkg_X8_20.2.2.2.2.2.1
def dX8_gatherAlphabet_81 := dkg_X8_20.2.2.2.2.2.2.1
def dX8_gatherAlphabet_82 := dkg_X8_20.2.2.2.2.2.2.2.1
def dX8_gatherAlphabet_83 := dkg_X8_20.2.2.2.2.2.2.2.2.1
def dX8_gatherAlphabet_86 := dkg_X8_20.2.2.2.2.2.2.2.2.2.1
theorem dkg_X8_21 : dkp cX8_gatherAlphabet [(87, .getfield 22, 3), (90, .iload_n 3, 1), (91, .baload, 1), (92, .ifCond .eq 7, 3), (95, .iconst 1, 1), (96, .goto 4, 3), (99, .iconst 0, 1), (100, .bastore, 1), (101, .iinc 3 1, 3), (104, .goto (-44), 3)] := dkf (by decide +kernel)
def dX8_gatherAlphabet_87 := dkg_X8_21.1
def dX8_gatherAlphabet_90 := dkg_X8_21.2.1
def dX8_gatherAlphabet_91 := dkg_X8_21.2.2.1
def dX8_gatherAlphabet_92 := dkg_X8_21.2.2.2.1
def dX8_gatherAlphabet_95 := dkg_X8_21.2.2.2.2.1
def dX8_gatherAlphabet_96 := dkg_X8_21.2.2.2.2.2.1
def dX8_gatherAlphabet_99 := dkg_X8_21.2.2.2.2.2.2.1
def dX8_gatherAlphabet_100 := dkg_X8_21.2.2.2.2.2.2.2.1
def dX8_gatherAlphabet_101 := dkg_X8_21.2.2.2.2.2.2.2.2.1
def dX8_gatherAlphabet_104 := dkg_X8_21.2.2.2.2.2.2.2.2.2.1
theorem dkg_X8_22 : dkp cX8_gatherAlphabet [(107, .aload_n 0, 1), (108, .iconst 0, 1), (109, .putfield 30, 3), (112, .bipush 33, 2), (114, .istore_n 3, 1), (115, .iload_n 3, 1), (116, .bipush 125, 2), (118, .if_icmp .gt 38, 3), (121, .aload_n 0, 1), (122, .getfield 22, 3)] := dkf (by decide +kernel)
def dX8_gatherAlphabet_107 := dkg_X8_22.1
def dX8_gatherAlphabet_108 := dkg_X8_22.2.1
def dX8_gatherAlphabet_109 := dkg_X8_22.2.2.1
def dX8_gatherAlphabet_112 := dkg_X8_22.2.2.2.1
def dX8_gatherAlphabet_114 := dkg_X8_22.2.2.2.2.1
def dX8_gatherAlphabet_115 := dkg_X8_22.2.2.2.2.2.1
def dX8_gatherAlphabet_116 := dkg_X8_22.2.2.2.2.2.2.1
def dX8_gatherAlphabet_118 := dkg_X8_22.2.2.2.2.2.2.2.1
def dX8_gatherAlphabet_121 := dkg_X8_22.2.2.2.2.2.2.2.2.1
def dX8_gatherAlphabet_122 := dkg_X8_22.2.2.2.2.2.2.2.2.2.1
theorem dkg_X8_23 : dkp cX8_gatherAlphabet [(125, .iload_n 3, 1), (126, .baload, 1), (127, .ifCond .eq 23, 3), (130, .aload_n 0, 1), (131, .getfield 26, 3), (134, .aload_n 0, 1), (135, .getfield 30, 3), (138, .iload_n 3, 1), (139, .iastore, 1), (140, .aload_n 0, 1)] := dkf (by decide +kernel)
def dX8_gatherAlphabet_125 := dkg_X8_23.1
def dX8_gatherAlphabet_126 := dkg_X8_23.2.1
def dX8_gatherAlphabet_127 := dkg_X8_23.2.2.1
def dX8_gatherAlphabet_130 := dkg_X8_23.2.2.2.1
def dX8_gatherAlphabet_131 := dkg_X8_23.2.2.2.2.1
def dX8_gatherAlphabet_134 := dkg_X8_23.2.2.2.2.2.1
def dX8_gatherAlphabet_135 := dkg_X8_23.2.2.2.2.2.2.1
def dX8_gatherAlphabet_138 := dkg_X8_23.2.2.2.2.2.2.2.1
def dX8_gatherAlphabet_139 := dkg_X8_23.2.2.2.2.2.2.2.2.1
def dX8_gatherAlphabet_140 := dkg_X8_23.2.2.2.2.2.2.2.2.2.1
theorem dkg_X8_24 : dkp cX8_gatherAlphabet [(141, .dup, 1), (142, .getfield 30, 3), (145, .iconst 1, 1), (146, .iadd, 1), (147, .putfield 30, 3), (150, .iinc 3 1, 3), (153, .goto (-38), 3), (156, .return_, 1)] := dkf (by decide +kernel)
def dX8_gatherAlphabet_141 := dkg_X8_24.1
def dX8_gatherAlphabet_142 := dkg_X8_24.2.1
def dX8_gatherAlphabet_145 := dkg_X8_24.2.2.1
def dX8_gatherAlphabet_146 := dkg_X8_24.2.2.2.1
def dX8_gatherAlphabet_147 := dkg_X8_24.2.2.2.2.1
def dX8_gatherAlphabet_150 := dkg_X8_24.2.2.2.2.2.1
def dX8_gatherAlphabet_153 := dkg_X8_24.2.2.2.2.2.2.1
def dX8_gatherAlphabet_156 := dkg_X8_24.2.2.2.2.2.2.2.1
theorem dkg_X8_25 : dkp cX8_markLetters [(0, .iconst 0, 1), (1, .istore_n 2, 1), (2, .iload_n 2, 1), (3, .aload_n 1, 1), (4, .invokevirtual 77, 3), (7, .if_icmp .ge 63, 3), (10, .aload_n 1, 1), (11, .iload_n 2, 1), (12, .invokevirtual 82, 3), (15, .checkcast 86, 3)] := dkf (by decide +kernel)
def dX8_markLetters_0 := dkg_X8_25.1
def dX8_markLetters_1 := dkg_X8_25.2.1
def dX8_markLetters_2 := dkg_X8_25.2.2.1
def dX8_markLetters_3 := dkg_X8_25.2.2.2.1
def dX8_markLetters_4 := dkg_X8_25.2.2.2.2.1
def dX8_markLetters_7 := dkg_X8_25.2.2.2.2.2.1
def dX8_markLetters_10 := dkg_X8_25.2.2.2.2.2.2.1
def dX8_markLetters_11 := dkg_X8_25.2.2.2.2.2.2.2.1
def dX8_markLetters_12 := dkg_X8_25.2.2.2.2.2.2.2.2.1
def dX8_markLetters_15 := dkg_X8_25.2.2.2.2.2.2.2.2.2.1
theorem dkg_X8_26 : dkp cX8_markLetters [(18, .getfield 88, 3), (21, .astore_n 3, 1), (22, .iconst 0, 1), (23, .istore 4, 2), (25, .iload 4, 2), (27, .aload_n 3, 1), (28, .arraylength, 1), (29, .if_icmp .ge 35, 3), (32, .aload_n 3, 1), (33, .iload 4, 2)] := dkf (by decide +kernel)
def dX8_markLetters_18 := dkg_X8_26.1
def dX8_markLetters_21 := dkg_X8_26.2.1
def dX8_markLetters_22 := dkg_X8_26.2.2.1
def dX8_markLetters_23 := dkg_X8_26.2.2.2.1
def dX8_markLetters_25 := dkg_X8_26.2.2.2.2.1
def dX8_markLetters_27 := dkg_X8_26.2.2.2.2.2.1
def dX8_markLetters_28 := dkg_X8_26.2.2.2.2.2.2.1
def dX8_markLetters_29 := dkg_X8_26.2.2.2.2.2.2.2.1
def dX8_markLetters_32 := dkg_X8_26.2.2.2.2.2.2.2.2.1
def dX8_markLetters_33 := dkg_X8_26.2.2.2.2.2.2.2.2.2.1
theorem dkg_X8_27 : dkp cX8_markLetters [(35, .iaload, 1), (36, .ifCond .lt 22, 3), (39, .aload_n 3, 1), (40, .iload 4, 2), (42, .iaload, 1), (43, .bipush 125, 2), (45, .if_icmp .gt 13, 3), (48, .aload_n 0, 1), (49, .getfield 22, 3), (52, .aload_n 3, 1)] := dkf (by decide +kernel)
def dX8_markLetters_35 := dkg_X8_27.1
def dX8_markLetters_36 := dkg_X8_27.2.1
def dX8_markLetters_39 := dkg_X8_27.2.2.1
def dX8_markLetters_40 := dkg_X8_27.2.2.2.1
def dX8_markLetters_42 := dkg_X8_27.2.2.2.2.1
def dX8_markLetters_43 := dkg_X8_27.2.2.2.2.2.1
def dX8_markLetters_45 := dkg_X8_27.2.2.2.2.2.2.1
def dX8_markLetters_48 := dkg_X8_27.2.2.2.2.2.2.2.1
def dX8_markLetters_49 := dkg_X8_27.2.2.2.2.2.2.2.2.1
def dX8_markLetters_52 := dkg_X8_27.2.2.2.2.2.2.2.2.2.1
theorem dkg_X8_28 : dkp cX8_markLetters [(53, .iload 4, 2), (55, .iaload, 1), (56, .iconst 1, 1), (57, .bastore, 1), (58, .iinc 4 1, 3), (61, .goto (-36), 3), (64, .iinc 2 1, 3), (67, .goto (-65), 3), (70, .return_, 1)] := dkf (by decide +kernel)
def dX8_markLetters_53 := dkg_X8_28.1
def dX8_markLetters_55 := dkg_X8_28.2.1
def dX8_markLetters_56 := dkg_X8_28.2.2.1
def dX8_markLetters_57 := dkg_X8_28.2.2.2.1
def dX8_markLetters_58 := dkg_X8_28.2.2.2.2.1
def dX8_markLetters_61 := dkg_X8_28.2.2.2.2.2.1
def dX8_markLetters_64 := dkg_X8_28.2.2.2.2.2.2.1
def dX8_markLetters_67 := dkg_X8_28.2.2.2.2.2.2.2.1
def dX8_markLetters_70 := dkg_X8_28.2.2.2.2.2.2.2.2.1
theorem dkg_X8_29 : dkp cX8_startSpelling [(0, .aload_n 0, 1), (1, .iconst 0, 1), (2, .putfield 36, 3), (5, .aload_n 0, 1), (6, .getfield 30, 3), (9, .ifCond .le 15, 3), (12, .aload_n 0, 1), (13, .iload_n 1, 1), (14, .invokevirtual 91, 3), (17, .ifCond .eq 7, 3)] := dkf (by decide +kernel)
def dX8_startSpelling_0 := dkg_X8_29.1
def dX8_startSpelling_1 := dkg_X8_29.2.1
def dX8_startSpelling_2 := dkg_X8_29.2.2.1
def dX8_startSpelling_5 := dkg_X8_29.2.2.2.1
def dX8_startSpelling_6 := dkg_X8_29.2.2.2.2.1
def dX8_startSpelling_9 := dkg_X8_29.2.2.2.2.2.1
def dX8_startSpelling_12 := dkg_X8_29.2.2.2.2.2.2.1
def dX8_startSpelling_13 := dkg_X8_29.2.2.2.2.2.2.2.1
def dX8_startSpelling_14 := dkg_X8_29.2.2.2.2.2.2.2.2.1
def dX8_startSpelling_17 := dkg_X8_29.2.2.2.2.2.2.2.2.2.1
theorem dkg_X8_30 : dkp cX8_startSpelling [(20, .iconst 1, 1), (21, .goto 4, 3), (24, .iconst 0, 1), (25, .ireturn, 1)] := dkf (by decide +kernel)
def dX8_startSpelling_20 := dkg_X8_30.1
def dX8_startSpelling_21 := dkg_X8_30.2.1
def dX8_startSpelling_24 := dkg_X8_30.2.2.1
def dX8_startSpelling_25 := dkg_X8_30.2.2.2.1
theorem dkg_X8_31 : dkp cX8_lengthen [(0, .aload_n 0, 1), (1, .getfield 36, 3), (4, .iload_n 1, 1), (5, .if_icmp .ge 12, 3), (8, .aload_n 0, 1), (9, .getfield 36, 3), (12, .bipush 6, 2), (14, .if_icmp .lt 5, 3), (17, .iconst 0, 1), (18, .ireturn, 1)] := dkf (by decide +kernel)
def dX8_lengthen_0 := dkg_X8_31.1
def dX8_lengthen_1 := dkg_X8_31.2.1
def dX8_lengthen_4 := dkg_X8_31.2.2.1
def dX8_lengthen_5 := dkg_X8_31.2.2.2.1
def dX8_lengthen_8 := dkg_X8_31.2.2.2.2.1
def dX8_lengthen_9 := dkg_X8_31.2.2.2.2.2.1
def dX8_lengthen_12 := dkg_X8_31.2.2.2.2.2.2.1
def dX8_lengthen_14 := dkg_X8_31.2.2.2.2.2.2.2.1
def dX8_lengthen_17 := dkg_X8_31.2.2.2.2.2.2.2.2.1
def dX8_lengthen_18 := dkg_X8_31.2.2.2.2.2.2.2.2.2.1
theorem dkg_X8_32 : dkp cX8_lengthen [(19, .aload_n 0, 1), (20, .dup, 1), (21, .getfield 36, 3), (24, .iconst 1, 1), (25, .iadd, 1), (26, .putfield 36, 3), (29, .aload_n 0, 1), (30, .getfield 33, 3), (33, .iconst 0, 1), (34, .invokestatic 95, 3)] := dkf (by decide +kernel)
def dX8_lengthen_19 := dkg_X8_32.1
def dX8_lengthen_20 := dkg_X8_32.2.1
def dX8_lengthen_21 := dkg_X8_32.2.2.1
def dX8_lengthen_24 := dkg_X8_32.2.2.2.1
def dX8_lengthen_25 := dkg_X8_32.2.2.2.2.1
def dX8_lengthen_26 := dkg_X8_32.2.2.2.2.2.1
def dX8_lengthen_29 := dkg_X8_32.2.2.2.2.2.2.1
def dX8_lengthen_30 := dkg_X8_32.2.2.2.2.2.2.2.1
def dX8_lengthen_33 := dkg_X8_32.2.2.2.2.2.2.2.2.1
def dX8_lengthen_34 := dkg_X8_32.2.2.2.2.2.2.2.2.2.1
theorem dkg_X8_33 : dkp cX8_lengthen [(37, .iconst 1, 1), (38, .ireturn, 1)] := dkf (by decide +kernel)
def dX8_lengthen_37 := dkg_X8_33.1
def dX8_lengthen_38 := dkg_X8_33.2.1
theorem dkg_X8_34 : dkp cX8_spell [(0, .aload_n 1, 1), (1, .invokevirtual 43, 3), (4, .iconst 0, 1), (5, .istore_n 2, 1), (6, .iload_n 2, 1), (7, .aload_n 0, 1), (8, .getfield 36, 3), (11, .if_icmp .ge 25, 3), (14, .aload_n 1, 1), (15, .aload_n 0, 1)] := dkf (by decide +kernel)
def dX8_spell_0 := dkg_X8_34.1
def dX8_spell_1 := dkg_X8_34.2.1
def dX8_spell_4 := dkg_X8_34.2.2.1
def dX8_spell_5 := dkg_X8_34.2.2.2.1
def dX8_spell_6 := dkg_X8_34.2.2.2.2.1
def dX8_spell_7 := dkg_X8_34.2.2.2.2.2.1
def dX8_spell_8 := dkg_X8_34.2.2.2.2.2.2.1
def dX8_spell_11 := dkg_X8_34.2.2.2.2.2.2.2.1
def dX8_spell_14 := dkg_X8_34.2.2.2.2.2.2.2.2.1
def dX8_spell_15 := dkg_X8_34.2.2.2.2.2.2.2.2.2.1
theorem dkg_X8_35 : dkp cX8_spell [(16, .getfield 26, 3), (19, .aload_n 0, 1), (20, .getfield 33, 3), (23, .iload_n 2, 1), (24, .iaload, 1), (25, .iaload, 1), (26, .iload_n 2, 1), (27, .invokevirtual 60, 3), (30, .iinc 2 1, 3), (33, .goto (-27), 3)] := dkf (by decide +kernel)
def dX8_spell_16 := dkg_X8_35.1
def dX8_spell_19 := dkg_X8_35.2.1
def dX8_spell_20 := dkg_X8_35.2.2.1
def dX8_spell_23 := dkg_X8_35.2.2.2.1
def dX8_spell_24 := dkg_X8_35.2.2.2.2.1
def dX8_spell_25 := dkg_X8_35.2.2.2.2.2.1
def dX8_spell_26 := dkg_X8_35.2.2.2.2.2.2.1
def dX8_spell_27 := dkg_X8_35.2.2.2.2.2.2.2.1
def dX8_spell_30 := dkg_X8_35.2.2.2.2.2.2.2.2.1
def dX8_spell_33 := dkg_X8_35.2.2.2.2.2.2.2.2.2.1
theorem dkg_X8_36 : dkp cX8_spell [(36, .return_, 1)] := dkf (by decide +kernel)
def dX8_spell_36 := dkg_X8_36.1
theorem dkg_X8_37 : dkp cX8_spellNext [(0, .aload_n 0, 1), (1, .getfield 36, 3), (4, .iconst 1, 1), (5, .isub, 1), (6, .istore_n 2, 1), (7, .iload_n 2, 1), (8, .ifCond .lt 41, 3), (11, .aload_n 0, 1), (12, .getfield 33, 3), (15, .iload_n 2, 1)] := dkf (by decide +kernel)
def dX8_spellNext_0 := dkg_X8_37.1
def dX8_spellNext_1 := dkg_X8_37.2.1
def dX8_spellNext_4 := dkg_X8_37.2.2.1
def dX8_spellNext_5 := dkg_X8_37.2.2.2.1
def dX8_spellNext_6 := dkg_X8_37.2.2.2.2.1
def dX8_spellNext_7 := dkg_X8_37.2.2.2.2.2.1
def dX8_spellNext_8 := dkg_X8_37.2.2.2.2.2.2.1
def dX8_spellNext_11 := dkg_X8_37.2.2.2.2.2.2.2.1
def dX8_spellNext_12 := dkg_X8_37.2.2.2.2.2.2.2.2.1
def dX8_spellNext_15 := dkg_X8_37.2.2.2.2.2.2.2.2.2.1
theorem dkg_X8_38 : dkp cX8_spellNext [(16, .dup2, 1), (17, .iaload, 1), (18, .iconst 1, 1), (19, .iadd, 1), (20, .iastore, 1), (21, .aload_n 0, 1), (22, .getfield 33, 3), (25, .iload_n 2, 1), (26, .iaload, 1), (27, .aload_n 0, 1)] := dkf (by decide +kernel)
def dX8_spellNext_16 := dkg_X8_38.1
def dX8_spellNext_17 := dkg_X8_38.2.1
def dX8_spellNext_18 := dkg_X8_38.2.2.1
def dX8_spellNext_19 := dkg_X8_38.2.2.2.1
def dX8_spellNext_20 := dkg_X8_38.2.2.2.2.1
def dX8_spellNext_21 := dkg_X8_38.2.2.2.2.2.1
def dX8_spellNext_22 := dkg_X8_38.2.2.2.2.2.2.1
def dX8_spellNext_25 := dkg_X8_38.2.2.2.2.2.2.2.1
def dX8_spellNext_26 := dkg_X8_38.2.2.2.2.2.2.2.2.1
def dX8_spellNext_27 := dkg_X8_38.2.2.2.2.2.2.2.2.2.1
theorem dkg_X8_39 : dkp cX8_spellNext [(28, .getfield 30, 3), (31, .if_icmp .ge 5, 3), (34, .iconst 1, 1), (35, .ireturn, 1), (36, .aload_n 0, 1), (37, .getfield 33, 3), (40, .iload_n 2, 1), (41, .iconst 0, 1), (42, .iastore, 1), (43, .iinc 2 (-1), 3)] := dkf (by decide +kernel)
def dX8_spellNext_28 := dkg_X8_39.1
def dX8_spellNext_31 := dkg_X8_39.2.1
def dX8_spellNext_34 := dkg_X8_39.2.2.1
def dX8_spellNext_35 := dkg_X8_39.2.2.2.1
def dX8_spellNext_36 := dkg_X8_39.2.2.2.2.1
def dX8_spellNext_37 := dkg_X8_39.2.2.2.2.2.1
def dX8_spellNext_40 := dkg_X8_39.2.2.2.2.2.2.1
def dX8_spellNext_41 := dkg_X8_39.2.2.2.2.2.2.2.1
def dX8_spellNext_42 := dkg_X8_39.2.2.2.2.2.2.2.2.1
def dX8_spellNext_43 := dkg_X8_39.2.2.2.2.2.2.2.2.2.1
theorem dkg_X8_40 : dkp cX8_spellNext [(46, .goto (-39), 3), (49, .aload_n 0, 1), (50, .iload_n 1, 1), (51, .invokevirtual 91, 3), (54, .ireturn, 1)] := dkf (by decide +kernel)
def dX8_spellNext_46 := dkg_X8_40.1
def dX8_spellNext_49 := dkg_X8_40.2.1
def dX8_spellNext_50 := dkg_X8_40.2.2.1
def dX8_spellNext_51 := dkg_X8_40.2.2.2.1
def dX8_spellNext_54 := dkg_X8_40.2.2.2.2.1
end
section
theorem dkg_X9_0 : dkp cX9_init [(0, .aload_n 0, 1), (1, .invokespecial 3, 3), (4, .aload_n 0, 1), (5, .new 9, 3), (8, .dup, 1), (9, .invokespecial 11, 3), (12, .putfield 12, 3), (15, .aload_n 0, 1), (16, .new 18, 3), (19, .dup, 1)] := dkf (by decide +kernel)
def dX9_init_0 := dkg_X9_0.1
def dX9_init_1 := dkg_X9_0.2.1
def dX9_init_4 := dkg_X9_0.2.2.1
def dX9_init_5 := dkg_X9_0.2.2.2.1
def dX9_init_8 := dkg_X9_0.2.2.2.2.1
def dX9_init_9 := dkg_X9_0.2.2.2.2.2.1
def dX9_init_12 := dkg_X9_0.2.2.2.2.2.2.1
def dX9_init_15 := dkg_X9_0.2.2.2.2.2.2.2.1
def dX9_init_16 := dkg_X9_0.2.2.2.2.2.2.2.2.1
def dX9_init_19 := dkg_X9_0.2.2.2.2.2.2.2.2.2.1
theorem dkg_X9_1 : dkp cX9_init [(20, .sipush 200, 3), (23, .invokespecial 20, 3), (26, .putfield 23, 3), (29, .aload_n 0, 1), (30, .iconst 4, 1), (31, .anewarray 27, 3), (34, .putfield 29, 3), (37, .aload_n 0, 1), (38, .iconst 0, 1), (39, .putfield 33, 3)] := dkf (by decide +kernel)
def dX9_init_20 := dkg_X9_1.1
def dX9_init_23 := dkg_X9_1.2.1
def dX9_init_26 := dkg_X9_1.2.2.1
def dX9_init_29 := dkg_X9_1.2.2.2.1
def dX9_init_30 := dkg_X9_1.2.2.2.2.1
def dX9_init_31 := dkg_X9_1.2.2.2.2.2.1
def dX9_init_34 := dkg_X9_1.2.2.2.2.2.2.1
def dX9_init_37 := dkg_X9_1.2.2.2.2.2.2.2.1
def dX9_init_38 := dkg_X9_1.2.2.2.2.2.2.2.2.1
def dX9_init_39 := dkg_X9_1.2.2.2.2.2.2.2.2.2.1
theorem dkg_X9_2 : dkp cX9_init [(42, .aload_n 0, 1), (43, .iload_n 1, 1), (44, .putfield 37, 3), (47, .aload_n 0, 1), (48, .iload_n 2, 1), (49, .putfield 41, 3), (52, .aload_n 0, 1), (53, .aload_n 3, 1), (54, .putfield 44, 3), (57, .aload_n 0, 1)] := dkf (by decide +kernel)
def dX9_init_42 := dkg_X9_2.1
def dX9_init_43 := dkg_X9_2.2.1
def dX9_init_44 := dkg_X9_2.2.2.1
def dX9_init_47 := dkg_X9_2.2.2.2.1
def dX9_init_48 := dkg_X9_2.2.2.2.2.1
def dX9_init_49 := dkg_X9_2.2.2.2.2.2.1
def dX9_init_52 := dkg_X9_2.2.2.2.2.2.2.1
def dX9_init_53 := dkg_X9_2.2.2.2.2.2.2.2.1
def dX9_init_54 := dkg_X9_2.2.2.2.2.2.2.2.2.1
def dX9_init_57 := dkg_X9_2.2.2.2.2.2.2.2.2.2.1
theorem dkg_X9_3 : dkp cX9_init [(58, .aload 4, 2), (60, .putfield 48, 3), (63, .return_, 1)] := dkf (by decide +kernel)
def dX9_init_58 := dkg_X9_3.1
def dX9_init_60 := dkg_X9_3.2.1
def dX9_init_63 := dkg_X9_3.2.2.1
theorem dkg_X9_4 : dkp cX9_append [(0, .aload_n 0, 1), (1, .getfield 12, 3), (4, .aload_n 1, 1), (5, .invokevirtual 51, 3), (8, .pop, 1), (9, .aload_n 0, 1), (10, .getfield 23, 3), (13, .aload_n 1, 1), (14, .getfield 55, 3), (17, .arraylength, 1)] := dkf (by decide +kernel)
def dX9_append_0 := dkg_X9_4.1
def dX9_append_1 := dkg_X9_4.2.1
def dX9_append_4 := dkg_X9_4.2.2.1
def dX9_append_5 := dkg_X9_4.2.2.2.1
def dX9_append_8 := dkg_X9_4.2.2.2.2.1
def dX9_append_9 := dkg_X9_4.2.2.2.2.2.1
def dX9_append_10 := dkg_X9_4.2.2.2.2.2.2.1
def dX9_append_13 := dkg_X9_4.2.2.2.2.2.2.2.1
def dX9_append_14 := dkg_X9_4.2.2.2.2.2.2.2.2.1
def dX9_append_17 := dkg_X9_4.2.2.2.2.2.2.2.2.2.1
theorem dkg_X9_5 : dkp cX9_append [(18, .ifCond .le 12, 3), (21, .aload_n 1, 1), (22, .getfield 55, 3), (25, .iconst 0, 1), (26, .iaload, 1), (27, .goto 4, 3), (30, .iconst 0, 1), (31, .invokevirtual 59, 3), (34, .return_, 1)] := dkf (by decide +kernel)
def dX9_append_18 := dkg_X9_5.1
def dX9_append_21 := dkg_X9_5.2.1
def dX9_append_22 := dkg_X9_5.2.2.1
def dX9_append_25 := dkg_X9_5.2.2.2.1
def dX9_append_26 := dkg_X9_5.2.2.2.2.1
def dX9_append_27 := dkg_X9_5.2.2.2.2.2.1
def dX9_append_30 := dkg_X9_5.2.2.2.2.2.2.1
def dX9_append_31 := dkg_X9_5.2.2.2.2.2.2.2.1
def dX9_append_34 := dkg_X9_5.2.2.2.2.2.2.2.2.1
theorem dkg_X9_6 : dkp cX9_removeLast [(0, .aload_n 0, 1), (1, .getfield 12, 3), (4, .invokevirtual 61, 3), (7, .ifCond .ne 34, 3), (10, .aload_n 0, 1), (11, .getfield 12, 3), (14, .aload_n 0, 1), (15, .getfield 12, 3), (18, .invokevirtual 65, 3), (21, .iconst 1, 1)] := dkf (by decide +kernel)
def dX9_removeLast_0 := dkg_X9_6.1
def dX9_removeLast_1 := dkg_X9_6.2.1
def dX9_removeLast_4 := dkg_X9_6.2.2.1
def dX9_removeLast_7 := dkg_X9_6.2.2.2.1
def dX9_removeLast_10 := dkg_X9_6.2.2.2.2.1
def dX9_removeLast_11 := dkg_X9_6.2.2.2.2.2.1
def dX9_removeLast_14 := dkg_X9_6.2.2.2.2.2.2.1
def dX9_removeLast_15 := dkg_X9_6.2.2.2.2.2.2.2.1
def dX9_removeLast_18 := dkg_X9_6.2.2.2.2.2.2.2.2.1
def dX9_removeLast_21 := dkg_X9_6.2.2.2.2.2.2.2.2.2.1
theorem dkg_X9_7 : dkp cX9_removeLast [(22, .isub, 1), (23, .invokevirtual 69, 3), (26, .pop, 1), (27, .aload_n 0, 1), (28, .getfield 23, 3), (31, .aload_n 0, 1), (32, .getfield 12, 3), (35, .invokevirtual 65, 3), (38, .invokevirtual 73, 3), (41, .return_, 1)] := dkf (by decide +kernel)
def dX9_removeLast_22 := dkg_X9_7.1
def dX9_removeLast_23 := dkg_X9_7.2.1
def dX9_removeLast_26 := dkg_X9_7.2.2.1
def dX9_removeLast_27 := dkg_X9_7.2.2.2.1
def dX9_removeLast_28 := dkg_X9_7.2.2.2.2.1
def dX9_removeLast_31 := dkg_X9_7.2.2.2.2.2.1
def dX9_removeLast_32 := dkg_X9_7.2.2.2.2.2.2.1
def dX9_removeLast_35 := dkg_X9_7.2.2.2.2.2.2.2.1
def dX9_removeLast_38 := dkg_X9_7.2.2.2.2.2.2.2.2.1
def dX9_removeLast_41 := dkg_X9_7.2.2.2.2.2.2.2.2.2.1
theorem dkg_X9_8 : dkp cX9_mayHave [(0, .iload_n 1, 1), (1, .ifCond .ne 17, 3), (4, .aload_n 0, 1), (5, .getfield 37, 3), (8, .iconst 2, 1), (9, .if_icmp .gt 7, 3), (12, .iconst 1, 1), (13, .goto 4, 3), (16, .iconst 0, 1), (17, .ireturn, 1)] := dkf (by decide +kernel)
def dX9_mayHave_0 := dkg_X9_8.1
def dX9_mayHave_1 := dkg_X9_8.2.1
def dX9_mayHave_4 := dkg_X9_8.2.2.1
def dX9_mayHave_5 := dkg_X9_8.2.2.2.1
def dX9_mayHave_8 := dkg_X9_8.2.2.2.2.1
def dX9_mayHave_9 := dkg_X9_8.2.2.2.2.2.1
def dX9_mayHave_12 := dkg_X9_8.2.2.2.2.2.2.1
def dX9_mayHave_13 := dkg_X9_8.2.2.2.2.2.2.2.1
def dX9_mayHave_16 := dkg_X9_8.2.2.2.2.2.2.2.2.1
def dX9_mayHave_17 := dkg_X9_8.2.2.2.2.2.2.2.2.2.1
theorem dkg_X9_9 : dkp cX9_mayHave [(18, .iload_n 1, 1), (19, .iconst 1, 1), (20, .if_icmp .ne 19, 3), (23, .aload_n 0, 1), (24, .getfield 37, 3), (27, .iconst 2, 1), (28, .if_icmp .ne 7, 3), (31, .iconst 1, 1), (32, .goto 20, 3), (35, .iconst 0, 1)] := dkf (by decide +kernel)
def dX9_mayHave_18 := dkg_X9_9.1
def dX9_mayHave_19 := dkg_X9_9.2.1
def dX9_mayHave_20 := dkg_X9_9.2.2.1
def dX9_mayHave_23 := dkg_X9_9.2.2.2.1
def dX9_mayHave_24 := dkg_X9_9.2.2.2.2.1
def dX9_mayHave_27 := dkg_X9_9.2.2.2.2.2.1
def dX9_mayHave_28 := dkg_X9_9.2.2.2.2.2.2.1
def dX9_mayHave_31 := dkg_X9_9.2.2.2.2.2.2.2.1
def dX9_mayHave_32 := dkg_X9_9.2.2.2.2.2.2.2.2.1
def dX9_mayHave_35 := dkg_X9_9.2.2.2.2.2.2.2.2.2.1
theorem dkg_X9_10 : dkp cX9_mayHave [(36, .goto 16, 3), (39, .aload_n 0, 1), (40, .getfield 37, 3), (43, .iconst 5, 1), (44, .if_icmp .ne 7, 3), (47, .iconst 1, 1), (48, .goto 4, 3), (51, .iconst 0, 1), (52, .ireturn, 1)] := dkf (by decide +kernel)
def dX9_mayHave_36 := dkg_X9_10.1
def dX9_mayHave_39 := dkg_X9_10.2.1
def dX9_mayHave_40 := dkg_X9_10.2.2.1
def dX9_mayHave_43 := dkg_X9_10.2.2.2.1
def dX9_mayHave_44 := dkg_X9_10.2.2.2.2.1
def dX9_mayHave_47 := dkg_X9_10.2.2.2.2.2.1
def dX9_mayHave_48 := dkg_X9_10.2.2.2.2.2.2.1
def dX9_mayHave_51 := dkg_X9_10.2.2.2.2.2.2.2.1
def dX9_mayHave_52 := dkg_X9_10.2.2.2.2.2.2.2.2.1
theorem dkg_X9_11 : dkp cX9_isWhole [(0, .aload_n 0, 1), (1, .invokestatic 76, 3), (4, .ifCond .eq 17, 3), (7, .aload_n 0, 1), (8, .getfield 48, 3), (11, .invokestatic 76, 3), (14, .ifCond .eq 7, 3), (17, .iconst 1, 1), (18, .goto 4, 3), (21, .iconst 0, 1)] := dkf (by decide +kernel)
def dX9_isWhole_0 := dkg_X9_11.1
def dX9_isWhole_1 := dkg_X9_11.2.1
def dX9_isWhole_4 := dkg_X9_11.2.2.1
def dX9_isWhole_7 := dkg_X9_11.2.2.2.1
def dX9_isWhole_8 := dkg_X9_11.2.2.2.2.1
def dX9_isWhole_11 := dkg_X9_11.2.2.2.2.2.1
def dX9_isWhole_14 := dkg_X9_11.2.2.2.2.2.2.1
def dX9_isWhole_17 := dkg_X9_11.2.2.2.2.2.2.2.1
def dX9_isWhole_18 := dkg_X9_11.2.2.2.2.2.2.2.2.1
def dX9_isWhole_21 := dkg_X9_11.2.2.2.2.2.2.2.2.2.1
theorem dkg_X9_12 : dkp cX9_isWhole [(22, .ireturn, 1)] := dkf (by decide +kernel)
def dX9_isWhole_22 := dkg_X9_12.1
theorem dkg_X9_13 : dkp cX9_isUpright [(0, .aload_n 0, 1), (1, .astore_n 1, 1), (2, .aload_n 1, 1), (3, .ifnull 20, 3), (6, .aload_n 1, 1), (7, .getfield 33, 3), (10, .ifCond .eq 5, 3), (13, .iconst 0, 1), (14, .ireturn, 1), (15, .aload_n 1, 1)] := dkf (by decide +kernel)
def dX9_isUpright_0 := dkg_X9_13.1
def dX9_isUpright_1 := dkg_X9_13.2.1
def dX9_isUpright_2 := dkg_X9_13.2.2.1
def dX9_isUpright_3 := dkg_X9_13.2.2.2.1
def dX9_isUpright_6 := dkg_X9_13.2.2.2.2.1
def dX9_isUpright_7 := dkg_X9_13.2.2.2.2.2.1
def dX9_isUpright_10 := dkg_X9_13.2.2.2.2.2.2.1
def dX9_isUpright_13 := dkg_X9_13.2.2.2.2.2.2.2.1
def dX9_isUpright_14 := dkg_X9_13.2.2.2.2.2.2.2.2.1
def dX9_isUpright_15 := dkg_X9_13.2.2.2.2.2.2.2.2.2.1
theorem dkg_X9_14 : dkp cX9_isUpright [(16, .getfield 44, 3), (19, .astore_n 1, 1), (20, .goto (-18), 3), (23, .iconst 1, 1), (24, .ireturn, 1)] := dkf (by decide +kernel)
def dX9_isUpright_16 := dkg_X9_14.1
def dX9_isUpright_19 := dkg_X9_14.2.1
def dX9_isUpright_20 := dkg_X9_14.2.2.1
def dX9_isUpright_23 := dkg_X9_14.2.2.2.1
def dX9_isUpright_24 := dkg_X9_14.2.2.2.2.1
theorem dkg_X9_15 : dkp cX9_hasShort [(0, .aload_n 0, 1), (1, .invokestatic 80, 3), (4, .ifCond .ne 13, 3), (7, .aload_n 0, 1), (8, .getfield 48, 3), (11, .invokestatic 80, 3), (14, .ifCond .eq 7, 3), (17, .iconst 1, 1), (18, .goto 4, 3), (21, .iconst 0, 1)] := dkf (by decide +kernel)
def dX9_hasShort_0 := dkg_X9_15.1
def dX9_hasShort_1 := dkg_X9_15.2.1
def dX9_hasShort_4 := dkg_X9_15.2.2.1
def dX9_hasShort_7 := dkg_X9_15.2.2.2.1
def dX9_hasShort_8 := dkg_X9_15.2.2.2.2.1
def dX9_hasShort_11 := dkg_X9_15.2.2.2.2.2.1
def dX9_hasShort_14 := dkg_X9_15.2.2.2.2.2.2.1
def dX9_hasShort_17 := dkg_X9_15.2.2.2.2.2.2.2.1
def dX9_hasShort_18 := dkg_X9_15.2.2.2.2.2.2.2.2.1
def dX9_hasShort_21 := dkg_X9_15.2.2.2.2.2.2.2.2.2.1
theorem dkg_X9_16 : dkp cX9_hasShort [(22, .ireturn, 1)] := dkf (by decide +kernel)
def dX9_hasShort_22 := dkg_X9_16.1
theorem dkg_X9_17 : dkp cX9_isOverShort [(0, .aload_n 0, 1), (1, .astore_n 1, 1), (2, .aload_n 1, 1), (3, .ifnull 21, 3), (6, .aload_n 1, 1), (7, .getfield 37, 3), (10, .iconst 3, 1), (11, .if_icmp .ne 5, 3), (14, .iconst 1, 1), (15, .ireturn, 1)] := dkf (by decide +kernel)
def dX9_isOverShort_0 := dkg_X9_17.1
def dX9_isOverShort_1 := dkg_X9_17.2.1
def dX9_isOverShort_2 := dkg_X9_17.2.2.1
def dX9_isOverShort_3 := dkg_X9_17.2.2.2.1
def dX9_isOverShort_6 := dkg_X9_17.2.2.2.2.1
def dX9_isOverShort_7 := dkg_X9_17.2.2.2.2.2.1
def dX9_isOverShort_10 := dkg_X9_17.2.2.2.2.2.2.1
def dX9_isOverShort_11 := dkg_X9_17.2.2.2.2.2.2.2.1
def dX9_isOverShort_14 := dkg_X9_17.2.2.2.2.2.2.2.2.1
def dX9_isOverShort_15 := dkg_X9_17.2.2.2.2.2.2.2.2.2.1
theorem dkg_X9_18 : dkp cX9_isOverShort [(16, .aload_n 1, 1), (17, .getfield 44, 3), (20, .astore_n 1, 1), (21, .goto (-19), 3), (24, .iconst 0, 1), (25, .ireturn, 1)] := dkf (by decide +kernel)
def dX9_isOverShort_16 := dkg_X9_18.1
def dX9_isOverShort_17 := dkg_X9_18.2.1
def dX9_isOverShort_20 := dkg_X9_18.2.2.1
def dX9_isOverShort_21 := dkg_X9_18.2.2.2.1
def dX9_isOverShort_24 := dkg_X9_18.2.2.2.2.1
def dX9_isOverShort_25 := dkg_X9_18.2.2.2.2.2.1
end
section
theorem hv2 {p0 p1 q : Prop} (h0 : p0) (h1 : p1) (k : p0 → p1 → q) : q := k h0 h1
theorem hv3 {p0 p1 p2 q : Prop} (h0 : p0) (h1 : p1) (h2 : p2) (k : p0 → p1 → p2 → q) : q := k h0 h1 h2
theorem hv4 {p0 p1 p2 p3 q : Prop} (h0 : p0) (h1 : p1) (h2 : p2) (h3 : p3) (k : p0 → p1 → p2 → p3 → q) : q := k h0 h1 h2 h3
theorem hv5 {p0 p1 p2 p3 p4 q : Prop} (h0 : p0) (h1 : p1) (h2 : p2) (h3 : p3) (h4 : p4) (k : p0 → p1 → p2 → p3 → p4 → q) : q := k h0 h1 h2 h3 h4
theorem hv6 {p0 p1 p2 p3 p4 p5 q : Prop} (h0 : p0) (h1 : p1) (h2 : p2) (h3 : p3) (h4 : p4) (h5 : p5) (k : p0 → p1 → p2 → p3 → p4 → p5 → q) : q := k h0 h1 h2 h3 h4 h5
theorem hv7 {p0 p1 p2 p3 p4 p5 p6 q : Prop} (h0 : p0) (h1 : p1) (h2 : p2) (h3 : p3) (h4 : p4) (h5 : p5) (h6 : p6) (k : p0 → p1 → p2 → p3 → p4 → p5 → p6 → q) : q := k h0 h1 h2 h3 h4 h5 h6
theorem hv8 {p0 p1 p2 p3 p4 p5 p6 p7 q : Prop} (h0 : p0) (h1 : p1) (h2 : p2) (h3 : p3) (h4 : p4) (h5 : p5) (h6 : p6) (h7 : p7) (k : p0 → p1 → p2 → p3 → p4 → p5 → p6 → p7 → q) : q := k h0 h1 h2 h3 h4 h5 h6 h7
theorem hv9 {p0 p1 p2 p3 p4 p5 p6 p7 p8 q : Prop} (h0 : p0) (h1 : p1) (h2 : p2) (h3 : p3) (h4 : p4) (h5 : p5) (h6 : p6) (h7 : p7) (h8 : p8) (k : p0 → p1 → p2 → p3 → p4 → p5 → p6 → p7 → p8 → q) : q := k h0 h1 h2 h3 h4 h5 h6 h7 h8
theorem hv10 {p0 p1 p2 p3 p4 p5 p6 p7 p8 p9 q : Prop} (h0 : p0) (h1 : p1) (h2 : p2) (h3 : p3) (h4 : p4) (h5 : p5) (h6 : p6) (h7 : p7) (h8 : p8) (h9 : p9) (k : p0 → p1 → p2 → p3 → p4 → p5 → p6 → p7 → p8 → p9 → q) : q := k h0 h1 h2 h3 h4 h5 h6 h7 h8 h9
theorem hv11 {p0 p1 p2 p3 p4 p5 p6 p7 p8 p9 p10 q : Prop} (h0 : p0) (h1 : p1) (h2 : p2) (h3 : p3) (h4 : p4) (h5 : p5) (h6 : p6) (h7 : p7) (h8 : p8) (h9 : p9) (h10 : p10) (k : p0 → p1 → p2 → p3 → p4 → p5 → p6 → p7 → p8 → p9 → p10 → q) : q := k h0 h1 h2 h3 h4 h5 h6 h7 h8 h9 h10
theorem hv12 {p0 p1 p2 p3 p4 p5 p6 p7 p8 p9 p10 p11 q : Prop} (h0 : p0) (h1 : p1) (h2 : p2) (h3 : p3) (h4 : p4) (h5 : p5) (h6 : p6) (h7 : p7) (h8 : p8) (h9 : p9) (h10 : p10) (h11 : p11) (k : p0 → p1 → p2 → p3 → p4 → p5 → p6 → p7 → p8 → p9 → p10 → p11 → q) : q := k h0 h1 h2 h3 h4 h5 h6 h7 h8 h9 h10 h11
theorem hv13 {p0 p1 p2 p3 p4 p5 p6 p7 p8 p9 p10 p11 p12 q : Prop} (h0 : p0) (h1 : p1) (h2 : p2) (h3 : p3) (h4 : p4) (h5 : p5) (h6 : p6) (h7 : p7) (h8 : p8) (h9 : p9) (h10 : p10) (h11 : p11) (h12 : p12) (k : p0 → p1 → p2 → p3 → p4 → p5 → p6 → p7 → p8 → p9 → p10 → p11 → p12 → q) : q := k h0 h1 h2 h3 h4 h5 h6 h7 h8 h9 h10 h11 h12
theorem hv14 {p0 p1 p2 p3 p4 p5 p6 p7 p8 p9 p10 p11 p12 p13 q : Prop} (h0 : p0) (h1 : p1) (h2 : p2) (h3 : p3) (h4 : p4) (h5 : p5) (h6 : p6) (h7 : p7) (h8 : p8) (h9 : p9) (h10 : p10) (h11 : p11) (h12 : p12) (h13 : p13) (k : p0 → p1 → p2 → p3 → p4 → p5 → p6 → p7 → p8 → p9 → p10 → p11 → p12 → p13 → q) : q := k h0 h1 h2 h3 h4 h5 h6 h7 h8 h9 h10 h11 h12 h13
theorem hv15 {p0 p1 p2 p3 p4 p5 p6 p7 p8 p9 p10 p11 p12 p13 p14 q : Prop} (h0 : p0) (h1 : p1) (h2 : p2) (h3 : p3) (h4 : p4) (h5 : p5) (h6 : p6) (h7 : p7) (h8 : p8) (h9 : p9) (h10 : p10) (h11 : p11) (h12 : p12) (h13 : p13) (h14 : p14) (k : p0 → p1 → p2 → p3 → p4 → p5 → p6 → p7 → p8 → p9 → p10 → p11 → p12 → p13 → p14 → q) : q := k h0 h1 h2 h3 h4 h5 h6 h7 h8 h9 h10 h11 h12 h13 h14
theorem hv16 {p0 p1 p2 p3 p4 p5 p6 p7 p8 p9 p10 p11 p12 p13 p14 p15 q : Prop} (h0 : p0) (h1 : p1) (h2 : p2) (h3 : p3) (h4 : p4) (h5 : p5) (h6 : p6) (h7 : p7) (h8 : p8) (h9 : p9) (h10 : p10) (h11 : p11) (h12 : p12) (h13 : p13) (h14 : p14) (h15 : p15) (k : p0 → p1 → p2 → p3 → p4 → p5 → p6 → p7 → p8 → p9 → p10 → p11 → p12 → p13 → p14 → p15 → q) : q := k h0 h1 h2 h3 h4 h5 h6 h7 h8 h9 h10 h11 h12 h13 h14 h15
theorem hv17 {p0 p1 p2 p3 p4 p5 p6 p7 p8 p9 p10 p11 p12 p13 p14 p15 p16 q : Prop} (h0 : p0) (h1 : p1) (h2 : p2) (h3 : p3) (h4 : p4) (h5 : p5) (h6 : p6) (h7 : p7) (h8 : p8) (h9 : p9) (h10 : p10) (h11 : p11) (h12 : p12) (h13 : p13) (h14 : p14) (h15 : p15) (h16 : p16) (k : p0 → p1 → p2 → p3 → p4 → p5 → p6 → p7 → p8 → p9 → p10 → p11 → p12 → p13 → p14 → p15 → p16 → q) : q := k h0 h1 h2 h3 h4 h5 h6 h7 h8 h9 h10 h11 h12 h13 h14 h15 h16
theorem hv18 {p0 p1 p2 p3 p4 p5 p6 p7 p8 p9 p10 p11 p12 p13 p14 p15 p16 p17 q : Prop} (h0 : p0) (h1 : p1) (h2 : p2) (h3 : p3) (h4 : p4) (h5 : p5) (h6 : p6) (h7 : p7) (h8 : p8) (h9 : p9) (h10 : p10) (h11 : p11) (h12 : p12) (h13 : p13) (h14 : p14) (h15 : p15) (h16 : p16) (h17 : p17) (k : p0 → p1 → p2 → p3 → p4 → p5 → p6 → p7 → p8 → p9 → p10 → p11 → p12 → p13 → p14 → p15 → p16 → p17 → q) : q := k h0 h1 h2 h3 h4 h5 h6 h7 h8 h9 h10 h11 h12 h13 h14 h15 h16 h17
theorem hv19 {p0 p1 p2 p3 p4 p5 p6 p7 p8 p9 p10 p11 p12 p13 p14 p15 p16 p17 p18 q : Prop} (h0 : p0) (h1 : p1) (h2 : p2) (h3 : p3) (h4 : p4) (h5 : p5) (h6 : p6) (h7 : p7) (h8 : p8) (h9 : p9) (h10 : p10) (h11 : p11) (h12 : p12) (h13 : p13) (h14 : p14) (h15 : p15) (h16 : p16) (h17 : p17) (h18 : p18) (k : p0 → p1 → p2 → p3 → p4 → p5 → p6 → p7 → p8 → p9 → p10 → p11 → p12 → p13 → p14 → p15 → p16 → p17 → p18 → q) : q := k h0 h1 h2 h3 h4 h5 h6 h7 h8 h9 h10 h11 h12 h13 h14 h15 h16 h17 h18
theorem hv20 {p0 p1 p2 p3 p4 p5 p6 p7 p8 p9 p10 p11 p12 p13 p14 p15 p16 p17 p18 p19 q : Prop} (h0 : p0) (h1 : p1) (h2 : p2) (h3 : p3) (h4 : p4) (h5 : p5) (h6 : p6) (h7 : p7) (h8 : p8) (h9 : p9) (h10 : p10) (h11 : p11) (h12 : p12) (h13 : p13) (h14 : p14) (h15 : p15) (h16 : p16) (h17 : p17) (h18 : p18) (h19 : p19) (k : p0 → p1 → p2 → p3 → p4 → p5 → p6 → p7 → p8 → p9 → p10 → p11 → p12 → p13 → p14 → p15 → p16 → p17 → p18 → p19 → q) : q := k h0 h1 h2 h3 h4 h5 h6 h7 h8 h9 h10 h11 h12 h13 h14 h15 h16 h17 h18 h19
theorem hv21 {p0 p1 p2 p3 p4 p5 p6 p7 p8 p9 p10 p11 p12 p13 p14 p15 p16 p17 p18 p19 p20 q : Prop} (h0 : p0) (h1 : p1) (h2 : p2) (h3 : p3) (h4 : p4) (h5 : p5) (h6 : p6) (h7 : p7) (h8 : p8) (h9 : p9) (h10 : p10) (h11 : p11) (h12 : p12) (h13 : p13) (h14 : p14) (h15 : p15) (h16 : p16) (h17 : p17) (h18 : p18) (h19 : p19) (h20 : p20) (k : p0 → p1 → p2 → p3 → p4 → p5 → p6 → p7 → p8 → p9 → p10 → p11 → p12 → p13 → p14 → p15 → p16 → p17 → p18 → p19 → p20 → q) : q := k h0 h1 h2 h3 h4 h5 h6 h7 h8 h9 h10 h11 h12 h13 h14 h15 h16 h17 h18 h19 h20
theorem hv22 {p0 p1 p2 p3 p4 p5 p6 p7 p8 p9 p10 p11 p12 p13 p14 p15 p16 p17 p18 p19 p20 p21 q : Prop} (h0 : p0) (h1 : p1) (h2 : p2) (h3 : p3) (h4 : p4) (h5 : p5) (h6 : p6) (h7 : p7) (h8 : p8) (h9 : p9) (h10 : p10) (h11 : p11) (h12 : p12) (h13 : p13) (h14 : p14) (h15 : p15) (h16 : p16) (h17 : p17) (h18 : p18) (h19 : p19) (h20 : p20) (h21 : p21) (k : p0 → p1 → p2 → p3 → p4 → p5 → p6 → p7 → p8 → p9 → p10 → p11 → p12 → p13 → p14 → p15 → p16 → p17 → p18 → p19 → p20 → p21 → q) : q := k h0 h1 h2 h3 h4 h5 h6 h7 h8 h9 h10 h11 h12 h13 h14 h15 h16 h17 h18 h19 h20 h21
theorem hv23 {p0 p1 p2 p3 p4 p5 p6 p7 p8 p9 p10 p11 p12 p13 p14 p15 p16 p17 p18 p19 p20 p21 p22 q : Prop} (h0 : p0) (h1 : p1) (h2 : p2) (h3 : p3) (h4 : p4) (h5 : p5) (h6 : p6) (h7 : p7) (h8 : p8) (h9 : p9) (h10 : p10) (h11 : p11) (h12 : p12) (h13 : p13) (h14 : p14) (h15 : p15) (h16 : p16) (h17 : p17) (h18 : p18) (h19 : p19) (h20 : p20) (h21 : p21) (h22 : p22) (k : p0 → p1 → p2 → p3 → p4 → p5 → p6 → p7 → p8 → p9 → p10 → p11 → p12 → p13 → p14 → p15 → p16 → p17 → p18 → p19 → p20 → p21 → p22 → q) : q := k h0 h1 h2 h3 h4 h5 h6 h7 h8 h9 h10 h11 h12 h13 h14 h15 h16 h17 h18 h19 h20 h21 h22
theorem hv24 {p0 p1 p2 p3 p4 p5 p6 p7 p8 p9 p10 p11 p12 p13 p14 p15 p16 p17 p18 p19 p20 p21 p22 p23 q : Prop} (h0 : p0) (h1 : p1) (h2 : p2) (h3 : p3) (h4 : p4) (h5 : p5) (h6 : p6) (h7 : p7) (h8 : p8) (h9 : p9) (h10 : p10) (h11 : p11) (h12 : p12) (h13 : p13) (h14 : p14) (h15 : p15) (h16 : p16) (h17 : p17) (h18 : p18) (h19 : p19) (h20 : p20) (h21 : p21) (h22 : p22) (h23 : p23) (k : p0 → p1 → p2 → p3 → p4 → p5 → p6 → p7 → p8 → p9 → p10 → p11 → p12 → p13 → p14 → p15 → p16 → p17 → p18 → p19 → p20 → p21 → p22 → p23 → q) : q := k h0 h1 h2 h3 h4 h5 h6 h7 h8 h9 h10 h11 h12 h13 h14 h15 h16 h17 h18 h19 h20 h21 h22 h23
theorem hv25 {p0 p1 p2 p3 p4 p5 p6 p7 p8 p9 p10 p11 p12 p13 p14 p15 p16 p17 p18 p19 p20 p21 p22 p23 p24 q : Prop} (h0 : p0) (h1 : p1) (h2 : p2) (h3 : p3) (h4 : p4) (h5 : p5) (h6 : p6) (h7 : p7) (h8 : p8) (h9 : p9) (h10 : p10) (h11 : p11) (h12 : p12) (h13 : p13) (h14 : p14) (h15 : p15) (h16 : p16) (h17 : p17) (h18 : p18) (h19 : p19) (h20 : p20) (h21 : p21) (h22 : p22) (h23 : p23) (h24 : p24) (k : p0 → p1 → p2 → p3 → p4 → p5 → p6 → p7 → p8 → p9 → p10 → p11 → p12 → p13 → p14 → p15 → p16 → p17 → p18 → p19 → p20 → p21 → p22 → p23 → p24 → q) : q := k h0 h1 h2 h3 h4 h5 h6 h7 h8 h9 h10 h11 h12 h13 h14 h15 h16 h17 h18 h19 h20 h21 h22 h23 h24
theorem hv26 {p0 p1 p2 p3 p4 p5 p6 p7 p8 p9 p10 p11 p12 p13 p14 p15 p16 p17 p18 p19 p20 p21 p22 p23 p24 p25 q : Prop} (h0 : p0) (h1 : p1) (h2 : p2) (h3 : p3) (h4 : p4) (h5 : p5) (h6 : p6) (h7 : p7) (h8 : p8) (h9 : p9) (h10 : p10) (h11 : p11) (h12 : p12) (h13 : p13) (h14 : p14) (h15 : p15) (h16 : p16) (h17 : p17) (h18 : p18) (h19 : p19) (h20 : p20) (h21 : p21) (h22 : p22) (h23 : p23) (h24 : p24) (h25 : p25) (k : p0 → p1 → p2 → p3 → p4 → p5 → p6 → p7 → p8 → p9 → p10 → p11 → p12 → p13 → p14 → p15 → p16 → p17 → p18 → p19 → p20 → p21 → p22 → p23 → p24 → p25 → q) : q := k h0 h1 h2 h3 h4 h5 h6 h7 h8 h9 h10 h11 h12 h13 h14 h15 h16 h17 h18 h19 h20 h21 h22 h23 h24 h25
theorem hv27 {p0 p1 p2 p3 p4 p5 p6 p7 p8 p9 p10 p11 p12 p13 p14 p15 p16 p17 p18 p19 p20 p21 p22 p23 p24 p25 p26 q : Prop} (h0 : p0) (h1 : p1) (h2 : p2) (h3 : p3) (h4 : p4) (h5 : p5) (h6 : p6) (h7 : p7) (h8 : p8) (h9 : p9) (h10 : p10) (h11 : p11) (h12 : p12) (h13 : p13) (h14 : p14) (h15 : p15) (h16 : p16) (h17 : p17) (h18 : p18) (h19 : p19) (h20 : p20) (h21 : p21) (h22 : p22) (h23 : p23) (h24 : p24) (h25 : p25) (h26 : p26) (k : p0 → p1 → p2 → p3 → p4 → p5 → p6 → p7 → p8 → p9 → p10 → p11 → p12 → p13 → p14 → p15 → p16 → p17 → p18 → p19 → p20 → p21 → p22 → p23 → p24 → p25 → p26 → q) : q := k h0 h1 h2 h3 h4 h5 h6 h7 h8 h9 h10 h11 h12 h13 h14 h15 h16 h17 h18 h19 h20 h21 h22 h23 h24 h25 h26
theorem hv28 {p0 p1 p2 p3 p4 p5 p6 p7 p8 p9 p10 p11 p12 p13 p14 p15 p16 p17 p18 p19 p20 p21 p22 p23 p24 p25 p26 p27 q : Prop} (h0 : p0) (h1 : p1) (h2 : p2) (h3 : p3) (h4 : p4) (h5 : p5) (h6 : p6) (h7 : p7) (h8 : p8) (h9 : p9) (h10 : p10) (h11 : p11) (h12 : p12) (h13 : p13) (h14 : p14) (h15 : p15) (h16 : p16) (h17 : p17) (h18 : p18) (h19 : p19) (h20 : p20) (h21 : p21) (h22 : p22) (h23 : p23) (h24 : p24) (h25 : p25) (h26 : p26) (h27 : p27) (k : p0 → p1 → p2 → p3 → p4 → p5 → p6 → p7 → p8 → p9 → p10 → p11 → p12 → p13 → p14 → p15 → p16 → p17 → p18 → p19 → p20 → p21 → p22 → p23 → p24 → p25 → p26 → p27 → q) : q := k h0 h1 h2 h3 h4 h5 h6 h7 h8 h9 h10 h11 h12 h13 h14 h15 h16 h17 h18 h19 h20 h21 h22 h23 h24 h25 h26 h27
theorem hv29 {p0 p1 p2 p3 p4 p5 p6 p7 p8 p9 p10 p11 p12 p13 p14 p15 p16 p17 p18 p19 p20 p21 p22 p23 p24 p25 p26 p27 p28 q : Prop} (h0 : p0) (h1 : p1) (h2 : p2) (h3 : p3) (h4 : p4) (h5 : p5) (h6 : p6) (h7 : p7) (h8 : p8) (h9 : p9) (h10 : p10) (h11 : p11) (h12 : p12) (h13 : p13) (h14 : p14) (h15 : p15) (h16 : p16) (h17 : p17) (h18 : p18) (h19 : p19) (h20 : p20) (h21 : p21) (h22 : p22) (h23 : p23) (h24 : p24) (h25 : p25) (h26 : p26) (h27 : p27) (h28 : p28) (k : p0 → p1 → p2 → p3 → p4 → p5 → p6 → p7 → p8 → p9 → p10 → p11 → p12 → p13 → p14 → p15 → p16 → p17 → p18 → p19 → p20 → p21 → p22 → p23 → p24 → p25 → p26 → p27 → p28 → q) : q := k h0 h1 h2 h3 h4 h5 h6 h7 h8 h9 h10 h11 h12 h13 h14 h15 h16 h17 h18 h19 h20 h21 h22 h23 h24 h25 h26 h27 h28
theorem hv30 {p0 p1 p2 p3 p4 p5 p6 p7 p8 p9 p10 p11 p12 p13 p14 p15 p16 p17 p18 p19 p20 p21 p22 p23 p24 p25 p26 p27 p28 p29 q : Prop} (h0 : p0) (h1 : p1) (h2 : p2) (h3 : p3) (h4 : p4) (h5 : p5) (h6 : p6) (h7 : p7) (h8 : p8) (h9 : p9) (h10 : p10) (h11 : p11) (h12 : p12) (h13 : p13) (h14 : p14) (h15 : p15) (h16 : p16) (h17 : p17) (h18 : p18) (h19 : p19) (h20 : p20) (h21 : p21) (h22 : p22) (h23 : p23) (h24 : p24) (h25 : p25) (h26 : p26) (h27 : p27) (h28 : p28) (h29 : p29) (k : p0 → p1 → p2 → p3 → p4 → p5 → p6 → p7 → p8 → p9 → p10 → p11 → p12 → p13 → p14 → p15 → p16 → p17 → p18 → p19 → p20 → p21 → p22 → p23 → p24 → p25 → p26 → p27 → p28 → p29 → q) : q := k h0 h1 h2 h3 h4 h5 h6 h7 h8 h9 h10 h11 h12 h13 h14 h15 h16 h17 h18 h19 h20 h21 h22 h23 h24 h25 h26 h27 h28 h29
theorem hv31 {p0 p1 p2 p3 p4 p5 p6 p7 p8 p9 p10 p11 p12 p13 p14 p15 p16 p17 p18 p19 p20 p21 p22 p23 p24 p25 p26 p27 p28 p29 p30 q : Prop} (h0 : p0) (h1 : p1) (h2 : p2) (h3 : p3) (h4 : p4) (h5 : p5) (h6 : p6) (h7 : p7) (h8 : p8) (h9 : p9) (h10 : p10) (h11 : p11) (h12 : p12) (h13 : p13) (h14 : p14) (h15 : p15) (h16 : p16) (h17 : p17) (h18 : p18) (h19 : p19) (h20 : p20) (h21 : p21) (h22 : p22) (h23 : p23) (h24 : p24) (h25 : p25) (h26 : p26) (h27 : p27) (h28 : p28) (h29 : p29) (h30 : p30) (k : p0 → p1 → p2 → p3 → p4 → p5 → p6 → p7 → p8 → p9 → p10 → p11 → p12 → p13 → p14 → p15 → p16 → p17 → p18 → p19 → p20 → p21 → p22 → p23 → p24 → p25 → p26 → p27 → p28 → p29 → p30 → q) : q := k h0 h1 h2 h3 h4 h5 h6 h7 h8 h9 h10 h11 h12 h13 h14 h15 h16 h17 h18 h19 h20 h21 h22 h23 h24 h25 h26 h27 h28 h29 h30
theorem hv32 {p0 p1 p2 p3 p4 p5 p6 p7 p8 p9 p10 p11 p12 p13 p14 p15 p16 p17 p18 p19 p20 p21 p22 p23 p24 p25 p26 p27 p28 p29 p30 p31 q : Prop} (h0 : p0) (h1 : p1) (h2 : p2) (h3 : p3) (h4 : p4) (h5 : p5) (h6 : p6) (h7 : p7) (h8 : p8) (h9 : p9) (h10 : p10) (h11 : p11) (h12 : p12) (h13 : p13) (h14 : p14) (h15 : p15) (h16 : p16) (h17 : p17) (h18 : p18) (h19 : p19) (h20 : p20) (h21 : p21) (h22 : p22) (h23 : p23) (h24 : p24) (h25 : p25) (h26 : p26) (h27 : p27) (h28 : p28) (h29 : p29) (h30 : p30) (h31 : p31) (k : p0 → p1 → p2 → p3 → p4 → p5 → p6 → p7 → p8 → p9 → p10 → p11 → p12 → p13 → p14 → p15 → p16 → p17 → p18 → p19 → p20 → p21 → p22 → p23 → p24 → p25 → p26 → p27 → p28 → p29 → p30 → p31 → q) : q := k h0 h1 h2 h3 h4 h5 h6 h7 h8 h9 h10 h11 h12 h13 h14 h15 h16 h17 h18 h19 h20 h21 h22 h23 h24 h25 h26 h27 h28 h29 h30 h31
theorem hv33 {p0 p1 p2 p3 p4 p5 p6 p7 p8 p9 p10 p11 p12 p13 p14 p15 p16 p17 p18 p19 p20 p21 p22 p23 p24 p25 p26 p27 p28 p29 p30 p31 p32 q : Prop} (h0 : p0) (h1 : p1) (h2 : p2) (h3 : p3) (h4 : p4) (h5 : p5) (h6 : p6) (h7 : p7) (h8 : p8) (h9 : p9) (h10 : p10) (h11 : p11) (h12 : p12) (h13 : p13) (h14 : p14) (h15 : p15) (h16 : p16) (h17 : p17) (h18 : p18) (h19 : p19) (h20 : p20) (h21 : p21) (h22 : p22) (h23 : p23) (h24 : p24) (h25 : p25) (h26 : p26) (h27 : p27) (h28 : p28) (h29 : p29) (h30 : p30) (h31 : p31) (h32 : p32) (k : p0 → p1 → p2 → p3 → p4 → p5 → p6 → p7 → p8 → p9 → p10 → p11 → p12 → p13 → p14 → p15 → p16 → p17 → p18 → p19 → p20 → p21 → p22 → p23 → p24 → p25 → p26 → p27 → p28 → p29 → p30 → p31 → p32 → q) : q := k h0 h1 h2 h3 h4 h5 h6 h7 h8 h9 h10 h11 h12 h13 h14 h15 h16 h17 h18 h19 h20 h21 h22 h23 h24 h25 h26 h27 h28 h29 h30 h31 h32
theorem hv34 {p0 p1 p2 p3 p4 p5 p6 p7 p8 p9 p10 p11 p12 p13 p14 p15 p16 p17 p18 p19 p20 p21 p22 p23 p24 p25 p26 p27 p28 p29 p30 p31 p32 p33 q : Prop} (h0 : p0) (h1 : p1) (h2 : p2) (h3 : p3) (h4 : p4) (h5 : p5) (h6 : p6) (h7 : p7) (h8 : p8) (h9 : p9) (h10 : p10) (h11 : p11) (h12 : p12) (h13 : p13) (h14 : p14) (h15 : p15) (h16 : p16) (h17 : p17) (h18 : p18) (h19 : p19) (h20 : p20) (h21 : p21) (h22 : p22) (h23 : p23) (h24 : p24) (h25 : p25) (h26 : p26) (h27 : p27) (h28 : p28) (h29 : p29) (h30 : p30) (h31 : p31) (h32 : p32) (h33 : p33) (k : p0 → p1 → p2 → p3 → p4 → p5 → p6 → p7 → p8 → p9 → p10 → p11 → p12 → p13 → p14 → p15 → p16 → p17 → p18 → p19 → p20 → p21 → p22 → p23 → p24 → p25 → p26 → p27 → p28 → p29 → p30 → p31 → p32 → p33 → q) : q := k h0 h1 h2 h3 h4 h5 h6 h7 h8 h9 h10 h11 h12 h13 h14 h15 h16 h17 h18 h19 h20 h21 h22 h23 h24 h25 h26 h27 h28 h29 h30 h31 h32 h33
theorem hv35 {p0 p1 p2 p3 p4 p5 p6 p7 p8 p9 p10 p11 p12 p13 p14 p15 p16 p17 p18 p19 p20 p21 p22 p23 p24 p25 p26 p27 p28 p29 p30 p31 p32 p33 p34 q : Prop} (h0 : p0) (h1 : p1) (h2 : p2) (h3 : p3) (h4 : p4) (h5 : p5) (h6 : p6) (h7 : p7) (h8 : p8) (h9 : p9) (h10 : p10) (h11 : p11) (h12 : p12) (h13 : p13) (h14 : p14) (h15 : p15) (h16 : p16) (h17 : p17) (h18 : p18) (h19 : p19) (h20 : p20) (h21 : p21) (h22 : p22) (h23 : p23) (h24 : p24) (h25 : p25) (h26 : p26) (h27 : p27) (h28 : p28) (h29 : p29) (h30 : p30) (h31 : p31) (h32 : p32) (h33 : p33) (h34 : p34) (k : p0 → p1 → p2 → p3 → p4 → p5 → p6 → p7 → p8 → p9 → p10 → p11 → p12 → p13 → p14 → p15 → p16 → p17 → p18 → p19 → p20 → p21 → p22 → p23 → p24 → p25 → p26 → p27 → p28 → p29 → p30 → p31 → p32 → p33 → p34 → q) : q := k h0 h1 h2 h3 h4 h5 h6 h7 h8 h9 h10 h11 h12 h13 h14 h15 h16 h17 h18 h19 h20 h21 h22 h23 h24 h25 h26 h27 h28 h29 h30 h31 h32 h33 h34
theorem hv36 {p0 p1 p2 p3 p4 p5 p6 p7 p8 p9 p10 p11 p12 p13 p14 p15 p16 p17 p18 p19 p20 p21 p22 p23 p24 p25 p26 p27 p28 p29 p30 p31 p32 p33 p34 p35 q : Prop} (h0 : p0) (h1 : p1) (h2 : p2) (h3 : p3) (h4 : p4) (h5 : p5) (h6 : p6) (h7 : p7) (h8 : p8) (h9 : p9) (h10 : p10) (h11 : p11) (h12 : p12) (h13 : p13) (h14 : p14) (h15 : p15) (h16 : p16) (h17 : p17) (h18 : p18) (h19 : p19) (h20 : p20) (h21 : p21) (h22 : p22) (h23 : p23) (h24 : p24) (h25 : p25) (h26 : p26) (h27 : p27) (h28 : p28) (h29 : p29) (h30 : p30) (h31 : p31) (h32 : p32) (h33 : p33) (h34 : p34) (h35 : p35) (k : p0 → p1 → p2 → p3 → p4 → p5 → p6 → p7 → p8 → p9 → p10 → p11 → p12 → p13 → p14 → p15 → p16 → p17 → p18 → p19 → p20 → p21 → p22 → p23 → p24 → p25 → p26 → p27 → p28 → p29 → p30 → p31 → p32 → p33 → p34 → p35 → q) : q := k h0 h1 h2 h3 h4 h5 h6 h7 h8 h9 h10 h11 h12 h13 h14 h15 h16 h17 h18 h19 h20 h21 h22 h23 h24 h25 h26 h27 h28 h29 h30 h31 h32 h33 h34 h35
theorem hv37 {p0 p1 p2 p3 p4 p5 p6 p7 p8 p9 p10 p11 p12 p13 p14 p15 p16 p17 p18 p19 p20 p21 p22 p23 p24 p25 p26 p27 p28 p29 p30 p31 p32 p33 p34 p35 p36 q : Prop} (h0 : p0) (h1 : p1) (h2 : p2) (h3 : p3) (h4 : p4) (h5 : p5) (h6 : p6) (h7 : p7) (h8 : p8) (h9 : p9) (h10 : p10) (h11 : p11) (h12 : p12) (h13 : p13) (h14 : p14) (h15 : p15) (h16 : p16) (h17 : p17) (h18 : p18) (h19 : p19) (h20 : p20) (h21 : p21) (h22 : p22) (h23 : p23) (h24 : p24) (h25 : p25) (h26 : p26) (h27 : p27) (h28 : p28) (h29 : p29) (h30 : p30) (h31 : p31) (h32 : p32) (h33 : p33) (h34 : p34) (h35 : p35) (h36 : p36) (k : p0 → p1 → p2 → p3 → p4 → p5 → p6 → p7 → p8 → p9 → p10 → p11 → p12 → p13 → p14 → p15 → p16 → p17 → p18 → p19 → p20 → p21 → p22 → p23 → p24 → p25 → p26 → p27 → p28 → p29 → p30 → p31 → p32 → p33 → p34 → p35 → p36 → q) : q := k h0 h1 h2 h3 h4 h5 h6 h7 h8 h9 h10 h11 h12 h13 h14 h15 h16 h17 h18 h19 h20 h21 h22 h23 h24 h25 h26 h27 h28 h29 h30 h31 h32 h33 h34 h35 h36
theorem hv38 {p0 p1 p2 p3 p4 p5 p6 p7 p8 p9 p10 p11 p12 p13 p14 p15 p16 p17 p18 p19 p20 p21 p22 p23 p24 p25 p26 p27 p28 p29 p30 p31 p32 p33 p34 p35 p36 p37 q : Prop} (h0 : p0) (h1 : p1) (h2 : p2) (h3 : p3) (h4 : p4) (h5 : p5) (h6 : p6) (h7 : p7) (h8 : p8) (h9 : p9) (h10 : p10) (h11 : p11) (h12 : p12) (h13 : p13) (h14 : p14) (h15 : p15) (h16 : p16) (h17 : p17) (h18 : p18) (h19 : p19) (h20 : p20) (h21 : p21) (h22 : p22) (h23 : p23) (h24 : p24) (h25 : p25) (h26 : p26) (h27 : p27) (h28 : p28) (h29 : p29) (h30 : p30) (h31 : p31) (h32 : p32) (h33 : p33) (h34 : p34) (h35 : p35) (h36 : p36) (h37 : p37) (k : p0 → p1 → p2 → p3 → p4 → p5 → p6 → p7 → p8 → p9 → p10 → p11 → p12 → p13 → p14 → p15 → p16 → p17 → p18 → p19 → p20 → p21 → p22 → p23 → p24 → p25 → p26 → p27 → p28 → p29 → p30 → p31 → p32 → p33 → p34 → p35 → p36 → p37 → q) : q := k h0 h1 h2 h3 h4 h5 h6 h7 h8 h9 h10 h11 h12 h13 h14 h15 h16 h17 h18 h19 h20 h21 h22 h23 h24 h25 h26 h27 h28 h29 h30 h31 h32 h33 h34 h35 h36 h37
theorem hv39 {p0 p1 p2 p3 p4 p5 p6 p7 p8 p9 p10 p11 p12 p13 p14 p15 p16 p17 p18 p19 p20 p21 p22 p23 p24 p25 p26 p27 p28 p29 p30 p31 p32 p33 p34 p35 p36 p37 p38 q : Prop} (h0 : p0) (h1 : p1) (h2 : p2) (h3 : p3) (h4 : p4) (h5 : p5) (h6 : p6) (h7 : p7) (h8 : p8) (h9 : p9) (h10 : p10) (h11 : p11) (h12 : p12) (h13 : p13) (h14 : p14) (h15 : p15) (h16 : p16) (h17 : p17) (h18 : p18) (h19 : p19) (h20 : p20) (h21 : p21) (h22 : p22) (h23 : p23) (h24 : p24) (h25 : p25) (h26 : p26) (h27 : p27) (h28 : p28) (h29 : p29) (h30 : p30) (h31 : p31) (h32 : p32) (h33 : p33) (h34 : p34) (h35 : p35) (h36 : p36) (h37 : p37) (h38 : p38) (k : p0 → p1 → p2 → p3 → p4 → p5 → p6 → p7 → p8 → p9 → p10 → p11 → p12 → p13 → p14 → p15 → p16 → p17 → p18 → p19 → p20 → p21 → p22 → p23 → p24 → p25 → p26 → p27 → p28 → p29 → p30 → p31 → p32 → p33 → p34 → p35 → p36 → p37 → p38 → q) : q := k h0 h1 h2 h3 h4 h5 h6 h7 h8 h9 h10 h11 h12 h13 h14 h15 h16 h17 h18 h19 h20 h21 h22 h23 h24 h25 h26 h27 h28 h29 h30 h31 h32 h33 h34 h35 h36 h37 h38
theorem hv40 {p0 p1 p2 p3 p4 p5 p6 p7 p8 p9 p10 p11 p12 p13 p14 p15 p16 p17 p18 p19 p20 p21 p22 p23 p24 p25 p26 p27 p28 p29 p30 p31 p32 p33 p34 p35 p36 p37 p38 p39 q : Prop} (h0 : p0) (h1 : p1) (h2 : p2) (h3 : p3) (h4 : p4) (h5 : p5) (h6 : p6) (h7 : p7) (h8 : p8) (h9 : p9) (h10 : p10) (h11 : p11) (h12 : p12) (h13 : p13) (h14 : p14) (h15 : p15) (h16 : p16) (h17 : p17) (h18 : p18) (h19 : p19) (h20 : p20) (h21 : p21) (h22 : p22) (h23 : p23) (h24 : p24) (h25 : p25) (h26 : p26) (h27 : p27) (h28 : p28) (h29 : p29) (h30 : p30) (h31 : p31) (h32 : p32) (h33 : p33) (h34 : p34) (h35 : p35) (h36 : p36) (h37 : p37) (h38 : p38) (h39 : p39) (k : p0 → p1 → p2 → p3 → p4 → p5 → p6 → p7 → p8 → p9 → p10 → p11 → p12 → p13 → p14 → p15 → p16 → p17 → p18 → p19 → p20 → p21 → p22 → p23 → p24 → p25 → p26 → p27 → p28 → p29 → p30 → p31 → p32 → p33 → p34 → p35 → p36 → p37 → p38 → p39 → q) : q := k h0 h1 h2 h3 h4 h5 h6 h7 h8 h9 h10 h11 h12 h13 h14 h15 h16 h17 h18 h19 h20 h21 h22 h23 h24 h25 h26 h27 h28 h29 h30 h31 h32 h33 h34 h35 h36 h37 h38 h39
end
section
abbrev GT : Type := va_G × ClassId × ClassId × ClassId × ClassId × ClassId × Nat
abbrev gT (G : GT) : List (ClassId × FieldType) := [(G.2.1, .int), (G.2.2.1, .boolean), (G.2.2.2.1, .object RX2), (G.2.2.2.2.1, .object RX5), (G.2.2.2.2.2.1, .object "java/lang/Object")]
def ob (ci N : Nat) (f : Nat → Value) : va_E := .inr (ci, (List.range N).map f)
def aI (G : GT) (n : Nat) (f : Nat → Int32) : va_E := .inl (G.2.1, n, .inl f)
def aZ (G : GT) (n : Nat) (f : Nat → Int32) : va_E := .inl (G.2.2.1, n, .inl f)
def aL (G : GT) (n : Nat) (f : Nat → Option Nat) : va_E := .inl (G.2.2.2.1, n, .inr (.inr (.inr (.inr f))))
def aR (G : GT) (n : Nat) (f : Nat → Option Nat) : va_E := .inl (G.2.2.2.2.1, n, .inr (.inr (.inr (.inr f))))
def aO (G : GT) (n : Nat) (f : Nat → Option Nat) : va_E := .inl (G.2.2.2.2.2.1, n, .inr (.inr (.inr (.inr f))))
abbrev g0 (G : GT) : Nat := G.2.2.2.2.2.2
def sZ (G : GT) (A : Nat → Prop) (U : State) (H : Heap) : Prop := va_Z "java/util/ArrayList" "DEFAULTCAPACITY_EMPTY_ELEMENTDATA" "[Ljava/lang/Object;" (.ref (g0 G)) A U H ∧ va_T (.object "java/lang/Object") (g0 G) 0 (fun _ => .null) A U H
def lw_g : List Cond := lw_tbl.filter goodWord
theorem lw_in {w : Cond} (h : w ∈ lw_tbl) (hg : goodWord w = true) : w ∈ lw_g := List.mem_filter.mpr ⟨h, hg⟩
def Nst (U : State) : Prop := (∀ (a : String) (i : Nat) (x : MethodName) (h : String), Cond.methodLinkNest a i x h ∈ lw_tbl → va_Nw (.methodLinkNest a i x h) U) ∧ (∀ C T : String, Cond.castable C T ∈ lw_tbl → va_Nw (.castable C T) U) ∧ (∀ C : String, Cond.arrayOver (.object C) ∈ lw_tbl → va_AO C U)
theorem Nst.of {args : Array Value} {s : State} (h : ∀ w ∈ lw_tbl, w.before args s = true) : Nst s := ⟨fun _ _ _ _ q => va_Nw.of rfl (h _ q), fun _ _ q => va_Nw.of rfl (h _ q), fun _ q => va_AO.of (h _ q)⟩
theorem Nst.warm {s U : State} (hW : s.WarmedH U.vm) (h : Nst s) : Nst U := ⟨fun a i x t q => va_Nw.warmM hW (h.1 a i x t q), fun C T q => va_Nw.warmC hW (h.2.1 C T q), fun C q => va_AO.moved hW.alike (h.2.2 C q)⟩
theorem Nst.same {s U : State} (hv : s.vm = U.vm) (h : Nst s) : Nst U := ⟨fun a i x t q => va_Nw.same rfl hv (h.1 a i x t q), fun C T q => va_Nw.same rfl hv (h.2.1 C T q), fun C q => va_AO.moved (by rw [hv]; exact Vm.Alike.refl _) (h.2.2 C q)⟩
abbrev PT : Type := Option Value → List Nat → (Nat → va_E) → Prop
def Qm (G : GT) (A : Nat → Prop) (Post : PT) : Array Value → State → Outcome → State → Prop := fun _ st oc t => (∃ (v : Option Value) (L' : List Nat) (E' : Nat → va_E), oc = .returned v ∧ Post v L' E' ∧ va_P G.1 vwCl (va_pl L' E') t.heap ∧ va_D A (va_pl L' E')) ∧ va_F A st t
def Cq (p : Program) (s : State) (m : MethodId) (args : Array Value) (meth : Method) (c : Code) (cc : ByteArray) (y : MethodName) (ret : Option FieldType) (G : GT) (A : Nat → Prop) (nL : Nat) : Prop :=
  p.tables.exec = Jvm.exec ∧ c.code = cc ∧ c.maxLocals = nL ∧ s.vm.findClass y.cls = some m.cls ∧ (∀ w ∈ lw_g, w.before args s = true) ∧ va_K G.1 vwCl (gT G) s ∧ (∀ q, s.heap.size ≤ q → A q) ∧ sZ G A s s.heap ∧ meth.sig.returnType = ret ∧ meth.locks = false ∧ meth.name = y.name ∧ Nst s
def wq (p : Program) (l : Launch) (e : Env) (R : Room) (s : State) (m : MethodId) (args : Array Value) (below : List Frame) (meth : Method) (c : Code) (G : GT) (A : Nat → Prop) (nL : Nat) (Q : State → Prop) (L : List Nat) (E : Nat → va_E) (kc ks pc : Nat) (lv : List (Nat × Value)) (st : List Value) : Prop :=
  ∀ (H : Heap) (locs : List Loc) (ls : Array Slot), va_P G.1 vwCl (va_pl L E) H → va_D A (va_pl L E) → va_S A s.heap H locs → lv_has ls nL lv → W p l e R s m args below meth c H locs kc ks Q (F0 m pc ls st)
abbrev rmq (d mc ms : Nat) : Room := { frames := d, cells := mc, slots := ms, locals := 64 * d }
def Pcq (G : GT) (L : List Nat) (E : Nat → va_E) (sz : Nat) (U : State) : Prop := U.heap.size = sz ∧ va_P G.1 vwCl (va_pl L E) U.heap ∧ va_K G.1 vwCl (gT G) U ∧ va_D (fun _ => True) (va_pl L E) ∧ sZ G (va_A (va_pl L E) sz) U U.heap ∧ Nst U
def Mq (l : Launch) (G : GT) (y : MethodName) (cc : ByteArray) (n : Nat) (ret : Option FieldType) (d : Nat) (av : List Value) (L : List Nat) (E : Nat → va_E) (mc ms : Nat) (Post : PT) : Prop :=
  ∀ sz : Nat, Met l y (.code y cc n ret :: lw_g) (rmq d mc ms) (va_Pc av (Pcq G L E sz)) (Qm G (va_A (va_pl L E) sz) Post) mc ms (va_A (va_pl L E) sz)
def Ck (ci : Nat) (Cn : String) (T : u_T) (N : Nat) (ty : Nat → FieldType) : Prop := vwCl[ci]? = some (Cn, T, N) ∧ (∀ w ∈ u_ws Cn T N, w ∈ lw_g) ∧ (∀ k, k < N → parseFieldDescriptor (T k).2.2.1 = some (ty k)) ∧ (∀ a, a < N → ∀ b, b < N → a ≠ b → (T a).2.1 ≠ (T b).2.1)
theorem ob_get {N k : Nat} {f : Nat → Value} (h : k < N) : ((List.range N).map f)[k]? = some (f k) := by
  rw [List.getElem?_map, List.getElem?_range h]; rfl
theorem ob_V {N k : Nat} {f : Nat → Value} (h : k < N) : vp_V ((List.range N).map f) k = f k := by
  unfold vp_V; rw [List.getD_eq_getElem?_getD, ob_get h]; rfl
theorem ob_set {N k : Nat} {f : Nat → Value} {v : Value} (h : k < N) : ((List.range N).map f).set k v = (List.range N).map (va_up f k v) := by
  apply List.ext_getElem?
  intro j
  by_cases hj : j < N
  · rw [ob_get hj]
    by_cases e : j = k
    · subst e; rw [List.getElem?_set_self (by simpa using hj), va_up_self]
    · rw [List.getElem?_set_ne (fun q => e q.symm), ob_get hj, va_up_ne _ _ e]
  · rw [List.getElem?_eq_none (by simpa using hj), List.getElem?_eq_none (by simpa using hj)]
theorem pl_at {L : List Nat} {E : Nat → va_E} {a : Nat} (h : a ∈ L) : ∃ k : Nat, (va_pl L E)[k]? = some (a, E a) := by
  obtain ⟨k, hk⟩ := va_pl_get (X := []) (f := E) h
  exact ⟨k, hk⟩
theorem pl_set {A : Nat → Prop} {L : List Nat} {E : Nat → va_E} {a k : Nat} {x : va_E} (hD : va_D A (va_pl L E)) (h : a ∈ L) (hk : (va_pl L E)[k]? = some (a, E a)) : (va_pl L E).set k (a, x) = va_pl L (va_up E a x) := va_pl_set (X := []) hD h hk
theorem pl_free {A : Nat → Prop} {L : List Nat} {E : Nat → va_E} {s : State} {H : Heap} {locs : List Loc} (hD : va_D A (va_pl L E)) (hS : va_S A s.heap H locs) (hA : ∀ q, s.heap.size ≤ q → A q) : ∀ q, va_A (va_pl L E) H.size q → A q := by
  intro q h
  rcases h with ⟨k, x, h⟩ | h
  · exact hD.2 k (q, x) h
  · exact hA q (Nat.le_trans hS.1 h)
theorem sZ.pass {G : GT} {A B : Nat → Prop} {s U : State} {H : Heap} {locs : List Loc} (h : sZ G A s s.heap) (hS : va_S A s.heap H locs) (hB : ∀ q, B q → A q) (hv : s.vm.Alike U.vm) (hU : U.heap = H) : sZ G B U U.heap := by
  rw [hU]
  exact ⟨((h.1.kept (fun a h1 h2 => hS.2.1 a h1 h2)).narrow hB).moved hv, ((h.2.kept (fun a h1 h2 => hS.2.1 a h1 h2)).narrow hB).moved hv⟩
theorem Pcq.blind {G : GT} {L : List Nat} {E : Nat → va_E} {sz : Nat} {av : List Value} : FrameBlind (va_Pc av (Pcq G L E sz)) := by
  intro a U g mk q
  obtain ⟨q0, q1, qP, qK, qD, qZ, qN⟩ := q
  exact ⟨q0, q1, qP, va_K.moved (u := U) (U := U.calling g mk a) (Vm.Alike.refl U.vm) qK, qD, ⟨va_Z.moved (u := U) (U := U.calling g mk a) (Vm.Alike.refl U.vm) qZ.1, va_T.moved (u := U) (U := U.calling g mk a) (Vm.Alike.refl U.vm) qZ.2⟩, Nst.same (s := U) (U := U.calling g mk a) rfl qN⟩
theorem lw_good : lw_g.all goodWord = true := by
  rw [List.all_eq_true]
  intro w hw
  exact (List.mem_filter.mp hw).2
theorem lw_goodIn {y : MethodName} {cc : ByteArray} {n : Nat} {ret : Option FieldType} (h : Cond.code y cc n ret ∈ lw_g) : GoodIn lw_g (.code y cc n ret :: lw_g) := by
  intro w hw
  have hm : w ∈ lw_g := by
    rcases List.mem_cons.mp hw with e | e
    · rw [e]; exact h
    · exact e
  exact ⟨hm, good_of_word (List.all_eq_true.mp lw_good w hm)⟩

theorem ne_in {a q : Nat} {L : List Nat} (h : a ∈ L) (n : q ∉ L) : a ≠ q := fun z => n (z ▸ h)
theorem i32_lt {a b : Int32} : a < b ↔ a.toInt < b.toInt := Int32.lt_iff_toInt_lt
theorem i32_le {a b : Int32} : a ≤ b ↔ a.toInt ≤ b.toInt := Int32.le_iff_toInt_le
theorem i32_eq {a b : Int32} : a = b ↔ a.toInt = b.toInt := Int32.toInt_inj.symm
def inn (x lo hi : Int32) : Int32 := if lo ≤ x ∧ x ≤ hi then 1 else 0
theorem inn_f {x lo hi : Int32} : inn x lo hi = 0 ↔ ¬ (lo ≤ x ∧ x ≤ hi) := by
  unfold inn; split
  · rename_i h; exact ⟨fun q => absurd q (by decide), fun q => absurd h q⟩
  · rename_i h; exact ⟨fun _ => h, fun _ => rfl⟩
theorem tn_m1 : ((-1) : Int32).toInt = -1 := rfl
theorem tn_0 : ((0) : Int32).toInt = 0 := rfl
theorem tn_1 : ((1) : Int32).toInt = 1 := rfl
theorem tn_2 : ((2) : Int32).toInt = 2 := rfl
theorem tn_3 : ((3) : Int32).toInt = 3 := rfl
theorem tn_4 : ((4) : Int32).toInt = 4 := rfl
theorem tn_5 : ((5) : Int32).toInt = 5 := rfl
theorem tn_6 : ((6) : Int32).toInt = 6 := rfl
theorem tn_7 : ((7) : Int32).toInt = 7 := rfl
theorem tn_8 : ((8) : Int32).toInt = 8 := rfl
theorem tn_10 : ((10) : Int32).toInt = 10 := rfl
theorem tn_30 : ((30) : Int32).toInt = 30 := rfl
theorem tn_31 : ((31) : Int32).toInt = 31 := rfl
theorem tn_32 : ((32) : Int32).toInt = 32 := rfl
theorem tn_36 : ((36) : Int32).toInt = 36 := rfl
theorem tn_40 : ((40) : Int32).toInt = 40 := rfl
theorem tn_50 : ((50) : Int32).toInt = 50 := rfl
theorem tn_100 : ((100) : Int32).toInt = 100 := rfl
theorem tn_126 : ((126) : Int32).toInt = 126 := rfl
theorem tn_200 : ((200) : Int32).toInt = 200 := rfl
theorem tn_255 : ((255) : Int32).toInt = 255 := rfl
theorem tn_500 : ((500) : Int32).toInt = 500 := rfl
theorem tn_512 : ((512) : Int32).toInt = 512 := rfl
theorem tn_3000 : ((3000) : Int32).toInt = 3000 := rfl
theorem tn_5000 : ((5000) : Int32).toInt = 5000 := rfl
section PQ
variable {p : Program} {l : Launch} {e : Env} {R : Room} {s : State} {m : MethodId} {args : Array Value} {below : List Frame} {meth : Method} {c : Code} {cc : ByteArray} {y : MethodName} {ret : Option FieldType} {G : GT} {A : Nat → Prop} {nL mc ms : Nat} {Q : State → Prop} {Post : PT} {L : List Nat} {E : Nat → va_E} {kc ks pc : Nat} {lv : List (Nat × Value)} {st : List Value}

theorem Mq.mk {n d : Nat} {av : List Value} (hy : plainName y.cls = true) (hn : (lg_sl av).length ≤ n) (body : ∀ (p : Program) (e : Env) (s : State) (m : MethodId) (args : Array Value) (below : List Frame) (meth : Method) (c : Code) (A : Nat → Prop), Cq p s m args meth c cc y ret G A n → wq p l e (rmq d mc ms) s m args below meth c G A n (MQ below (Qm G A Post) args s mc ms A) L E 0 0 0 (lv_args 0 av) []) : Mq l G y cc n ret d av L E mc ms Post := by
  intro sz
  refine Met.ofW (cc := cc) (maxL := n) (ret := ret) hy rfl ?_
  intro p e s m args below meth c s₁ B hml hv
  obtain ⟨rfl, hsz, hP, hK, hD0, hZ, hN⟩ := hv
  subst hsz
  refine hv2 (atoms_spec (ws := .code y cc n ret :: lw_g) B.pre) (lv_entry av (n := n) hn) (fun hts hl => ?_)
  rw [lg_entry_eq]
  have hown := findClass_of_methodNamed B.named
  exact body p e s m _ below meth c _ ⟨B.exec, B.bytes, hml, hown, fun w hw => hts w (List.mem_cons_of_mem _ hw), hK, fun q h => Or.inr h, hZ, B.returns, B.notSynchronized, (name_of_methodNamed B.named B.method).1, hN⟩ s.heap [] _ hP hD0.self va_S.rf hl

theorem q_iconst (C : Cq p s m args meth c cc y ret G A nL) {n : Int} {v : Int32} (d : decode cc pc = .ok (.iconst n, 1)) (hv : Int32.ofInt n = v) (k : wq p l e R s m args below meth c G A nL Q L E kc ks (pc + 1) lv (.int v :: st)) : wq p l e R s m args below meth c G A nL Q L E kc ks pc lv st := fun H locs ls hP hD hS hl => lv_iconst C.1 C.2.1 d hv (k H locs ls hP hD hS hl)
theorem q_bipush (C : Cq p s m args meth c cc y ret G A nL) {n : Int} {v : Int32} (d : decode cc pc = .ok (.bipush n, 2)) (hv : (Int8.ofInt n).toInt32 = v) (k : wq p l e R s m args below meth c G A nL Q L E kc ks (pc + 2) lv (.int v :: st)) : wq p l e R s m args below meth c G A nL Q L E kc ks pc lv st := fun H locs ls hP hD hS hl => lv_bipush C.1 C.2.1 d hv (k H locs ls hP hD hS hl)
theorem q_sipush (C : Cq p s m args meth c cc y ret G A nL) {n : Int} {v : Int32} (d : decode cc pc = .ok (.sipush n, 3)) (hv : (Int16.ofInt n).toInt32 = v) (k : wq p l e R s m args below meth c G A nL Q L E kc ks (pc + 3) lv (.int v :: st)) : wq p l e R s m args below meth c G A nL Q L E kc ks pc lv st := fun H locs ls hP hD hS hl => lv_sipush C.1 C.2.1 d hv (k H locs ls hP hD hS hl)
theorem q_ldc (C : Cq p s m args meth c cc y ret G A nL) {idx : Nat} {v : Int32} (d : decode cc pc = .ok (.ldc idx, 2)) (hc : Cond.constant y.cls idx v ∈ lw_g) (k : wq p l e R s m args below meth c G A nL Q L E kc ks (pc + 2) lv (.int v :: st)) : wq p l e R s m args below meth c G A nL Q L E kc ks pc lv st := fun H locs ls hP hD hS hl => lv_ldc C.1 C.2.1 C.2.2.2.1 (C.2.2.2.2.1 _ hc) d (k H locs ls hP hD hS hl)
theorem q_ldcw (C : Cq p s m args meth c cc y ret G A nL) {idx : Nat} {v : Int32} (d : decode cc pc = .ok (.ldc_w idx, 3)) (hc : Cond.constant y.cls idx v ∈ lw_g) (k : wq p l e R s m args below meth c G A nL Q L E kc ks (pc + 3) lv (.int v :: st)) : wq p l e R s m args below meth c G A nL Q L E kc ks pc lv st := fun H locs ls hP hD hS hl => lv_ldcw C.1 C.2.1 C.2.2.2.1 (C.2.2.2.2.1 _ hc) d (k H locs ls hP hD hS hl)
theorem q_i2l (C : Cq p s m args meth c cc y ret G A nL) {x : Int32} {v : Int64} (d : decode cc pc = .ok (.i2l, 1)) (hv : x.toInt64 = v) (k : wq p l e R s m args below meth c G A nL Q L E kc ks (pc + 1) lv (.long v :: st)) : wq p l e R s m args below meth c G A nL Q L E kc ks pc lv (.int x :: st) := fun H locs ls hP hD hS hl => lv_i2l C.1 C.2.1 d hv (k H locs ls hP hD hS hl)
theorem q_l2i (C : Cq p s m args meth c cc y ret G A nL) {x : Int64} {v : Int32} (d : decode cc pc = .ok (.l2i, 1)) (hv : x.toInt32 = v) (k : wq p l e R s m args below meth c G A nL Q L E kc ks (pc + 1) lv (.int v :: st)) : wq p l e R s m args below meth c G A nL Q L E kc ks pc lv (.long x :: st) := fun H locs ls hP hD hS hl => lv_l2i C.1 C.2.1 d hv (k H locs ls hP hD hS hl)
theorem q_ladd (C : Cq p s m args meth c cc y ret G A nL) {x y2 v : Int64} (d : decode cc pc = .ok (.ladd, 1)) (hv : x + y2 = v) (k : wq p l e R s m args below meth c G A nL Q L E kc ks (pc + 1) lv (.long v :: st)) : wq p l e R s m args below meth c G A nL Q L E kc ks pc lv (.long y2 :: .long x :: st) := fun H locs ls hP hD hS hl => lv_ladd C.1 C.2.1 d (hv ▸ (k H locs ls hP hD hS hl))
theorem q_lconst (C : Cq p s m args meth c cc y ret G A nL) {n : Fin 2} {v : Int64} (d : decode cc pc = .ok (.lconst n, 1)) (hv : Int64.ofNat (n : Nat) = v) (k : wq p l e R s m args below meth c G A nL Q L E kc ks (pc + 1) lv (.long v :: st)) : wq p l e R s m args below meth c G A nL Q L E kc ks pc lv st := fun H locs ls hP hD hS hl => lv_lconst C.1 C.2.1 d hv (k H locs ls hP hD hS hl)
theorem q_lload (C : Cq p s m args meth c cc y ret G A nL) {i j : Nat} {x : Int64} (d : decode cc pc = .ok (.lload i, 2)) (hj : lv[j]? = some (i, .long x)) (k : wq p l e R s m args below meth c G A nL Q L E kc ks (pc + 2) lv (.long x :: st)) : wq p l e R s m args below meth c G A nL Q L E kc ks pc lv st := fun H locs ls hP hD hS hl => lv_lload C.1 C.2.1 d (lv_at hl j hj) (k H locs ls hP hD hS hl)
theorem q_lcmp (C : Cq p s m args meth c cc y ret G A nL) {x y2 : Int64} {v : Int32} (d : decode cc pc = .ok (.lcmp, 1)) (hv : lg_cmp x y2 = v) (k : wq p l e R s m args below meth c G A nL Q L E kc ks (pc + 1) lv (.int v :: st)) : wq p l e R s m args below meth c G A nL Q L E kc ks pc lv (.long y2 :: .long x :: st) := fun H locs ls hP hD hS hl => W.lcmp C.1 C.2.1 d (hv ▸ (k H locs ls hP hD hS hl))
theorem q_lstore (C : Cq p s m args meth c cc y ret G A nL) {i : Nat} {x : Int64} {lv2 : List (Nat × Value)} (d : decode cc pc = .ok (.lstore i, 2)) (hn : i + 1 < nL) (hl : (i, Value.long x) :: lv.filter (fun q => !(q.1 == i) && (!(q.1 == i + 1) && !(q.1 + 1 == i && q.2.category == 2))) = lv2) (k : wq p l e R s m args below meth c G A nL Q L E kc ks (pc + 2) lv2 st) : wq p l e R s m args below meth c G A nL Q L E kc ks pc lv (Value.long x :: st) := fun H locs ls hP hD hS h => lv_lstore C.1 C.2.1 d h hn hl (fun ls h => k H locs ls hP hD hS h)
theorem q_null (C : Cq p s m args meth c cc y ret G A nL)  (d : decode cc pc = .ok (.aconst_null, 1))  (k : wq p l e R s m args below meth c G A nL Q L E kc ks (pc + 1) lv (.null :: st)) : wq p l e R s m args below meth c G A nL Q L E kc ks pc lv st := fun H locs ls hP hD hS hl => lv_null C.1 C.2.1 d (k H locs ls hP hD hS hl)
theorem q_iload_n (C : Cq p s m args meth c cc y ret G A nL) {i : Fin 4} {j : Nat} {x : Int32} (d : decode cc pc = .ok (.iload_n i, 1)) (hj : lv[j]? = some ((i : Nat), .int x)) (k : wq p l e R s m args below meth c G A nL Q L E kc ks (pc + 1) lv (.int x :: st)) : wq p l e R s m args below meth c G A nL Q L E kc ks pc lv st := fun H locs ls hP hD hS hl => lv_iload_n C.1 C.2.1 d rfl (lv_at hl j hj) (k H locs ls hP hD hS hl)
theorem q_iload (C : Cq p s m args meth c cc y ret G A nL) {i : Nat} {j : Nat} {x : Int32} (d : decode cc pc = .ok (.iload i, 2)) (hj : lv[j]? = some (i, .int x)) (k : wq p l e R s m args below meth c G A nL Q L E kc ks (pc + 2) lv (.int x :: st)) : wq p l e R s m args below meth c G A nL Q L E kc ks pc lv st := fun H locs ls hP hD hS hl => lv_iload C.1 C.2.1 d (lv_at hl j hj) (k H locs ls hP hD hS hl)
theorem q_aload_n (C : Cq p s m args meth c cc y ret G A nL) {i : Fin 4} {j : Nat} {x : Nat} (d : decode cc pc = .ok (.aload_n i, 1)) (hj : lv[j]? = some ((i : Nat), .ref x)) (k : wq p l e R s m args below meth c G A nL Q L E kc ks (pc + 1) lv (.ref x :: st)) : wq p l e R s m args below meth c G A nL Q L E kc ks pc lv st := fun H locs ls hP hD hS hl => lv_aload_n C.1 C.2.1 d rfl (lv_at hl j hj) (k H locs ls hP hD hS hl)
theorem q_aload (C : Cq p s m args meth c cc y ret G A nL) {i : Nat} {j : Nat} {x : Nat} (d : decode cc pc = .ok (.aload i, 2)) (hj : lv[j]? = some (i, .ref x)) (k : wq p l e R s m args below meth c G A nL Q L E kc ks (pc + 2) lv (.ref x :: st)) : wq p l e R s m args below meth c G A nL Q L E kc ks pc lv st := fun H locs ls hP hD hS hl => lv_aload C.1 C.2.1 d (lv_at hl j hj) (k H locs ls hP hD hS hl)
theorem q_aload_nN (C : Cq p s m args meth c cc y ret G A nL) {i : Fin 4} {j : Nat} (d : decode cc pc = .ok (.aload_n i, 1)) (hj : lv[j]? = some ((i : Nat), .null)) (k : wq p l e R s m args below meth c G A nL Q L E kc ks (pc + 1) lv (.null :: st)) : wq p l e R s m args below meth c G A nL Q L E kc ks pc lv st := fun H locs ls hP hD hS hl => lv_aload_nN C.1 C.2.1 d rfl (lv_at hl j hj) (k H locs ls hP hD hS hl)
theorem q_aloadN (C : Cq p s m args meth c cc y ret G A nL) {i : Nat} {j : Nat} (d : decode cc pc = .ok (.aload i, 2)) (hj : lv[j]? = some (i, .null)) (k : wq p l e R s m args below meth c G A nL Q L E kc ks (pc + 2) lv (.null :: st)) : wq p l e R s m args below meth c G A nL Q L E kc ks pc lv st := fun H locs ls hP hD hS hl => lv_aloadN C.1 C.2.1 d (lv_at hl j hj) (k H locs ls hP hD hS hl)
theorem q_istore_n (C : Cq p s m args meth c cc y ret G A nL) {i : Fin 4} {x : Int32} {lv2 : List (Nat × Value)} (d : decode cc pc = .ok (.istore_n i, 1)) (hn : (i : Nat) < nL) (hl : ((i : Nat), Value.int x) :: lv.filter (fun q => !(q.1 == (i : Nat)) && !(q.1 + 1 == (i : Nat) && q.2.category == 2)) = lv2) (k : wq p l e R s m args below meth c G A nL Q L E kc ks (pc + 1) lv2 st) : wq p l e R s m args below meth c G A nL Q L E kc ks pc lv (Value.int x :: st) := fun H locs ls hP hD hS h => lv_istore_n C.1 C.2.1 d rfl h hn hl (fun ls h => k H locs ls hP hD hS h)
theorem q_istore (C : Cq p s m args meth c cc y ret G A nL) {i : Nat} {x : Int32} {lv2 : List (Nat × Value)} (d : decode cc pc = .ok (.istore i, 2)) (hn : i < nL) (hl : (i, Value.int x) :: lv.filter (fun q => !(q.1 == i) && !(q.1 + 1 == i && q.2.category == 2)) = lv2) (k : wq p l e R s m args below meth c G A nL Q L E kc ks (pc + 2) lv2 st) : wq p l e R s m args below meth c G A nL Q L E kc ks pc lv (Value.int x :: st) := fun H locs ls hP hD hS h => lv_istore C.1 C.2.1 d h hn hl (fun ls h => k H locs ls hP hD hS h)
theorem q_astore_n (C : Cq p s m args meth c cc y ret G A nL) {i : Fin 4} {x : Nat} {lv2 : List (Nat × Value)} (d : decode cc pc = .ok (.astore_n i, 1)) (hn : (i : Nat) < nL) (hl : ((i : Nat), Value.ref x) :: lv.filter (fun q => !(q.1 == (i : Nat)) && !(q.1 + 1 == (i : Nat) && q.2.category == 2)) = lv2) (k : wq p l e R s m args below meth c G A nL Q L E kc ks (pc + 1) lv2 st) : wq p l e R s m args below meth c G A nL Q L E kc ks pc lv (Value.ref x :: st) := fun H locs ls hP hD hS h => lv_astore_n C.1 C.2.1 d rfl h hn hl (fun ls h => k H locs ls hP hD hS h)
theorem q_astore (C : Cq p s m args meth c cc y ret G A nL) {i : Nat} {x : Nat} {lv2 : List (Nat × Value)} (d : decode cc pc = .ok (.astore i, 2)) (hn : i < nL) (hl : (i, Value.ref x) :: lv.filter (fun q => !(q.1 == i) && !(q.1 + 1 == i && q.2.category == 2)) = lv2) (k : wq p l e R s m args below meth c G A nL Q L E kc ks (pc + 2) lv2 st) : wq p l e R s m args below meth c G A nL Q L E kc ks pc lv (Value.ref x :: st) := fun H locs ls hP hD hS h => lv_astore C.1 C.2.1 d h hn hl (fun ls h => k H locs ls hP hD hS h)
theorem q_astore_nN (C : Cq p s m args meth c cc y ret G A nL) {i : Fin 4}  {lv2 : List (Nat × Value)} (d : decode cc pc = .ok (.astore_n i, 1)) (hn : (i : Nat) < nL) (hl : ((i : Nat), Value.null) :: lv.filter (fun q => !(q.1 == (i : Nat)) && !(q.1 + 1 == (i : Nat) && q.2.category == 2)) = lv2) (k : wq p l e R s m args below meth c G A nL Q L E kc ks (pc + 1) lv2 st) : wq p l e R s m args below meth c G A nL Q L E kc ks pc lv (Value.null :: st) := fun H locs ls hP hD hS h => lv_astore_nN C.1 C.2.1 d rfl h hn hl (fun ls h => k H locs ls hP hD hS h)
theorem q_astoreN (C : Cq p s m args meth c cc y ret G A nL) {i : Nat}  {lv2 : List (Nat × Value)} (d : decode cc pc = .ok (.astore i, 2)) (hn : i < nL) (hl : (i, Value.null) :: lv.filter (fun q => !(q.1 == i) && !(q.1 + 1 == i && q.2.category == 2)) = lv2) (k : wq p l e R s m args below meth c G A nL Q L E kc ks (pc + 2) lv2 st) : wq p l e R s m args below meth c G A nL Q L E kc ks pc lv (Value.null :: st) := fun H locs ls hP hD hS h => lv_astoreN C.1 C.2.1 d h hn hl (fun ls h => k H locs ls hP hD hS h)
theorem q_iinc (C : Cq p s m args meth c cc y ret G A nL) {i j : Nat} {n : Int} {x v : Int32} {lv2 : List (Nat × Value)} (d : decode cc pc = .ok (.iinc i n, 3)) (hj : lv[j]? = some (i, .int x)) (hv : x + Int32.ofInt n = v) (hn : i < nL) (hl : (i, Value.int v) :: lv.filter (fun q => !(q.1 == i) && !(q.1 + 1 == i && q.2.category == 2)) = lv2) (k : wq p l e R s m args below meth c G A nL Q L E kc ks (pc + 3) lv2 st) : wq p l e R s m args below meth c G A nL Q L E kc ks pc lv st := fun H locs ls hP hD hS h => lv_iinc C.1 C.2.1 d h hj hv hn hl (fun ls h => k H locs ls hP hD hS h)
theorem q_iadd (C : Cq p s m args meth c cc y ret G A nL) {x y2 v : Int32} (d : decode cc pc = .ok (.iadd, 1)) (hv : x + y2 = v) (k : wq p l e R s m args below meth c G A nL Q L E kc ks (pc + 1) lv (.int v :: st)) : wq p l e R s m args below meth c G A nL Q L E kc ks pc lv (.int y2 :: .int x :: st) := fun H locs ls hP hD hS hl => lv_iadd C.1 C.2.1 d (hv ▸ (k H locs ls hP hD hS hl))
theorem q_isub (C : Cq p s m args meth c cc y ret G A nL) {x y2 v : Int32} (d : decode cc pc = .ok (.isub, 1)) (hv : x - y2 = v) (k : wq p l e R s m args below meth c G A nL Q L E kc ks (pc + 1) lv (.int v :: st)) : wq p l e R s m args below meth c G A nL Q L E kc ks pc lv (.int y2 :: .int x :: st) := fun H locs ls hP hD hS hl => lv_isub C.1 C.2.1 d (hv ▸ (k H locs ls hP hD hS hl))
theorem q_imul (C : Cq p s m args meth c cc y ret G A nL) {x y2 v : Int32} (d : decode cc pc = .ok (.imul, 1)) (hv : x * y2 = v) (k : wq p l e R s m args below meth c G A nL Q L E kc ks (pc + 1) lv (.int v :: st)) : wq p l e R s m args below meth c G A nL Q L E kc ks pc lv (.int y2 :: .int x :: st) := fun H locs ls hP hD hS hl => lv_imul C.1 C.2.1 d (hv ▸ (k H locs ls hP hD hS hl))
theorem q_iand (C : Cq p s m args meth c cc y ret G A nL) {x y2 v : Int32} (d : decode cc pc = .ok (.iand, 1)) (hv : x &&& y2 = v) (k : wq p l e R s m args below meth c G A nL Q L E kc ks (pc + 1) lv (.int v :: st)) : wq p l e R s m args below meth c G A nL Q L E kc ks pc lv (.int y2 :: .int x :: st) := fun H locs ls hP hD hS hl => lv_iand C.1 C.2.1 d (hv ▸ (k H locs ls hP hD hS hl))
theorem q_ior (C : Cq p s m args meth c cc y ret G A nL) {x y2 v : Int32} (d : decode cc pc = .ok (.ior, 1)) (hv : x ||| y2 = v) (k : wq p l e R s m args below meth c G A nL Q L E kc ks (pc + 1) lv (.int v :: st)) : wq p l e R s m args below meth c G A nL Q L E kc ks pc lv (.int y2 :: .int x :: st) := fun H locs ls hP hD hS hl => lv_ior C.1 C.2.1 d (hv ▸ (k H locs ls hP hD hS hl))
theorem q_ixor (C : Cq p s m args meth c cc y ret G A nL) {x y2 v : Int32} (d : decode cc pc = .ok (.ixor, 1)) (hv : x ^^^ y2 = v) (k : wq p l e R s m args below meth c G A nL Q L E kc ks (pc + 1) lv (.int v :: st)) : wq p l e R s m args below meth c G A nL Q L E kc ks pc lv (.int y2 :: .int x :: st) := fun H locs ls hP hD hS hl => lv_ixor C.1 C.2.1 d (hv ▸ (k H locs ls hP hD hS hl))
theorem q_ishl (C : Cq p s m args meth c cc y ret G A nL) {x y2 v : Int32} (d : decode cc pc = .ok (.ishl, 1)) (hv : x <<< (y2 &&& 31) = v) (k : wq p l e R s m args below meth c G A nL Q L E kc ks (pc + 1) lv (.int v :: st)) : wq p l e R s m args below meth c G A nL Q L E kc ks pc lv (.int y2 :: .int x :: st) := fun H locs ls hP hD hS hl => lv_ishl C.1 C.2.1 d (hv ▸ (k H locs ls hP hD hS hl))
theorem q_ishr (C : Cq p s m args meth c cc y ret G A nL) {x y2 v : Int32} (d : decode cc pc = .ok (.ishr, 1)) (hv : x >>> (y2 &&& 31) = v) (k : wq p l e R s m args below meth c G A nL Q L E kc ks (pc + 1) lv (.int v :: st)) : wq p l e R s m args below meth c G A nL Q L E kc ks pc lv (.int y2 :: .int x :: st) := fun H locs ls hP hD hS hl => lv_ishr C.1 C.2.1 d (hv ▸ (k H locs ls hP hD hS hl))
theorem q_iushr (C : Cq p s m args meth c cc y ret G A nL) {x y2 v : Int32} (d : decode cc pc = .ok (.iushr, 1)) (hv : (x.toUInt32 >>> (y2.toUInt32 &&& Int32.toUInt32 31)).toInt32 = v) (k : wq p l e R s m args below meth c G A nL Q L E kc ks (pc + 1) lv (.int v :: st)) : wq p l e R s m args below meth c G A nL Q L E kc ks pc lv (.int y2 :: .int x :: st) := fun H locs ls hP hD hS hl => lv_iushr C.1 C.2.1 d hv (k H locs ls hP hD hS hl)
theorem q_idiv (C : Cq p s m args meth c cc y ret G A nL) {x y2 v : Int32} (d : decode cc pc = .ok (.idiv, 1)) (hne : ¬ y2 = 0) (hv : x / y2 = v) (k : wq p l e R s m args below meth c G A nL Q L E kc ks (pc + 1) lv (.int v :: st)) : wq p l e R s m args below meth c G A nL Q L E kc ks pc lv (.int y2 :: .int x :: st) := fun H locs ls hP hD hS hl => lv_idiv C.1 C.2.1 d hne (hv ▸ (k H locs ls hP hD hS hl))
theorem q_ineg (C : Cq p s m args meth c cc y ret G A nL) {x v : Int32} (d : decode cc pc = .ok (.ineg, 1)) (hv : -x = v) (k : wq p l e R s m args below meth c G A nL Q L E kc ks (pc + 1) lv (.int v :: st)) : wq p l e R s m args below meth c G A nL Q L E kc ks pc lv (.int x :: st) := fun H locs ls hP hD hS hl => lv_ineg C.1 C.2.1 d (hv ▸ (k H locs ls hP hD hS hl))
theorem q_dup (C : Cq p s m args meth c cc y ret G A nL) {v : Value} (d : decode cc pc = .ok (.dup, 1)) (hv : v.category = 1) (k : wq p l e R s m args below meth c G A nL Q L E kc ks (pc + 1) lv (v :: v :: st)) : wq p l e R s m args below meth c G A nL Q L E kc ks pc lv (v :: st) := fun H locs ls hP hD hS hl => lv_dup C.1 C.2.1 d hv (k H locs ls hP hD hS hl)
theorem q_pop (C : Cq p s m args meth c cc y ret G A nL) {v : Value} (d : decode cc pc = .ok (.pop, 1)) (hv : v.category = 1) (k : wq p l e R s m args below meth c G A nL Q L E kc ks (pc + 1) lv st) : wq p l e R s m args below meth c G A nL Q L E kc ks pc lv (v :: st) := fun H locs ls hP hD hS hl => lv_pop C.1 C.2.1 d hv (k H locs ls hP hD hS hl)
theorem q_dup_x1 (C : Cq p s m args meth c cc y ret G A nL) {v w : Value} (d : decode cc pc = .ok (.dup_x1, 1)) (hv : v.category = 1) (hw : w.category = 1) (k : wq p l e R s m args below meth c G A nL Q L E kc ks (pc + 1) lv (v :: w :: v :: st)) : wq p l e R s m args below meth c G A nL Q L E kc ks pc lv (v :: w :: st) := fun H locs ls hP hD hS hl => lv_dup_x1 C.1 C.2.1 d hv hw (k H locs ls hP hD hS hl)
theorem q_dup2 (C : Cq p s m args meth c cc y ret G A nL) {v w : Value} (d : decode cc pc = .ok (.dup2, 1)) (hv : v.category = 1) (hw : w.category = 1) (k : wq p l e R s m args below meth c G A nL Q L E kc ks (pc + 1) lv (v :: w :: v :: w :: st)) : wq p l e R s m args below meth c G A nL Q L E kc ks pc lv (v :: w :: st) := fun H locs ls hP hD hS hl => lv_dup2_11 C.1 C.2.1 d hv hw (k H locs ls hP hD hS hl)
theorem q_if_eq (C : Cq p s m args meth c cc y ret G A nL) {x : Int32} {off : Int} {tgt : Nat} (d : decode cc pc = .ok (.ifCond .eq off, 3)) (ht : (pc : Int) + off = (tgt : Int)) (kt : x = 0 → wq p l e R s m args below meth c G A nL Q L E kc ks tgt lv st) (kf : ¬ x = 0 → wq p l e R s m args below meth c G A nL Q L E kc ks (pc + 3) lv st) : wq p l e R s m args below meth c G A nL Q L E kc ks pc lv (.int x :: st) := fun H locs ls hP hD hS hl => lv_if_eq C.1 C.2.1 d ht (fun h => kt h H locs ls hP hD hS hl) (fun h => kf h H locs ls hP hD hS hl)
theorem q_if_ne (C : Cq p s m args meth c cc y ret G A nL) {x : Int32} {off : Int} {tgt : Nat} (d : decode cc pc = .ok (.ifCond .ne off, 3)) (ht : (pc : Int) + off = (tgt : Int)) (kt : ¬ x = 0 → wq p l e R s m args below meth c G A nL Q L E kc ks tgt lv st) (kf : x = 0 → wq p l e R s m args below meth c G A nL Q L E kc ks (pc + 3) lv st) : wq p l e R s m args below meth c G A nL Q L E kc ks pc lv (.int x :: st) := fun H locs ls hP hD hS hl => lv_if_ne C.1 C.2.1 d ht (fun h => kt h H locs ls hP hD hS hl) (fun h => kf h H locs ls hP hD hS hl)
theorem q_if_lt (C : Cq p s m args meth c cc y ret G A nL) {x : Int32} {off : Int} {tgt : Nat} (d : decode cc pc = .ok (.ifCond .lt off, 3)) (ht : (pc : Int) + off = (tgt : Int)) (kt : x < 0 → wq p l e R s m args below meth c G A nL Q L E kc ks tgt lv st) (kf : ¬ x < 0 → wq p l e R s m args below meth c G A nL Q L E kc ks (pc + 3) lv st) : wq p l e R s m args below meth c G A nL Q L E kc ks pc lv (.int x :: st) := fun H locs ls hP hD hS hl => lv_if_lt C.1 C.2.1 d ht (fun h => kt h H locs ls hP hD hS hl) (fun h => kf h H locs ls hP hD hS hl)
theorem q_if_ge (C : Cq p s m args meth c cc y ret G A nL) {x : Int32} {off : Int} {tgt : Nat} (d : decode cc pc = .ok (.ifCond .ge off, 3)) (ht : (pc : Int) + off = (tgt : Int)) (kt : 0 ≤ x → wq p l e R s m args below meth c G A nL Q L E kc ks tgt lv st) (kf : ¬ 0 ≤ x → wq p l e R s m args below meth c G A nL Q L E kc ks (pc + 3) lv st) : wq p l e R s m args below meth c G A nL Q L E kc ks pc lv (.int x :: st) := fun H locs ls hP hD hS hl => lv_if_ge C.1 C.2.1 d ht (fun h => kt h H locs ls hP hD hS hl) (fun h => kf h H locs ls hP hD hS hl)
theorem q_if_gt (C : Cq p s m args meth c cc y ret G A nL) {x : Int32} {off : Int} {tgt : Nat} (d : decode cc pc = .ok (.ifCond .gt off, 3)) (ht : (pc : Int) + off = (tgt : Int)) (kt : 0 < x → wq p l e R s m args below meth c G A nL Q L E kc ks tgt lv st) (kf : ¬ 0 < x → wq p l e R s m args below meth c G A nL Q L E kc ks (pc + 3) lv st) : wq p l e R s m args below meth c G A nL Q L E kc ks pc lv (.int x :: st) := fun H locs ls hP hD hS hl => lv_if_gt C.1 C.2.1 d ht (fun h => kt h H locs ls hP hD hS hl) (fun h => kf h H locs ls hP hD hS hl)
theorem q_if_le (C : Cq p s m args meth c cc y ret G A nL) {x : Int32} {off : Int} {tgt : Nat} (d : decode cc pc = .ok (.ifCond .le off, 3)) (ht : (pc : Int) + off = (tgt : Int)) (kt : x ≤ 0 → wq p l e R s m args below meth c G A nL Q L E kc ks tgt lv st) (kf : ¬ x ≤ 0 → wq p l e R s m args below meth c G A nL Q L E kc ks (pc + 3) lv st) : wq p l e R s m args below meth c G A nL Q L E kc ks pc lv (.int x :: st) := fun H locs ls hP hD hS hl => lv_if_le C.1 C.2.1 d ht (fun h => kt h H locs ls hP hD hS hl) (fun h => kf h H locs ls hP hD hS hl)
theorem q_icmp_eq (C : Cq p s m args meth c cc y ret G A nL) {x y2 : Int32} {off : Int} {tgt : Nat} (d : decode cc pc = .ok (.if_icmp .eq off, 3)) (ht : (pc : Int) + off = (tgt : Int)) (kt : x = y2 → wq p l e R s m args below meth c G A nL Q L E kc ks tgt lv st) (kf : ¬ x = y2 → wq p l e R s m args below meth c G A nL Q L E kc ks (pc + 3) lv st) : wq p l e R s m args below meth c G A nL Q L E kc ks pc lv (.int y2 :: .int x :: st) := fun H locs ls hP hD hS hl => lv_icmp_eq C.1 C.2.1 d ht (fun h => kt h H locs ls hP hD hS hl) (fun h => kf h H locs ls hP hD hS hl)
theorem q_icmp_ne (C : Cq p s m args meth c cc y ret G A nL) {x y2 : Int32} {off : Int} {tgt : Nat} (d : decode cc pc = .ok (.if_icmp .ne off, 3)) (ht : (pc : Int) + off = (tgt : Int)) (kt : ¬ x = y2 → wq p l e R s m args below meth c G A nL Q L E kc ks tgt lv st) (kf : x = y2 → wq p l e R s m args below meth c G A nL Q L E kc ks (pc + 3) lv st) : wq p l e R s m args below meth c G A nL Q L E kc ks pc lv (.int y2 :: .int x :: st) := fun H locs ls hP hD hS hl => lv_icmp_ne C.1 C.2.1 d ht (fun h => kt h H locs ls hP hD hS hl) (fun h => kf h H locs ls hP hD hS hl)
theorem q_icmp_lt (C : Cq p s m args meth c cc y ret G A nL) {x y2 : Int32} {off : Int} {tgt : Nat} (d : decode cc pc = .ok (.if_icmp .lt off, 3)) (ht : (pc : Int) + off = (tgt : Int)) (kt : x < y2 → wq p l e R s m args below meth c G A nL Q L E kc ks tgt lv st) (kf : ¬ x < y2 → wq p l e R s m args below meth c G A nL Q L E kc ks (pc + 3) lv st) : wq p l e R s m args below meth c G A nL Q L E kc ks pc lv (.int y2 :: .int x :: st) := fun H locs ls hP hD hS hl => lv_icmp_lt C.1 C.2.1 d ht (fun h => kt h H locs ls hP hD hS hl) (fun h => kf h H locs ls hP hD hS hl)
theorem q_icmp_ge (C : Cq p s m args meth c cc y ret G A nL) {x y2 : Int32} {off : Int} {tgt : Nat} (d : decode cc pc = .ok (.if_icmp .ge off, 3)) (ht : (pc : Int) + off = (tgt : Int)) (kt : y2 ≤ x → wq p l e R s m args below meth c G A nL Q L E kc ks tgt lv st) (kf : ¬ y2 ≤ x → wq p l e R s m args below meth c G A nL Q L E kc ks (pc + 3) lv st) : wq p l e R s m args below meth c G A nL Q L E kc ks pc lv (.int y2 :: .int x :: st) := fun H locs ls hP hD hS hl => lv_icmp_ge C.1 C.2.1 d ht (fun h => kt h H locs ls hP hD hS hl) (fun h => kf h H locs ls hP hD hS hl)
theorem q_icmp_gt (C : Cq p s m args meth c cc y ret G A nL) {x y2 : Int32} {off : Int} {tgt : Nat} (d : decode cc pc = .ok (.if_icmp .gt off, 3)) (ht : (pc : Int) + off = (tgt : Int)) (kt : y2 < x → wq p l e R s m args below meth c G A nL Q L E kc ks tgt lv st) (kf : ¬ y2 < x → wq p l e R s m args below meth c G A nL Q L E kc ks (pc + 3) lv st) : wq p l e R s m args below meth c G A nL Q L E kc ks pc lv (.int y2 :: .int x :: st) := fun H locs ls hP hD hS hl => lv_icmp_gt C.1 C.2.1 d ht (fun h => kt h H locs ls hP hD hS hl) (fun h => kf h H locs ls hP hD hS hl)
theorem q_icmp_le (C : Cq p s m args meth c cc y ret G A nL) {x y2 : Int32} {off : Int} {tgt : Nat} (d : decode cc pc = .ok (.if_icmp .le off, 3)) (ht : (pc : Int) + off = (tgt : Int)) (kt : x ≤ y2 → wq p l e R s m args below meth c G A nL Q L E kc ks tgt lv st) (kf : ¬ x ≤ y2 → wq p l e R s m args below meth c G A nL Q L E kc ks (pc + 3) lv st) : wq p l e R s m args below meth c G A nL Q L E kc ks pc lv (.int y2 :: .int x :: st) := fun H locs ls hP hD hS hl => lv_icmp_le C.1 C.2.1 d ht (fun h => kt h H locs ls hP hD hS hl) (fun h => kf h H locs ls hP hD hS hl)
theorem q_acmp_eq (C : Cq p s m args meth c cc y ret G A nL) {rx ry : Option Nat} {off : Int} {tgt : Nat} (d : decode cc pc = .ok (.if_acmp .eq off, 3)) (ht : (pc : Int) + off = (tgt : Int)) (kt : rx = ry → wq p l e R s m args below meth c G A nL Q L E kc ks tgt lv st) (kf : ¬ rx = ry → wq p l e R s m args below meth c G A nL Q L E kc ks (pc + 3) lv st) : wq p l e R s m args below meth c G A nL Q L E kc ks pc lv (va_rf ry :: va_rf rx :: st) := fun H locs ls hP hD hS hl => lv_acmp_eq C.1 C.2.1 d ht (fun h => kt h H locs ls hP hD hS hl) (fun h => kf h H locs ls hP hD hS hl)
theorem q_acmp_ne (C : Cq p s m args meth c cc y ret G A nL) {rx ry : Option Nat} {off : Int} {tgt : Nat} (d : decode cc pc = .ok (.if_acmp .ne off, 3)) (ht : (pc : Int) + off = (tgt : Int)) (kt : ¬ rx = ry → wq p l e R s m args below meth c G A nL Q L E kc ks tgt lv st) (kf : rx = ry → wq p l e R s m args below meth c G A nL Q L E kc ks (pc + 3) lv st) : wq p l e R s m args below meth c G A nL Q L E kc ks pc lv (va_rf ry :: va_rf rx :: st) := fun H locs ls hP hD hS hl => lv_acmp_ne C.1 C.2.1 d ht (fun h => kt h H locs ls hP hD hS hl) (fun h => kf h H locs ls hP hD hS hl)
theorem q_goto (C : Cq p s m args meth c cc y ret G A nL) {off : Int} {tgt : Nat} (d : decode cc pc = .ok (.goto off, 3)) (ht : (pc : Int) + off = (tgt : Int)) (k : wq p l e R s m args below meth c G A nL Q L E kc ks tgt lv st) : wq p l e R s m args below meth c G A nL Q L E kc ks pc lv st := fun H locs ls hP hD hS hl => lv_goto C.1 C.2.1 d ht (k H locs ls hP hD hS hl)
theorem q_ifnonnull (C : Cq p s m args meth c cc y ret G A nL) {x : Nat} {off : Int} {tgt : Nat} (d : decode cc pc = .ok (.ifnonnull off, 3)) (ht : (pc : Int) + off = (tgt : Int)) (k : wq p l e R s m args below meth c G A nL Q L E kc ks tgt lv st) : wq p l e R s m args below meth c G A nL Q L E kc ks pc lv (.ref x :: st) := fun H locs ls hP hD hS hl => lv_ifnonnull C.1 C.2.1 d ht (k H locs ls hP hD hS hl)
theorem q_ifnonnullN (C : Cq p s m args meth c cc y ret G A nL) {off : Int} (d : decode cc pc = .ok (.ifnonnull off, 3))  (k : wq p l e R s m args below meth c G A nL Q L E kc ks (pc + 3) lv st) : wq p l e R s m args below meth c G A nL Q L E kc ks pc lv (.null :: st) := fun H locs ls hP hD hS hl => lv_ifnonnullN C.1 C.2.1 d (k H locs ls hP hD hS hl)
theorem q_ifnull (C : Cq p s m args meth c cc y ret G A nL) {x : Nat} {off : Int} (d : decode cc pc = .ok (.ifnull off, 3))  (k : wq p l e R s m args below meth c G A nL Q L E kc ks (pc + 3) lv st) : wq p l e R s m args below meth c G A nL Q L E kc ks pc lv (.ref x :: st) := fun H locs ls hP hD hS hl => lv_ifnull C.1 C.2.1 d (k H locs ls hP hD hS hl)
theorem q_ifnullN (C : Cq p s m args meth c cc y ret G A nL) {off : Int} {tgt : Nat} (d : decode cc pc = .ok (.ifnull off, 3)) (ht : (pc : Int) + off = (tgt : Int)) (k : wq p l e R s m args below meth c G A nL Q L E kc ks tgt lv st) : wq p l e R s m args below meth c G A nL Q L E kc ks pc lv (.null :: st) := fun H locs ls hP hD hS hl => lv_ifnullN C.1 C.2.1 d ht (k H locs ls hP hD hS hl)
theorem q_get (C : Cq p s m args meth c cc y ret G A nL) {a ci N k idx : Nat} {Cn : String} {T : u_T} {ty : Nat → FieldType} {f : Nat → Value} {v : Value} (ck : Ck ci Cn T N ty) (d : decode cc pc = .ok (.getfield idx, 3)) (lk : Cond.fieldLink y.cls idx (T k).1 (T k).2.1 (T k).2.2.1 ∈ lw_g) (hk : k < N) (ha : a ∈ L) (hE : E a = ob ci N f) (hv : f k = v) (kk : wq p l e R s m args below meth c G A nL Q L E kc ks (pc + 3) lv (v :: st)) : wq p l e R s m args below meth c G A nL Q L E kc ks pc lv (.ref a :: st) := by
  intro H locs ls hP hD hS hl
  obtain ⟨q0, hq⟩ := pl_at (E := E) ha
  exact va_get (D := G.1) C.1 C.2.1 C.2.2.2.2.1 ck.2.1 C.2.2.2.1 C.2.2.2.2.2.1 hP q0 (by rw [hq, hE]; rfl) ck.1 k hk (C.2.2.2.2.1 _ lk) (fun _ h => h) (by rw [ob_get hk, hv]) d (kk H locs ls hP hD hS hl)
theorem q_put (C : Cq p s m args meth c cc y ret G A nL) {a ci N k idx : Nat} {Cn : String} {T : u_T} {ty : Nat → FieldType} {f : Nat → Value} {v : Value} (ck : Ck ci Cn T N ty) (d : decode cc pc = .ok (.putfield idx, 3)) (lk : Cond.fieldLink y.cls idx (T k).1 (T k).2.1 (T k).2.2.1 ∈ lw_g) (hk : k < N) (hfin : (T k).2.2.2 = false) (ha : a ∈ L) (hE : E a = ob ci N f) (hn : narrow (ty k) v = v) (hfit : fits (ty k) v = true) (kk : wq p l e R s m args below meth c G A nL Q L (va_up E a (ob ci N (va_up f k v))) kc ks (pc + 3) lv st) : wq p l e R s m args below meth c G A nL Q L E kc ks pc lv (v :: .ref a :: st) := by
  intro H locs ls hP hD hS hl
  obtain ⟨q0, hq⟩ := pl_at (E := E) ha
  refine va_put (D := G.1) C.1 C.2.1 C.2.2.2.2.1 ck.2.1 ty ck.2.2.1 ck.2.2.2 C.2.2.2.1 C.2.2.2.2.2.1 hP hD hS q0 (by rw [hq, hE]; rfl) ck.1 k hk (C.2.2.2.2.1 _ lk) (fun _ h => h) hfin (ck.2.2.1 k hk) hn hfit (by simpa using hk) d (fun H1 locs1 hP1 hD1 hS1 => ?_)
  rw [ob_set hk, pl_set hD ha hq] at hP1 hD1
  exact kk H1 locs1 ls hP1 hD1 hS1 hl
theorem q_putF (C : Cq p s m args meth c cc y ret G A nL) {a ci N k idx : Nat} {Cn : String} {T : u_T} {ty : Nat → FieldType} {f : Nat → Value} {v : Value} (ck : Ck ci Cn T N ty) (d : decode cc pc = .ok (.putfield idx, 3)) (lk : Cond.fieldLink y.cls idx (T k).1 (T k).2.1 (T k).2.2.1 ∈ lw_g) (hk : k < N) (hfin : (T k).2.2.2 = true) (hi : y.name = "<init>") (hd : (T k).1 = y.cls) (ha : a ∈ L) (hE : E a = ob ci N f) (hn : narrow (ty k) v = v) (hfit : fits (ty k) v = true) (kk : wq p l e R s m args below meth c G A nL Q L (va_up E a (ob ci N (va_up f k v))) kc ks (pc + 3) lv st) : wq p l e R s m args below meth c G A nL Q L E kc ks pc lv (v :: .ref a :: st) := by
  intro H locs ls hP hD hS hl
  obtain ⟨q0, hq⟩ := pl_at (E := E) ha
  refine va_putF (D := G.1) C.1 C.2.1 C.2.2.2.2.1 ck.2.1 ty ck.2.2.1 ck.2.2.2 C.2.2.2.1 C.2.2.2.2.2.1 hP hD hS q0 (by rw [hq, hE]; rfl) ck.1 k hk (C.2.2.2.2.1 _ lk) (fun _ h => h) hfin (C.2.2.2.2.2.2.2.2.2.2.1.trans hi) hd (ck.2.2.1 k hk) hn hfit (by simpa using hk) d (fun H1 locs1 hP1 hD1 hS1 => ?_)
  rw [ob_set hk, pl_set hD ha hq] at hP1 hD1
  exact kk H1 locs1 ls hP1 hD1 hS1 hl
theorem q_getU (C : Cq p s m args meth c cc y ret G A nL) {ref : String} {a ci N k idx : Nat} {Cn : String} {T : u_T} {ty : Nat → FieldType} {f : Nat → Value} {v : Value} (ck : Ck ci Cn T N ty) (d : decode cc pc = .ok (.getfield idx, 3)) (lk : Cond.fieldLink y.cls idx ref (T k).2.1 (T k).2.2.1 ∈ lw_g) (hsm : Cond.sameField ref (T k).1 (T k).2.1 (T k).2.2.1 ∈ lw_g) (hk : k < N) (ha : a ∈ L) (hE : E a = ob ci N f) (hv : f k = v) (kk : wq p l e R s m args below meth c G A nL Q L E kc ks (pc + 3) lv (v :: st)) : wq p l e R s m args below meth c G A nL Q L E kc ks pc lv (.ref a :: st) := by
  intro H locs ls hP hD hS hl
  obtain ⟨q0, hq⟩ := pl_at (E := E) ha
  exact va_get (D := G.1) C.1 C.2.1 C.2.2.2.2.1 ck.2.1 C.2.2.2.1 C.2.2.2.2.2.1 hP q0 (by rw [hq, hE]; rfl) ck.1 k hk (C.2.2.2.2.1 _ lk) (fun x h => u_same (C.2.2.2.2.1 _ hsm) x h) (by rw [ob_get hk, hv]) d (kk H locs ls hP hD hS hl)
theorem q_putU (C : Cq p s m args meth c cc y ret G A nL) {ref : String} {a ci N k idx : Nat} {Cn : String} {T : u_T} {ty : Nat → FieldType} {f : Nat → Value} {v : Value} (ck : Ck ci Cn T N ty) (d : decode cc pc = .ok (.putfield idx, 3)) (lk : Cond.fieldLink y.cls idx ref (T k).2.1 (T k).2.2.1 ∈ lw_g) (hsm : Cond.sameField ref (T k).1 (T k).2.1 (T k).2.2.1 ∈ lw_g) (hk : k < N) (hfin : (T k).2.2.2 = false) (ha : a ∈ L) (hE : E a = ob ci N f) (hn : narrow (ty k) v = v) (hfit : fits (ty k) v = true) (kk : wq p l e R s m args below meth c G A nL Q L (va_up E a (ob ci N (va_up f k v))) kc ks (pc + 3) lv st) : wq p l e R s m args below meth c G A nL Q L E kc ks pc lv (v :: .ref a :: st) := by
  intro H locs ls hP hD hS hl
  obtain ⟨q0, hq⟩ := pl_at (E := E) ha
  refine va_put (D := G.1) C.1 C.2.1 C.2.2.2.2.1 ck.2.1 ty ck.2.2.1 ck.2.2.2 C.2.2.2.1 C.2.2.2.2.2.1 hP hD hS q0 (by rw [hq, hE]; rfl) ck.1 k hk (C.2.2.2.2.1 _ lk) (fun x h => u_same (C.2.2.2.2.1 _ hsm) x h) hfin (ck.2.2.1 k hk) hn hfit (by simpa using hk) d (fun H1 locs1 hP1 hD1 hS1 => ?_)
  rw [ob_set hk, pl_set hD ha hq] at hP1 hD1
  exact kk H1 locs1 ls hP1 hD1 hS1 hl
theorem q_iald (C : Cq p s m args meth c cc y ret G A nL) {a n : Nat} {f : Nat → Int32} {i v : Int32} (d : decode cc pc = .ok (.iaload, 1)) (ha : a ∈ L) (hE : E a = aI G n f) (hin : vp_in i n) (hv : f i.toNatClampNeg = v) (kk : wq p l e R s m args below meth c G A nL Q L E kc ks (pc + 1) lv (.int v :: st)) : wq p l e R s m args below meth c G A nL Q L E kc ks pc lv (.int i :: .ref a :: st) := by
  intro H locs ls hP hD hS hl
  obtain ⟨q0, hq⟩ := pl_at (E := E) ha
  exact va_iald C.1 C.2.1 C.2.2.2.2.2.1 hP q0 0 (by rw [hq, hE]; rfl) rfl hin d (hv ▸ kk H locs ls hP hD hS hl)
theorem q_zald (C : Cq p s m args meth c cc y ret G A nL) {a n : Nat} {f : Nat → Int32} {i v : Int32} (d : decode cc pc = .ok (.baload, 1)) (ha : a ∈ L) (hE : E a = aZ G n f) (hin : vp_in i n) (hv : f i.toNatClampNeg = v) (kk : wq p l e R s m args below meth c G A nL Q L E kc ks (pc + 1) lv (.int v :: st)) : wq p l e R s m args below meth c G A nL Q L E kc ks pc lv (.int i :: .ref a :: st) := by
  intro H locs ls hP hD hS hl
  obtain ⟨q0, hq⟩ := pl_at (E := E) ha
  exact va_zald C.1 C.2.1 C.2.2.2.2.2.1 hP q0 1 (by rw [hq, hE]; rfl) rfl hin d (hv ▸ kk H locs ls hP hD hS hl)
theorem q_iast (C : Cq p s m args meth c cc y ret G A nL) {a n : Nat} {f : Nat → Int32} {i x : Int32} (d : decode cc pc = .ok (.iastore, 1)) (ha : a ∈ L) (hE : E a = aI G n f) (hin : vp_in i n) (kk : wq p l e R s m args below meth c G A nL Q L (va_up E a (aI G n (upd f i.toNatClampNeg x))) kc ks (pc + 1) lv st) : wq p l e R s m args below meth c G A nL Q L E kc ks pc lv (.int x :: .int i :: .ref a :: st) := by
  intro H locs ls hP hD hS hl
  obtain ⟨q0, hq⟩ := pl_at (E := E) ha
  refine va_iast C.1 C.2.1 C.2.2.2.2.2.1 hP hD hS q0 0 (by rw [hq, hE]; rfl) rfl hin d (fun H1 locs1 hP1 hD1 hS1 => ?_)
  rw [pl_set hD ha hq] at hP1 hD1
  exact kk H1 locs1 ls hP1 hD1 hS1 hl
theorem q_alenI (C : Cq p s m args meth c cc y ret G A nL) {a n : Nat} {f : Nat → Int32} {v : Int32} (d : decode cc pc = .ok (.arraylength, 1)) (ha : a ∈ L) (hE : E a = aI G n f) (hv : Int32.ofNat n = v) (kk : wq p l e R s m args below meth c G A nL Q L E kc ks (pc + 1) lv (.int v :: st)) : wq p l e R s m args below meth c G A nL Q L E kc ks pc lv (.ref a :: st) := by
  intro H locs ls hP hD hS hl
  obtain ⟨q0, hq⟩ := pl_at (E := E) ha
  exact va_alen C.1 C.2.1 C.2.2.2.2.2.1 hP q0 0 (by rw [hq, hE]; rfl) rfl hv d (kk H locs ls hP hD hS hl)
theorem q_alenO (C : Cq p s m args meth c cc y ret G A nL) {a n : Nat} {f : Nat → Option Nat} {v : Int32} (d : decode cc pc = .ok (.arraylength, 1)) (ha : a ∈ L) (hE : E a = aO G n f) (hv : Int32.ofNat n = v) (kk : wq p l e R s m args below meth c G A nL Q L E kc ks (pc + 1) lv (.int v :: st)) : wq p l e R s m args below meth c G A nL Q L E kc ks pc lv (.ref a :: st) := by
  intro H locs ls hP hD hS hl
  obtain ⟨q0, hq⟩ := pl_at (E := E) ha
  exact va_alen C.1 C.2.1 C.2.2.2.2.2.1 hP q0 4 (by rw [hq, hE]; rfl) rfl hv d (kk H locs ls hP hD hS hl)
theorem q_aaldL (C : Cq p s m args meth c cc y ret G A nL) {a n : Nat} {f : Nat → Option Nat} {i : Int32} {v : Value} (d : decode cc pc = .ok (.aaload, 1)) (ha : a ∈ L) (hE : E a = aL G n f) (hin : vp_in i n) (hv : va_rf (f i.toNatClampNeg) = v) (kk : wq p l e R s m args below meth c G A nL Q L E kc ks (pc + 1) lv (v :: st)) : wq p l e R s m args below meth c G A nL Q L E kc ks pc lv (.int i :: .ref a :: st) := by
  intro H locs ls hP hD hS hl
  obtain ⟨q0, hq⟩ := pl_at (E := E) ha
  exact va_aldq C.1 C.2.1 C.2.2.2.2.2.1 hP q0 2 (by rw [hq, hE]; rfl) rfl hin d (hv ▸ kk H locs ls hP hD hS hl)
theorem q_aaldR (C : Cq p s m args meth c cc y ret G A nL) {a n : Nat} {f : Nat → Option Nat} {i : Int32} {v : Value} (d : decode cc pc = .ok (.aaload, 1)) (ha : a ∈ L) (hE : E a = aR G n f) (hin : vp_in i n) (hv : va_rf (f i.toNatClampNeg) = v) (kk : wq p l e R s m args below meth c G A nL Q L E kc ks (pc + 1) lv (v :: st)) : wq p l e R s m args below meth c G A nL Q L E kc ks pc lv (.int i :: .ref a :: st) := by
  intro H locs ls hP hD hS hl
  obtain ⟨q0, hq⟩ := pl_at (E := E) ha
  exact va_aldq C.1 C.2.1 C.2.2.2.2.2.1 hP q0 3 (by rw [hq, hE]; rfl) rfl hin d (hv ▸ kk H locs ls hP hD hS hl)
theorem q_aaldO (C : Cq p s m args meth c cc y ret G A nL) {a n : Nat} {f : Nat → Option Nat} {i : Int32} {v : Value} (d : decode cc pc = .ok (.aaload, 1)) (ha : a ∈ L) (hE : E a = aO G n f) (hin : vp_in i n) (hv : va_rf (f i.toNatClampNeg) = v) (kk : wq p l e R s m args below meth c G A nL Q L E kc ks (pc + 1) lv (v :: st)) : wq p l e R s m args below meth c G A nL Q L E kc ks pc lv (.int i :: .ref a :: st) := by
  intro H locs ls hP hD hS hl
  obtain ⟨q0, hq⟩ := pl_at (E := E) ha
  exact va_aldq C.1 C.2.1 C.2.2.2.2.2.1 hP q0 4 (by rw [hq, hE]; rfl) rfl hin d (hv ▸ kk H locs ls hP hD hS hl)
theorem q_aastO (C : Cq p s m args meth c cc y ret G A nL) {a b n ci N : Nat} {Cn : String} {T : u_T} {ty : Nat → FieldType} {f : Nat → Option Nat} {g : Nat → Value} {i : Int32} (ck : Ck ci Cn T N ty) (d : decode cc pc = .ok (.aastore, 1)) (hc : Cond.castable Cn "java/lang/Object" ∈ lw_tbl) (ha : a ∈ L) (hE : E a = aO G n f) (hb : b ∈ L) (hEb : E b = ob ci N g) (hin : vp_in i n) (kk : wq p l e R s m args below meth c G A nL Q L (va_up E a (aO G n (va_up f i.toNatClampNeg (some b)))) kc ks (pc + 1) lv st) : wq p l e R s m args below meth c G A nL Q L E kc ks pc lv (.ref b :: .int i :: .ref a :: st) := by
  intro H locs ls hP hD hS hl
  obtain ⟨q0, hq⟩ := pl_at (E := E) ha
  obtain ⟨q1, hq1⟩ := pl_at (E := E) hb
  refine va_astqO C.1 C.2.1 C.2.2.2.2.2.1 hP hD hS q0 4 q1 ci (r := (Cn, T, N)) (by rw [hq, hE]; rfl) rfl (C.2.2.2.2.2.2.2.2.2.2.2.2.1 _ _ hc) (by rw [hq1, hEb]; rfl) ck.1 hin d (fun H1 locs1 hP1 hD1 hS1 => ?_)
  rw [pl_set hD ha hq] at hP1 hD1
  exact kk H1 locs1 ls hP1 hD1 hS1 hl
theorem q_copyi (C : Cq p s m args meth c cc y ret G A nL) {a b n0 n1 idx : Nat} {f g : Nat → Int32} {sp dp n : Int32} (d : decode cc pc = .ok (.invokestatic idx, 3)) (lk : Cond.methodLink y.cls idx arraycopyName ∈ lw_g) (hn : Cond.native arraycopyName ∈ lw_g) (hs : Cond.static arraycopyName ∈ lw_g) (hi : Cond.initialized "java/lang/System" ∈ lw_g) (ha : a ∈ L) (hE : E a = aI G n0 f) (hb : b ∈ L) (hEb : E b = aI G n1 g) (h1 : ¬ sp < 0) (h2 : ¬ dp < 0) (h3 : ¬ n < 0) (h4 : sp.toNatClampNeg + n.toNatClampNeg ≤ n0) (h5 : dp.toNatClampNeg + n.toNatClampNeg ≤ n1) (hR : 1 ≤ R.frames ∧ 64 ≤ R.locals) (hst : (st.map fun v => v.category).sum ≤ 8) (kk : wq p l e R s m args below meth c G A nL Q L (va_up E b (aI G n1 (va_cpy f g sp.toNatClampNeg dp.toNatClampNeg n.toNatClampNeg))) kc ks (pc + 3) lv st) : wq p l e R s m args below meth c G A nL Q L E kc ks pc lv (.int n :: .int dp :: .ref b :: .int sp :: .ref a :: st) := by
  intro H locs ls hP hD hS hl
  obtain ⟨q0, hq⟩ := pl_at (E := E) ha
  obtain ⟨q1, hq1⟩ := pl_at (E := E) hb
  have hts := C.2.2.2.2.1
  refine va_copyi C.1 C.2.1 (C.2.2.1.trans hl.1.symm) C.2.2.2.1 (hts _ lk) (hts _ hn) (hts _ hs) (hts _ hi) C.2.2.2.2.2.1 hP hD hS q0 q1 0 0 (by rw [hq, hE]; rfl) (by rw [hq1, hEb]; rfl) rfl rfl rfl h1 h2 h3 h4 h5 (fun _ _ => rfl) hR.1 (Nat.le_trans (Nat.add_le_add_right hst _) (Nat.le_trans (by decide) hR.2)) d (fun H1 locs1 hP1 hD1 hS1 => ?_)
  rw [pl_set hD hb hq1] at hP1 hD1
  exact kk H1 locs1 ls hP1 hD1 hS1 hl
theorem q_new (C : Cq p s m args meth c cc y ret G A nL) {ci N idx : Nat} {Cn : String} {T : u_T} {ty : Nat → FieldType} (ck : Ck ci Cn T N ty) (d : decode cc pc = .ok (.new idx, 3)) (lk : Cond.classLink y.cls idx Cn ∈ lw_g) (hi : Cond.instantiable Cn N ∈ lw_g) (hn : Cond.initialized Cn ∈ lw_g) (hf : kc + 1 ≤ R.cells ∧ ks + N ≤ R.slots) (kk : ∀ q : Nat, q ∉ L → wq p l e R s m args below meth c G A nL Q (L ++ [q]) (va_up E q (ob ci N (fun j => defaultValue (ty j)))) (kc + 1) (ks + N) (pc + 3) lv (.ref q :: st)) : wq p l e R s m args below meth c G A nL Q L E kc ks pc lv st := by
  intro H locs ls hP hD hS hl
  refine va_new (ci := ci) (fs := (List.range N).map (fun j => defaultValue (ty j))) C.1 C.2.1 C.2.2.2.2.1 ck.2.1 ty ck.2.2.1 C.2.2.2.1 (C.2.2.2.2.1 _ lk) (C.2.2.2.2.1 _ hi) (C.2.2.2.2.1 _ hn) C.2.2.2.2.2.1 hP hD hS C.2.2.2.2.2.2.1 ck.1 (fun j hj => (ob_V (f := fun j => defaultValue (ty j)) hj).symm) hf.1 hf.2 d (fun q H1 hP1 hD1 hS1 => ?_)
  have hq : q ∉ L := by
    intro hm
    obtain ⟨k1, h1⟩ := pl_at (E := E) hm
    have hlt := (List.getElem?_eq_some_iff.mp h1).1
    have h2 : (va_pl L E ++ [(q, .inr (ci, (List.range N).map (fun j => defaultValue (ty j))))])[k1]? = some (q, E q) := by rw [List.getElem?_append_left hlt]; exact h1
    have h3 : (va_pl L E ++ [(q, .inr (ci, (List.range N).map (fun j => defaultValue (ty j))))])[(va_pl L E).length]? = some (q, .inr (ci, (List.range N).map (fun j => defaultValue (ty j)))) := by simp
    have := hD1.1 _ _ _ _ h2 h3 rfl
    omega
  rw [va_pl_push hq] at hP1 hD1
  exact kk q hq H1 locs ls hP1 hD1 hS1 hl
theorem pl_notin {A : Nat → Prop} {L : List Nat} {E : Nat → va_E} {q : Nat} {x : va_E} (hD : va_D A (va_pl L E ++ [(q, x)])) : q ∉ L := by
  intro hm
  obtain ⟨k1, h1⟩ := pl_at (E := E) hm
  have hlt := (List.getElem?_eq_some_iff.mp h1).1
  have h2 : (va_pl L E ++ [(q, x)])[k1]? = some (q, E q) := by rw [List.getElem?_append_left hlt]; exact h1
  have h3 : (va_pl L E ++ [(q, x)])[(va_pl L E).length]? = some (q, x) := by simp
  have := hD.1 _ _ _ _ h2 h3 rfl
  omega
theorem q_newaI (C : Cq p s m args meth c cc y ret G A nL) {n : Int32} {N : Nat} (d : decode cc pc = .ok (.newarray .int, 2)) (lk : Cond.arrayClass .int ∈ lw_g) (hn : ¬ n < 0) (hN : n.toNatClampNeg = N) (hb : N ≤ 100000) (hf : kc + 1 ≤ R.cells ∧ ks + N ≤ R.slots) (kk : ∀ q : Nat, q ∉ L → wq p l e R s m args below meth c G A nL Q (L ++ [q]) (va_up E q (aI G N (fun _ => 0))) (kc + 1) (ks + N) (pc + 2) lv (.ref q :: st)) : wq p l e R s m args below meth c G A nL Q L E kc ks pc lv (.int n :: st) := by
  intro H locs ls hP hD hS hl
  refine va_newa (atype := .int) (N' := N) (a0 := (N, .inl (fun _ => 0))) C.1 C.2.1 (C.2.2.2.2.1 _ lk) rfl C.2.2.2.2.2.1 hP hD hS C.2.2.2.2.2.2.1 (fun cA => rfl) hn hN (Nat.le_trans (Nat.mul_le_mul hb (show componentBytes .int ≤ 8 by decide)) (by decide)) hf.1 hf.2 d (fun q cA H1 hK1 hP1 hD1 hS1 => ?_)
  have hq := pl_notin hD1
  have hc : cA = G.2.1 := by
    refine hv2 (show va_RA s cA .int from (hK1.2 5 (cA, .int) rfl).2) (show va_RA s G.2.1 .int from (C.2.2.2.2.2.1.2 0 (G.2.1, .int) rfl).2) (fun h1 h2 => ?_)
    exact Option.some.inj (Eq.trans (Eq.symm h1) h2)
  subst hc
  rw [va_pl_push hq] at hP1 hD1
  exact kk q hq H1 locs ls hP1 hD1 hS1 hl
theorem q_newaZ (C : Cq p s m args meth c cc y ret G A nL) {n : Int32} {N : Nat} (d : decode cc pc = .ok (.newarray .boolean, 2)) (lk : Cond.arrayClass .boolean ∈ lw_g) (hn : ¬ n < 0) (hN : n.toNatClampNeg = N) (hb : N ≤ 100000) (hf : kc + 1 ≤ R.cells ∧ ks + N ≤ R.slots) (kk : ∀ q : Nat, q ∉ L → wq p l e R s m args below meth c G A nL Q (L ++ [q]) (va_up E q (aZ G N (fun _ => 0))) (kc + 1) (ks + N) (pc + 2) lv (.ref q :: st)) : wq p l e R s m args below meth c G A nL Q L E kc ks pc lv (.int n :: st) := by
  intro H locs ls hP hD hS hl
  refine va_newa (atype := .boolean) (N' := N) (a0 := (N, .inl (fun _ => 0))) C.1 C.2.1 (C.2.2.2.2.1 _ lk) rfl C.2.2.2.2.2.1 hP hD hS C.2.2.2.2.2.2.1 (fun cA => rfl) hn hN (Nat.le_trans (Nat.mul_le_mul hb (show componentBytes .boolean ≤ 8 by decide)) (by decide)) hf.1 hf.2 d (fun q cA H1 hK1 hP1 hD1 hS1 => ?_)
  have hq := pl_notin hD1
  have hc : cA = G.2.2.1 := by
    refine hv2 (show va_RA s cA .boolean from (hK1.2 5 (cA, .boolean) rfl).2) (show va_RA s G.2.2.1 .boolean from (C.2.2.2.2.2.1.2 1 (G.2.2.1, .boolean) rfl).2) (fun h1 h2 => ?_)
    exact Option.some.inj (Eq.trans (Eq.symm h1) h2)
  subst hc
  rw [va_pl_push hq] at hP1 hD1
  exact kk q hq H1 locs ls hP1 hD1 hS1 hl
theorem q_newqL (C : Cq p s m args meth c cc y ret G A nL) {n : Int32} {N idx : Nat} (d : decode cc pc = .ok (.anewarray idx, 3)) (lk : Cond.classLink y.cls idx RX2 ∈ lw_g) (lo : Cond.arrayOver (.object RX2) ∈ lw_tbl) (hn : ¬ n < 0) (hN : n.toNatClampNeg = N) (hb : N ≤ 100000) (hf : kc + 1 ≤ R.cells ∧ ks + N ≤ R.slots) (kk : ∀ q : Nat, q ∉ L → wq p l e R s m args below meth c G A nL Q (L ++ [q]) (va_up E q (aL G N (fun _ => none))) (kc + 1) (ks + N) (pc + 3) lv (.ref q :: st)) : wq p l e R s m args below meth c G A nL Q L E kc ks pc lv (.int n :: st) := by
  intro H locs ls hP hD hS hl
  refine va_newq (N' := N) C.1 C.2.1 C.2.2.2.1 (C.2.2.2.2.1 _ lk) (C.2.2.2.2.2.2.2.2.2.2.2.2.2 _ lo) C.2.2.2.2.2.1 hP hD hS C.2.2.2.2.2.2.1 hn hN (by omega) hf.1 hf.2 d (fun q cA H1 hK1 hP1 hD1 hS1 => ?_)
  have hq := pl_notin hD1
  have hc : cA = G.2.2.2.1 := by
    obtain ⟨_, _, _, _, _, h1⟩ := (hK1.2 5 (cA, .object RX2) rfl).2
    obtain ⟨_, _, _, _, _, h2⟩ := (C.2.2.2.2.2.1.2 2 (G.2.2.2.1, .object RX2) rfl).2
    exact Option.some.inj (h1.symm.trans h2)
  subst hc
  rw [va_pl_push hq] at hP1 hD1
  exact kk q hq H1 locs ls hP1 hD1 hS1 hl
theorem q_newqR (C : Cq p s m args meth c cc y ret G A nL) {n : Int32} {N idx : Nat} (d : decode cc pc = .ok (.anewarray idx, 3)) (lk : Cond.classLink y.cls idx RX5 ∈ lw_g) (lo : Cond.arrayOver (.object RX5) ∈ lw_tbl) (hn : ¬ n < 0) (hN : n.toNatClampNeg = N) (hb : N ≤ 100000) (hf : kc + 1 ≤ R.cells ∧ ks + N ≤ R.slots) (kk : ∀ q : Nat, q ∉ L → wq p l e R s m args below meth c G A nL Q (L ++ [q]) (va_up E q (aR G N (fun _ => none))) (kc + 1) (ks + N) (pc + 3) lv (.ref q :: st)) : wq p l e R s m args below meth c G A nL Q L E kc ks pc lv (.int n :: st) := by
  intro H locs ls hP hD hS hl
  refine va_newq (N' := N) C.1 C.2.1 C.2.2.2.1 (C.2.2.2.2.1 _ lk) (C.2.2.2.2.2.2.2.2.2.2.2.2.2 _ lo) C.2.2.2.2.2.1 hP hD hS C.2.2.2.2.2.2.1 hn hN (by omega) hf.1 hf.2 d (fun q cA H1 hK1 hP1 hD1 hS1 => ?_)
  have hq := pl_notin hD1
  have hc : cA = G.2.2.2.2.1 := by
    obtain ⟨_, _, _, _, _, h1⟩ := (hK1.2 5 (cA, .object RX5) rfl).2
    obtain ⟨_, _, _, _, _, h2⟩ := (C.2.2.2.2.2.1.2 3 (G.2.2.2.2.1, .object RX5) rfl).2
    exact Option.some.inj (h1.symm.trans h2)
  subst hc
  rw [va_pl_push hq] at hP1 hD1
  exact kk q hq H1 locs ls hP1 hD1 hS1 hl
theorem q_newqO (C : Cq p s m args meth c cc y ret G A nL) {n : Int32} {N idx : Nat} (d : decode cc pc = .ok (.anewarray idx, 3)) (lk : Cond.classLink y.cls idx "java/lang/Object" ∈ lw_g) (lo : Cond.arrayOver (.object "java/lang/Object") ∈ lw_tbl) (hn : ¬ n < 0) (hN : n.toNatClampNeg = N) (hb : N ≤ 100000) (hf : kc + 1 ≤ R.cells ∧ ks + N ≤ R.slots) (kk : ∀ q : Nat, q ∉ L → wq p l e R s m args below meth c G A nL Q (L ++ [q]) (va_up E q (aO G N (fun _ => none))) (kc + 1) (ks + N) (pc + 3) lv (.ref q :: st)) : wq p l e R s m args below meth c G A nL Q L E kc ks pc lv (.int n :: st) := by
  intro H locs ls hP hD hS hl
  refine va_newq (N' := N) C.1 C.2.1 C.2.2.2.1 (C.2.2.2.2.1 _ lk) (C.2.2.2.2.2.2.2.2.2.2.2.2.2 _ lo) C.2.2.2.2.2.1 hP hD hS C.2.2.2.2.2.2.1 hn hN (by omega) hf.1 hf.2 d (fun q cA H1 hK1 hP1 hD1 hS1 => ?_)
  have hq := pl_notin hD1
  have hc : cA = G.2.2.2.2.2.1 := by
    obtain ⟨_, _, _, _, _, h1⟩ := (hK1.2 5 (cA, .object "java/lang/Object") rfl).2
    obtain ⟨_, _, _, _, _, h2⟩ := (C.2.2.2.2.2.1.2 4 (G.2.2.2.2.2.1, .object "java/lang/Object") rfl).2
    exact Option.some.inj (h1.symm.trans h2)
  subst hc
  rw [va_pl_push hq] at hP1 hD1
  exact kk q hq H1 locs ls hP1 hD1 hS1 hl
theorem q_objInit (C : Cq p s m args meth c cc y ret G A nL) {idx a : Nat} (d : decode cc pc = .ok (.invokespecial idx, 3)) (lk : Cond.methodLink y.cls idx Lib.objectInit ∈ lw_g) (hi : Cond.instanceMethod Lib.objectInit ∈ lw_g) (hc : Cond.code Lib.objectInit ⟨#[0xb1]⟩ 1 none ∈ lw_g) (hR : 1 ≤ R.frames ∧ 20 ≤ R.locals) (hst : (st.map fun v => v.category).sum ≤ 8) (kk : wq p l e R s m args below meth c G A nL Q L E kc ks (pc + 3) lv st) : wq p l e R s m args below meth c G A nL Q L E kc ks pc lv (.ref a :: st) := by
  intro H locs ls hP hD hS hl
  refine W.objInit C.1 C.2.1 C.2.2.2.1 (C.2.2.2.2.1 _ lk) (C.2.2.2.2.1 _ hi) (C.2.2.2.2.1 _ hc) rfl (hl.1.trans C.2.2.1.symm) rfl d hR.1 ?_ (kk H locs ls hP hD hS hl)
  have h8 := lv_room (m := m) (pc := pc) (ls := ls) (rest := .ref a :: st) hst
  have := hR.2
  omega
def Wb (own : String) (idx : Nat) (y : MethodName) (cc : ByteArray) (n : Nat) (ret : Option FieldType) (k : Nat) : Prop := Cond.methodLink own idx y ∈ lw_g ∧ Cond.initialized y.cls ∈ lw_g ∧ Cond.code y cc n ret ∈ lw_g ∧ (y.cls ≠ "java/lang/invoke/MethodHandle" ∧ y.cls ≠ "java/lang/invoke/VarHandle" ∧ (parseMethodDescriptor y.desc).map (fun d => d.parameters.length) = some k)
def Wv (own : String) (idx : Nat) (y : MethodName) (cc : ByteArray) (n : Nat) (ret : Option FieldType) (k : Nat) : Prop := Wb own idx y cc n ret k ∧ Cond.instanceMethod y ∈ lw_g ∧ Cond.selects y.cls y y ∈ lw_g
def Ws (own : String) (idx : Nat) (y : MethodName) (cc : ByteArray) (n : Nat) (ret : Option FieldType) (k : Nat) : Prop := Wb own idx y cc n ret k ∧ Cond.static y ∈ lw_g
def Wi (own : String) (idx : Nat) (y : MethodName) (cc : ByteArray) (n : Nat) (k : Nat) : Prop := Wb own idx y cc n none k ∧ y.name = "<init>" ∧ Cond.instanceMethod y ∈ lw_g
theorem q_after (C : Cq p s m args meth c cc y ret G A nL) {mc2 ms2 : Nat} {a2 : Array Value} {st0 rest : List Value} {P2 : PT} {H : Heap} {locs : List Loc} {ls : Array Slot} (hD : va_D A (va_pl L E)) (hS : va_S A s.heap H locs) (hl : lv_has ls nL lv) (hr : va_Run p l e R s m args below meth c H locs kc ks mc2 ms2 (F0 m pc ls st0) rest (Qm G (va_A (va_pl L E) H.size) P2 a2) (va_A (va_pl L E) H.size)) (kk : ∀ (v : Option Value) (L2 : List Nat) (E2 : Nat → va_E), P2 v L2 E2 → wq p l e R s m args below meth c G A nL Q L2 E2 (kc + mc2) (ks + ms2) (pc + 3) lv (v.toList ++ rest)) : W p l e R s m args below meth c H locs kc ks Q (F0 m pc ls st0) := by
  have hF := pl_free hD hS C.2.2.2.2.2.2.1
  intro T hT X
  obtain ⟨v, st₀, t, T', Lc, h0, X', hL, e1, e2, ⟨⟨v', L', E', hv, hp, hP', hD'⟩, hz, hk⟩, stp⟩ := hr T hT X
  cases hv
  rw [h0] at hz hk
  have hS1 : va_S A s.heap T'.heap (locs ++ Lc) := ⟨Nat.le_trans hS.1 (by rw [e1]; exact hz), fun q h1 h2 => by rw [e1, hk q (Nat.lt_of_lt_of_le h1 hS.1) (fun z => h2 (hF q z))]; exact hS.2.1 q h1 h2, fun q hq => by
      rcases List.mem_append.mp hq with h | h
      · exact hS.2.2 q h
      · exact hF _ (hL q h)⟩
  obtain ⟨t2, a1, b1⟩ := kk v L' E' hp T'.heap (locs ++ Lc) ls (by rw [e1]; exact hP') (hD'.weaken (fun _ q _ h => hF q.1 h)) hS1 hl T' rfl X'
  exact ⟨t2, stp t2 a1, b1⟩
theorem q_callV (C : Cq p s m args meth c cc y ret G A nL) {y2 : MethodName} {cc2 : ByteArray} {n2 d2 mc2 ms2 idx b ci N k2 : Nat} {ret2 : Option FieldType} {P2 : PT} {As rest : List Value} {T : u_T} {ty : Nat → FieldType} {f : Nat → Value} (M : Mq l G y2 cc2 n2 ret2 d2 (.ref b :: As) L E mc2 ms2 P2) (d : decode cc pc = .ok (.invokevirtual idx, 3)) (hw : Wv y.cls idx y2 cc2 n2 ret2 k2) (hk : As.length = k2) (hb : b ∈ L) (hE : E b = ob ci N f) (ck : Ck ci y2.cls T N ty) (hst : st = As.reverse ++ .ref b :: rest) (hcat : (rest.map fun v => v.category).sum ≤ 8) (hR : d2 + 1 ≤ R.frames ∧ 8 + (n2 + 11) + 64 * d2 ≤ R.locals) (hf : kc + mc2 ≤ R.cells ∧ ks + ms2 ≤ R.slots) (kk : ∀ (v : Option Value) (L2 : List Nat) (E2 : Nat → va_E), P2 v L2 E2 → wq p l e R s m args below meth c G A nL Q L2 E2 (kc + mc2) (ks + ms2) (pc + 3) lv (v.toList ++ rest)) : wq p l e R s m args below meth c G A nL Q L E kc ks pc lv st := by
  intro H locs ls hP hD hS hl
  subst hst
  obtain ⟨q0, hq⟩ := pl_at (E := E) hb
  obtain ⟨⟨w1, w2, w3, w4⟩, w5, w6⟩ := hw
  have hts := C.2.2.2.2.1
  exact q_after C hD hS hl (va_runV (As := As) (rest := rest) (Ts := lw_g) ⟨C.1, C.2.1, C.2.2.1, C.2.2.2.1, hts⟩ (M H.size) ⟨callB_of k2 hts (lw_goodIn w3) rfl rfl rfl (hts _ w2) (hts _ w1) w4 hR, hts _ w5, hts _ w6⟩ ⟨Pcq.blind, va_recv C.2.2.2.2.2.1 hP (ci := ci) (q0 := q0) ck.1 (by rw [hq, hE]; rfl), fun U hU hW => ⟨rfl, by rw [hU], by rw [hU]; exact hP, va_K.moved hW.alike C.2.2.2.2.2.1, hD.weaken (fun _ _ _ _ => trivial), C.2.2.2.2.2.2.2.1.pass hS (pl_free hD hS C.2.2.2.2.2.2.1) hW.alike hU, C.2.2.2.2.2.2.2.2.2.2.2.warm hW⟩⟩ rfl hk hl.1 rfl (lv_room hcat) d hf) kk
theorem q_callS (C : Cq p s m args meth c cc y ret G A nL) {y2 : MethodName} {cc2 : ByteArray} {n2 d2 mc2 ms2 idx k2 : Nat} {ret2 : Option FieldType} {P2 : PT} {As rest : List Value} (M : Mq l G y2 cc2 n2 ret2 d2 As L E mc2 ms2 P2) (d : decode cc pc = .ok (.invokestatic idx, 3)) (hw : Ws y.cls idx y2 cc2 n2 ret2 k2) (hk : As.length = k2) (hst : st = As.reverse ++ rest) (hcat : (rest.map fun v => v.category).sum ≤ 8) (hR : d2 + 1 ≤ R.frames ∧ 8 + (n2 + 11) + 64 * d2 ≤ R.locals) (hf : kc + mc2 ≤ R.cells ∧ ks + ms2 ≤ R.slots) (kk : ∀ (v : Option Value) (L2 : List Nat) (E2 : Nat → va_E), P2 v L2 E2 → wq p l e R s m args below meth c G A nL Q L2 E2 (kc + mc2) (ks + ms2) (pc + 3) lv (v.toList ++ rest)) : wq p l e R s m args below meth c G A nL Q L E kc ks pc lv st := by
  intro H locs ls hP hD hS hl
  subst hst
  obtain ⟨⟨w1, w2, w3, w4⟩, w5⟩ := hw
  have hts := C.2.2.2.2.1
  exact q_after C hD hS hl (va_runS (As := As) (rest := rest) (Ts := lw_g) ⟨C.1, C.2.1, C.2.2.1, C.2.2.2.1, hts⟩ (M H.size) ⟨callB_of k2 hts (lw_goodIn w3) rfl rfl rfl (hts _ w2) (hts _ w1) w4 hR, hts _ w5⟩ ⟨Pcq.blind, fun U hU hW => ⟨rfl, by rw [hU], by rw [hU]; exact hP, va_K.moved hW.alike C.2.2.2.2.2.1, hD.weaken (fun _ _ _ _ => trivial), C.2.2.2.2.2.2.2.1.pass hS (pl_free hD hS C.2.2.2.2.2.2.1) hW.alike hU, C.2.2.2.2.2.2.2.2.2.2.2.warm hW⟩⟩ rfl hk hl.1 rfl (lv_room hcat) d hf) kk
def Wn (own : String) (idx : Nat) (y : MethodName) (host : String) (cc : ByteArray) (n : Nat) (k : Nat) : Prop := (Cond.methodLinkNest own idx y host ∈ lw_tbl ∧ Cond.initialized y.cls ∈ lw_g ∧ Cond.code y cc n none ∈ lw_g ∧ (y.cls ≠ "java/lang/invoke/MethodHandle" ∧ y.cls ≠ "java/lang/invoke/VarHandle" ∧ (parseMethodDescriptor y.desc).map (fun d => d.parameters.length) = some k)) ∧ y.name = "<init>" ∧ Cond.instanceMethod y ∈ lw_g
theorem q_sub (C : Cq p s m args meth c cc y ret G A nL) {mc2 ms2 : Nat} {a2 : Array Value} {st0 rest : List Value} {P2 : PT} {H : Heap} {locs : List Loc} {ls : Array Slot} {Lx Lm : List Nat} (hP : va_P G.1 vwCl (va_pl (Lm ++ Lx) E) H) (hD : va_D A (va_pl (Lm ++ Lx) E)) (hS : va_S A s.heap H locs) (hl : lv_has ls nL lv) (hr : va_Run p l e R s m args below meth c H locs kc ks mc2 ms2 (F0 m pc ls st0) rest (Qm G (va_A (va_pl Lx E) H.size) P2 a2) (va_A (va_pl Lx E) H.size)) (kk : ∀ (v : Option Value) (L2 : List Nat) (E2 : Nat → va_E) (E3 : Nat → va_E), P2 v L2 E2 → (∀ a ∈ Lm, E3 a = E a) → (∀ a ∈ L2, E3 a = E2 a) → (∀ a ∈ Lm, a ∉ L2) → wq p l e R s m args below meth c G A nL Q (Lm ++ L2) E3 (kc + mc2) (ks + ms2) (pc + 3) lv (v.toList ++ rest)) : W p l e R s m args below meth c H locs kc ks Q (F0 m pc ls st0) := by
  have hsp : va_pl (Lm ++ Lx) E = va_pl Lm E ++ va_pl Lx E := List.map_append
  rw [hsp] at hP hD
  have hlen : (va_pl Lm E).length = Lm.length := List.length_map _
  have pR : ∀ (j : Nat) (q : Nat × va_E), (va_pl Lx E)[j]? = some q → (va_pl Lm E ++ va_pl Lx E)[(va_pl Lm E).length + j]? = some q := fun j q h => by rw [List.getElem?_append_right (by omega), Nat.add_sub_cancel_left]; exact h
  have pL : ∀ (j : Nat) (q : Nat × va_E), (va_pl Lm E)[j]? = some q → (va_pl Lm E ++ va_pl Lx E)[j]? = some q := fun j q h => by rw [List.getElem?_append_left ((List.getElem?_eq_some_iff.mp h).1)]; exact h
  have hDx : va_D A (va_pl Lx E) := ⟨fun i j x y hi hj e => by have := hD.1 _ _ x y (pR i x hi) (pR j y hj) e; omega, fun k q hk => hD.2 _ q (pR k q hk)⟩
  have hF := pl_free hDx hS C.2.2.2.2.2.2.1
  intro T hT X
  obtain ⟨v, st₀, t, T', Lc, h0, X', hL, e1, e2, ⟨⟨v', L', E', hv, hp, hP', hD'⟩, hz, hk⟩, stp⟩ := hr T hT X
  cases hv
  rw [h0] at hz hk
  have hS1 : va_S A s.heap T'.heap (locs ++ Lc) := ⟨Nat.le_trans hS.1 (by rw [e1]; exact hz), fun q h1 h2 => by rw [e1, hk q (Nat.lt_of_lt_of_le h1 hS.1) (fun z => h2 (hF q z))]; exact hS.2.1 q h1 h2, fun q hq => by
      rcases List.mem_append.mp hq with h | h
      · exact hS.2.2 q h
      · exact hF _ (hL q h)⟩
  have apart : ∀ a ∈ Lm, a < H.size ∧ ¬ va_A (va_pl Lx E) H.size a := by
    intro a ha
    obtain ⟨j, hj⟩ := pl_at (E := E) ha
    have hlt := (hP _ _ (pL j _ hj)).lt
    refine ⟨hlt, fun z => ?_⟩
    rcases z with ⟨k, x, z⟩ | z
    · have := hD.1 _ _ _ _ (pL j _ hj) (pR k _ z) rfl
      have hjl := (List.getElem?_eq_some_iff.mp hj).1
      omega
    · omega
  have dis : ∀ a ∈ Lm, a ∉ L' := by
    intro a ha hb
    obtain ⟨j, hj⟩ := pl_at (E := E') hb
    exact (apart a ha).2 (hD'.2 j _ hj)
  refine hv2 (show ∀ a ∈ Lm, (fun a => if a ∈ Lm then E a else E' a) a = E a from fun a ha => if_pos ha) (show ∀ a ∈ L', (fun a => if a ∈ Lm then E a else E' a) a = E' a from fun a ha => if_neg (fun z => dis a z ha)) (fun e3a e3b => ?_)
  have hw : va_pl (Lm ++ L') (fun a => if a ∈ Lm then E a else E' a) = va_pl Lm E ++ va_pl L' E' := by
    show List.map _ (Lm ++ L') = _
    rw [List.map_append]
    congr 1
    · exact List.map_congr_left (fun a ha => by rw [e3a a ha])
    · exact List.map_congr_left (fun a ha => by rw [e3b a ha])
  have hPm : va_P G.1 vwCl (va_pl Lm E) T'.heap := by
    intro k q hq
    have hqm : q.1 ∈ Lm := by
      obtain ⟨a, ha, ea⟩ := List.mem_map.mp (List.mem_of_getElem? hq)
      rw [← ea]; exact ha
    exact (hP _ _ (pL k q hq)).kept (by rw [e1]; exact hk q.1 (apart _ hqm).1 (apart _ hqm).2)
  have hDm : va_D A (va_pl Lm E) := ⟨fun i j x y hi hj e => hD.1 _ _ x y (pL i x hi) (pL j y hj) e, fun k q hk => hD.2 _ q (pL k q hk)⟩
  obtain ⟨t2, a1, b1⟩ := kk v L' E' _ hp e3a e3b dis T'.heap (locs ++ Lc) ls (by rw [hw]; exact va_P.app hPm (by rw [e1]; exact hP')) (by
      rw [hw]
      refine va_D.app hDm (hD'.weaken (fun _ q _ h => hF q.1 h)) (fun i j x y hx hy hxy => ?_)
      have hxm : x.1 ∈ Lm := by
        obtain ⟨a, ha, ea⟩ := List.mem_map.mp (List.mem_of_getElem? hx)
        rw [← ea]; exact ha
      have hym : y.1 ∈ L' := by
        obtain ⟨a, ha, ea⟩ := List.mem_map.mp (List.mem_of_getElem? hy)
        rw [← ea]; exact ha
      exact dis _ hxm (hxy ▸ hym)) hS1 hl T' rfl X'
  exact ⟨t2, stp t2 a1, b1⟩
theorem pl_partP {D : va_G} {Lm Lx : List Nat} {E : Nat → va_E} {H : Heap} (h : va_P D vwCl (va_pl (Lm ++ Lx) E) H) : va_P D vwCl (va_pl Lx E) H := by
  rw [show va_pl (Lm ++ Lx) E = va_pl Lm E ++ va_pl Lx E from List.map_append] at h
  intro k q hk
  exact h ((va_pl Lm E).length + k) q (by rw [List.getElem?_append_right (by omega), Nat.add_sub_cancel_left]; exact hk)
theorem pl_partD {A : Nat → Prop} {Lm Lx : List Nat} {E : Nat → va_E} (h : va_D A (va_pl (Lm ++ Lx) E)) : va_D A (va_pl Lx E) := by
  rw [show va_pl (Lm ++ Lx) E = va_pl Lm E ++ va_pl Lx E from List.map_append] at h
  have pR : ∀ (j : Nat) (q : Nat × va_E), (va_pl Lx E)[j]? = some q → (va_pl Lm E ++ va_pl Lx E)[(va_pl Lm E).length + j]? = some q := fun j q h => by rw [List.getElem?_append_right (by omega), Nat.add_sub_cancel_left]; exact h
  exact ⟨fun i j x y hi hj e => by have := h.1 _ _ x y (pR i x hi) (pR j y hj) e; omega, fun k q hk => h.2 _ q (pR k q hk)⟩
theorem q_subV (C : Cq p s m args meth c cc y ret G A nL) {y2 : MethodName} {cc2 : ByteArray} {n2 d2 mc2 ms2 idx b ci N k2 : Nat} {ret2 : Option FieldType} {P2 : PT} {As rest : List Value} {T : u_T} {ty : Nat → FieldType} {f : Nat → Value} {Lm Lx : List Nat} (M : Mq l G y2 cc2 n2 ret2 d2 (.ref b :: As) Lx E mc2 ms2 P2) (d : decode cc pc = .ok (.invokevirtual idx, 3)) (hw : Wv y.cls idx y2 cc2 n2 ret2 k2) (hk : As.length = k2) (hb : b ∈ Lx) (hE : E b = ob ci N f) (ck : Ck ci y2.cls T N ty) (hst : st = As.reverse ++ .ref b :: rest) (hcat : (rest.map fun v => v.category).sum ≤ 8) (hR : d2 + 1 ≤ R.frames ∧ 8 + (n2 + 11) + 64 * d2 ≤ R.locals) (hf : kc + mc2 ≤ R.cells ∧ ks + ms2 ≤ R.slots) (kk : ∀ (v : Option Value) (L2 : List Nat) (E2 E3 : Nat → va_E), P2 v L2 E2 → (∀ a ∈ Lm, E3 a = E a) → (∀ a ∈ L2, E3 a = E2 a) → (∀ a ∈ Lm, a ∉ L2) → wq p l e R s m args below meth c G A nL Q (Lm ++ L2) E3 (kc + mc2) (ks + ms2) (pc + 3) lv (v.toList ++ rest)) : wq p l e R s m args below meth c G A nL Q (Lm ++ Lx) E kc ks pc lv st := by
  intro H locs ls hP hD hS hl
  subst hst
  obtain ⟨q0, hq⟩ := pl_at (E := E) hb
  obtain ⟨⟨w1, w2, w3, w4⟩, w5, w6⟩ := hw
  have hts := C.2.2.2.2.1
  exact q_sub C hP hD hS hl (va_runV (As := As) (rest := rest) (Ts := lw_g) ⟨C.1, C.2.1, C.2.2.1, C.2.2.2.1, hts⟩ (M H.size) ⟨callB_of k2 hts (lw_goodIn w3) rfl rfl rfl (hts _ w2) (hts _ w1) w4 hR, hts _ w5, hts _ w6⟩ ⟨Pcq.blind, va_recv C.2.2.2.2.2.1 (pl_partP hP) (ci := ci) (q0 := q0) ck.1 (by rw [hq, hE]; rfl), fun U hU hW => ⟨rfl, by rw [hU], by rw [hU]; exact pl_partP hP, va_K.moved hW.alike C.2.2.2.2.2.1, (pl_partD hD).weaken (fun _ _ _ _ => trivial), C.2.2.2.2.2.2.2.1.pass hS (pl_free (pl_partD hD) hS C.2.2.2.2.2.2.1) hW.alike hU, C.2.2.2.2.2.2.2.2.2.2.2.warm hW⟩⟩ rfl hk hl.1 rfl (lv_room hcat) d hf) kk
theorem q_subI (C : Cq p s m args meth c cc y ret G A nL) {y2 : MethodName} {cc2 : ByteArray} {n2 d2 mc2 ms2 idx b k2 : Nat} {P2 : PT} {As rest : List Value} {Lm Lx : List Nat} (M : Mq l G y2 cc2 n2 none d2 (.ref b :: As) Lx E mc2 ms2 P2) (d : decode cc pc = .ok (.invokespecial idx, 3)) (hw : Wi y.cls idx y2 cc2 n2 k2) (hk : As.length = k2) (hst : st = As.reverse ++ .ref b :: rest) (hcat : (rest.map fun v => v.category).sum ≤ 8) (hR : d2 + 1 ≤ R.frames ∧ 8 + (n2 + 11) + 64 * d2 ≤ R.locals) (hf : kc + mc2 ≤ R.cells ∧ ks + ms2 ≤ R.slots) (kk : ∀ (v : Option Value) (L2 : List Nat) (E2 E3 : Nat → va_E), P2 v L2 E2 → (∀ a ∈ Lm, E3 a = E a) → (∀ a ∈ L2, E3 a = E2 a) → (∀ a ∈ Lm, a ∉ L2) → wq p l e R s m args below meth c G A nL Q (Lm ++ L2) E3 (kc + mc2) (ks + ms2) (pc + 3) lv (v.toList ++ rest)) : wq p l e R s m args below meth c G A nL Q (Lm ++ Lx) E kc ks pc lv st := by
  intro H locs ls hP hD hS hl
  subst hst
  obtain ⟨⟨w1, w2, w3, w4⟩, w5, w6⟩ := hw
  have hts := C.2.2.2.2.1
  exact q_sub C hP hD hS hl (va_runI (As := As) (rest := rest) (Ts := lw_g) ⟨C.1, C.2.1, C.2.2.1, C.2.2.2.1, hts⟩ (M H.size) ⟨callB_of k2 hts (lw_goodIn w3) rfl rfl rfl (hts _ w2) (hts _ w1) w4 hR, w5, hts _ w6⟩ ⟨Pcq.blind, fun U hU hW => ⟨rfl, by rw [hU], by rw [hU]; exact pl_partP hP, va_K.moved hW.alike C.2.2.2.2.2.1, (pl_partD hD).weaken (fun _ _ _ _ => trivial), C.2.2.2.2.2.2.2.1.pass hS (pl_free (pl_partD hD) hS C.2.2.2.2.2.2.1) hW.alike hU, C.2.2.2.2.2.2.2.2.2.2.2.warm hW⟩⟩ rfl hk hl.1 rfl (lv_room hcat) d hf) kk
def Wns (own : String) (idx : Nat) (y : MethodName) (host : String) (cc : ByteArray) (n : Nat) (ret : Option FieldType) (k : Nat) : Prop := (Cond.methodLinkNest own idx y host ∈ lw_tbl ∧ Cond.initialized y.cls ∈ lw_g ∧ Cond.code y cc n ret ∈ lw_g ∧ (y.cls ≠ "java/lang/invoke/MethodHandle" ∧ y.cls ≠ "java/lang/invoke/VarHandle" ∧ (parseMethodDescriptor y.desc).map (fun d => d.parameters.length) = some k)) ∧ Cond.static y ∈ lw_g
theorem q_callSN (C : Cq p s m args meth c cc y ret G A nL) {y2 : MethodName} {host : String} {cc2 : ByteArray} {n2 d2 mc2 ms2 idx k2 : Nat} {ret2 : Option FieldType} {P2 : PT} {As rest : List Value} (M : Mq l G y2 cc2 n2 ret2 d2 As L E mc2 ms2 P2) (d : decode cc pc = .ok (.invokestatic idx, 3)) (hw : Wns y.cls idx y2 host cc2 n2 ret2 k2) (hk : As.length = k2) (hst : st = As.reverse ++ rest) (hcat : (rest.map fun v => v.category).sum ≤ 8) (hR : d2 + 1 ≤ R.frames ∧ 8 + (n2 + 11) + 64 * d2 ≤ R.locals) (hf : kc + mc2 ≤ R.cells ∧ ks + ms2 ≤ R.slots) (kk : ∀ (v : Option Value) (L2 : List Nat) (E2 : Nat → va_E), P2 v L2 E2 → wq p l e R s m args below meth c G A nL Q L2 E2 (kc + mc2) (ks + ms2) (pc + 3) lv (v.toList ++ rest)) : wq p l e R s m args below meth c G A nL Q L E kc ks pc lv st := by
  intro H locs ls hP hD hS hl
  subst hst
  obtain ⟨⟨w1, w2, w3, w4⟩, w5⟩ := hw
  have hts := C.2.2.2.2.1
  exact q_after C hD hS hl (va_runSN (As := As) (rest := rest) (Ts := lw_g) ⟨C.1, C.2.1, C.2.2.1, C.2.2.2.1, hts⟩ (M H.size) ⟨va_cnB k2 hts (lw_goodIn w3) rfl rfl rfl (C.2.2.2.2.2.2.2.2.2.2.2.1 _ _ _ _ w1) (hts _ w2) w4 hR, hts _ w5, trivial⟩ ⟨Pcq.blind, fun U hU hW => ⟨rfl, by rw [hU], by rw [hU]; exact hP, va_K.moved hW.alike C.2.2.2.2.2.1, hD.weaken (fun _ _ _ _ => trivial), C.2.2.2.2.2.2.2.1.pass hS (pl_free hD hS C.2.2.2.2.2.2.1) hW.alike hU, C.2.2.2.2.2.2.2.2.2.2.2.warm hW⟩⟩ rfl hk hl.1 rfl (lv_room hcat) d hf) kk
theorem q_mmax (C : Cq p s m args meth c cc y ret G A nL) {idx : Nat} {x y2 v : Int32} (d : decode cc pc = .ok (.invokestatic idx, 3)) (lk : Cond.methodLink y.cls idx Lib.Math.max.name ∈ lw_g) (h1 : Cond.static Lib.Math.max.name ∈ lw_g) (h2 : Cond.initialized "java/lang/Math" ∈ lw_g) (h3 : Cond.code Lib.Math.max.name Lib.Math.max.code 2 (some .int) ∈ lw_g) (hR : 1 ≤ R.frames ∧ 21 ≤ R.locals) (hf : kc ≤ R.cells ∧ ks ≤ R.slots) (hst : (st.map fun v => v.category).sum ≤ 8) (hv : (if x < y2 then y2 else x) = v) (kk : wq p l e R s m args below meth c G A nL Q L E kc ks (pc + 3) lv (.int v :: st)) : wq p l e R s m args below meth c G A nL Q L E kc ks pc lv (.int y2 :: .int x :: st) := by
  intro H locs ls hP hD hS hl
  subst hv
  have hts := C.2.2.2.2.1
  exact va_mmax C.1 C.2.1 (C.2.2.1.trans hl.1.symm) C.2.2.2.1 (hts _ lk) (hts _ h1) (hts _ h2) (hts _ h3) hR.1 (by have := hR.2; omega) hf.1 hf.2 d (kk H locs ls hP hD hS hl)
theorem q_mmin (C : Cq p s m args meth c cc y ret G A nL) {idx : Nat} {x y2 v : Int32} (d : decode cc pc = .ok (.invokestatic idx, 3)) (lk : Cond.methodLink y.cls idx Lib.Math.min.name ∈ lw_g) (h1 : Cond.static Lib.Math.min.name ∈ lw_g) (h2 : Cond.initialized "java/lang/Math" ∈ lw_g) (h3 : Cond.code Lib.Math.min.name Lib.Math.min.code 2 (some .int) ∈ lw_g) (hR : 1 ≤ R.frames ∧ 21 ≤ R.locals) (hf : kc ≤ R.cells ∧ ks ≤ R.slots) (hst : (st.map fun v => v.category).sum ≤ 8) (hv : (if y2 < x then y2 else x) = v) (kk : wq p l e R s m args below meth c G A nL Q L E kc ks (pc + 3) lv (.int v :: st)) : wq p l e R s m args below meth c G A nL Q L E kc ks pc lv (.int y2 :: .int x :: st) := by
  intro H locs ls hP hD hS hl
  subst hv
  have hts := C.2.2.2.2.1
  exact va_mmin C.1 C.2.1 (C.2.2.1.trans hl.1.symm) C.2.2.2.1 (hts _ lk) (hts _ h1) (hts _ h2) (hts _ h3) hR.1 (by have := hR.2; omega) hf.1 hf.2 d (kk H locs ls hP hD hS hl)
theorem q_gets (C : Cq p s m args meth c cc y ret G A nL) {idx : Nat} (d : decode cc pc = .ok (.getstatic idx, 3)) (lk : Cond.fieldLink y.cls idx "java/util/ArrayList" "DEFAULTCAPACITY_EMPTY_ELEMENTDATA" "[Ljava/lang/Object;" ∈ lw_g) (kk : wq p l e R s m args below meth c G A nL Q L E kc ks (pc + 3) lv (.ref (g0 G) :: st)) : wq p l e R s m args below meth c G A nL Q L E kc ks pc lv st := fun H locs ls hP hD hS hl => va_gets C.1 C.2.1 C.2.2.2.2.2.2.2.1.1 hS C.2.2.2.1 (C.2.2.2.2.1 _ lk) (fun _ h => h) d (kk H locs ls hP hD hS hl)
theorem q_tlen (C : Cq p s m args meth c cc y ret G A nL) (d : decode cc pc = .ok (.arraylength, 1)) (kk : wq p l e R s m args below meth c G A nL Q L E kc ks (pc + 1) lv (.int 0 :: st)) : wq p l e R s m args below meth c G A nL Q L E kc ks pc lv (.ref (g0 G) :: st) := fun H locs ls hP hD hS hl => va_tlen C.1 C.2.1 C.2.2.2.2.2.2.2.1.2 hS rfl d (kk H locs ls hP hD hS hl)
theorem q_iret (C : Cq p s m args meth c cc y ret G A nL) {v : Int32} (d : decode cc pc = .ok (.ireturn, 1)) (hr : ret = some .int) (h1 : kc ≤ mc) (h2 : ks ≤ ms) (hp : Post (some (.int v)) L E) : wq p l e R s m args below meth c G A nL (MQ below (Qm G A Post) args s mc ms A) L E kc ks pc lv [.int v] := by
  intro H locs ls hP hD hS hl
  refine W.widen h1 h2 ?_
  exact W.iret C.1 C.2.1 (C.2.2.2.2.2.2.2.2.1.trans hr) (fun t ht hW => ⟨⟨_, L, E, rfl, hp, by rw [ht]; exact hP, hD⟩, hS.F ht⟩) hS.2.2 d C.2.2.2.2.2.2.2.2.2.1
theorem q_zret (C : Cq p s m args meth c cc y ret G A nL) {v : Int32} (d : decode cc pc = .ok (.ireturn, 1)) (hr : ret = some .boolean) (hn : narrow .boolean (.int v) = .int v) (h1 : kc ≤ mc) (h2 : ks ≤ ms) (hp : Post (some (.int v)) L E) : wq p l e R s m args below meth c G A nL (MQ below (Qm G A Post) args s mc ms A) L E kc ks pc lv [.int v] := by
  intro H locs ls hP hD hS hl
  refine W.widen h1 h2 ?_
  exact W.zret C.1 C.2.1 (C.2.2.2.2.2.2.2.2.1.trans hr) hn (fun t ht hW => ⟨⟨_, L, E, rfl, hp, by rw [ht]; exact hP, hD⟩, hS.F ht⟩) hS.2.2 d C.2.2.2.2.2.2.2.2.2.1
theorem q_vret (C : Cq p s m args meth c cc y ret G A nL) (d : decode cc pc = .ok (.return_, 1)) (hr : ret = none) (h1 : kc ≤ mc) (h2 : ks ≤ ms) (hp : Post none L E) : wq p l e R s m args below meth c G A nL (MQ below (Qm G A Post) args s mc ms A) L E kc ks pc lv [] := by
  intro H locs ls hP hD hS hl
  refine W.widen h1 h2 ?_
  exact W.vret C.1 C.2.1 (C.2.2.2.2.2.2.2.2.1.trans hr) (fun t ht hW => ⟨⟨_, L, E, rfl, hp, by rw [ht]; exact hP, hD⟩, hS.F ht⟩) hS.2.2 d C.2.2.2.2.2.2.2.2.2.1
theorem q_st {st2 : List Value} (h : st = st2) (k : wq p l e R s m args below meth c G A nL Q L E kc ks pc lv st2) : wq p l e R s m args below meth c G A nL Q L E kc ks pc lv st := by subst h; exact k
theorem q_cut (k : ∀ (L1 : List Nat) (E1 : Nat → va_E), L1 = L → E1 = E → wq p l e R s m args below meth c G A nL Q L1 E1 kc ks pc lv st) : wq p l e R s m args below meth c G A nL Q L E kc ks pc lv st := k L E rfl rfl
end PQ
end
