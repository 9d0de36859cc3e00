theorem dkg_X9_0 : dkp cX9_init [(0, .aload_n 0, 1), (1, .invokespecial 3, 3), (4, .aload_n 0, 1), (5, .new 9, 3), (8, .dup, 1), (9, .invokespecial 11, 3), (12, .putfield 12, 3), (15, .aload_n 0, 1), (16, .new 18, 3), (19, .dup, 1)] := dkf (by decide +kernel)
theorem dX9_init_0 : decode cX9_init 0 = .ok (.aload_n 0, 1) := dkg_X9_0.1
theorem dX9_init_1 : decode cX9_init 1 = .ok (.invokespecial 3, 3) := dkg_X9_0.2.1
theorem dX9_init_4 : decode cX9_init 4 = .ok (.aload_n 0, 1) := dkg_X9_0.2.2.1
theorem dX9_init_5 : decode cX9_init 5 = .ok (.new 9, 3) := dkg_X9_0.2.2.2.1
theorem dX9_init_8 : decode cX9_init 8 = .ok (.dup, 1) := dkg_X9_0.2.2.2.2.1
theorem dX9_init_9 : decode cX9_init 9 = .ok (.invokespecial 11, 3) := dkg_X9_0.2.2.2.2.2.1
theorem dX9_init_12 : decode cX9_init 12 = .ok (.putfield 12, 3) := dkg_X9_0.2.2.2.2.2.2.1
theorem dX9_init_15 : decode cX9_init 15 = .ok (.aload_n 0, 1) := dkg_X9_0.2.2.2.2.2.2.2.1
theorem dX9_init_16 : decode cX9_init 16 = .ok (.new 18, 3) := dkg_X9_0.2.2.2.2.2.2.2.2.1
theorem dX9_init_19 : decode cX9_init 19 = .ok (.dup, 1) := dkg_X9_0.2.2.2.2.2.2.2.2.2.1
theorem dkg_X9_1 : dkp cX9_init [(20, .sipush 200, 3), (23, .invokespecial 20, 3), (26, .putfield 23, 3), (29, .aload_n 0, 1), (30, .iconst 4, 1), (31, .anewarray 27, 3), (34, .putfield 29, 3), (37, .aload_n 0, 1), (38, .iconst 0, 1), (39, .putfield 33, 3)] := dkf (by decide +kernel)
theorem dX9_init_20 : decode cX9_init 20 = .ok (.sipush 200, 3) := dkg_X9_1.1
theorem dX9_init_23 : decode cX9_init 23 = .ok (.invokespecial 20, 3) := dkg_X9_1.2.1
theorem dX9_init_26 : decode cX9_init 26 = .ok (.putfield 23, 3) := dkg_X9_1.2.2.1
theorem dX9_init_29 : decode cX9_init 29 = .ok (.aload_n 0, 1) := dkg_X9_1.2.2.2.1
theorem dX9_init_30 : decode cX9_init 30 = .ok (.iconst 4, 1) := dkg_X9_1.2.2.2.2.1
theorem dX9_init_31 : decode cX9_init 31 = .ok (.anewarray 27, 3) := dkg_X9_1.2.2.2.2.2.1
theorem dX9_init_34 : decode cX9_init 34 = .ok (.putfield 29, 3) := dkg_X9_1.2.2.2.2.2.2.1
theorem dX9_init_37 : decode cX9_init 37 = .ok (.aload_n 0, 1) := dkg_X9_1.2.2.2.2.2.2.2.1
theorem dX9_init_38 : decode cX9_init 38 = .ok (.iconst 0, 1) := dkg_X9_1.2.2.2.2.2.2.2.2.1
theorem dX9_init_39 : decode cX9_init 39 = .ok (.putfield 33, 3) := dkg_X9_1.2.2.2.2.2.2.2.2.2.1
theorem dkg_X9_2 : dkp cX9_init [(42, .aload_n 0, 1), (43, .iload_n 1, 1), (44, .putfield 37, 3), (47, .aload_n 0, 1), (48, .iload_n 2, 1), (49, .putfield 41, 3), (52, .aload_n 0, 1), (53, .aload_n 3, 1), (54, .putfield 44, 3), (57, .aload_n 0, 1)] := dkf (by decide +kernel)
theorem dX9_init_42 : decode cX9_init 42 = .ok (.aload_n 0, 1) := dkg_X9_2.1
theorem dX9_init_43 : decode cX9_init 43 = .ok (.iload_n 1, 1) := dkg_X9_2.2.1
theorem dX9_init_44 : decode cX9_init 44 = .ok (.putfield 37, 3) := dkg_X9_2.2.2.1
theorem dX9_init_47 : decode cX9_init 47 = .ok (.aload_n 0, 1) := dkg_X9_2.2.2.2.1
theorem dX9_init_48 : decode cX9_init 48 = .ok (.iload_n 2, 1) := dkg_X9_2.2.2.2.2.1
theorem dX9_init_49 : decode cX9_init 49 = .ok (.putfield 41, 3) := dkg_X9_2.2.2.2.2.2.1
theorem dX9_init_52 : decode cX9_init 52 = .ok (.aload_n 0, 1) := dkg_X9_2.2.2.2.2.2.2.1
theorem dX9_init_53 : decode cX9_init 53 = .ok (.aload_n 3, 1) := dkg_X9_2.2.2.2.2.2.2.2.1
theorem dX9_init_54 : decode cX9_init 54 = .ok (.putfield 44, 3) := dkg_X9_2.2.2.2.2.2.2.2.2.1
theorem dX9_init_57 : decode cX9_init 57 = .ok (.aload_n 0, 1) := dkg_X9_2.2.2.2.2.2.2.2.2.2.1
theorem dkg_X9_3 : dkp cX9_init [(58, .aload 4, 2), (60, .putfield 48, 3), (63, .return_, 1)] := dkf (by decide +kernel)
theorem dX9_init_58 : decode cX9_init 58 = .ok (.aload 4, 2) := dkg_X9_3.1
theorem dX9_init_60 : decode cX9_init 60 = .ok (.putfield 48, 3) := dkg_X9_3.2.1
theorem dX9_init_63 : decode cX9_init 63 = .ok (.return_, 1) := dkg_X9_3.2.2.1
theorem dkg_X9_4 : dkp cX9_append [(0, .aload_n 0, 1), (1, .getfield 12, 3), (4, .aload_n 1, 1), (5, .invokevirtual 51, 3), (8, .pop, 1), (9, .aload_n 0, 1), (10, .getfield 23, 3), (13, .aload_n 1, 1), (14, .getfield 55, 3), (17, .arraylength, 1)] := dkf (by decide +kernel)
theorem dX9_append_0 : decode cX9_append 0 = .ok (.aload_n 0, 1) := dkg_X9_4.1
theorem dX9_append_1 : decode cX9_append 1 = .ok (.getfield 12, 3) := dkg_X9_4.2.1
theorem dX9_append_4 : decode cX9_append 4 = .ok (.aload_n 1, 1) := dkg_X9_4.2.2.1
theorem dX9_append_5 : decode cX9_append 5 = .ok (.invokevirtual 51, 3) := dkg_X9_4.2.2.2.1
theorem dX9_append_8 : decode cX9_append 8 = .ok (.pop, 1) := dkg_X9_4.2.2.2.2.1
theorem dX9_append_9 : decode cX9_append 9 = .ok (.aload_n 0, 1) := dkg_X9_4.2.2.2.2.2.1
theorem dX9_append_10 : decode cX9_append 10 = .ok (.getfield 23, 3) := dkg_X9_4.2.2.2.2.2.2.1
theorem dX9_append_13 : decode cX9_append 13 = .ok (.aload_n 1, 1) := dkg_X9_4.2.2.2.2.2.2.2.1
theorem dX9_append_14 : decode cX9_append 14 = .ok (.getfield 55, 3) := dkg_X9_4.2.2.2.2.2.2.2.2.1
theorem dX9_append_17 : decode cX9_append 17 = .ok (.arraylength, 1) := dkg_X9_4.2.2.2.2.2.2.2.2.2.1
theorem dkg_X9_5 : dkp cX9_append [(18, .ifCond .le 12, 3), (21, .aload_n 1, 1), (22, .getfield 55, 3), (25, .iconst 0, 1), (26, .iaload, 1), (27, .goto 4, 3), (30, .iconst 0, 1), (31, .invokevirtual 59, 3), (34, .return_, 1)] := dkf (by decide +kernel)
theorem dX9_append_18 : decode cX9_append 18 = .ok (.ifCond .le 12, 3) := dkg_X9_5.1
theorem dX9_append_21 : decode cX9_append 21 = .ok (.aload_n 1, 1) := dkg_X9_5.2.1
theorem dX9_append_22 : decode cX9_append 22 = .ok (.getfield 55, 3) := dkg_X9_5.2.2.1
theorem dX9_append_25 : decode cX9_append 25 = .ok (.iconst 0, 1) := dkg_X9_5.2.2.2.1
theorem dX9_append_26 : decode cX9_append 26 = .ok (.iaload, 1) := dkg_X9_5.2.2.2.2.1
theorem dX9_append_27 : decode cX9_append 27 = .ok (.goto 4, 3) := dkg_X9_5.2.2.2.2.2.1
theorem dX9_append_30 : decode cX9_append 30 = .ok (.iconst 0, 1) := dkg_X9_5.2.2.2.2.2.2.1
theorem dX9_append_31 : decode cX9_append 31 = .ok (.invokevirtual 59, 3) := dkg_X9_5.2.2.2.2.2.2.2.1
theorem dX9_append_34 : decode cX9_append 34 = .ok (.return_, 1) := dkg_X9_5.2.2.2.2.2.2.2.2.1
theorem dkg_X9_6 : dkp cX9_removeLast [(0, .aload_n 0, 1), (1, .getfield 12, 3), (4, .invokevirtual 61, 3), (7, .ifCond .ne 34, 3), (10, .aload_n 0, 1), (11, .getfield 12, 3), (14, .aload_n 0, 1), (15, .getfield 12, 3), (18, .invokevirtual 65, 3), (21, .iconst 1, 1)] := dkf (by decide +kernel)
theorem dX9_removeLast_0 : decode cX9_removeLast 0 = .ok (.aload_n 0, 1) := dkg_X9_6.1
theorem dX9_removeLast_1 : decode cX9_removeLast 1 = .ok (.getfield 12, 3) := dkg_X9_6.2.1
theorem dX9_removeLast_4 : decode cX9_removeLast 4 = .ok (.invokevirtual 61, 3) := dkg_X9_6.2.2.1
theorem dX9_removeLast_7 : decode cX9_removeLast 7 = .ok (.ifCond .ne 34, 3) := dkg_X9_6.2.2.2.1
theorem dX9_removeLast_10 : decode cX9_removeLast 10 = .ok (.aload_n 0, 1) := dkg_X9_6.2.2.2.2.1
theorem dX9_removeLast_11 : decode cX9_removeLast 11 = .ok (.getfield 12, 3) := dkg_X9_6.2.2.2.2.2.1
theorem dX9_removeLast_14 : decode cX9_removeLast 14 = .ok (.aload_n 0, 1) := dkg_X9_6.2.2.2.2.2.2.1
theorem dX9_removeLast_15 : decode cX9_removeLast 15 = .ok (.getfield 12, 3) := dkg_X9_6.2.2.2.2.2.2.2.1
theorem dX9_removeLast_18 : decode cX9_removeLast 18 = .ok (.invokevirtual 65, 3) := dkg_X9_6.2.2.2.2.2.2.2.2.1
theorem dX9_removeLast_21 : decode cX9_removeLast 21 = .ok (.iconst 1, 1) := dkg_X9_6.2.2.2.2.2.2.2.2.2.1
theorem dkg_X9_7 : dkp cX9_removeLast [(22, .isub, 1), (23, .invokevirtual 69, 3), (26, .pop, 1), (27, .aload_n 0, 1), (28, .getfield 23, 3), (31, .aload_n 0, 1), (32, .getfield 12, 3), (35, .invokevirtual 65, 3), (38, .invokevirtual 73, 3), (41, .return_, 1)] := dkf (by decide +kernel)
theorem dX9_removeLast_22 : decode cX9_removeLast 22 = .ok (.isub, 1) := dkg_X9_7.1
theorem dX9_removeLast_23 : decode cX9_removeLast 23 = .ok (.invokevirtual 69, 3) := dkg_X9_7.2.1
theorem dX9_removeLast_26 : decode cX9_removeLast 26 = .ok (.pop, 1) := dkg_X9_7.2.2.1
theorem dX9_removeLast_27 : decode cX9_removeLast 27 = .ok (.aload_n 0, 1) := dkg_X9_7.2.2.2.1
theorem dX9_removeLast_28 : decode cX9_removeLast 28 = .ok (.getfield 23, 3) := dkg_X9_7.2.2.2.2.1
theorem dX9_removeLast_31 : decode cX9_removeLast 31 = .ok (.aload_n 0, 1) := dkg_X9_7.2.2.2.2.2.1
theorem dX9_removeLast_32 : decode cX9_removeLast 32 = .ok (.getfield 12, 3) := dkg_X9_7.2.2.2.2.2.2.1
theorem dX9_removeLast_35 : decode cX9_removeLast 35 = .ok (.invokevirtual 65, 3) := dkg_X9_7.2.2.2.2.2.2.2.1
theorem dX9_removeLast_38 : decode cX9_removeLast 38 = .ok (.invokevirtual 73, 3) := dkg_X9_7.2.2.2.2.2.2.2.2.1
theorem dX9_removeLast_41 : decode cX9_removeLast 41 = .ok (.return_, 1) := dkg_X9_7.2.2.2.2.2.2.2.2.2.1
theorem dkg_X9_8 : dkp cX9_mayHave [(0, .iload_n 1, 1), (1, .ifCond .ne 17, 3), (4, .aload_n 0, 1), (5, .getfield 37, 3), (8, .iconst 2, 1), (9, .if_icmp .gt 7, 3), (12, .iconst 1, 1), (13, .goto 4, 3), (16, .iconst 0, 1), (17, .ireturn, 1)] := dkf (by decide +kernel)
theorem dX9_mayHave_0 : decode cX9_mayHave 0 = .ok (.iload_n 1, 1) := dkg_X9_8.1
theorem dX9_mayHave_1 : decode cX9_mayHave 1 = .ok (.ifCond .ne 17, 3) := dkg_X9_8.2.1
theorem dX9_mayHave_4 : decode cX9_mayHave 4 = .ok (.aload_n 0, 1) := dkg_X9_8.2.2.1
theorem dX9_mayHave_5 : decode cX9_mayHave 5 = .ok (.getfield 37, 3) := dkg_X9_8.2.2.2.1
theorem dX9_mayHave_8 : decode cX9_mayHave 8 = .ok (.iconst 2, 1) := dkg_X9_8.2.2.2.2.1
theorem dX9_mayHave_9 : decode cX9_mayHave 9 = .ok (.if_icmp .gt 7, 3) := dkg_X9_8.2.2.2.2.2.1
theorem dX9_mayHave_12 : decode cX9_mayHave 12 = .ok (.iconst 1, 1) := dkg_X9_8.2.2.2.2.2.2.1
theorem dX9_mayHave_13 : decode cX9_mayHave 13 = .ok (.goto 4, 3) := dkg_X9_8.2.2.2.2.2.2.2.1
theorem dX9_mayHave_16 : decode cX9_mayHave 16 = .ok (.iconst 0, 1) := dkg_X9_8.2.2.2.2.2.2.2.2.1
theorem dX9_mayHave_17 : decode cX9_mayHave 17 = .ok (.ireturn, 1) := dkg_X9_8.2.2.2.2.2.2.2.2.2.1
theorem dkg_X9_9 : dkp cX9_mayHave [(18, .iload_n 1, 1), (19, .iconst 1, 1), (20, .if_icmp .ne 19, 3), (23, .aload_n 0, 1), (24, .getfield 37, 3), (27, .iconst 2, 1), (28, .if_icmp .ne 7, 3), (31, .iconst 1, 1), (32, .goto 20, 3), (35, .iconst 0, 1)] := dkf (by decide +kernel)
theorem dX9_mayHave_18 : decode cX9_mayHave 18 = .ok (.iload_n 1, 1) := dkg_X9_9.1
theorem dX9_mayHave_19 : decode cX9_mayHave 19 = .ok (.iconst 1, 1) := dkg_X9_9.2.1
theorem dX9_mayHave_20 : decode cX9_mayHave 20 = .ok (.if_icmp .ne 19, 3) := dkg_X9_9.2.2.1
theorem dX9_mayHave_23 : decode cX9_mayHave 23 = .ok (.aload_n 0, 1) := dkg_X9_9.2.2.2.1
theorem dX9_mayHave_24 : decode cX9_mayHave 24 = .ok (.getfield 37, 3) := dkg_X9_9.2.2.2.2.1
theorem dX9_mayHave_27 : decode cX9_mayHave 27 = .ok (.iconst 2, 1) := dkg_X9_9.2.2.2.2.2.1
theorem dX9_mayHave_28 : decode cX9_mayHave 28 = .ok (.if_icmp .ne 7, 3) := dkg_X9_9.2.2.2.2.2.2.1
theorem dX9_mayHave_31 : decode cX9_mayHave 31 = .ok (.iconst 1, 1) := dkg_X9_9.2.2.2.2.2.2.2.1
theorem dX9_mayHave_32 : decode cX9_mayHave 32 = .ok (.goto 20, 3) := dkg_X9_9.2.2.2.2.2.2.2.2.1
theorem dX9_mayHave_35 : decode cX9_mayHave 35 = .ok (.iconst 0, 1) := dkg_X9_9.2.2.2.2.2.2.2.2.2.1
theorem dkg_X9_10 : dkp cX9_mayHave [(36, .goto 16, 3), (39, .aload_n 0, 1), (40, .getfield 37, 3), (43, .iconst 5, 1), (44, .if_icmp .ne 7, 3), (47, .iconst 1, 1), (48, .goto 4, 3), (51, .iconst 0, 1), (52, .ireturn, 1)] := dkf (by decide +kernel)
theorem dX9_mayHave_36 : decode cX9_mayHave 36 = .ok (.goto 16, 3) := dkg_X9_10.1
theorem dX9_mayHave_39 : decode cX9_mayHave 39 = .ok (.aload_n 0, 1) := dkg_X9_10.2.1
theorem dX9_mayHave_40 : decode cX9_mayHave 40 = .ok (.getfield 37, 3) := dkg_X9_10.2.2.1
theorem dX9_mayHave_43 : decode cX9_mayHave 43 = .ok (.iconst 5, 1) := dkg_X9_10.2.2.2.1
theorem dX9_mayHave_44 : decode cX9_mayHave 44 = .ok (.if_icmp .ne 7, 3) := dkg_X9_10.2.2.2.2.1
theorem dX9_mayHave_47 : decode cX9_mayHave 47 = .ok (.iconst 1, 1) := dkg_X9_10.2.2.2.2.2.1
theorem dX9_mayHave_48 : decode cX9_mayHave 48 = .ok (.goto 4, 3) := dkg_X9_10.2.2.2.2.2.2.1
theorem dX9_mayHave_51 : decode cX9_mayHave 51 = .ok (.iconst 0, 1) := dkg_X9_10.2.2.2.2.2.2.2.1
theorem dX9_mayHave_52 : decode cX9_mayHave 52 = .ok (.ireturn, 1) := dkg_X9_10.2.2.2.2.2.2.2.2.1
theorem dkg_X9_11 : dkp cX9_isWhole [(0, .aload_n 0, 1), (1, .invokestatic 76, 3), (4, .ifCond .eq 17, 3), (7, .aload_n 0, 1), (8, .getfield 48, 3), (11, .invokestatic 76, 3), (14, .ifCond .eq 7, 3), (17, .iconst 1, 1), (18, .goto 4, 3), (21, .iconst 0, 1)] := dkf (by decide +kernel)
theorem dX9_isWhole_0 : decode cX9_isWhole 0 = .ok (.aload_n 0, 1) := dkg_X9_11.1
theorem dX9_isWhole_1 : decode cX9_isWhole 1 = .ok (.invokestatic 76, 3) := dkg_X9_11.2.1
theorem dX9_isWhole_4 : decode cX9_isWhole 4 = .ok (.ifCond .eq 17, 3) := dkg_X9_11.2.2.1
theorem dX9_isWhole_7 : decode cX9_isWhole 7 = .ok (.aload_n 0, 1) := dkg_X9_11.2.2.2.1
theorem dX9_isWhole_8 : decode cX9_isWhole 8 = .ok (.getfield 48, 3) := dkg_X9_11.2.2.2.2.1
theorem dX9_isWhole_11 : decode cX9_isWhole 11 = .ok (.invokestatic 76, 3) := dkg_X9_11.2.2.2.2.2.1
theorem dX9_isWhole_14 : decode cX9_isWhole 14 = .ok (.ifCond .eq 7, 3) := dkg_X9_11.2.2.2.2.2.2.1
theorem dX9_isWhole_17 : decode cX9_isWhole 17 = .ok (.iconst 1, 1) := dkg_X9_11.2.2.2.2.2.2.2.1
theorem dX9_isWhole_18 : decode cX9_isWhole 18 = .ok (.goto 4, 3) := dkg_X9_11.2.2.2.2.2.2.2.2.1
theorem dX9_isWhole_21 : decode cX9_isWhole 21 = .ok (.iconst 0, 1) := dkg_X9_11.2.2.2.2.2.2.2.2.2.1
theorem dkg_X9_12 : dkp cX9_isWhole [(22, .ireturn, 1)] := dkf (by decide +kernel)
theorem dX9_isWhole_22 : decode cX9_isWhole 22 = .ok (.ireturn, 1) := dkg_X9_12.1
theorem dkg_X9_13 : dkp cX9_isUpright [(0, .aload_n 0, 1), (1, .astore_n 1, 1), (2, .aload_n 1, 1), (3, .ifnull 20, 3), (6, .aload_n 1, 1), (7, .getfield 33, 3), (10, .ifCond .eq 5, 3), (13, .iconst 0, 1), (14, .ireturn, 1), (15, .aload_n 1, 1)] := dkf (by decide +kernel)
theorem dX9_isUpright_0 : decode cX9_isUpright 0 = .ok (.aload_n 0, 1) := dkg_X9_13.1
theorem dX9_isUpright_1 : decode cX9_isUpright 1 = .ok (.astore_n 1, 1) := dkg_X9_13.2.1
theorem dX9_isUpright_2 : decode cX9_isUpright 2 = .ok (.aload_n 1, 1) := dkg_X9_13.2.2.1
theorem dX9_isUpright_3 : decode cX9_isUpright 3 = .ok (.ifnull 20, 3) := dkg_X9_13.2.2.2.1
theorem dX9_isUpright_6 : decode cX9_isUpright 6 = .ok (.aload_n 1, 1) := dkg_X9_13.2.2.2.2.1
theorem dX9_isUpright_7 : decode cX9_isUpright 7 = .ok (.getfield 33, 3) := dkg_X9_13.2.2.2.2.2.1
theorem dX9_isUpright_10 : decode cX9_isUpright 10 = .ok (.ifCond .eq 5, 3) := dkg_X9_13.2.2.2.2.2.2.1
theorem dX9_isUpright_13 : decode cX9_isUpright 13 = .ok (.iconst 0, 1) := dkg_X9_13.2.2.2.2.2.2.2.1
theorem dX9_isUpright_14 : decode cX9_isUpright 14 = .ok (.ireturn, 1) := dkg_X9_13.2.2.2.2.2.2.2.2.1
theorem dX9_isUpright_15 : decode cX9_isUpright 15 = .ok (.aload_n 1, 1) := dkg_X9_13.2.2.2.2.2.2.2.2.2.1
theorem dkg_X9_14 : dkp cX9_isUpright [(16, .getfield 44, 3), (19, .astore_n 1, 1), (20, .goto (-18), 3), (23, .iconst 1, 1), (24, .ireturn, 1)] := dkf (by decide +kernel)
theorem dX9_isUpright_16 : decode cX9_isUpright 16 = .ok (.getfield 44, 3) := dkg_X9_14.1
theorem dX9_isUpright_19 : decode cX9_isUpright 19 = .ok (.astore_n 1, 1) := dkg_X9_14.2.1
theorem dX9_isUpright_20 : decode cX9_isUpright 20 = .ok (.goto (-18), 3) := dkg_X9_14.2.2.1
theorem dX9_isUpright_23 : decode cX9_isUpright 23 = .ok (.iconst 1, 1) := dkg_X9_14.2.2.2.1
theorem dX9_isUpright_24 : decode cX9_isUpright 24 = .ok (.ireturn, 1) := dkg_X9_14.2.2.2.2.1
theorem dkg_X9_15 : dkp cX9_hasShort [(0, .aload_n 0, 1), (1, .invokestatic 80, 3), (4, .ifCond .ne 13, 3), (7, .aload_n 0, 1), (8, .getfield 48, 3), (11, .invokestatic 80, 3), (14, .ifCond .eq 7, 3), (17, .iconst 1, 1), (18, .goto 4, 3), (21, .iconst 0, 1)] := dkf (by decide +kernel)
theorem dX9_hasShort_0 : decode cX9_hasShort 0 = .ok (.aload_n 0, 1) := dkg_X9_15.1
theorem dX9_hasShort_1 : decode cX9_hasShort 1 = .ok (.invokestatic 80, 3) := dkg_X9_15.2.1
theorem dX9_hasShort_4 : decode cX9_hasShort 4 = .ok (.ifCond .ne 13, 3) := dkg_X9_15.2.2.1
theorem dX9_hasShort_7 : decode cX9_hasShort 7 = .ok (.aload_n 0, 1) := dkg_X9_15.2.2.2.1
theorem dX9_hasShort_8 : decode cX9_hasShort 8 = .ok (.getfield 48, 3) := dkg_X9_15.2.2.2.2.1
theorem dX9_hasShort_11 : decode cX9_hasShort 11 = .ok (.invokestatic 80, 3) := dkg_X9_15.2.2.2.2.2.1
theorem dX9_hasShort_14 : decode cX9_hasShort 14 = .ok (.ifCond .eq 7, 3) := dkg_X9_15.2.2.2.2.2.2.1
theorem dX9_hasShort_17 : decode cX9_hasShort 17 = .ok (.iconst 1, 1) := dkg_X9_15.2.2.2.2.2.2.2.1
theorem dX9_hasShort_18 : decode cX9_hasShort 18 = .ok (.goto 4, 3) := dkg_X9_15.2.2.2.2.2.2.2.2.1
theorem dX9_hasShort_21 : decode cX9_hasShort 21 = .ok (.iconst 0, 1) := dkg_X9_15.2.2.2.2.2.2.2.2.2.1
theorem dkg_X9_16 : dkp cX9_hasShort [(22, .ireturn, 1)] := dkf (by decide +kernel)
theorem dX9_hasShort_22 : decode cX9_hasShort 22 = .ok (.ireturn, 1) := dkg_X9_16.1
theorem dkg_X9_17 : dkp cX9_isOverShort [(0, .aload_n 0, 1), (1, .astore_n 1, 1), (2, .aload_n 1, 1), (3, .ifnull 21, 3), (6, .aload_n 1, 1), (7, .getfield 37, 3), (10, .iconst 3, 1), (11, .if_icmp .ne 5, 3), (14, .iconst 1, 1), (15, .ireturn, 1)] := dkf (by decide +kernel)
theorem dX9_isOverShort_0 : decode cX9_isOverShort 0 = .ok (.aload_n 0, 1) := dkg_X9_17.1
theorem dX9_isOverShort_1 : decode cX9_isOverShort 1 = .ok (.astore_n 1, 1) := dkg_X9_17.2.1
theorem dX9_isOverShort_2 : decode cX9_isOverShort 2 = .ok (.aload_n 1, 1) := dkg_X9_17.2.2.1
theorem dX9_isOverShort_3 : decode cX9_isOverShort 3 = .ok (.ifnull 21, 3) := dkg_X9_17.2.2.2.1
theorem dX9_isOverShort_6 : decode cX9_isOverShort 6 = .ok (.aload_n 1, 1) := dkg_X9_17.2.2.2.2.1
theorem dX9_isOverShort_7 : decode cX9_isOverShort 7 = .ok (.getfield 37, 3) := dkg_X9_17.2.2.2.2.2.1
theorem dX9_isOverShort_10 : decode cX9_isOverShort 10 = .ok (.iconst 3, 1) := dkg_X9_17.2.2.2.2.2.2.1
theorem dX9_isOverShort_11 : decode cX9_isOverShort 11 = .ok (.if_icmp .ne 5, 3) := dkg_X9_17.2.2.2.2.2.2.2.1
theorem dX9_isOverShort_14 : decode cX9_isOverShort 14 = .ok (.iconst 1, 1) := dkg_X9_17.2.2.2.2.2.2.2.2.1
theorem dX9_isOverShort_15 : decode cX9_isOverShort 15 = .ok (.ireturn, 1) := dkg_X9_17.2.2.2.2.2.2.2.2.2.1
theorem dkg_X9_18 : dkp cX9_isOverShort [(16, .aload_n 1, 1), (17, .getfield 44, 3), (20, .astore_n 1, 1), (21, .goto (-19), 3), (24, .iconst 0, 1), (25, .ireturn, 1)] := dkf (by decide +kernel)
theorem dX9_isOverShort_16 : decode cX9_isOverShort 16 = .ok (.aload_n 1, 1) := dkg_X9_18.1
theorem dX9_isOverShort_17 : decode cX9_isOverShort 17 = .ok (.getfield 44, 3) := dkg_X9_18.2.1
theorem dX9_isOverShort_20 : decode cX9_isOverShort 20 = .ok (.astore_n 1, 1) := dkg_X9_18.2.2.1
theorem dX9_isOverShort_21 : decode cX9_isOverShort 21 = .ok (.goto (-19), 3) := dkg_X9_18.2.2.2.1
theorem dX9_isOverShort_24 : decode cX9_isOverShort 24 = .ok (.iconst 0, 1) := dkg_X9_18.2.2.2.2.1
theorem dX9_isOverShort_25 : decode cX9_isOverShort 25 = .ok (.ireturn, 1) := dkg_X9_18.2.2.2.2.2.1
