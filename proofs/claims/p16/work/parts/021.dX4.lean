theorem dkg_X4_0 : dkp cX4_init [(0, .aload_n 0, 1), (1, .invokespecial 3, 3), (4, .aload_n 0, 1), (5, .sipush 404, 3), (10, .putfield 9, 3), (13, .aload_n 0, 1), (14, .bipush 101, 2), (18, .putfield 15, 3), (21, .aload_n 0, 1), (22, .bipush 101, 2)] := dkf (by decide +kernel)
theorem dX4_init_0 : decode cX4_init 0 = .ok (.aload_n 0, 1) := dkg_X4_0.1
theorem dX4_init_1 : decode cX4_init 1 = .ok (.invokespecial 3, 3) := dkg_X4_0.2.1
theorem dX4_init_4 : decode cX4_init 4 = .ok (.aload_n 0, 1) := dkg_X4_0.2.2.1
theorem dX4_init_5 : decode cX4_init 5 = .ok (.sipush 404, 3) := dkg_X4_0.2.2.2.1
theorem dX4_init_10 : decode cX4_init 10 = .ok (.putfield 9, 3) := dkg_X4_0.2.2.2.2.1
theorem dX4_init_13 : decode cX4_init 13 = .ok (.aload_n 0, 1) := dkg_X4_0.2.2.2.2.2.1
theorem dX4_init_14 : decode cX4_init 14 = .ok (.bipush 101, 2) := dkg_X4_0.2.2.2.2.2.2.1
theorem dX4_init_18 : decode cX4_init 18 = .ok (.putfield 15, 3) := dkg_X4_0.2.2.2.2.2.2.2.1
theorem dX4_init_21 : decode cX4_init 21 = .ok (.aload_n 0, 1) := dkg_X4_0.2.2.2.2.2.2.2.2.1
theorem dX4_init_22 : decode cX4_init 22 = .ok (.bipush 101, 2) := dkg_X4_0.2.2.2.2.2.2.2.2.2.1
theorem dkg_X4_1 : dkp cX4_init [(26, .putfield 19, 3), (29, .aload_n 0, 1), (30, .bipush 50, 2), (34, .putfield 22, 3), (37, .aload_n 0, 1), (38, .new 25, 3), (41, .dup, 1), (42, .ldc 27, 2), (44, .invokespecial 28, 3), (47, .putfield 31, 3)] := dkf (by decide +kernel)
theorem dX4_init_26 : decode cX4_init 26 = .ok (.putfield 19, 3) := dkg_X4_1.1
theorem dX4_init_29 : decode cX4_init 29 = .ok (.aload_n 0, 1) := dkg_X4_1.2.1
theorem dX4_init_30 : decode cX4_init 30 = .ok (.bipush 50, 2) := dkg_X4_1.2.2.1
theorem dX4_init_34 : decode cX4_init 34 = .ok (.putfield 22, 3) := dkg_X4_1.2.2.2.1
theorem dX4_init_37 : decode cX4_init 37 = .ok (.aload_n 0, 1) := dkg_X4_1.2.2.2.2.1
theorem dX4_init_38 : decode cX4_init 38 = .ok (.new 25, 3) := dkg_X4_1.2.2.2.2.2.1
theorem dX4_init_41 : decode cX4_init 41 = .ok (.dup, 1) := dkg_X4_1.2.2.2.2.2.2.1
theorem dX4_init_42 : decode cX4_init 42 = .ok (.ldc 27, 2) := dkg_X4_1.2.2.2.2.2.2.2.1
theorem dX4_init_44 : decode cX4_init 44 = .ok (.invokespecial 28, 3) := dkg_X4_1.2.2.2.2.2.2.2.2.1
theorem dX4_init_47 : decode cX4_init 47 = .ok (.putfield 31, 3) := dkg_X4_1.2.2.2.2.2.2.2.2.2.1
theorem dkg_X4_2 : dkp cX4_init [(50, .aload_n 0, 1), (51, .iconst 0, 1), (52, .putfield 35, 3), (55, .aload_n 0, 1), (56, .iconst 0, 1), (57, .putfield 39, 3), (60, .aload_n 0, 1), (61, .bipush 100, 2), (65, .putfield 43, 3), (68, .aload_n 0, 1)] := dkf (by decide +kernel)
theorem dX4_init_50 : decode cX4_init 50 = .ok (.aload_n 0, 1) := dkg_X4_2.1
theorem dX4_init_51 : decode cX4_init 51 = .ok (.iconst 0, 1) := dkg_X4_2.2.1
theorem dX4_init_52 : decode cX4_init 52 = .ok (.putfield 35, 3) := dkg_X4_2.2.2.1
theorem dX4_init_55 : decode cX4_init 55 = .ok (.aload_n 0, 1) := dkg_X4_2.2.2.2.1
theorem dX4_init_56 : decode cX4_init 56 = .ok (.iconst 0, 1) := dkg_X4_2.2.2.2.2.1
theorem dX4_init_57 : decode cX4_init 57 = .ok (.putfield 39, 3) := dkg_X4_2.2.2.2.2.2.1
theorem dX4_init_60 : decode cX4_init 60 = .ok (.aload_n 0, 1) := dkg_X4_2.2.2.2.2.2.2.1
theorem dX4_init_61 : decode cX4_init 61 = .ok (.bipush 100, 2) := dkg_X4_2.2.2.2.2.2.2.2.1
theorem dX4_init_65 : decode cX4_init 65 = .ok (.putfield 43, 3) := dkg_X4_2.2.2.2.2.2.2.2.2.1
theorem dX4_init_68 : decode cX4_init 68 = .ok (.aload_n 0, 1) := dkg_X4_2.2.2.2.2.2.2.2.2.2.1
theorem dkg_X4_3 : dkp cX4_init [(69, .iconst 0, 1), (70, .putfield 46, 3), (73, .aload_n 0, 1), (74, .iconst 0, 1), (75, .putfield 49, 3), (78, .aload_n 0, 1), (79, .aload_n 1, 1), (80, .putfield 52, 3), (83, .return_, 1)] := dkf (by decide +kernel)
theorem dX4_init_69 : decode cX4_init 69 = .ok (.iconst 0, 1) := dkg_X4_3.1
theorem dX4_init_70 : decode cX4_init 70 = .ok (.putfield 46, 3) := dkg_X4_3.2.1
theorem dX4_init_73 : decode cX4_init 73 = .ok (.aload_n 0, 1) := dkg_X4_3.2.2.1
theorem dX4_init_74 : decode cX4_init 74 = .ok (.iconst 0, 1) := dkg_X4_3.2.2.2.1
theorem dX4_init_75 : decode cX4_init 75 = .ok (.putfield 49, 3) := dkg_X4_3.2.2.2.2.1
theorem dX4_init_78 : decode cX4_init 78 = .ok (.aload_n 0, 1) := dkg_X4_3.2.2.2.2.2.1
theorem dX4_init_79 : decode cX4_init 79 = .ok (.aload_n 1, 1) := dkg_X4_3.2.2.2.2.2.2.1
theorem dX4_init_80 : decode cX4_init 80 = .ok (.putfield 52, 3) := dkg_X4_3.2.2.2.2.2.2.2.1
theorem dX4_init_83 : decode cX4_init 83 = .ok (.return_, 1) := dkg_X4_3.2.2.2.2.2.2.2.2.1
theorem dkg_X4_4 : dkp cX4_init [(8, .newarray .boolean, 2), (16, .newarray .int, 2), (24, .newarray .int, 2), (32, .newarray .int, 2), (63, .newarray .int, 2)] := dkq (by decide +kernel)
theorem dX4_init_8 : decode cX4_init 8 = .ok (.newarray .boolean, 2) := dkg_X4_4.1
theorem dX4_init_16 : decode cX4_init 16 = .ok (.newarray .int, 2) := dkg_X4_4.2.1
theorem dX4_init_24 : decode cX4_init 24 = .ok (.newarray .int, 2) := dkg_X4_4.2.2.1
theorem dX4_init_32 : decode cX4_init 32 = .ok (.newarray .int, 2) := dkg_X4_4.2.2.2.1
theorem dX4_init_63 : decode cX4_init 63 = .ok (.newarray .int, 2) := dkg_X4_4.2.2.2.2.1
theorem dkg_X4_5 : dkp cX4_byteOf [(0, .iload_n 1, 1), (1, .ifCond .lt 11, 3), (4, .iload_n 1, 1), (5, .aload_n 0, 1), (6, .getfield 35, 3), (9, .if_icmp .lt 5, 3), (12, .iconst (-1), 1), (13, .ireturn, 1), (14, .iload_n 1, 1), (15, .ifCond .ne 7, 3)] := dkf (by decide +kernel)
theorem dX4_byteOf_0 : decode cX4_byteOf 0 = .ok (.iload_n 1, 1) := dkg_X4_5.1
theorem dX4_byteOf_1 : decode cX4_byteOf 1 = .ok (.ifCond .lt 11, 3) := dkg_X4_5.2.1
theorem dX4_byteOf_4 : decode cX4_byteOf 4 = .ok (.iload_n 1, 1) := dkg_X4_5.2.2.1
theorem dX4_byteOf_5 : decode cX4_byteOf 5 = .ok (.aload_n 0, 1) := dkg_X4_5.2.2.2.1
theorem dX4_byteOf_6 : decode cX4_byteOf 6 = .ok (.getfield 35, 3) := dkg_X4_5.2.2.2.2.1
theorem dX4_byteOf_9 : decode cX4_byteOf 9 = .ok (.if_icmp .lt 5, 3) := dkg_X4_5.2.2.2.2.2.1
theorem dX4_byteOf_12 : decode cX4_byteOf 12 = .ok (.iconst (-1), 1) := dkg_X4_5.2.2.2.2.2.2.1
theorem dX4_byteOf_13 : decode cX4_byteOf 13 = .ok (.ireturn, 1) := dkg_X4_5.2.2.2.2.2.2.2.1
theorem dX4_byteOf_14 : decode cX4_byteOf 14 = .ok (.iload_n 1, 1) := dkg_X4_5.2.2.2.2.2.2.2.2.1
theorem dX4_byteOf_15 : decode cX4_byteOf 15 = .ok (.ifCond .ne 7, 3) := dkg_X4_5.2.2.2.2.2.2.2.2.2.1
theorem dkg_X4_6 : dkp cX4_byteOf [(18, .iconst 0, 1), (19, .goto 11, 3), (22, .aload_n 0, 1), (23, .getfield 22, 3), (26, .iload_n 1, 1), (27, .iconst 1, 1), (28, .isub, 1), (29, .iaload, 1), (30, .istore_n 3, 1), (31, .iload_n 2, 1)] := dkf (by decide +kernel)
theorem dX4_byteOf_18 : decode cX4_byteOf 18 = .ok (.iconst 0, 1) := dkg_X4_6.1
theorem dX4_byteOf_19 : decode cX4_byteOf 19 = .ok (.goto 11, 3) := dkg_X4_6.2.1
theorem dX4_byteOf_22 : decode cX4_byteOf 22 = .ok (.aload_n 0, 1) := dkg_X4_6.2.2.1
theorem dX4_byteOf_23 : decode cX4_byteOf 23 = .ok (.getfield 22, 3) := dkg_X4_6.2.2.2.1
theorem dX4_byteOf_26 : decode cX4_byteOf 26 = .ok (.iload_n 1, 1) := dkg_X4_6.2.2.2.2.1
theorem dX4_byteOf_27 : decode cX4_byteOf 27 = .ok (.iconst 1, 1) := dkg_X4_6.2.2.2.2.2.1
theorem dX4_byteOf_28 : decode cX4_byteOf 28 = .ok (.isub, 1) := dkg_X4_6.2.2.2.2.2.2.1
theorem dX4_byteOf_29 : decode cX4_byteOf 29 = .ok (.iaload, 1) := dkg_X4_6.2.2.2.2.2.2.2.1
theorem dX4_byteOf_30 : decode cX4_byteOf 30 = .ok (.istore_n 3, 1) := dkg_X4_6.2.2.2.2.2.2.2.2.1
theorem dX4_byteOf_31 : decode cX4_byteOf 31 = .ok (.iload_n 2, 1) := dkg_X4_6.2.2.2.2.2.2.2.2.2.1
theorem dkg_X4_7 : dkp cX4_byteOf [(32, .ifCond .lt 15, 3), (35, .iload_n 2, 1), (36, .aload_n 0, 1), (37, .getfield 22, 3), (40, .iload_n 1, 1), (41, .iaload, 1), (42, .iload_n 3, 1), (43, .isub, 1), (44, .if_icmp .lt 7, 3), (47, .iconst (-1), 1)] := dkf (by decide +kernel)
theorem dX4_byteOf_32 : decode cX4_byteOf 32 = .ok (.ifCond .lt 15, 3) := dkg_X4_7.1
theorem dX4_byteOf_35 : decode cX4_byteOf 35 = .ok (.iload_n 2, 1) := dkg_X4_7.2.1
theorem dX4_byteOf_36 : decode cX4_byteOf 36 = .ok (.aload_n 0, 1) := dkg_X4_7.2.2.1
theorem dX4_byteOf_37 : decode cX4_byteOf 37 = .ok (.getfield 22, 3) := dkg_X4_7.2.2.2.1
theorem dX4_byteOf_40 : decode cX4_byteOf 40 = .ok (.iload_n 1, 1) := dkg_X4_7.2.2.2.2.1
theorem dX4_byteOf_41 : decode cX4_byteOf 41 = .ok (.iaload, 1) := dkg_X4_7.2.2.2.2.2.1
theorem dX4_byteOf_42 : decode cX4_byteOf 42 = .ok (.iload_n 3, 1) := dkg_X4_7.2.2.2.2.2.2.1
theorem dX4_byteOf_43 : decode cX4_byteOf 43 = .ok (.isub, 1) := dkg_X4_7.2.2.2.2.2.2.2.1
theorem dX4_byteOf_44 : decode cX4_byteOf 44 = .ok (.if_icmp .lt 7, 3) := dkg_X4_7.2.2.2.2.2.2.2.2.1
theorem dX4_byteOf_47 : decode cX4_byteOf 47 = .ok (.iconst (-1), 1) := dkg_X4_7.2.2.2.2.2.2.2.2.2.1
theorem dkg_X4_8 : dkp cX4_byteOf [(48, .goto 13, 3), (51, .aload_n 0, 1), (52, .getfield 31, 3), (55, .iload_n 3, 1), (56, .iload_n 2, 1), (57, .iadd, 1), (58, .invokevirtual 56, 3), (61, .ireturn, 1)] := dkf (by decide +kernel)
theorem dX4_byteOf_48 : decode cX4_byteOf 48 = .ok (.goto 13, 3) := dkg_X4_8.1
theorem dX4_byteOf_51 : decode cX4_byteOf 51 = .ok (.aload_n 0, 1) := dkg_X4_8.2.1
theorem dX4_byteOf_52 : decode cX4_byteOf 52 = .ok (.getfield 31, 3) := dkg_X4_8.2.2.1
theorem dX4_byteOf_55 : decode cX4_byteOf 55 = .ok (.iload_n 3, 1) := dkg_X4_8.2.2.2.1
theorem dX4_byteOf_56 : decode cX4_byteOf 56 = .ok (.iload_n 2, 1) := dkg_X4_8.2.2.2.2.1
theorem dX4_byteOf_57 : decode cX4_byteOf 57 = .ok (.iadd, 1) := dkg_X4_8.2.2.2.2.2.1
theorem dX4_byteOf_58 : decode cX4_byteOf 58 = .ok (.invokevirtual 56, 3) := dkg_X4_8.2.2.2.2.2.2.1
theorem dX4_byteOf_61 : decode cX4_byteOf 61 = .ok (.ireturn, 1) := dkg_X4_8.2.2.2.2.2.2.2.1
theorem dkg_X4_9 : dkp cX4_collect [(0, .aload_n 0, 1), (1, .aload_n 1, 1), (2, .getfield 60, 3), (5, .bipush 100, 2), (7, .invokestatic 63, 3), (10, .putfield 46, 3), (13, .aload_n 1, 1), (14, .getfield 69, 3), (17, .iconst 0, 1), (18, .aload_n 0, 1)] := dkf (by decide +kernel)
theorem dX4_collect_0 : decode cX4_collect 0 = .ok (.aload_n 0, 1) := dkg_X4_9.1
theorem dX4_collect_1 : decode cX4_collect 1 = .ok (.aload_n 1, 1) := dkg_X4_9.2.1
theorem dX4_collect_2 : decode cX4_collect 2 = .ok (.getfield 60, 3) := dkg_X4_9.2.2.1
theorem dX4_collect_5 : decode cX4_collect 5 = .ok (.bipush 100, 2) := dkg_X4_9.2.2.2.1
theorem dX4_collect_7 : decode cX4_collect 7 = .ok (.invokestatic 63, 3) := dkg_X4_9.2.2.2.2.1
theorem dX4_collect_10 : decode cX4_collect 10 = .ok (.putfield 46, 3) := dkg_X4_9.2.2.2.2.2.1
theorem dX4_collect_13 : decode cX4_collect 13 = .ok (.aload_n 1, 1) := dkg_X4_9.2.2.2.2.2.2.1
theorem dX4_collect_14 : decode cX4_collect 14 = .ok (.getfield 69, 3) := dkg_X4_9.2.2.2.2.2.2.2.1
theorem dX4_collect_17 : decode cX4_collect 17 = .ok (.iconst 0, 1) := dkg_X4_9.2.2.2.2.2.2.2.2.1
theorem dX4_collect_18 : decode cX4_collect 18 = .ok (.aload_n 0, 1) := dkg_X4_9.2.2.2.2.2.2.2.2.2.1
theorem dkg_X4_10 : dkp cX4_collect [(19, .getfield 43, 3), (22, .iconst 0, 1), (23, .aload_n 0, 1), (24, .getfield 46, 3), (27, .invokestatic 70, 3), (30, .aload_n 0, 1), (31, .iload_n 2, 1), (32, .putfield 49, 3), (35, .aload_n 0, 1), (36, .iconst 0, 1)] := dkf (by decide +kernel)
theorem dX4_collect_19 : decode cX4_collect 19 = .ok (.getfield 43, 3) := dkg_X4_10.1
theorem dX4_collect_22 : decode cX4_collect 22 = .ok (.iconst 0, 1) := dkg_X4_10.2.1
theorem dX4_collect_23 : decode cX4_collect 23 = .ok (.aload_n 0, 1) := dkg_X4_10.2.2.1
theorem dX4_collect_24 : decode cX4_collect 24 = .ok (.getfield 46, 3) := dkg_X4_10.2.2.2.1
theorem dX4_collect_27 : decode cX4_collect 27 = .ok (.invokestatic 70, 3) := dkg_X4_10.2.2.2.2.1
theorem dX4_collect_30 : decode cX4_collect 30 = .ok (.aload_n 0, 1) := dkg_X4_10.2.2.2.2.2.1
theorem dX4_collect_31 : decode cX4_collect 31 = .ok (.iload_n 2, 1) := dkg_X4_10.2.2.2.2.2.2.1
theorem dX4_collect_32 : decode cX4_collect 32 = .ok (.putfield 49, 3) := dkg_X4_10.2.2.2.2.2.2.2.1
theorem dX4_collect_35 : decode cX4_collect 35 = .ok (.aload_n 0, 1) := dkg_X4_10.2.2.2.2.2.2.2.2.1
theorem dX4_collect_36 : decode cX4_collect 36 = .ok (.iconst 0, 1) := dkg_X4_10.2.2.2.2.2.2.2.2.2.1
theorem dkg_X4_11 : dkp cX4_collect [(37, .putfield 35, 3), (40, .aload_n 0, 1), (41, .iconst 0, 1), (42, .putfield 39, 3), (45, .aload_n 0, 1), (46, .getfield 31, 3), (49, .invokevirtual 76, 3), (52, .aload_n 0, 1), (53, .invokevirtual 79, 3), (56, .aload_n 0, 1)] := dkf (by decide +kernel)
theorem dX4_collect_37 : decode cX4_collect 37 = .ok (.putfield 35, 3) := dkg_X4_11.1
theorem dX4_collect_40 : decode cX4_collect 40 = .ok (.aload_n 0, 1) := dkg_X4_11.2.1
theorem dX4_collect_41 : decode cX4_collect 41 = .ok (.iconst 0, 1) := dkg_X4_11.2.2.1
theorem dX4_collect_42 : decode cX4_collect 42 = .ok (.putfield 39, 3) := dkg_X4_11.2.2.2.1
theorem dX4_collect_45 : decode cX4_collect 45 = .ok (.aload_n 0, 1) := dkg_X4_11.2.2.2.2.1
theorem dX4_collect_46 : decode cX4_collect 46 = .ok (.getfield 31, 3) := dkg_X4_11.2.2.2.2.2.1
theorem dX4_collect_49 : decode cX4_collect 49 = .ok (.invokevirtual 76, 3) := dkg_X4_11.2.2.2.2.2.2.1
theorem dX4_collect_52 : decode cX4_collect 52 = .ok (.aload_n 0, 1) := dkg_X4_11.2.2.2.2.2.2.2.1
theorem dX4_collect_53 : decode cX4_collect 53 = .ok (.invokevirtual 79, 3) := dkg_X4_11.2.2.2.2.2.2.2.2.1
theorem dX4_collect_56 : decode cX4_collect 56 = .ok (.aload_n 0, 1) := dkg_X4_11.2.2.2.2.2.2.2.2.2.1
theorem dkg_X4_12 : dkp cX4_collect [(57, .getfield 9, 3), (60, .iconst 0, 1), (61, .baload, 1), (62, .ifCond .eq 13, 3), (65, .aload_n 0, 1), (66, .iload_n 3, 1), (67, .bipush 50, 2), (69, .invokestatic 63, 3), (72, .invokevirtual 82, 3), (75, .return_, 1)] := dkf (by decide +kernel)
theorem dX4_collect_57 : decode cX4_collect 57 = .ok (.getfield 9, 3) := dkg_X4_12.1
theorem dX4_collect_60 : decode cX4_collect 60 = .ok (.iconst 0, 1) := dkg_X4_12.2.1
theorem dX4_collect_61 : decode cX4_collect 61 = .ok (.baload, 1) := dkg_X4_12.2.2.1
theorem dX4_collect_62 : decode cX4_collect 62 = .ok (.ifCond .eq 13, 3) := dkg_X4_12.2.2.2.1
theorem dX4_collect_65 : decode cX4_collect 65 = .ok (.aload_n 0, 1) := dkg_X4_12.2.2.2.2.1
theorem dX4_collect_66 : decode cX4_collect 66 = .ok (.iload_n 3, 1) := dkg_X4_12.2.2.2.2.2.1
theorem dX4_collect_67 : decode cX4_collect 67 = .ok (.bipush 50, 2) := dkg_X4_12.2.2.2.2.2.2.1
theorem dX4_collect_69 : decode cX4_collect 69 = .ok (.invokestatic 63, 3) := dkg_X4_12.2.2.2.2.2.2.2.1
theorem dX4_collect_72 : decode cX4_collect 72 = .ok (.invokevirtual 82, 3) := dkg_X4_12.2.2.2.2.2.2.2.2.1
theorem dX4_collect_75 : decode cX4_collect 75 = .ok (.return_, 1) := dkg_X4_12.2.2.2.2.2.2.2.2.2.1
theorem dkg_X4_13 : dkp cX4_markEnds [(0, .aload_n 0, 1), (1, .getfield 46, 3), (4, .iconst 4, 1), (5, .imul, 1), (6, .iconst 3, 1), (7, .iadd, 1), (8, .istore_n 1, 1), (9, .iload_n 1, 1), (10, .ifCond .lt 53, 3), (13, .aload_n 0, 1)] := dkf (by decide +kernel)
theorem dX4_markEnds_0 : decode cX4_markEnds 0 = .ok (.aload_n 0, 1) := dkg_X4_13.1
theorem dX4_markEnds_1 : decode cX4_markEnds 1 = .ok (.getfield 46, 3) := dkg_X4_13.2.1
theorem dX4_markEnds_4 : decode cX4_markEnds 4 = .ok (.iconst 4, 1) := dkg_X4_13.2.2.1
theorem dX4_markEnds_5 : decode cX4_markEnds 5 = .ok (.imul, 1) := dkg_X4_13.2.2.2.1
theorem dX4_markEnds_6 : decode cX4_markEnds 6 = .ok (.iconst 3, 1) := dkg_X4_13.2.2.2.2.1
theorem dX4_markEnds_7 : decode cX4_markEnds 7 = .ok (.iadd, 1) := dkg_X4_13.2.2.2.2.2.1
theorem dX4_markEnds_8 : decode cX4_markEnds 8 = .ok (.istore_n 1, 1) := dkg_X4_13.2.2.2.2.2.2.1
theorem dX4_markEnds_9 : decode cX4_markEnds 9 = .ok (.iload_n 1, 1) := dkg_X4_13.2.2.2.2.2.2.2.1
theorem dX4_markEnds_10 : decode cX4_markEnds 10 = .ok (.ifCond .lt 53, 3) := dkg_X4_13.2.2.2.2.2.2.2.2.1
theorem dX4_markEnds_13 : decode cX4_markEnds 13 = .ok (.aload_n 0, 1) := dkg_X4_13.2.2.2.2.2.2.2.2.2.1
theorem dkg_X4_14 : dkp cX4_markEnds [(14, .getfield 9, 3), (17, .iload_n 1, 1), (18, .iload_n 1, 1), (19, .aload_n 0, 1), (20, .getfield 46, 3), (23, .iconst 4, 1), (24, .imul, 1), (25, .if_icmp .lt 17, 3), (28, .iload_n 1, 1), (29, .iconst 2, 1)] := dkf (by decide +kernel)
theorem dX4_markEnds_14 : decode cX4_markEnds 14 = .ok (.getfield 9, 3) := dkg_X4_14.1
theorem dX4_markEnds_17 : decode cX4_markEnds 17 = .ok (.iload_n 1, 1) := dkg_X4_14.2.1
theorem dX4_markEnds_18 : decode cX4_markEnds 18 = .ok (.iload_n 1, 1) := dkg_X4_14.2.2.1
theorem dX4_markEnds_19 : decode cX4_markEnds 19 = .ok (.aload_n 0, 1) := dkg_X4_14.2.2.2.1
theorem dX4_markEnds_20 : decode cX4_markEnds 20 = .ok (.getfield 46, 3) := dkg_X4_14.2.2.2.2.1
theorem dX4_markEnds_23 : decode cX4_markEnds 23 = .ok (.iconst 4, 1) := dkg_X4_14.2.2.2.2.2.1
theorem dX4_markEnds_24 : decode cX4_markEnds 24 = .ok (.imul, 1) := dkg_X4_14.2.2.2.2.2.2.1
theorem dX4_markEnds_25 : decode cX4_markEnds 25 = .ok (.if_icmp .lt 17, 3) := dkg_X4_14.2.2.2.2.2.2.2.1
theorem dX4_markEnds_28 : decode cX4_markEnds 28 = .ok (.iload_n 1, 1) := dkg_X4_14.2.2.2.2.2.2.2.2.1
theorem dX4_markEnds_29 : decode cX4_markEnds 29 = .ok (.iconst 2, 1) := dkg_X4_14.2.2.2.2.2.2.2.2.2.1
theorem dkg_X4_15 : dkp cX4_markEnds [(30, .iand, 1), (31, .ifCond .ne 7, 3), (34, .iconst 1, 1), (35, .goto 21, 3), (38, .iconst 0, 1), (39, .goto 17, 3), (42, .aload_n 0, 1), (43, .iload_n 1, 1), (44, .iconst 0, 1), (45, .invokevirtual 85, 3)] := dkf (by decide +kernel)
theorem dX4_markEnds_30 : decode cX4_markEnds 30 = .ok (.iand, 1) := dkg_X4_15.1
theorem dX4_markEnds_31 : decode cX4_markEnds 31 = .ok (.ifCond .ne 7, 3) := dkg_X4_15.2.1
theorem dX4_markEnds_34 : decode cX4_markEnds 34 = .ok (.iconst 1, 1) := dkg_X4_15.2.2.1
theorem dX4_markEnds_35 : decode cX4_markEnds 35 = .ok (.goto 21, 3) := dkg_X4_15.2.2.2.1
theorem dX4_markEnds_38 : decode cX4_markEnds 38 = .ok (.iconst 0, 1) := dkg_X4_15.2.2.2.2.1
theorem dX4_markEnds_39 : decode cX4_markEnds 39 = .ok (.goto 17, 3) := dkg_X4_15.2.2.2.2.2.1
theorem dX4_markEnds_42 : decode cX4_markEnds 42 = .ok (.aload_n 0, 1) := dkg_X4_15.2.2.2.2.2.2.1
theorem dX4_markEnds_43 : decode cX4_markEnds 43 = .ok (.iload_n 1, 1) := dkg_X4_15.2.2.2.2.2.2.2.1
theorem dX4_markEnds_44 : decode cX4_markEnds 44 = .ok (.iconst 0, 1) := dkg_X4_15.2.2.2.2.2.2.2.2.1
theorem dX4_markEnds_45 : decode cX4_markEnds 45 = .ok (.invokevirtual 85, 3) := dkg_X4_15.2.2.2.2.2.2.2.2.2.1
theorem dkg_X4_16 : dkp cX4_markEnds [(48, .ifCond .lt 7, 3), (51, .iconst 1, 1), (52, .goto 4, 3), (55, .iconst 0, 1), (56, .bastore, 1), (57, .iinc 1 (-1), 3), (60, .goto (-51), 3), (63, .return_, 1)] := dkf (by decide +kernel)
theorem dX4_markEnds_48 : decode cX4_markEnds 48 = .ok (.ifCond .lt 7, 3) := dkg_X4_16.1
theorem dX4_markEnds_51 : decode cX4_markEnds 51 = .ok (.iconst 1, 1) := dkg_X4_16.2.1
theorem dX4_markEnds_52 : decode cX4_markEnds 52 = .ok (.goto 4, 3) := dkg_X4_16.2.2.1
theorem dX4_markEnds_55 : decode cX4_markEnds 55 = .ok (.iconst 0, 1) := dkg_X4_16.2.2.2.1
theorem dX4_markEnds_56 : decode cX4_markEnds 56 = .ok (.bastore, 1) := dkg_X4_16.2.2.2.2.1
theorem dX4_markEnds_57 : decode cX4_markEnds 57 = .ok (.iinc 1 (-1), 3) := dkg_X4_16.2.2.2.2.2.1
theorem dX4_markEnds_60 : decode cX4_markEnds 60 = .ok (.goto (-51), 3) := dkg_X4_16.2.2.2.2.2.2.1
theorem dX4_markEnds_63 : decode cX4_markEnds 63 = .ok (.return_, 1) := dkg_X4_16.2.2.2.2.2.2.2.1
theorem dkg_X4_17 : dkp cX4_walk [(0, .iconst 0, 1), (1, .istore_n 2, 1), (2, .aload_n 0, 1), (3, .getfield 15, 3), (6, .iconst 0, 1), (7, .iconst 0, 1), (8, .iastore, 1), (9, .aload_n 0, 1), (10, .getfield 19, 3), (13, .iconst 0, 1)] := dkf (by decide +kernel)
theorem dX4_walk_0 : decode cX4_walk 0 = .ok (.iconst 0, 1) := dkg_X4_17.1
theorem dX4_walk_1 : decode cX4_walk 1 = .ok (.istore_n 2, 1) := dkg_X4_17.2.1
theorem dX4_walk_2 : decode cX4_walk 2 = .ok (.aload_n 0, 1) := dkg_X4_17.2.2.1
theorem dX4_walk_3 : decode cX4_walk 3 = .ok (.getfield 15, 3) := dkg_X4_17.2.2.2.1
theorem dX4_walk_6 : decode cX4_walk 6 = .ok (.iconst 0, 1) := dkg_X4_17.2.2.2.2.1
theorem dX4_walk_7 : decode cX4_walk 7 = .ok (.iconst 0, 1) := dkg_X4_17.2.2.2.2.2.1
theorem dX4_walk_8 : decode cX4_walk 8 = .ok (.iastore, 1) := dkg_X4_17.2.2.2.2.2.2.1
theorem dX4_walk_9 : decode cX4_walk 9 = .ok (.aload_n 0, 1) := dkg_X4_17.2.2.2.2.2.2.2.1
theorem dX4_walk_10 : decode cX4_walk 10 = .ok (.getfield 19, 3) := dkg_X4_17.2.2.2.2.2.2.2.2.1
theorem dX4_walk_13 : decode cX4_walk 13 = .ok (.iconst 0, 1) := dkg_X4_17.2.2.2.2.2.2.2.2.2.1
theorem dkg_X4_18 : dkp cX4_walk [(14, .iconst (-1), 1), (15, .iastore, 1), (16, .iconst 0, 1), (17, .istore_n 3, 1), (18, .iload_n 2, 1), (19, .ifCond .lt 146, 3), (22, .iload_n 3, 1), (23, .ldc 88, 2), (25, .if_icmp .ge 140, 3), (28, .aload_n 0, 1)] := dkf (by decide +kernel)
theorem dX4_walk_14 : decode cX4_walk 14 = .ok (.iconst (-1), 1) := dkg_X4_18.1
theorem dX4_walk_15 : decode cX4_walk 15 = .ok (.iastore, 1) := dkg_X4_18.2.1
theorem dX4_walk_16 : decode cX4_walk 16 = .ok (.iconst 0, 1) := dkg_X4_18.2.2.1
theorem dX4_walk_17 : decode cX4_walk 17 = .ok (.istore_n 3, 1) := dkg_X4_18.2.2.2.1
theorem dX4_walk_18 : decode cX4_walk 18 = .ok (.iload_n 2, 1) := dkg_X4_18.2.2.2.2.1
theorem dX4_walk_19 : decode cX4_walk 19 = .ok (.ifCond .lt 146, 3) := dkg_X4_18.2.2.2.2.2.1
theorem dX4_walk_22 : decode cX4_walk 22 = .ok (.iload_n 3, 1) := dkg_X4_18.2.2.2.2.2.2.1
theorem dX4_walk_23 : decode cX4_walk 23 = .ok (.ldc 88, 2) := dkg_X4_18.2.2.2.2.2.2.2.1
theorem dX4_walk_25 : decode cX4_walk 25 = .ok (.if_icmp .ge 140, 3) := dkg_X4_18.2.2.2.2.2.2.2.2.1
theorem dX4_walk_28 : decode cX4_walk 28 = .ok (.aload_n 0, 1) := dkg_X4_18.2.2.2.2.2.2.2.2.2.1
theorem dkg_X4_19 : dkp cX4_walk [(29, .getfield 15, 3), (32, .iload_n 2, 1), (33, .iaload, 1), (34, .aload_n 0, 1), (35, .getfield 46, 3), (38, .iconst 4, 1), (39, .imul, 1), (40, .if_icmp .lt 7, 3), (43, .iconst 1, 1), (44, .goto 4, 3)] := dkf (by decide +kernel)
theorem dX4_walk_29 : decode cX4_walk 29 = .ok (.getfield 15, 3) := dkg_X4_19.1
theorem dX4_walk_32 : decode cX4_walk 32 = .ok (.iload_n 2, 1) := dkg_X4_19.2.1
theorem dX4_walk_33 : decode cX4_walk 33 = .ok (.iaload, 1) := dkg_X4_19.2.2.1
theorem dX4_walk_34 : decode cX4_walk 34 = .ok (.aload_n 0, 1) := dkg_X4_19.2.2.2.1
theorem dX4_walk_35 : decode cX4_walk 35 = .ok (.getfield 46, 3) := dkg_X4_19.2.2.2.2.1
theorem dX4_walk_38 : decode cX4_walk 38 = .ok (.iconst 4, 1) := dkg_X4_19.2.2.2.2.2.1
theorem dX4_walk_39 : decode cX4_walk 39 = .ok (.imul, 1) := dkg_X4_19.2.2.2.2.2.2.1
theorem dX4_walk_40 : decode cX4_walk 40 = .ok (.if_icmp .lt 7, 3) := dkg_X4_19.2.2.2.2.2.2.2.1
theorem dX4_walk_43 : decode cX4_walk 43 = .ok (.iconst 1, 1) := dkg_X4_19.2.2.2.2.2.2.2.2.1
theorem dX4_walk_44 : decode cX4_walk 44 = .ok (.goto 4, 3) := dkg_X4_19.2.2.2.2.2.2.2.2.2.1
theorem dkg_X4_20 : dkp cX4_walk [(47, .iconst 0, 1), (48, .istore 4, 2), (50, .iload 4, 2), (52, .ifCond .eq 17, 3), (55, .aload_n 0, 1), (56, .getfield 35, 3), (59, .iload_n 1, 1), (60, .if_icmp .lt 9, 3), (63, .aload_n 0, 1), (64, .iconst 1, 1)] := dkf (by decide +kernel)
theorem dX4_walk_47 : decode cX4_walk 47 = .ok (.iconst 0, 1) := dkg_X4_20.1
theorem dX4_walk_48 : decode cX4_walk 48 = .ok (.istore 4, 2) := dkg_X4_20.2.1
theorem dX4_walk_50 : decode cX4_walk 50 = .ok (.iload 4, 2) := dkg_X4_20.2.2.1
theorem dX4_walk_52 : decode cX4_walk 52 = .ok (.ifCond .eq 17, 3) := dkg_X4_20.2.2.2.1
theorem dX4_walk_55 : decode cX4_walk 55 = .ok (.aload_n 0, 1) := dkg_X4_20.2.2.2.2.1
theorem dX4_walk_56 : decode cX4_walk 56 = .ok (.getfield 35, 3) := dkg_X4_20.2.2.2.2.2.1
theorem dX4_walk_59 : decode cX4_walk 59 = .ok (.iload_n 1, 1) := dkg_X4_20.2.2.2.2.2.2.1
theorem dX4_walk_60 : decode cX4_walk 60 = .ok (.if_icmp .lt 9, 3) := dkg_X4_20.2.2.2.2.2.2.2.1
theorem dX4_walk_63 : decode cX4_walk 63 = .ok (.aload_n 0, 1) := dkg_X4_20.2.2.2.2.2.2.2.2.1
theorem dX4_walk_64 : decode cX4_walk 64 = .ok (.iconst 1, 1) := dkg_X4_20.2.2.2.2.2.2.2.2.2.1
theorem dkg_X4_21 : dkp cX4_walk [(65, .putfield 39, 3), (68, .return_, 1), (69, .iload 4, 2), (71, .ifCond .eq 7, 3), (74, .iconst (-1), 1), (75, .goto 21, 3), (78, .aload_n 0, 1), (79, .aload_n 0, 1), (80, .getfield 15, 3), (83, .iload_n 2, 1)] := dkf (by decide +kernel)
theorem dX4_walk_65 : decode cX4_walk 65 = .ok (.putfield 39, 3) := dkg_X4_21.1
theorem dX4_walk_68 : decode cX4_walk 68 = .ok (.return_, 1) := dkg_X4_21.2.1
theorem dX4_walk_69 : decode cX4_walk 69 = .ok (.iload 4, 2) := dkg_X4_21.2.2.1
theorem dX4_walk_71 : decode cX4_walk 71 = .ok (.ifCond .eq 7, 3) := dkg_X4_21.2.2.2.1
theorem dX4_walk_74 : decode cX4_walk 74 = .ok (.iconst (-1), 1) := dkg_X4_21.2.2.2.2.1
theorem dX4_walk_75 : decode cX4_walk 75 = .ok (.goto 21, 3) := dkg_X4_21.2.2.2.2.2.1
theorem dX4_walk_78 : decode cX4_walk 78 = .ok (.aload_n 0, 1) := dkg_X4_21.2.2.2.2.2.2.1
theorem dX4_walk_79 : decode cX4_walk 79 = .ok (.aload_n 0, 1) := dkg_X4_21.2.2.2.2.2.2.2.1
theorem dX4_walk_80 : decode cX4_walk 80 = .ok (.getfield 15, 3) := dkg_X4_21.2.2.2.2.2.2.2.2.1
theorem dX4_walk_83 : decode cX4_walk 83 = .ok (.iload_n 2, 1) := dkg_X4_21.2.2.2.2.2.2.2.2.2.1
theorem dkg_X4_22 : dkp cX4_walk [(84, .iaload, 1), (85, .aload_n 0, 1), (86, .getfield 19, 3), (89, .iload_n 2, 1), (90, .iaload, 1), (91, .iconst 1, 1), (92, .iadd, 1), (93, .invokevirtual 85, 3), (96, .istore 5, 2), (98, .iload 4, 2)] := dkf (by decide +kernel)
theorem dX4_walk_84 : decode cX4_walk 84 = .ok (.iaload, 1) := dkg_X4_22.1
theorem dX4_walk_85 : decode cX4_walk 85 = .ok (.aload_n 0, 1) := dkg_X4_22.2.1
theorem dX4_walk_86 : decode cX4_walk 86 = .ok (.getfield 19, 3) := dkg_X4_22.2.2.1
theorem dX4_walk_89 : decode cX4_walk 89 = .ok (.iload_n 2, 1) := dkg_X4_22.2.2.2.1
theorem dX4_walk_90 : decode cX4_walk 90 = .ok (.iaload, 1) := dkg_X4_22.2.2.2.2.1
theorem dX4_walk_91 : decode cX4_walk 91 = .ok (.iconst 1, 1) := dkg_X4_22.2.2.2.2.2.1
theorem dX4_walk_92 : decode cX4_walk 92 = .ok (.iadd, 1) := dkg_X4_22.2.2.2.2.2.2.1
theorem dX4_walk_93 : decode cX4_walk 93 = .ok (.invokevirtual 85, 3) := dkg_X4_22.2.2.2.2.2.2.2.1
theorem dX4_walk_96 : decode cX4_walk 96 = .ok (.istore 5, 2) := dkg_X4_22.2.2.2.2.2.2.2.2.1
theorem dX4_walk_98 : decode cX4_walk 98 = .ok (.iload 4, 2) := dkg_X4_22.2.2.2.2.2.2.2.2.2.1
theorem dkg_X4_23 : dkp cX4_walk [(100, .ifCond .eq 8, 3), (103, .aload_n 0, 1), (104, .iload_n 2, 1), (105, .invokevirtual 89, 3), (108, .iload 5, 2), (110, .ifCond .ge 9, 3), (113, .iinc 2 (-1), 3), (116, .goto 43, 3), (119, .aload_n 0, 1), (120, .getfield 19, 3)] := dkf (by decide +kernel)
theorem dX4_walk_100 : decode cX4_walk 100 = .ok (.ifCond .eq 8, 3) := dkg_X4_23.1
theorem dX4_walk_103 : decode cX4_walk 103 = .ok (.aload_n 0, 1) := dkg_X4_23.2.1
theorem dX4_walk_104 : decode cX4_walk 104 = .ok (.iload_n 2, 1) := dkg_X4_23.2.2.1
theorem dX4_walk_105 : decode cX4_walk 105 = .ok (.invokevirtual 89, 3) := dkg_X4_23.2.2.2.1
theorem dX4_walk_108 : decode cX4_walk 108 = .ok (.iload 5, 2) := dkg_X4_23.2.2.2.2.1
theorem dX4_walk_110 : decode cX4_walk 110 = .ok (.ifCond .ge 9, 3) := dkg_X4_23.2.2.2.2.2.1
theorem dX4_walk_113 : decode cX4_walk 113 = .ok (.iinc 2 (-1), 3) := dkg_X4_23.2.2.2.2.2.2.1
theorem dX4_walk_116 : decode cX4_walk 116 = .ok (.goto 43, 3) := dkg_X4_23.2.2.2.2.2.2.2.1
theorem dX4_walk_119 : decode cX4_walk 119 = .ok (.aload_n 0, 1) := dkg_X4_23.2.2.2.2.2.2.2.2.1
theorem dX4_walk_120 : decode cX4_walk 120 = .ok (.getfield 19, 3) := dkg_X4_23.2.2.2.2.2.2.2.2.2.1
theorem dkg_X4_24 : dkp cX4_walk [(123, .iload_n 2, 1), (124, .iload 5, 2), (126, .iastore, 1), (127, .aload_n 0, 1), (128, .getfield 15, 3), (131, .iload_n 2, 1), (132, .iconst 1, 1), (133, .iadd, 1), (134, .aload_n 0, 1), (135, .aload_n 0, 1)] := dkf (by decide +kernel)
theorem dX4_walk_123 : decode cX4_walk 123 = .ok (.iload_n 2, 1) := dkg_X4_24.1
theorem dX4_walk_124 : decode cX4_walk 124 = .ok (.iload 5, 2) := dkg_X4_24.2.1
theorem dX4_walk_126 : decode cX4_walk 126 = .ok (.iastore, 1) := dkg_X4_24.2.2.1
theorem dX4_walk_127 : decode cX4_walk 127 = .ok (.aload_n 0, 1) := dkg_X4_24.2.2.2.1
theorem dX4_walk_128 : decode cX4_walk 128 = .ok (.getfield 15, 3) := dkg_X4_24.2.2.2.2.1
theorem dX4_walk_131 : decode cX4_walk 131 = .ok (.iload_n 2, 1) := dkg_X4_24.2.2.2.2.2.1
theorem dX4_walk_132 : decode cX4_walk 132 = .ok (.iconst 1, 1) := dkg_X4_24.2.2.2.2.2.2.1
theorem dX4_walk_133 : decode cX4_walk 133 = .ok (.iadd, 1) := dkg_X4_24.2.2.2.2.2.2.2.1
theorem dX4_walk_134 : decode cX4_walk 134 = .ok (.aload_n 0, 1) := dkg_X4_24.2.2.2.2.2.2.2.2.1
theorem dX4_walk_135 : decode cX4_walk 135 = .ok (.aload_n 0, 1) := dkg_X4_24.2.2.2.2.2.2.2.2.2.1
theorem dkg_X4_25 : dkp cX4_walk [(136, .getfield 15, 3), (139, .iload_n 2, 1), (140, .iaload, 1), (141, .iload 5, 2), (143, .invokevirtual 92, 3), (146, .iastore, 1), (147, .aload_n 0, 1), (148, .getfield 19, 3), (151, .iload_n 2, 1), (152, .iconst 1, 1)] := dkf (by decide +kernel)
theorem dX4_walk_136 : decode cX4_walk 136 = .ok (.getfield 15, 3) := dkg_X4_25.1
theorem dX4_walk_139 : decode cX4_walk 139 = .ok (.iload_n 2, 1) := dkg_X4_25.2.1
theorem dX4_walk_140 : decode cX4_walk 140 = .ok (.iaload, 1) := dkg_X4_25.2.2.1
theorem dX4_walk_141 : decode cX4_walk 141 = .ok (.iload 5, 2) := dkg_X4_25.2.2.2.1
theorem dX4_walk_143 : decode cX4_walk 143 = .ok (.invokevirtual 92, 3) := dkg_X4_25.2.2.2.2.1
theorem dX4_walk_146 : decode cX4_walk 146 = .ok (.iastore, 1) := dkg_X4_25.2.2.2.2.2.1
theorem dX4_walk_147 : decode cX4_walk 147 = .ok (.aload_n 0, 1) := dkg_X4_25.2.2.2.2.2.2.1
theorem dX4_walk_148 : decode cX4_walk 148 = .ok (.getfield 19, 3) := dkg_X4_25.2.2.2.2.2.2.2.1
theorem dX4_walk_151 : decode cX4_walk 151 = .ok (.iload_n 2, 1) := dkg_X4_25.2.2.2.2.2.2.2.2.1
theorem dX4_walk_152 : decode cX4_walk 152 = .ok (.iconst 1, 1) := dkg_X4_25.2.2.2.2.2.2.2.2.2.1
theorem dkg_X4_26 : dkp cX4_walk [(153, .iadd, 1), (154, .iconst (-1), 1), (155, .iastore, 1), (156, .iinc 2 1, 3), (159, .iinc 3 1, 3), (162, .goto (-144), 3), (165, .return_, 1)] := dkf (by decide +kernel)
theorem dX4_walk_153 : decode cX4_walk 153 = .ok (.iadd, 1) := dkg_X4_26.1
theorem dX4_walk_154 : decode cX4_walk 154 = .ok (.iconst (-1), 1) := dkg_X4_26.2.1
theorem dX4_walk_155 : decode cX4_walk 155 = .ok (.iastore, 1) := dkg_X4_26.2.2.1
theorem dX4_walk_156 : decode cX4_walk 156 = .ok (.iinc 2 1, 3) := dkg_X4_26.2.2.2.1
theorem dX4_walk_159 : decode cX4_walk 159 = .ok (.iinc 3 1, 3) := dkg_X4_26.2.2.2.2.1
theorem dX4_walk_162 : decode cX4_walk 162 = .ok (.goto (-144), 3) := dkg_X4_26.2.2.2.2.2.1
theorem dX4_walk_165 : decode cX4_walk 165 = .ok (.return_, 1) := dkg_X4_26.2.2.2.2.2.2.1
theorem dkg_X4_27 : dkp cX4_nextChoice [(0, .aload_n 0, 1), (1, .getfield 52, 3), (4, .iload_n 1, 1), (5, .iconst 1, 1), (6, .iand, 1), (7, .ifCond .eq 7, 3), (10, .iconst 1, 1), (11, .goto 4, 3), (14, .iconst 0, 1), (15, .invokevirtual 95, 3)] := dkf (by decide +kernel)
theorem dX4_nextChoice_0 : decode cX4_nextChoice 0 = .ok (.aload_n 0, 1) := dkg_X4_27.1
theorem dX4_nextChoice_1 : decode cX4_nextChoice 1 = .ok (.getfield 52, 3) := dkg_X4_27.2.1
theorem dX4_nextChoice_4 : decode cX4_nextChoice 4 = .ok (.iload_n 1, 1) := dkg_X4_27.2.2.1
theorem dX4_nextChoice_5 : decode cX4_nextChoice 5 = .ok (.iconst 1, 1) := dkg_X4_27.2.2.2.1
theorem dX4_nextChoice_6 : decode cX4_nextChoice 6 = .ok (.iand, 1) := dkg_X4_27.2.2.2.2.1
theorem dX4_nextChoice_7 : decode cX4_nextChoice 7 = .ok (.ifCond .eq 7, 3) := dkg_X4_27.2.2.2.2.2.1
theorem dX4_nextChoice_10 : decode cX4_nextChoice 10 = .ok (.iconst 1, 1) := dkg_X4_27.2.2.2.2.2.2.1
theorem dX4_nextChoice_11 : decode cX4_nextChoice 11 = .ok (.goto 4, 3) := dkg_X4_27.2.2.2.2.2.2.2.1
theorem dX4_nextChoice_14 : decode cX4_nextChoice 14 = .ok (.iconst 0, 1) := dkg_X4_27.2.2.2.2.2.2.2.2.1
theorem dX4_nextChoice_15 : decode cX4_nextChoice 15 = .ok (.invokevirtual 95, 3) := dkg_X4_27.2.2.2.2.2.2.2.2.2.1
theorem dkg_X4_28 : dkp cX4_nextChoice [(18, .invokevirtual 101, 3), (21, .istore_n 3, 1), (22, .iload_n 2, 1), (23, .istore 4, 2), (25, .iload 4, 2), (27, .iload_n 3, 1), (28, .if_icmp .gt 36, 3), (31, .aload_n 0, 1), (32, .iload_n 1, 1), (33, .iload 4, 2)] := dkf (by decide +kernel)
theorem dX4_nextChoice_18 : decode cX4_nextChoice 18 = .ok (.invokevirtual 101, 3) := dkg_X4_28.1
theorem dX4_nextChoice_21 : decode cX4_nextChoice 21 = .ok (.istore_n 3, 1) := dkg_X4_28.2.1
theorem dX4_nextChoice_22 : decode cX4_nextChoice 22 = .ok (.iload_n 2, 1) := dkg_X4_28.2.2.1
theorem dX4_nextChoice_23 : decode cX4_nextChoice 23 = .ok (.istore 4, 2) := dkg_X4_28.2.2.2.1
theorem dX4_nextChoice_25 : decode cX4_nextChoice 25 = .ok (.iload 4, 2) := dkg_X4_28.2.2.2.2.1
theorem dX4_nextChoice_27 : decode cX4_nextChoice 27 = .ok (.iload_n 3, 1) := dkg_X4_28.2.2.2.2.2.1
theorem dX4_nextChoice_28 : decode cX4_nextChoice 28 = .ok (.if_icmp .gt 36, 3) := dkg_X4_28.2.2.2.2.2.2.1
theorem dX4_nextChoice_31 : decode cX4_nextChoice 31 = .ok (.aload_n 0, 1) := dkg_X4_28.2.2.2.2.2.2.2.1
theorem dX4_nextChoice_32 : decode cX4_nextChoice 32 = .ok (.iload_n 1, 1) := dkg_X4_28.2.2.2.2.2.2.2.2.1
theorem dX4_nextChoice_33 : decode cX4_nextChoice 33 = .ok (.iload 4, 2) := dkg_X4_28.2.2.2.2.2.2.2.2.2.1
theorem dkg_X4_29 : dkp cX4_nextChoice [(35, .invokevirtual 92, 3), (38, .istore 5, 2), (40, .iload 5, 2), (42, .ifCond .lt 16, 3), (45, .aload_n 0, 1), (46, .getfield 9, 3), (49, .iload 5, 2), (51, .baload, 1), (52, .ifCond .eq 6, 3), (55, .iload 4, 2)] := dkf (by decide +kernel)
theorem dX4_nextChoice_35 : decode cX4_nextChoice 35 = .ok (.invokevirtual 92, 3) := dkg_X4_29.1
theorem dX4_nextChoice_38 : decode cX4_nextChoice 38 = .ok (.istore 5, 2) := dkg_X4_29.2.1
theorem dX4_nextChoice_40 : decode cX4_nextChoice 40 = .ok (.iload 5, 2) := dkg_X4_29.2.2.1
theorem dX4_nextChoice_42 : decode cX4_nextChoice 42 = .ok (.ifCond .lt 16, 3) := dkg_X4_29.2.2.2.1
theorem dX4_nextChoice_45 : decode cX4_nextChoice 45 = .ok (.aload_n 0, 1) := dkg_X4_29.2.2.2.2.1
theorem dX4_nextChoice_46 : decode cX4_nextChoice 46 = .ok (.getfield 9, 3) := dkg_X4_29.2.2.2.2.2.1
theorem dX4_nextChoice_49 : decode cX4_nextChoice 49 = .ok (.iload 5, 2) := dkg_X4_29.2.2.2.2.2.2.1
theorem dX4_nextChoice_51 : decode cX4_nextChoice 51 = .ok (.baload, 1) := dkg_X4_29.2.2.2.2.2.2.2.1
theorem dX4_nextChoice_52 : decode cX4_nextChoice 52 = .ok (.ifCond .eq 6, 3) := dkg_X4_29.2.2.2.2.2.2.2.2.1
theorem dX4_nextChoice_55 : decode cX4_nextChoice 55 = .ok (.iload 4, 2) := dkg_X4_29.2.2.2.2.2.2.2.2.2.1
theorem dkg_X4_30 : dkp cX4_nextChoice [(57, .ireturn, 1), (58, .iinc 4 1, 3), (61, .goto (-36), 3), (64, .iconst (-1), 1), (65, .ireturn, 1)] := dkf (by decide +kernel)
theorem dX4_nextChoice_57 : decode cX4_nextChoice 57 = .ok (.ireturn, 1) := dkg_X4_30.1
theorem dX4_nextChoice_58 : decode cX4_nextChoice 58 = .ok (.iinc 4 1, 3) := dkg_X4_30.2.1
theorem dX4_nextChoice_61 : decode cX4_nextChoice 61 = .ok (.goto (-36), 3) := dkg_X4_30.2.2.1
theorem dX4_nextChoice_64 : decode cX4_nextChoice 64 = .ok (.iconst (-1), 1) := dkg_X4_30.2.2.2.1
theorem dX4_nextChoice_65 : decode cX4_nextChoice 65 = .ok (.ireturn, 1) := dkg_X4_30.2.2.2.2.1
theorem dkg_X4_31 : dkp cX4_nodeBehind [(0, .iload_n 1, 1), (1, .iconst 4, 1), (2, .idiv, 1), (3, .istore_n 3, 1), (4, .iload_n 1, 1), (5, .iconst 2, 1), (6, .iand, 1), (7, .ifCond .eq 7, 3), (10, .iconst 1, 1), (11, .goto 4, 3)] := dkf (by decide +kernel)
theorem dX4_nodeBehind_0 : decode cX4_nodeBehind 0 = .ok (.iload_n 1, 1) := dkg_X4_31.1
theorem dX4_nodeBehind_1 : decode cX4_nodeBehind 1 = .ok (.iconst 4, 1) := dkg_X4_31.2.1
theorem dX4_nodeBehind_2 : decode cX4_nodeBehind 2 = .ok (.idiv, 1) := dkg_X4_31.2.2.1
theorem dX4_nodeBehind_3 : decode cX4_nodeBehind 3 = .ok (.istore_n 3, 1) := dkg_X4_31.2.2.2.1
theorem dX4_nodeBehind_4 : decode cX4_nodeBehind 4 = .ok (.iload_n 1, 1) := dkg_X4_31.2.2.2.2.1
theorem dX4_nodeBehind_5 : decode cX4_nodeBehind 5 = .ok (.iconst 2, 1) := dkg_X4_31.2.2.2.2.2.1
theorem dX4_nodeBehind_6 : decode cX4_nodeBehind 6 = .ok (.iand, 1) := dkg_X4_31.2.2.2.2.2.2.1
theorem dX4_nodeBehind_7 : decode cX4_nodeBehind 7 = .ok (.ifCond .eq 7, 3) := dkg_X4_31.2.2.2.2.2.2.2.1
theorem dX4_nodeBehind_10 : decode cX4_nodeBehind 10 = .ok (.iconst 1, 1) := dkg_X4_31.2.2.2.2.2.2.2.2.1
theorem dX4_nodeBehind_11 : decode cX4_nodeBehind 11 = .ok (.goto 4, 3) := dkg_X4_31.2.2.2.2.2.2.2.2.2.1
theorem dkg_X4_32 : dkp cX4_nodeBehind [(14, .iconst 0, 1), (15, .istore 4, 2), (17, .iload_n 2, 1), (18, .ifCond .gt 27, 3), (21, .iload 4, 2), (23, .ifCond .ne 12, 3), (26, .aload_n 0, 1), (27, .iconst 0, 1), (28, .iload_n 3, 1), (29, .invokevirtual 106, 3)] := dkf (by decide +kernel)
theorem dX4_nodeBehind_14 : decode cX4_nodeBehind 14 = .ok (.iconst 0, 1) := dkg_X4_32.1
theorem dX4_nodeBehind_15 : decode cX4_nodeBehind 15 = .ok (.istore 4, 2) := dkg_X4_32.2.1
theorem dX4_nodeBehind_17 : decode cX4_nodeBehind 17 = .ok (.iload_n 2, 1) := dkg_X4_32.2.2.1
theorem dX4_nodeBehind_18 : decode cX4_nodeBehind 18 = .ok (.ifCond .gt 27, 3) := dkg_X4_32.2.2.2.1
theorem dX4_nodeBehind_21 : decode cX4_nodeBehind 21 = .ok (.iload 4, 2) := dkg_X4_32.2.2.2.2.1
theorem dX4_nodeBehind_23 : decode cX4_nodeBehind 23 = .ok (.ifCond .ne 12, 3) := dkg_X4_32.2.2.2.2.2.1
theorem dX4_nodeBehind_26 : decode cX4_nodeBehind 26 = .ok (.aload_n 0, 1) := dkg_X4_32.2.2.2.2.2.2.1
theorem dX4_nodeBehind_27 : decode cX4_nodeBehind 27 = .ok (.iconst 0, 1) := dkg_X4_32.2.2.2.2.2.2.2.1
theorem dX4_nodeBehind_28 : decode cX4_nodeBehind 28 = .ok (.iload_n 3, 1) := dkg_X4_32.2.2.2.2.2.2.2.2.1
theorem dX4_nodeBehind_29 : decode cX4_nodeBehind 29 = .ok (.invokevirtual 106, 3) := dkg_X4_32.2.2.2.2.2.2.2.2.2.1
theorem dkg_X4_33 : dkp cX4_nodeBehind [(32, .ifCond .ne 7, 3), (35, .iconst (-1), 1), (36, .goto 8, 3), (39, .iload_n 3, 1), (40, .iconst 1, 1), (41, .iadd, 1), (42, .iconst 4, 1), (43, .imul, 1), (44, .ireturn, 1), (45, .aload_n 0, 1)] := dkf (by decide +kernel)
theorem dX4_nodeBehind_32 : decode cX4_nodeBehind 32 = .ok (.ifCond .ne 7, 3) := dkg_X4_33.1
theorem dX4_nodeBehind_35 : decode cX4_nodeBehind 35 = .ok (.iconst (-1), 1) := dkg_X4_33.2.1
theorem dX4_nodeBehind_36 : decode cX4_nodeBehind 36 = .ok (.goto 8, 3) := dkg_X4_33.2.2.1
theorem dX4_nodeBehind_39 : decode cX4_nodeBehind 39 = .ok (.iload_n 3, 1) := dkg_X4_33.2.2.2.1
theorem dX4_nodeBehind_40 : decode cX4_nodeBehind 40 = .ok (.iconst 1, 1) := dkg_X4_33.2.2.2.2.1
theorem dX4_nodeBehind_41 : decode cX4_nodeBehind 41 = .ok (.iadd, 1) := dkg_X4_33.2.2.2.2.2.1
theorem dX4_nodeBehind_42 : decode cX4_nodeBehind 42 = .ok (.iconst 4, 1) := dkg_X4_33.2.2.2.2.2.2.1
theorem dX4_nodeBehind_43 : decode cX4_nodeBehind 43 = .ok (.imul, 1) := dkg_X4_33.2.2.2.2.2.2.2.1
theorem dX4_nodeBehind_44 : decode cX4_nodeBehind 44 = .ok (.ireturn, 1) := dkg_X4_33.2.2.2.2.2.2.2.2.1
theorem dX4_nodeBehind_45 : decode cX4_nodeBehind 45 = .ok (.aload_n 0, 1) := dkg_X4_33.2.2.2.2.2.2.2.2.2.1
theorem dkg_X4_34 : dkp cX4_nodeBehind [(46, .getfield 52, 3), (49, .iload_n 1, 1), (50, .iconst 1, 1), (51, .iand, 1), (52, .ifCond .eq 7, 3), (55, .iconst 1, 1), (56, .goto 4, 3), (59, .iconst 0, 1), (60, .invokevirtual 95, 3), (63, .iload_n 2, 1)] := dkf (by decide +kernel)
theorem dX4_nodeBehind_46 : decode cX4_nodeBehind 46 = .ok (.getfield 52, 3) := dkg_X4_34.1
theorem dX4_nodeBehind_49 : decode cX4_nodeBehind 49 = .ok (.iload_n 1, 1) := dkg_X4_34.2.1
theorem dX4_nodeBehind_50 : decode cX4_nodeBehind 50 = .ok (.iconst 1, 1) := dkg_X4_34.2.2.1
theorem dX4_nodeBehind_51 : decode cX4_nodeBehind 51 = .ok (.iand, 1) := dkg_X4_34.2.2.2.1
theorem dX4_nodeBehind_52 : decode cX4_nodeBehind 52 = .ok (.ifCond .eq 7, 3) := dkg_X4_34.2.2.2.2.1
theorem dX4_nodeBehind_55 : decode cX4_nodeBehind 55 = .ok (.iconst 1, 1) := dkg_X4_34.2.2.2.2.2.1
theorem dX4_nodeBehind_56 : decode cX4_nodeBehind 56 = .ok (.goto 4, 3) := dkg_X4_34.2.2.2.2.2.2.1
theorem dX4_nodeBehind_59 : decode cX4_nodeBehind 59 = .ok (.iconst 0, 1) := dkg_X4_34.2.2.2.2.2.2.2.1
theorem dX4_nodeBehind_60 : decode cX4_nodeBehind 60 = .ok (.invokevirtual 95, 3) := dkg_X4_34.2.2.2.2.2.2.2.2.1
theorem dX4_nodeBehind_63 : decode cX4_nodeBehind 63 = .ok (.iload_n 2, 1) := dkg_X4_34.2.2.2.2.2.2.2.2.2.1
theorem dkg_X4_35 : dkp cX4_nodeBehind [(64, .iconst 1, 1), (65, .isub, 1), (66, .invokevirtual 110, 3), (69, .checkcast 114, 3), (72, .astore 5, 2), (74, .aload_n 0, 1), (75, .aload 5, 2), (77, .iload_n 3, 1), (78, .invokevirtual 116, 3), (81, .ifCond .eq 16, 3)] := dkf (by decide +kernel)
theorem dX4_nodeBehind_64 : decode cX4_nodeBehind 64 = .ok (.iconst 1, 1) := dkg_X4_35.1
theorem dX4_nodeBehind_65 : decode cX4_nodeBehind 65 = .ok (.isub, 1) := dkg_X4_35.2.1
theorem dX4_nodeBehind_66 : decode cX4_nodeBehind 66 = .ok (.invokevirtual 110, 3) := dkg_X4_35.2.2.1
theorem dX4_nodeBehind_69 : decode cX4_nodeBehind 69 = .ok (.checkcast 114, 3) := dkg_X4_35.2.2.2.1
theorem dX4_nodeBehind_72 : decode cX4_nodeBehind 72 = .ok (.astore 5, 2) := dkg_X4_35.2.2.2.2.1
theorem dX4_nodeBehind_74 : decode cX4_nodeBehind 74 = .ok (.aload_n 0, 1) := dkg_X4_35.2.2.2.2.2.1
theorem dX4_nodeBehind_75 : decode cX4_nodeBehind 75 = .ok (.aload 5, 2) := dkg_X4_35.2.2.2.2.2.2.1
theorem dX4_nodeBehind_77 : decode cX4_nodeBehind 77 = .ok (.iload_n 3, 1) := dkg_X4_35.2.2.2.2.2.2.2.1
theorem dX4_nodeBehind_78 : decode cX4_nodeBehind 78 = .ok (.invokevirtual 116, 3) := dkg_X4_35.2.2.2.2.2.2.2.2.1
theorem dX4_nodeBehind_81 : decode cX4_nodeBehind 81 = .ok (.ifCond .eq 16, 3) := dkg_X4_35.2.2.2.2.2.2.2.2.2.1
theorem dkg_X4_36 : dkp cX4_nodeBehind [(84, .iload 4, 2), (86, .ifCond .eq 13, 3), (89, .aload 5, 2), (91, .invokevirtual 120, 3), (94, .ifCond .ne 5, 3), (97, .iconst (-1), 1), (98, .ireturn, 1), (99, .iload_n 1, 1), (100, .iconst 1, 1), (101, .iand, 1)] := dkf (by decide +kernel)
theorem dX4_nodeBehind_84 : decode cX4_nodeBehind 84 = .ok (.iload 4, 2) := dkg_X4_36.1
theorem dX4_nodeBehind_86 : decode cX4_nodeBehind 86 = .ok (.ifCond .eq 13, 3) := dkg_X4_36.2.1
theorem dX4_nodeBehind_89 : decode cX4_nodeBehind 89 = .ok (.aload 5, 2) := dkg_X4_36.2.2.1
theorem dX4_nodeBehind_91 : decode cX4_nodeBehind 91 = .ok (.invokevirtual 120, 3) := dkg_X4_36.2.2.2.1
theorem dX4_nodeBehind_94 : decode cX4_nodeBehind 94 = .ok (.ifCond .ne 5, 3) := dkg_X4_36.2.2.2.2.1
theorem dX4_nodeBehind_97 : decode cX4_nodeBehind 97 = .ok (.iconst (-1), 1) := dkg_X4_36.2.2.2.2.2.1
theorem dX4_nodeBehind_98 : decode cX4_nodeBehind 98 = .ok (.ireturn, 1) := dkg_X4_36.2.2.2.2.2.2.1
theorem dX4_nodeBehind_99 : decode cX4_nodeBehind 99 = .ok (.iload_n 1, 1) := dkg_X4_36.2.2.2.2.2.2.2.1
theorem dX4_nodeBehind_100 : decode cX4_nodeBehind 100 = .ok (.iconst 1, 1) := dkg_X4_36.2.2.2.2.2.2.2.2.1
theorem dX4_nodeBehind_101 : decode cX4_nodeBehind 101 = .ok (.iand, 1) := dkg_X4_36.2.2.2.2.2.2.2.2.2.1
theorem dkg_X4_37 : dkp cX4_nodeBehind [(102, .istore 6, 2), (104, .aload 5, 2), (106, .getfield 124, 3), (140, .iload 6, 2), (142, .iconst 2, 1), (143, .ior, 1), (144, .istore 6, 2), (146, .goto 15, 3), (149, .iconst 1, 1), (150, .istore 6, 2)] := dkf (by decide +kernel)
theorem dX4_nodeBehind_102 : decode cX4_nodeBehind 102 = .ok (.istore 6, 2) := dkg_X4_37.1
theorem dX4_nodeBehind_104 : decode cX4_nodeBehind 104 = .ok (.aload 5, 2) := dkg_X4_37.2.1
theorem dX4_nodeBehind_106 : decode cX4_nodeBehind 106 = .ok (.getfield 124, 3) := dkg_X4_37.2.2.1
theorem dX4_nodeBehind_140 : decode cX4_nodeBehind 140 = .ok (.iload 6, 2) := dkg_X4_37.2.2.2.1
theorem dX4_nodeBehind_142 : decode cX4_nodeBehind 142 = .ok (.iconst 2, 1) := dkg_X4_37.2.2.2.2.1
theorem dX4_nodeBehind_143 : decode cX4_nodeBehind 143 = .ok (.ior, 1) := dkg_X4_37.2.2.2.2.2.1
theorem dX4_nodeBehind_144 : decode cX4_nodeBehind 144 = .ok (.istore 6, 2) := dkg_X4_37.2.2.2.2.2.2.1
theorem dX4_nodeBehind_146 : decode cX4_nodeBehind 146 = .ok (.goto 15, 3) := dkg_X4_37.2.2.2.2.2.2.2.1
theorem dX4_nodeBehind_149 : decode cX4_nodeBehind 149 = .ok (.iconst 1, 1) := dkg_X4_37.2.2.2.2.2.2.2.2.1
theorem dX4_nodeBehind_150 : decode cX4_nodeBehind 150 = .ok (.istore 6, 2) := dkg_X4_37.2.2.2.2.2.2.2.2.2.1
theorem dkg_X4_38 : dkp cX4_nodeBehind [(152, .goto 9, 3), (155, .iconst 0, 1), (156, .istore 6, 2), (158, .goto 3, 3), (161, .iload_n 3, 1), (162, .aload 5, 2), (164, .getfield 127, 3), (167, .arraylength, 1), (168, .iadd, 1), (169, .iconst 4, 1)] := dkf (by decide +kernel)
theorem dX4_nodeBehind_152 : decode cX4_nodeBehind 152 = .ok (.goto 9, 3) := dkg_X4_38.1
theorem dX4_nodeBehind_155 : decode cX4_nodeBehind 155 = .ok (.iconst 0, 1) := dkg_X4_38.2.1
theorem dX4_nodeBehind_156 : decode cX4_nodeBehind 156 = .ok (.istore 6, 2) := dkg_X4_38.2.2.1
theorem dX4_nodeBehind_158 : decode cX4_nodeBehind 158 = .ok (.goto 3, 3) := dkg_X4_38.2.2.2.1
theorem dX4_nodeBehind_161 : decode cX4_nodeBehind 161 = .ok (.iload_n 3, 1) := dkg_X4_38.2.2.2.2.1
theorem dX4_nodeBehind_162 : decode cX4_nodeBehind 162 = .ok (.aload 5, 2) := dkg_X4_38.2.2.2.2.2.1
theorem dX4_nodeBehind_164 : decode cX4_nodeBehind 164 = .ok (.getfield 127, 3) := dkg_X4_38.2.2.2.2.2.2.1
theorem dX4_nodeBehind_167 : decode cX4_nodeBehind 167 = .ok (.arraylength, 1) := dkg_X4_38.2.2.2.2.2.2.2.1
theorem dX4_nodeBehind_168 : decode cX4_nodeBehind 168 = .ok (.iadd, 1) := dkg_X4_38.2.2.2.2.2.2.2.2.1
theorem dX4_nodeBehind_169 : decode cX4_nodeBehind 169 = .ok (.iconst 4, 1) := dkg_X4_38.2.2.2.2.2.2.2.2.2.1
theorem dkg_X4_39 : dkp cX4_nodeBehind [(170, .imul, 1), (171, .iload 6, 2), (173, .iadd, 1), (174, .ireturn, 1)] := dkf (by decide +kernel)
theorem dX4_nodeBehind_170 : decode cX4_nodeBehind 170 = .ok (.imul, 1) := dkg_X4_39.1
theorem dX4_nodeBehind_171 : decode cX4_nodeBehind 171 = .ok (.iload 6, 2) := dkg_X4_39.2.1
theorem dX4_nodeBehind_173 : decode cX4_nodeBehind 173 = .ok (.iadd, 1) := dkg_X4_39.2.2.1
theorem dX4_nodeBehind_174 : decode cX4_nodeBehind 174 = .ok (.ireturn, 1) := dkg_X4_39.2.2.2.1
theorem dkg_X4_40 : dkp cX4_nodeBehind [(109, .tableswitch 52 0 3 #[31, 52, 40, 46], 31)] := dkq (by decide +kernel)
theorem dX4_nodeBehind_109 : decode cX4_nodeBehind 109 = .ok (.tableswitch 52 0 3 #[31, 52, 40, 46], 31) := dkg_X4_40.1
theorem dkg_X4_41 : dkp cX4_looksLike [(0, .iload_n 2, 1), (1, .aload_n 0, 1), (2, .getfield 46, 3), (5, .if_icmp .ge 23, 3), (8, .iload_n 1, 1), (9, .aload_n 0, 1), (10, .getfield 43, 3), (13, .iload_n 2, 1), (14, .iaload, 1), (15, .ixor, 1)] := dkf (by decide +kernel)
theorem dX4_looksLike_0 : decode cX4_looksLike 0 = .ok (.iload_n 2, 1) := dkg_X4_41.1
theorem dX4_looksLike_1 : decode cX4_looksLike 1 = .ok (.aload_n 0, 1) := dkg_X4_41.2.1
theorem dX4_looksLike_2 : decode cX4_looksLike 2 = .ok (.getfield 46, 3) := dkg_X4_41.2.2.1
theorem dX4_looksLike_5 : decode cX4_looksLike 5 = .ok (.if_icmp .ge 23, 3) := dkg_X4_41.2.2.2.1
theorem dX4_looksLike_8 : decode cX4_looksLike 8 = .ok (.iload_n 1, 1) := dkg_X4_41.2.2.2.2.1
theorem dX4_looksLike_9 : decode cX4_looksLike 9 = .ok (.aload_n 0, 1) := dkg_X4_41.2.2.2.2.2.1
theorem dX4_looksLike_10 : decode cX4_looksLike 10 = .ok (.getfield 43, 3) := dkg_X4_41.2.2.2.2.2.2.1
theorem dX4_looksLike_13 : decode cX4_looksLike 13 = .ok (.iload_n 2, 1) := dkg_X4_41.2.2.2.2.2.2.2.1
theorem dX4_looksLike_14 : decode cX4_looksLike 14 = .ok (.iaload, 1) := dkg_X4_41.2.2.2.2.2.2.2.2.1
theorem dX4_looksLike_15 : decode cX4_looksLike 15 = .ok (.ixor, 1) := dkg_X4_41.2.2.2.2.2.2.2.2.2.1
theorem dkg_X4_42 : dkp cX4_looksLike [(16, .aload_n 0, 1), (17, .getfield 49, 3), (20, .iand, 1), (21, .ifCond .ne 7, 3), (24, .iconst 1, 1), (25, .goto 4, 3), (28, .iconst 0, 1), (29, .ireturn, 1)] := dkf (by decide +kernel)
theorem dX4_looksLike_16 : decode cX4_looksLike 16 = .ok (.aload_n 0, 1) := dkg_X4_42.1
theorem dX4_looksLike_17 : decode cX4_looksLike 17 = .ok (.getfield 49, 3) := dkg_X4_42.2.1
theorem dX4_looksLike_20 : decode cX4_looksLike 20 = .ok (.iand, 1) := dkg_X4_42.2.2.1
theorem dX4_looksLike_21 : decode cX4_looksLike 21 = .ok (.ifCond .ne 7, 3) := dkg_X4_42.2.2.2.1
theorem dX4_looksLike_24 : decode cX4_looksLike 24 = .ok (.iconst 1, 1) := dkg_X4_42.2.2.2.2.1
theorem dX4_looksLike_25 : decode cX4_looksLike 25 = .ok (.goto 4, 3) := dkg_X4_42.2.2.2.2.2.1
theorem dX4_looksLike_28 : decode cX4_looksLike 28 = .ok (.iconst 0, 1) := dkg_X4_42.2.2.2.2.2.2.1
theorem dX4_looksLike_29 : decode cX4_looksLike 29 = .ok (.ireturn, 1) := dkg_X4_42.2.2.2.2.2.2.2.1
theorem dkg_X4_43 : dkp cX4_looksLikeRow [(0, .iconst 0, 1), (1, .istore_n 3, 1), (2, .iload_n 3, 1), (3, .aload_n 1, 1), (4, .getfield 127, 3), (7, .arraylength, 1), (8, .if_icmp .ge 27, 3), (11, .aload_n 0, 1), (12, .aload_n 1, 1), (13, .getfield 127, 3)] := dkf (by decide +kernel)
theorem dX4_looksLikeRow_0 : decode cX4_looksLikeRow 0 = .ok (.iconst 0, 1) := dkg_X4_43.1
theorem dX4_looksLikeRow_1 : decode cX4_looksLikeRow 1 = .ok (.istore_n 3, 1) := dkg_X4_43.2.1
theorem dX4_looksLikeRow_2 : decode cX4_looksLikeRow 2 = .ok (.iload_n 3, 1) := dkg_X4_43.2.2.1
theorem dX4_looksLikeRow_3 : decode cX4_looksLikeRow 3 = .ok (.aload_n 1, 1) := dkg_X4_43.2.2.2.1
theorem dX4_looksLikeRow_4 : decode cX4_looksLikeRow 4 = .ok (.getfield 127, 3) := dkg_X4_43.2.2.2.2.1
theorem dX4_looksLikeRow_7 : decode cX4_looksLikeRow 7 = .ok (.arraylength, 1) := dkg_X4_43.2.2.2.2.2.1
theorem dX4_looksLikeRow_8 : decode cX4_looksLikeRow 8 = .ok (.if_icmp .ge 27, 3) := dkg_X4_43.2.2.2.2.2.2.1
theorem dX4_looksLikeRow_11 : decode cX4_looksLikeRow 11 = .ok (.aload_n 0, 1) := dkg_X4_43.2.2.2.2.2.2.2.1
theorem dX4_looksLikeRow_12 : decode cX4_looksLikeRow 12 = .ok (.aload_n 1, 1) := dkg_X4_43.2.2.2.2.2.2.2.2.1
theorem dX4_looksLikeRow_13 : decode cX4_looksLikeRow 13 = .ok (.getfield 127, 3) := dkg_X4_43.2.2.2.2.2.2.2.2.2.1
theorem dkg_X4_44 : dkp cX4_looksLikeRow [(16, .iload_n 3, 1), (17, .iaload, 1), (18, .iload_n 2, 1), (19, .iload_n 3, 1), (20, .iadd, 1), (21, .invokevirtual 106, 3), (24, .ifCond .ne 5, 3), (27, .iconst 0, 1), (28, .ireturn, 1), (29, .iinc 3 1, 3)] := dkf (by decide +kernel)
theorem dX4_looksLikeRow_16 : decode cX4_looksLikeRow 16 = .ok (.iload_n 3, 1) := dkg_X4_44.1
theorem dX4_looksLikeRow_17 : decode cX4_looksLikeRow 17 = .ok (.iaload, 1) := dkg_X4_44.2.1
theorem dX4_looksLikeRow_18 : decode cX4_looksLikeRow 18 = .ok (.iload_n 2, 1) := dkg_X4_44.2.2.1
theorem dX4_looksLikeRow_19 : decode cX4_looksLikeRow 19 = .ok (.iload_n 3, 1) := dkg_X4_44.2.2.2.1
theorem dX4_looksLikeRow_20 : decode cX4_looksLikeRow 20 = .ok (.iadd, 1) := dkg_X4_44.2.2.2.2.1
theorem dX4_looksLikeRow_21 : decode cX4_looksLikeRow 21 = .ok (.invokevirtual 106, 3) := dkg_X4_44.2.2.2.2.2.1
theorem dX4_looksLikeRow_24 : decode cX4_looksLikeRow 24 = .ok (.ifCond .ne 5, 3) := dkg_X4_44.2.2.2.2.2.2.1
theorem dX4_looksLikeRow_27 : decode cX4_looksLikeRow 27 = .ok (.iconst 0, 1) := dkg_X4_44.2.2.2.2.2.2.2.1
theorem dX4_looksLikeRow_28 : decode cX4_looksLikeRow 28 = .ok (.ireturn, 1) := dkg_X4_44.2.2.2.2.2.2.2.2.1
theorem dX4_looksLikeRow_29 : decode cX4_looksLikeRow 29 = .ok (.iinc 3 1, 3) := dkg_X4_44.2.2.2.2.2.2.2.2.2.1
theorem dkg_X4_45 : dkp cX4_looksLikeRow [(32, .goto (-30), 3), (35, .iconst 1, 1), (36, .ireturn, 1)] := dkf (by decide +kernel)
theorem dX4_looksLikeRow_32 : decode cX4_looksLikeRow 32 = .ok (.goto (-30), 3) := dkg_X4_45.1
theorem dX4_looksLikeRow_35 : decode cX4_looksLikeRow 35 = .ok (.iconst 1, 1) := dkg_X4_45.2.1
theorem dX4_looksLikeRow_36 : decode cX4_looksLikeRow 36 = .ok (.ireturn, 1) := dkg_X4_45.2.2.1
theorem dkg_X4_46 : dkp cX4_write [(0, .iconst 0, 1), (1, .istore_n 2, 1), (2, .iconst 0, 1), (3, .istore_n 3, 1), (4, .iload_n 3, 1), (5, .iload_n 1, 1), (6, .if_icmp .ge 134, 3), (9, .aload_n 0, 1), (10, .getfield 19, 3), (13, .iload_n 3, 1)] := dkf (by decide +kernel)
theorem dX4_write_0 : decode cX4_write 0 = .ok (.iconst 0, 1) := dkg_X4_46.1
theorem dX4_write_1 : decode cX4_write 1 = .ok (.istore_n 2, 1) := dkg_X4_46.2.1
theorem dX4_write_2 : decode cX4_write 2 = .ok (.iconst 0, 1) := dkg_X4_46.2.2.1
theorem dX4_write_3 : decode cX4_write 3 = .ok (.istore_n 3, 1) := dkg_X4_46.2.2.2.1
theorem dX4_write_4 : decode cX4_write 4 = .ok (.iload_n 3, 1) := dkg_X4_46.2.2.2.2.1
theorem dX4_write_5 : decode cX4_write 5 = .ok (.iload_n 1, 1) := dkg_X4_46.2.2.2.2.2.1
theorem dX4_write_6 : decode cX4_write 6 = .ok (.if_icmp .ge 134, 3) := dkg_X4_46.2.2.2.2.2.2.1
theorem dX4_write_9 : decode cX4_write 9 = .ok (.aload_n 0, 1) := dkg_X4_46.2.2.2.2.2.2.2.1
theorem dX4_write_10 : decode cX4_write 10 = .ok (.getfield 19, 3) := dkg_X4_46.2.2.2.2.2.2.2.2.1
theorem dX4_write_13 : decode cX4_write 13 = .ok (.iload_n 3, 1) := dkg_X4_46.2.2.2.2.2.2.2.2.2.1
theorem dkg_X4_47 : dkp cX4_write [(14, .iaload, 1), (15, .ifCond .ne 15, 3), (18, .aload_n 0, 1), (19, .getfield 31, 3), (22, .bipush 32, 2), (24, .invokevirtual 128, 3), (27, .goto 107, 3), (30, .aload_n 0, 1), (31, .getfield 52, 3), (34, .aload_n 0, 1)] := dkf (by decide +kernel)
theorem dX4_write_14 : decode cX4_write 14 = .ok (.iaload, 1) := dkg_X4_47.1
theorem dX4_write_15 : decode cX4_write 15 = .ok (.ifCond .ne 15, 3) := dkg_X4_47.2.1
theorem dX4_write_18 : decode cX4_write 18 = .ok (.aload_n 0, 1) := dkg_X4_47.2.2.1
theorem dX4_write_19 : decode cX4_write 19 = .ok (.getfield 31, 3) := dkg_X4_47.2.2.2.1
theorem dX4_write_22 : decode cX4_write 22 = .ok (.bipush 32, 2) := dkg_X4_47.2.2.2.2.1
theorem dX4_write_24 : decode cX4_write 24 = .ok (.invokevirtual 128, 3) := dkg_X4_47.2.2.2.2.2.1
theorem dX4_write_27 : decode cX4_write 27 = .ok (.goto 107, 3) := dkg_X4_47.2.2.2.2.2.2.1
theorem dX4_write_30 : decode cX4_write 30 = .ok (.aload_n 0, 1) := dkg_X4_47.2.2.2.2.2.2.2.1
theorem dX4_write_31 : decode cX4_write 31 = .ok (.getfield 52, 3) := dkg_X4_47.2.2.2.2.2.2.2.2.1
theorem dX4_write_34 : decode cX4_write 34 = .ok (.aload_n 0, 1) := dkg_X4_47.2.2.2.2.2.2.2.2.2.1
theorem dkg_X4_48 : dkp cX4_write [(35, .getfield 15, 3), (38, .iload_n 3, 1), (39, .iaload, 1), (40, .iconst 1, 1), (41, .iand, 1), (42, .ifCond .eq 7, 3), (45, .iconst 1, 1), (46, .goto 4, 3), (49, .iconst 0, 1), (50, .invokevirtual 95, 3)] := dkf (by decide +kernel)
theorem dX4_write_35 : decode cX4_write 35 = .ok (.getfield 15, 3) := dkg_X4_48.1
theorem dX4_write_38 : decode cX4_write 38 = .ok (.iload_n 3, 1) := dkg_X4_48.2.1
theorem dX4_write_39 : decode cX4_write 39 = .ok (.iaload, 1) := dkg_X4_48.2.2.1
theorem dX4_write_40 : decode cX4_write 40 = .ok (.iconst 1, 1) := dkg_X4_48.2.2.2.1
theorem dX4_write_41 : decode cX4_write 41 = .ok (.iand, 1) := dkg_X4_48.2.2.2.2.1
theorem dX4_write_42 : decode cX4_write 42 = .ok (.ifCond .eq 7, 3) := dkg_X4_48.2.2.2.2.2.1
theorem dX4_write_45 : decode cX4_write 45 = .ok (.iconst 1, 1) := dkg_X4_48.2.2.2.2.2.2.1
theorem dX4_write_46 : decode cX4_write 46 = .ok (.goto 4, 3) := dkg_X4_48.2.2.2.2.2.2.2.1
theorem dX4_write_49 : decode cX4_write 49 = .ok (.iconst 0, 1) := dkg_X4_48.2.2.2.2.2.2.2.2.1
theorem dX4_write_50 : decode cX4_write 50 = .ok (.invokevirtual 95, 3) := dkg_X4_48.2.2.2.2.2.2.2.2.2.1
theorem dkg_X4_49 : dkp cX4_write [(53, .aload_n 0, 1), (54, .getfield 19, 3), (57, .iload_n 3, 1), (58, .iaload, 1), (59, .iconst 1, 1), (60, .isub, 1), (61, .invokevirtual 110, 3), (64, .checkcast 114, 3), (67, .astore 4, 2), (69, .aload 4, 2)] := dkf (by decide +kernel)
theorem dX4_write_53 : decode cX4_write 53 = .ok (.aload_n 0, 1) := dkg_X4_49.1
theorem dX4_write_54 : decode cX4_write 54 = .ok (.getfield 19, 3) := dkg_X4_49.2.1
theorem dX4_write_57 : decode cX4_write 57 = .ok (.iload_n 3, 1) := dkg_X4_49.2.2.1
theorem dX4_write_58 : decode cX4_write 58 = .ok (.iaload, 1) := dkg_X4_49.2.2.2.1
theorem dX4_write_59 : decode cX4_write 59 = .ok (.iconst 1, 1) := dkg_X4_49.2.2.2.2.1
theorem dX4_write_60 : decode cX4_write 60 = .ok (.isub, 1) := dkg_X4_49.2.2.2.2.2.1
theorem dX4_write_61 : decode cX4_write 61 = .ok (.invokevirtual 110, 3) := dkg_X4_49.2.2.2.2.2.2.1
theorem dX4_write_64 : decode cX4_write 64 = .ok (.checkcast 114, 3) := dkg_X4_49.2.2.2.2.2.2.2.1
theorem dX4_write_67 : decode cX4_write 67 = .ok (.astore 4, 2) := dkg_X4_49.2.2.2.2.2.2.2.2.1
theorem dX4_write_69 : decode cX4_write 69 = .ok (.aload 4, 2) := dkg_X4_49.2.2.2.2.2.2.2.2.2.1
theorem dkg_X4_50 : dkp cX4_write [(71, .getfield 124, 3), (74, .iconst 2, 1), (75, .if_icmp .eq 12, 3), (78, .aload 4, 2), (80, .getfield 124, 3), (83, .iconst 3, 1), (84, .if_icmp .ne 26, 3), (87, .aload_n 0, 1), (88, .getfield 31, 3), (91, .aload 4, 2)] := dkf (by decide +kernel)
theorem dX4_write_71 : decode cX4_write 71 = .ok (.getfield 124, 3) := dkg_X4_50.1
theorem dX4_write_74 : decode cX4_write 74 = .ok (.iconst 2, 1) := dkg_X4_50.2.1
theorem dX4_write_75 : decode cX4_write 75 = .ok (.if_icmp .eq 12, 3) := dkg_X4_50.2.2.1
theorem dX4_write_78 : decode cX4_write 78 = .ok (.aload 4, 2) := dkg_X4_50.2.2.2.1
theorem dX4_write_80 : decode cX4_write 80 = .ok (.getfield 124, 3) := dkg_X4_50.2.2.2.2.1
theorem dX4_write_83 : decode cX4_write 83 = .ok (.iconst 3, 1) := dkg_X4_50.2.2.2.2.2.1
theorem dX4_write_84 : decode cX4_write 84 = .ok (.if_icmp .ne 26, 3) := dkg_X4_50.2.2.2.2.2.2.1
theorem dX4_write_87 : decode cX4_write 87 = .ok (.aload_n 0, 1) := dkg_X4_50.2.2.2.2.2.2.2.1
theorem dX4_write_88 : decode cX4_write 88 = .ok (.getfield 31, 3) := dkg_X4_50.2.2.2.2.2.2.2.2.1
theorem dX4_write_91 : decode cX4_write 91 = .ok (.aload 4, 2) := dkg_X4_50.2.2.2.2.2.2.2.2.2.1
theorem dkg_X4_51 : dkp cX4_write [(93, .getfield 124, 3), (96, .iconst 2, 1), (97, .if_icmp .ne 8, 3), (100, .bipush 60, 2), (102, .goto 5, 3), (105, .bipush 62, 2), (107, .invokevirtual 128, 3), (110, .aload 4, 2), (112, .aload_n 0, 1), (113, .getfield 31, 3)] := dkf (by decide +kernel)
theorem dX4_write_93 : decode cX4_write 93 = .ok (.getfield 124, 3) := dkg_X4_51.1
theorem dX4_write_96 : decode cX4_write 96 = .ok (.iconst 2, 1) := dkg_X4_51.2.1
theorem dX4_write_97 : decode cX4_write 97 = .ok (.if_icmp .ne 8, 3) := dkg_X4_51.2.2.1
theorem dX4_write_100 : decode cX4_write 100 = .ok (.bipush 60, 2) := dkg_X4_51.2.2.2.1
theorem dX4_write_102 : decode cX4_write 102 = .ok (.goto 5, 3) := dkg_X4_51.2.2.2.2.1
theorem dX4_write_105 : decode cX4_write 105 = .ok (.bipush 62, 2) := dkg_X4_51.2.2.2.2.2.1
theorem dX4_write_107 : decode cX4_write 107 = .ok (.invokevirtual 128, 3) := dkg_X4_51.2.2.2.2.2.2.1
theorem dX4_write_110 : decode cX4_write 110 = .ok (.aload 4, 2) := dkg_X4_51.2.2.2.2.2.2.2.1
theorem dX4_write_112 : decode cX4_write 112 = .ok (.aload_n 0, 1) := dkg_X4_51.2.2.2.2.2.2.2.2.1
theorem dX4_write_113 : decode cX4_write 113 = .ok (.getfield 31, 3) := dkg_X4_51.2.2.2.2.2.2.2.2.2.1
theorem dkg_X4_52 : dkp cX4_write [(116, .iload_n 2, 1), (117, .invokevirtual 131, 3), (120, .aload 4, 2), (122, .getfield 124, 3), (125, .ifCond .ne 7, 3), (128, .iconst 1, 1), (129, .goto 4, 3), (132, .iconst 0, 1), (133, .istore_n 2, 1), (134, .iinc 3 1, 3)] := dkf (by decide +kernel)
theorem dX4_write_116 : decode cX4_write 116 = .ok (.iload_n 2, 1) := dkg_X4_52.1
theorem dX4_write_117 : decode cX4_write 117 = .ok (.invokevirtual 131, 3) := dkg_X4_52.2.1
theorem dX4_write_120 : decode cX4_write 120 = .ok (.aload 4, 2) := dkg_X4_52.2.2.1
theorem dX4_write_122 : decode cX4_write 122 = .ok (.getfield 124, 3) := dkg_X4_52.2.2.2.1
theorem dX4_write_125 : decode cX4_write 125 = .ok (.ifCond .ne 7, 3) := dkg_X4_52.2.2.2.2.1
theorem dX4_write_128 : decode cX4_write 128 = .ok (.iconst 1, 1) := dkg_X4_52.2.2.2.2.2.1
theorem dX4_write_129 : decode cX4_write 129 = .ok (.goto 4, 3) := dkg_X4_52.2.2.2.2.2.2.1
theorem dX4_write_132 : decode cX4_write 132 = .ok (.iconst 0, 1) := dkg_X4_52.2.2.2.2.2.2.2.1
theorem dX4_write_133 : decode cX4_write 133 = .ok (.istore_n 2, 1) := dkg_X4_52.2.2.2.2.2.2.2.2.1
theorem dX4_write_134 : decode cX4_write 134 = .ok (.iinc 3 1, 3) := dkg_X4_52.2.2.2.2.2.2.2.2.2.1
theorem dkg_X4_53 : dkp cX4_write [(137, .goto (-133), 3), (140, .aload_n 0, 1), (141, .getfield 22, 3), (144, .aload_n 0, 1), (145, .getfield 35, 3), (148, .aload_n 0, 1), (149, .getfield 31, 3), (152, .getfield 135, 3), (155, .iastore, 1), (156, .aload_n 0, 1)] := dkf (by decide +kernel)
theorem dX4_write_137 : decode cX4_write 137 = .ok (.goto (-133), 3) := dkg_X4_53.1
theorem dX4_write_140 : decode cX4_write 140 = .ok (.aload_n 0, 1) := dkg_X4_53.2.1
theorem dX4_write_141 : decode cX4_write 141 = .ok (.getfield 22, 3) := dkg_X4_53.2.2.1
theorem dX4_write_144 : decode cX4_write 144 = .ok (.aload_n 0, 1) := dkg_X4_53.2.2.2.1
theorem dX4_write_145 : decode cX4_write 145 = .ok (.getfield 35, 3) := dkg_X4_53.2.2.2.2.1
theorem dX4_write_148 : decode cX4_write 148 = .ok (.aload_n 0, 1) := dkg_X4_53.2.2.2.2.2.1
theorem dX4_write_149 : decode cX4_write 149 = .ok (.getfield 31, 3) := dkg_X4_53.2.2.2.2.2.2.1
theorem dX4_write_152 : decode cX4_write 152 = .ok (.getfield 135, 3) := dkg_X4_53.2.2.2.2.2.2.2.1
theorem dX4_write_155 : decode cX4_write 155 = .ok (.iastore, 1) := dkg_X4_53.2.2.2.2.2.2.2.2.1
theorem dX4_write_156 : decode cX4_write 156 = .ok (.aload_n 0, 1) := dkg_X4_53.2.2.2.2.2.2.2.2.2.1
theorem dkg_X4_54 : dkp cX4_write [(157, .dup, 1), (158, .getfield 35, 3), (161, .iconst 1, 1), (162, .iadd, 1), (163, .putfield 35, 3), (166, .return_, 1)] := dkf (by decide +kernel)
theorem dX4_write_157 : decode cX4_write 157 = .ok (.dup, 1) := dkg_X4_54.1
theorem dX4_write_158 : decode cX4_write 158 = .ok (.getfield 35, 3) := dkg_X4_54.2.1
theorem dX4_write_161 : decode cX4_write 161 = .ok (.iconst 1, 1) := dkg_X4_54.2.2.1
theorem dX4_write_162 : decode cX4_write 162 = .ok (.iadd, 1) := dkg_X4_54.2.2.2.1
theorem dX4_write_163 : decode cX4_write 163 = .ok (.putfield 35, 3) := dkg_X4_54.2.2.2.2.1
theorem dX4_write_166 : decode cX4_write 166 = .ok (.return_, 1) := dkg_X4_54.2.2.2.2.2.1
