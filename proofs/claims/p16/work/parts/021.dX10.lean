theorem dkg_X10_0 : dkp cX10_init [(0, .aload_n 0, 1), (1, .invokespecial 3, 3), (4, .aload_n 0, 1), (5, .new 9, 3), (8, .dup, 1), (9, .invokespecial 11, 3), (12, .putfield 12, 3), (15, .aload_n 0, 1), (16, .new 9, 3), (19, .dup, 1)] := dkf (by decide +kernel)
theorem dX10_init_0 : decode cX10_init 0 = .ok (.aload_n 0, 1) := dkg_X10_0.1
theorem dX10_init_1 : decode cX10_init 1 = .ok (.invokespecial 3, 3) := dkg_X10_0.2.1
theorem dX10_init_4 : decode cX10_init 4 = .ok (.aload_n 0, 1) := dkg_X10_0.2.2.1
theorem dX10_init_5 : decode cX10_init 5 = .ok (.new 9, 3) := dkg_X10_0.2.2.2.1
theorem dX10_init_8 : decode cX10_init 8 = .ok (.dup, 1) := dkg_X10_0.2.2.2.2.1
theorem dX10_init_9 : decode cX10_init 9 = .ok (.invokespecial 11, 3) := dkg_X10_0.2.2.2.2.2.1
theorem dX10_init_12 : decode cX10_init 12 = .ok (.putfield 12, 3) := dkg_X10_0.2.2.2.2.2.2.1
theorem dX10_init_15 : decode cX10_init 15 = .ok (.aload_n 0, 1) := dkg_X10_0.2.2.2.2.2.2.2.1
theorem dX10_init_16 : decode cX10_init 16 = .ok (.new 9, 3) := dkg_X10_0.2.2.2.2.2.2.2.2.1
theorem dX10_init_19 : decode cX10_init 19 = .ok (.dup, 1) := dkg_X10_0.2.2.2.2.2.2.2.2.2.1
theorem dkg_X10_1 : dkp cX10_init [(20, .invokespecial 11, 3), (23, .putfield 18, 3), (26, .return_, 1)] := dkf (by decide +kernel)
theorem dX10_init_20 : decode cX10_init 20 = .ok (.invokespecial 11, 3) := dkg_X10_1.1
theorem dX10_init_23 : decode cX10_init 23 = .ok (.putfield 18, 3) := dkg_X10_1.2.1
theorem dX10_init_26 : decode cX10_init 26 = .ok (.return_, 1) := dkg_X10_1.2.2.1
theorem dkg_X10_2 : dkp cX10_isFull [(0, .aload_n 0, 1), (1, .getfield 12, 3), (4, .invokevirtual 21, 3), (7, .bipush 30, 2), (9, .if_icmp .lt 7, 3), (12, .iconst 1, 1), (13, .goto 4, 3), (16, .iconst 0, 1), (17, .ireturn, 1)] := dkf (by decide +kernel)
theorem dX10_isFull_0 : decode cX10_isFull 0 = .ok (.aload_n 0, 1) := dkg_X10_2.1
theorem dX10_isFull_1 : decode cX10_isFull 1 = .ok (.getfield 12, 3) := dkg_X10_2.2.1
theorem dX10_isFull_4 : decode cX10_isFull 4 = .ok (.invokevirtual 21, 3) := dkg_X10_2.2.2.1
theorem dX10_isFull_7 : decode cX10_isFull 7 = .ok (.bipush 30, 2) := dkg_X10_2.2.2.2.1
theorem dX10_isFull_9 : decode cX10_isFull 9 = .ok (.if_icmp .lt 7, 3) := dkg_X10_2.2.2.2.2.1
theorem dX10_isFull_12 : decode cX10_isFull 12 = .ok (.iconst 1, 1) := dkg_X10_2.2.2.2.2.2.1
theorem dX10_isFull_13 : decode cX10_isFull 13 = .ok (.goto 4, 3) := dkg_X10_2.2.2.2.2.2.2.1
theorem dX10_isFull_16 : decode cX10_isFull 16 = .ok (.iconst 0, 1) := dkg_X10_2.2.2.2.2.2.2.2.1
theorem dX10_isFull_17 : decode cX10_isFull 17 = .ok (.ireturn, 1) := dkg_X10_2.2.2.2.2.2.2.2.2.1
theorem dkg_X10_3 : dkp cX10_alive [(0, .iload_n 1, 1), (1, .ifCond .lt 14, 3), (4, .iload_n 1, 1), (5, .aload_n 0, 1), (6, .getfield 12, 3), (9, .invokevirtual 21, 3), (12, .if_icmp .lt 5, 3), (15, .aconst_null, 1), (16, .areturn, 1), (17, .aload_n 0, 1)] := dkf (by decide +kernel)
theorem dX10_alive_0 : decode cX10_alive 0 = .ok (.iload_n 1, 1) := dkg_X10_3.1
theorem dX10_alive_1 : decode cX10_alive 1 = .ok (.ifCond .lt 14, 3) := dkg_X10_3.2.1
theorem dX10_alive_4 : decode cX10_alive 4 = .ok (.iload_n 1, 1) := dkg_X10_3.2.2.1
theorem dX10_alive_5 : decode cX10_alive 5 = .ok (.aload_n 0, 1) := dkg_X10_3.2.2.2.1
theorem dX10_alive_6 : decode cX10_alive 6 = .ok (.getfield 12, 3) := dkg_X10_3.2.2.2.2.1
theorem dX10_alive_9 : decode cX10_alive 9 = .ok (.invokevirtual 21, 3) := dkg_X10_3.2.2.2.2.2.1
theorem dX10_alive_12 : decode cX10_alive 12 = .ok (.if_icmp .lt 5, 3) := dkg_X10_3.2.2.2.2.2.2.1
theorem dX10_alive_15 : decode cX10_alive 15 = .ok (.aconst_null, 1) := dkg_X10_3.2.2.2.2.2.2.2.1
theorem dX10_alive_16 : decode cX10_alive 16 = .ok (.areturn, 1) := dkg_X10_3.2.2.2.2.2.2.2.2.1
theorem dX10_alive_17 : decode cX10_alive 17 = .ok (.aload_n 0, 1) := dkg_X10_3.2.2.2.2.2.2.2.2.2.1
theorem dkg_X10_4 : dkp cX10_alive [(18, .getfield 12, 3), (21, .iload_n 1, 1), (22, .invokevirtual 25, 3), (25, .checkcast 29, 3), (28, .astore_n 2, 1), (29, .aload_n 2, 1), (30, .getfield 31, 3), (33, .ifCond .eq 7, 3), (36, .aconst_null, 1), (37, .goto 4, 3)] := dkf (by decide +kernel)
theorem dX10_alive_18 : decode cX10_alive 18 = .ok (.getfield 12, 3) := dkg_X10_4.1
theorem dX10_alive_21 : decode cX10_alive 21 = .ok (.iload_n 1, 1) := dkg_X10_4.2.1
theorem dX10_alive_22 : decode cX10_alive 22 = .ok (.invokevirtual 25, 3) := dkg_X10_4.2.2.1
theorem dX10_alive_25 : decode cX10_alive 25 = .ok (.checkcast 29, 3) := dkg_X10_4.2.2.2.1
theorem dX10_alive_28 : decode cX10_alive 28 = .ok (.astore_n 2, 1) := dkg_X10_4.2.2.2.2.1
theorem dX10_alive_29 : decode cX10_alive 29 = .ok (.aload_n 2, 1) := dkg_X10_4.2.2.2.2.2.1
theorem dX10_alive_30 : decode cX10_alive 30 = .ok (.getfield 31, 3) := dkg_X10_4.2.2.2.2.2.2.1
theorem dX10_alive_33 : decode cX10_alive 33 = .ok (.ifCond .eq 7, 3) := dkg_X10_4.2.2.2.2.2.2.2.1
theorem dX10_alive_36 : decode cX10_alive 36 = .ok (.aconst_null, 1) := dkg_X10_4.2.2.2.2.2.2.2.2.1
theorem dX10_alive_37 : decode cX10_alive 37 = .ok (.goto 4, 3) := dkg_X10_4.2.2.2.2.2.2.2.2.2.1
theorem dkg_X10_5 : dkp cX10_alive [(40, .aload_n 2, 1), (41, .areturn, 1)] := dkf (by decide +kernel)
theorem dX10_alive_40 : decode cX10_alive 40 = .ok (.aload_n 2, 1) := dkg_X10_5.1
theorem dX10_alive_41 : decode cX10_alive 41 = .ok (.areturn, 1) := dkg_X10_5.2.1
theorem dkg_X10_6 : dkp cX10_whole [(0, .aload_n 0, 1), (1, .iload_n 1, 1), (2, .invokevirtual 35, 3), (5, .astore_n 2, 1), (6, .aload_n 2, 1), (7, .ifnull 14, 3), (10, .aload_n 2, 1), (11, .invokevirtual 39, 3), (14, .ifCond .eq 7, 3), (17, .aload_n 2, 1)] := dkf (by decide +kernel)
theorem dX10_whole_0 : decode cX10_whole 0 = .ok (.aload_n 0, 1) := dkg_X10_6.1
theorem dX10_whole_1 : decode cX10_whole 1 = .ok (.iload_n 1, 1) := dkg_X10_6.2.1
theorem dX10_whole_2 : decode cX10_whole 2 = .ok (.invokevirtual 35, 3) := dkg_X10_6.2.2.1
theorem dX10_whole_5 : decode cX10_whole 5 = .ok (.astore_n 2, 1) := dkg_X10_6.2.2.2.1
theorem dX10_whole_6 : decode cX10_whole 6 = .ok (.aload_n 2, 1) := dkg_X10_6.2.2.2.2.1
theorem dX10_whole_7 : decode cX10_whole 7 = .ok (.ifnull 14, 3) := dkg_X10_6.2.2.2.2.2.1
theorem dX10_whole_10 : decode cX10_whole 10 = .ok (.aload_n 2, 1) := dkg_X10_6.2.2.2.2.2.2.1
theorem dX10_whole_11 : decode cX10_whole 11 = .ok (.invokevirtual 39, 3) := dkg_X10_6.2.2.2.2.2.2.2.1
theorem dX10_whole_14 : decode cX10_whole 14 = .ok (.ifCond .eq 7, 3) := dkg_X10_6.2.2.2.2.2.2.2.2.1
theorem dX10_whole_17 : decode cX10_whole 17 = .ok (.aload_n 2, 1) := dkg_X10_6.2.2.2.2.2.2.2.2.2.1
theorem dkg_X10_7 : dkp cX10_whole [(18, .goto 4, 3), (21, .aconst_null, 1), (22, .areturn, 1)] := dkf (by decide +kernel)
theorem dX10_whole_18 : decode cX10_whole 18 = .ok (.goto 4, 3) := dkg_X10_7.1
theorem dX10_whole_21 : decode cX10_whole 21 = .ok (.aconst_null, 1) := dkg_X10_7.2.1
theorem dX10_whole_22 : decode cX10_whole 22 = .ok (.areturn, 1) := dkg_X10_7.2.2.1
theorem dkg_X10_8 : dkp cX10_make [(0, .aload_n 0, 1), (1, .getfield 12, 3), (4, .aload_n 1, 1), (5, .invokevirtual 43, 3), (8, .pop, 1), (9, .aload_n 0, 1), (10, .new 47, 3), (13, .dup, 1), (14, .iconst 0, 1), (15, .aload_n 1, 1)] := dkf (by decide +kernel)
theorem dX10_make_0 : decode cX10_make 0 = .ok (.aload_n 0, 1) := dkg_X10_8.1
theorem dX10_make_1 : decode cX10_make 1 = .ok (.getfield 12, 3) := dkg_X10_8.2.1
theorem dX10_make_4 : decode cX10_make 4 = .ok (.aload_n 1, 1) := dkg_X10_8.2.2.1
theorem dX10_make_5 : decode cX10_make 5 = .ok (.invokevirtual 43, 3) := dkg_X10_8.2.2.2.1
theorem dX10_make_8 : decode cX10_make 8 = .ok (.pop, 1) := dkg_X10_8.2.2.2.2.1
theorem dX10_make_9 : decode cX10_make 9 = .ok (.aload_n 0, 1) := dkg_X10_8.2.2.2.2.2.1
theorem dX10_make_10 : decode cX10_make 10 = .ok (.new 47, 3) := dkg_X10_8.2.2.2.2.2.2.1
theorem dX10_make_13 : decode cX10_make 13 = .ok (.dup, 1) := dkg_X10_8.2.2.2.2.2.2.2.1
theorem dX10_make_14 : decode cX10_make 14 = .ok (.iconst 0, 1) := dkg_X10_8.2.2.2.2.2.2.2.2.1
theorem dX10_make_15 : decode cX10_make 15 = .ok (.aload_n 1, 1) := dkg_X10_8.2.2.2.2.2.2.2.2.2.1
theorem dkg_X10_9 : dkp cX10_make [(16, .aconst_null, 1), (17, .iconst 0, 1), (18, .invokespecial 49, 3), (21, .invokevirtual 52, 3), (24, .aload_n 0, 1), (25, .getfield 12, 3), (28, .invokevirtual 21, 3), (31, .iconst 1, 1), (32, .isub, 1), (33, .ireturn, 1)] := dkf (by decide +kernel)
theorem dX10_make_16 : decode cX10_make 16 = .ok (.aconst_null, 1) := dkg_X10_9.1
theorem dX10_make_17 : decode cX10_make 17 = .ok (.iconst 0, 1) := dkg_X10_9.2.1
theorem dX10_make_18 : decode cX10_make 18 = .ok (.invokespecial 49, 3) := dkg_X10_9.2.2.1
theorem dX10_make_21 : decode cX10_make 21 = .ok (.invokevirtual 52, 3) := dkg_X10_9.2.2.2.1
theorem dX10_make_24 : decode cX10_make 24 = .ok (.aload_n 0, 1) := dkg_X10_9.2.2.2.2.1
theorem dX10_make_25 : decode cX10_make 25 = .ok (.getfield 12, 3) := dkg_X10_9.2.2.2.2.2.1
theorem dX10_make_28 : decode cX10_make 28 = .ok (.invokevirtual 21, 3) := dkg_X10_9.2.2.2.2.2.2.1
theorem dX10_make_31 : decode cX10_make 31 = .ok (.iconst 1, 1) := dkg_X10_9.2.2.2.2.2.2.2.1
theorem dX10_make_32 : decode cX10_make 32 = .ok (.isub, 1) := dkg_X10_9.2.2.2.2.2.2.2.2.1
theorem dX10_make_33 : decode cX10_make 33 = .ok (.ireturn, 1) := dkg_X10_9.2.2.2.2.2.2.2.2.2.1
theorem dkg_X10_10 : dkp cX10_remember [(0, .aload_n 0, 1), (1, .getfield 18, 3), (4, .invokevirtual 21, 3), (7, .sipush 512, 3), (10, .if_icmp .lt 12, 3), (13, .aload_n 0, 1), (14, .getfield 18, 3), (17, .iconst 0, 1), (18, .invokevirtual 56, 3), (21, .pop, 1)] := dkf (by decide +kernel)
theorem dX10_remember_0 : decode cX10_remember 0 = .ok (.aload_n 0, 1) := dkg_X10_10.1
theorem dX10_remember_1 : decode cX10_remember 1 = .ok (.getfield 18, 3) := dkg_X10_10.2.1
theorem dX10_remember_4 : decode cX10_remember 4 = .ok (.invokevirtual 21, 3) := dkg_X10_10.2.2.1
theorem dX10_remember_7 : decode cX10_remember 7 = .ok (.sipush 512, 3) := dkg_X10_10.2.2.2.1
theorem dX10_remember_10 : decode cX10_remember 10 = .ok (.if_icmp .lt 12, 3) := dkg_X10_10.2.2.2.2.1
theorem dkg_X10_11 : dkp cX10_remember [(22, .aload_n 0, 1), (23, .getfield 18, 3), (26, .aload_n 1, 1), (27, .invokevirtual 43, 3), (30, .pop, 1), (31, .return_, 1)] := dkf (by decide +kernel)
theorem dX10_remember_22 : decode cX10_remember 22 = .ok (.aload_n 0, 1) := dkg_X10_11.1
theorem dX10_remember_23 : decode cX10_remember 23 = .ok (.getfield 18, 3) := dkg_X10_11.2.1
theorem dX10_remember_26 : decode cX10_remember 26 = .ok (.aload_n 1, 1) := dkg_X10_11.2.2.1
theorem dX10_remember_27 : decode cX10_remember 27 = .ok (.invokevirtual 43, 3) := dkg_X10_11.2.2.2.1
theorem dX10_remember_30 : decode cX10_remember 30 = .ok (.pop, 1) := dkg_X10_11.2.2.2.2.1
theorem dX10_remember_31 : decode cX10_remember 31 = .ok (.return_, 1) := dkg_X10_11.2.2.2.2.2.1
theorem dkg_X10_12 : dkp cX10_takeBack [(0, .aload_n 0, 1), (1, .getfield 18, 3), (4, .invokevirtual 59, 3), (7, .ifCond .eq 5, 3), (10, .iconst 0, 1), (11, .ireturn, 1), (12, .aload_n 0, 1), (13, .getfield 18, 3), (16, .aload_n 0, 1), (17, .getfield 18, 3)] := dkf (by decide +kernel)
theorem dX10_takeBack_0 : decode cX10_takeBack 0 = .ok (.aload_n 0, 1) := dkg_X10_12.1
theorem dX10_takeBack_1 : decode cX10_takeBack 1 = .ok (.getfield 18, 3) := dkg_X10_12.2.1
theorem dX10_takeBack_4 : decode cX10_takeBack 4 = .ok (.invokevirtual 59, 3) := dkg_X10_12.2.2.1
theorem dX10_takeBack_7 : decode cX10_takeBack 7 = .ok (.ifCond .eq 5, 3) := dkg_X10_12.2.2.2.1
theorem dX10_takeBack_10 : decode cX10_takeBack 10 = .ok (.iconst 0, 1) := dkg_X10_12.2.2.2.2.1
theorem dX10_takeBack_11 : decode cX10_takeBack 11 = .ok (.ireturn, 1) := dkg_X10_12.2.2.2.2.2.1
theorem dX10_takeBack_12 : decode cX10_takeBack 12 = .ok (.aload_n 0, 1) := dkg_X10_12.2.2.2.2.2.2.1
theorem dX10_takeBack_13 : decode cX10_takeBack 13 = .ok (.getfield 18, 3) := dkg_X10_12.2.2.2.2.2.2.2.1
theorem dX10_takeBack_16 : decode cX10_takeBack 16 = .ok (.aload_n 0, 1) := dkg_X10_12.2.2.2.2.2.2.2.2.1
theorem dX10_takeBack_17 : decode cX10_takeBack 17 = .ok (.getfield 18, 3) := dkg_X10_12.2.2.2.2.2.2.2.2.2.1
theorem dkg_X10_13 : dkp cX10_takeBack [(20, .invokevirtual 21, 3), (23, .iconst 1, 1), (24, .isub, 1), (25, .invokevirtual 56, 3), (28, .checkcast 47, 3), (31, .astore_n 1, 1), (32, .aload_n 1, 1), (33, .getfield 62, 3), (68, .aload_n 0, 1), (69, .getfield 12, 3)] := dkf (by decide +kernel)
theorem dX10_takeBack_20 : decode cX10_takeBack 20 = .ok (.invokevirtual 21, 3) := dkg_X10_13.1
theorem dX10_takeBack_23 : decode cX10_takeBack 23 = .ok (.iconst 1, 1) := dkg_X10_13.2.1
theorem dX10_takeBack_24 : decode cX10_takeBack 24 = .ok (.isub, 1) := dkg_X10_13.2.2.1
theorem dX10_takeBack_25 : decode cX10_takeBack 25 = .ok (.invokevirtual 56, 3) := dkg_X10_13.2.2.2.1
theorem dX10_takeBack_28 : decode cX10_takeBack 28 = .ok (.checkcast 47, 3) := dkg_X10_13.2.2.2.2.1
theorem dX10_takeBack_31 : decode cX10_takeBack 31 = .ok (.astore_n 1, 1) := dkg_X10_13.2.2.2.2.2.1
theorem dX10_takeBack_32 : decode cX10_takeBack 32 = .ok (.aload_n 1, 1) := dkg_X10_13.2.2.2.2.2.2.1
theorem dX10_takeBack_33 : decode cX10_takeBack 33 = .ok (.getfield 62, 3) := dkg_X10_13.2.2.2.2.2.2.2.1
theorem dX10_takeBack_68 : decode cX10_takeBack 68 = .ok (.aload_n 0, 1) := dkg_X10_13.2.2.2.2.2.2.2.2.1
theorem dX10_takeBack_69 : decode cX10_takeBack 69 = .ok (.getfield 12, 3) := dkg_X10_13.2.2.2.2.2.2.2.2.2.1
theorem dkg_X10_14 : dkp cX10_takeBack [(72, .invokevirtual 59, 3), (75, .ifCond .ne 96, 3), (78, .aload_n 0, 1), (79, .getfield 12, 3), (82, .aload_n 0, 1), (83, .getfield 12, 3), (86, .invokevirtual 21, 3), (89, .iconst 1, 1), (90, .isub, 1), (91, .invokevirtual 56, 3)] := dkf (by decide +kernel)
theorem dX10_takeBack_72 : decode cX10_takeBack 72 = .ok (.invokevirtual 59, 3) := dkg_X10_14.1
theorem dX10_takeBack_75 : decode cX10_takeBack 75 = .ok (.ifCond .ne 96, 3) := dkg_X10_14.2.1
theorem dX10_takeBack_78 : decode cX10_takeBack 78 = .ok (.aload_n 0, 1) := dkg_X10_14.2.2.1
theorem dX10_takeBack_79 : decode cX10_takeBack 79 = .ok (.getfield 12, 3) := dkg_X10_14.2.2.2.1
theorem dX10_takeBack_82 : decode cX10_takeBack 82 = .ok (.aload_n 0, 1) := dkg_X10_14.2.2.2.2.1
theorem dX10_takeBack_83 : decode cX10_takeBack 83 = .ok (.getfield 12, 3) := dkg_X10_14.2.2.2.2.2.1
theorem dX10_takeBack_86 : decode cX10_takeBack 86 = .ok (.invokevirtual 21, 3) := dkg_X10_14.2.2.2.2.2.2.1
theorem dX10_takeBack_89 : decode cX10_takeBack 89 = .ok (.iconst 1, 1) := dkg_X10_14.2.2.2.2.2.2.2.1
theorem dX10_takeBack_90 : decode cX10_takeBack 90 = .ok (.isub, 1) := dkg_X10_14.2.2.2.2.2.2.2.2.1
theorem dX10_takeBack_91 : decode cX10_takeBack 91 = .ok (.invokevirtual 56, 3) := dkg_X10_14.2.2.2.2.2.2.2.2.2.1
theorem dkg_X10_15 : dkp cX10_takeBack [(94, .pop, 1), (95, .goto 76, 3), (98, .aload_n 1, 1), (99, .getfield 66, 3), (102, .iconst 0, 1), (103, .putfield 31, 3), (106, .goto 65, 3), (109, .aload_n 1, 1), (110, .getfield 66, 3), (113, .invokevirtual 70, 3)] := dkf (by decide +kernel)
theorem dX10_takeBack_94 : decode cX10_takeBack 94 = .ok (.pop, 1) := dkg_X10_15.1
theorem dX10_takeBack_95 : decode cX10_takeBack 95 = .ok (.goto 76, 3) := dkg_X10_15.2.1
theorem dX10_takeBack_98 : decode cX10_takeBack 98 = .ok (.aload_n 1, 1) := dkg_X10_15.2.2.1
theorem dX10_takeBack_99 : decode cX10_takeBack 99 = .ok (.getfield 66, 3) := dkg_X10_15.2.2.2.1
theorem dX10_takeBack_102 : decode cX10_takeBack 102 = .ok (.iconst 0, 1) := dkg_X10_15.2.2.2.2.1
theorem dX10_takeBack_103 : decode cX10_takeBack 103 = .ok (.putfield 31, 3) := dkg_X10_15.2.2.2.2.2.1
theorem dX10_takeBack_106 : decode cX10_takeBack 106 = .ok (.goto 65, 3) := dkg_X10_15.2.2.2.2.2.2.1
theorem dX10_takeBack_109 : decode cX10_takeBack 109 = .ok (.aload_n 1, 1) := dkg_X10_15.2.2.2.2.2.2.2.1
theorem dX10_takeBack_110 : decode cX10_takeBack 110 = .ok (.getfield 66, 3) := dkg_X10_15.2.2.2.2.2.2.2.2.1
theorem dX10_takeBack_113 : decode cX10_takeBack 113 = .ok (.invokevirtual 70, 3) := dkg_X10_15.2.2.2.2.2.2.2.2.2.1
theorem dkg_X10_16 : dkp cX10_takeBack [(116, .goto 55, 3), (119, .aload_n 1, 1), (120, .getfield 73, 3), (123, .ifnull 48, 3), (126, .aload_n 1, 1), (127, .getfield 73, 3), (130, .aload_n 1, 1), (131, .getfield 77, 3), (134, .putfield 80, 3), (137, .goto 34, 3)] := dkf (by decide +kernel)
theorem dX10_takeBack_116 : decode cX10_takeBack 116 = .ok (.goto 55, 3) := dkg_X10_16.1
theorem dX10_takeBack_119 : decode cX10_takeBack 119 = .ok (.aload_n 1, 1) := dkg_X10_16.2.1
theorem dX10_takeBack_120 : decode cX10_takeBack 120 = .ok (.getfield 73, 3) := dkg_X10_16.2.2.1
theorem dX10_takeBack_123 : decode cX10_takeBack 123 = .ok (.ifnull 48, 3) := dkg_X10_16.2.2.2.1
theorem dX10_takeBack_126 : decode cX10_takeBack 126 = .ok (.aload_n 1, 1) := dkg_X10_16.2.2.2.2.1
theorem dX10_takeBack_127 : decode cX10_takeBack 127 = .ok (.getfield 73, 3) := dkg_X10_16.2.2.2.2.2.1
theorem dX10_takeBack_130 : decode cX10_takeBack 130 = .ok (.aload_n 1, 1) := dkg_X10_16.2.2.2.2.2.2.1
theorem dX10_takeBack_131 : decode cX10_takeBack 131 = .ok (.getfield 77, 3) := dkg_X10_16.2.2.2.2.2.2.2.1
theorem dX10_takeBack_134 : decode cX10_takeBack 134 = .ok (.putfield 80, 3) := dkg_X10_16.2.2.2.2.2.2.2.2.1
theorem dX10_takeBack_137 : decode cX10_takeBack 137 = .ok (.goto 34, 3) := dkg_X10_16.2.2.2.2.2.2.2.2.2.1
theorem dkg_X10_17 : dkp cX10_takeBack [(140, .aload_n 1, 1), (141, .getfield 77, 3), (144, .ifCond .lt 27, 3), (147, .aload_n 1, 1), (148, .getfield 77, 3), (151, .iconst 3, 1), (152, .if_icmp .gt 19, 3), (155, .aload_n 1, 1), (156, .getfield 66, 3), (159, .getfield 85, 3)] := dkf (by decide +kernel)
theorem dX10_takeBack_140 : decode cX10_takeBack 140 = .ok (.aload_n 1, 1) := dkg_X10_17.1
theorem dX10_takeBack_141 : decode cX10_takeBack 141 = .ok (.getfield 77, 3) := dkg_X10_17.2.1
theorem dX10_takeBack_144 : decode cX10_takeBack 144 = .ok (.ifCond .lt 27, 3) := dkg_X10_17.2.2.1
theorem dX10_takeBack_147 : decode cX10_takeBack 147 = .ok (.aload_n 1, 1) := dkg_X10_17.2.2.2.1
theorem dX10_takeBack_148 : decode cX10_takeBack 148 = .ok (.getfield 77, 3) := dkg_X10_17.2.2.2.2.1
theorem dX10_takeBack_151 : decode cX10_takeBack 151 = .ok (.iconst 3, 1) := dkg_X10_17.2.2.2.2.2.1
theorem dX10_takeBack_152 : decode cX10_takeBack 152 = .ok (.if_icmp .gt 19, 3) := dkg_X10_17.2.2.2.2.2.2.1
theorem dX10_takeBack_155 : decode cX10_takeBack 155 = .ok (.aload_n 1, 1) := dkg_X10_17.2.2.2.2.2.2.2.1
theorem dX10_takeBack_156 : decode cX10_takeBack 156 = .ok (.getfield 66, 3) := dkg_X10_17.2.2.2.2.2.2.2.2.1
theorem dX10_takeBack_159 : decode cX10_takeBack 159 = .ok (.getfield 85, 3) := dkg_X10_17.2.2.2.2.2.2.2.2.2.1
theorem dkg_X10_18 : dkp cX10_takeBack [(162, .aload_n 1, 1), (163, .getfield 77, 3), (166, .aload_n 1, 1), (167, .getfield 73, 3), (170, .aastore, 1), (171, .iconst 1, 1), (172, .ireturn, 1)] := dkf (by decide +kernel)
theorem dX10_takeBack_162 : decode cX10_takeBack 162 = .ok (.aload_n 1, 1) := dkg_X10_18.1
theorem dX10_takeBack_163 : decode cX10_takeBack 163 = .ok (.getfield 77, 3) := dkg_X10_18.2.1
theorem dX10_takeBack_166 : decode cX10_takeBack 166 = .ok (.aload_n 1, 1) := dkg_X10_18.2.2.1
theorem dX10_takeBack_167 : decode cX10_takeBack 167 = .ok (.getfield 73, 3) := dkg_X10_18.2.2.2.1
theorem dX10_takeBack_170 : decode cX10_takeBack 170 = .ok (.aastore, 1) := dkg_X10_18.2.2.2.2.1
theorem dX10_takeBack_171 : decode cX10_takeBack 171 = .ok (.iconst 1, 1) := dkg_X10_18.2.2.2.2.2.1
theorem dX10_takeBack_172 : decode cX10_takeBack 172 = .ok (.ireturn, 1) := dkg_X10_18.2.2.2.2.2.2.1
theorem dkg_X10_19 : dkp cX10_takeBack [(36, .tableswitch 104 0 3 #[32, 62, 73, 83], 32)] := dkq (by decide +kernel)
theorem dX10_takeBack_36 : decode cX10_takeBack 36 = .ok (.tableswitch 104 0 3 #[32, 62, 73, 83], 32) := dkg_X10_19.1
