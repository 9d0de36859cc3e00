theorem dkg_X1_0 : dkp cX1_init [(0, .aload_n 0, 1), (1, .invokespecial 1, 3), (4, .aload_n 0, 1), (5, .iconst 0, 1), (6, .putfield 7, 3), (9, .aload_n 0, 1), (10, .iload_n 1, 1), (11, .putfield 13, 3), (14, .aload_n 0, 1), (15, .bipush 16, 2)] := dkf (by decide +kernel)
theorem dX1_init_0 : decode cX1_init 0 = .ok (.aload_n 0, 1) := dkg_X1_0.1
theorem dX1_init_1 : decode cX1_init 1 = .ok (.invokespecial 1, 3) := dkg_X1_0.2.1
theorem dX1_init_4 : decode cX1_init 4 = .ok (.aload_n 0, 1) := dkg_X1_0.2.2.1
theorem dX1_init_5 : decode cX1_init 5 = .ok (.iconst 0, 1) := dkg_X1_0.2.2.2.1
theorem dX1_init_6 : decode cX1_init 6 = .ok (.putfield 7, 3) := dkg_X1_0.2.2.2.2.1
theorem dX1_init_9 : decode cX1_init 9 = .ok (.aload_n 0, 1) := dkg_X1_0.2.2.2.2.2.1
theorem dX1_init_10 : decode cX1_init 10 = .ok (.iload_n 1, 1) := dkg_X1_0.2.2.2.2.2.2.1
theorem dX1_init_11 : decode cX1_init 11 = .ok (.putfield 13, 3) := dkg_X1_0.2.2.2.2.2.2.2.1
theorem dX1_init_14 : decode cX1_init 14 = .ok (.aload_n 0, 1) := dkg_X1_0.2.2.2.2.2.2.2.2.1
theorem dX1_init_15 : decode cX1_init 15 = .ok (.bipush 16, 2) := dkg_X1_0.2.2.2.2.2.2.2.2.2.1
theorem dkg_X1_1 : dkp cX1_init [(19, .putfield 16, 3), (22, .return_, 1)] := dkf (by decide +kernel)
theorem dX1_init_19 : decode cX1_init 19 = .ok (.putfield 16, 3) := dkg_X1_1.1
theorem dX1_init_22 : decode cX1_init 22 = .ok (.return_, 1) := dkg_X1_1.2.1
theorem dkg_X1_2 : dkp cX1_init [(17, .newarray .int, 2)] := dkq (by decide +kernel)
theorem dX1_init_17 : decode cX1_init 17 = .ok (.newarray .int, 2) := dkg_X1_2.1
theorem dkg_X1_3 : dkp cX1_add [(0, .aload_n 0, 1), (1, .getfield 7, 3), (4, .aload_n 0, 1), (5, .getfield 13, 3), (8, .if_icmp .lt 4, 3), (11, .return_, 1), (12, .aload_n 0, 1), (13, .getfield 7, 3), (16, .aload_n 0, 1), (17, .getfield 16, 3)] := dkf (by decide +kernel)
theorem dX1_add_0 : decode cX1_add 0 = .ok (.aload_n 0, 1) := dkg_X1_3.1
theorem dX1_add_1 : decode cX1_add 1 = .ok (.getfield 7, 3) := dkg_X1_3.2.1
theorem dX1_add_4 : decode cX1_add 4 = .ok (.aload_n 0, 1) := dkg_X1_3.2.2.1
theorem dX1_add_5 : decode cX1_add 5 = .ok (.getfield 13, 3) := dkg_X1_3.2.2.2.1
theorem dX1_add_8 : decode cX1_add 8 = .ok (.if_icmp .lt 4, 3) := dkg_X1_3.2.2.2.2.1
theorem dX1_add_11 : decode cX1_add 11 = .ok (.return_, 1) := dkg_X1_3.2.2.2.2.2.1
theorem dX1_add_12 : decode cX1_add 12 = .ok (.aload_n 0, 1) := dkg_X1_3.2.2.2.2.2.2.1
theorem dX1_add_13 : decode cX1_add 13 = .ok (.getfield 7, 3) := dkg_X1_3.2.2.2.2.2.2.2.1
theorem dX1_add_16 : decode cX1_add 16 = .ok (.aload_n 0, 1) := dkg_X1_3.2.2.2.2.2.2.2.2.1
theorem dX1_add_17 : decode cX1_add 17 = .ok (.getfield 16, 3) := dkg_X1_3.2.2.2.2.2.2.2.2.2.1
theorem dkg_X1_4 : dkp cX1_add [(20, .arraylength, 1), (21, .if_icmp .lt 21, 3), (24, .aload_n 0, 1), (25, .aload_n 0, 1), (26, .getfield 16, 3), (29, .aload_n 0, 1), (30, .getfield 16, 3), (33, .arraylength, 1), (34, .iconst 2, 1), (35, .imul, 1)] := dkf (by decide +kernel)
theorem dX1_add_20 : decode cX1_add 20 = .ok (.arraylength, 1) := dkg_X1_4.1
theorem dX1_add_21 : decode cX1_add 21 = .ok (.if_icmp .lt 21, 3) := dkg_X1_4.2.1
theorem dX1_add_24 : decode cX1_add 24 = .ok (.aload_n 0, 1) := dkg_X1_4.2.2.1
theorem dX1_add_25 : decode cX1_add 25 = .ok (.aload_n 0, 1) := dkg_X1_4.2.2.2.1
theorem dX1_add_26 : decode cX1_add 26 = .ok (.getfield 16, 3) := dkg_X1_4.2.2.2.2.1
theorem dX1_add_29 : decode cX1_add 29 = .ok (.aload_n 0, 1) := dkg_X1_4.2.2.2.2.2.1
theorem dX1_add_30 : decode cX1_add 30 = .ok (.getfield 16, 3) := dkg_X1_4.2.2.2.2.2.2.1
theorem dX1_add_33 : decode cX1_add 33 = .ok (.arraylength, 1) := dkg_X1_4.2.2.2.2.2.2.2.1
theorem dX1_add_34 : decode cX1_add 34 = .ok (.iconst 2, 1) := dkg_X1_4.2.2.2.2.2.2.2.2.1
theorem dX1_add_35 : decode cX1_add 35 = .ok (.imul, 1) := dkg_X1_4.2.2.2.2.2.2.2.2.2.1
theorem dkg_X1_5 : dkp cX1_add [(36, .invokestatic 20, 3), (39, .putfield 16, 3), (42, .aload_n 0, 1), (43, .getfield 16, 3), (46, .aload_n 0, 1), (47, .getfield 7, 3), (50, .iload_n 1, 1), (51, .iastore, 1), (52, .aload_n 0, 1), (53, .dup, 1)] := dkf (by decide +kernel)
theorem dX1_add_36 : decode cX1_add 36 = .ok (.invokestatic 20, 3) := dkg_X1_5.1
theorem dX1_add_39 : decode cX1_add 39 = .ok (.putfield 16, 3) := dkg_X1_5.2.1
theorem dX1_add_42 : decode cX1_add 42 = .ok (.aload_n 0, 1) := dkg_X1_5.2.2.1
theorem dX1_add_43 : decode cX1_add 43 = .ok (.getfield 16, 3) := dkg_X1_5.2.2.2.1
theorem dX1_add_46 : decode cX1_add 46 = .ok (.aload_n 0, 1) := dkg_X1_5.2.2.2.2.1
theorem dX1_add_47 : decode cX1_add 47 = .ok (.getfield 7, 3) := dkg_X1_5.2.2.2.2.2.1
theorem dX1_add_50 : decode cX1_add 50 = .ok (.iload_n 1, 1) := dkg_X1_5.2.2.2.2.2.2.1
theorem dX1_add_51 : decode cX1_add 51 = .ok (.iastore, 1) := dkg_X1_5.2.2.2.2.2.2.2.1
theorem dX1_add_52 : decode cX1_add 52 = .ok (.aload_n 0, 1) := dkg_X1_5.2.2.2.2.2.2.2.2.1
theorem dX1_add_53 : decode cX1_add 53 = .ok (.dup, 1) := dkg_X1_5.2.2.2.2.2.2.2.2.2.1
theorem dkg_X1_6 : dkp cX1_add [(54, .getfield 7, 3), (57, .iconst 1, 1), (58, .iadd, 1), (59, .putfield 7, 3), (62, .return_, 1)] := dkf (by decide +kernel)
theorem dX1_add_54 : decode cX1_add 54 = .ok (.getfield 7, 3) := dkg_X1_6.1
theorem dX1_add_57 : decode cX1_add 57 = .ok (.iconst 1, 1) := dkg_X1_6.2.1
theorem dX1_add_58 : decode cX1_add 58 = .ok (.iadd, 1) := dkg_X1_6.2.2.1
theorem dX1_add_59 : decode cX1_add 59 = .ok (.putfield 7, 3) := dkg_X1_6.2.2.2.1
theorem dX1_add_62 : decode cX1_add 62 = .ok (.return_, 1) := dkg_X1_6.2.2.2.2.1
theorem dkg_X1_7 : dkp cX1_addAll [(0, .iconst 0, 1), (1, .istore_n 2, 1), (2, .iload_n 2, 1), (3, .aload_n 1, 1), (4, .getfield 7, 3), (7, .if_icmp .ge 19, 3), (10, .aload_n 0, 1), (11, .aload_n 1, 1), (12, .getfield 16, 3), (15, .iload_n 2, 1)] := dkf (by decide +kernel)
theorem dX1_addAll_0 : decode cX1_addAll 0 = .ok (.iconst 0, 1) := dkg_X1_7.1
theorem dX1_addAll_1 : decode cX1_addAll 1 = .ok (.istore_n 2, 1) := dkg_X1_7.2.1
theorem dX1_addAll_2 : decode cX1_addAll 2 = .ok (.iload_n 2, 1) := dkg_X1_7.2.2.1
theorem dX1_addAll_3 : decode cX1_addAll 3 = .ok (.aload_n 1, 1) := dkg_X1_7.2.2.2.1
theorem dX1_addAll_4 : decode cX1_addAll 4 = .ok (.getfield 7, 3) := dkg_X1_7.2.2.2.2.1
theorem dX1_addAll_7 : decode cX1_addAll 7 = .ok (.if_icmp .ge 19, 3) := dkg_X1_7.2.2.2.2.2.1
theorem dX1_addAll_10 : decode cX1_addAll 10 = .ok (.aload_n 0, 1) := dkg_X1_7.2.2.2.2.2.2.1
theorem dX1_addAll_11 : decode cX1_addAll 11 = .ok (.aload_n 1, 1) := dkg_X1_7.2.2.2.2.2.2.2.1
theorem dX1_addAll_12 : decode cX1_addAll 12 = .ok (.getfield 16, 3) := dkg_X1_7.2.2.2.2.2.2.2.2.1
theorem dX1_addAll_15 : decode cX1_addAll 15 = .ok (.iload_n 2, 1) := dkg_X1_7.2.2.2.2.2.2.2.2.2.1
theorem dkg_X1_8 : dkp cX1_addAll [(16, .iaload, 1), (17, .invokevirtual 26, 3), (20, .iinc 2 1, 3), (23, .goto (-21), 3), (26, .return_, 1)] := dkf (by decide +kernel)
theorem dX1_addAll_16 : decode cX1_addAll 16 = .ok (.iaload, 1) := dkg_X1_8.1
theorem dX1_addAll_17 : decode cX1_addAll 17 = .ok (.invokevirtual 26, 3) := dkg_X1_8.2.1
theorem dX1_addAll_20 : decode cX1_addAll 20 = .ok (.iinc 2 1, 3) := dkg_X1_8.2.2.1
theorem dX1_addAll_23 : decode cX1_addAll 23 = .ok (.goto (-21), 3) := dkg_X1_8.2.2.2.1
theorem dX1_addAll_26 : decode cX1_addAll 26 = .ok (.return_, 1) := dkg_X1_8.2.2.2.2.1
theorem dkg_X1_9 : dkp cX1_at [(0, .iload_n 1, 1), (1, .ifCond .lt 20, 3), (4, .iload_n 1, 1), (5, .aload_n 0, 1), (6, .getfield 7, 3), (9, .if_icmp .ge 12, 3), (12, .aload_n 0, 1), (13, .getfield 16, 3), (16, .iload_n 1, 1), (17, .iaload, 1)] := dkf (by decide +kernel)
theorem dX1_at_0 : decode cX1_at 0 = .ok (.iload_n 1, 1) := dkg_X1_9.1
theorem dX1_at_1 : decode cX1_at 1 = .ok (.ifCond .lt 20, 3) := dkg_X1_9.2.1
theorem dX1_at_4 : decode cX1_at 4 = .ok (.iload_n 1, 1) := dkg_X1_9.2.2.1
theorem dX1_at_5 : decode cX1_at 5 = .ok (.aload_n 0, 1) := dkg_X1_9.2.2.2.1
theorem dX1_at_6 : decode cX1_at 6 = .ok (.getfield 7, 3) := dkg_X1_9.2.2.2.2.1
theorem dX1_at_9 : decode cX1_at 9 = .ok (.if_icmp .ge 12, 3) := dkg_X1_9.2.2.2.2.2.1
theorem dX1_at_12 : decode cX1_at 12 = .ok (.aload_n 0, 1) := dkg_X1_9.2.2.2.2.2.2.1
theorem dX1_at_13 : decode cX1_at 13 = .ok (.getfield 16, 3) := dkg_X1_9.2.2.2.2.2.2.2.1
theorem dX1_at_16 : decode cX1_at 16 = .ok (.iload_n 1, 1) := dkg_X1_9.2.2.2.2.2.2.2.2.1
theorem dX1_at_17 : decode cX1_at 17 = .ok (.iaload, 1) := dkg_X1_9.2.2.2.2.2.2.2.2.2.1
theorem dkg_X1_10 : dkp cX1_at [(18, .goto 4, 3), (21, .iconst 0, 1), (22, .ireturn, 1)] := dkf (by decide +kernel)
theorem dX1_at_18 : decode cX1_at 18 = .ok (.goto 4, 3) := dkg_X1_10.1
theorem dX1_at_21 : decode cX1_at 21 = .ok (.iconst 0, 1) := dkg_X1_10.2.1
theorem dX1_at_22 : decode cX1_at 22 = .ok (.ireturn, 1) := dkg_X1_10.2.2.1
theorem dkg_X1_11 : dkp cX1_clear [(0, .aload_n 0, 1), (1, .iconst 0, 1), (2, .putfield 7, 3), (5, .return_, 1)] := dkf (by decide +kernel)
theorem dX1_clear_0 : decode cX1_clear 0 = .ok (.aload_n 0, 1) := dkg_X1_11.1
theorem dX1_clear_1 : decode cX1_clear 1 = .ok (.iconst 0, 1) := dkg_X1_11.2.1
theorem dX1_clear_2 : decode cX1_clear 2 = .ok (.putfield 7, 3) := dkg_X1_11.2.2.1
theorem dX1_clear_5 : decode cX1_clear 5 = .ok (.return_, 1) := dkg_X1_11.2.2.2.1
theorem dkg_X1_12 : dkp cX1_keep [(0, .aload_n 0, 1), (1, .iconst 0, 1), (2, .aload_n 0, 1), (3, .getfield 7, 3), (6, .iload_n 1, 1), (7, .invokestatic 30, 3), (10, .invokestatic 36, 3), (13, .putfield 7, 3), (16, .return_, 1)] := dkf (by decide +kernel)
theorem dX1_keep_0 : decode cX1_keep 0 = .ok (.aload_n 0, 1) := dkg_X1_12.1
theorem dX1_keep_1 : decode cX1_keep 1 = .ok (.iconst 0, 1) := dkg_X1_12.2.1
theorem dX1_keep_2 : decode cX1_keep 2 = .ok (.aload_n 0, 1) := dkg_X1_12.2.2.1
theorem dX1_keep_3 : decode cX1_keep 3 = .ok (.getfield 7, 3) := dkg_X1_12.2.2.2.1
theorem dX1_keep_6 : decode cX1_keep 6 = .ok (.iload_n 1, 1) := dkg_X1_12.2.2.2.2.1
theorem dX1_keep_7 : decode cX1_keep 7 = .ok (.invokestatic 30, 3) := dkg_X1_12.2.2.2.2.2.1
theorem dX1_keep_10 : decode cX1_keep 10 = .ok (.invokestatic 36, 3) := dkg_X1_12.2.2.2.2.2.2.1
theorem dX1_keep_13 : decode cX1_keep 13 = .ok (.putfield 7, 3) := dkg_X1_12.2.2.2.2.2.2.2.1
theorem dX1_keep_16 : decode cX1_keep 16 = .ok (.return_, 1) := dkg_X1_12.2.2.2.2.2.2.2.2.1
theorem dkg_X1_13 : dkp cX1_isWithin [(0, .iload_n 1, 1), (1, .istore 5, 2), (3, .iload 5, 2), (5, .iload_n 2, 1), (6, .if_icmp .ge 32, 3), (9, .aload_n 0, 1), (10, .iload 5, 2), (12, .invokevirtual 39, 3), (15, .iload_n 3, 1), (16, .if_icmp .lt 14, 3)] := dkf (by decide +kernel)
theorem dX1_isWithin_0 : decode cX1_isWithin 0 = .ok (.iload_n 1, 1) := dkg_X1_13.1
theorem dX1_isWithin_1 : decode cX1_isWithin 1 = .ok (.istore 5, 2) := dkg_X1_13.2.1
theorem dX1_isWithin_3 : decode cX1_isWithin 3 = .ok (.iload 5, 2) := dkg_X1_13.2.2.1
theorem dX1_isWithin_5 : decode cX1_isWithin 5 = .ok (.iload_n 2, 1) := dkg_X1_13.2.2.2.1
theorem dX1_isWithin_6 : decode cX1_isWithin 6 = .ok (.if_icmp .ge 32, 3) := dkg_X1_13.2.2.2.2.1
theorem dX1_isWithin_9 : decode cX1_isWithin 9 = .ok (.aload_n 0, 1) := dkg_X1_13.2.2.2.2.2.1
theorem dX1_isWithin_10 : decode cX1_isWithin 10 = .ok (.iload 5, 2) := dkg_X1_13.2.2.2.2.2.2.1
theorem dX1_isWithin_12 : decode cX1_isWithin 12 = .ok (.invokevirtual 39, 3) := dkg_X1_13.2.2.2.2.2.2.2.1
theorem dX1_isWithin_15 : decode cX1_isWithin 15 = .ok (.iload_n 3, 1) := dkg_X1_13.2.2.2.2.2.2.2.2.1
theorem dX1_isWithin_16 : decode cX1_isWithin 16 = .ok (.if_icmp .lt 14, 3) := dkg_X1_13.2.2.2.2.2.2.2.2.2.1
theorem dkg_X1_14 : dkp cX1_isWithin [(19, .aload_n 0, 1), (20, .iload 5, 2), (22, .invokevirtual 39, 3), (25, .iload 4, 2), (27, .if_icmp .le 5, 3), (30, .iconst 0, 1), (31, .ireturn, 1), (32, .iinc 5 1, 3), (35, .goto (-32), 3), (38, .iconst 1, 1)] := dkf (by decide +kernel)
theorem dX1_isWithin_19 : decode cX1_isWithin 19 = .ok (.aload_n 0, 1) := dkg_X1_14.1
theorem dX1_isWithin_20 : decode cX1_isWithin 20 = .ok (.iload 5, 2) := dkg_X1_14.2.1
theorem dX1_isWithin_22 : decode cX1_isWithin 22 = .ok (.invokevirtual 39, 3) := dkg_X1_14.2.2.1
theorem dX1_isWithin_25 : decode cX1_isWithin 25 = .ok (.iload 4, 2) := dkg_X1_14.2.2.2.1
theorem dX1_isWithin_27 : decode cX1_isWithin 27 = .ok (.if_icmp .le 5, 3) := dkg_X1_14.2.2.2.2.1
theorem dX1_isWithin_30 : decode cX1_isWithin 30 = .ok (.iconst 0, 1) := dkg_X1_14.2.2.2.2.2.1
theorem dX1_isWithin_31 : decode cX1_isWithin 31 = .ok (.ireturn, 1) := dkg_X1_14.2.2.2.2.2.2.1
theorem dX1_isWithin_32 : decode cX1_isWithin 32 = .ok (.iinc 5 1, 3) := dkg_X1_14.2.2.2.2.2.2.2.1
theorem dX1_isWithin_35 : decode cX1_isWithin 35 = .ok (.goto (-32), 3) := dkg_X1_14.2.2.2.2.2.2.2.2.1
theorem dX1_isWithin_38 : decode cX1_isWithin 38 = .ok (.iconst 1, 1) := dkg_X1_14.2.2.2.2.2.2.2.2.2.1
theorem dkg_X1_15 : dkp cX1_isWithin [(39, .ireturn, 1)] := dkf (by decide +kernel)
theorem dX1_isWithin_39 : decode cX1_isWithin 39 = .ok (.ireturn, 1) := dkg_X1_15.1
theorem dkg_X1_16 : dkp cX1_slice [(0, .iconst 0, 1), (1, .iload_n 2, 1), (2, .iload_n 1, 1), (3, .isub, 1), (4, .invokestatic 36, 3), (9, .astore_n 3, 1), (10, .iconst 0, 1), (11, .istore 4, 2), (13, .iload 4, 2), (15, .aload_n 3, 1)] := dkf (by decide +kernel)
theorem dX1_slice_0 : decode cX1_slice 0 = .ok (.iconst 0, 1) := dkg_X1_16.1
theorem dX1_slice_1 : decode cX1_slice 1 = .ok (.iload_n 2, 1) := dkg_X1_16.2.1
theorem dX1_slice_2 : decode cX1_slice 2 = .ok (.iload_n 1, 1) := dkg_X1_16.2.2.1
theorem dX1_slice_3 : decode cX1_slice 3 = .ok (.isub, 1) := dkg_X1_16.2.2.2.1
theorem dX1_slice_4 : decode cX1_slice 4 = .ok (.invokestatic 36, 3) := dkg_X1_16.2.2.2.2.1
theorem dX1_slice_9 : decode cX1_slice 9 = .ok (.astore_n 3, 1) := dkg_X1_16.2.2.2.2.2.1
theorem dX1_slice_10 : decode cX1_slice 10 = .ok (.iconst 0, 1) := dkg_X1_16.2.2.2.2.2.2.1
theorem dX1_slice_11 : decode cX1_slice 11 = .ok (.istore 4, 2) := dkg_X1_16.2.2.2.2.2.2.2.1
theorem dX1_slice_13 : decode cX1_slice 13 = .ok (.iload 4, 2) := dkg_X1_16.2.2.2.2.2.2.2.2.1
theorem dX1_slice_15 : decode cX1_slice 15 = .ok (.aload_n 3, 1) := dkg_X1_16.2.2.2.2.2.2.2.2.2.1
theorem dkg_X1_17 : dkp cX1_slice [(16, .arraylength, 1), (17, .if_icmp .ge 21, 3), (20, .aload_n 3, 1), (21, .iload 4, 2), (23, .aload_n 0, 1), (24, .iload_n 1, 1), (25, .iload 4, 2), (27, .iadd, 1), (28, .invokevirtual 39, 3), (31, .iastore, 1)] := dkf (by decide +kernel)
theorem dX1_slice_16 : decode cX1_slice 16 = .ok (.arraylength, 1) := dkg_X1_17.1
theorem dX1_slice_17 : decode cX1_slice 17 = .ok (.if_icmp .ge 21, 3) := dkg_X1_17.2.1
theorem dX1_slice_20 : decode cX1_slice 20 = .ok (.aload_n 3, 1) := dkg_X1_17.2.2.1
theorem dX1_slice_21 : decode cX1_slice 21 = .ok (.iload 4, 2) := dkg_X1_17.2.2.2.1
theorem dX1_slice_23 : decode cX1_slice 23 = .ok (.aload_n 0, 1) := dkg_X1_17.2.2.2.2.1
theorem dX1_slice_24 : decode cX1_slice 24 = .ok (.iload_n 1, 1) := dkg_X1_17.2.2.2.2.2.1
theorem dX1_slice_25 : decode cX1_slice 25 = .ok (.iload 4, 2) := dkg_X1_17.2.2.2.2.2.2.1
theorem dX1_slice_27 : decode cX1_slice 27 = .ok (.iadd, 1) := dkg_X1_17.2.2.2.2.2.2.2.1
theorem dX1_slice_28 : decode cX1_slice 28 = .ok (.invokevirtual 39, 3) := dkg_X1_17.2.2.2.2.2.2.2.2.1
theorem dX1_slice_31 : decode cX1_slice 31 = .ok (.iastore, 1) := dkg_X1_17.2.2.2.2.2.2.2.2.2.1
theorem dkg_X1_18 : dkp cX1_slice [(32, .iinc 4 1, 3), (35, .goto (-22), 3), (38, .aload_n 3, 1), (39, .areturn, 1)] := dkf (by decide +kernel)
theorem dX1_slice_32 : decode cX1_slice 32 = .ok (.iinc 4 1, 3) := dkg_X1_18.1
theorem dX1_slice_35 : decode cX1_slice 35 = .ok (.goto (-22), 3) := dkg_X1_18.2.1
theorem dX1_slice_38 : decode cX1_slice 38 = .ok (.aload_n 3, 1) := dkg_X1_18.2.2.1
theorem dX1_slice_39 : decode cX1_slice 39 = .ok (.areturn, 1) := dkg_X1_18.2.2.2.1
theorem dkg_X1_19 : dkp cX1_slice [(7, .newarray .int, 2)] := dkq (by decide +kernel)
theorem dX1_slice_7 : decode cX1_slice 7 = .ok (.newarray .int, 2) := dkg_X1_19.1
