theorem dkg_X2_0 : dkp cX2_init [(0, .aload_n 0, 1), (1, .invokespecial 3, 3), (4, .aload_n 0, 1), (5, .sipush 200, 3), (10, .putfield 9, 3), (13, .aload_n 0, 1), (14, .iconst 0, 1), (15, .putfield 15, 3), (18, .aload_n 0, 1), (19, .iconst 0, 1)] := dkf (by decide +kernel)
theorem dX2_init_0 : decode cX2_init 0 = .ok (.aload_n 0, 1) := dkg_X2_0.1
theorem dX2_init_1 : decode cX2_init 1 = .ok (.invokespecial 3, 3) := dkg_X2_0.2.1
theorem dX2_init_4 : decode cX2_init 4 = .ok (.aload_n 0, 1) := dkg_X2_0.2.2.1
theorem dX2_init_5 : decode cX2_init 5 = .ok (.sipush 200, 3) := dkg_X2_0.2.2.2.1
theorem dX2_init_10 : decode cX2_init 10 = .ok (.putfield 9, 3) := dkg_X2_0.2.2.2.2.1
theorem dX2_init_13 : decode cX2_init 13 = .ok (.aload_n 0, 1) := dkg_X2_0.2.2.2.2.2.1
theorem dX2_init_14 : decode cX2_init 14 = .ok (.iconst 0, 1) := dkg_X2_0.2.2.2.2.2.2.1
theorem dX2_init_15 : decode cX2_init 15 = .ok (.putfield 15, 3) := dkg_X2_0.2.2.2.2.2.2.2.1
theorem dX2_init_18 : decode cX2_init 18 = .ok (.aload_n 0, 1) := dkg_X2_0.2.2.2.2.2.2.2.2.1
theorem dX2_init_19 : decode cX2_init 19 = .ok (.iconst 0, 1) := dkg_X2_0.2.2.2.2.2.2.2.2.2.1
theorem dkg_X2_1 : dkp cX2_init [(20, .putfield 19, 3), (23, .return_, 1)] := dkf (by decide +kernel)
theorem dX2_init_20 : decode cX2_init 20 = .ok (.putfield 19, 3) := dkg_X2_1.1
theorem dX2_init_23 : decode cX2_init 23 = .ok (.return_, 1) := dkg_X2_1.2.1
theorem dkg_X2_2 : dkp cX2_init [(8, .newarray .int, 2)] := dkq (by decide +kernel)
theorem dX2_init_8 : decode cX2_init 8 = .ok (.newarray .int, 2) := dkg_X2_2.1
theorem dkg_X2_3 : dkp cX2_clear [(0, .aload_n 0, 1), (1, .iconst 0, 1), (2, .putfield 15, 3), (5, .aload_n 0, 1), (6, .iconst 0, 1), (7, .putfield 19, 3), (10, .return_, 1)] := dkf (by decide +kernel)
theorem dX2_clear_0 : decode cX2_clear 0 = .ok (.aload_n 0, 1) := dkg_X2_3.1
theorem dX2_clear_1 : decode cX2_clear 1 = .ok (.iconst 0, 1) := dkg_X2_3.2.1
theorem dX2_clear_2 : decode cX2_clear 2 = .ok (.putfield 15, 3) := dkg_X2_3.2.2.1
theorem dX2_clear_5 : decode cX2_clear 5 = .ok (.aload_n 0, 1) := dkg_X2_3.2.2.2.1
theorem dX2_clear_6 : decode cX2_clear 6 = .ok (.iconst 0, 1) := dkg_X2_3.2.2.2.2.1
theorem dX2_clear_7 : decode cX2_clear 7 = .ok (.putfield 19, 3) := dkg_X2_3.2.2.2.2.2.1
theorem dX2_clear_10 : decode cX2_clear 10 = .ok (.return_, 1) := dkg_X2_3.2.2.2.2.2.2.1
theorem dkg_X2_4 : dkp cX2_add [(0, .aload_n 0, 1), (1, .getfield 15, 3), (4, .sipush 200, 3), (7, .if_icmp .ge 23, 3), (10, .aload_n 0, 1), (11, .getfield 9, 3), (14, .aload_n 0, 1), (15, .getfield 15, 3), (18, .iload_n 1, 1), (19, .iastore, 1)] := dkf (by decide +kernel)
theorem dX2_add_0 : decode cX2_add 0 = .ok (.aload_n 0, 1) := dkg_X2_4.1
theorem dX2_add_1 : decode cX2_add 1 = .ok (.getfield 15, 3) := dkg_X2_4.2.1
theorem dX2_add_4 : decode cX2_add 4 = .ok (.sipush 200, 3) := dkg_X2_4.2.2.1
theorem dX2_add_7 : decode cX2_add 7 = .ok (.if_icmp .ge 23, 3) := dkg_X2_4.2.2.2.1
theorem dX2_add_10 : decode cX2_add 10 = .ok (.aload_n 0, 1) := dkg_X2_4.2.2.2.2.1
theorem dX2_add_11 : decode cX2_add 11 = .ok (.getfield 9, 3) := dkg_X2_4.2.2.2.2.2.1
theorem dX2_add_14 : decode cX2_add 14 = .ok (.aload_n 0, 1) := dkg_X2_4.2.2.2.2.2.2.1
theorem dX2_add_15 : decode cX2_add 15 = .ok (.getfield 15, 3) := dkg_X2_4.2.2.2.2.2.2.2.1
theorem dX2_add_18 : decode cX2_add 18 = .ok (.iload_n 1, 1) := dkg_X2_4.2.2.2.2.2.2.2.2.1
theorem dX2_add_19 : decode cX2_add 19 = .ok (.iastore, 1) := dkg_X2_4.2.2.2.2.2.2.2.2.2.1
theorem dkg_X2_5 : dkp cX2_add [(20, .aload_n 0, 1), (21, .dup, 1), (22, .getfield 15, 3), (25, .iconst 1, 1), (26, .iadd, 1), (27, .putfield 15, 3), (30, .return_, 1)] := dkf (by decide +kernel)
theorem dX2_add_20 : decode cX2_add 20 = .ok (.aload_n 0, 1) := dkg_X2_5.1
theorem dX2_add_21 : decode cX2_add 21 = .ok (.dup, 1) := dkg_X2_5.2.1
theorem dX2_add_22 : decode cX2_add 22 = .ok (.getfield 15, 3) := dkg_X2_5.2.2.1
theorem dX2_add_25 : decode cX2_add 25 = .ok (.iconst 1, 1) := dkg_X2_5.2.2.2.1
theorem dX2_add_26 : decode cX2_add 26 = .ok (.iadd, 1) := dkg_X2_5.2.2.2.2.1
theorem dX2_add_27 : decode cX2_add 27 = .ok (.putfield 15, 3) := dkg_X2_5.2.2.2.2.2.1
theorem dX2_add_30 : decode cX2_add 30 = .ok (.return_, 1) := dkg_X2_5.2.2.2.2.2.2.1
theorem dkg_X2_6 : dkp cX2_addPart [(0, .aload_n 0, 1), (1, .getfield 15, 3), (4, .ifCond .le 8, 3), (7, .aload_n 0, 1), (8, .iconst 0, 1), (9, .invokevirtual 23, 3), (12, .iload_n 2, 1), (13, .istore 4, 2), (15, .iload 4, 2), (17, .iload_n 3, 1)] := dkf (by decide +kernel)
theorem dX2_addPart_0 : decode cX2_addPart 0 = .ok (.aload_n 0, 1) := dkg_X2_6.1
theorem dX2_addPart_1 : decode cX2_addPart 1 = .ok (.getfield 15, 3) := dkg_X2_6.2.1
theorem dX2_addPart_4 : decode cX2_addPart 4 = .ok (.ifCond .le 8, 3) := dkg_X2_6.2.2.1
theorem dX2_addPart_7 : decode cX2_addPart 7 = .ok (.aload_n 0, 1) := dkg_X2_6.2.2.2.1
theorem dX2_addPart_8 : decode cX2_addPart 8 = .ok (.iconst 0, 1) := dkg_X2_6.2.2.2.2.1
theorem dX2_addPart_9 : decode cX2_addPart 9 = .ok (.invokevirtual 23, 3) := dkg_X2_6.2.2.2.2.2.1
theorem dX2_addPart_12 : decode cX2_addPart 12 = .ok (.iload_n 2, 1) := dkg_X2_6.2.2.2.2.2.2.1
theorem dX2_addPart_13 : decode cX2_addPart 13 = .ok (.istore 4, 2) := dkg_X2_6.2.2.2.2.2.2.2.1
theorem dX2_addPart_15 : decode cX2_addPart 15 = .ok (.iload 4, 2) := dkg_X2_6.2.2.2.2.2.2.2.2.1
theorem dX2_addPart_17 : decode cX2_addPart 17 = .ok (.iload_n 3, 1) := dkg_X2_6.2.2.2.2.2.2.2.2.2.1
theorem dkg_X2_7 : dkp cX2_addPart [(18, .if_icmp .ge 28, 3), (21, .iload 4, 2), (23, .sipush 200, 3), (26, .if_icmp .ge 20, 3), (29, .aload_n 0, 1), (30, .aload_n 1, 1), (31, .getfield 27, 3), (34, .iload 4, 2), (36, .iaload, 1), (37, .invokevirtual 23, 3)] := dkf (by decide +kernel)
theorem dX2_addPart_18 : decode cX2_addPart 18 = .ok (.if_icmp .ge 28, 3) := dkg_X2_7.1
theorem dX2_addPart_21 : decode cX2_addPart 21 = .ok (.iload 4, 2) := dkg_X2_7.2.1
theorem dX2_addPart_23 : decode cX2_addPart 23 = .ok (.sipush 200, 3) := dkg_X2_7.2.2.1
theorem dX2_addPart_26 : decode cX2_addPart 26 = .ok (.if_icmp .ge 20, 3) := dkg_X2_7.2.2.2.1
theorem dX2_addPart_29 : decode cX2_addPart 29 = .ok (.aload_n 0, 1) := dkg_X2_7.2.2.2.2.1
theorem dX2_addPart_30 : decode cX2_addPart 30 = .ok (.aload_n 1, 1) := dkg_X2_7.2.2.2.2.2.1
theorem dX2_addPart_31 : decode cX2_addPart 31 = .ok (.getfield 27, 3) := dkg_X2_7.2.2.2.2.2.2.1
theorem dX2_addPart_34 : decode cX2_addPart 34 = .ok (.iload 4, 2) := dkg_X2_7.2.2.2.2.2.2.2.1
theorem dX2_addPart_36 : decode cX2_addPart 36 = .ok (.iaload, 1) := dkg_X2_7.2.2.2.2.2.2.2.2.1
theorem dX2_addPart_37 : decode cX2_addPart 37 = .ok (.invokevirtual 23, 3) := dkg_X2_7.2.2.2.2.2.2.2.2.2.1
theorem dkg_X2_8 : dkp cX2_addPart [(40, .iinc 4 1, 3), (43, .goto (-28), 3), (46, .return_, 1)] := dkf (by decide +kernel)
theorem dX2_addPart_40 : decode cX2_addPart 40 = .ok (.iinc 4 1, 3) := dkg_X2_8.1
theorem dX2_addPart_43 : decode cX2_addPart 43 = .ok (.goto (-28), 3) := dkg_X2_8.2.1
theorem dX2_addPart_46 : decode cX2_addPart 46 = .ok (.return_, 1) := dkg_X2_8.2.2.1
theorem dkg_X2_9 : dkp cX2_resize [(0, .aload_n 0, 1), (1, .aload_n 0, 1), (2, .getfield 15, 3), (5, .iload_n 1, 1), (6, .invokestatic 30, 3), (9, .putfield 15, 3), (12, .aload_n 0, 1), (13, .getfield 15, 3), (16, .istore_n 2, 1), (17, .iload_n 2, 1)] := dkf (by decide +kernel)
theorem dX2_resize_0 : decode cX2_resize 0 = .ok (.aload_n 0, 1) := dkg_X2_9.1
theorem dX2_resize_1 : decode cX2_resize 1 = .ok (.aload_n 0, 1) := dkg_X2_9.2.1
theorem dX2_resize_2 : decode cX2_resize 2 = .ok (.getfield 15, 3) := dkg_X2_9.2.2.1
theorem dX2_resize_5 : decode cX2_resize 5 = .ok (.iload_n 1, 1) := dkg_X2_9.2.2.2.1
theorem dX2_resize_6 : decode cX2_resize 6 = .ok (.invokestatic 30, 3) := dkg_X2_9.2.2.2.2.1
theorem dX2_resize_9 : decode cX2_resize 9 = .ok (.putfield 15, 3) := dkg_X2_9.2.2.2.2.2.1
theorem dX2_resize_12 : decode cX2_resize 12 = .ok (.aload_n 0, 1) := dkg_X2_9.2.2.2.2.2.2.1
theorem dX2_resize_13 : decode cX2_resize 13 = .ok (.getfield 15, 3) := dkg_X2_9.2.2.2.2.2.2.2.1
theorem dX2_resize_16 : decode cX2_resize 16 = .ok (.istore_n 2, 1) := dkg_X2_9.2.2.2.2.2.2.2.2.1
theorem dX2_resize_17 : decode cX2_resize 17 = .ok (.iload_n 2, 1) := dkg_X2_9.2.2.2.2.2.2.2.2.2.1
theorem dkg_X2_10 : dkp cX2_resize [(18, .iload_n 1, 1), (19, .if_icmp .ge 14, 3), (22, .aload_n 0, 1), (23, .iconst 0, 1), (24, .invokevirtual 23, 3), (27, .iinc 2 1, 3), (30, .goto (-13), 3), (33, .return_, 1)] := dkf (by decide +kernel)
theorem dX2_resize_18 : decode cX2_resize 18 = .ok (.iload_n 1, 1) := dkg_X2_10.1
theorem dX2_resize_19 : decode cX2_resize 19 = .ok (.if_icmp .ge 14, 3) := dkg_X2_10.2.1
theorem dX2_resize_22 : decode cX2_resize 22 = .ok (.aload_n 0, 1) := dkg_X2_10.2.2.1
theorem dX2_resize_23 : decode cX2_resize 23 = .ok (.iconst 0, 1) := dkg_X2_10.2.2.2.1
theorem dX2_resize_24 : decode cX2_resize 24 = .ok (.invokevirtual 23, 3) := dkg_X2_10.2.2.2.2.1
theorem dX2_resize_27 : decode cX2_resize 27 = .ok (.iinc 2 1, 3) := dkg_X2_10.2.2.2.2.2.1
theorem dX2_resize_30 : decode cX2_resize 30 = .ok (.goto (-13), 3) := dkg_X2_10.2.2.2.2.2.2.1
theorem dX2_resize_33 : decode cX2_resize 33 = .ok (.return_, 1) := dkg_X2_10.2.2.2.2.2.2.2.1
theorem dkg_X2_11 : dkp cX2_indent [(0, .iload_n 1, 1), (1, .ifCond .le 22, 3), (4, .aload_n 0, 1), (5, .getfield 15, 3), (8, .ifCond .eq 15, 3), (11, .iload_n 1, 1), (12, .sipush 200, 3), (15, .aload_n 0, 1), (16, .getfield 15, 3), (19, .isub, 1)] := dkf (by decide +kernel)
theorem dX2_indent_0 : decode cX2_indent 0 = .ok (.iload_n 1, 1) := dkg_X2_11.1
theorem dX2_indent_1 : decode cX2_indent 1 = .ok (.ifCond .le 22, 3) := dkg_X2_11.2.1
theorem dX2_indent_4 : decode cX2_indent 4 = .ok (.aload_n 0, 1) := dkg_X2_11.2.2.1
theorem dX2_indent_5 : decode cX2_indent 5 = .ok (.getfield 15, 3) := dkg_X2_11.2.2.2.1
theorem dX2_indent_8 : decode cX2_indent 8 = .ok (.ifCond .eq 15, 3) := dkg_X2_11.2.2.2.2.1
theorem dX2_indent_11 : decode cX2_indent 11 = .ok (.iload_n 1, 1) := dkg_X2_11.2.2.2.2.2.1
theorem dX2_indent_12 : decode cX2_indent 12 = .ok (.sipush 200, 3) := dkg_X2_11.2.2.2.2.2.2.1
theorem dX2_indent_15 : decode cX2_indent 15 = .ok (.aload_n 0, 1) := dkg_X2_11.2.2.2.2.2.2.2.1
theorem dX2_indent_16 : decode cX2_indent 16 = .ok (.getfield 15, 3) := dkg_X2_11.2.2.2.2.2.2.2.2.1
theorem dX2_indent_19 : decode cX2_indent 19 = .ok (.isub, 1) := dkg_X2_11.2.2.2.2.2.2.2.2.2.1
theorem dkg_X2_12 : dkp cX2_indent [(20, .if_icmp .le 4, 3), (23, .return_, 1), (24, .aload_n 0, 1), (25, .getfield 9, 3), (28, .iconst 0, 1), (29, .aload_n 0, 1), (30, .getfield 9, 3), (33, .iload_n 1, 1), (34, .aload_n 0, 1), (35, .getfield 15, 3)] := dkf (by decide +kernel)
theorem dX2_indent_20 : decode cX2_indent 20 = .ok (.if_icmp .le 4, 3) := dkg_X2_12.1
theorem dX2_indent_23 : decode cX2_indent 23 = .ok (.return_, 1) := dkg_X2_12.2.1
theorem dX2_indent_24 : decode cX2_indent 24 = .ok (.aload_n 0, 1) := dkg_X2_12.2.2.1
theorem dX2_indent_25 : decode cX2_indent 25 = .ok (.getfield 9, 3) := dkg_X2_12.2.2.2.1
theorem dX2_indent_28 : decode cX2_indent 28 = .ok (.iconst 0, 1) := dkg_X2_12.2.2.2.2.1
theorem dX2_indent_29 : decode cX2_indent 29 = .ok (.aload_n 0, 1) := dkg_X2_12.2.2.2.2.2.1
theorem dX2_indent_30 : decode cX2_indent 30 = .ok (.getfield 9, 3) := dkg_X2_12.2.2.2.2.2.2.1
theorem dX2_indent_33 : decode cX2_indent 33 = .ok (.iload_n 1, 1) := dkg_X2_12.2.2.2.2.2.2.2.1
theorem dX2_indent_34 : decode cX2_indent 34 = .ok (.aload_n 0, 1) := dkg_X2_12.2.2.2.2.2.2.2.2.1
theorem dX2_indent_35 : decode cX2_indent 35 = .ok (.getfield 15, 3) := dkg_X2_12.2.2.2.2.2.2.2.2.2.1
theorem dkg_X2_13 : dkp cX2_indent [(38, .invokestatic 36, 3), (41, .iconst 0, 1), (42, .istore_n 2, 1), (43, .iload_n 2, 1), (44, .iload_n 1, 1), (45, .if_icmp .ge 16, 3), (48, .aload_n 0, 1), (49, .getfield 9, 3), (52, .iload_n 2, 1), (53, .iconst 0, 1)] := dkf (by decide +kernel)
theorem dX2_indent_38 : decode cX2_indent 38 = .ok (.invokestatic 36, 3) := dkg_X2_13.1
theorem dX2_indent_41 : decode cX2_indent 41 = .ok (.iconst 0, 1) := dkg_X2_13.2.1
theorem dX2_indent_42 : decode cX2_indent 42 = .ok (.istore_n 2, 1) := dkg_X2_13.2.2.1
theorem dX2_indent_43 : decode cX2_indent 43 = .ok (.iload_n 2, 1) := dkg_X2_13.2.2.2.1
theorem dX2_indent_44 : decode cX2_indent 44 = .ok (.iload_n 1, 1) := dkg_X2_13.2.2.2.2.1
theorem dX2_indent_45 : decode cX2_indent 45 = .ok (.if_icmp .ge 16, 3) := dkg_X2_13.2.2.2.2.2.1
theorem dX2_indent_48 : decode cX2_indent 48 = .ok (.aload_n 0, 1) := dkg_X2_13.2.2.2.2.2.2.1
theorem dX2_indent_49 : decode cX2_indent 49 = .ok (.getfield 9, 3) := dkg_X2_13.2.2.2.2.2.2.2.1
theorem dX2_indent_52 : decode cX2_indent 52 = .ok (.iload_n 2, 1) := dkg_X2_13.2.2.2.2.2.2.2.2.1
theorem dX2_indent_53 : decode cX2_indent 53 = .ok (.iconst 0, 1) := dkg_X2_13.2.2.2.2.2.2.2.2.2.1
theorem dkg_X2_14 : dkp cX2_indent [(54, .iastore, 1), (55, .iinc 2 1, 3), (58, .goto (-15), 3), (61, .aload_n 0, 1), (62, .dup, 1), (63, .getfield 15, 3), (66, .iload_n 1, 1), (67, .iadd, 1), (68, .putfield 15, 3), (71, .return_, 1)] := dkf (by decide +kernel)
theorem dX2_indent_54 : decode cX2_indent 54 = .ok (.iastore, 1) := dkg_X2_14.1
theorem dX2_indent_55 : decode cX2_indent 55 = .ok (.iinc 2 1, 3) := dkg_X2_14.2.1
theorem dX2_indent_58 : decode cX2_indent 58 = .ok (.goto (-15), 3) := dkg_X2_14.2.2.1
theorem dX2_indent_61 : decode cX2_indent 61 = .ok (.aload_n 0, 1) := dkg_X2_14.2.2.2.1
theorem dX2_indent_62 : decode cX2_indent 62 = .ok (.dup, 1) := dkg_X2_14.2.2.2.2.1
theorem dX2_indent_63 : decode cX2_indent 63 = .ok (.getfield 15, 3) := dkg_X2_14.2.2.2.2.2.1
theorem dX2_indent_66 : decode cX2_indent 66 = .ok (.iload_n 1, 1) := dkg_X2_14.2.2.2.2.2.2.1
theorem dX2_indent_67 : decode cX2_indent 67 = .ok (.iadd, 1) := dkg_X2_14.2.2.2.2.2.2.2.1
theorem dX2_indent_68 : decode cX2_indent 68 = .ok (.putfield 15, 3) := dkg_X2_14.2.2.2.2.2.2.2.2.1
theorem dX2_indent_71 : decode cX2_indent 71 = .ok (.return_, 1) := dkg_X2_14.2.2.2.2.2.2.2.2.2.1
theorem dkg_X2_15 : dkp cX2_become [(0, .aload_n 1, 1), (1, .getfield 9, 3), (4, .iconst 0, 1), (5, .aload_n 0, 1), (6, .getfield 9, 3), (9, .iconst 0, 1), (10, .aload_n 1, 1), (11, .getfield 15, 3), (14, .invokestatic 36, 3), (17, .aload_n 0, 1)] := dkf (by decide +kernel)
theorem dX2_become_0 : decode cX2_become 0 = .ok (.aload_n 1, 1) := dkg_X2_15.1
theorem dX2_become_1 : decode cX2_become 1 = .ok (.getfield 9, 3) := dkg_X2_15.2.1
theorem dX2_become_4 : decode cX2_become 4 = .ok (.iconst 0, 1) := dkg_X2_15.2.2.1
theorem dX2_become_5 : decode cX2_become 5 = .ok (.aload_n 0, 1) := dkg_X2_15.2.2.2.1
theorem dX2_become_6 : decode cX2_become 6 = .ok (.getfield 9, 3) := dkg_X2_15.2.2.2.2.1
theorem dX2_become_9 : decode cX2_become 9 = .ok (.iconst 0, 1) := dkg_X2_15.2.2.2.2.2.1
theorem dX2_become_10 : decode cX2_become 10 = .ok (.aload_n 1, 1) := dkg_X2_15.2.2.2.2.2.2.1
theorem dX2_become_11 : decode cX2_become 11 = .ok (.getfield 15, 3) := dkg_X2_15.2.2.2.2.2.2.2.1
theorem dX2_become_14 : decode cX2_become 14 = .ok (.invokestatic 36, 3) := dkg_X2_15.2.2.2.2.2.2.2.2.1
theorem dX2_become_17 : decode cX2_become 17 = .ok (.aload_n 0, 1) := dkg_X2_15.2.2.2.2.2.2.2.2.2.1
theorem dkg_X2_16 : dkp cX2_become [(18, .aload_n 1, 1), (19, .getfield 15, 3), (22, .putfield 15, 3), (25, .aload_n 0, 1), (26, .aload_n 1, 1), (27, .getfield 19, 3), (30, .putfield 19, 3), (33, .return_, 1)] := dkf (by decide +kernel)
theorem dX2_become_18 : decode cX2_become 18 = .ok (.aload_n 1, 1) := dkg_X2_16.1
theorem dX2_become_19 : decode cX2_become 19 = .ok (.getfield 15, 3) := dkg_X2_16.2.1
theorem dX2_become_22 : decode cX2_become 22 = .ok (.putfield 15, 3) := dkg_X2_16.2.2.1
theorem dX2_become_25 : decode cX2_become 25 = .ok (.aload_n 0, 1) := dkg_X2_16.2.2.2.1
theorem dX2_become_26 : decode cX2_become 26 = .ok (.aload_n 1, 1) := dkg_X2_16.2.2.2.2.1
theorem dX2_become_27 : decode cX2_become 27 = .ok (.getfield 19, 3) := dkg_X2_16.2.2.2.2.2.1
theorem dX2_become_30 : decode cX2_become 30 = .ok (.putfield 19, 3) := dkg_X2_16.2.2.2.2.2.2.1
theorem dX2_become_33 : decode cX2_become 33 = .ok (.return_, 1) := dkg_X2_16.2.2.2.2.2.2.2.1
theorem dkg_X2_17 : dkp cX2_hasCells [(0, .iload_n 2, 1), (1, .ifCond .lt 29, 3), (4, .iload_n 1, 1), (5, .ifCond .lt 25, 3), (8, .iload_n 1, 1), (9, .aload_n 0, 1), (10, .getfield 15, 3), (13, .if_icmp .gt 17, 3), (16, .iload_n 2, 1), (17, .aload_n 0, 1)] := dkf (by decide +kernel)
theorem dX2_hasCells_0 : decode cX2_hasCells 0 = .ok (.iload_n 2, 1) := dkg_X2_17.1
theorem dX2_hasCells_1 : decode cX2_hasCells 1 = .ok (.ifCond .lt 29, 3) := dkg_X2_17.2.1
theorem dX2_hasCells_4 : decode cX2_hasCells 4 = .ok (.iload_n 1, 1) := dkg_X2_17.2.2.1
theorem dX2_hasCells_5 : decode cX2_hasCells 5 = .ok (.ifCond .lt 25, 3) := dkg_X2_17.2.2.2.1
theorem dX2_hasCells_8 : decode cX2_hasCells 8 = .ok (.iload_n 1, 1) := dkg_X2_17.2.2.2.2.1
theorem dX2_hasCells_9 : decode cX2_hasCells 9 = .ok (.aload_n 0, 1) := dkg_X2_17.2.2.2.2.2.1
theorem dX2_hasCells_10 : decode cX2_hasCells 10 = .ok (.getfield 15, 3) := dkg_X2_17.2.2.2.2.2.2.1
theorem dX2_hasCells_13 : decode cX2_hasCells 13 = .ok (.if_icmp .gt 17, 3) := dkg_X2_17.2.2.2.2.2.2.2.1
theorem dX2_hasCells_16 : decode cX2_hasCells 16 = .ok (.iload_n 2, 1) := dkg_X2_17.2.2.2.2.2.2.2.2.1
theorem dX2_hasCells_17 : decode cX2_hasCells 17 = .ok (.aload_n 0, 1) := dkg_X2_17.2.2.2.2.2.2.2.2.2.1
theorem dkg_X2_18 : dkp cX2_hasCells [(18, .getfield 15, 3), (21, .iload_n 1, 1), (22, .isub, 1), (23, .if_icmp .gt 7, 3), (26, .iconst 1, 1), (27, .goto 4, 3), (30, .iconst 0, 1), (31, .ireturn, 1)] := dkf (by decide +kernel)
theorem dX2_hasCells_18 : decode cX2_hasCells 18 = .ok (.getfield 15, 3) := dkg_X2_18.1
theorem dX2_hasCells_21 : decode cX2_hasCells 21 = .ok (.iload_n 1, 1) := dkg_X2_18.2.1
theorem dX2_hasCells_22 : decode cX2_hasCells 22 = .ok (.isub, 1) := dkg_X2_18.2.2.1
theorem dX2_hasCells_23 : decode cX2_hasCells 23 = .ok (.if_icmp .gt 7, 3) := dkg_X2_18.2.2.2.1
theorem dX2_hasCells_26 : decode cX2_hasCells 26 = .ok (.iconst 1, 1) := dkg_X2_18.2.2.2.2.1
theorem dX2_hasCells_27 : decode cX2_hasCells 27 = .ok (.goto 4, 3) := dkg_X2_18.2.2.2.2.2.1
theorem dX2_hasCells_30 : decode cX2_hasCells 30 = .ok (.iconst 0, 1) := dkg_X2_18.2.2.2.2.2.2.1
theorem dX2_hasCells_31 : decode cX2_hasCells 31 = .ok (.ireturn, 1) := dkg_X2_18.2.2.2.2.2.2.2.1
theorem dkg_X2_19 : dkp cX2_endsWith [(0, .aload_n 0, 1), (1, .getfield 15, 3), (4, .ifCond .le 22, 3), (7, .aload_n 0, 1), (8, .getfield 9, 3), (11, .aload_n 0, 1), (12, .getfield 15, 3), (15, .iconst 1, 1), (16, .isub, 1), (17, .iaload, 1)] := dkf (by decide +kernel)
theorem dX2_endsWith_0 : decode cX2_endsWith 0 = .ok (.aload_n 0, 1) := dkg_X2_19.1
theorem dX2_endsWith_1 : decode cX2_endsWith 1 = .ok (.getfield 15, 3) := dkg_X2_19.2.1
theorem dX2_endsWith_4 : decode cX2_endsWith 4 = .ok (.ifCond .le 22, 3) := dkg_X2_19.2.2.1
theorem dX2_endsWith_7 : decode cX2_endsWith 7 = .ok (.aload_n 0, 1) := dkg_X2_19.2.2.2.1
theorem dX2_endsWith_8 : decode cX2_endsWith 8 = .ok (.getfield 9, 3) := dkg_X2_19.2.2.2.2.1
theorem dX2_endsWith_11 : decode cX2_endsWith 11 = .ok (.aload_n 0, 1) := dkg_X2_19.2.2.2.2.2.1
theorem dX2_endsWith_12 : decode cX2_endsWith 12 = .ok (.getfield 15, 3) := dkg_X2_19.2.2.2.2.2.2.1
theorem dX2_endsWith_15 : decode cX2_endsWith 15 = .ok (.iconst 1, 1) := dkg_X2_19.2.2.2.2.2.2.2.1
theorem dX2_endsWith_16 : decode cX2_endsWith 16 = .ok (.isub, 1) := dkg_X2_19.2.2.2.2.2.2.2.2.1
theorem dX2_endsWith_17 : decode cX2_endsWith 17 = .ok (.iaload, 1) := dkg_X2_19.2.2.2.2.2.2.2.2.2.1
theorem dkg_X2_20 : dkp cX2_endsWith [(18, .iload_n 1, 1), (19, .if_icmp .ne 7, 3), (22, .iconst 1, 1), (23, .goto 4, 3), (26, .iconst 0, 1), (27, .ireturn, 1)] := dkf (by decide +kernel)
theorem dX2_endsWith_18 : decode cX2_endsWith 18 = .ok (.iload_n 1, 1) := dkg_X2_20.1
theorem dX2_endsWith_19 : decode cX2_endsWith 19 = .ok (.if_icmp .ne 7, 3) := dkg_X2_20.2.1
theorem dX2_endsWith_22 : decode cX2_endsWith 22 = .ok (.iconst 1, 1) := dkg_X2_20.2.2.1
theorem dX2_endsWith_23 : decode cX2_endsWith 23 = .ok (.goto 4, 3) := dkg_X2_20.2.2.2.1
theorem dX2_endsWith_26 : decode cX2_endsWith 26 = .ok (.iconst 0, 1) := dkg_X2_20.2.2.2.2.1
theorem dX2_endsWith_27 : decode cX2_endsWith 27 = .ok (.ireturn, 1) := dkg_X2_20.2.2.2.2.2.1
theorem dkg_X2_21 : dkp cX2_dots [(0, .iconst 0, 1), (1, .istore_n 1, 1), (2, .iconst 0, 1), (3, .istore_n 2, 1), (4, .iload_n 2, 1), (5, .aload_n 0, 1), (6, .getfield 15, 3), (9, .if_icmp .ge 21, 3), (12, .iload_n 1, 1), (13, .aload_n 0, 1)] := dkf (by decide +kernel)
theorem dX2_dots_0 : decode cX2_dots 0 = .ok (.iconst 0, 1) := dkg_X2_21.1
theorem dX2_dots_1 : decode cX2_dots 1 = .ok (.istore_n 1, 1) := dkg_X2_21.2.1
theorem dX2_dots_2 : decode cX2_dots 2 = .ok (.iconst 0, 1) := dkg_X2_21.2.2.1
theorem dX2_dots_3 : decode cX2_dots 3 = .ok (.istore_n 2, 1) := dkg_X2_21.2.2.2.1
theorem dX2_dots_4 : decode cX2_dots 4 = .ok (.iload_n 2, 1) := dkg_X2_21.2.2.2.2.1
theorem dX2_dots_5 : decode cX2_dots 5 = .ok (.aload_n 0, 1) := dkg_X2_21.2.2.2.2.2.1
theorem dX2_dots_6 : decode cX2_dots 6 = .ok (.getfield 15, 3) := dkg_X2_21.2.2.2.2.2.2.1
theorem dX2_dots_9 : decode cX2_dots 9 = .ok (.if_icmp .ge 21, 3) := dkg_X2_21.2.2.2.2.2.2.2.1
theorem dX2_dots_12 : decode cX2_dots 12 = .ok (.iload_n 1, 1) := dkg_X2_21.2.2.2.2.2.2.2.2.1
theorem dX2_dots_13 : decode cX2_dots 13 = .ok (.aload_n 0, 1) := dkg_X2_21.2.2.2.2.2.2.2.2.2.1
theorem dkg_X2_22 : dkp cX2_dots [(14, .getfield 9, 3), (17, .iload_n 2, 1), (18, .iaload, 1), (19, .invokestatic 42, 3), (22, .iadd, 1), (23, .istore_n 1, 1), (24, .iinc 2 1, 3), (27, .goto (-23), 3), (30, .iload_n 1, 1), (31, .ireturn, 1)] := dkf (by decide +kernel)
theorem dX2_dots_14 : decode cX2_dots 14 = .ok (.getfield 9, 3) := dkg_X2_22.1
theorem dX2_dots_17 : decode cX2_dots 17 = .ok (.iload_n 2, 1) := dkg_X2_22.2.1
theorem dX2_dots_18 : decode cX2_dots 18 = .ok (.iaload, 1) := dkg_X2_22.2.2.1
theorem dX2_dots_19 : decode cX2_dots 19 = .ok (.invokestatic 42, 3) := dkg_X2_22.2.2.2.1
theorem dX2_dots_22 : decode cX2_dots 22 = .ok (.iadd, 1) := dkg_X2_22.2.2.2.2.1
theorem dX2_dots_23 : decode cX2_dots 23 = .ok (.istore_n 1, 1) := dkg_X2_22.2.2.2.2.2.1
theorem dX2_dots_24 : decode cX2_dots 24 = .ok (.iinc 2 1, 3) := dkg_X2_22.2.2.2.2.2.2.1
theorem dX2_dots_27 : decode cX2_dots 27 = .ok (.goto (-23), 3) := dkg_X2_22.2.2.2.2.2.2.2.1
theorem dX2_dots_30 : decode cX2_dots 30 = .ok (.iload_n 1, 1) := dkg_X2_22.2.2.2.2.2.2.2.2.1
theorem dX2_dots_31 : decode cX2_dots 31 = .ok (.ireturn, 1) := dkg_X2_22.2.2.2.2.2.2.2.2.2.1
