theorem dkg_X5_0 : dkp cX5_init [(0, .aload_n 0, 1), (1, .invokespecial 3, 3), (4, .aload_n 0, 1), (5, .iconst 0, 1), (6, .putfield 9, 3), (9, .aload_n 0, 1), (10, .iload_n 1, 1), (11, .putfield 15, 3), (14, .aload_n 0, 1), (15, .aload_n 2, 1)] := dkf (by decide +kernel)
theorem dX5_init_0 : decode cX5_init 0 = .ok (.aload_n 0, 1) := dkg_X5_0.1
theorem dX5_init_1 : decode cX5_init 1 = .ok (.invokespecial 3, 3) := dkg_X5_0.2.1
theorem dX5_init_4 : decode cX5_init 4 = .ok (.aload_n 0, 1) := dkg_X5_0.2.2.1
theorem dX5_init_5 : decode cX5_init 5 = .ok (.iconst 0, 1) := dkg_X5_0.2.2.2.1
theorem dX5_init_6 : decode cX5_init 6 = .ok (.putfield 9, 3) := dkg_X5_0.2.2.2.2.1
theorem dX5_init_9 : decode cX5_init 9 = .ok (.aload_n 0, 1) := dkg_X5_0.2.2.2.2.2.1
theorem dX5_init_10 : decode cX5_init 10 = .ok (.iload_n 1, 1) := dkg_X5_0.2.2.2.2.2.2.1
theorem dX5_init_11 : decode cX5_init 11 = .ok (.putfield 15, 3) := dkg_X5_0.2.2.2.2.2.2.2.1
theorem dX5_init_14 : decode cX5_init 14 = .ok (.aload_n 0, 1) := dkg_X5_0.2.2.2.2.2.2.2.2.1
theorem dX5_init_15 : decode cX5_init 15 = .ok (.aload_n 2, 1) := dkg_X5_0.2.2.2.2.2.2.2.2.2.1
theorem dkg_X5_1 : dkp cX5_init [(16, .putfield 18, 3), (19, .aload_n 0, 1), (20, .aload_n 3, 1), (21, .putfield 22, 3), (24, .return_, 1)] := dkf (by decide +kernel)
theorem dX5_init_16 : decode cX5_init 16 = .ok (.putfield 18, 3) := dkg_X5_1.1
theorem dX5_init_19 : decode cX5_init 19 = .ok (.aload_n 0, 1) := dkg_X5_1.2.1
theorem dX5_init_20 : decode cX5_init 20 = .ok (.aload_n 3, 1) := dkg_X5_1.2.2.1
theorem dX5_init_21 : decode cX5_init 21 = .ok (.putfield 22, 3) := dkg_X5_1.2.2.2.1
theorem dX5_init_24 : decode cX5_init 24 = .ok (.return_, 1) := dkg_X5_1.2.2.2.2.1
theorem dkg_X5_2 : dkp cX5_beginsSmall [(0, .aload_n 0, 1), (1, .getfield 15, 3), (4, .iconst 4, 1), (5, .if_icmp .ne 27, 3), (8, .aload_n 0, 1), (9, .getfield 18, 3), (12, .arraylength, 1), (13, .ifCond .le 19, 3), (16, .aload_n 0, 1), (17, .getfield 18, 3)] := dkf (by decide +kernel)
theorem dX5_beginsSmall_0 : decode cX5_beginsSmall 0 = .ok (.aload_n 0, 1) := dkg_X5_2.1
theorem dX5_beginsSmall_1 : decode cX5_beginsSmall 1 = .ok (.getfield 15, 3) := dkg_X5_2.2.1
theorem dX5_beginsSmall_4 : decode cX5_beginsSmall 4 = .ok (.iconst 4, 1) := dkg_X5_2.2.2.1
theorem dX5_beginsSmall_5 : decode cX5_beginsSmall 5 = .ok (.if_icmp .ne 27, 3) := dkg_X5_2.2.2.2.1
theorem dX5_beginsSmall_8 : decode cX5_beginsSmall 8 = .ok (.aload_n 0, 1) := dkg_X5_2.2.2.2.2.1
theorem dX5_beginsSmall_9 : decode cX5_beginsSmall 9 = .ok (.getfield 18, 3) := dkg_X5_2.2.2.2.2.2.1
theorem dX5_beginsSmall_12 : decode cX5_beginsSmall 12 = .ok (.arraylength, 1) := dkg_X5_2.2.2.2.2.2.2.1
theorem dX5_beginsSmall_13 : decode cX5_beginsSmall 13 = .ok (.ifCond .le 19, 3) := dkg_X5_2.2.2.2.2.2.2.2.1
theorem dX5_beginsSmall_16 : decode cX5_beginsSmall 16 = .ok (.aload_n 0, 1) := dkg_X5_2.2.2.2.2.2.2.2.2.1
theorem dX5_beginsSmall_17 : decode cX5_beginsSmall 17 = .ok (.getfield 18, 3) := dkg_X5_2.2.2.2.2.2.2.2.2.2.1
theorem dkg_X5_3 : dkp cX5_beginsSmall [(20, .iconst 0, 1), (21, .iaload, 1), (22, .invokestatic 25, 3), (25, .ifCond .eq 7, 3), (28, .iconst 1, 1), (29, .goto 4, 3), (32, .iconst 0, 1), (33, .ireturn, 1)] := dkf (by decide +kernel)
theorem dX5_beginsSmall_20 : decode cX5_beginsSmall 20 = .ok (.iconst 0, 1) := dkg_X5_3.1
theorem dX5_beginsSmall_21 : decode cX5_beginsSmall 21 = .ok (.iaload, 1) := dkg_X5_3.2.1
theorem dX5_beginsSmall_22 : decode cX5_beginsSmall 22 = .ok (.invokestatic 25, 3) := dkg_X5_3.2.2.1
theorem dX5_beginsSmall_25 : decode cX5_beginsSmall 25 = .ok (.ifCond .eq 7, 3) := dkg_X5_3.2.2.2.1
theorem dX5_beginsSmall_28 : decode cX5_beginsSmall 28 = .ok (.iconst 1, 1) := dkg_X5_3.2.2.2.2.1
theorem dX5_beginsSmall_29 : decode cX5_beginsSmall 29 = .ok (.goto 4, 3) := dkg_X5_3.2.2.2.2.2.1
theorem dX5_beginsSmall_32 : decode cX5_beginsSmall 32 = .ok (.iconst 0, 1) := dkg_X5_3.2.2.2.2.2.2.1
theorem dX5_beginsSmall_33 : decode cX5_beginsSmall 33 = .ok (.ireturn, 1) := dkg_X5_3.2.2.2.2.2.2.2.1
theorem dkg_X5_4 : dkp cX5_alike [(0, .aload_n 0, 1), (1, .getfield 22, 3), (4, .arraylength, 1), (5, .aload_n 1, 1), (6, .getfield 22, 3), (9, .arraylength, 1), (10, .invokestatic 29, 3), (13, .istore_n 2, 1), (14, .iconst 0, 1), (15, .istore_n 3, 1)] := dkf (by decide +kernel)
theorem dX5_alike_0 : decode cX5_alike 0 = .ok (.aload_n 0, 1) := dkg_X5_4.1
theorem dX5_alike_1 : decode cX5_alike 1 = .ok (.getfield 22, 3) := dkg_X5_4.2.1
theorem dX5_alike_4 : decode cX5_alike 4 = .ok (.arraylength, 1) := dkg_X5_4.2.2.1
theorem dX5_alike_5 : decode cX5_alike 5 = .ok (.aload_n 1, 1) := dkg_X5_4.2.2.2.1
theorem dX5_alike_6 : decode cX5_alike 6 = .ok (.getfield 22, 3) := dkg_X5_4.2.2.2.2.1
theorem dX5_alike_9 : decode cX5_alike 9 = .ok (.arraylength, 1) := dkg_X5_4.2.2.2.2.2.1
theorem dX5_alike_10 : decode cX5_alike 10 = .ok (.invokestatic 29, 3) := dkg_X5_4.2.2.2.2.2.2.1
theorem dX5_alike_13 : decode cX5_alike 13 = .ok (.istore_n 2, 1) := dkg_X5_4.2.2.2.2.2.2.2.1
theorem dX5_alike_14 : decode cX5_alike 14 = .ok (.iconst 0, 1) := dkg_X5_4.2.2.2.2.2.2.2.2.1
theorem dX5_alike_15 : decode cX5_alike 15 = .ok (.istore_n 3, 1) := dkg_X5_4.2.2.2.2.2.2.2.2.2.1
theorem dkg_X5_5 : dkp cX5_alike [(16, .iload_n 3, 1), (17, .iload_n 2, 1), (18, .if_icmp .ge 26, 3), (21, .aload_n 0, 1), (22, .getfield 22, 3), (25, .iload_n 3, 1), (26, .iaload, 1), (27, .aload_n 1, 1), (28, .getfield 22, 3), (31, .iload_n 3, 1)] := dkf (by decide +kernel)
theorem dX5_alike_16 : decode cX5_alike 16 = .ok (.iload_n 3, 1) := dkg_X5_5.1
theorem dX5_alike_17 : decode cX5_alike 17 = .ok (.iload_n 2, 1) := dkg_X5_5.2.1
theorem dX5_alike_18 : decode cX5_alike 18 = .ok (.if_icmp .ge 26, 3) := dkg_X5_5.2.2.1
theorem dX5_alike_21 : decode cX5_alike 21 = .ok (.aload_n 0, 1) := dkg_X5_5.2.2.2.1
theorem dX5_alike_22 : decode cX5_alike 22 = .ok (.getfield 22, 3) := dkg_X5_5.2.2.2.2.1
theorem dX5_alike_25 : decode cX5_alike 25 = .ok (.iload_n 3, 1) := dkg_X5_5.2.2.2.2.2.1
theorem dX5_alike_26 : decode cX5_alike 26 = .ok (.iaload, 1) := dkg_X5_5.2.2.2.2.2.2.1
theorem dX5_alike_27 : decode cX5_alike 27 = .ok (.aload_n 1, 1) := dkg_X5_5.2.2.2.2.2.2.2.1
theorem dX5_alike_28 : decode cX5_alike 28 = .ok (.getfield 22, 3) := dkg_X5_5.2.2.2.2.2.2.2.2.1
theorem dX5_alike_31 : decode cX5_alike 31 = .ok (.iload_n 3, 1) := dkg_X5_5.2.2.2.2.2.2.2.2.2.1
theorem dkg_X5_6 : dkp cX5_alike [(32, .iaload, 1), (33, .if_icmp .eq 5, 3), (36, .iload_n 3, 1), (37, .ireturn, 1), (38, .iinc 3 1, 3), (41, .goto (-25), 3), (44, .iload_n 2, 1), (45, .ireturn, 1)] := dkf (by decide +kernel)
theorem dX5_alike_32 : decode cX5_alike 32 = .ok (.iaload, 1) := dkg_X5_6.1
theorem dX5_alike_33 : decode cX5_alike 33 = .ok (.if_icmp .eq 5, 3) := dkg_X5_6.2.1
theorem dX5_alike_36 : decode cX5_alike 36 = .ok (.iload_n 3, 1) := dkg_X5_6.2.2.1
theorem dX5_alike_37 : decode cX5_alike 37 = .ok (.ireturn, 1) := dkg_X5_6.2.2.2.1
theorem dX5_alike_38 : decode cX5_alike 38 = .ok (.iinc 3 1, 3) := dkg_X5_6.2.2.2.2.1
theorem dX5_alike_41 : decode cX5_alike 41 = .ok (.goto (-25), 3) := dkg_X5_6.2.2.2.2.2.1
theorem dX5_alike_44 : decode cX5_alike 44 = .ok (.iload_n 2, 1) := dkg_X5_6.2.2.2.2.2.2.1
theorem dX5_alike_45 : decode cX5_alike 45 = .ok (.ireturn, 1) := dkg_X5_6.2.2.2.2.2.2.2.1
theorem dkg_X5_7 : dkp cX5_isAtBeginOf [(0, .aload_n 0, 1), (1, .aload_n 1, 1), (2, .invokevirtual 35, 3), (5, .aload_n 0, 1), (6, .getfield 22, 3), (9, .arraylength, 1), (10, .if_icmp .ne 7, 3), (13, .iconst 1, 1), (14, .goto 4, 3), (17, .iconst 0, 1)] := dkf (by decide +kernel)
theorem dX5_isAtBeginOf_0 : decode cX5_isAtBeginOf 0 = .ok (.aload_n 0, 1) := dkg_X5_7.1
theorem dX5_isAtBeginOf_1 : decode cX5_isAtBeginOf 1 = .ok (.aload_n 1, 1) := dkg_X5_7.2.1
theorem dX5_isAtBeginOf_2 : decode cX5_isAtBeginOf 2 = .ok (.invokevirtual 35, 3) := dkg_X5_7.2.2.1
theorem dX5_isAtBeginOf_5 : decode cX5_isAtBeginOf 5 = .ok (.aload_n 0, 1) := dkg_X5_7.2.2.2.1
theorem dX5_isAtBeginOf_6 : decode cX5_isAtBeginOf 6 = .ok (.getfield 22, 3) := dkg_X5_7.2.2.2.2.1
theorem dX5_isAtBeginOf_9 : decode cX5_isAtBeginOf 9 = .ok (.arraylength, 1) := dkg_X5_7.2.2.2.2.2.1
theorem dX5_isAtBeginOf_10 : decode cX5_isAtBeginOf 10 = .ok (.if_icmp .ne 7, 3) := dkg_X5_7.2.2.2.2.2.2.1
theorem dX5_isAtBeginOf_13 : decode cX5_isAtBeginOf 13 = .ok (.iconst 1, 1) := dkg_X5_7.2.2.2.2.2.2.2.1
theorem dX5_isAtBeginOf_14 : decode cX5_isAtBeginOf 14 = .ok (.goto 4, 3) := dkg_X5_7.2.2.2.2.2.2.2.2.1
theorem dX5_isAtBeginOf_17 : decode cX5_isAtBeginOf 17 = .ok (.iconst 0, 1) := dkg_X5_7.2.2.2.2.2.2.2.2.2.1
theorem dkg_X5_8 : dkp cX5_isAtBeginOf [(18, .ireturn, 1)] := dkf (by decide +kernel)
theorem dX5_isAtBeginOf_18 : decode cX5_isAtBeginOf 18 = .ok (.ireturn, 1) := dkg_X5_8.1
theorem dkg_X5_9 : dkp cX5_endsWith [(0, .aload_n 0, 1), (1, .getfield 22, 3), (4, .arraylength, 1), (5, .ifCond .le 23, 3), (8, .aload_n 0, 1), (9, .getfield 22, 3), (12, .aload_n 0, 1), (13, .getfield 22, 3), (16, .arraylength, 1), (17, .iconst 1, 1)] := dkf (by decide +kernel)
theorem dX5_endsWith_0 : decode cX5_endsWith 0 = .ok (.aload_n 0, 1) := dkg_X5_9.1
theorem dX5_endsWith_1 : decode cX5_endsWith 1 = .ok (.getfield 22, 3) := dkg_X5_9.2.1
theorem dX5_endsWith_4 : decode cX5_endsWith 4 = .ok (.arraylength, 1) := dkg_X5_9.2.2.1
theorem dX5_endsWith_5 : decode cX5_endsWith 5 = .ok (.ifCond .le 23, 3) := dkg_X5_9.2.2.2.1
theorem dX5_endsWith_8 : decode cX5_endsWith 8 = .ok (.aload_n 0, 1) := dkg_X5_9.2.2.2.2.1
theorem dX5_endsWith_9 : decode cX5_endsWith 9 = .ok (.getfield 22, 3) := dkg_X5_9.2.2.2.2.2.1
theorem dX5_endsWith_12 : decode cX5_endsWith 12 = .ok (.aload_n 0, 1) := dkg_X5_9.2.2.2.2.2.2.1
theorem dX5_endsWith_13 : decode cX5_endsWith 13 = .ok (.getfield 22, 3) := dkg_X5_9.2.2.2.2.2.2.2.1
theorem dX5_endsWith_16 : decode cX5_endsWith 16 = .ok (.arraylength, 1) := dkg_X5_9.2.2.2.2.2.2.2.2.1
theorem dX5_endsWith_17 : decode cX5_endsWith 17 = .ok (.iconst 1, 1) := dkg_X5_9.2.2.2.2.2.2.2.2.2.1
theorem dkg_X5_10 : dkp cX5_endsWith [(18, .isub, 1), (19, .iaload, 1), (20, .iload_n 1, 1), (21, .if_icmp .ne 7, 3), (24, .iconst 1, 1), (25, .goto 4, 3), (28, .iconst 0, 1), (29, .ireturn, 1)] := dkf (by decide +kernel)
theorem dX5_endsWith_18 : decode cX5_endsWith 18 = .ok (.isub, 1) := dkg_X5_10.1
theorem dX5_endsWith_19 : decode cX5_endsWith 19 = .ok (.iaload, 1) := dkg_X5_10.2.1
theorem dX5_endsWith_20 : decode cX5_endsWith 20 = .ok (.iload_n 1, 1) := dkg_X5_10.2.2.1
theorem dX5_endsWith_21 : decode cX5_endsWith 21 = .ok (.if_icmp .ne 7, 3) := dkg_X5_10.2.2.2.1
theorem dX5_endsWith_24 : decode cX5_endsWith 24 = .ok (.iconst 1, 1) := dkg_X5_10.2.2.2.2.1
theorem dX5_endsWith_25 : decode cX5_endsWith 25 = .ok (.goto 4, 3) := dkg_X5_10.2.2.2.2.2.1
theorem dX5_endsWith_28 : decode cX5_endsWith 28 = .ok (.iconst 0, 1) := dkg_X5_10.2.2.2.2.2.2.1
theorem dX5_endsWith_29 : decode cX5_endsWith 29 = .ok (.ireturn, 1) := dkg_X5_10.2.2.2.2.2.2.2.1
theorem dkg_X5_11 : dkp cX5_standsAt [(0, .iload_n 2, 1), (1, .ifCond .lt 17, 3), (4, .aload_n 0, 1), (5, .getfield 22, 3), (8, .arraylength, 1), (9, .aload_n 1, 1), (10, .getfield 39, 3), (13, .iload_n 2, 1), (14, .isub, 1), (15, .if_icmp .le 5, 3)] := dkf (by decide +kernel)
theorem dX5_standsAt_0 : decode cX5_standsAt 0 = .ok (.iload_n 2, 1) := dkg_X5_11.1
theorem dX5_standsAt_1 : decode cX5_standsAt 1 = .ok (.ifCond .lt 17, 3) := dkg_X5_11.2.1
theorem dX5_standsAt_4 : decode cX5_standsAt 4 = .ok (.aload_n 0, 1) := dkg_X5_11.2.2.1
theorem dX5_standsAt_5 : decode cX5_standsAt 5 = .ok (.getfield 22, 3) := dkg_X5_11.2.2.2.1
theorem dX5_standsAt_8 : decode cX5_standsAt 8 = .ok (.arraylength, 1) := dkg_X5_11.2.2.2.2.1
theorem dX5_standsAt_9 : decode cX5_standsAt 9 = .ok (.aload_n 1, 1) := dkg_X5_11.2.2.2.2.2.1
theorem dX5_standsAt_10 : decode cX5_standsAt 10 = .ok (.getfield 39, 3) := dkg_X5_11.2.2.2.2.2.2.1
theorem dX5_standsAt_13 : decode cX5_standsAt 13 = .ok (.iload_n 2, 1) := dkg_X5_11.2.2.2.2.2.2.2.1
theorem dX5_standsAt_14 : decode cX5_standsAt 14 = .ok (.isub, 1) := dkg_X5_11.2.2.2.2.2.2.2.2.1
theorem dX5_standsAt_15 : decode cX5_standsAt 15 = .ok (.if_icmp .le 5, 3) := dkg_X5_11.2.2.2.2.2.2.2.2.2.1
theorem dkg_X5_12 : dkp cX5_standsAt [(18, .iconst 0, 1), (19, .ireturn, 1), (20, .iconst 0, 1), (21, .istore_n 3, 1), (22, .iload_n 3, 1), (23, .aload_n 0, 1), (24, .getfield 22, 3), (27, .arraylength, 1), (28, .if_icmp .ge 28, 3), (31, .aload_n 0, 1)] := dkf (by decide +kernel)
theorem dX5_standsAt_18 : decode cX5_standsAt 18 = .ok (.iconst 0, 1) := dkg_X5_12.1
theorem dX5_standsAt_19 : decode cX5_standsAt 19 = .ok (.ireturn, 1) := dkg_X5_12.2.1
theorem dX5_standsAt_20 : decode cX5_standsAt 20 = .ok (.iconst 0, 1) := dkg_X5_12.2.2.1
theorem dX5_standsAt_21 : decode cX5_standsAt 21 = .ok (.istore_n 3, 1) := dkg_X5_12.2.2.2.1
theorem dX5_standsAt_22 : decode cX5_standsAt 22 = .ok (.iload_n 3, 1) := dkg_X5_12.2.2.2.2.1
theorem dX5_standsAt_23 : decode cX5_standsAt 23 = .ok (.aload_n 0, 1) := dkg_X5_12.2.2.2.2.2.1
theorem dX5_standsAt_24 : decode cX5_standsAt 24 = .ok (.getfield 22, 3) := dkg_X5_12.2.2.2.2.2.2.1
theorem dX5_standsAt_27 : decode cX5_standsAt 27 = .ok (.arraylength, 1) := dkg_X5_12.2.2.2.2.2.2.2.1
theorem dX5_standsAt_28 : decode cX5_standsAt 28 = .ok (.if_icmp .ge 28, 3) := dkg_X5_12.2.2.2.2.2.2.2.2.1
theorem dX5_standsAt_31 : decode cX5_standsAt 31 = .ok (.aload_n 0, 1) := dkg_X5_12.2.2.2.2.2.2.2.2.2.1
theorem dkg_X5_13 : dkp cX5_standsAt [(32, .getfield 22, 3), (35, .iload_n 3, 1), (36, .iaload, 1), (37, .aload_n 1, 1), (38, .getfield 44, 3), (41, .iload_n 2, 1), (42, .iload_n 3, 1), (43, .iadd, 1), (44, .iaload, 1), (45, .if_icmp .eq 5, 3)] := dkf (by decide +kernel)
theorem dX5_standsAt_32 : decode cX5_standsAt 32 = .ok (.getfield 22, 3) := dkg_X5_13.1
theorem dX5_standsAt_35 : decode cX5_standsAt 35 = .ok (.iload_n 3, 1) := dkg_X5_13.2.1
theorem dX5_standsAt_36 : decode cX5_standsAt 36 = .ok (.iaload, 1) := dkg_X5_13.2.2.1
theorem dX5_standsAt_37 : decode cX5_standsAt 37 = .ok (.aload_n 1, 1) := dkg_X5_13.2.2.2.1
theorem dX5_standsAt_38 : decode cX5_standsAt 38 = .ok (.getfield 44, 3) := dkg_X5_13.2.2.2.2.1
theorem dX5_standsAt_41 : decode cX5_standsAt 41 = .ok (.iload_n 2, 1) := dkg_X5_13.2.2.2.2.2.1
theorem dX5_standsAt_42 : decode cX5_standsAt 42 = .ok (.iload_n 3, 1) := dkg_X5_13.2.2.2.2.2.2.1
theorem dX5_standsAt_43 : decode cX5_standsAt 43 = .ok (.iadd, 1) := dkg_X5_13.2.2.2.2.2.2.2.1
theorem dX5_standsAt_44 : decode cX5_standsAt 44 = .ok (.iaload, 1) := dkg_X5_13.2.2.2.2.2.2.2.2.1
theorem dX5_standsAt_45 : decode cX5_standsAt 45 = .ok (.if_icmp .eq 5, 3) := dkg_X5_13.2.2.2.2.2.2.2.2.2.1
theorem dkg_X5_14 : dkp cX5_standsAt [(48, .iconst 0, 1), (49, .ireturn, 1), (50, .iinc 3 1, 3), (53, .goto (-31), 3), (56, .iconst 1, 1), (57, .ireturn, 1)] := dkf (by decide +kernel)
theorem dX5_standsAt_48 : decode cX5_standsAt 48 = .ok (.iconst 0, 1) := dkg_X5_14.1
theorem dX5_standsAt_49 : decode cX5_standsAt 49 = .ok (.ireturn, 1) := dkg_X5_14.2.1
theorem dX5_standsAt_50 : decode cX5_standsAt 50 = .ok (.iinc 3 1, 3) := dkg_X5_14.2.2.1
theorem dX5_standsAt_53 : decode cX5_standsAt 53 = .ok (.goto (-31), 3) := dkg_X5_14.2.2.2.1
theorem dX5_standsAt_56 : decode cX5_standsAt 56 = .ok (.iconst 1, 1) := dkg_X5_14.2.2.2.2.1
theorem dX5_standsAt_57 : decode cX5_standsAt 57 = .ok (.ireturn, 1) := dkg_X5_14.2.2.2.2.2.1
theorem dkg_X5_15 : dkp cX5_writeLetters [(0, .iconst 0, 1), (1, .istore_n 3, 1), (2, .iload_n 3, 1), (3, .aload_n 0, 1), (4, .getfield 18, 3), (7, .arraylength, 1), (8, .if_icmp .ge 39, 3), (11, .aload_n 1, 1), (12, .iload_n 3, 1), (13, .ifCond .ne 19, 3)] := dkf (by decide +kernel)
theorem dX5_writeLetters_0 : decode cX5_writeLetters 0 = .ok (.iconst 0, 1) := dkg_X5_15.1
theorem dX5_writeLetters_1 : decode cX5_writeLetters 1 = .ok (.istore_n 3, 1) := dkg_X5_15.2.1
theorem dX5_writeLetters_2 : decode cX5_writeLetters 2 = .ok (.iload_n 3, 1) := dkg_X5_15.2.2.1
theorem dX5_writeLetters_3 : decode cX5_writeLetters 3 = .ok (.aload_n 0, 1) := dkg_X5_15.2.2.2.1
theorem dX5_writeLetters_4 : decode cX5_writeLetters 4 = .ok (.getfield 18, 3) := dkg_X5_15.2.2.2.2.1
theorem dX5_writeLetters_7 : decode cX5_writeLetters 7 = .ok (.arraylength, 1) := dkg_X5_15.2.2.2.2.2.1
theorem dX5_writeLetters_8 : decode cX5_writeLetters 8 = .ok (.if_icmp .ge 39, 3) := dkg_X5_15.2.2.2.2.2.2.1
theorem dX5_writeLetters_11 : decode cX5_writeLetters 11 = .ok (.aload_n 1, 1) := dkg_X5_15.2.2.2.2.2.2.2.1
theorem dX5_writeLetters_12 : decode cX5_writeLetters 12 = .ok (.iload_n 3, 1) := dkg_X5_15.2.2.2.2.2.2.2.2.1
theorem dX5_writeLetters_13 : decode cX5_writeLetters 13 = .ok (.ifCond .ne 19, 3) := dkg_X5_15.2.2.2.2.2.2.2.2.2.1
theorem dkg_X5_16 : dkp cX5_writeLetters [(16, .iload_n 2, 1), (17, .ifCond .eq 15, 3), (20, .aload_n 0, 1), (21, .getfield 18, 3), (24, .iload_n 3, 1), (25, .iaload, 1), (26, .bipush 32, 2), (28, .isub, 1), (29, .goto 9, 3), (32, .aload_n 0, 1)] := dkf (by decide +kernel)
theorem dX5_writeLetters_16 : decode cX5_writeLetters 16 = .ok (.iload_n 2, 1) := dkg_X5_16.1
theorem dX5_writeLetters_17 : decode cX5_writeLetters 17 = .ok (.ifCond .eq 15, 3) := dkg_X5_16.2.1
theorem dX5_writeLetters_20 : decode cX5_writeLetters 20 = .ok (.aload_n 0, 1) := dkg_X5_16.2.2.1
theorem dX5_writeLetters_21 : decode cX5_writeLetters 21 = .ok (.getfield 18, 3) := dkg_X5_16.2.2.2.1
theorem dX5_writeLetters_24 : decode cX5_writeLetters 24 = .ok (.iload_n 3, 1) := dkg_X5_16.2.2.2.2.1
theorem dX5_writeLetters_25 : decode cX5_writeLetters 25 = .ok (.iaload, 1) := dkg_X5_16.2.2.2.2.2.1
theorem dX5_writeLetters_26 : decode cX5_writeLetters 26 = .ok (.bipush 32, 2) := dkg_X5_16.2.2.2.2.2.2.1
theorem dX5_writeLetters_28 : decode cX5_writeLetters 28 = .ok (.isub, 1) := dkg_X5_16.2.2.2.2.2.2.2.1
theorem dX5_writeLetters_29 : decode cX5_writeLetters 29 = .ok (.goto 9, 3) := dkg_X5_16.2.2.2.2.2.2.2.2.1
theorem dX5_writeLetters_32 : decode cX5_writeLetters 32 = .ok (.aload_n 0, 1) := dkg_X5_16.2.2.2.2.2.2.2.2.2.1
theorem dkg_X5_17 : dkp cX5_writeLetters [(33, .getfield 18, 3), (36, .iload_n 3, 1), (37, .iaload, 1), (38, .invokevirtual 47, 3), (41, .iinc 3 1, 3), (44, .goto (-42), 3), (47, .return_, 1)] := dkf (by decide +kernel)
theorem dX5_writeLetters_33 : decode cX5_writeLetters 33 = .ok (.getfield 18, 3) := dkg_X5_17.1
theorem dX5_writeLetters_36 : decode cX5_writeLetters 36 = .ok (.iload_n 3, 1) := dkg_X5_17.2.1
theorem dX5_writeLetters_37 : decode cX5_writeLetters 37 = .ok (.iaload, 1) := dkg_X5_17.2.2.1
theorem dX5_writeLetters_38 : decode cX5_writeLetters 38 = .ok (.invokevirtual 47, 3) := dkg_X5_17.2.2.2.1
theorem dX5_writeLetters_41 : decode cX5_writeLetters 41 = .ok (.iinc 3 1, 3) := dkg_X5_17.2.2.2.2.1
theorem dX5_writeLetters_44 : decode cX5_writeLetters 44 = .ok (.goto (-42), 3) := dkg_X5_17.2.2.2.2.2.1
theorem dX5_writeLetters_47 : decode cX5_writeLetters 47 = .ok (.return_, 1) := dkg_X5_17.2.2.2.2.2.2.1
