theorem dkg_X7_0 : dkp cX7_init [(0, .aload_n 0, 1), (1, .invokespecial 3, 3), (4, .aload_n 0, 1), (5, .sipush 200, 3), (8, .anewarray 9, 3), (11, .putfield 11, 3), (14, .aload_n 0, 1), (15, .iconst 0, 1), (16, .putfield 17, 3), (19, .aload_n 0, 1)] := dkf (by decide +kernel)
theorem dX7_init_0 : decode cX7_init 0 = .ok (.aload_n 0, 1) := dkg_X7_0.1
theorem dX7_init_1 : decode cX7_init 1 = .ok (.invokespecial 3, 3) := dkg_X7_0.2.1
theorem dX7_init_4 : decode cX7_init 4 = .ok (.aload_n 0, 1) := dkg_X7_0.2.2.1
theorem dX7_init_5 : decode cX7_init 5 = .ok (.sipush 200, 3) := dkg_X7_0.2.2.2.1
theorem dX7_init_8 : decode cX7_init 8 = .ok (.anewarray 9, 3) := dkg_X7_0.2.2.2.2.1
theorem dX7_init_11 : decode cX7_init 11 = .ok (.putfield 11, 3) := dkg_X7_0.2.2.2.2.2.1
theorem dX7_init_14 : decode cX7_init 14 = .ok (.aload_n 0, 1) := dkg_X7_0.2.2.2.2.2.2.1
theorem dX7_init_15 : decode cX7_init 15 = .ok (.iconst 0, 1) := dkg_X7_0.2.2.2.2.2.2.2.1
theorem dX7_init_16 : decode cX7_init 16 = .ok (.putfield 17, 3) := dkg_X7_0.2.2.2.2.2.2.2.2.1
theorem dX7_init_19 : decode cX7_init 19 = .ok (.aload_n 0, 1) := dkg_X7_0.2.2.2.2.2.2.2.2.2.1
theorem dkg_X7_1 : dkp cX7_init [(20, .iconst 0, 1), (21, .putfield 21, 3), (24, .return_, 1)] := dkf (by decide +kernel)
theorem dX7_init_20 : decode cX7_init 20 = .ok (.iconst 0, 1) := dkg_X7_1.1
theorem dX7_init_21 : decode cX7_init 21 = .ok (.putfield 21, 3) := dkg_X7_1.2.1
theorem dX7_init_24 : decode cX7_init 24 = .ok (.return_, 1) := dkg_X7_1.2.2.1
theorem dkg_X7_2 : dkp cX7_clear [(0, .aload_n 0, 1), (1, .iconst 0, 1), (2, .putfield 17, 3), (5, .return_, 1)] := dkf (by decide +kernel)
theorem dX7_clear_0 : decode cX7_clear 0 = .ok (.aload_n 0, 1) := dkg_X7_2.1
theorem dX7_clear_1 : decode cX7_clear 1 = .ok (.iconst 0, 1) := dkg_X7_2.2.1
theorem dX7_clear_2 : decode cX7_clear 2 = .ok (.putfield 17, 3) := dkg_X7_2.2.2.1
theorem dX7_clear_5 : decode cX7_clear 5 = .ok (.return_, 1) := dkg_X7_2.2.2.2.1
theorem dkg_X7_3 : dkp cX7_at [(0, .iload_n 1, 1), (1, .ifCond .lt 20, 3), (4, .iload_n 1, 1), (5, .aload_n 0, 1), (6, .getfield 17, 3), (9, .if_icmp .ge 12, 3), (12, .aload_n 0, 1), (13, .getfield 11, 3), (16, .iload_n 1, 1), (17, .aaload, 1)] := dkf (by decide +kernel)
theorem dX7_at_0 : decode cX7_at 0 = .ok (.iload_n 1, 1) := dkg_X7_3.1
theorem dX7_at_1 : decode cX7_at 1 = .ok (.ifCond .lt 20, 3) := dkg_X7_3.2.1
theorem dX7_at_4 : decode cX7_at 4 = .ok (.iload_n 1, 1) := dkg_X7_3.2.2.1
theorem dX7_at_5 : decode cX7_at 5 = .ok (.aload_n 0, 1) := dkg_X7_3.2.2.2.1
theorem dX7_at_6 : decode cX7_at 6 = .ok (.getfield 17, 3) := dkg_X7_3.2.2.2.2.1
theorem dX7_at_9 : decode cX7_at 9 = .ok (.if_icmp .ge 12, 3) := dkg_X7_3.2.2.2.2.2.1
theorem dX7_at_12 : decode cX7_at 12 = .ok (.aload_n 0, 1) := dkg_X7_3.2.2.2.2.2.2.1
theorem dX7_at_13 : decode cX7_at 13 = .ok (.getfield 11, 3) := dkg_X7_3.2.2.2.2.2.2.2.1
theorem dX7_at_16 : decode cX7_at 16 = .ok (.iload_n 1, 1) := dkg_X7_3.2.2.2.2.2.2.2.2.1
theorem dX7_at_17 : decode cX7_at 17 = .ok (.aaload, 1) := dkg_X7_3.2.2.2.2.2.2.2.2.2.1
theorem dkg_X7_4 : dkp cX7_at [(18, .goto 4, 3), (21, .aconst_null, 1), (22, .areturn, 1)] := dkf (by decide +kernel)
theorem dX7_at_18 : decode cX7_at 18 = .ok (.goto 4, 3) := dkg_X7_4.1
theorem dX7_at_21 : decode cX7_at 21 = .ok (.aconst_null, 1) := dkg_X7_4.2.1
theorem dX7_at_22 : decode cX7_at 22 = .ok (.areturn, 1) := dkg_X7_4.2.2.1
theorem dkg_X7_5 : dkp cX7_present [(0, .aload_n 0, 1), (1, .iload_n 1, 1), (2, .invokevirtual 24, 3), (5, .astore_n 2, 1), (6, .aload_n 2, 1), (7, .ifnull 10, 3), (10, .aload_n 2, 1), (11, .getfield 28, 3), (14, .ifCond .eq 7, 3), (17, .aconst_null, 1)] := dkf (by decide +kernel)
theorem dX7_present_0 : decode cX7_present 0 = .ok (.aload_n 0, 1) := dkg_X7_5.1
theorem dX7_present_1 : decode cX7_present 1 = .ok (.iload_n 1, 1) := dkg_X7_5.2.1
theorem dX7_present_2 : decode cX7_present 2 = .ok (.invokevirtual 24, 3) := dkg_X7_5.2.2.1
theorem dX7_present_5 : decode cX7_present 5 = .ok (.astore_n 2, 1) := dkg_X7_5.2.2.2.1
theorem dX7_present_6 : decode cX7_present 6 = .ok (.aload_n 2, 1) := dkg_X7_5.2.2.2.2.1
theorem dX7_present_7 : decode cX7_present 7 = .ok (.ifnull 10, 3) := dkg_X7_5.2.2.2.2.2.1
theorem dX7_present_10 : decode cX7_present 10 = .ok (.aload_n 2, 1) := dkg_X7_5.2.2.2.2.2.2.1
theorem dX7_present_11 : decode cX7_present 11 = .ok (.getfield 28, 3) := dkg_X7_5.2.2.2.2.2.2.2.1
theorem dX7_present_14 : decode cX7_present 14 = .ok (.ifCond .eq 7, 3) := dkg_X7_5.2.2.2.2.2.2.2.2.1
theorem dX7_present_17 : decode cX7_present 17 = .ok (.aconst_null, 1) := dkg_X7_5.2.2.2.2.2.2.2.2.2.1
theorem dkg_X7_6 : dkp cX7_present [(18, .goto 4, 3), (21, .aload_n 2, 1), (22, .areturn, 1)] := dkf (by decide +kernel)
theorem dX7_present_18 : decode cX7_present 18 = .ok (.goto 4, 3) := dkg_X7_6.1
theorem dX7_present_21 : decode cX7_present 21 = .ok (.aload_n 2, 1) := dkg_X7_6.2.1
theorem dX7_present_22 : decode cX7_present 22 = .ok (.areturn, 1) := dkg_X7_6.2.2.1
theorem dkg_X7_7 : dkp cX7_whyNone [(0, .aload_n 0, 1), (1, .iload_n 1, 1), (2, .invokevirtual 24, 3), (5, .ifnonnull 7, 3), (8, .iconst 2, 1), (9, .goto 4, 3), (12, .iconst 1, 1), (13, .ireturn, 1)] := dkf (by decide +kernel)
theorem dX7_whyNone_0 : decode cX7_whyNone 0 = .ok (.aload_n 0, 1) := dkg_X7_7.1
theorem dX7_whyNone_1 : decode cX7_whyNone 1 = .ok (.iload_n 1, 1) := dkg_X7_7.2.1
theorem dX7_whyNone_2 : decode cX7_whyNone 2 = .ok (.invokevirtual 24, 3) := dkg_X7_7.2.2.1
theorem dX7_whyNone_5 : decode cX7_whyNone 5 = .ok (.ifnonnull 7, 3) := dkg_X7_7.2.2.2.1
theorem dX7_whyNone_8 : decode cX7_whyNone 8 = .ok (.iconst 2, 1) := dkg_X7_7.2.2.2.2.1
theorem dX7_whyNone_9 : decode cX7_whyNone 9 = .ok (.goto 4, 3) := dkg_X7_7.2.2.2.2.2.1
theorem dX7_whyNone_12 : decode cX7_whyNone 12 = .ok (.iconst 1, 1) := dkg_X7_7.2.2.2.2.2.2.1
theorem dX7_whyNone_13 : decode cX7_whyNone 13 = .ok (.ireturn, 1) := dkg_X7_7.2.2.2.2.2.2.2.1
theorem dkg_X7_8 : dkp cX7_begin [(0, .aload_n 0, 1), (1, .getfield 17, 3), (4, .sipush 200, 3), (7, .if_icmp .lt 5, 3), (10, .iconst 0, 1), (11, .ireturn, 1), (12, .aload_n 0, 1), (13, .getfield 11, 3), (16, .aload_n 0, 1), (17, .getfield 17, 3)] := dkf (by decide +kernel)
theorem dX7_begin_0 : decode cX7_begin 0 = .ok (.aload_n 0, 1) := dkg_X7_8.1
theorem dX7_begin_1 : decode cX7_begin 1 = .ok (.getfield 17, 3) := dkg_X7_8.2.1
theorem dX7_begin_4 : decode cX7_begin 4 = .ok (.sipush 200, 3) := dkg_X7_8.2.2.1
theorem dX7_begin_7 : decode cX7_begin 7 = .ok (.if_icmp .lt 5, 3) := dkg_X7_8.2.2.2.1
theorem dX7_begin_10 : decode cX7_begin 10 = .ok (.iconst 0, 1) := dkg_X7_8.2.2.2.2.1
theorem dX7_begin_11 : decode cX7_begin 11 = .ok (.ireturn, 1) := dkg_X7_8.2.2.2.2.2.1
theorem dX7_begin_12 : decode cX7_begin 12 = .ok (.aload_n 0, 1) := dkg_X7_8.2.2.2.2.2.2.1
theorem dX7_begin_13 : decode cX7_begin 13 = .ok (.getfield 11, 3) := dkg_X7_8.2.2.2.2.2.2.2.1
theorem dX7_begin_16 : decode cX7_begin 16 = .ok (.aload_n 0, 1) := dkg_X7_8.2.2.2.2.2.2.2.2.1
theorem dX7_begin_17 : decode cX7_begin 17 = .ok (.getfield 17, 3) := dkg_X7_8.2.2.2.2.2.2.2.2.2.1
theorem dkg_X7_9 : dkp cX7_begin [(20, .aaload, 1), (21, .ifnonnull 19, 3), (24, .aload_n 0, 1), (25, .getfield 11, 3), (28, .aload_n 0, 1), (29, .getfield 17, 3), (32, .new 9, 3), (35, .dup, 1), (36, .invokespecial 32, 3), (39, .aastore, 1)] := dkf (by decide +kernel)
theorem dX7_begin_20 : decode cX7_begin 20 = .ok (.aaload, 1) := dkg_X7_9.1
theorem dX7_begin_21 : decode cX7_begin 21 = .ok (.ifnonnull 19, 3) := dkg_X7_9.2.1
theorem dX7_begin_24 : decode cX7_begin 24 = .ok (.aload_n 0, 1) := dkg_X7_9.2.2.1
theorem dX7_begin_25 : decode cX7_begin 25 = .ok (.getfield 11, 3) := dkg_X7_9.2.2.2.1
theorem dX7_begin_28 : decode cX7_begin 28 = .ok (.aload_n 0, 1) := dkg_X7_9.2.2.2.2.1
theorem dX7_begin_29 : decode cX7_begin 29 = .ok (.getfield 17, 3) := dkg_X7_9.2.2.2.2.2.1
theorem dX7_begin_32 : decode cX7_begin 32 = .ok (.new 9, 3) := dkg_X7_9.2.2.2.2.2.2.1
theorem dX7_begin_35 : decode cX7_begin 35 = .ok (.dup, 1) := dkg_X7_9.2.2.2.2.2.2.2.1
theorem dX7_begin_36 : decode cX7_begin 36 = .ok (.invokespecial 32, 3) := dkg_X7_9.2.2.2.2.2.2.2.2.1
theorem dX7_begin_39 : decode cX7_begin 39 = .ok (.aastore, 1) := dkg_X7_9.2.2.2.2.2.2.2.2.2.1
theorem dkg_X7_10 : dkp cX7_begin [(40, .aload_n 0, 1), (41, .getfield 11, 3), (44, .aload_n 0, 1), (45, .getfield 17, 3), (48, .aaload, 1), (49, .invokevirtual 33, 3), (52, .aload_n 0, 1), (53, .dup, 1), (54, .getfield 17, 3), (57, .iconst 1, 1)] := dkf (by decide +kernel)
theorem dX7_begin_40 : decode cX7_begin 40 = .ok (.aload_n 0, 1) := dkg_X7_10.1
theorem dX7_begin_41 : decode cX7_begin 41 = .ok (.getfield 11, 3) := dkg_X7_10.2.1
theorem dX7_begin_44 : decode cX7_begin 44 = .ok (.aload_n 0, 1) := dkg_X7_10.2.2.1
theorem dX7_begin_45 : decode cX7_begin 45 = .ok (.getfield 17, 3) := dkg_X7_10.2.2.2.1
theorem dX7_begin_48 : decode cX7_begin 48 = .ok (.aaload, 1) := dkg_X7_10.2.2.2.2.1
theorem dX7_begin_49 : decode cX7_begin 49 = .ok (.invokevirtual 33, 3) := dkg_X7_10.2.2.2.2.2.1
theorem dX7_begin_52 : decode cX7_begin 52 = .ok (.aload_n 0, 1) := dkg_X7_10.2.2.2.2.2.2.1
theorem dX7_begin_53 : decode cX7_begin 53 = .ok (.dup, 1) := dkg_X7_10.2.2.2.2.2.2.2.1
theorem dX7_begin_54 : decode cX7_begin 54 = .ok (.getfield 17, 3) := dkg_X7_10.2.2.2.2.2.2.2.2.1
theorem dX7_begin_57 : decode cX7_begin 57 = .ok (.iconst 1, 1) := dkg_X7_10.2.2.2.2.2.2.2.2.2.1
theorem dkg_X7_11 : dkp cX7_begin [(58, .iadd, 1), (59, .putfield 17, 3), (62, .iconst 1, 1), (63, .ireturn, 1)] := dkf (by decide +kernel)
theorem dX7_begin_58 : decode cX7_begin 58 = .ok (.iadd, 1) := dkg_X7_11.1
theorem dX7_begin_59 : decode cX7_begin 59 = .ok (.putfield 17, 3) := dkg_X7_11.2.1
theorem dX7_begin_62 : decode cX7_begin 62 = .ok (.iconst 1, 1) := dkg_X7_11.2.2.1
theorem dX7_begin_63 : decode cX7_begin 63 = .ok (.ireturn, 1) := dkg_X7_11.2.2.2.1
theorem dkg_X7_12 : dkp cX7_take [(0, .iconst 0, 1), (1, .istore 5, 2), (3, .iconst 0, 1), (4, .istore 6, 2), (6, .iload 6, 2), (8, .sipush 200, 3), (11, .if_icmp .gt 152, 3), (14, .aload_n 0, 1), (15, .aload_n 0, 1), (16, .getfield 17, 3)] := dkf (by decide +kernel)
theorem dX7_take_0 : decode cX7_take 0 = .ok (.iconst 0, 1) := dkg_X7_12.1
theorem dX7_take_1 : decode cX7_take 1 = .ok (.istore 5, 2) := dkg_X7_12.2.1
theorem dX7_take_3 : decode cX7_take 3 = .ok (.iconst 0, 1) := dkg_X7_12.2.2.1
theorem dX7_take_4 : decode cX7_take 4 = .ok (.istore 6, 2) := dkg_X7_12.2.2.2.1
theorem dX7_take_6 : decode cX7_take 6 = .ok (.iload 6, 2) := dkg_X7_12.2.2.2.2.1
theorem dX7_take_8 : decode cX7_take 8 = .ok (.sipush 200, 3) := dkg_X7_12.2.2.2.2.2.1
theorem dX7_take_11 : decode cX7_take 11 = .ok (.if_icmp .gt 152, 3) := dkg_X7_12.2.2.2.2.2.2.1
theorem dX7_take_14 : decode cX7_take 14 = .ok (.aload_n 0, 1) := dkg_X7_12.2.2.2.2.2.2.2.1
theorem dX7_take_15 : decode cX7_take 15 = .ok (.aload_n 0, 1) := dkg_X7_12.2.2.2.2.2.2.2.2.1
theorem dX7_take_16 : decode cX7_take 16 = .ok (.getfield 17, 3) := dkg_X7_12.2.2.2.2.2.2.2.2.2.1
theorem dkg_X7_13 : dkp cX7_take [(19, .iconst 1, 1), (20, .isub, 1), (21, .invokevirtual 24, 3), (24, .astore 7, 2), (26, .aload 7, 2), (28, .ifnonnull 5, 3), (31, .iconst 0, 1), (32, .ireturn, 1), (33, .iload_n 3, 1), (34, .aload 7, 2)] := dkf (by decide +kernel)
theorem dX7_take_19 : decode cX7_take 19 = .ok (.iconst 1, 1) := dkg_X7_13.1
theorem dX7_take_20 : decode cX7_take 20 = .ok (.isub, 1) := dkg_X7_13.2.1
theorem dX7_take_21 : decode cX7_take 21 = .ok (.invokevirtual 24, 3) := dkg_X7_13.2.2.1
theorem dX7_take_24 : decode cX7_take 24 = .ok (.astore 7, 2) := dkg_X7_13.2.2.2.1
theorem dX7_take_26 : decode cX7_take 26 = .ok (.aload 7, 2) := dkg_X7_13.2.2.2.2.1
theorem dX7_take_28 : decode cX7_take 28 = .ok (.ifnonnull 5, 3) := dkg_X7_13.2.2.2.2.2.1
theorem dX7_take_31 : decode cX7_take 31 = .ok (.iconst 0, 1) := dkg_X7_13.2.2.2.2.2.2.1
theorem dX7_take_32 : decode cX7_take 32 = .ok (.ireturn, 1) := dkg_X7_13.2.2.2.2.2.2.2.1
theorem dX7_take_33 : decode cX7_take 33 = .ok (.iload_n 3, 1) := dkg_X7_13.2.2.2.2.2.2.2.2.1
theorem dX7_take_34 : decode cX7_take 34 = .ok (.aload 7, 2) := dkg_X7_13.2.2.2.2.2.2.2.2.2.1
theorem dkg_X7_14 : dkp cX7_take [(36, .getfield 36, 3), (39, .ifCond .le 13, 3), (42, .aload 7, 2), (44, .getfield 36, 3), (47, .iconst 1, 1), (48, .iadd, 1), (49, .goto 4, 3), (52, .iconst 0, 1), (53, .isub, 1), (54, .istore 8, 2)] := dkf (by decide +kernel)
theorem dX7_take_36 : decode cX7_take 36 = .ok (.getfield 36, 3) := dkg_X7_14.1
theorem dX7_take_39 : decode cX7_take 39 = .ok (.ifCond .le 13, 3) := dkg_X7_14.2.1
theorem dX7_take_42 : decode cX7_take 42 = .ok (.aload 7, 2) := dkg_X7_14.2.2.1
theorem dX7_take_44 : decode cX7_take 44 = .ok (.getfield 36, 3) := dkg_X7_14.2.2.2.1
theorem dX7_take_47 : decode cX7_take 47 = .ok (.iconst 1, 1) := dkg_X7_14.2.2.2.2.1
theorem dX7_take_48 : decode cX7_take 48 = .ok (.iadd, 1) := dkg_X7_14.2.2.2.2.2.1
theorem dX7_take_49 : decode cX7_take 49 = .ok (.goto 4, 3) := dkg_X7_14.2.2.2.2.2.2.1
theorem dX7_take_52 : decode cX7_take 52 = .ok (.iconst 0, 1) := dkg_X7_14.2.2.2.2.2.2.2.1
theorem dX7_take_53 : decode cX7_take 53 = .ok (.isub, 1) := dkg_X7_14.2.2.2.2.2.2.2.2.1
theorem dX7_take_54 : decode cX7_take 54 = .ok (.istore 8, 2) := dkg_X7_14.2.2.2.2.2.2.2.2.2.1
theorem dkg_X7_15 : dkp cX7_take [(56, .aload_n 1, 1), (57, .getfield 39, 3), (60, .iload 5, 2), (62, .isub, 1), (63, .iload 8, 2), (65, .if_icmp .gt 17, 3), (68, .aload 7, 2), (70, .aload_n 1, 1), (71, .iload 5, 2), (73, .aload_n 1, 1)] := dkf (by decide +kernel)
theorem dX7_take_56 : decode cX7_take 56 = .ok (.aload_n 1, 1) := dkg_X7_15.1
theorem dX7_take_57 : decode cX7_take 57 = .ok (.getfield 39, 3) := dkg_X7_15.2.1
theorem dX7_take_60 : decode cX7_take 60 = .ok (.iload 5, 2) := dkg_X7_15.2.2.1
theorem dX7_take_62 : decode cX7_take 62 = .ok (.isub, 1) := dkg_X7_15.2.2.2.1
theorem dX7_take_63 : decode cX7_take 63 = .ok (.iload 8, 2) := dkg_X7_15.2.2.2.2.1
theorem dX7_take_65 : decode cX7_take 65 = .ok (.if_icmp .gt 17, 3) := dkg_X7_15.2.2.2.2.2.1
theorem dX7_take_68 : decode cX7_take 68 = .ok (.aload 7, 2) := dkg_X7_15.2.2.2.2.2.2.1
theorem dX7_take_70 : decode cX7_take 70 = .ok (.aload_n 1, 1) := dkg_X7_15.2.2.2.2.2.2.2.1
theorem dX7_take_71 : decode cX7_take 71 = .ok (.iload 5, 2) := dkg_X7_15.2.2.2.2.2.2.2.2.1
theorem dX7_take_73 : decode cX7_take 73 = .ok (.aload_n 1, 1) := dkg_X7_15.2.2.2.2.2.2.2.2.2.1
theorem dkg_X7_16 : dkp cX7_take [(74, .getfield 39, 3), (77, .invokevirtual 42, 3), (80, .iconst 1, 1), (81, .ireturn, 1), (82, .aload_n 1, 1), (83, .iload_n 2, 1), (84, .iload 5, 2), (86, .iload 8, 2), (88, .iconst 1, 1), (89, .isub, 1)] := dkf (by decide +kernel)
theorem dX7_take_74 : decode cX7_take 74 = .ok (.getfield 39, 3) := dkg_X7_16.1
theorem dX7_take_77 : decode cX7_take 77 = .ok (.invokevirtual 42, 3) := dkg_X7_16.2.1
theorem dX7_take_80 : decode cX7_take 80 = .ok (.iconst 1, 1) := dkg_X7_16.2.2.1
theorem dX7_take_81 : decode cX7_take 81 = .ok (.ireturn, 1) := dkg_X7_16.2.2.2.1
theorem dX7_take_82 : decode cX7_take 82 = .ok (.aload_n 1, 1) := dkg_X7_16.2.2.2.2.1
theorem dX7_take_83 : decode cX7_take 83 = .ok (.iload_n 2, 1) := dkg_X7_16.2.2.2.2.2.1
theorem dX7_take_84 : decode cX7_take 84 = .ok (.iload 5, 2) := dkg_X7_16.2.2.2.2.2.2.1
theorem dX7_take_86 : decode cX7_take 86 = .ok (.iload 8, 2) := dkg_X7_16.2.2.2.2.2.2.2.1
theorem dX7_take_88 : decode cX7_take 88 = .ok (.iconst 1, 1) := dkg_X7_16.2.2.2.2.2.2.2.2.1
theorem dX7_take_89 : decode cX7_take 89 = .ok (.isub, 1) := dkg_X7_16.2.2.2.2.2.2.2.2.2.1
theorem dkg_X7_17 : dkp cX7_take [(90, .invokevirtual 46, 3), (93, .istore 9, 2), (95, .iload 9, 2), (97, .iload 5, 2), (99, .if_icmp .le 27, 3), (102, .aload 7, 2), (104, .aload_n 1, 1), (105, .iload 5, 2), (107, .iload 9, 2), (109, .invokevirtual 42, 3)] := dkf (by decide +kernel)
theorem dX7_take_90 : decode cX7_take 90 = .ok (.invokevirtual 46, 3) := dkg_X7_17.1
theorem dX7_take_93 : decode cX7_take 93 = .ok (.istore 9, 2) := dkg_X7_17.2.1
theorem dX7_take_95 : decode cX7_take 95 = .ok (.iload 9, 2) := dkg_X7_17.2.2.1
theorem dX7_take_97 : decode cX7_take 97 = .ok (.iload 5, 2) := dkg_X7_17.2.2.2.1
theorem dX7_take_99 : decode cX7_take 99 = .ok (.if_icmp .le 27, 3) := dkg_X7_17.2.2.2.2.1
theorem dX7_take_102 : decode cX7_take 102 = .ok (.aload 7, 2) := dkg_X7_17.2.2.2.2.2.1
theorem dX7_take_104 : decode cX7_take 104 = .ok (.aload_n 1, 1) := dkg_X7_17.2.2.2.2.2.2.1
theorem dX7_take_105 : decode cX7_take 105 = .ok (.iload 5, 2) := dkg_X7_17.2.2.2.2.2.2.2.1
theorem dX7_take_107 : decode cX7_take 107 = .ok (.iload 9, 2) := dkg_X7_17.2.2.2.2.2.2.2.2.1
theorem dX7_take_109 : decode cX7_take 109 = .ok (.invokevirtual 42, 3) := dkg_X7_17.2.2.2.2.2.2.2.2.2.1
theorem dkg_X7_18 : dkp cX7_take [(112, .aload 7, 2), (114, .iload 4, 2), (116, .invokevirtual 50, 3), (119, .iload 9, 2), (121, .istore 5, 2), (123, .goto 25, 3), (126, .aload 7, 2), (128, .getfield 36, 3), (131, .ifCond .ne 17, 3), (134, .aload 7, 2)] := dkf (by decide +kernel)
theorem dX7_take_112 : decode cX7_take 112 = .ok (.aload 7, 2) := dkg_X7_18.1
theorem dX7_take_114 : decode cX7_take 114 = .ok (.iload 4, 2) := dkg_X7_18.2.1
theorem dX7_take_116 : decode cX7_take 116 = .ok (.invokevirtual 50, 3) := dkg_X7_18.2.2.1
theorem dX7_take_119 : decode cX7_take 119 = .ok (.iload 9, 2) := dkg_X7_18.2.2.2.1
theorem dX7_take_121 : decode cX7_take 121 = .ok (.istore 5, 2) := dkg_X7_18.2.2.2.2.1
theorem dX7_take_123 : decode cX7_take 123 = .ok (.goto 25, 3) := dkg_X7_18.2.2.2.2.2.1
theorem dX7_take_126 : decode cX7_take 126 = .ok (.aload 7, 2) := dkg_X7_18.2.2.2.2.2.2.1
theorem dX7_take_128 : decode cX7_take 128 = .ok (.getfield 36, 3) := dkg_X7_18.2.2.2.2.2.2.2.1
theorem dX7_take_131 : decode cX7_take 131 = .ok (.ifCond .ne 17, 3) := dkg_X7_18.2.2.2.2.2.2.2.2.1
theorem dX7_take_134 : decode cX7_take 134 = .ok (.aload 7, 2) := dkg_X7_18.2.2.2.2.2.2.2.2.2.1
theorem dkg_X7_19 : dkp cX7_take [(136, .aload_n 1, 1), (137, .iload 5, 2), (139, .aload_n 1, 1), (140, .getfield 39, 3), (143, .invokevirtual 42, 3), (146, .iconst 1, 1), (147, .ireturn, 1), (148, .aload_n 0, 1), (149, .invokevirtual 54, 3), (152, .ifCond .ne 5, 3)] := dkf (by decide +kernel)
theorem dX7_take_136 : decode cX7_take 136 = .ok (.aload_n 1, 1) := dkg_X7_19.1
theorem dX7_take_137 : decode cX7_take 137 = .ok (.iload 5, 2) := dkg_X7_19.2.1
theorem dX7_take_139 : decode cX7_take 139 = .ok (.aload_n 1, 1) := dkg_X7_19.2.2.1
theorem dX7_take_140 : decode cX7_take 140 = .ok (.getfield 39, 3) := dkg_X7_19.2.2.2.1
theorem dX7_take_143 : decode cX7_take 143 = .ok (.invokevirtual 42, 3) := dkg_X7_19.2.2.2.2.1
theorem dX7_take_146 : decode cX7_take 146 = .ok (.iconst 1, 1) := dkg_X7_19.2.2.2.2.2.1
theorem dX7_take_147 : decode cX7_take 147 = .ok (.ireturn, 1) := dkg_X7_19.2.2.2.2.2.2.1
theorem dX7_take_148 : decode cX7_take 148 = .ok (.aload_n 0, 1) := dkg_X7_19.2.2.2.2.2.2.2.1
theorem dX7_take_149 : decode cX7_take 149 = .ok (.invokevirtual 54, 3) := dkg_X7_19.2.2.2.2.2.2.2.2.1
theorem dX7_take_152 : decode cX7_take 152 = .ok (.ifCond .ne 5, 3) := dkg_X7_19.2.2.2.2.2.2.2.2.2.1
theorem dkg_X7_20 : dkp cX7_take [(155, .iconst 0, 1), (156, .ireturn, 1), (157, .iinc 6 1, 3), (160, .goto (-154), 3), (163, .iconst 0, 1), (164, .ireturn, 1)] := dkf (by decide +kernel)
theorem dX7_take_155 : decode cX7_take 155 = .ok (.iconst 0, 1) := dkg_X7_20.1
theorem dX7_take_156 : decode cX7_take 156 = .ok (.ireturn, 1) := dkg_X7_20.2.1
theorem dX7_take_157 : decode cX7_take 157 = .ok (.iinc 6 1, 3) := dkg_X7_20.2.2.1
theorem dX7_take_160 : decode cX7_take 160 = .ok (.goto (-154), 3) := dkg_X7_20.2.2.2.1
theorem dX7_take_163 : decode cX7_take 163 = .ok (.iconst 0, 1) := dkg_X7_20.2.2.2.2.1
theorem dX7_take_164 : decode cX7_take 164 = .ok (.ireturn, 1) := dkg_X7_20.2.2.2.2.2.1
theorem dkg_X7_21 : dkp cX7_beginText [(0, .aload_n 0, 1), (1, .aload_n 0, 1), (2, .getfield 17, 3), (5, .putfield 21, 3), (8, .aload_n 0, 1), (9, .invokevirtual 54, 3), (12, .ireturn, 1)] := dkf (by decide +kernel)
theorem dX7_beginText_0 : decode cX7_beginText 0 = .ok (.aload_n 0, 1) := dkg_X7_21.1
theorem dX7_beginText_1 : decode cX7_beginText 1 = .ok (.aload_n 0, 1) := dkg_X7_21.2.1
theorem dX7_beginText_2 : decode cX7_beginText 2 = .ok (.getfield 17, 3) := dkg_X7_21.2.2.1
theorem dX7_beginText_5 : decode cX7_beginText 5 = .ok (.putfield 21, 3) := dkg_X7_21.2.2.2.1
theorem dX7_beginText_8 : decode cX7_beginText 8 = .ok (.aload_n 0, 1) := dkg_X7_21.2.2.2.2.1
theorem dX7_beginText_9 : decode cX7_beginText 9 = .ok (.invokevirtual 54, 3) := dkg_X7_21.2.2.2.2.2.1
theorem dX7_beginText_12 : decode cX7_beginText 12 = .ok (.ireturn, 1) := dkg_X7_21.2.2.2.2.2.2.1
theorem dkg_X7_22 : dkp cX7_endText [(0, .aload_n 0, 1), (1, .getfield 21, 3), (4, .istore_n 3, 1), (5, .iload_n 1, 1), (6, .ifCond .eq 43, 3), (9, .iload_n 3, 1), (10, .aload_n 0, 1), (11, .getfield 17, 3), (14, .if_icmp .ge 35, 3), (17, .aload_n 0, 1)] := dkf (by decide +kernel)
theorem dX7_endText_0 : decode cX7_endText 0 = .ok (.aload_n 0, 1) := dkg_X7_22.1
theorem dX7_endText_1 : decode cX7_endText 1 = .ok (.getfield 21, 3) := dkg_X7_22.2.1
theorem dX7_endText_4 : decode cX7_endText 4 = .ok (.istore_n 3, 1) := dkg_X7_22.2.2.1
theorem dX7_endText_5 : decode cX7_endText 5 = .ok (.iload_n 1, 1) := dkg_X7_22.2.2.2.1
theorem dX7_endText_6 : decode cX7_endText 6 = .ok (.ifCond .eq 43, 3) := dkg_X7_22.2.2.2.2.1
theorem dX7_endText_9 : decode cX7_endText 9 = .ok (.iload_n 3, 1) := dkg_X7_22.2.2.2.2.2.1
theorem dX7_endText_10 : decode cX7_endText 10 = .ok (.aload_n 0, 1) := dkg_X7_22.2.2.2.2.2.2.1
theorem dX7_endText_11 : decode cX7_endText 11 = .ok (.getfield 17, 3) := dkg_X7_22.2.2.2.2.2.2.2.1
theorem dX7_endText_14 : decode cX7_endText 14 = .ok (.if_icmp .ge 35, 3) := dkg_X7_22.2.2.2.2.2.2.2.2.1
theorem dX7_endText_17 : decode cX7_endText 17 = .ok (.aload_n 0, 1) := dkg_X7_22.2.2.2.2.2.2.2.2.2.1
theorem dkg_X7_23 : dkp cX7_endText [(18, .iload_n 3, 1), (19, .invokevirtual 24, 3), (22, .astore 4, 2), (24, .aload 4, 2), (26, .ifnull 17, 3), (29, .aload 4, 2), (31, .iload_n 2, 1), (32, .aload 4, 2), (34, .getfield 36, 3), (37, .isub, 1)] := dkf (by decide +kernel)
theorem dX7_endText_18 : decode cX7_endText 18 = .ok (.iload_n 3, 1) := dkg_X7_23.1
theorem dX7_endText_19 : decode cX7_endText 19 = .ok (.invokevirtual 24, 3) := dkg_X7_23.2.1
theorem dX7_endText_22 : decode cX7_endText 22 = .ok (.astore 4, 2) := dkg_X7_23.2.2.1
theorem dX7_endText_24 : decode cX7_endText 24 = .ok (.aload 4, 2) := dkg_X7_23.2.2.2.1
theorem dX7_endText_26 : decode cX7_endText 26 = .ok (.ifnull 17, 3) := dkg_X7_23.2.2.2.2.1
theorem dX7_endText_29 : decode cX7_endText 29 = .ok (.aload 4, 2) := dkg_X7_23.2.2.2.2.2.1
theorem dX7_endText_31 : decode cX7_endText 31 = .ok (.iload_n 2, 1) := dkg_X7_23.2.2.2.2.2.2.1
theorem dX7_endText_32 : decode cX7_endText 32 = .ok (.aload 4, 2) := dkg_X7_23.2.2.2.2.2.2.2.1
theorem dX7_endText_34 : decode cX7_endText 34 = .ok (.getfield 36, 3) := dkg_X7_23.2.2.2.2.2.2.2.2.1
theorem dX7_endText_37 : decode cX7_endText 37 = .ok (.isub, 1) := dkg_X7_23.2.2.2.2.2.2.2.2.2.1
theorem dkg_X7_24 : dkp cX7_endText [(38, .iconst 2, 1), (39, .idiv, 1), (40, .invokevirtual 58, 3), (43, .iinc 3 1, 3), (46, .goto (-41), 3), (49, .return_, 1)] := dkf (by decide +kernel)
theorem dX7_endText_38 : decode cX7_endText 38 = .ok (.iconst 2, 1) := dkg_X7_24.1
theorem dX7_endText_39 : decode cX7_endText 39 = .ok (.idiv, 1) := dkg_X7_24.2.1
theorem dX7_endText_40 : decode cX7_endText 40 = .ok (.invokevirtual 58, 3) := dkg_X7_24.2.2.1
theorem dX7_endText_43 : decode cX7_endText 43 = .ok (.iinc 3 1, 3) := dkg_X7_24.2.2.2.1
theorem dX7_endText_46 : decode cX7_endText 46 = .ok (.goto (-41), 3) := dkg_X7_24.2.2.2.2.1
theorem dX7_endText_49 : decode cX7_endText 49 = .ok (.return_, 1) := dkg_X7_24.2.2.2.2.2.1
theorem dkg_X7_25 : dkp cX7_goOver [(0, .iload_n 1, 1), (1, .istore_n 2, 1), (2, .iconst 0, 1), (3, .istore_n 3, 1), (4, .iload_n 3, 1), (5, .aload_n 0, 1), (6, .getfield 17, 3), (9, .if_icmp .ge 74, 3), (12, .aload_n 0, 1), (13, .iload_n 3, 1)] := dkf (by decide +kernel)
theorem dX7_goOver_0 : decode cX7_goOver 0 = .ok (.iload_n 1, 1) := dkg_X7_25.1
theorem dX7_goOver_1 : decode cX7_goOver 1 = .ok (.istore_n 2, 1) := dkg_X7_25.2.1
theorem dX7_goOver_2 : decode cX7_goOver 2 = .ok (.iconst 0, 1) := dkg_X7_25.2.2.1
theorem dX7_goOver_3 : decode cX7_goOver 3 = .ok (.istore_n 3, 1) := dkg_X7_25.2.2.2.1
theorem dX7_goOver_4 : decode cX7_goOver 4 = .ok (.iload_n 3, 1) := dkg_X7_25.2.2.2.2.1
theorem dX7_goOver_5 : decode cX7_goOver 5 = .ok (.aload_n 0, 1) := dkg_X7_25.2.2.2.2.2.1
theorem dX7_goOver_6 : decode cX7_goOver 6 = .ok (.getfield 17, 3) := dkg_X7_25.2.2.2.2.2.2.1
theorem dX7_goOver_9 : decode cX7_goOver 9 = .ok (.if_icmp .ge 74, 3) := dkg_X7_25.2.2.2.2.2.2.2.1
theorem dX7_goOver_12 : decode cX7_goOver 12 = .ok (.aload_n 0, 1) := dkg_X7_25.2.2.2.2.2.2.2.2.1
theorem dX7_goOver_13 : decode cX7_goOver 13 = .ok (.iload_n 3, 1) := dkg_X7_25.2.2.2.2.2.2.2.2.2.1
theorem dkg_X7_26 : dkp cX7_goOver [(14, .invokevirtual 61, 3), (17, .astore 4, 2), (19, .iload_n 2, 1), (20, .bipush 31, 2), (22, .imul, 1), (23, .aload 4, 2), (25, .ifnonnull 7, 3), (28, .iconst (-1), 1), (29, .goto 8, 3), (32, .aload 4, 2)] := dkf (by decide +kernel)
theorem dX7_goOver_14 : decode cX7_goOver 14 = .ok (.invokevirtual 61, 3) := dkg_X7_26.1
theorem dX7_goOver_17 : decode cX7_goOver 17 = .ok (.astore 4, 2) := dkg_X7_26.2.1
theorem dX7_goOver_19 : decode cX7_goOver 19 = .ok (.iload_n 2, 1) := dkg_X7_26.2.2.1
theorem dX7_goOver_20 : decode cX7_goOver 20 = .ok (.bipush 31, 2) := dkg_X7_26.2.2.2.1
theorem dX7_goOver_22 : decode cX7_goOver 22 = .ok (.imul, 1) := dkg_X7_26.2.2.2.2.1
theorem dX7_goOver_23 : decode cX7_goOver 23 = .ok (.aload 4, 2) := dkg_X7_26.2.2.2.2.2.1
theorem dX7_goOver_25 : decode cX7_goOver 25 = .ok (.ifnonnull 7, 3) := dkg_X7_26.2.2.2.2.2.2.1
theorem dX7_goOver_28 : decode cX7_goOver 28 = .ok (.iconst (-1), 1) := dkg_X7_26.2.2.2.2.2.2.2.1
theorem dX7_goOver_29 : decode cX7_goOver 29 = .ok (.goto 8, 3) := dkg_X7_26.2.2.2.2.2.2.2.2.1
theorem dX7_goOver_32 : decode cX7_goOver 32 = .ok (.aload 4, 2) := dkg_X7_26.2.2.2.2.2.2.2.2.2.1
theorem dkg_X7_27 : dkp cX7_goOver [(34, .getfield 36, 3), (37, .iadd, 1), (38, .istore_n 2, 1), (39, .iconst 0, 1), (40, .istore 5, 2), (42, .aload 4, 2), (44, .ifnull 33, 3), (47, .iload 5, 2), (49, .aload 4, 2), (51, .getfield 36, 3)] := dkf (by decide +kernel)
theorem dX7_goOver_34 : decode cX7_goOver 34 = .ok (.getfield 36, 3) := dkg_X7_27.1
theorem dX7_goOver_37 : decode cX7_goOver 37 = .ok (.iadd, 1) := dkg_X7_27.2.1
theorem dX7_goOver_38 : decode cX7_goOver 38 = .ok (.istore_n 2, 1) := dkg_X7_27.2.2.1
theorem dX7_goOver_39 : decode cX7_goOver 39 = .ok (.iconst 0, 1) := dkg_X7_27.2.2.2.1
theorem dX7_goOver_40 : decode cX7_goOver 40 = .ok (.istore 5, 2) := dkg_X7_27.2.2.2.2.1
theorem dX7_goOver_42 : decode cX7_goOver 42 = .ok (.aload 4, 2) := dkg_X7_27.2.2.2.2.2.1
theorem dX7_goOver_44 : decode cX7_goOver 44 = .ok (.ifnull 33, 3) := dkg_X7_27.2.2.2.2.2.2.1
theorem dX7_goOver_47 : decode cX7_goOver 47 = .ok (.iload 5, 2) := dkg_X7_27.2.2.2.2.2.2.2.1
theorem dX7_goOver_49 : decode cX7_goOver 49 = .ok (.aload 4, 2) := dkg_X7_27.2.2.2.2.2.2.2.2.1
theorem dX7_goOver_51 : decode cX7_goOver 51 = .ok (.getfield 36, 3) := dkg_X7_27.2.2.2.2.2.2.2.2.2.1
theorem dkg_X7_28 : dkp cX7_goOver [(54, .if_icmp .ge 23, 3), (57, .iload_n 2, 1), (58, .bipush 31, 2), (60, .imul, 1), (61, .aload 4, 2), (63, .getfield 64, 3), (66, .iload 5, 2), (68, .iaload, 1), (69, .iadd, 1), (70, .istore_n 2, 1)] := dkf (by decide +kernel)
theorem dX7_goOver_54 : decode cX7_goOver 54 = .ok (.if_icmp .ge 23, 3) := dkg_X7_28.1
theorem dX7_goOver_57 : decode cX7_goOver 57 = .ok (.iload_n 2, 1) := dkg_X7_28.2.1
theorem dX7_goOver_58 : decode cX7_goOver 58 = .ok (.bipush 31, 2) := dkg_X7_28.2.2.1
theorem dX7_goOver_60 : decode cX7_goOver 60 = .ok (.imul, 1) := dkg_X7_28.2.2.2.1
theorem dX7_goOver_61 : decode cX7_goOver 61 = .ok (.aload 4, 2) := dkg_X7_28.2.2.2.2.1
theorem dX7_goOver_63 : decode cX7_goOver 63 = .ok (.getfield 64, 3) := dkg_X7_28.2.2.2.2.2.1
theorem dX7_goOver_66 : decode cX7_goOver 66 = .ok (.iload 5, 2) := dkg_X7_28.2.2.2.2.2.2.1
theorem dX7_goOver_68 : decode cX7_goOver 68 = .ok (.iaload, 1) := dkg_X7_28.2.2.2.2.2.2.2.1
theorem dX7_goOver_69 : decode cX7_goOver 69 = .ok (.iadd, 1) := dkg_X7_28.2.2.2.2.2.2.2.2.1
theorem dX7_goOver_70 : decode cX7_goOver 70 = .ok (.istore_n 2, 1) := dkg_X7_28.2.2.2.2.2.2.2.2.2.1
theorem dkg_X7_29 : dkp cX7_goOver [(71, .iinc 5 1, 3), (74, .goto (-32), 3), (77, .iinc 3 1, 3), (80, .goto (-76), 3), (83, .iload_n 2, 1), (84, .ireturn, 1)] := dkf (by decide +kernel)
theorem dX7_goOver_71 : decode cX7_goOver 71 = .ok (.iinc 5 1, 3) := dkg_X7_29.1
theorem dX7_goOver_74 : decode cX7_goOver 74 = .ok (.goto (-32), 3) := dkg_X7_29.2.1
theorem dX7_goOver_77 : decode cX7_goOver 77 = .ok (.iinc 3 1, 3) := dkg_X7_29.2.2.1
theorem dX7_goOver_80 : decode cX7_goOver 80 = .ok (.goto (-76), 3) := dkg_X7_29.2.2.2.1
theorem dX7_goOver_83 : decode cX7_goOver 83 = .ok (.iload_n 2, 1) := dkg_X7_29.2.2.2.2.1
theorem dX7_goOver_84 : decode cX7_goOver 84 = .ok (.ireturn, 1) := dkg_X7_29.2.2.2.2.2.1
