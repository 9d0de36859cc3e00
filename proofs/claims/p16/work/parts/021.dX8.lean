theorem dkg_X8_0 : dkp cX8_init [(0, .aload_n 0, 1), (1, .invokespecial 3, 3), (4, .aload_n 0, 1), (5, .iconst 0, 1), (6, .putfield 9, 3), (9, .aload_n 0, 1), (10, .iconst 0, 1), (11, .putfield 15, 3), (14, .aload_n 0, 1), (15, .iconst 0, 1)] := dkf (by decide +kernel)
theorem dX8_init_0 : decode cX8_init 0 = .ok (.aload_n 0, 1) := dkg_X8_0.1
theorem dX8_init_1 : decode cX8_init 1 = .ok (.invokespecial 3, 3) := dkg_X8_0.2.1
theorem dX8_init_4 : decode cX8_init 4 = .ok (.aload_n 0, 1) := dkg_X8_0.2.2.1
theorem dX8_init_5 : decode cX8_init 5 = .ok (.iconst 0, 1) := dkg_X8_0.2.2.2.1
theorem dX8_init_6 : decode cX8_init 6 = .ok (.putfield 9, 3) := dkg_X8_0.2.2.2.2.1
theorem dX8_init_9 : decode cX8_init 9 = .ok (.aload_n 0, 1) := dkg_X8_0.2.2.2.2.2.1
theorem dX8_init_10 : decode cX8_init 10 = .ok (.iconst 0, 1) := dkg_X8_0.2.2.2.2.2.2.1
theorem dX8_init_11 : decode cX8_init 11 = .ok (.putfield 15, 3) := dkg_X8_0.2.2.2.2.2.2.2.1
theorem dX8_init_14 : decode cX8_init 14 = .ok (.aload_n 0, 1) := dkg_X8_0.2.2.2.2.2.2.2.2.1
theorem dX8_init_15 : decode cX8_init 15 = .ok (.iconst 0, 1) := dkg_X8_0.2.2.2.2.2.2.2.2.2.1
theorem dkg_X8_1 : dkp cX8_init [(16, .putfield 19, 3), (19, .aload_n 0, 1), (20, .bipush 126, 2), (24, .putfield 22, 3), (27, .aload_n 0, 1), (28, .bipush 126, 2), (32, .putfield 26, 3), (35, .aload_n 0, 1), (36, .iconst 0, 1), (37, .putfield 30, 3)] := dkf (by decide +kernel)
theorem dX8_init_16 : decode cX8_init 16 = .ok (.putfield 19, 3) := dkg_X8_1.1
theorem dX8_init_19 : decode cX8_init 19 = .ok (.aload_n 0, 1) := dkg_X8_1.2.1
theorem dX8_init_20 : decode cX8_init 20 = .ok (.bipush 126, 2) := dkg_X8_1.2.2.1
theorem dX8_init_24 : decode cX8_init 24 = .ok (.putfield 22, 3) := dkg_X8_1.2.2.2.1
theorem dX8_init_27 : decode cX8_init 27 = .ok (.aload_n 0, 1) := dkg_X8_1.2.2.2.2.1
theorem dX8_init_28 : decode cX8_init 28 = .ok (.bipush 126, 2) := dkg_X8_1.2.2.2.2.2.1
theorem dX8_init_32 : decode cX8_init 32 = .ok (.putfield 26, 3) := dkg_X8_1.2.2.2.2.2.2.1
theorem dX8_init_35 : decode cX8_init 35 = .ok (.aload_n 0, 1) := dkg_X8_1.2.2.2.2.2.2.2.1
theorem dX8_init_36 : decode cX8_init 36 = .ok (.iconst 0, 1) := dkg_X8_1.2.2.2.2.2.2.2.2.1
theorem dX8_init_37 : decode cX8_init 37 = .ok (.putfield 30, 3) := dkg_X8_1.2.2.2.2.2.2.2.2.2.1
theorem dkg_X8_2 : dkp cX8_init [(40, .aload_n 0, 1), (41, .bipush 6, 2), (45, .putfield 33, 3), (48, .aload_n 0, 1), (49, .iconst 0, 1), (50, .putfield 36, 3), (53, .return_, 1)] := dkf (by decide +kernel)
theorem dX8_init_40 : decode cX8_init 40 = .ok (.aload_n 0, 1) := dkg_X8_2.1
theorem dX8_init_41 : decode cX8_init 41 = .ok (.bipush 6, 2) := dkg_X8_2.2.1
theorem dX8_init_45 : decode cX8_init 45 = .ok (.putfield 33, 3) := dkg_X8_2.2.2.1
theorem dX8_init_48 : decode cX8_init 48 = .ok (.aload_n 0, 1) := dkg_X8_2.2.2.2.1
theorem dX8_init_49 : decode cX8_init 49 = .ok (.iconst 0, 1) := dkg_X8_2.2.2.2.2.1
theorem dX8_init_50 : decode cX8_init 50 = .ok (.putfield 36, 3) := dkg_X8_2.2.2.2.2.2.1
theorem dX8_init_53 : decode cX8_init 53 = .ok (.return_, 1) := dkg_X8_2.2.2.2.2.2.2.1
theorem dkg_X8_3 : dkp cX8_init [(22, .newarray .boolean, 2), (30, .newarray .int, 2), (43, .newarray .int, 2)] := dkq (by decide +kernel)
theorem dX8_init_22 : decode cX8_init 22 = .ok (.newarray .boolean, 2) := dkg_X8_3.1
theorem dX8_init_30 : decode cX8_init 30 = .ok (.newarray .int, 2) := dkg_X8_3.2.1
theorem dX8_init_43 : decode cX8_init 43 = .ok (.newarray .int, 2) := dkg_X8_3.2.2.1
theorem dkg_X8_4 : dkp cX8_restart [(0, .aload_n 0, 1), (1, .iconst 0, 1), (2, .putfield 9, 3), (5, .aload_n 0, 1), (6, .iconst 0, 1), (7, .putfield 15, 3), (10, .return_, 1)] := dkf (by decide +kernel)
theorem dX8_restart_0 : decode cX8_restart 0 = .ok (.aload_n 0, 1) := dkg_X8_4.1
theorem dX8_restart_1 : decode cX8_restart 1 = .ok (.iconst 0, 1) := dkg_X8_4.2.1
theorem dX8_restart_2 : decode cX8_restart 2 = .ok (.putfield 9, 3) := dkg_X8_4.2.2.1
theorem dX8_restart_5 : decode cX8_restart 5 = .ok (.aload_n 0, 1) := dkg_X8_4.2.2.2.1
theorem dX8_restart_6 : decode cX8_restart 6 = .ok (.iconst 0, 1) := dkg_X8_4.2.2.2.2.1
theorem dX8_restart_7 : decode cX8_restart 7 = .ok (.putfield 15, 3) := dkg_X8_4.2.2.2.2.2.1
theorem dX8_restart_10 : decode cX8_restart 10 = .ok (.return_, 1) := dkg_X8_4.2.2.2.2.2.2.1
theorem dkg_X8_5 : dkp cX8_step [(0, .aload_n 0, 1), (1, .getfield 15, 3), (4, .ifCond .ne 9, 3), (7, .aload_n 0, 1), (8, .aload_n 1, 1), (9, .invokevirtual 39, 3), (12, .ireturn, 1), (13, .aload_n 2, 1), (14, .invokevirtual 43, 3), (17, .aload_n 0, 1)] := dkf (by decide +kernel)
theorem dX8_step_0 : decode cX8_step 0 = .ok (.aload_n 0, 1) := dkg_X8_5.1
theorem dX8_step_1 : decode cX8_step 1 = .ok (.getfield 15, 3) := dkg_X8_5.2.1
theorem dX8_step_4 : decode cX8_step 4 = .ok (.ifCond .ne 9, 3) := dkg_X8_5.2.2.1
theorem dX8_step_7 : decode cX8_step 7 = .ok (.aload_n 0, 1) := dkg_X8_5.2.2.2.1
theorem dX8_step_8 : decode cX8_step 8 = .ok (.aload_n 1, 1) := dkg_X8_5.2.2.2.2.1
theorem dX8_step_9 : decode cX8_step 9 = .ok (.invokevirtual 39, 3) := dkg_X8_5.2.2.2.2.2.1
theorem dX8_step_12 : decode cX8_step 12 = .ok (.ireturn, 1) := dkg_X8_5.2.2.2.2.2.2.1
theorem dX8_step_13 : decode cX8_step 13 = .ok (.aload_n 2, 1) := dkg_X8_5.2.2.2.2.2.2.2.1
theorem dX8_step_14 : decode cX8_step 14 = .ok (.invokevirtual 43, 3) := dkg_X8_5.2.2.2.2.2.2.2.2.1
theorem dX8_step_17 : decode cX8_step 17 = .ok (.aload_n 0, 1) := dkg_X8_5.2.2.2.2.2.2.2.2.2.1
theorem dkg_X8_6 : dkp cX8_step [(18, .getfield 9, 3), (21, .aload_n 1, 1), (22, .getfield 48, 3), (25, .if_icmp .ge 81, 3), (28, .aload_n 1, 1), (29, .aload_n 0, 1), (30, .getfield 9, 3), (33, .invokevirtual 53, 3), (36, .bipush 10, 2), (38, .if_icmp .eq 68, 3)] := dkf (by decide +kernel)
theorem dX8_step_18 : decode cX8_step 18 = .ok (.getfield 9, 3) := dkg_X8_6.1
theorem dX8_step_21 : decode cX8_step 21 = .ok (.aload_n 1, 1) := dkg_X8_6.2.1
theorem dX8_step_22 : decode cX8_step 22 = .ok (.getfield 48, 3) := dkg_X8_6.2.2.1
theorem dX8_step_25 : decode cX8_step 25 = .ok (.if_icmp .ge 81, 3) := dkg_X8_6.2.2.2.1
theorem dX8_step_28 : decode cX8_step 28 = .ok (.aload_n 1, 1) := dkg_X8_6.2.2.2.2.1
theorem dX8_step_29 : decode cX8_step 29 = .ok (.aload_n 0, 1) := dkg_X8_6.2.2.2.2.2.1
theorem dX8_step_30 : decode cX8_step 30 = .ok (.getfield 9, 3) := dkg_X8_6.2.2.2.2.2.2.1
theorem dX8_step_33 : decode cX8_step 33 = .ok (.invokevirtual 53, 3) := dkg_X8_6.2.2.2.2.2.2.2.1
theorem dX8_step_36 : decode cX8_step 36 = .ok (.bipush 10, 2) := dkg_X8_6.2.2.2.2.2.2.2.2.1
theorem dX8_step_38 : decode cX8_step 38 = .ok (.if_icmp .eq 68, 3) := dkg_X8_6.2.2.2.2.2.2.2.2.2.1
theorem dkg_X8_7 : dkp cX8_step [(41, .aload_n 1, 1), (42, .aload_n 0, 1), (43, .getfield 9, 3), (46, .invokevirtual 53, 3), (49, .istore_n 3, 1), (50, .iload_n 3, 1), (51, .bipush 32, 2), (53, .if_icmp .ne 12, 3), (56, .aload_n 2, 1), (57, .getfield 56, 3)] := dkf (by decide +kernel)
theorem dX8_step_41 : decode cX8_step 41 = .ok (.aload_n 1, 1) := dkg_X8_7.1
theorem dX8_step_42 : decode cX8_step 42 = .ok (.aload_n 0, 1) := dkg_X8_7.2.1
theorem dX8_step_43 : decode cX8_step 43 = .ok (.getfield 9, 3) := dkg_X8_7.2.2.1
theorem dX8_step_46 : decode cX8_step 46 = .ok (.invokevirtual 53, 3) := dkg_X8_7.2.2.2.1
theorem dX8_step_49 : decode cX8_step 49 = .ok (.istore_n 3, 1) := dkg_X8_7.2.2.2.2.1
theorem dX8_step_50 : decode cX8_step 50 = .ok (.iload_n 3, 1) := dkg_X8_7.2.2.2.2.2.1
theorem dX8_step_51 : decode cX8_step 51 = .ok (.bipush 32, 2) := dkg_X8_7.2.2.2.2.2.2.1
theorem dX8_step_53 : decode cX8_step 53 = .ok (.if_icmp .ne 12, 3) := dkg_X8_7.2.2.2.2.2.2.2.1
theorem dX8_step_56 : decode cX8_step 56 = .ok (.aload_n 2, 1) := dkg_X8_7.2.2.2.2.2.2.2.2.1
theorem dX8_step_57 : decode cX8_step 57 = .ok (.getfield 56, 3) := dkg_X8_7.2.2.2.2.2.2.2.2.2.1
theorem dkg_X8_8 : dkp cX8_step [(60, .ifCond .le 5, 3), (63, .iconst 2, 1), (64, .ireturn, 1), (65, .iload_n 3, 1), (66, .bipush 126, 2), (68, .if_icmp .ne 10, 3), (71, .aload_n 2, 1), (72, .invokevirtual 57, 3), (75, .goto 18, 3), (78, .iload_n 3, 1)] := dkf (by decide +kernel)
theorem dX8_step_60 : decode cX8_step 60 = .ok (.ifCond .le 5, 3) := dkg_X8_8.1
theorem dX8_step_63 : decode cX8_step 63 = .ok (.iconst 2, 1) := dkg_X8_8.2.1
theorem dX8_step_64 : decode cX8_step 64 = .ok (.ireturn, 1) := dkg_X8_8.2.2.1
theorem dX8_step_65 : decode cX8_step 65 = .ok (.iload_n 3, 1) := dkg_X8_8.2.2.2.1
theorem dX8_step_66 : decode cX8_step 66 = .ok (.bipush 126, 2) := dkg_X8_8.2.2.2.2.1
theorem dX8_step_68 : decode cX8_step 68 = .ok (.if_icmp .ne 10, 3) := dkg_X8_8.2.2.2.2.2.1
theorem dX8_step_71 : decode cX8_step 71 = .ok (.aload_n 2, 1) := dkg_X8_8.2.2.2.2.2.2.1
theorem dX8_step_72 : decode cX8_step 72 = .ok (.invokevirtual 57, 3) := dkg_X8_8.2.2.2.2.2.2.2.1
theorem dX8_step_75 : decode cX8_step 75 = .ok (.goto 18, 3) := dkg_X8_8.2.2.2.2.2.2.2.2.1
theorem dX8_step_78 : decode cX8_step 78 = .ok (.iload_n 3, 1) := dkg_X8_8.2.2.2.2.2.2.2.2.2.1
theorem dkg_X8_9 : dkp cX8_step [(79, .bipush 32, 2), (81, .if_icmp .eq 12, 3), (84, .aload_n 2, 1), (85, .iload_n 3, 1), (86, .aload_n 0, 1), (87, .getfield 9, 3), (90, .invokevirtual 60, 3), (93, .aload_n 0, 1), (94, .dup, 1), (95, .getfield 9, 3)] := dkf (by decide +kernel)
theorem dX8_step_79 : decode cX8_step 79 = .ok (.bipush 32, 2) := dkg_X8_9.1
theorem dX8_step_81 : decode cX8_step 81 = .ok (.if_icmp .eq 12, 3) := dkg_X8_9.2.1
theorem dX8_step_84 : decode cX8_step 84 = .ok (.aload_n 2, 1) := dkg_X8_9.2.2.1
theorem dX8_step_85 : decode cX8_step 85 = .ok (.iload_n 3, 1) := dkg_X8_9.2.2.2.1
theorem dX8_step_86 : decode cX8_step 86 = .ok (.aload_n 0, 1) := dkg_X8_9.2.2.2.2.1
theorem dX8_step_87 : decode cX8_step 87 = .ok (.getfield 9, 3) := dkg_X8_9.2.2.2.2.2.1
theorem dX8_step_90 : decode cX8_step 90 = .ok (.invokevirtual 60, 3) := dkg_X8_9.2.2.2.2.2.2.1
theorem dX8_step_93 : decode cX8_step 93 = .ok (.aload_n 0, 1) := dkg_X8_9.2.2.2.2.2.2.2.1
theorem dX8_step_94 : decode cX8_step 94 = .ok (.dup, 1) := dkg_X8_9.2.2.2.2.2.2.2.2.1
theorem dX8_step_95 : decode cX8_step 95 = .ok (.getfield 9, 3) := dkg_X8_9.2.2.2.2.2.2.2.2.2.1
theorem dkg_X8_10 : dkp cX8_step [(98, .iconst 1, 1), (99, .iadd, 1), (100, .putfield 9, 3), (103, .goto (-86), 3), (106, .aload_n 2, 1), (107, .getfield 56, 3), (110, .ifCond .le 5, 3), (113, .iconst 2, 1), (114, .ireturn, 1), (115, .aload_n 0, 1)] := dkf (by decide +kernel)
theorem dX8_step_98 : decode cX8_step 98 = .ok (.iconst 1, 1) := dkg_X8_10.1
theorem dX8_step_99 : decode cX8_step 99 = .ok (.iadd, 1) := dkg_X8_10.2.1
theorem dX8_step_100 : decode cX8_step 100 = .ok (.putfield 9, 3) := dkg_X8_10.2.2.1
theorem dX8_step_103 : decode cX8_step 103 = .ok (.goto (-86), 3) := dkg_X8_10.2.2.2.1
theorem dX8_step_106 : decode cX8_step 106 = .ok (.aload_n 2, 1) := dkg_X8_10.2.2.2.2.1
theorem dX8_step_107 : decode cX8_step 107 = .ok (.getfield 56, 3) := dkg_X8_10.2.2.2.2.2.1
theorem dX8_step_110 : decode cX8_step 110 = .ok (.ifCond .le 5, 3) := dkg_X8_10.2.2.2.2.2.2.1
theorem dX8_step_113 : decode cX8_step 113 = .ok (.iconst 2, 1) := dkg_X8_10.2.2.2.2.2.2.2.1
theorem dX8_step_114 : decode cX8_step 114 = .ok (.ireturn, 1) := dkg_X8_10.2.2.2.2.2.2.2.2.1
theorem dX8_step_115 : decode cX8_step 115 = .ok (.aload_n 0, 1) := dkg_X8_10.2.2.2.2.2.2.2.2.2.1
theorem dkg_X8_11 : dkp cX8_step [(116, .iconst 0, 1), (117, .putfield 15, 3), (120, .aload_n 0, 1), (121, .dup, 1), (122, .getfield 9, 3), (125, .iconst 1, 1), (126, .iadd, 1), (127, .putfield 9, 3), (130, .iconst 3, 1), (131, .ireturn, 1)] := dkf (by decide +kernel)
theorem dX8_step_116 : decode cX8_step 116 = .ok (.iconst 0, 1) := dkg_X8_11.1
theorem dX8_step_117 : decode cX8_step 117 = .ok (.putfield 15, 3) := dkg_X8_11.2.1
theorem dX8_step_120 : decode cX8_step 120 = .ok (.aload_n 0, 1) := dkg_X8_11.2.2.1
theorem dX8_step_121 : decode cX8_step 121 = .ok (.dup, 1) := dkg_X8_11.2.2.2.1
theorem dX8_step_122 : decode cX8_step 122 = .ok (.getfield 9, 3) := dkg_X8_11.2.2.2.2.1
theorem dX8_step_125 : decode cX8_step 125 = .ok (.iconst 1, 1) := dkg_X8_11.2.2.2.2.2.1
theorem dX8_step_126 : decode cX8_step 126 = .ok (.iadd, 1) := dkg_X8_11.2.2.2.2.2.2.1
theorem dX8_step_127 : decode cX8_step 127 = .ok (.putfield 9, 3) := dkg_X8_11.2.2.2.2.2.2.2.1
theorem dX8_step_130 : decode cX8_step 130 = .ok (.iconst 3, 1) := dkg_X8_11.2.2.2.2.2.2.2.2.1
theorem dX8_step_131 : decode cX8_step 131 = .ok (.ireturn, 1) := dkg_X8_11.2.2.2.2.2.2.2.2.2.1
theorem dkg_X8_12 : dkp cX8_enterLine [(0, .aload_n 0, 1), (1, .getfield 9, 3), (4, .aload_n 1, 1), (5, .getfield 48, 3), (8, .if_icmp .lt 5, 3), (11, .iconst 0, 1), (12, .ireturn, 1), (13, .aload_n 0, 1), (14, .iconst 1, 1), (15, .putfield 15, 3)] := dkf (by decide +kernel)
theorem dX8_enterLine_0 : decode cX8_enterLine 0 = .ok (.aload_n 0, 1) := dkg_X8_12.1
theorem dX8_enterLine_1 : decode cX8_enterLine 1 = .ok (.getfield 9, 3) := dkg_X8_12.2.1
theorem dX8_enterLine_4 : decode cX8_enterLine 4 = .ok (.aload_n 1, 1) := dkg_X8_12.2.2.1
theorem dX8_enterLine_5 : decode cX8_enterLine 5 = .ok (.getfield 48, 3) := dkg_X8_12.2.2.2.1
theorem dX8_enterLine_8 : decode cX8_enterLine 8 = .ok (.if_icmp .lt 5, 3) := dkg_X8_12.2.2.2.2.1
theorem dX8_enterLine_11 : decode cX8_enterLine 11 = .ok (.iconst 0, 1) := dkg_X8_12.2.2.2.2.2.1
theorem dX8_enterLine_12 : decode cX8_enterLine 12 = .ok (.ireturn, 1) := dkg_X8_12.2.2.2.2.2.2.1
theorem dX8_enterLine_13 : decode cX8_enterLine 13 = .ok (.aload_n 0, 1) := dkg_X8_12.2.2.2.2.2.2.2.1
theorem dX8_enterLine_14 : decode cX8_enterLine 14 = .ok (.iconst 1, 1) := dkg_X8_12.2.2.2.2.2.2.2.2.1
theorem dX8_enterLine_15 : decode cX8_enterLine 15 = .ok (.putfield 15, 3) := dkg_X8_12.2.2.2.2.2.2.2.2.2.1
theorem dkg_X8_13 : dkp cX8_enterLine [(18, .aload_n 0, 1), (19, .aload_n 1, 1), (20, .aload_n 0, 1), (21, .getfield 9, 3), (24, .invokevirtual 53, 3), (27, .bipush 94, 2), (29, .if_icmp .ne 7, 3), (32, .iconst 1, 1), (33, .goto 4, 3), (36, .iconst 0, 1)] := dkf (by decide +kernel)
theorem dX8_enterLine_18 : decode cX8_enterLine 18 = .ok (.aload_n 0, 1) := dkg_X8_13.1
theorem dX8_enterLine_19 : decode cX8_enterLine 19 = .ok (.aload_n 1, 1) := dkg_X8_13.2.1
theorem dX8_enterLine_20 : decode cX8_enterLine 20 = .ok (.aload_n 0, 1) := dkg_X8_13.2.2.1
theorem dX8_enterLine_21 : decode cX8_enterLine 21 = .ok (.getfield 9, 3) := dkg_X8_13.2.2.2.1
theorem dX8_enterLine_24 : decode cX8_enterLine 24 = .ok (.invokevirtual 53, 3) := dkg_X8_13.2.2.2.2.1
theorem dX8_enterLine_27 : decode cX8_enterLine 27 = .ok (.bipush 94, 2) := dkg_X8_13.2.2.2.2.2.1
theorem dX8_enterLine_29 : decode cX8_enterLine 29 = .ok (.if_icmp .ne 7, 3) := dkg_X8_13.2.2.2.2.2.2.1
theorem dX8_enterLine_32 : decode cX8_enterLine 32 = .ok (.iconst 1, 1) := dkg_X8_13.2.2.2.2.2.2.2.1
theorem dX8_enterLine_33 : decode cX8_enterLine 33 = .ok (.goto 4, 3) := dkg_X8_13.2.2.2.2.2.2.2.2.1
theorem dX8_enterLine_36 : decode cX8_enterLine 36 = .ok (.iconst 0, 1) := dkg_X8_13.2.2.2.2.2.2.2.2.2.1
theorem dkg_X8_14 : dkp cX8_enterLine [(37, .putfield 19, 3), (40, .aload_n 0, 1), (41, .dup, 1), (42, .getfield 9, 3), (45, .aload_n 0, 1), (46, .getfield 19, 3), (49, .ifCond .eq 7, 3), (52, .iconst 1, 1), (53, .goto 4, 3), (56, .iconst 0, 1)] := dkf (by decide +kernel)
theorem dX8_enterLine_37 : decode cX8_enterLine 37 = .ok (.putfield 19, 3) := dkg_X8_14.1
theorem dX8_enterLine_40 : decode cX8_enterLine 40 = .ok (.aload_n 0, 1) := dkg_X8_14.2.1
theorem dX8_enterLine_41 : decode cX8_enterLine 41 = .ok (.dup, 1) := dkg_X8_14.2.2.1
theorem dX8_enterLine_42 : decode cX8_enterLine 42 = .ok (.getfield 9, 3) := dkg_X8_14.2.2.2.1
theorem dX8_enterLine_45 : decode cX8_enterLine 45 = .ok (.aload_n 0, 1) := dkg_X8_14.2.2.2.2.1
theorem dX8_enterLine_46 : decode cX8_enterLine 46 = .ok (.getfield 19, 3) := dkg_X8_14.2.2.2.2.2.1
theorem dX8_enterLine_49 : decode cX8_enterLine 49 = .ok (.ifCond .eq 7, 3) := dkg_X8_14.2.2.2.2.2.2.1
theorem dX8_enterLine_52 : decode cX8_enterLine 52 = .ok (.iconst 1, 1) := dkg_X8_14.2.2.2.2.2.2.2.1
theorem dX8_enterLine_53 : decode cX8_enterLine 53 = .ok (.goto 4, 3) := dkg_X8_14.2.2.2.2.2.2.2.2.1
theorem dX8_enterLine_56 : decode cX8_enterLine 56 = .ok (.iconst 0, 1) := dkg_X8_14.2.2.2.2.2.2.2.2.2.1
theorem dkg_X8_15 : dkp cX8_enterLine [(57, .iadd, 1), (58, .putfield 9, 3), (61, .iconst 1, 1), (62, .ireturn, 1)] := dkf (by decide +kernel)
theorem dX8_enterLine_57 : decode cX8_enterLine 57 = .ok (.iadd, 1) := dkg_X8_15.1
theorem dX8_enterLine_58 : decode cX8_enterLine 58 = .ok (.putfield 9, 3) := dkg_X8_15.2.1
theorem dX8_enterLine_61 : decode cX8_enterLine 61 = .ok (.iconst 1, 1) := dkg_X8_15.2.2.1
theorem dX8_enterLine_62 : decode cX8_enterLine 62 = .ok (.ireturn, 1) := dkg_X8_15.2.2.2.1
theorem dkg_X8_16 : dkp cX8_gatherAlphabet [(0, .iconst 0, 1), (1, .istore_n 3, 1), (2, .iload_n 3, 1), (3, .bipush 125, 2), (5, .if_icmp .gt 16, 3), (8, .aload_n 0, 1), (9, .getfield 22, 3), (12, .iload_n 3, 1), (13, .iconst 0, 1), (14, .bastore, 1)] := dkf (by decide +kernel)
theorem dX8_gatherAlphabet_0 : decode cX8_gatherAlphabet 0 = .ok (.iconst 0, 1) := dkg_X8_16.1
theorem dX8_gatherAlphabet_1 : decode cX8_gatherAlphabet 1 = .ok (.istore_n 3, 1) := dkg_X8_16.2.1
theorem dX8_gatherAlphabet_2 : decode cX8_gatherAlphabet 2 = .ok (.iload_n 3, 1) := dkg_X8_16.2.2.1
theorem dX8_gatherAlphabet_3 : decode cX8_gatherAlphabet 3 = .ok (.bipush 125, 2) := dkg_X8_16.2.2.2.1
theorem dX8_gatherAlphabet_5 : decode cX8_gatherAlphabet 5 = .ok (.if_icmp .gt 16, 3) := dkg_X8_16.2.2.2.2.1
theorem dX8_gatherAlphabet_8 : decode cX8_gatherAlphabet 8 = .ok (.aload_n 0, 1) := dkg_X8_16.2.2.2.2.2.1
theorem dX8_gatherAlphabet_9 : decode cX8_gatherAlphabet 9 = .ok (.getfield 22, 3) := dkg_X8_16.2.2.2.2.2.2.1
theorem dX8_gatherAlphabet_12 : decode cX8_gatherAlphabet 12 = .ok (.iload_n 3, 1) := dkg_X8_16.2.2.2.2.2.2.2.1
theorem dX8_gatherAlphabet_13 : decode cX8_gatherAlphabet 13 = .ok (.iconst 0, 1) := dkg_X8_16.2.2.2.2.2.2.2.2.1
theorem dX8_gatherAlphabet_14 : decode cX8_gatherAlphabet 14 = .ok (.bastore, 1) := dkg_X8_16.2.2.2.2.2.2.2.2.2.1
theorem dkg_X8_17 : dkp cX8_gatherAlphabet [(15, .iinc 3 1, 3), (18, .goto (-16), 3), (21, .aload_n 0, 1), (22, .aload_n 1, 1), (23, .getfield 64, 3), (26, .invokevirtual 70, 3), (29, .aload_n 0, 1), (30, .aload_n 1, 1), (31, .getfield 74, 3), (34, .invokevirtual 70, 3)] := dkf (by decide +kernel)
theorem dX8_gatherAlphabet_15 : decode cX8_gatherAlphabet 15 = .ok (.iinc 3 1, 3) := dkg_X8_17.1
theorem dX8_gatherAlphabet_18 : decode cX8_gatherAlphabet 18 = .ok (.goto (-16), 3) := dkg_X8_17.2.1
theorem dX8_gatherAlphabet_21 : decode cX8_gatherAlphabet 21 = .ok (.aload_n 0, 1) := dkg_X8_17.2.2.1
theorem dX8_gatherAlphabet_22 : decode cX8_gatherAlphabet 22 = .ok (.aload_n 1, 1) := dkg_X8_17.2.2.2.1
theorem dX8_gatherAlphabet_23 : decode cX8_gatherAlphabet 23 = .ok (.getfield 64, 3) := dkg_X8_17.2.2.2.2.1
theorem dX8_gatherAlphabet_26 : decode cX8_gatherAlphabet 26 = .ok (.invokevirtual 70, 3) := dkg_X8_17.2.2.2.2.2.1
theorem dX8_gatherAlphabet_29 : decode cX8_gatherAlphabet 29 = .ok (.aload_n 0, 1) := dkg_X8_17.2.2.2.2.2.2.1
theorem dX8_gatherAlphabet_30 : decode cX8_gatherAlphabet 30 = .ok (.aload_n 1, 1) := dkg_X8_17.2.2.2.2.2.2.2.1
theorem dX8_gatherAlphabet_31 : decode cX8_gatherAlphabet 31 = .ok (.getfield 74, 3) := dkg_X8_17.2.2.2.2.2.2.2.2.1
theorem dX8_gatherAlphabet_34 : decode cX8_gatherAlphabet 34 = .ok (.invokevirtual 70, 3) := dkg_X8_17.2.2.2.2.2.2.2.2.2.1
theorem dkg_X8_18 : dkp cX8_gatherAlphabet [(37, .iload_n 2, 1), (38, .ifCond .eq 19, 3), (41, .aload_n 0, 1), (42, .getfield 22, 3), (45, .bipush 60, 2), (47, .iconst 1, 1), (48, .bastore, 1), (49, .aload_n 0, 1), (50, .getfield 22, 3), (53, .bipush 62, 2)] := dkf (by decide +kernel)
theorem dX8_gatherAlphabet_37 : decode cX8_gatherAlphabet 37 = .ok (.iload_n 2, 1) := dkg_X8_18.1
theorem dX8_gatherAlphabet_38 : decode cX8_gatherAlphabet 38 = .ok (.ifCond .eq 19, 3) := dkg_X8_18.2.1
theorem dX8_gatherAlphabet_41 : decode cX8_gatherAlphabet 41 = .ok (.aload_n 0, 1) := dkg_X8_18.2.2.1
theorem dX8_gatherAlphabet_42 : decode cX8_gatherAlphabet 42 = .ok (.getfield 22, 3) := dkg_X8_18.2.2.2.1
theorem dX8_gatherAlphabet_45 : decode cX8_gatherAlphabet 45 = .ok (.bipush 60, 2) := dkg_X8_18.2.2.2.2.1
theorem dX8_gatherAlphabet_47 : decode cX8_gatherAlphabet 47 = .ok (.iconst 1, 1) := dkg_X8_18.2.2.2.2.2.1
theorem dX8_gatherAlphabet_48 : decode cX8_gatherAlphabet 48 = .ok (.bastore, 1) := dkg_X8_18.2.2.2.2.2.2.1
theorem dX8_gatherAlphabet_49 : decode cX8_gatherAlphabet 49 = .ok (.aload_n 0, 1) := dkg_X8_18.2.2.2.2.2.2.2.1
theorem dX8_gatherAlphabet_50 : decode cX8_gatherAlphabet 50 = .ok (.getfield 22, 3) := dkg_X8_18.2.2.2.2.2.2.2.2.1
theorem dX8_gatherAlphabet_53 : decode cX8_gatherAlphabet 53 = .ok (.bipush 62, 2) := dkg_X8_18.2.2.2.2.2.2.2.2.2.1
theorem dkg_X8_19 : dkp cX8_gatherAlphabet [(55, .iconst 1, 1), (56, .bastore, 1), (57, .bipush 97, 2), (59, .istore_n 3, 1), (60, .iload_n 3, 1), (61, .bipush 122, 2), (63, .if_icmp .gt 44, 3), (66, .aload_n 0, 1), (67, .getfield 22, 3), (70, .iload_n 3, 1)] := dkf (by decide +kernel)
theorem dX8_gatherAlphabet_55 : decode cX8_gatherAlphabet 55 = .ok (.iconst 1, 1) := dkg_X8_19.1
theorem dX8_gatherAlphabet_56 : decode cX8_gatherAlphabet 56 = .ok (.bastore, 1) := dkg_X8_19.2.1
theorem dX8_gatherAlphabet_57 : decode cX8_gatherAlphabet 57 = .ok (.bipush 97, 2) := dkg_X8_19.2.2.1
theorem dX8_gatherAlphabet_59 : decode cX8_gatherAlphabet 59 = .ok (.istore_n 3, 1) := dkg_X8_19.2.2.2.1
theorem dX8_gatherAlphabet_60 : decode cX8_gatherAlphabet 60 = .ok (.iload_n 3, 1) := dkg_X8_19.2.2.2.2.1
theorem dX8_gatherAlphabet_61 : decode cX8_gatherAlphabet 61 = .ok (.bipush 122, 2) := dkg_X8_19.2.2.2.2.2.1
theorem dX8_gatherAlphabet_63 : decode cX8_gatherAlphabet 63 = .ok (.if_icmp .gt 44, 3) := dkg_X8_19.2.2.2.2.2.2.1
theorem dX8_gatherAlphabet_66 : decode cX8_gatherAlphabet 66 = .ok (.aload_n 0, 1) := dkg_X8_19.2.2.2.2.2.2.2.1
theorem dX8_gatherAlphabet_67 : decode cX8_gatherAlphabet 67 = .ok (.getfield 22, 3) := dkg_X8_19.2.2.2.2.2.2.2.2.1
theorem dX8_gatherAlphabet_70 : decode cX8_gatherAlphabet 70 = .ok (.iload_n 3, 1) := dkg_X8_19.2.2.2.2.2.2.2.2.2.1
theorem dkg_X8_20 : dkp cX8_gatherAlphabet [(71, .bipush 32, 2), (73, .isub, 1), (74, .aload_n 0, 1), (75, .getfield 22, 3), (78, .iload_n 3, 1), (79, .bipush 32, 2), (81, .isub, 1), (82, .baload, 1), (83, .ifCond .ne 12, 3), (86, .aload_n 0, 1)] := dkf (by decide +kernel)
theorem dX8_gatherAlphabet_71 : decode cX8_gatherAlphabet 71 = .ok (.bipush 32, 2) := dkg_X8_20.1
theorem dX8_gatherAlphabet_73 : decode cX8_gatherAlphabet 73 = .ok (.isub, 1) := dkg_X8_20.2.1
theorem dX8_gatherAlphabet_74 : decode cX8_gatherAlphabet 74 = .ok (.aload_n 0, 1) := dkg_X8_20.2.2.1
theorem dX8_gatherAlphabet_75 : decode cX8_gatherAlphabet 75 = .ok (.getfield 22, 3) := dkg_X8_20.2.2.2.1
theorem dX8_gatherAlphabet_78 : decode cX8_gatherAlphabet 78 = .ok (.iload_n 3, 1) := dkg_X8_20.2.2.2.2.1
theorem dX8_gatherAlphabet_79 : decode cX8_gatherAlphabet 79 = .ok (.bipush 32, 2) := dkg_X8_20.2.2.2.2.2.1
theorem dX8_gatherAlphabet_81 : decode cX8_gatherAlphabet 81 = .ok (.isub, 1) := dkg_X8_20.2.2.2.2.2.2.1
theorem dX8_gatherAlphabet_82 : decode cX8_gatherAlphabet 82 = .ok (.baload, 1) := dkg_X8_20.2.2.2.2.2.2.2.1
theorem dX8_gatherAlphabet_83 : decode cX8_gatherAlphabet 83 = .ok (.ifCond .ne 12, 3) := dkg_X8_20.2.2.2.2.2.2.2.2.1
theorem dX8_gatherAlphabet_86 : decode cX8_gatherAlphabet 86 = .ok (.aload_n 0, 1) := dkg_X8_20.2.2.2.2.2.2.2.2.2.1
theorem dkg_X8_21 : dkp cX8_gatherAlphabet [(87, .getfield 22, 3), (90, .iload_n 3, 1), (91, .baload, 1), (92, .ifCond .eq 7, 3), (95, .iconst 1, 1), (96, .goto 4, 3), (99, .iconst 0, 1), (100, .bastore, 1), (101, .iinc 3 1, 3), (104, .goto (-44), 3)] := dkf (by decide +kernel)
theorem dX8_gatherAlphabet_87 : decode cX8_gatherAlphabet 87 = .ok (.getfield 22, 3) := dkg_X8_21.1
theorem dX8_gatherAlphabet_90 : decode cX8_gatherAlphabet 90 = .ok (.iload_n 3, 1) := dkg_X8_21.2.1
theorem dX8_gatherAlphabet_91 : decode cX8_gatherAlphabet 91 = .ok (.baload, 1) := dkg_X8_21.2.2.1
theorem dX8_gatherAlphabet_92 : decode cX8_gatherAlphabet 92 = .ok (.ifCond .eq 7, 3) := dkg_X8_21.2.2.2.1
theorem dX8_gatherAlphabet_95 : decode cX8_gatherAlphabet 95 = .ok (.iconst 1, 1) := dkg_X8_21.2.2.2.2.1
theorem dX8_gatherAlphabet_96 : decode cX8_gatherAlphabet 96 = .ok (.goto 4, 3) := dkg_X8_21.2.2.2.2.2.1
theorem dX8_gatherAlphabet_99 : decode cX8_gatherAlphabet 99 = .ok (.iconst 0, 1) := dkg_X8_21.2.2.2.2.2.2.1
theorem dX8_gatherAlphabet_100 : decode cX8_gatherAlphabet 100 = .ok (.bastore, 1) := dkg_X8_21.2.2.2.2.2.2.2.1
theorem dX8_gatherAlphabet_101 : decode cX8_gatherAlphabet 101 = .ok (.iinc 3 1, 3) := dkg_X8_21.2.2.2.2.2.2.2.2.1
theorem dX8_gatherAlphabet_104 : decode cX8_gatherAlphabet 104 = .ok (.goto (-44), 3) := dkg_X8_21.2.2.2.2.2.2.2.2.2.1
theorem dkg_X8_22 : dkp cX8_gatherAlphabet [(107, .aload_n 0, 1), (108, .iconst 0, 1), (109, .putfield 30, 3), (112, .bipush 33, 2), (114, .istore_n 3, 1), (115, .iload_n 3, 1), (116, .bipush 125, 2), (118, .if_icmp .gt 38, 3), (121, .aload_n 0, 1), (122, .getfield 22, 3)] := dkf (by decide +kernel)
theorem dX8_gatherAlphabet_107 : decode cX8_gatherAlphabet 107 = .ok (.aload_n 0, 1) := dkg_X8_22.1
theorem dX8_gatherAlphabet_108 : decode cX8_gatherAlphabet 108 = .ok (.iconst 0, 1) := dkg_X8_22.2.1
theorem dX8_gatherAlphabet_109 : decode cX8_gatherAlphabet 109 = .ok (.putfield 30, 3) := dkg_X8_22.2.2.1
theorem dX8_gatherAlphabet_112 : decode cX8_gatherAlphabet 112 = .ok (.bipush 33, 2) := dkg_X8_22.2.2.2.1
theorem dX8_gatherAlphabet_114 : decode cX8_gatherAlphabet 114 = .ok (.istore_n 3, 1) := dkg_X8_22.2.2.2.2.1
theorem dX8_gatherAlphabet_115 : decode cX8_gatherAlphabet 115 = .ok (.iload_n 3, 1) := dkg_X8_22.2.2.2.2.2.1
theorem dX8_gatherAlphabet_116 : decode cX8_gatherAlphabet 116 = .ok (.bipush 125, 2) := dkg_X8_22.2.2.2.2.2.2.1
theorem dX8_gatherAlphabet_118 : decode cX8_gatherAlphabet 118 = .ok (.if_icmp .gt 38, 3) := dkg_X8_22.2.2.2.2.2.2.2.1
theorem dX8_gatherAlphabet_121 : decode cX8_gatherAlphabet 121 = .ok (.aload_n 0, 1) := dkg_X8_22.2.2.2.2.2.2.2.2.1
theorem dX8_gatherAlphabet_122 : decode cX8_gatherAlphabet 122 = .ok (.getfield 22, 3) := dkg_X8_22.2.2.2.2.2.2.2.2.2.1
theorem dkg_X8_23 : dkp cX8_gatherAlphabet [(125, .iload_n 3, 1), (126, .baload, 1), (127, .ifCond .eq 23, 3), (130, .aload_n 0, 1), (131, .getfield 26, 3), (134, .aload_n 0, 1), (135, .getfield 30, 3), (138, .iload_n 3, 1), (139, .iastore, 1), (140, .aload_n 0, 1)] := dkf (by decide +kernel)
theorem dX8_gatherAlphabet_125 : decode cX8_gatherAlphabet 125 = .ok (.iload_n 3, 1) := dkg_X8_23.1
theorem dX8_gatherAlphabet_126 : decode cX8_gatherAlphabet 126 = .ok (.baload, 1) := dkg_X8_23.2.1
theorem dX8_gatherAlphabet_127 : decode cX8_gatherAlphabet 127 = .ok (.ifCond .eq 23, 3) := dkg_X8_23.2.2.1
theorem dX8_gatherAlphabet_130 : decode cX8_gatherAlphabet 130 = .ok (.aload_n 0, 1) := dkg_X8_23.2.2.2.1
theorem dX8_gatherAlphabet_131 : decode cX8_gatherAlphabet 131 = .ok (.getfield 26, 3) := dkg_X8_23.2.2.2.2.1
theorem dX8_gatherAlphabet_134 : decode cX8_gatherAlphabet 134 = .ok (.aload_n 0, 1) := dkg_X8_23.2.2.2.2.2.1
theorem dX8_gatherAlphabet_135 : decode cX8_gatherAlphabet 135 = .ok (.getfield 30, 3) := dkg_X8_23.2.2.2.2.2.2.1
theorem dX8_gatherAlphabet_138 : decode cX8_gatherAlphabet 138 = .ok (.iload_n 3, 1) := dkg_X8_23.2.2.2.2.2.2.2.1
theorem dX8_gatherAlphabet_139 : decode cX8_gatherAlphabet 139 = .ok (.iastore, 1) := dkg_X8_23.2.2.2.2.2.2.2.2.1
theorem dX8_gatherAlphabet_140 : decode cX8_gatherAlphabet 140 = .ok (.aload_n 0, 1) := dkg_X8_23.2.2.2.2.2.2.2.2.2.1
theorem dkg_X8_24 : dkp cX8_gatherAlphabet [(141, .dup, 1), (142, .getfield 30, 3), (145, .iconst 1, 1), (146, .iadd, 1), (147, .putfield 30, 3), (150, .iinc 3 1, 3), (153, .goto (-38), 3), (156, .return_, 1)] := dkf (by decide +kernel)
theorem dX8_gatherAlphabet_141 : decode cX8_gatherAlphabet 141 = .ok (.dup, 1) := dkg_X8_24.1
theorem dX8_gatherAlphabet_142 : decode cX8_gatherAlphabet 142 = .ok (.getfield 30, 3) := dkg_X8_24.2.1
theorem dX8_gatherAlphabet_145 : decode cX8_gatherAlphabet 145 = .ok (.iconst 1, 1) := dkg_X8_24.2.2.1
theorem dX8_gatherAlphabet_146 : decode cX8_gatherAlphabet 146 = .ok (.iadd, 1) := dkg_X8_24.2.2.2.1
theorem dX8_gatherAlphabet_147 : decode cX8_gatherAlphabet 147 = .ok (.putfield 30, 3) := dkg_X8_24.2.2.2.2.1
theorem dX8_gatherAlphabet_150 : decode cX8_gatherAlphabet 150 = .ok (.iinc 3 1, 3) := dkg_X8_24.2.2.2.2.2.1
theorem dX8_gatherAlphabet_153 : decode cX8_gatherAlphabet 153 = .ok (.goto (-38), 3) := dkg_X8_24.2.2.2.2.2.2.1
theorem dX8_gatherAlphabet_156 : decode cX8_gatherAlphabet 156 = .ok (.return_, 1) := dkg_X8_24.2.2.2.2.2.2.2.1
theorem dkg_X8_25 : dkp cX8_markLetters [(0, .iconst 0, 1), (1, .istore_n 2, 1), (2, .iload_n 2, 1), (3, .aload_n 1, 1), (4, .invokevirtual 77, 3), (7, .if_icmp .ge 63, 3), (10, .aload_n 1, 1), (11, .iload_n 2, 1), (12, .invokevirtual 82, 3), (15, .checkcast 86, 3)] := dkf (by decide +kernel)
theorem dX8_markLetters_0 : decode cX8_markLetters 0 = .ok (.iconst 0, 1) := dkg_X8_25.1
theorem dX8_markLetters_1 : decode cX8_markLetters 1 = .ok (.istore_n 2, 1) := dkg_X8_25.2.1
theorem dX8_markLetters_2 : decode cX8_markLetters 2 = .ok (.iload_n 2, 1) := dkg_X8_25.2.2.1
theorem dX8_markLetters_3 : decode cX8_markLetters 3 = .ok (.aload_n 1, 1) := dkg_X8_25.2.2.2.1
theorem dX8_markLetters_4 : decode cX8_markLetters 4 = .ok (.invokevirtual 77, 3) := dkg_X8_25.2.2.2.2.1
theorem dX8_markLetters_7 : decode cX8_markLetters 7 = .ok (.if_icmp .ge 63, 3) := dkg_X8_25.2.2.2.2.2.1
theorem dX8_markLetters_10 : decode cX8_markLetters 10 = .ok (.aload_n 1, 1) := dkg_X8_25.2.2.2.2.2.2.1
theorem dX8_markLetters_11 : decode cX8_markLetters 11 = .ok (.iload_n 2, 1) := dkg_X8_25.2.2.2.2.2.2.2.1
theorem dX8_markLetters_12 : decode cX8_markLetters 12 = .ok (.invokevirtual 82, 3) := dkg_X8_25.2.2.2.2.2.2.2.2.1
theorem dX8_markLetters_15 : decode cX8_markLetters 15 = .ok (.checkcast 86, 3) := dkg_X8_25.2.2.2.2.2.2.2.2.2.1
theorem dkg_X8_26 : dkp cX8_markLetters [(18, .getfield 88, 3), (21, .astore_n 3, 1), (22, .iconst 0, 1), (23, .istore 4, 2), (25, .iload 4, 2), (27, .aload_n 3, 1), (28, .arraylength, 1), (29, .if_icmp .ge 35, 3), (32, .aload_n 3, 1), (33, .iload 4, 2)] := dkf (by decide +kernel)
theorem dX8_markLetters_18 : decode cX8_markLetters 18 = .ok (.getfield 88, 3) := dkg_X8_26.1
theorem dX8_markLetters_21 : decode cX8_markLetters 21 = .ok (.astore_n 3, 1) := dkg_X8_26.2.1
theorem dX8_markLetters_22 : decode cX8_markLetters 22 = .ok (.iconst 0, 1) := dkg_X8_26.2.2.1
theorem dX8_markLetters_23 : decode cX8_markLetters 23 = .ok (.istore 4, 2) := dkg_X8_26.2.2.2.1
theorem dX8_markLetters_25 : decode cX8_markLetters 25 = .ok (.iload 4, 2) := dkg_X8_26.2.2.2.2.1
theorem dX8_markLetters_27 : decode cX8_markLetters 27 = .ok (.aload_n 3, 1) := dkg_X8_26.2.2.2.2.2.1
theorem dX8_markLetters_28 : decode cX8_markLetters 28 = .ok (.arraylength, 1) := dkg_X8_26.2.2.2.2.2.2.1
theorem dX8_markLetters_29 : decode cX8_markLetters 29 = .ok (.if_icmp .ge 35, 3) := dkg_X8_26.2.2.2.2.2.2.2.1
theorem dX8_markLetters_32 : decode cX8_markLetters 32 = .ok (.aload_n 3, 1) := dkg_X8_26.2.2.2.2.2.2.2.2.1
theorem dX8_markLetters_33 : decode cX8_markLetters 33 = .ok (.iload 4, 2) := dkg_X8_26.2.2.2.2.2.2.2.2.2.1
theorem dkg_X8_27 : dkp cX8_markLetters [(35, .iaload, 1), (36, .ifCond .lt 22, 3), (39, .aload_n 3, 1), (40, .iload 4, 2), (42, .iaload, 1), (43, .bipush 125, 2), (45, .if_icmp .gt 13, 3), (48, .aload_n 0, 1), (49, .getfield 22, 3), (52, .aload_n 3, 1)] := dkf (by decide +kernel)
theorem dX8_markLetters_35 : decode cX8_markLetters 35 = .ok (.iaload, 1) := dkg_X8_27.1
theorem dX8_markLetters_36 : decode cX8_markLetters 36 = .ok (.ifCond .lt 22, 3) := dkg_X8_27.2.1
theorem dX8_markLetters_39 : decode cX8_markLetters 39 = .ok (.aload_n 3, 1) := dkg_X8_27.2.2.1
theorem dX8_markLetters_40 : decode cX8_markLetters 40 = .ok (.iload 4, 2) := dkg_X8_27.2.2.2.1
theorem dX8_markLetters_42 : decode cX8_markLetters 42 = .ok (.iaload, 1) := dkg_X8_27.2.2.2.2.1
theorem dX8_markLetters_43 : decode cX8_markLetters 43 = .ok (.bipush 125, 2) := dkg_X8_27.2.2.2.2.2.1
theorem dX8_markLetters_45 : decode cX8_markLetters 45 = .ok (.if_icmp .gt 13, 3) := dkg_X8_27.2.2.2.2.2.2.1
theorem dX8_markLetters_48 : decode cX8_markLetters 48 = .ok (.aload_n 0, 1) := dkg_X8_27.2.2.2.2.2.2.2.1
theorem dX8_markLetters_49 : decode cX8_markLetters 49 = .ok (.getfield 22, 3) := dkg_X8_27.2.2.2.2.2.2.2.2.1
theorem dX8_markLetters_52 : decode cX8_markLetters 52 = .ok (.aload_n 3, 1) := dkg_X8_27.2.2.2.2.2.2.2.2.2.1
theorem dkg_X8_28 : dkp cX8_markLetters [(53, .iload 4, 2), (55, .iaload, 1), (56, .iconst 1, 1), (57, .bastore, 1), (58, .iinc 4 1, 3), (61, .goto (-36), 3), (64, .iinc 2 1, 3), (67, .goto (-65), 3), (70, .return_, 1)] := dkf (by decide +kernel)
theorem dX8_markLetters_53 : decode cX8_markLetters 53 = .ok (.iload 4, 2) := dkg_X8_28.1
theorem dX8_markLetters_55 : decode cX8_markLetters 55 = .ok (.iaload, 1) := dkg_X8_28.2.1
theorem dX8_markLetters_56 : decode cX8_markLetters 56 = .ok (.iconst 1, 1) := dkg_X8_28.2.2.1
theorem dX8_markLetters_57 : decode cX8_markLetters 57 = .ok (.bastore, 1) := dkg_X8_28.2.2.2.1
theorem dX8_markLetters_58 : decode cX8_markLetters 58 = .ok (.iinc 4 1, 3) := dkg_X8_28.2.2.2.2.1
theorem dX8_markLetters_61 : decode cX8_markLetters 61 = .ok (.goto (-36), 3) := dkg_X8_28.2.2.2.2.2.1
theorem dX8_markLetters_64 : decode cX8_markLetters 64 = .ok (.iinc 2 1, 3) := dkg_X8_28.2.2.2.2.2.2.1
theorem dX8_markLetters_67 : decode cX8_markLetters 67 = .ok (.goto (-65), 3) := dkg_X8_28.2.2.2.2.2.2.2.1
theorem dX8_markLetters_70 : decode cX8_markLetters 70 = .ok (.return_, 1) := dkg_X8_28.2.2.2.2.2.2.2.2.1
theorem dkg_X8_29 : dkp cX8_startSpelling [(0, .aload_n 0, 1), (1, .iconst 0, 1), (2, .putfield 36, 3), (5, .aload_n 0, 1), (6, .getfield 30, 3), (9, .ifCond .le 15, 3), (12, .aload_n 0, 1), (13, .iload_n 1, 1), (14, .invokevirtual 91, 3), (17, .ifCond .eq 7, 3)] := dkf (by decide +kernel)
theorem dX8_startSpelling_0 : decode cX8_startSpelling 0 = .ok (.aload_n 0, 1) := dkg_X8_29.1
theorem dX8_startSpelling_1 : decode cX8_startSpelling 1 = .ok (.iconst 0, 1) := dkg_X8_29.2.1
theorem dX8_startSpelling_2 : decode cX8_startSpelling 2 = .ok (.putfield 36, 3) := dkg_X8_29.2.2.1
theorem dX8_startSpelling_5 : decode cX8_startSpelling 5 = .ok (.aload_n 0, 1) := dkg_X8_29.2.2.2.1
theorem dX8_startSpelling_6 : decode cX8_startSpelling 6 = .ok (.getfield 30, 3) := dkg_X8_29.2.2.2.2.1
theorem dX8_startSpelling_9 : decode cX8_startSpelling 9 = .ok (.ifCond .le 15, 3) := dkg_X8_29.2.2.2.2.2.1
theorem dX8_startSpelling_12 : decode cX8_startSpelling 12 = .ok (.aload_n 0, 1) := dkg_X8_29.2.2.2.2.2.2.1
theorem dX8_startSpelling_13 : decode cX8_startSpelling 13 = .ok (.iload_n 1, 1) := dkg_X8_29.2.2.2.2.2.2.2.1
theorem dX8_startSpelling_14 : decode cX8_startSpelling 14 = .ok (.invokevirtual 91, 3) := dkg_X8_29.2.2.2.2.2.2.2.2.1
theorem dX8_startSpelling_17 : decode cX8_startSpelling 17 = .ok (.ifCond .eq 7, 3) := dkg_X8_29.2.2.2.2.2.2.2.2.2.1
theorem dkg_X8_30 : dkp cX8_startSpelling [(20, .iconst 1, 1), (21, .goto 4, 3), (24, .iconst 0, 1), (25, .ireturn, 1)] := dkf (by decide +kernel)
theorem dX8_startSpelling_20 : decode cX8_startSpelling 20 = .ok (.iconst 1, 1) := dkg_X8_30.1
theorem dX8_startSpelling_21 : decode cX8_startSpelling 21 = .ok (.goto 4, 3) := dkg_X8_30.2.1
theorem dX8_startSpelling_24 : decode cX8_startSpelling 24 = .ok (.iconst 0, 1) := dkg_X8_30.2.2.1
theorem dX8_startSpelling_25 : decode cX8_startSpelling 25 = .ok (.ireturn, 1) := dkg_X8_30.2.2.2.1
theorem dkg_X8_31 : dkp cX8_lengthen [(0, .aload_n 0, 1), (1, .getfield 36, 3), (4, .iload_n 1, 1), (5, .if_icmp .ge 12, 3), (8, .aload_n 0, 1), (9, .getfield 36, 3), (12, .bipush 6, 2), (14, .if_icmp .lt 5, 3), (17, .iconst 0, 1), (18, .ireturn, 1)] := dkf (by decide +kernel)
theorem dX8_lengthen_0 : decode cX8_lengthen 0 = .ok (.aload_n 0, 1) := dkg_X8_31.1
theorem dX8_lengthen_1 : decode cX8_lengthen 1 = .ok (.getfield 36, 3) := dkg_X8_31.2.1
theorem dX8_lengthen_4 : decode cX8_lengthen 4 = .ok (.iload_n 1, 1) := dkg_X8_31.2.2.1
theorem dX8_lengthen_5 : decode cX8_lengthen 5 = .ok (.if_icmp .ge 12, 3) := dkg_X8_31.2.2.2.1
theorem dX8_lengthen_8 : decode cX8_lengthen 8 = .ok (.aload_n 0, 1) := dkg_X8_31.2.2.2.2.1
theorem dX8_lengthen_9 : decode cX8_lengthen 9 = .ok (.getfield 36, 3) := dkg_X8_31.2.2.2.2.2.1
theorem dX8_lengthen_12 : decode cX8_lengthen 12 = .ok (.bipush 6, 2) := dkg_X8_31.2.2.2.2.2.2.1
theorem dX8_lengthen_14 : decode cX8_lengthen 14 = .ok (.if_icmp .lt 5, 3) := dkg_X8_31.2.2.2.2.2.2.2.1
theorem dX8_lengthen_17 : decode cX8_lengthen 17 = .ok (.iconst 0, 1) := dkg_X8_31.2.2.2.2.2.2.2.2.1
theorem dX8_lengthen_18 : decode cX8_lengthen 18 = .ok (.ireturn, 1) := dkg_X8_31.2.2.2.2.2.2.2.2.2.1
theorem dkg_X8_32 : dkp cX8_lengthen [(19, .aload_n 0, 1), (20, .dup, 1), (21, .getfield 36, 3), (24, .iconst 1, 1), (25, .iadd, 1), (26, .putfield 36, 3), (29, .aload_n 0, 1), (30, .getfield 33, 3), (33, .iconst 0, 1), (34, .invokestatic 95, 3)] := dkf (by decide +kernel)
theorem dX8_lengthen_19 : decode cX8_lengthen 19 = .ok (.aload_n 0, 1) := dkg_X8_32.1
theorem dX8_lengthen_20 : decode cX8_lengthen 20 = .ok (.dup, 1) := dkg_X8_32.2.1
theorem dX8_lengthen_21 : decode cX8_lengthen 21 = .ok (.getfield 36, 3) := dkg_X8_32.2.2.1
theorem dX8_lengthen_24 : decode cX8_lengthen 24 = .ok (.iconst 1, 1) := dkg_X8_32.2.2.2.1
theorem dX8_lengthen_25 : decode cX8_lengthen 25 = .ok (.iadd, 1) := dkg_X8_32.2.2.2.2.1
theorem dX8_lengthen_26 : decode cX8_lengthen 26 = .ok (.putfield 36, 3) := dkg_X8_32.2.2.2.2.2.1
theorem dX8_lengthen_29 : decode cX8_lengthen 29 = .ok (.aload_n 0, 1) := dkg_X8_32.2.2.2.2.2.2.1
theorem dX8_lengthen_30 : decode cX8_lengthen 30 = .ok (.getfield 33, 3) := dkg_X8_32.2.2.2.2.2.2.2.1
theorem dX8_lengthen_33 : decode cX8_lengthen 33 = .ok (.iconst 0, 1) := dkg_X8_32.2.2.2.2.2.2.2.2.1
theorem dX8_lengthen_34 : decode cX8_lengthen 34 = .ok (.invokestatic 95, 3) := dkg_X8_32.2.2.2.2.2.2.2.2.2.1
theorem dkg_X8_33 : dkp cX8_lengthen [(37, .iconst 1, 1), (38, .ireturn, 1)] := dkf (by decide +kernel)
theorem dX8_lengthen_37 : decode cX8_lengthen 37 = .ok (.iconst 1, 1) := dkg_X8_33.1
theorem dX8_lengthen_38 : decode cX8_lengthen 38 = .ok (.ireturn, 1) := dkg_X8_33.2.1
theorem dkg_X8_34 : dkp cX8_spell [(0, .aload_n 1, 1), (1, .invokevirtual 43, 3), (4, .iconst 0, 1), (5, .istore_n 2, 1), (6, .iload_n 2, 1), (7, .aload_n 0, 1), (8, .getfield 36, 3), (11, .if_icmp .ge 25, 3), (14, .aload_n 1, 1), (15, .aload_n 0, 1)] := dkf (by decide +kernel)
theorem dX8_spell_0 : decode cX8_spell 0 = .ok (.aload_n 1, 1) := dkg_X8_34.1
theorem dX8_spell_1 : decode cX8_spell 1 = .ok (.invokevirtual 43, 3) := dkg_X8_34.2.1
theorem dX8_spell_4 : decode cX8_spell 4 = .ok (.iconst 0, 1) := dkg_X8_34.2.2.1
theorem dX8_spell_5 : decode cX8_spell 5 = .ok (.istore_n 2, 1) := dkg_X8_34.2.2.2.1
theorem dX8_spell_6 : decode cX8_spell 6 = .ok (.iload_n 2, 1) := dkg_X8_34.2.2.2.2.1
theorem dX8_spell_7 : decode cX8_spell 7 = .ok (.aload_n 0, 1) := dkg_X8_34.2.2.2.2.2.1
theorem dX8_spell_8 : decode cX8_spell 8 = .ok (.getfield 36, 3) := dkg_X8_34.2.2.2.2.2.2.1
theorem dX8_spell_11 : decode cX8_spell 11 = .ok (.if_icmp .ge 25, 3) := dkg_X8_34.2.2.2.2.2.2.2.1
theorem dX8_spell_14 : decode cX8_spell 14 = .ok (.aload_n 1, 1) := dkg_X8_34.2.2.2.2.2.2.2.2.1
theorem dX8_spell_15 : decode cX8_spell 15 = .ok (.aload_n 0, 1) := dkg_X8_34.2.2.2.2.2.2.2.2.2.1
theorem dkg_X8_35 : dkp cX8_spell [(16, .getfield 26, 3), (19, .aload_n 0, 1), (20, .getfield 33, 3), (23, .iload_n 2, 1), (24, .iaload, 1), (25, .iaload, 1), (26, .iload_n 2, 1), (27, .invokevirtual 60, 3), (30, .iinc 2 1, 3), (33, .goto (-27), 3)] := dkf (by decide +kernel)
theorem dX8_spell_16 : decode cX8_spell 16 = .ok (.getfield 26, 3) := dkg_X8_35.1
theorem dX8_spell_19 : decode cX8_spell 19 = .ok (.aload_n 0, 1) := dkg_X8_35.2.1
theorem dX8_spell_20 : decode cX8_spell 20 = .ok (.getfield 33, 3) := dkg_X8_35.2.2.1
theorem dX8_spell_23 : decode cX8_spell 23 = .ok (.iload_n 2, 1) := dkg_X8_35.2.2.2.1
theorem dX8_spell_24 : decode cX8_spell 24 = .ok (.iaload, 1) := dkg_X8_35.2.2.2.2.1
theorem dX8_spell_25 : decode cX8_spell 25 = .ok (.iaload, 1) := dkg_X8_35.2.2.2.2.2.1
theorem dX8_spell_26 : decode cX8_spell 26 = .ok (.iload_n 2, 1) := dkg_X8_35.2.2.2.2.2.2.1
theorem dX8_spell_27 : decode cX8_spell 27 = .ok (.invokevirtual 60, 3) := dkg_X8_35.2.2.2.2.2.2.2.1
theorem dX8_spell_30 : decode cX8_spell 30 = .ok (.iinc 2 1, 3) := dkg_X8_35.2.2.2.2.2.2.2.2.1
theorem dX8_spell_33 : decode cX8_spell 33 = .ok (.goto (-27), 3) := dkg_X8_35.2.2.2.2.2.2.2.2.2.1
theorem dkg_X8_36 : dkp cX8_spell [(36, .return_, 1)] := dkf (by decide +kernel)
theorem dX8_spell_36 : decode cX8_spell 36 = .ok (.return_, 1) := dkg_X8_36.1
theorem dkg_X8_37 : dkp cX8_spellNext [(0, .aload_n 0, 1), (1, .getfield 36, 3), (4, .iconst 1, 1), (5, .isub, 1), (6, .istore_n 2, 1), (7, .iload_n 2, 1), (8, .ifCond .lt 41, 3), (11, .aload_n 0, 1), (12, .getfield 33, 3), (15, .iload_n 2, 1)] := dkf (by decide +kernel)
theorem dX8_spellNext_0 : decode cX8_spellNext 0 = .ok (.aload_n 0, 1) := dkg_X8_37.1
theorem dX8_spellNext_1 : decode cX8_spellNext 1 = .ok (.getfield 36, 3) := dkg_X8_37.2.1
theorem dX8_spellNext_4 : decode cX8_spellNext 4 = .ok (.iconst 1, 1) := dkg_X8_37.2.2.1
theorem dX8_spellNext_5 : decode cX8_spellNext 5 = .ok (.isub, 1) := dkg_X8_37.2.2.2.1
theorem dX8_spellNext_6 : decode cX8_spellNext 6 = .ok (.istore_n 2, 1) := dkg_X8_37.2.2.2.2.1
theorem dX8_spellNext_7 : decode cX8_spellNext 7 = .ok (.iload_n 2, 1) := dkg_X8_37.2.2.2.2.2.1
theorem dX8_spellNext_8 : decode cX8_spellNext 8 = .ok (.ifCond .lt 41, 3) := dkg_X8_37.2.2.2.2.2.2.1
theorem dX8_spellNext_11 : decode cX8_spellNext 11 = .ok (.aload_n 0, 1) := dkg_X8_37.2.2.2.2.2.2.2.1
theorem dX8_spellNext_12 : decode cX8_spellNext 12 = .ok (.getfield 33, 3) := dkg_X8_37.2.2.2.2.2.2.2.2.1
theorem dX8_spellNext_15 : decode cX8_spellNext 15 = .ok (.iload_n 2, 1) := dkg_X8_37.2.2.2.2.2.2.2.2.2.1
theorem dkg_X8_38 : dkp cX8_spellNext [(16, .dup2, 1), (17, .iaload, 1), (18, .iconst 1, 1), (19, .iadd, 1), (20, .iastore, 1), (21, .aload_n 0, 1), (22, .getfield 33, 3), (25, .iload_n 2, 1), (26, .iaload, 1), (27, .aload_n 0, 1)] := dkf (by decide +kernel)
theorem dX8_spellNext_16 : decode cX8_spellNext 16 = .ok (.dup2, 1) := dkg_X8_38.1
theorem dX8_spellNext_17 : decode cX8_spellNext 17 = .ok (.iaload, 1) := dkg_X8_38.2.1
theorem dX8_spellNext_18 : decode cX8_spellNext 18 = .ok (.iconst 1, 1) := dkg_X8_38.2.2.1
theorem dX8_spellNext_19 : decode cX8_spellNext 19 = .ok (.iadd, 1) := dkg_X8_38.2.2.2.1
theorem dX8_spellNext_20 : decode cX8_spellNext 20 = .ok (.iastore, 1) := dkg_X8_38.2.2.2.2.1
theorem dX8_spellNext_21 : decode cX8_spellNext 21 = .ok (.aload_n 0, 1) := dkg_X8_38.2.2.2.2.2.1
theorem dX8_spellNext_22 : decode cX8_spellNext 22 = .ok (.getfield 33, 3) := dkg_X8_38.2.2.2.2.2.2.1
theorem dX8_spellNext_25 : decode cX8_spellNext 25 = .ok (.iload_n 2, 1) := dkg_X8_38.2.2.2.2.2.2.2.1
theorem dX8_spellNext_26 : decode cX8_spellNext 26 = .ok (.iaload, 1) := dkg_X8_38.2.2.2.2.2.2.2.2.1
theorem dX8_spellNext_27 : decode cX8_spellNext 27 = .ok (.aload_n 0, 1) := dkg_X8_38.2.2.2.2.2.2.2.2.2.1
theorem dkg_X8_39 : dkp cX8_spellNext [(28, .getfield 30, 3), (31, .if_icmp .ge 5, 3), (34, .iconst 1, 1), (35, .ireturn, 1), (36, .aload_n 0, 1), (37, .getfield 33, 3), (40, .iload_n 2, 1), (41, .iconst 0, 1), (42, .iastore, 1), (43, .iinc 2 (-1), 3)] := dkf (by decide +kernel)
theorem dX8_spellNext_28 : decode cX8_spellNext 28 = .ok (.getfield 30, 3) := dkg_X8_39.1
theorem dX8_spellNext_31 : decode cX8_spellNext 31 = .ok (.if_icmp .ge 5, 3) := dkg_X8_39.2.1
theorem dX8_spellNext_34 : decode cX8_spellNext 34 = .ok (.iconst 1, 1) := dkg_X8_39.2.2.1
theorem dX8_spellNext_35 : decode cX8_spellNext 35 = .ok (.ireturn, 1) := dkg_X8_39.2.2.2.1
theorem dX8_spellNext_36 : decode cX8_spellNext 36 = .ok (.aload_n 0, 1) := dkg_X8_39.2.2.2.2.1
theorem dX8_spellNext_37 : decode cX8_spellNext 37 = .ok (.getfield 33, 3) := dkg_X8_39.2.2.2.2.2.1
theorem dX8_spellNext_40 : decode cX8_spellNext 40 = .ok (.iload_n 2, 1) := dkg_X8_39.2.2.2.2.2.2.1
theorem dX8_spellNext_41 : decode cX8_spellNext 41 = .ok (.iconst 0, 1) := dkg_X8_39.2.2.2.2.2.2.2.1
theorem dX8_spellNext_42 : decode cX8_spellNext 42 = .ok (.iastore, 1) := dkg_X8_39.2.2.2.2.2.2.2.2.1
theorem dX8_spellNext_43 : decode cX8_spellNext 43 = .ok (.iinc 2 (-1), 3) := dkg_X8_39.2.2.2.2.2.2.2.2.2.1
theorem dkg_X8_40 : dkp cX8_spellNext [(46, .goto (-39), 3), (49, .aload_n 0, 1), (50, .iload_n 1, 1), (51, .invokevirtual 91, 3), (54, .ireturn, 1)] := dkf (by decide +kernel)
theorem dX8_spellNext_46 : decode cX8_spellNext 46 = .ok (.goto (-39), 3) := dkg_X8_40.1
theorem dX8_spellNext_49 : decode cX8_spellNext 49 = .ok (.aload_n 0, 1) := dkg_X8_40.2.1
theorem dX8_spellNext_50 : decode cX8_spellNext 50 = .ok (.iload_n 1, 1) := dkg_X8_40.2.2.1
theorem dX8_spellNext_51 : decode cX8_spellNext 51 = .ok (.invokevirtual 91, 3) := dkg_X8_40.2.2.2.1
theorem dX8_spellNext_54 : decode cX8_spellNext 54 = .ok (.ireturn, 1) := dkg_X8_40.2.2.2.2.1
