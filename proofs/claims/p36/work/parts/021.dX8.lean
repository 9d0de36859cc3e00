theorem dX8_restart_0 : decode cX8_restart 0 = .ok (.aload_n 0, 1) := by decide +kernel
theorem dX8_restart_1 : decode cX8_restart 1 = .ok (.iconst 0, 1) := by decide +kernel
theorem dX8_restart_2 : decode cX8_restart 2 = .ok (.putfield 9, 3) := by decide +kernel
theorem dX8_restart_5 : decode cX8_restart 5 = .ok (.aload_n 0, 1) := by decide +kernel
theorem dX8_restart_6 : decode cX8_restart 6 = .ok (.iconst 0, 1) := by decide +kernel
theorem dX8_restart_7 : decode cX8_restart 7 = .ok (.putfield 15, 3) := by decide +kernel
theorem dX8_restart_10 : decode cX8_restart 10 = .ok (.return_, 1) := by decide +kernel
theorem dX8_step_0 : decode cX8_step 0 = .ok (.aload_n 0, 1) := by decide +kernel
theorem dX8_step_1 : decode cX8_step 1 = .ok (.getfield 15, 3) := by decide +kernel
theorem dX8_step_4 : decode cX8_step 4 = .ok (.ifCond .ne 9, 3) := by decide +kernel
theorem dX8_step_7 : decode cX8_step 7 = .ok (.aload_n 0, 1) := by decide +kernel
theorem dX8_step_8 : decode cX8_step 8 = .ok (.aload_n 1, 1) := by decide +kernel
theorem dX8_step_9 : decode cX8_step 9 = .ok (.invokevirtual 39, 3) := by decide +kernel
theorem dX8_step_12 : decode cX8_step 12 = .ok (.ireturn, 1) := by decide +kernel
theorem dX8_step_13 : decode cX8_step 13 = .ok (.aload_n 2, 1) := by decide +kernel
theorem dX8_step_14 : decode cX8_step 14 = .ok (.invokevirtual 43, 3) := by decide +kernel
theorem dX8_step_17 : decode cX8_step 17 = .ok (.aload_n 0, 1) := by decide +kernel
theorem dX8_step_18 : decode cX8_step 18 = .ok (.getfield 9, 3) := by decide +kernel
theorem dX8_step_21 : decode cX8_step 21 = .ok (.aload_n 1, 1) := by decide +kernel
theorem dX8_step_22 : decode cX8_step 22 = .ok (.getfield 48, 3) := by decide +kernel
theorem dX8_step_25 : decode cX8_step 25 = .ok (.if_icmp .ge 81, 3) := by decide +kernel
theorem dX8_step_28 : decode cX8_step 28 = .ok (.aload_n 1, 1) := by decide +kernel
theorem dX8_step_29 : decode cX8_step 29 = .ok (.aload_n 0, 1) := by decide +kernel
theorem dX8_step_30 : decode cX8_step 30 = .ok (.getfield 9, 3) := by decide +kernel
theorem dX8_step_33 : decode cX8_step 33 = .ok (.invokevirtual 53, 3) := by decide +kernel
theorem dX8_step_36 : decode cX8_step 36 = .ok (.bipush 10, 2) := by decide +kernel
theorem dX8_step_38 : decode cX8_step 38 = .ok (.if_icmp .eq 68, 3) := by decide +kernel
theorem dX8_step_41 : decode cX8_step 41 = .ok (.aload_n 1, 1) := by decide +kernel
theorem dX8_step_42 : decode cX8_step 42 = .ok (.aload_n 0, 1) := by decide +kernel
theorem dX8_step_43 : decode cX8_step 43 = .ok (.getfield 9, 3) := by decide +kernel
theorem dX8_step_46 : decode cX8_step 46 = .ok (.invokevirtual 53, 3) := by decide +kernel
theorem dX8_step_49 : decode cX8_step 49 = .ok (.istore_n 3, 1) := by decide +kernel
theorem dX8_step_50 : decode cX8_step 50 = .ok (.iload_n 3, 1) := by decide +kernel
theorem dX8_step_51 : decode cX8_step 51 = .ok (.bipush 32, 2) := by decide +kernel
theorem dX8_step_53 : decode cX8_step 53 = .ok (.if_icmp .ne 12, 3) := by decide +kernel
theorem dX8_step_56 : decode cX8_step 56 = .ok (.aload_n 2, 1) := by decide +kernel
theorem dX8_step_57 : decode cX8_step 57 = .ok (.getfield 56, 3) := by decide +kernel
theorem dX8_step_60 : decode cX8_step 60 = .ok (.ifCond .le 5, 3) := by decide +kernel
theorem dX8_step_63 : decode cX8_step 63 = .ok (.iconst 2, 1) := by decide +kernel
theorem dX8_step_64 : decode cX8_step 64 = .ok (.ireturn, 1) := by decide +kernel
theorem dX8_step_65 : decode cX8_step 65 = .ok (.iload_n 3, 1) := by decide +kernel
theorem dX8_step_66 : decode cX8_step 66 = .ok (.bipush 126, 2) := by decide +kernel
theorem dX8_step_68 : decode cX8_step 68 = .ok (.if_icmp .ne 10, 3) := by decide +kernel
theorem dX8_step_71 : decode cX8_step 71 = .ok (.aload_n 2, 1) := by decide +kernel
theorem dX8_step_72 : decode cX8_step 72 = .ok (.invokevirtual 57, 3) := by decide +kernel
theorem dX8_step_75 : decode cX8_step 75 = .ok (.goto 18, 3) := by decide +kernel
theorem dX8_step_78 : decode cX8_step 78 = .ok (.iload_n 3, 1) := by decide +kernel
theorem dX8_step_79 : decode cX8_step 79 = .ok (.bipush 32, 2) := by decide +kernel
theorem dX8_step_81 : decode cX8_step 81 = .ok (.if_icmp .eq 12, 3) := by decide +kernel
theorem dX8_step_84 : decode cX8_step 84 = .ok (.aload_n 2, 1) := by decide +kernel
theorem dX8_step_85 : decode cX8_step 85 = .ok (.iload_n 3, 1) := by decide +kernel
theorem dX8_step_86 : decode cX8_step 86 = .ok (.aload_n 0, 1) := by decide +kernel
theorem dX8_step_87 : decode cX8_step 87 = .ok (.getfield 9, 3) := by decide +kernel
theorem dX8_step_90 : decode cX8_step 90 = .ok (.invokevirtual 60, 3) := by decide +kernel
theorem dX8_step_93 : decode cX8_step 93 = .ok (.aload_n 0, 1) := by decide +kernel
theorem dX8_step_94 : decode cX8_step 94 = .ok (.dup, 1) := by decide +kernel
theorem dX8_step_95 : decode cX8_step 95 = .ok (.getfield 9, 3) := by decide +kernel
theorem dX8_step_98 : decode cX8_step 98 = .ok (.iconst 1, 1) := by decide +kernel
theorem dX8_step_99 : decode cX8_step 99 = .ok (.iadd, 1) := by decide +kernel
theorem dX8_step_100 : decode cX8_step 100 = .ok (.putfield 9, 3) := by decide +kernel
theorem dX8_step_103 : decode cX8_step 103 = .ok (.goto (-86), 3) := by decide +kernel
theorem dX8_step_106 : decode cX8_step 106 = .ok (.aload_n 2, 1) := by decide +kernel
theorem dX8_step_107 : decode cX8_step 107 = .ok (.getfield 56, 3) := by decide +kernel
theorem dX8_step_110 : decode cX8_step 110 = .ok (.ifCond .le 5, 3) := by decide +kernel
theorem dX8_step_113 : decode cX8_step 113 = .ok (.iconst 2, 1) := by decide +kernel
theorem dX8_step_114 : decode cX8_step 114 = .ok (.ireturn, 1) := by decide +kernel
theorem dX8_step_115 : decode cX8_step 115 = .ok (.aload_n 0, 1) := by decide +kernel
theorem dX8_step_116 : decode cX8_step 116 = .ok (.iconst 0, 1) := by decide +kernel
theorem dX8_step_117 : decode cX8_step 117 = .ok (.putfield 15, 3) := by decide +kernel
theorem dX8_step_120 : decode cX8_step 120 = .ok (.aload_n 0, 1) := by decide +kernel
theorem dX8_step_121 : decode cX8_step 121 = .ok (.dup, 1) := by decide +kernel
theorem dX8_step_122 : decode cX8_step 122 = .ok (.getfield 9, 3) := by decide +kernel
theorem dX8_step_125 : decode cX8_step 125 = .ok (.iconst 1, 1) := by decide +kernel
theorem dX8_step_126 : decode cX8_step 126 = .ok (.iadd, 1) := by decide +kernel
theorem dX8_step_127 : decode cX8_step 127 = .ok (.putfield 9, 3) := by decide +kernel
theorem dX8_step_130 : decode cX8_step 130 = .ok (.iconst 3, 1) := by decide +kernel
theorem dX8_step_131 : decode cX8_step 131 = .ok (.ireturn, 1) := by decide +kernel
theorem dX8_enterLine_0 : decode cX8_enterLine 0 = .ok (.aload_n 0, 1) := by decide +kernel
theorem dX8_enterLine_1 : decode cX8_enterLine 1 = .ok (.getfield 9, 3) := by decide +kernel
theorem dX8_enterLine_4 : decode cX8_enterLine 4 = .ok (.aload_n 1, 1) := by decide +kernel
theorem dX8_enterLine_5 : decode cX8_enterLine 5 = .ok (.getfield 48, 3) := by decide +kernel
theorem dX8_enterLine_8 : decode cX8_enterLine 8 = .ok (.if_icmp .lt 5, 3) := by decide +kernel
theorem dX8_enterLine_11 : decode cX8_enterLine 11 = .ok (.iconst 0, 1) := by decide +kernel
theorem dX8_enterLine_12 : decode cX8_enterLine 12 = .ok (.ireturn, 1) := by decide +kernel
theorem dX8_enterLine_13 : decode cX8_enterLine 13 = .ok (.aload_n 0, 1) := by decide +kernel
theorem dX8_enterLine_14 : decode cX8_enterLine 14 = .ok (.iconst 1, 1) := by decide +kernel
theorem dX8_enterLine_15 : decode cX8_enterLine 15 = .ok (.putfield 15, 3) := by decide +kernel
theorem dX8_enterLine_18 : decode cX8_enterLine 18 = .ok (.aload_n 0, 1) := by decide +kernel
theorem dX8_enterLine_19 : decode cX8_enterLine 19 = .ok (.aload_n 1, 1) := by decide +kernel
theorem dX8_enterLine_20 : decode cX8_enterLine 20 = .ok (.aload_n 0, 1) := by decide +kernel
theorem dX8_enterLine_21 : decode cX8_enterLine 21 = .ok (.getfield 9, 3) := by decide +kernel
theorem dX8_enterLine_24 : decode cX8_enterLine 24 = .ok (.invokevirtual 53, 3) := by decide +kernel
theorem dX8_enterLine_27 : decode cX8_enterLine 27 = .ok (.bipush 94, 2) := by decide +kernel
theorem dX8_enterLine_29 : decode cX8_enterLine 29 = .ok (.if_icmp .ne 7, 3) := by decide +kernel
theorem dX8_enterLine_32 : decode cX8_enterLine 32 = .ok (.iconst 1, 1) := by decide +kernel
theorem dX8_enterLine_33 : decode cX8_enterLine 33 = .ok (.goto 4, 3) := by decide +kernel
theorem dX8_enterLine_36 : decode cX8_enterLine 36 = .ok (.iconst 0, 1) := by decide +kernel
theorem dX8_enterLine_37 : decode cX8_enterLine 37 = .ok (.putfield 19, 3) := by decide +kernel
theorem dX8_enterLine_40 : decode cX8_enterLine 40 = .ok (.aload_n 0, 1) := by decide +kernel
theorem dX8_enterLine_41 : decode cX8_enterLine 41 = .ok (.dup, 1) := by decide +kernel
theorem dX8_enterLine_42 : decode cX8_enterLine 42 = .ok (.getfield 9, 3) := by decide +kernel
theorem dX8_enterLine_45 : decode cX8_enterLine 45 = .ok (.aload_n 0, 1) := by decide +kernel
theorem dX8_enterLine_46 : decode cX8_enterLine 46 = .ok (.getfield 19, 3) := by decide +kernel
theorem dX8_enterLine_49 : decode cX8_enterLine 49 = .ok (.ifCond .eq 7, 3) := by decide +kernel
theorem dX8_enterLine_52 : decode cX8_enterLine 52 = .ok (.iconst 1, 1) := by decide +kernel
theorem dX8_enterLine_53 : decode cX8_enterLine 53 = .ok (.goto 4, 3) := by decide +kernel
theorem dX8_enterLine_56 : decode cX8_enterLine 56 = .ok (.iconst 0, 1) := by decide +kernel
theorem dX8_enterLine_57 : decode cX8_enterLine 57 = .ok (.iadd, 1) := by decide +kernel
theorem dX8_enterLine_58 : decode cX8_enterLine 58 = .ok (.putfield 9, 3) := by decide +kernel
theorem dX8_enterLine_61 : decode cX8_enterLine 61 = .ok (.iconst 1, 1) := by decide +kernel
theorem dX8_enterLine_62 : decode cX8_enterLine 62 = .ok (.ireturn, 1) := by decide +kernel
