theorem dX1_add_0 : decode cX1_add 0 = .ok (.aload_n 0, 1) := by decide +kernel
theorem dX1_add_1 : decode cX1_add 1 = .ok (.getfield 7, 3) := by decide +kernel
theorem dX1_add_4 : decode cX1_add 4 = .ok (.aload_n 0, 1) := by decide +kernel
theorem dX1_add_5 : decode cX1_add 5 = .ok (.getfield 13, 3) := by decide +kernel
theorem dX1_add_8 : decode cX1_add 8 = .ok (.if_icmp .lt 4, 3) := by decide +kernel
theorem dX1_add_11 : decode cX1_add 11 = .ok (.return_, 1) := by decide +kernel
theorem dX1_add_12 : decode cX1_add 12 = .ok (.aload_n 0, 1) := by decide +kernel
theorem dX1_add_13 : decode cX1_add 13 = .ok (.getfield 7, 3) := by decide +kernel
theorem dX1_add_16 : decode cX1_add 16 = .ok (.aload_n 0, 1) := by decide +kernel
theorem dX1_add_17 : decode cX1_add 17 = .ok (.getfield 16, 3) := by decide +kernel
theorem dX1_add_20 : decode cX1_add 20 = .ok (.arraylength, 1) := by decide +kernel
theorem dX1_add_21 : decode cX1_add 21 = .ok (.if_icmp .lt 21, 3) := by decide +kernel
theorem dX1_add_24 : decode cX1_add 24 = .ok (.aload_n 0, 1) := by decide +kernel
theorem dX1_add_25 : decode cX1_add 25 = .ok (.aload_n 0, 1) := by decide +kernel
theorem dX1_add_26 : decode cX1_add 26 = .ok (.getfield 16, 3) := by decide +kernel
theorem dX1_add_29 : decode cX1_add 29 = .ok (.aload_n 0, 1) := by decide +kernel
theorem dX1_add_30 : decode cX1_add 30 = .ok (.getfield 16, 3) := by decide +kernel
theorem dX1_add_33 : decode cX1_add 33 = .ok (.arraylength, 1) := by decide +kernel
theorem dX1_add_34 : decode cX1_add 34 = .ok (.iconst 2, 1) := by decide +kernel
theorem dX1_add_35 : decode cX1_add 35 = .ok (.imul, 1) := by decide +kernel
theorem dX1_add_36 : decode cX1_add 36 = .ok (.invokestatic 20, 3) := by decide +kernel
theorem dX1_add_39 : decode cX1_add 39 = .ok (.putfield 16, 3) := by decide +kernel
theorem dX1_add_42 : decode cX1_add 42 = .ok (.aload_n 0, 1) := by decide +kernel
theorem dX1_add_43 : decode cX1_add 43 = .ok (.getfield 16, 3) := by decide +kernel
theorem dX1_add_46 : decode cX1_add 46 = .ok (.aload_n 0, 1) := by decide +kernel
theorem dX1_add_47 : decode cX1_add 47 = .ok (.getfield 7, 3) := by decide +kernel
theorem dX1_add_50 : decode cX1_add 50 = .ok (.iload_n 1, 1) := by decide +kernel
theorem dX1_add_51 : decode cX1_add 51 = .ok (.iastore, 1) := by decide +kernel
theorem dX1_add_52 : decode cX1_add 52 = .ok (.aload_n 0, 1) := by decide +kernel
theorem dX1_add_53 : decode cX1_add 53 = .ok (.dup, 1) := by decide +kernel
theorem dX1_add_54 : decode cX1_add 54 = .ok (.getfield 7, 3) := by decide +kernel
theorem dX1_add_57 : decode cX1_add 57 = .ok (.iconst 1, 1) := by decide +kernel
theorem dX1_add_58 : decode cX1_add 58 = .ok (.iadd, 1) := by decide +kernel
theorem dX1_add_59 : decode cX1_add 59 = .ok (.putfield 7, 3) := by decide +kernel
theorem dX1_add_62 : decode cX1_add 62 = .ok (.return_, 1) := by decide +kernel
theorem dX1_at_0 : decode cX1_at 0 = .ok (.iload_n 1, 1) := by decide +kernel
theorem dX1_at_1 : decode cX1_at 1 = .ok (.ifCond .lt 20, 3) := by decide +kernel
theorem dX1_at_4 : decode cX1_at 4 = .ok (.iload_n 1, 1) := by decide +kernel
theorem dX1_at_5 : decode cX1_at 5 = .ok (.aload_n 0, 1) := by decide +kernel
theorem dX1_at_6 : decode cX1_at 6 = .ok (.getfield 7, 3) := by decide +kernel
theorem dX1_at_9 : decode cX1_at 9 = .ok (.if_icmp .ge 12, 3) := by decide +kernel
theorem dX1_at_12 : decode cX1_at 12 = .ok (.aload_n 0, 1) := by decide +kernel
theorem dX1_at_13 : decode cX1_at 13 = .ok (.getfield 16, 3) := by decide +kernel
theorem dX1_at_16 : decode cX1_at 16 = .ok (.iload_n 1, 1) := by decide +kernel
theorem dX1_at_17 : decode cX1_at 17 = .ok (.iaload, 1) := by decide +kernel
theorem dX1_at_18 : decode cX1_at 18 = .ok (.goto 4, 3) := by decide +kernel
theorem dX1_at_21 : decode cX1_at 21 = .ok (.iconst 0, 1) := by decide +kernel
theorem dX1_at_22 : decode cX1_at 22 = .ok (.ireturn, 1) := by decide +kernel
theorem dX1_clear_0 : decode cX1_clear 0 = .ok (.aload_n 0, 1) := by decide +kernel
theorem dX1_clear_1 : decode cX1_clear 1 = .ok (.iconst 0, 1) := by decide +kernel
theorem dX1_clear_2 : decode cX1_clear 2 = .ok (.putfield 7, 3) := by decide +kernel
theorem dX1_clear_5 : decode cX1_clear 5 = .ok (.return_, 1) := by decide +kernel
theorem dX1_isWithin_0 : decode cX1_isWithin 0 = .ok (.iload_n 1, 1) := by decide +kernel
theorem dX1_isWithin_1 : decode cX1_isWithin 1 = .ok (.istore 5, 2) := by decide +kernel
theorem dX1_isWithin_3 : decode cX1_isWithin 3 = .ok (.iload 5, 2) := by decide +kernel
theorem dX1_isWithin_5 : decode cX1_isWithin 5 = .ok (.iload_n 2, 1) := by decide +kernel
theorem dX1_isWithin_6 : decode cX1_isWithin 6 = .ok (.if_icmp .ge 32, 3) := by decide +kernel
theorem dX1_isWithin_9 : decode cX1_isWithin 9 = .ok (.aload_n 0, 1) := by decide +kernel
theorem dX1_isWithin_10 : decode cX1_isWithin 10 = .ok (.iload 5, 2) := by decide +kernel
theorem dX1_isWithin_12 : decode cX1_isWithin 12 = .ok (.invokevirtual 39, 3) := by decide +kernel
theorem dX1_isWithin_15 : decode cX1_isWithin 15 = .ok (.iload_n 3, 1) := by decide +kernel
theorem dX1_isWithin_16 : decode cX1_isWithin 16 = .ok (.if_icmp .lt 14, 3) := by decide +kernel
theorem dX1_isWithin_19 : decode cX1_isWithin 19 = .ok (.aload_n 0, 1) := by decide +kernel
theorem dX1_isWithin_20 : decode cX1_isWithin 20 = .ok (.iload 5, 2) := by decide +kernel
theorem dX1_isWithin_22 : decode cX1_isWithin 22 = .ok (.invokevirtual 39, 3) := by decide +kernel
theorem dX1_isWithin_25 : decode cX1_isWithin 25 = .ok (.iload 4, 2) := by decide +kernel
theorem dX1_isWithin_27 : decode cX1_isWithin 27 = .ok (.if_icmp .le 5, 3) := by decide +kernel
theorem dX1_isWithin_30 : decode cX1_isWithin 30 = .ok (.iconst 0, 1) := by decide +kernel
theorem dX1_isWithin_31 : decode cX1_isWithin 31 = .ok (.ireturn, 1) := by decide +kernel
theorem dX1_isWithin_32 : decode cX1_isWithin 32 = .ok (.iinc 5 1, 3) := by decide +kernel
theorem dX1_isWithin_35 : decode cX1_isWithin 35 = .ok (.goto (-32), 3) := by decide +kernel
theorem dX1_isWithin_38 : decode cX1_isWithin 38 = .ok (.iconst 1, 1) := by decide +kernel
theorem dX1_isWithin_39 : decode cX1_isWithin 39 = .ok (.ireturn, 1) := by decide +kernel
