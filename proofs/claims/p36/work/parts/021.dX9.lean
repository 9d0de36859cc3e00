theorem dX9_isWhole_0 : decode cX9_isWhole 0 = .ok (.aload_n 0, 1) := by decide +kernel
theorem dX9_isWhole_1 : decode cX9_isWhole 1 = .ok (.invokestatic 76, 3) := by decide +kernel
theorem dX9_isWhole_4 : decode cX9_isWhole 4 = .ok (.ifCond .eq 17, 3) := by decide +kernel
theorem dX9_isWhole_7 : decode cX9_isWhole 7 = .ok (.aload_n 0, 1) := by decide +kernel
theorem dX9_isWhole_8 : decode cX9_isWhole 8 = .ok (.getfield 48, 3) := by decide +kernel
theorem dX9_isWhole_11 : decode cX9_isWhole 11 = .ok (.invokestatic 76, 3) := by decide +kernel
theorem dX9_isWhole_14 : decode cX9_isWhole 14 = .ok (.ifCond .eq 7, 3) := by decide +kernel
theorem dX9_isWhole_17 : decode cX9_isWhole 17 = .ok (.iconst 1, 1) := by decide +kernel
theorem dX9_isWhole_18 : decode cX9_isWhole 18 = .ok (.goto 4, 3) := by decide +kernel
theorem dX9_isWhole_21 : decode cX9_isWhole 21 = .ok (.iconst 0, 1) := by decide +kernel
theorem dX9_isWhole_22 : decode cX9_isWhole 22 = .ok (.ireturn, 1) := by decide +kernel
theorem dX9_isUpright_0 : decode cX9_isUpright 0 = .ok (.aload_n 0, 1) := by decide +kernel
theorem dX9_isUpright_1 : decode cX9_isUpright 1 = .ok (.astore_n 1, 1) := by decide +kernel
theorem dX9_isUpright_2 : decode cX9_isUpright 2 = .ok (.aload_n 1, 1) := by decide +kernel
theorem dX9_isUpright_3 : decode cX9_isUpright 3 = .ok (.ifnull 20, 3) := by decide +kernel
theorem dX9_isUpright_6 : decode cX9_isUpright 6 = .ok (.aload_n 1, 1) := by decide +kernel
theorem dX9_isUpright_7 : decode cX9_isUpright 7 = .ok (.getfield 33, 3) := by decide +kernel
theorem dX9_isUpright_10 : decode cX9_isUpright 10 = .ok (.ifCond .eq 5, 3) := by decide +kernel
theorem dX9_isUpright_13 : decode cX9_isUpright 13 = .ok (.iconst 0, 1) := by decide +kernel
theorem dX9_isUpright_14 : decode cX9_isUpright 14 = .ok (.ireturn, 1) := by decide +kernel
theorem dX9_isUpright_15 : decode cX9_isUpright 15 = .ok (.aload_n 1, 1) := by decide +kernel
theorem dX9_isUpright_16 : decode cX9_isUpright 16 = .ok (.getfield 44, 3) := by decide +kernel
theorem dX9_isUpright_19 : decode cX9_isUpright 19 = .ok (.astore_n 1, 1) := by decide +kernel
theorem dX9_isUpright_20 : decode cX9_isUpright 20 = .ok (.goto (-18), 3) := by decide +kernel
theorem dX9_isUpright_23 : decode cX9_isUpright 23 = .ok (.iconst 1, 1) := by decide +kernel
theorem dX9_isUpright_24 : decode cX9_isUpright 24 = .ok (.ireturn, 1) := by decide +kernel
theorem dX9_hasShort_0 : decode cX9_hasShort 0 = .ok (.aload_n 0, 1) := by decide +kernel
theorem dX9_hasShort_1 : decode cX9_hasShort 1 = .ok (.invokestatic 80, 3) := by decide +kernel
theorem dX9_hasShort_4 : decode cX9_hasShort 4 = .ok (.ifCond .ne 13, 3) := by decide +kernel
theorem dX9_hasShort_7 : decode cX9_hasShort 7 = .ok (.aload_n 0, 1) := by decide +kernel
theorem dX9_hasShort_8 : decode cX9_hasShort 8 = .ok (.getfield 48, 3) := by decide +kernel
theorem dX9_hasShort_11 : decode cX9_hasShort 11 = .ok (.invokestatic 80, 3) := by decide +kernel
theorem dX9_hasShort_14 : decode cX9_hasShort 14 = .ok (.ifCond .eq 7, 3) := by decide +kernel
theorem dX9_hasShort_17 : decode cX9_hasShort 17 = .ok (.iconst 1, 1) := by decide +kernel
theorem dX9_hasShort_18 : decode cX9_hasShort 18 = .ok (.goto 4, 3) := by decide +kernel
theorem dX9_hasShort_21 : decode cX9_hasShort 21 = .ok (.iconst 0, 1) := by decide +kernel
theorem dX9_hasShort_22 : decode cX9_hasShort 22 = .ok (.ireturn, 1) := by decide +kernel
theorem dX9_isOverShort_0 : decode cX9_isOverShort 0 = .ok (.aload_n 0, 1) := by decide +kernel
theorem dX9_isOverShort_1 : decode cX9_isOverShort 1 = .ok (.astore_n 1, 1) := by decide +kernel
theorem dX9_isOverShort_2 : decode cX9_isOverShort 2 = .ok (.aload_n 1, 1) := by decide +kernel
theorem dX9_isOverShort_3 : decode cX9_isOverShort 3 = .ok (.ifnull 21, 3) := by decide +kernel
theorem dX9_isOverShort_6 : decode cX9_isOverShort 6 = .ok (.aload_n 1, 1) := by decide +kernel
theorem dX9_isOverShort_7 : decode cX9_isOverShort 7 = .ok (.getfield 37, 3) := by decide +kernel
theorem dX9_isOverShort_10 : decode cX9_isOverShort 10 = .ok (.iconst 3, 1) := by decide +kernel
theorem dX9_isOverShort_11 : decode cX9_isOverShort 11 = .ok (.if_icmp .ne 5, 3) := by decide +kernel
theorem dX9_isOverShort_14 : decode cX9_isOverShort 14 = .ok (.iconst 1, 1) := by decide +kernel
theorem dX9_isOverShort_15 : decode cX9_isOverShort 15 = .ok (.ireturn, 1) := by decide +kernel
theorem dX9_isOverShort_16 : decode cX9_isOverShort 16 = .ok (.aload_n 1, 1) := by decide +kernel
theorem dX9_isOverShort_17 : decode cX9_isOverShort 17 = .ok (.getfield 44, 3) := by decide +kernel
theorem dX9_isOverShort_20 : decode cX9_isOverShort 20 = .ok (.astore_n 1, 1) := by decide +kernel
theorem dX9_isOverShort_21 : decode cX9_isOverShort 21 = .ok (.goto (-19), 3) := by decide +kernel
theorem dX9_isOverShort_24 : decode cX9_isOverShort 24 = .ok (.iconst 0, 1) := by decide +kernel
theorem dX9_isOverShort_25 : decode cX9_isOverShort 25 = .ok (.ireturn, 1) := by decide +kernel
