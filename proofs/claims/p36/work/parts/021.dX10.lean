theorem dX10_alive_0 : decode cX10_alive 0 = .ok (.iload_n 1, 1) := by decide +kernel
theorem dX10_alive_1 : decode cX10_alive 1 = .ok (.ifCond .lt 14, 3) := by decide +kernel
theorem dX10_alive_4 : decode cX10_alive 4 = .ok (.iload_n 1, 1) := by decide +kernel
theorem dX10_alive_5 : decode cX10_alive 5 = .ok (.aload_n 0, 1) := by decide +kernel
theorem dX10_alive_6 : decode cX10_alive 6 = .ok (.getfield 12, 3) := by decide +kernel
theorem dX10_alive_9 : decode cX10_alive 9 = .ok (.invokevirtual 21, 3) := by decide +kernel
theorem dX10_alive_12 : decode cX10_alive 12 = .ok (.if_icmp .lt 5, 3) := by decide +kernel
theorem dX10_alive_15 : decode cX10_alive 15 = .ok (.aconst_null, 1) := by decide +kernel
theorem dX10_alive_16 : decode cX10_alive 16 = .ok (.areturn, 1) := by decide +kernel
theorem dX10_alive_17 : decode cX10_alive 17 = .ok (.aload_n 0, 1) := by decide +kernel
theorem dX10_alive_18 : decode cX10_alive 18 = .ok (.getfield 12, 3) := by decide +kernel
theorem dX10_alive_21 : decode cX10_alive 21 = .ok (.iload_n 1, 1) := by decide +kernel
theorem dX10_alive_22 : decode cX10_alive 22 = .ok (.invokevirtual 25, 3) := by decide +kernel
theorem dX10_alive_25 : decode cX10_alive 25 = .ok (.checkcast 29, 3) := by decide +kernel
theorem dX10_alive_28 : decode cX10_alive 28 = .ok (.astore_n 2, 1) := by decide +kernel
theorem dX10_alive_29 : decode cX10_alive 29 = .ok (.aload_n 2, 1) := by decide +kernel
theorem dX10_alive_30 : decode cX10_alive 30 = .ok (.getfield 31, 3) := by decide +kernel
theorem dX10_alive_33 : decode cX10_alive 33 = .ok (.ifCond .eq 7, 3) := by decide +kernel
theorem dX10_alive_36 : decode cX10_alive 36 = .ok (.aconst_null, 1) := by decide +kernel
theorem dX10_alive_37 : decode cX10_alive 37 = .ok (.goto 4, 3) := by decide +kernel
theorem dX10_alive_40 : decode cX10_alive 40 = .ok (.aload_n 2, 1) := by decide +kernel
theorem dX10_alive_41 : decode cX10_alive 41 = .ok (.areturn, 1) := by decide +kernel
theorem dX10_whole_0 : decode cX10_whole 0 = .ok (.aload_n 0, 1) := by decide +kernel
theorem dX10_whole_1 : decode cX10_whole 1 = .ok (.iload_n 1, 1) := by decide +kernel
theorem dX10_whole_2 : decode cX10_whole 2 = .ok (.invokevirtual 35, 3) := by decide +kernel
theorem dX10_whole_5 : decode cX10_whole 5 = .ok (.astore_n 2, 1) := by decide +kernel
theorem dX10_whole_6 : decode cX10_whole 6 = .ok (.aload_n 2, 1) := by decide +kernel
theorem dX10_whole_7 : decode cX10_whole 7 = .ok (.ifnull 14, 3) := by decide +kernel
theorem dX10_whole_10 : decode cX10_whole 10 = .ok (.aload_n 2, 1) := by decide +kernel
theorem dX10_whole_11 : decode cX10_whole 11 = .ok (.invokevirtual 39, 3) := by decide +kernel
theorem dX10_whole_14 : decode cX10_whole 14 = .ok (.ifCond .eq 7, 3) := by decide +kernel
theorem dX10_whole_17 : decode cX10_whole 17 = .ok (.aload_n 2, 1) := by decide +kernel
theorem dX10_whole_18 : decode cX10_whole 18 = .ok (.goto 4, 3) := by decide +kernel
theorem dX10_whole_21 : decode cX10_whole 21 = .ok (.aconst_null, 1) := by decide +kernel
theorem dX10_whole_22 : decode cX10_whole 22 = .ok (.areturn, 1) := by decide +kernel
