theorem dX5_alike_0 : decode cX5_alike 0 = .ok (.aload_n 0, 1) := by decide +kernel
theorem dX5_alike_1 : decode cX5_alike 1 = .ok (.getfield 22, 3) := by decide +kernel
theorem dX5_alike_4 : decode cX5_alike 4 = .ok (.arraylength, 1) := by decide +kernel
theorem dX5_alike_5 : decode cX5_alike 5 = .ok (.aload_n 1, 1) := by decide +kernel
theorem dX5_alike_6 : decode cX5_alike 6 = .ok (.getfield 22, 3) := by decide +kernel
theorem dX5_alike_9 : decode cX5_alike 9 = .ok (.arraylength, 1) := by decide +kernel
theorem dX5_alike_10 : decode cX5_alike 10 = .ok (.invokestatic 29, 3) := by decide +kernel
theorem dX5_alike_13 : decode cX5_alike 13 = .ok (.istore_n 2, 1) := by decide +kernel
theorem dX5_alike_14 : decode cX5_alike 14 = .ok (.iconst 0, 1) := by decide +kernel
theorem dX5_alike_15 : decode cX5_alike 15 = .ok (.istore_n 3, 1) := by decide +kernel
theorem dX5_alike_16 : decode cX5_alike 16 = .ok (.iload_n 3, 1) := by decide +kernel
theorem dX5_alike_17 : decode cX5_alike 17 = .ok (.iload_n 2, 1) := by decide +kernel
theorem dX5_alike_18 : decode cX5_alike 18 = .ok (.if_icmp .ge 26, 3) := by decide +kernel
theorem dX5_alike_21 : decode cX5_alike 21 = .ok (.aload_n 0, 1) := by decide +kernel
theorem dX5_alike_22 : decode cX5_alike 22 = .ok (.getfield 22, 3) := by decide +kernel
theorem dX5_alike_25 : decode cX5_alike 25 = .ok (.iload_n 3, 1) := by decide +kernel
theorem dX5_alike_26 : decode cX5_alike 26 = .ok (.iaload, 1) := by decide +kernel
theorem dX5_alike_27 : decode cX5_alike 27 = .ok (.aload_n 1, 1) := by decide +kernel
theorem dX5_alike_28 : decode cX5_alike 28 = .ok (.getfield 22, 3) := by decide +kernel
theorem dX5_alike_31 : decode cX5_alike 31 = .ok (.iload_n 3, 1) := by decide +kernel
theorem dX5_alike_32 : decode cX5_alike 32 = .ok (.iaload, 1) := by decide +kernel
theorem dX5_alike_33 : decode cX5_alike 33 = .ok (.if_icmp .eq 5, 3) := by decide +kernel
theorem dX5_alike_36 : decode cX5_alike 36 = .ok (.iload_n 3, 1) := by decide +kernel
theorem dX5_alike_37 : decode cX5_alike 37 = .ok (.ireturn, 1) := by decide +kernel
theorem dX5_alike_38 : decode cX5_alike 38 = .ok (.iinc 3 1, 3) := by decide +kernel
theorem dX5_alike_41 : decode cX5_alike 41 = .ok (.goto (-25), 3) := by decide +kernel
theorem dX5_alike_44 : decode cX5_alike 44 = .ok (.iload_n 2, 1) := by decide +kernel
theorem dX5_alike_45 : decode cX5_alike 45 = .ok (.ireturn, 1) := by decide +kernel
theorem dX5_isAtBeginOf_0 : decode cX5_isAtBeginOf 0 = .ok (.aload_n 0, 1) := by decide +kernel
theorem dX5_isAtBeginOf_1 : decode cX5_isAtBeginOf 1 = .ok (.aload_n 1, 1) := by decide +kernel
theorem dX5_isAtBeginOf_2 : decode cX5_isAtBeginOf 2 = .ok (.invokevirtual 35, 3) := by decide +kernel
theorem dX5_isAtBeginOf_5 : decode cX5_isAtBeginOf 5 = .ok (.aload_n 0, 1) := by decide +kernel
theorem dX5_isAtBeginOf_6 : decode cX5_isAtBeginOf 6 = .ok (.getfield 22, 3) := by decide +kernel
theorem dX5_isAtBeginOf_9 : decode cX5_isAtBeginOf 9 = .ok (.arraylength, 1) := by decide +kernel
theorem dX5_isAtBeginOf_10 : decode cX5_isAtBeginOf 10 = .ok (.if_icmp .ne 7, 3) := by decide +kernel
theorem dX5_isAtBeginOf_13 : decode cX5_isAtBeginOf 13 = .ok (.iconst 1, 1) := by decide +kernel
theorem dX5_isAtBeginOf_14 : decode cX5_isAtBeginOf 14 = .ok (.goto 4, 3) := by decide +kernel
theorem dX5_isAtBeginOf_17 : decode cX5_isAtBeginOf 17 = .ok (.iconst 0, 1) := by decide +kernel
theorem dX5_isAtBeginOf_18 : decode cX5_isAtBeginOf 18 = .ok (.ireturn, 1) := by decide +kernel
theorem dX5_endsWith_0 : decode cX5_endsWith 0 = .ok (.aload_n 0, 1) := by decide +kernel
theorem dX5_endsWith_1 : decode cX5_endsWith 1 = .ok (.getfield 22, 3) := by decide +kernel
theorem dX5_endsWith_4 : decode cX5_endsWith 4 = .ok (.arraylength, 1) := by decide +kernel
theorem dX5_endsWith_5 : decode cX5_endsWith 5 = .ok (.ifCond .le 23, 3) := by decide +kernel
theorem dX5_endsWith_8 : decode cX5_endsWith 8 = .ok (.aload_n 0, 1) := by decide +kernel
theorem dX5_endsWith_9 : decode cX5_endsWith 9 = .ok (.getfield 22, 3) := by decide +kernel
theorem dX5_endsWith_12 : decode cX5_endsWith 12 = .ok (.aload_n 0, 1) := by decide +kernel
theorem dX5_endsWith_13 : decode cX5_endsWith 13 = .ok (.getfield 22, 3) := by decide +kernel
theorem dX5_endsWith_16 : decode cX5_endsWith 16 = .ok (.arraylength, 1) := by decide +kernel
theorem dX5_endsWith_17 : decode cX5_endsWith 17 = .ok (.iconst 1, 1) := by decide +kernel
theorem dX5_endsWith_18 : decode cX5_endsWith 18 = .ok (.isub, 1) := by decide +kernel
theorem dX5_endsWith_19 : decode cX5_endsWith 19 = .ok (.iaload, 1) := by decide +kernel
theorem dX5_endsWith_20 : decode cX5_endsWith 20 = .ok (.iload_n 1, 1) := by decide +kernel
theorem dX5_endsWith_21 : decode cX5_endsWith 21 = .ok (.if_icmp .ne 7, 3) := by decide +kernel
theorem dX5_endsWith_24 : decode cX5_endsWith 24 = .ok (.iconst 1, 1) := by decide +kernel
theorem dX5_endsWith_25 : decode cX5_endsWith 25 = .ok (.goto 4, 3) := by decide +kernel
theorem dX5_endsWith_28 : decode cX5_endsWith 28 = .ok (.iconst 0, 1) := by decide +kernel
theorem dX5_endsWith_29 : decode cX5_endsWith 29 = .ok (.ireturn, 1) := by decide +kernel
