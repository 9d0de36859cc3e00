theorem dkg_X0_0 : dkp cX0_init [(0, .aload_n 0, 1), (1, .invokespecial 1, 3), (4, .aload_n 0, 1), (5, .iload_n 1, 1), (6, .putfield 7, 3), (9, .aload_n 0, 1), (10, .aload_n 2, 1), (11, .putfield 13, 3), (14, .aload_n 0, 1), (15, .aload_n 3, 1)] := dkf (by decide +kernel)
theorem dX0_init_0 : decode cX0_init 0 = .ok (.aload_n 0, 1) := dkg_X0_0.1
theorem dX0_init_1 : decode cX0_init 1 = .ok (.invokespecial 1, 3) := dkg_X0_0.2.1
theorem dX0_init_4 : decode cX0_init 4 = .ok (.aload_n 0, 1) := dkg_X0_0.2.2.1
theorem dX0_init_5 : decode cX0_init 5 = .ok (.iload_n 1, 1) := dkg_X0_0.2.2.2.1
theorem dX0_init_6 : decode cX0_init 6 = .ok (.putfield 7, 3) := dkg_X0_0.2.2.2.2.1
theorem dX0_init_9 : decode cX0_init 9 = .ok (.aload_n 0, 1) := dkg_X0_0.2.2.2.2.2.1
theorem dX0_init_10 : decode cX0_init 10 = .ok (.aload_n 2, 1) := dkg_X0_0.2.2.2.2.2.2.1
theorem dX0_init_11 : decode cX0_init 11 = .ok (.putfield 13, 3) := dkg_X0_0.2.2.2.2.2.2.2.1
theorem dX0_init_14 : decode cX0_init 14 = .ok (.aload_n 0, 1) := dkg_X0_0.2.2.2.2.2.2.2.2.1
theorem dX0_init_15 : decode cX0_init 15 = .ok (.aload_n 3, 1) := dkg_X0_0.2.2.2.2.2.2.2.2.2.1
theorem dkg_X0_1 : dkp cX0_init [(16, .putfield 17, 3), (19, .aload_n 0, 1), (20, .iload 4, 2), (22, .putfield 21, 3), (25, .return_, 1)] := dkf (by decide +kernel)
theorem dX0_init_16 : decode cX0_init 16 = .ok (.putfield 17, 3) := dkg_X0_1.1
theorem dX0_init_19 : decode cX0_init 19 = .ok (.aload_n 0, 1) := dkg_X0_1.2.1
theorem dX0_init_20 : decode cX0_init 20 = .ok (.iload 4, 2) := dkg_X0_1.2.2.1
theorem dX0_init_22 : decode cX0_init 22 = .ok (.putfield 21, 3) := dkg_X0_1.2.2.2.1
theorem dX0_init_25 : decode cX0_init 25 = .ok (.return_, 1) := dkg_X0_1.2.2.2.2.1
