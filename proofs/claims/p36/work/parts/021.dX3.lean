theorem dX3_gather_0 : decode cX3_gather 0 = .ok (.aload_n 0, 1) := by decide +kernel
theorem dX3_gather_1 : decode cX3_gather 1 = .ok (.getfield 12, 3) := by decide +kernel
theorem dX3_gather_4 : decode cX3_gather 4 = .ok (.invokevirtual 47, 3) := by decide +kernel
theorem dX3_gather_7 : decode cX3_gather 7 = .ok (.aload_n 0, 1) := by decide +kernel
theorem dX3_gather_8 : decode cX3_gather 8 = .ok (.getfield 18, 3) := by decide +kernel
theorem dX3_gather_11 : decode cX3_gather 11 = .ok (.invokevirtual 47, 3) := by decide +kernel
theorem dX3_gather_14 : decode cX3_gather 14 = .ok (.aload_n 1, 1) := by decide +kernel
theorem dX3_gather_15 : decode cX3_gather 15 = .ok (.getfield 50, 3) := by decide +kernel
theorem dX3_gather_18 : decode cX3_gather 18 = .ok (.iconst 5, 1) := by decide +kernel
theorem dX3_gather_19 : decode cX3_gather 19 = .ok (.if_icmp .ne 54, 3) := by decide +kernel
theorem dX3_gather_22 : decode cX3_gather 22 = .ok (.aload_n 0, 1) := by decide +kernel
theorem dX3_gather_23 : decode cX3_gather 23 = .ok (.getfield 12, 3) := by decide +kernel
theorem dX3_gather_26 : decode cX3_gather 26 = .ok (.aload_n 1, 1) := by decide +kernel
theorem dX3_gather_27 : decode cX3_gather 27 = .ok (.getfield 55, 3) := by decide +kernel
theorem dX3_gather_30 : decode cX3_gather 30 = .ok (.invokestatic 59, 3) := by decide +kernel
theorem dX3_gather_33 : decode cX3_gather 33 = .ok (.aload_n 0, 1) := by decide +kernel
theorem dX3_gather_34 : decode cX3_gather 34 = .ok (.getfield 12, 3) := by decide +kernel
theorem dX3_gather_37 : decode cX3_gather 37 = .ok (.aload_n 1, 1) := by decide +kernel
theorem dX3_gather_38 : decode cX3_gather 38 = .ok (.getfield 63, 3) := by decide +kernel
theorem dX3_gather_41 : decode cX3_gather 41 = .ok (.iconst 2, 1) := by decide +kernel
theorem dX3_gather_42 : decode cX3_gather 42 = .ok (.aaload, 1) := by decide +kernel
theorem dX3_gather_43 : decode cX3_gather 43 = .ok (.invokestatic 67, 3) := by decide +kernel
theorem dX3_gather_46 : decode cX3_gather 46 = .ok (.aload_n 0, 1) := by decide +kernel
theorem dX3_gather_47 : decode cX3_gather 47 = .ok (.getfield 18, 3) := by decide +kernel
theorem dX3_gather_50 : decode cX3_gather 50 = .ok (.aload_n 1, 1) := by decide +kernel
theorem dX3_gather_51 : decode cX3_gather 51 = .ok (.getfield 71, 3) := by decide +kernel
theorem dX3_gather_54 : decode cX3_gather 54 = .ok (.invokestatic 59, 3) := by decide +kernel
theorem dX3_gather_57 : decode cX3_gather 57 = .ok (.aload_n 0, 1) := by decide +kernel
theorem dX3_gather_58 : decode cX3_gather 58 = .ok (.getfield 18, 3) := by decide +kernel
theorem dX3_gather_61 : decode cX3_gather 61 = .ok (.aload_n 1, 1) := by decide +kernel
theorem dX3_gather_62 : decode cX3_gather 62 = .ok (.getfield 63, 3) := by decide +kernel
theorem dX3_gather_65 : decode cX3_gather 65 = .ok (.iconst 3, 1) := by decide +kernel
theorem dX3_gather_66 : decode cX3_gather 66 = .ok (.aaload, 1) := by decide +kernel
theorem dX3_gather_67 : decode cX3_gather 67 = .ok (.invokestatic 67, 3) := by decide +kernel
theorem dX3_gather_70 : decode cX3_gather 70 = .ok (.goto 11, 3) := by decide +kernel
theorem dX3_gather_73 : decode cX3_gather 73 = .ok (.aload_n 0, 1) := by decide +kernel
theorem dX3_gather_74 : decode cX3_gather 74 = .ok (.getfield 12, 3) := by decide +kernel
theorem dX3_gather_77 : decode cX3_gather 77 = .ok (.aload_n 1, 1) := by decide +kernel
theorem dX3_gather_78 : decode cX3_gather 78 = .ok (.invokestatic 59, 3) := by decide +kernel
theorem dX3_gather_81 : decode cX3_gather 81 = .ok (.aload_n 0, 1) := by decide +kernel
theorem dX3_gather_82 : decode cX3_gather 82 = .ok (.getfield 12, 3) := by decide +kernel
theorem dX3_gather_85 : decode cX3_gather 85 = .ok (.aload_n 0, 1) := by decide +kernel
theorem dX3_gather_86 : decode cX3_gather 86 = .ok (.getfield 26, 3) := by decide +kernel
theorem dX3_gather_89 : decode cX3_gather 89 = .ok (.invokestatic 73, 3) := by decide +kernel
theorem dX3_gather_92 : decode cX3_gather 92 = .ok (.aload_n 0, 1) := by decide +kernel
theorem dX3_gather_93 : decode cX3_gather 93 = .ok (.getfield 18, 3) := by decide +kernel
theorem dX3_gather_96 : decode cX3_gather 96 = .ok (.aload_n 0, 1) := by decide +kernel
theorem dX3_gather_97 : decode cX3_gather 97 = .ok (.getfield 30, 3) := by decide +kernel
theorem dX3_gather_100 : decode cX3_gather 100 = .ok (.invokestatic 73, 3) := by decide +kernel
theorem dX3_gather_103 : decode cX3_gather 103 = .ok (.return_, 1) := by decide +kernel
theorem dX3_markBegins_0 : decode cX3_markBegins 0 = .ok (.aload_n 1, 1) := by decide +kernel
theorem dX3_markBegins_1 : decode cX3_markBegins 1 = .ok (.invokevirtual 77, 3) := by decide +kernel
theorem dX3_markBegins_4 : decode cX3_markBegins 4 = .ok (.aload_n 0, 1) := by decide +kernel
theorem dX3_markBegins_5 : decode cX3_markBegins 5 = .ok (.invokevirtual 78, 3) := by decide +kernel
theorem dX3_markBegins_8 : decode cX3_markBegins 8 = .ok (.istore_n 2, 1) := by decide +kernel
theorem dX3_markBegins_9 : decode cX3_markBegins 9 = .ok (.iconst 0, 1) := by decide +kernel
theorem dX3_markBegins_10 : decode cX3_markBegins 10 = .ok (.istore_n 3, 1) := by decide +kernel
theorem dX3_markBegins_11 : decode cX3_markBegins 11 = .ok (.iload_n 3, 1) := by decide +kernel
theorem dX3_markBegins_12 : decode cX3_markBegins 12 = .ok (.iload_n 2, 1) := by decide +kernel
theorem dX3_markBegins_13 : decode cX3_markBegins 13 = .ok (.if_icmp .ge 43, 3) := by decide +kernel
theorem dX3_markBegins_16 : decode cX3_markBegins 16 = .ok (.aload_n 0, 1) := by decide +kernel
theorem dX3_markBegins_17 : decode cX3_markBegins 17 = .ok (.iload_n 3, 1) := by decide +kernel
theorem dX3_markBegins_18 : decode cX3_markBegins 18 = .ok (.invokevirtual 82, 3) := by decide +kernel
theorem dX3_markBegins_21 : decode cX3_markBegins 21 = .ok (.checkcast 86, 3) := by decide +kernel
theorem dX3_markBegins_24 : decode cX3_markBegins 24 = .ok (.astore 4, 2) := by decide +kernel
theorem dX3_markBegins_26 : decode cX3_markBegins 26 = .ok (.aload_n 1, 1) := by decide +kernel
theorem dX3_markBegins_27 : decode cX3_markBegins 27 = .ok (.aload 4, 2) := by decide +kernel
theorem dX3_markBegins_29 : decode cX3_markBegins 29 = .ok (.getfield 88, 3) := by decide +kernel
theorem dX3_markBegins_32 : decode cX3_markBegins 32 = .ok (.arraylength, 1) := by decide +kernel
theorem dX3_markBegins_33 : decode cX3_markBegins 33 = .ok (.ifCond .le 13, 3) := by decide +kernel
theorem dX3_markBegins_36 : decode cX3_markBegins 36 = .ok (.aload 4, 2) := by decide +kernel
theorem dX3_markBegins_38 : decode cX3_markBegins 38 = .ok (.getfield 88, 3) := by decide +kernel
theorem dX3_markBegins_41 : decode cX3_markBegins 41 = .ok (.iconst 0, 1) := by decide +kernel
theorem dX3_markBegins_42 : decode cX3_markBegins 42 = .ok (.iaload, 1) := by decide +kernel
theorem dX3_markBegins_43 : decode cX3_markBegins 43 = .ok (.goto 4, 3) := by decide +kernel
theorem dX3_markBegins_46 : decode cX3_markBegins 46 = .ok (.iconst 0, 1) := by decide +kernel
theorem dX3_markBegins_47 : decode cX3_markBegins 47 = .ok (.invokevirtual 91, 3) := by decide +kernel
theorem dX3_markBegins_50 : decode cX3_markBegins 50 = .ok (.iinc 3 1, 3) := by decide +kernel
theorem dX3_markBegins_53 : decode cX3_markBegins 53 = .ok (.goto (-42), 3) := by decide +kernel
theorem dX3_markBegins_56 : decode cX3_markBegins 56 = .ok (.return_, 1) := by decide +kernel
theorem dX3_gatherPart_0 : decode cX3_gatherPart 0 = .ok (.aload_n 1, 1) := by decide +kernel
theorem dX3_gatherPart_1 : decode cX3_gatherPart 1 = .ok (.ifnonnull 4, 3) := by decide +kernel
theorem dX3_gatherPart_4 : decode cX3_gatherPart 4 = .ok (.return_, 1) := by decide +kernel
theorem dX3_gatherPart_5 : decode cX3_gatherPart 5 = .ok (.aload_n 1, 1) := by decide +kernel
theorem dX3_gatherPart_6 : decode cX3_gatherPart 6 = .ok (.astore_n 2, 1) := by decide +kernel
theorem dX3_gatherPart_7 : decode cX3_gatherPart 7 = .ok (.aload_n 2, 1) := by decide +kernel
theorem dX3_gatherPart_8 : decode cX3_gatherPart 8 = .ok (.ifnull 46, 3) := by decide +kernel
theorem dX3_gatherPart_11 : decode cX3_gatherPart 11 = .ok (.iconst 0, 1) := by decide +kernel
theorem dX3_gatherPart_12 : decode cX3_gatherPart 12 = .ok (.istore_n 3, 1) := by decide +kernel
theorem dX3_gatherPart_13 : decode cX3_gatherPart 13 = .ok (.iload_n 3, 1) := by decide +kernel
theorem dX3_gatherPart_14 : decode cX3_gatherPart 14 = .ok (.aload_n 2, 1) := by decide +kernel
theorem dX3_gatherPart_15 : decode cX3_gatherPart 15 = .ok (.getfield 94, 3) := by decide +kernel
theorem dX3_gatherPart_18 : decode cX3_gatherPart 18 = .ok (.invokevirtual 78, 3) := by decide +kernel
theorem dX3_gatherPart_21 : decode cX3_gatherPart 21 = .ok (.if_icmp .ge 25, 3) := by decide +kernel
theorem dX3_gatherPart_24 : decode cX3_gatherPart 24 = .ok (.aload_n 0, 1) := by decide +kernel
theorem dX3_gatherPart_25 : decode cX3_gatherPart 25 = .ok (.aload_n 2, 1) := by decide +kernel
theorem dX3_gatherPart_26 : decode cX3_gatherPart 26 = .ok (.getfield 94, 3) := by decide +kernel
theorem dX3_gatherPart_29 : decode cX3_gatherPart 29 = .ok (.iload_n 3, 1) := by decide +kernel
theorem dX3_gatherPart_30 : decode cX3_gatherPart 30 = .ok (.invokevirtual 82, 3) := by decide +kernel
theorem dX3_gatherPart_33 : decode cX3_gatherPart 33 = .ok (.checkcast 86, 3) := by decide +kernel
theorem dX3_gatherPart_36 : decode cX3_gatherPart 36 = .ok (.invokevirtual 97, 3) := by decide +kernel
theorem dX3_gatherPart_39 : decode cX3_gatherPart 39 = .ok (.pop, 1) := by decide +kernel
theorem dX3_gatherPart_40 : decode cX3_gatherPart 40 = .ok (.iinc 3 1, 3) := by decide +kernel
theorem dX3_gatherPart_43 : decode cX3_gatherPart 43 = .ok (.goto (-30), 3) := by decide +kernel
theorem dX3_gatherPart_46 : decode cX3_gatherPart 46 = .ok (.aload_n 2, 1) := by decide +kernel
theorem dX3_gatherPart_47 : decode cX3_gatherPart 47 = .ok (.getfield 55, 3) := by decide +kernel
theorem dX3_gatherPart_50 : decode cX3_gatherPart 50 = .ok (.astore_n 2, 1) := by decide +kernel
theorem dX3_gatherPart_51 : decode cX3_gatherPart 51 = .ok (.goto (-44), 3) := by decide +kernel
theorem dX3_gatherPart_54 : decode cX3_gatherPart 54 = .ok (.aload_n 0, 1) := by decide +kernel
theorem dX3_gatherPart_55 : decode cX3_gatherPart 55 = .ok (.aload_n 1, 1) := by decide +kernel
theorem dX3_gatherPart_56 : decode cX3_gatherPart 56 = .ok (.getfield 63, 3) := by decide +kernel
theorem dX3_gatherPart_59 : decode cX3_gatherPart 59 = .ok (.iconst 0, 1) := by decide +kernel
theorem dX3_gatherPart_60 : decode cX3_gatherPart 60 = .ok (.aaload, 1) := by decide +kernel
theorem dX3_gatherPart_61 : decode cX3_gatherPart 61 = .ok (.invokestatic 67, 3) := by decide +kernel
theorem dX3_gatherPart_64 : decode cX3_gatherPart 64 = .ok (.aload_n 0, 1) := by decide +kernel
theorem dX3_gatherPart_65 : decode cX3_gatherPart 65 = .ok (.aload_n 1, 1) := by decide +kernel
theorem dX3_gatherPart_66 : decode cX3_gatherPart 66 = .ok (.getfield 63, 3) := by decide +kernel
theorem dX3_gatherPart_69 : decode cX3_gatherPart 69 = .ok (.iconst 1, 1) := by decide +kernel
theorem dX3_gatherPart_70 : decode cX3_gatherPart 70 = .ok (.aaload, 1) := by decide +kernel
theorem dX3_gatherPart_71 : decode cX3_gatherPart 71 = .ok (.invokestatic 67, 3) := by decide +kernel
theorem dX3_gatherPart_74 : decode cX3_gatherPart 74 = .ok (.return_, 1) := by decide +kernel
theorem dX3_addIndicator_0 : decode cX3_addIndicator 0 = .ok (.aload_n 1, 1) := by decide +kernel
theorem dX3_addIndicator_1 : decode cX3_addIndicator 1 = .ok (.ifnull 9, 3) := by decide +kernel
theorem dX3_addIndicator_4 : decode cX3_addIndicator 4 = .ok (.aload_n 0, 1) := by decide +kernel
theorem dX3_addIndicator_5 : decode cX3_addIndicator 5 = .ok (.aload_n 1, 1) := by decide +kernel
theorem dX3_addIndicator_6 : decode cX3_addIndicator 6 = .ok (.invokevirtual 97, 3) := by decide +kernel
theorem dX3_addIndicator_9 : decode cX3_addIndicator 9 = .ok (.pop, 1) := by decide +kernel
theorem dX3_addIndicator_10 : decode cX3_addIndicator 10 = .ok (.return_, 1) := by decide +kernel
theorem dX3_isReadable_0 : decode cX3_isReadable 0 = .ok (.aload_n 0, 1) := by decide +kernel
theorem dX3_isReadable_1 : decode cX3_isReadable 1 = .ok (.invokevirtual 78, 3) := by decide +kernel
theorem dX3_isReadable_4 : decode cX3_isReadable 4 = .ok (.istore_n 2, 1) := by decide +kernel
theorem dX3_isReadable_5 : decode cX3_isReadable 5 = .ok (.iconst 0, 1) := by decide +kernel
theorem dX3_isReadable_6 : decode cX3_isReadable 6 = .ok (.istore_n 3, 1) := by decide +kernel
theorem dX3_isReadable_7 : decode cX3_isReadable 7 = .ok (.iload_n 3, 1) := by decide +kernel
theorem dX3_isReadable_8 : decode cX3_isReadable 8 = .ok (.iload_n 2, 1) := by decide +kernel
theorem dX3_isReadable_9 : decode cX3_isReadable 9 = .ok (.if_icmp .ge 70, 3) := by decide +kernel
theorem dX3_isReadable_12 : decode cX3_isReadable 12 = .ok (.aload_n 0, 1) := by decide +kernel
theorem dX3_isReadable_13 : decode cX3_isReadable 13 = .ok (.iload_n 3, 1) := by decide +kernel
theorem dX3_isReadable_14 : decode cX3_isReadable 14 = .ok (.invokevirtual 82, 3) := by decide +kernel
theorem dX3_isReadable_17 : decode cX3_isReadable 17 = .ok (.checkcast 86, 3) := by decide +kernel
theorem dX3_isReadable_20 : decode cX3_isReadable 20 = .ok (.astore 4, 2) := by decide +kernel
theorem dX3_isReadable_22 : decode cX3_isReadable 22 = .ok (.aload 4, 2) := by decide +kernel
theorem dX3_isReadable_24 : decode cX3_isReadable 24 = .ok (.iload_n 1, 1) := by decide +kernel
theorem dX3_isReadable_25 : decode cX3_isReadable 25 = .ok (.invokevirtual 100, 3) := by decide +kernel
theorem dX3_isReadable_28 : decode cX3_isReadable 28 = .ok (.ifCond .eq 5, 3) := by decide +kernel
theorem dX3_isReadable_31 : decode cX3_isReadable 31 = .ok (.iconst 0, 1) := by decide +kernel
theorem dX3_isReadable_32 : decode cX3_isReadable 32 = .ok (.ireturn, 1) := by decide +kernel
theorem dX3_isReadable_33 : decode cX3_isReadable 33 = .ok (.iconst 0, 1) := by decide +kernel
theorem dX3_isReadable_34 : decode cX3_isReadable 34 = .ok (.istore 5, 2) := by decide +kernel
theorem dX3_isReadable_36 : decode cX3_isReadable 36 = .ok (.iload 5, 2) := by decide +kernel
theorem dX3_isReadable_38 : decode cX3_isReadable 38 = .ok (.iload_n 2, 1) := by decide +kernel
theorem dX3_isReadable_39 : decode cX3_isReadable 39 = .ok (.if_icmp .ge 34, 3) := by decide +kernel
theorem dX3_isReadable_42 : decode cX3_isReadable 42 = .ok (.iload 5, 2) := by decide +kernel
theorem dX3_isReadable_44 : decode cX3_isReadable 44 = .ok (.iload_n 3, 1) := by decide +kernel
theorem dX3_isReadable_45 : decode cX3_isReadable 45 = .ok (.if_icmp .eq 22, 3) := by decide +kernel
theorem dX3_isReadable_48 : decode cX3_isReadable 48 = .ok (.aload 4, 2) := by decide +kernel
theorem dX3_isReadable_50 : decode cX3_isReadable 50 = .ok (.aload_n 0, 1) := by decide +kernel
theorem dX3_isReadable_51 : decode cX3_isReadable 51 = .ok (.iload 5, 2) := by decide +kernel
theorem dX3_isReadable_53 : decode cX3_isReadable 53 = .ok (.invokevirtual 82, 3) := by decide +kernel
theorem dX3_isReadable_56 : decode cX3_isReadable 56 = .ok (.checkcast 86, 3) := by decide +kernel
theorem dX3_isReadable_59 : decode cX3_isReadable 59 = .ok (.invokevirtual 104, 3) := by decide +kernel
theorem dX3_isReadable_62 : decode cX3_isReadable 62 = .ok (.ifCond .eq 5, 3) := by decide +kernel
theorem dX3_isReadable_65 : decode cX3_isReadable 65 = .ok (.iconst 0, 1) := by decide +kernel
theorem dX3_isReadable_66 : decode cX3_isReadable 66 = .ok (.ireturn, 1) := by decide +kernel
theorem dX3_isReadable_67 : decode cX3_isReadable 67 = .ok (.iinc 5 1, 3) := by decide +kernel
theorem dX3_isReadable_70 : decode cX3_isReadable 70 = .ok (.goto (-34), 3) := by decide +kernel
theorem dX3_isReadable_73 : decode cX3_isReadable 73 = .ok (.iinc 3 1, 3) := by decide +kernel
theorem dX3_isReadable_76 : decode cX3_isReadable 76 = .ok (.goto (-69), 3) := by decide +kernel
theorem dX3_isReadable_79 : decode cX3_isReadable 79 = .ok (.iconst 1, 1) := by decide +kernel
theorem dX3_isReadable_80 : decode cX3_isReadable 80 = .ok (.ireturn, 1) := by decide +kernel
