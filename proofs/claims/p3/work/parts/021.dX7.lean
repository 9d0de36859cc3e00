theorem dX7_init_0 : decode cX7_init 0 = .ok (.aload_n 0, 1) := by decide +kernel
theorem dX7_init_1 : decode cX7_init 1 = .ok (.invokespecial 3, 3) := by decide +kernel
theorem dX7_init_4 : decode cX7_init 4 = .ok (.aload_n 0, 1) := by decide +kernel
theorem dX7_init_5 : decode cX7_init 5 = .ok (.sipush 200, 3) := by decide +kernel
theorem dX7_init_8 : decode cX7_init 8 = .ok (.anewarray 9, 3) := by decide +kernel
theorem dX7_init_11 : decode cX7_init 11 = .ok (.putfield 11, 3) := by decide +kernel
theorem dX7_init_14 : decode cX7_init 14 = .ok (.aload_n 0, 1) := by decide +kernel
theorem dX7_init_15 : decode cX7_init 15 = .ok (.iconst 0, 1) := by decide +kernel
theorem dX7_init_16 : decode cX7_init 16 = .ok (.putfield 17, 3) := by decide +kernel
theorem dX7_init_19 : decode cX7_init 19 = .ok (.aload_n 0, 1) := by decide +kernel
theorem dX7_init_20 : decode cX7_init 20 = .ok (.iconst 0, 1) := by decide +kernel
theorem dX7_init_21 : decode cX7_init 21 = .ok (.putfield 21, 3) := by decide +kernel
theorem dX7_init_24 : decode cX7_init 24 = .ok (.return_, 1) := by decide +kernel
theorem dX7_clear_0 : decode cX7_clear 0 = .ok (.aload_n 0, 1) := by decide +kernel
theorem dX7_clear_1 : decode cX7_clear 1 = .ok (.iconst 0, 1) := by decide +kernel
theorem dX7_clear_2 : decode cX7_clear 2 = .ok (.putfield 17, 3) := by decide +kernel
theorem dX7_clear_5 : decode cX7_clear 5 = .ok (.return_, 1) := by decide +kernel
theorem dX7_at_0 : decode cX7_at 0 = .ok (.iload_n 1, 1) := by decide +kernel
theorem dX7_at_1 : decode cX7_at 1 = .ok (.ifCond .lt 20, 3) := by decide +kernel
theorem dX7_at_4 : decode cX7_at 4 = .ok (.iload_n 1, 1) := by decide +kernel
theorem dX7_at_5 : decode cX7_at 5 = .ok (.aload_n 0, 1) := by decide +kernel
theorem dX7_at_6 : decode cX7_at 6 = .ok (.getfield 17, 3) := by decide +kernel
theorem dX7_at_9 : decode cX7_at 9 = .ok (.if_icmp .ge 12, 3) := by decide +kernel
theorem dX7_at_12 : decode cX7_at 12 = .ok (.aload_n 0, 1) := by decide +kernel
theorem dX7_at_13 : decode cX7_at 13 = .ok (.getfield 11, 3) := by decide +kernel
theorem dX7_at_16 : decode cX7_at 16 = .ok (.iload_n 1, 1) := by decide +kernel
theorem dX7_at_17 : decode cX7_at 17 = .ok (.aaload, 1) := by decide +kernel
theorem dX7_at_18 : decode cX7_at 18 = .ok (.goto 4, 3) := by decide +kernel
theorem dX7_at_21 : decode cX7_at 21 = .ok (.aconst_null, 1) := by decide +kernel
theorem dX7_at_22 : decode cX7_at 22 = .ok (.areturn, 1) := by decide +kernel
theorem dX7_present_0 : decode cX7_present 0 = .ok (.aload_n 0, 1) := by decide +kernel
theorem dX7_present_1 : decode cX7_present 1 = .ok (.iload_n 1, 1) := by decide +kernel
theorem dX7_present_2 : decode cX7_present 2 = .ok (.invokevirtual 24, 3) := by decide +kernel
theorem dX7_present_5 : decode cX7_present 5 = .ok (.astore_n 2, 1) := by decide +kernel
theorem dX7_present_6 : decode cX7_present 6 = .ok (.aload_n 2, 1) := by decide +kernel
theorem dX7_present_7 : decode cX7_present 7 = .ok (.ifnull 10, 3) := by decide +kernel
theorem dX7_present_10 : decode cX7_present 10 = .ok (.aload_n 2, 1) := by decide +kernel
theorem dX7_present_11 : decode cX7_present 11 = .ok (.getfield 28, 3) := by decide +kernel
theorem dX7_present_14 : decode cX7_present 14 = .ok (.ifCond .eq 7, 3) := by decide +kernel
theorem dX7_present_17 : decode cX7_present 17 = .ok (.aconst_null, 1) := by decide +kernel
theorem dX7_present_18 : decode cX7_present 18 = .ok (.goto 4, 3) := by decide +kernel
theorem dX7_present_21 : decode cX7_present 21 = .ok (.aload_n 2, 1) := by decide +kernel
theorem dX7_present_22 : decode cX7_present 22 = .ok (.areturn, 1) := by decide +kernel
theorem dX7_whyNone_0 : decode cX7_whyNone 0 = .ok (.aload_n 0, 1) := by decide +kernel
theorem dX7_whyNone_1 : decode cX7_whyNone 1 = .ok (.iload_n 1, 1) := by decide +kernel
theorem dX7_whyNone_2 : decode cX7_whyNone 2 = .ok (.invokevirtual 24, 3) := by decide +kernel
theorem dX7_whyNone_5 : decode cX7_whyNone 5 = .ok (.ifnonnull 7, 3) := by decide +kernel
theorem dX7_whyNone_8 : decode cX7_whyNone 8 = .ok (.iconst 2, 1) := by decide +kernel
theorem dX7_whyNone_9 : decode cX7_whyNone 9 = .ok (.goto 4, 3) := by decide +kernel
theorem dX7_whyNone_12 : decode cX7_whyNone 12 = .ok (.iconst 1, 1) := by decide +kernel
theorem dX7_whyNone_13 : decode cX7_whyNone 13 = .ok (.ireturn, 1) := by decide +kernel
theorem dX7_begin_0 : decode cX7_begin 0 = .ok (.aload_n 0, 1) := by decide +kernel
theorem dX7_begin_1 : decode cX7_begin 1 = .ok (.getfield 17, 3) := by decide +kernel
theorem dX7_begin_4 : decode cX7_begin 4 = .ok (.sipush 200, 3) := by decide +kernel
theorem dX7_begin_7 : decode cX7_begin 7 = .ok (.if_icmp .lt 5, 3) := by decide +kernel
theorem dX7_begin_10 : decode cX7_begin 10 = .ok (.iconst 0, 1) := by decide +kernel
theorem dX7_begin_11 : decode cX7_begin 11 = .ok (.ireturn, 1) := by decide +kernel
theorem dX7_begin_12 : decode cX7_begin 12 = .ok (.aload_n 0, 1) := by decide +kernel
theorem dX7_begin_13 : decode cX7_begin 13 = .ok (.getfield 11, 3) := by decide +kernel
theorem dX7_begin_16 : decode cX7_begin 16 = .ok (.aload_n 0, 1) := by decide +kernel
theorem dX7_begin_17 : decode cX7_begin 17 = .ok (.getfield 17, 3) := by decide +kernel
theorem dX7_begin_20 : decode cX7_begin 20 = .ok (.aaload, 1) := by decide +kernel
theorem dX7_begin_21 : decode cX7_begin 21 = .ok (.ifnonnull 19, 3) := by decide +kernel
theorem dX7_begin_24 : decode cX7_begin 24 = .ok (.aload_n 0, 1) := by decide +kernel
theorem dX7_begin_25 : decode cX7_begin 25 = .ok (.getfield 11, 3) := by decide +kernel
theorem dX7_begin_28 : decode cX7_begin 28 = .ok (.aload_n 0, 1) := by decide +kernel
theorem dX7_begin_29 : decode cX7_begin 29 = .ok (.getfield 17, 3) := by decide +kernel
theorem dX7_begin_32 : decode cX7_begin 32 = .ok (.new 9, 3) := by decide +kernel
theorem dX7_begin_35 : decode cX7_begin 35 = .ok (.dup, 1) := by decide +kernel
theorem dX7_begin_36 : decode cX7_begin 36 = .ok (.invokespecial 32, 3) := by decide +kernel
theorem dX7_begin_39 : decode cX7_begin 39 = .ok (.aastore, 1) := by decide +kernel
theorem dX7_begin_40 : decode cX7_begin 40 = .ok (.aload_n 0, 1) := by decide +kernel
theorem dX7_begin_41 : decode cX7_begin 41 = .ok (.getfield 11, 3) := by decide +kernel
theorem dX7_begin_44 : decode cX7_begin 44 = .ok (.aload_n 0, 1) := by decide +kernel
theorem dX7_begin_45 : decode cX7_begin 45 = .ok (.getfield 17, 3) := by decide +kernel
theorem dX7_begin_48 : decode cX7_begin 48 = .ok (.aaload, 1) := by decide +kernel
theorem dX7_begin_49 : decode cX7_begin 49 = .ok (.invokevirtual 33, 3) := by decide +kernel
theorem dX7_begin_52 : decode cX7_begin 52 = .ok (.aload_n 0, 1) := by decide +kernel
theorem dX7_begin_53 : decode cX7_begin 53 = .ok (.dup, 1) := by decide +kernel
theorem dX7_begin_54 : decode cX7_begin 54 = .ok (.getfield 17, 3) := by decide +kernel
theorem dX7_begin_57 : decode cX7_begin 57 = .ok (.iconst 1, 1) := by decide +kernel
theorem dX7_begin_58 : decode cX7_begin 58 = .ok (.iadd, 1) := by decide +kernel
theorem dX7_begin_59 : decode cX7_begin 59 = .ok (.putfield 17, 3) := by decide +kernel
theorem dX7_begin_62 : decode cX7_begin 62 = .ok (.iconst 1, 1) := by decide +kernel
theorem dX7_begin_63 : decode cX7_begin 63 = .ok (.ireturn, 1) := by decide +kernel
theorem dX7_take_0 : decode cX7_take 0 = .ok (.iconst 0, 1) := by decide +kernel
theorem dX7_take_1 : decode cX7_take 1 = .ok (.istore 5, 2) := by decide +kernel
theorem dX7_take_3 : decode cX7_take 3 = .ok (.iconst 0, 1) := by decide +kernel
theorem dX7_take_4 : decode cX7_take 4 = .ok (.istore 6, 2) := by decide +kernel
theorem dX7_take_6 : decode cX7_take 6 = .ok (.iload 6, 2) := by decide +kernel
theorem dX7_take_8 : decode cX7_take 8 = .ok (.sipush 200, 3) := by decide +kernel
theorem dX7_take_11 : decode cX7_take 11 = .ok (.if_icmp .gt 152, 3) := by decide +kernel
theorem dX7_take_14 : decode cX7_take 14 = .ok (.aload_n 0, 1) := by decide +kernel
theorem dX7_take_15 : decode cX7_take 15 = .ok (.aload_n 0, 1) := by decide +kernel
theorem dX7_take_16 : decode cX7_take 16 = .ok (.getfield 17, 3) := by decide +kernel
theorem dX7_take_19 : decode cX7_take 19 = .ok (.iconst 1, 1) := by decide +kernel
theorem dX7_take_20 : decode cX7_take 20 = .ok (.isub, 1) := by decide +kernel
theorem dX7_take_21 : decode cX7_take 21 = .ok (.invokevirtual 24, 3) := by decide +kernel
theorem dX7_take_24 : decode cX7_take 24 = .ok (.astore 7, 2) := by decide +kernel
theorem dX7_take_26 : decode cX7_take 26 = .ok (.aload 7, 2) := by decide +kernel
theorem dX7_take_28 : decode cX7_take 28 = .ok (.ifnonnull 5, 3) := by decide +kernel
theorem dX7_take_31 : decode cX7_take 31 = .ok (.iconst 0, 1) := by decide +kernel
theorem dX7_take_32 : decode cX7_take 32 = .ok (.ireturn, 1) := by decide +kernel
theorem dX7_take_33 : decode cX7_take 33 = .ok (.iload_n 3, 1) := by decide +kernel
theorem dX7_take_34 : decode cX7_take 34 = .ok (.aload 7, 2) := by decide +kernel
theorem dX7_take_36 : decode cX7_take 36 = .ok (.getfield 36, 3) := by decide +kernel
theorem dX7_take_39 : decode cX7_take 39 = .ok (.ifCond .le 13, 3) := by decide +kernel
theorem dX7_take_42 : decode cX7_take 42 = .ok (.aload 7, 2) := by decide +kernel
theorem dX7_take_44 : decode cX7_take 44 = .ok (.getfield 36, 3) := by decide +kernel
theorem dX7_take_47 : decode cX7_take 47 = .ok (.iconst 1, 1) := by decide +kernel
theorem dX7_take_48 : decode cX7_take 48 = .ok (.iadd, 1) := by decide +kernel
theorem dX7_take_49 : decode cX7_take 49 = .ok (.goto 4, 3) := by decide +kernel
theorem dX7_take_52 : decode cX7_take 52 = .ok (.iconst 0, 1) := by decide +kernel
theorem dX7_take_53 : decode cX7_take 53 = .ok (.isub, 1) := by decide +kernel
theorem dX7_take_54 : decode cX7_take 54 = .ok (.istore 8, 2) := by decide +kernel
theorem dX7_take_56 : decode cX7_take 56 = .ok (.aload_n 1, 1) := by decide +kernel
theorem dX7_take_57 : decode cX7_take 57 = .ok (.getfield 39, 3) := by decide +kernel
theorem dX7_take_60 : decode cX7_take 60 = .ok (.iload 5, 2) := by decide +kernel
theorem dX7_take_62 : decode cX7_take 62 = .ok (.isub, 1) := by decide +kernel
theorem dX7_take_63 : decode cX7_take 63 = .ok (.iload 8, 2) := by decide +kernel
theorem dX7_take_65 : decode cX7_take 65 = .ok (.if_icmp .gt 17, 3) := by decide +kernel
theorem dX7_take_68 : decode cX7_take 68 = .ok (.aload 7, 2) := by decide +kernel
theorem dX7_take_70 : decode cX7_take 70 = .ok (.aload_n 1, 1) := by decide +kernel
theorem dX7_take_71 : decode cX7_take 71 = .ok (.iload 5, 2) := by decide +kernel
theorem dX7_take_73 : decode cX7_take 73 = .ok (.aload_n 1, 1) := by decide +kernel
theorem dX7_take_74 : decode cX7_take 74 = .ok (.getfield 39, 3) := by decide +kernel
theorem dX7_take_77 : decode cX7_take 77 = .ok (.invokevirtual 42, 3) := by decide +kernel
theorem dX7_take_80 : decode cX7_take 80 = .ok (.iconst 1, 1) := by decide +kernel
theorem dX7_take_81 : decode cX7_take 81 = .ok (.ireturn, 1) := by decide +kernel
theorem dX7_take_82 : decode cX7_take 82 = .ok (.aload_n 1, 1) := by decide +kernel
theorem dX7_take_83 : decode cX7_take 83 = .ok (.iload_n 2, 1) := by decide +kernel
theorem dX7_take_84 : decode cX7_take 84 = .ok (.iload 5, 2) := by decide +kernel
theorem dX7_take_86 : decode cX7_take 86 = .ok (.iload 8, 2) := by decide +kernel
theorem dX7_take_88 : decode cX7_take 88 = .ok (.iconst 1, 1) := by decide +kernel
theorem dX7_take_89 : decode cX7_take 89 = .ok (.isub, 1) := by decide +kernel
theorem dX7_take_90 : decode cX7_take 90 = .ok (.invokevirtual 46, 3) := by decide +kernel
theorem dX7_take_93 : decode cX7_take 93 = .ok (.istore 9, 2) := by decide +kernel
theorem dX7_take_95 : decode cX7_take 95 = .ok (.iload 9, 2) := by decide +kernel
theorem dX7_take_97 : decode cX7_take 97 = .ok (.iload 5, 2) := by decide +kernel
theorem dX7_take_99 : decode cX7_take 99 = .ok (.if_icmp .le 27, 3) := by decide +kernel
theorem dX7_take_102 : decode cX7_take 102 = .ok (.aload 7, 2) := by decide +kernel
theorem dX7_take_104 : decode cX7_take 104 = .ok (.aload_n 1, 1) := by decide +kernel
theorem dX7_take_105 : decode cX7_take 105 = .ok (.iload 5, 2) := by decide +kernel
theorem dX7_take_107 : decode cX7_take 107 = .ok (.iload 9, 2) := by decide +kernel
theorem dX7_take_109 : decode cX7_take 109 = .ok (.invokevirtual 42, 3) := by decide +kernel
theorem dX7_take_112 : decode cX7_take 112 = .ok (.aload 7, 2) := by decide +kernel
theorem dX7_take_114 : decode cX7_take 114 = .ok (.iload 4, 2) := by decide +kernel
theorem dX7_take_116 : decode cX7_take 116 = .ok (.invokevirtual 50, 3) := by decide +kernel
theorem dX7_take_119 : decode cX7_take 119 = .ok (.iload 9, 2) := by decide +kernel
theorem dX7_take_121 : decode cX7_take 121 = .ok (.istore 5, 2) := by decide +kernel
theorem dX7_take_123 : decode cX7_take 123 = .ok (.goto 25, 3) := by decide +kernel
theorem dX7_take_126 : decode cX7_take 126 = .ok (.aload 7, 2) := by decide +kernel
theorem dX7_take_128 : decode cX7_take 128 = .ok (.getfield 36, 3) := by decide +kernel
theorem dX7_take_131 : decode cX7_take 131 = .ok (.ifCond .ne 17, 3) := by decide +kernel
theorem dX7_take_134 : decode cX7_take 134 = .ok (.aload 7, 2) := by decide +kernel
theorem dX7_take_136 : decode cX7_take 136 = .ok (.aload_n 1, 1) := by decide +kernel
theorem dX7_take_137 : decode cX7_take 137 = .ok (.iload 5, 2) := by decide +kernel
theorem dX7_take_139 : decode cX7_take 139 = .ok (.aload_n 1, 1) := by decide +kernel
theorem dX7_take_140 : decode cX7_take 140 = .ok (.getfield 39, 3) := by decide +kernel
theorem dX7_take_143 : decode cX7_take 143 = .ok (.invokevirtual 42, 3) := by decide +kernel
theorem dX7_take_146 : decode cX7_take 146 = .ok (.iconst 1, 1) := by decide +kernel
theorem dX7_take_147 : decode cX7_take 147 = .ok (.ireturn, 1) := by decide +kernel
theorem dX7_take_148 : decode cX7_take 148 = .ok (.aload_n 0, 1) := by decide +kernel
theorem dX7_take_149 : decode cX7_take 149 = .ok (.invokevirtual 54, 3) := by decide +kernel
theorem dX7_take_152 : decode cX7_take 152 = .ok (.ifCond .ne 5, 3) := by decide +kernel
theorem dX7_take_155 : decode cX7_take 155 = .ok (.iconst 0, 1) := by decide +kernel
theorem dX7_take_156 : decode cX7_take 156 = .ok (.ireturn, 1) := by decide +kernel
theorem dX7_take_157 : decode cX7_take 157 = .ok (.iinc 6 1, 3) := by decide +kernel
theorem dX7_take_160 : decode cX7_take 160 = .ok (.goto (-154), 3) := by decide +kernel
theorem dX7_take_163 : decode cX7_take 163 = .ok (.iconst 0, 1) := by decide +kernel
theorem dX7_take_164 : decode cX7_take 164 = .ok (.ireturn, 1) := by decide +kernel
theorem dX7_beginText_0 : decode cX7_beginText 0 = .ok (.aload_n 0, 1) := by decide +kernel
theorem dX7_beginText_1 : decode cX7_beginText 1 = .ok (.aload_n 0, 1) := by decide +kernel
theorem dX7_beginText_2 : decode cX7_beginText 2 = .ok (.getfield 17, 3) := by decide +kernel
theorem dX7_beginText_5 : decode cX7_beginText 5 = .ok (.putfield 21, 3) := by decide +kernel
theorem dX7_beginText_8 : decode cX7_beginText 8 = .ok (.aload_n 0, 1) := by decide +kernel
theorem dX7_beginText_9 : decode cX7_beginText 9 = .ok (.invokevirtual 54, 3) := by decide +kernel
theorem dX7_beginText_12 : decode cX7_beginText 12 = .ok (.ireturn, 1) := by decide +kernel
theorem dX7_endText_0 : decode cX7_endText 0 = .ok (.aload_n 0, 1) := by decide +kernel
theorem dX7_endText_1 : decode cX7_endText 1 = .ok (.getfield 21, 3) := by decide +kernel
theorem dX7_endText_4 : decode cX7_endText 4 = .ok (.istore_n 3, 1) := by decide +kernel
theorem dX7_endText_5 : decode cX7_endText 5 = .ok (.iload_n 1, 1) := by decide +kernel
theorem dX7_endText_6 : decode cX7_endText 6 = .ok (.ifCond .eq 43, 3) := by decide +kernel
theorem dX7_endText_9 : decode cX7_endText 9 = .ok (.iload_n 3, 1) := by decide +kernel
theorem dX7_endText_10 : decode cX7_endText 10 = .ok (.aload_n 0, 1) := by decide +kernel
theorem dX7_endText_11 : decode cX7_endText 11 = .ok (.getfield 17, 3) := by decide +kernel
theorem dX7_endText_14 : decode cX7_endText 14 = .ok (.if_icmp .ge 35, 3) := by decide +kernel
theorem dX7_endText_17 : decode cX7_endText 17 = .ok (.aload_n 0, 1) := by decide +kernel
theorem dX7_endText_18 : decode cX7_endText 18 = .ok (.iload_n 3, 1) := by decide +kernel
theorem dX7_endText_19 : decode cX7_endText 19 = .ok (.invokevirtual 24, 3) := by decide +kernel
theorem dX7_endText_22 : decode cX7_endText 22 = .ok (.astore 4, 2) := by decide +kernel
theorem dX7_endText_24 : decode cX7_endText 24 = .ok (.aload 4, 2) := by decide +kernel
theorem dX7_endText_26 : decode cX7_endText 26 = .ok (.ifnull 17, 3) := by decide +kernel
theorem dX7_endText_29 : decode cX7_endText 29 = .ok (.aload 4, 2) := by decide +kernel
theorem dX7_endText_31 : decode cX7_endText 31 = .ok (.iload_n 2, 1) := by decide +kernel
theorem dX7_endText_32 : decode cX7_endText 32 = .ok (.aload 4, 2) := by decide +kernel
theorem dX7_endText_34 : decode cX7_endText 34 = .ok (.getfield 36, 3) := by decide +kernel
theorem dX7_endText_37 : decode cX7_endText 37 = .ok (.isub, 1) := by decide +kernel
theorem dX7_endText_38 : decode cX7_endText 38 = .ok (.iconst 2, 1) := by decide +kernel
theorem dX7_endText_39 : decode cX7_endText 39 = .ok (.idiv, 1) := by decide +kernel
theorem dX7_endText_40 : decode cX7_endText 40 = .ok (.invokevirtual 58, 3) := by decide +kernel
theorem dX7_endText_43 : decode cX7_endText 43 = .ok (.iinc 3 1, 3) := by decide +kernel
theorem dX7_endText_46 : decode cX7_endText 46 = .ok (.goto (-41), 3) := by decide +kernel
theorem dX7_endText_49 : decode cX7_endText 49 = .ok (.return_, 1) := by decide +kernel
theorem dX7_goOver_0 : decode cX7_goOver 0 = .ok (.iload_n 1, 1) := by decide +kernel
theorem dX7_goOver_1 : decode cX7_goOver 1 = .ok (.istore_n 2, 1) := by decide +kernel
theorem dX7_goOver_2 : decode cX7_goOver 2 = .ok (.iconst 0, 1) := by decide +kernel
theorem dX7_goOver_3 : decode cX7_goOver 3 = .ok (.istore_n 3, 1) := by decide +kernel
theorem dX7_goOver_4 : decode cX7_goOver 4 = .ok (.iload_n 3, 1) := by decide +kernel
theorem dX7_goOver_5 : decode cX7_goOver 5 = .ok (.aload_n 0, 1) := by decide +kernel
theorem dX7_goOver_6 : decode cX7_goOver 6 = .ok (.getfield 17, 3) := by decide +kernel
theorem dX7_goOver_9 : decode cX7_goOver 9 = .ok (.if_icmp .ge 74, 3) := by decide +kernel
theorem dX7_goOver_12 : decode cX7_goOver 12 = .ok (.aload_n 0, 1) := by decide +kernel
theorem dX7_goOver_13 : decode cX7_goOver 13 = .ok (.iload_n 3, 1) := by decide +kernel
theorem dX7_goOver_14 : decode cX7_goOver 14 = .ok (.invokevirtual 61, 3) := by decide +kernel
theorem dX7_goOver_17 : decode cX7_goOver 17 = .ok (.astore 4, 2) := by decide +kernel
theorem dX7_goOver_19 : decode cX7_goOver 19 = .ok (.iload_n 2, 1) := by decide +kernel
theorem dX7_goOver_20 : decode cX7_goOver 20 = .ok (.bipush 31, 2) := by decide +kernel
theorem dX7_goOver_22 : decode cX7_goOver 22 = .ok (.imul, 1) := by decide +kernel
theorem dX7_goOver_23 : decode cX7_goOver 23 = .ok (.aload 4, 2) := by decide +kernel
theorem dX7_goOver_25 : decode cX7_goOver 25 = .ok (.ifnonnull 7, 3) := by decide +kernel
theorem dX7_goOver_28 : decode cX7_goOver 28 = .ok (.iconst (-1), 1) := by decide +kernel
theorem dX7_goOver_29 : decode cX7_goOver 29 = .ok (.goto 8, 3) := by decide +kernel
theorem dX7_goOver_32 : decode cX7_goOver 32 = .ok (.aload 4, 2) := by decide +kernel
theorem dX7_goOver_34 : decode cX7_goOver 34 = .ok (.getfield 36, 3) := by decide +kernel
theorem dX7_goOver_37 : decode cX7_goOver 37 = .ok (.iadd, 1) := by decide +kernel
theorem dX7_goOver_38 : decode cX7_goOver 38 = .ok (.istore_n 2, 1) := by decide +kernel
theorem dX7_goOver_39 : decode cX7_goOver 39 = .ok (.iconst 0, 1) := by decide +kernel
theorem dX7_goOver_40 : decode cX7_goOver 40 = .ok (.istore 5, 2) := by decide +kernel
theorem dX7_goOver_42 : decode cX7_goOver 42 = .ok (.aload 4, 2) := by decide +kernel
theorem dX7_goOver_44 : decode cX7_goOver 44 = .ok (.ifnull 33, 3) := by decide +kernel
theorem dX7_goOver_47 : decode cX7_goOver 47 = .ok (.iload 5, 2) := by decide +kernel
theorem dX7_goOver_49 : decode cX7_goOver 49 = .ok (.aload 4, 2) := by decide +kernel
theorem dX7_goOver_51 : decode cX7_goOver 51 = .ok (.getfield 36, 3) := by decide +kernel
theorem dX7_goOver_54 : decode cX7_goOver 54 = .ok (.if_icmp .ge 23, 3) := by decide +kernel
theorem dX7_goOver_57 : decode cX7_goOver 57 = .ok (.iload_n 2, 1) := by decide +kernel
theorem dX7_goOver_58 : decode cX7_goOver 58 = .ok (.bipush 31, 2) := by decide +kernel
theorem dX7_goOver_60 : decode cX7_goOver 60 = .ok (.imul, 1) := by decide +kernel
theorem dX7_goOver_61 : decode cX7_goOver 61 = .ok (.aload 4, 2) := by decide +kernel
theorem dX7_goOver_63 : decode cX7_goOver 63 = .ok (.getfield 64, 3) := by decide +kernel
theorem dX7_goOver_66 : decode cX7_goOver 66 = .ok (.iload 5, 2) := by decide +kernel
theorem dX7_goOver_68 : decode cX7_goOver 68 = .ok (.iaload, 1) := by decide +kernel
theorem dX7_goOver_69 : decode cX7_goOver 69 = .ok (.iadd, 1) := by decide +kernel
theorem dX7_goOver_70 : decode cX7_goOver 70 = .ok (.istore_n 2, 1) := by decide +kernel
theorem dX7_goOver_71 : decode cX7_goOver 71 = .ok (.iinc 5 1, 3) := by decide +kernel
theorem dX7_goOver_74 : decode cX7_goOver 74 = .ok (.goto (-32), 3) := by decide +kernel
theorem dX7_goOver_77 : decode cX7_goOver 77 = .ok (.iinc 3 1, 3) := by decide +kernel
theorem dX7_goOver_80 : decode cX7_goOver 80 = .ok (.goto (-76), 3) := by decide +kernel
theorem dX7_goOver_83 : decode cX7_goOver 83 = .ok (.iload_n 2, 1) := by decide +kernel
theorem dX7_goOver_84 : decode cX7_goOver 84 = .ok (.ireturn, 1) := by decide +kernel
