theorem dX11_init_0 : decode cX11_init 0 = .ok (.aload_n 0, 1) := by decide +kernel
theorem dX11_init_1 : decode cX11_init 1 = .ok (.invokespecial 1, 3) := by decide +kernel
theorem dX11_init_4 : decode cX11_init 4 = .ok (.aload_n 0, 1) := by decide +kernel
theorem dX11_init_5 : decode cX11_init 5 = .ok (.new 7, 3) := by decide +kernel
theorem dX11_init_8 : decode cX11_init 8 = .ok (.dup, 1) := by decide +kernel
theorem dX11_init_9 : decode cX11_init 9 = .ok (.sipush 3000, 3) := by decide +kernel
theorem dX11_init_12 : decode cX11_init 12 = .ok (.invokespecial 11, 3) := by decide +kernel
theorem dX11_init_15 : decode cX11_init 15 = .ok (.putfield 14, 3) := by decide +kernel
theorem dX11_init_18 : decode cX11_init 18 = .ok (.aload_n 0, 1) := by decide +kernel
theorem dX11_init_19 : decode cX11_init 19 = .ok (.new 7, 3) := by decide +kernel
theorem dX11_init_22 : decode cX11_init 22 = .ok (.dup, 1) := by decide +kernel
theorem dX11_init_23 : decode cX11_init 23 = .ok (.sipush 500, 3) := by decide +kernel
theorem dX11_init_26 : decode cX11_init 26 = .ok (.invokespecial 11, 3) := by decide +kernel
theorem dX11_init_29 : decode cX11_init 29 = .ok (.putfield 18, 3) := by decide +kernel
theorem dX11_init_32 : decode cX11_init 32 = .ok (.aload_n 0, 1) := by decide +kernel
theorem dX11_init_33 : decode cX11_init 33 = .ok (.new 7, 3) := by decide +kernel
theorem dX11_init_36 : decode cX11_init 36 = .ok (.dup, 1) := by decide +kernel
theorem dX11_init_37 : decode cX11_init 37 = .ok (.sipush 4000, 3) := by decide +kernel
theorem dX11_init_40 : decode cX11_init 40 = .ok (.invokespecial 11, 3) := by decide +kernel
theorem dX11_init_43 : decode cX11_init 43 = .ok (.putfield 21, 3) := by decide +kernel
theorem dX11_init_46 : decode cX11_init 46 = .ok (.aload_n 0, 1) := by decide +kernel
theorem dX11_init_47 : decode cX11_init 47 = .ok (.new 7, 3) := by decide +kernel
theorem dX11_init_50 : decode cX11_init 50 = .ok (.dup, 1) := by decide +kernel
theorem dX11_init_51 : decode cX11_init 51 = .ok (.sipush 200, 3) := by decide +kernel
theorem dX11_init_54 : decode cX11_init 54 = .ok (.invokespecial 11, 3) := by decide +kernel
theorem dX11_init_57 : decode cX11_init 57 = .ok (.putfield 24, 3) := by decide +kernel
theorem dX11_init_60 : decode cX11_init 60 = .ok (.aload_n 0, 1) := by decide +kernel
theorem dX11_init_61 : decode cX11_init 61 = .ok (.new 27, 3) := by decide +kernel
theorem dX11_init_64 : decode cX11_init 64 = .ok (.dup, 1) := by decide +kernel
theorem dX11_init_65 : decode cX11_init 65 = .ok (.invokespecial 29, 3) := by decide +kernel
theorem dX11_init_68 : decode cX11_init 68 = .ok (.putfield 30, 3) := by decide +kernel
theorem dX11_init_71 : decode cX11_init 71 = .ok (.aload_n 0, 1) := by decide +kernel
theorem dX11_init_72 : decode cX11_init 72 = .ok (.new 34, 3) := by decide +kernel
theorem dX11_init_75 : decode cX11_init 75 = .ok (.dup, 1) := by decide +kernel
theorem dX11_init_76 : decode cX11_init 76 = .ok (.invokespecial 36, 3) := by decide +kernel
theorem dX11_init_79 : decode cX11_init 79 = .ok (.putfield 37, 3) := by decide +kernel
theorem dX11_init_82 : decode cX11_init 82 = .ok (.aload_n 0, 1) := by decide +kernel
theorem dX11_init_83 : decode cX11_init 83 = .ok (.new 41, 3) := by decide +kernel
theorem dX11_init_86 : decode cX11_init 86 = .ok (.dup, 1) := by decide +kernel
theorem dX11_init_87 : decode cX11_init 87 = .ok (.invokespecial 43, 3) := by decide +kernel
theorem dX11_init_90 : decode cX11_init 90 = .ok (.putfield 44, 3) := by decide +kernel
theorem dX11_init_93 : decode cX11_init 93 = .ok (.aload_n 0, 1) := by decide +kernel
theorem dX11_init_94 : decode cX11_init 94 = .ok (.new 48, 3) := by decide +kernel
theorem dX11_init_97 : decode cX11_init 97 = .ok (.dup, 1) := by decide +kernel
theorem dX11_init_98 : decode cX11_init 98 = .ok (.invokespecial 50, 3) := by decide +kernel
theorem dX11_init_101 : decode cX11_init 101 = .ok (.putfield 51, 3) := by decide +kernel
theorem dX11_init_104 : decode cX11_init 104 = .ok (.aload_n 0, 1) := by decide +kernel
theorem dX11_init_105 : decode cX11_init 105 = .ok (.new 55, 3) := by decide +kernel
theorem dX11_init_108 : decode cX11_init 108 = .ok (.dup, 1) := by decide +kernel
theorem dX11_init_109 : decode cX11_init 109 = .ok (.aload_n 0, 1) := by decide +kernel
theorem dX11_init_110 : decode cX11_init 110 = .ok (.getfield 51, 3) := by decide +kernel
theorem dX11_init_113 : decode cX11_init 113 = .ok (.invokespecial 57, 3) := by decide +kernel
theorem dX11_init_116 : decode cX11_init 116 = .ok (.putfield 60, 3) := by decide +kernel
theorem dX11_init_119 : decode cX11_init 119 = .ok (.aload_n 0, 1) := by decide +kernel
theorem dX11_init_120 : decode cX11_init 120 = .ok (.new 64, 3) := by decide +kernel
theorem dX11_init_123 : decode cX11_init 123 = .ok (.dup, 1) := by decide +kernel
theorem dX11_init_124 : decode cX11_init 124 = .ok (.invokespecial 66, 3) := by decide +kernel
theorem dX11_init_127 : decode cX11_init 127 = .ok (.putfield 67, 3) := by decide +kernel
theorem dX11_init_130 : decode cX11_init 130 = .ok (.aload_n 0, 1) := by decide +kernel
theorem dX11_init_131 : decode cX11_init 131 = .ok (.new 64, 3) := by decide +kernel
theorem dX11_init_134 : decode cX11_init 134 = .ok (.dup, 1) := by decide +kernel
theorem dX11_init_135 : decode cX11_init 135 = .ok (.invokespecial 66, 3) := by decide +kernel
theorem dX11_init_138 : decode cX11_init 138 = .ok (.putfield 71, 3) := by decide +kernel
theorem dX11_init_141 : decode cX11_init 141 = .ok (.aload_n 0, 1) := by decide +kernel
theorem dX11_init_142 : decode cX11_init 142 = .ok (.bipush 32, 2) := by decide +kernel
theorem dX11_init_144 : decode cX11_init 144 = .ok (.putfield 74, 3) := by decide +kernel
theorem dX11_init_147 : decode cX11_init 147 = .ok (.aload_n 0, 1) := by decide +kernel
theorem dX11_init_148 : decode cX11_init 148 = .ok (.bipush 25, 2) := by decide +kernel
theorem dX11_init_150 : decode cX11_init 150 = .ok (.putfield 78, 3) := by decide +kernel
theorem dX11_init_153 : decode cX11_init 153 = .ok (.aload_n 0, 1) := by decide +kernel
theorem dX11_init_154 : decode cX11_init 154 = .ok (.bipush 36, 2) := by decide +kernel
theorem dX11_init_156 : decode cX11_init 156 = .ok (.putfield 81, 3) := by decide +kernel
theorem dX11_init_159 : decode cX11_init 159 = .ok (.aload_n 0, 1) := by decide +kernel
theorem dX11_init_160 : decode cX11_init 160 = .ok (.iconst 0, 1) := by decide +kernel
theorem dX11_init_161 : decode cX11_init 161 = .ok (.putfield 84, 3) := by decide +kernel
theorem dX11_init_164 : decode cX11_init 164 = .ok (.aload_n 0, 1) := by decide +kernel
theorem dX11_init_165 : decode cX11_init 165 = .ok (.iconst 0, 1) := by decide +kernel
theorem dX11_init_166 : decode cX11_init 166 = .ok (.putfield 87, 3) := by decide +kernel
theorem dX11_init_169 : decode cX11_init 169 = .ok (.aload_n 0, 1) := by decide +kernel
theorem dX11_init_170 : decode cX11_init 170 = .ok (.iconst 0, 1) := by decide +kernel
theorem dX11_init_171 : decode cX11_init 171 = .ok (.putfield 90, 3) := by decide +kernel
theorem dX11_init_174 : decode cX11_init 174 = .ok (.aload_n 0, 1) := by decide +kernel
theorem dX11_init_175 : decode cX11_init 175 = .ok (.iconst 0, 1) := by decide +kernel
theorem dX11_init_176 : decode cX11_init 176 = .ok (.putfield 93, 3) := by decide +kernel
theorem dX11_init_179 : decode cX11_init 179 = .ok (.aload_n 0, 1) := by decide +kernel
theorem dX11_init_180 : decode cX11_init 180 = .ok (.iconst (-1), 1) := by decide +kernel
theorem dX11_init_181 : decode cX11_init 181 = .ok (.putfield 96, 3) := by decide +kernel
theorem dX11_init_184 : decode cX11_init 184 = .ok (.return_, 1) := by decide +kernel
theorem dX11_feed_0 : decode cX11_feed 0 = .ok (.aload_n 0, 1) := by decide +kernel
theorem dX11_feed_1 : decode cX11_feed 1 = .ok (.getfield 14, 3) := by decide +kernel
theorem dX11_feed_4 : decode cX11_feed 4 = .ok (.getfield 99, 3) := by decide +kernel
theorem dX11_feed_7 : decode cX11_feed 7 = .ok (.bipush 20, 2) := by decide +kernel
theorem dX11_feed_9 : decode cX11_feed 9 = .ok (.iadd, 1) := by decide +kernel
theorem dX11_feed_10 : decode cX11_feed 10 = .ok (.sipush 3000, 3) := by decide +kernel
theorem dX11_feed_13 : decode cX11_feed 13 = .ok (.if_icmp .le 10, 3) := by decide +kernel
theorem dX11_feed_16 : decode cX11_feed 16 = .ok (.aload_n 0, 1) := by decide +kernel
theorem dX11_feed_17 : decode cX11_feed 17 = .ok (.bipush 6, 2) := by decide +kernel
theorem dX11_feed_19 : decode cX11_feed 19 = .ok (.invokevirtual 102, 3) := by decide +kernel
theorem dX11_feed_22 : decode cX11_feed 22 = .ok (.ireturn, 1) := by decide +kernel
theorem dX11_feed_23 : decode cX11_feed 23 = .ok (.aload_n 0, 1) := by decide +kernel
theorem dX11_feed_24 : decode cX11_feed 24 = .ok (.iload_n 1, 1) := by decide +kernel
theorem dX11_feed_25 : decode cX11_feed 25 = .ok (.invokevirtual 106, 3) := by decide +kernel
theorem dX11_feed_28 : decode cX11_feed 28 = .ok (.aload_n 0, 1) := by decide +kernel
theorem dX11_feed_29 : decode cX11_feed 29 = .ok (.iload_n 2, 1) := by decide +kernel
theorem dX11_feed_30 : decode cX11_feed 30 = .ok (.invokevirtual 106, 3) := by decide +kernel
theorem dX11_feed_33 : decode cX11_feed 33 = .ok (.aload_n 0, 1) := by decide +kernel
theorem dX11_feed_34 : decode cX11_feed 34 = .ok (.iload_n 3, 1) := by decide +kernel
theorem dX11_feed_35 : decode cX11_feed 35 = .ok (.invokevirtual 106, 3) := by decide +kernel
theorem dX11_feed_38 : decode cX11_feed 38 = .ok (.aload_n 0, 1) := by decide +kernel
theorem dX11_feed_39 : decode cX11_feed 39 = .ok (.iload 4, 2) := by decide +kernel
theorem dX11_feed_41 : decode cX11_feed 41 = .ok (.invokevirtual 106, 3) := by decide +kernel
theorem dX11_feed_44 : decode cX11_feed 44 = .ok (.aload_n 0, 1) := by decide +kernel
theorem dX11_feed_45 : decode cX11_feed 45 = .ok (.iload 5, 2) := by decide +kernel
theorem dX11_feed_47 : decode cX11_feed 47 = .ok (.invokevirtual 106, 3) := by decide +kernel
theorem dX11_feed_50 : decode cX11_feed 50 = .ok (.aload_n 0, 1) := by decide +kernel
theorem dX11_feed_51 : decode cX11_feed 51 = .ok (.aload_n 0, 1) := by decide +kernel
theorem dX11_feed_52 : decode cX11_feed 52 = .ok (.getfield 14, 3) := by decide +kernel
theorem dX11_feed_55 : decode cX11_feed 55 = .ok (.getfield 99, 3) := by decide +kernel
theorem dX11_feed_58 : decode cX11_feed 58 = .ok (.invokevirtual 109, 3) := by decide +kernel
theorem dX11_feed_61 : decode cX11_feed 61 = .ok (.ireturn, 1) := by decide +kernel
theorem dX11_feedFour_0 : decode cX11_feedFour 0 = .ok (.bipush 24, 2) := by decide +kernel
theorem dX11_feedFour_2 : decode cX11_feedFour 2 = .ok (.istore_n 2, 1) := by decide +kernel
theorem dX11_feedFour_3 : decode cX11_feedFour 3 = .ok (.iload_n 2, 1) := by decide +kernel
theorem dX11_feedFour_4 : decode cX11_feedFour 4 = .ok (.ifCond .lt 23, 3) := by decide +kernel
theorem dX11_feedFour_7 : decode cX11_feedFour 7 = .ok (.aload_n 0, 1) := by decide +kernel
theorem dX11_feedFour_8 : decode cX11_feedFour 8 = .ok (.getfield 14, 3) := by decide +kernel
theorem dX11_feedFour_11 : decode cX11_feedFour 11 = .ok (.iload_n 1, 1) := by decide +kernel
theorem dX11_feedFour_12 : decode cX11_feedFour 12 = .ok (.iload_n 2, 1) := by decide +kernel
theorem dX11_feedFour_13 : decode cX11_feedFour 13 = .ok (.iushr, 1) := by decide +kernel
theorem dX11_feedFour_14 : decode cX11_feedFour 14 = .ok (.sipush 255, 3) := by decide +kernel
theorem dX11_feedFour_17 : decode cX11_feedFour 17 = .ok (.iand, 1) := by decide +kernel
theorem dX11_feedFour_18 : decode cX11_feedFour 18 = .ok (.invokevirtual 112, 3) := by decide +kernel
theorem dX11_feedFour_21 : decode cX11_feedFour 21 = .ok (.iinc 2 (-8), 3) := by decide +kernel
theorem dX11_feedFour_24 : decode cX11_feedFour 24 = .ok (.goto (-21), 3) := by decide +kernel
theorem dX11_feedFour_27 : decode cX11_feedFour 27 = .ok (.return_, 1) := by decide +kernel
theorem dX11_end_0 : decode cX11_end 0 = .ok (.iload_n 1, 1) := by decide +kernel
theorem dX11_end_1 : decode cX11_end 1 = .ok (.ifCond .ge 9, 3) := by decide +kernel
theorem dX11_end_4 : decode cX11_end 4 = .ok (.aload_n 0, 1) := by decide +kernel
theorem dX11_end_5 : decode cX11_end 5 = .ok (.iconst 5, 1) := by decide +kernel
theorem dX11_end_6 : decode cX11_end 6 = .ok (.invokevirtual 102, 3) := by decide +kernel
theorem dX11_end_9 : decode cX11_end 9 = .ok (.ireturn, 1) := by decide +kernel
theorem dX11_end_10 : decode cX11_end 10 = .ok (.iload_n 1, 1) := by decide +kernel
theorem dX11_end_11 : decode cX11_end 11 = .ok (.aload_n 0, 1) := by decide +kernel
theorem dX11_end_12 : decode cX11_end 12 = .ok (.getfield 14, 3) := by decide +kernel
theorem dX11_end_15 : decode cX11_end 15 = .ok (.getfield 99, 3) := by decide +kernel
theorem dX11_end_18 : decode cX11_end 18 = .ok (.if_icmp .le 10, 3) := by decide +kernel
theorem dX11_end_21 : decode cX11_end 21 = .ok (.aload_n 0, 1) := by decide +kernel
theorem dX11_end_22 : decode cX11_end 22 = .ok (.bipush 6, 2) := by decide +kernel
theorem dX11_end_24 : decode cX11_end 24 = .ok (.invokevirtual 102, 3) := by decide +kernel
theorem dX11_end_27 : decode cX11_end 27 = .ok (.ireturn, 1) := by decide +kernel
theorem dX11_end_28 : decode cX11_end 28 = .ok (.aload_n 0, 1) := by decide +kernel
theorem dX11_end_29 : decode cX11_end 29 = .ok (.getfield 14, 3) := by decide +kernel
theorem dX11_end_32 : decode cX11_end 32 = .ok (.iload_n 1, 1) := by decide +kernel
theorem dX11_end_33 : decode cX11_end 33 = .ok (.invokevirtual 115, 3) := by decide +kernel
theorem dX11_end_36 : decode cX11_end 36 = .ok (.aload_n 0, 1) := by decide +kernel
theorem dX11_end_37 : decode cX11_end 37 = .ok (.iload_n 1, 1) := by decide +kernel
theorem dX11_end_38 : decode cX11_end 38 = .ok (.invokevirtual 109, 3) := by decide +kernel
theorem dX11_end_41 : decode cX11_end 41 = .ok (.ireturn, 1) := by decide +kernel
theorem dX11_table_0 : decode cX11_table 0 = .ok (.iload_n 1, 1) := by decide +kernel
theorem dX11_table_1 : decode cX11_table 1 = .ok (.ifCond .lt 30, 3) := by decide +kernel
theorem dX11_table_4 : decode cX11_table 4 = .ok (.iload_n 1, 1) := by decide +kernel
theorem dX11_table_5 : decode cX11_table 5 = .ok (.iconst 4, 1) := by decide +kernel
theorem dX11_table_6 : decode cX11_table 6 = .ok (.if_icmp .gt 25, 3) := by decide +kernel
theorem dX11_table_9 : decode cX11_table 9 = .ok (.iload_n 2, 1) := by decide +kernel
theorem dX11_table_10 : decode cX11_table 10 = .ok (.bipush 6, 2) := by decide +kernel
theorem dX11_table_12 : decode cX11_table 12 = .ok (.if_icmp .eq 9, 3) := by decide +kernel
theorem dX11_table_15 : decode cX11_table 15 = .ok (.iload_n 2, 1) := by decide +kernel
theorem dX11_table_16 : decode cX11_table 16 = .ok (.bipush 8, 2) := by decide +kernel
theorem dX11_table_18 : decode cX11_table 18 = .ok (.if_icmp .ne 13, 3) := by decide +kernel
theorem dX11_table_21 : decode cX11_table 21 = .ok (.aload_n 0, 1) := by decide +kernel
theorem dX11_table_22 : decode cX11_table 22 = .ok (.getfield 30, 3) := by decide +kernel
theorem dX11_table_25 : decode cX11_table 25 = .ok (.invokevirtual 118, 3) := by decide +kernel
theorem dX11_table_28 : decode cX11_table 28 = .ok (.ifCond .eq 10, 3) := by decide +kernel
theorem dX11_table_31 : decode cX11_table 31 = .ok (.aload_n 0, 1) := by decide +kernel
theorem dX11_table_32 : decode cX11_table 32 = .ok (.bipush 6, 2) := by decide +kernel
theorem dX11_table_34 : decode cX11_table 34 = .ok (.invokevirtual 102, 3) := by decide +kernel
theorem dX11_table_37 : decode cX11_table 37 = .ok (.ireturn, 1) := by decide +kernel
theorem dX11_table_38 : decode cX11_table 38 = .ok (.iload_n 1, 1) := by decide +kernel
theorem dX11_table_39 : decode cX11_table 39 = .ok (.ifCond .eq 8, 3) := by decide +kernel
theorem dX11_table_42 : decode cX11_table 42 = .ok (.iload_n 1, 1) := by decide +kernel
theorem dX11_table_43 : decode cX11_table 43 = .ok (.iconst 4, 1) := by decide +kernel
theorem dX11_table_44 : decode cX11_table 44 = .ok (.if_icmp .ne 26, 3) := by decide +kernel
theorem dX11_table_47 : decode cX11_table 47 = .ok (.aload_n 0, 1) := by decide +kernel
theorem dX11_table_48 : decode cX11_table 48 = .ok (.aload_n 0, 1) := by decide +kernel
theorem dX11_table_49 : decode cX11_table 49 = .ok (.getfield 30, 3) := by decide +kernel
theorem dX11_table_52 : decode cX11_table 52 = .ok (.new 122, 3) := by decide +kernel
theorem dX11_table_55 : decode cX11_table 55 = .ok (.dup, 1) := by decide +kernel
theorem dX11_table_56 : decode cX11_table 56 = .ok (.iload_n 1, 1) := by decide +kernel
theorem dX11_table_57 : decode cX11_table 57 = .ok (.iload_n 2, 1) := by decide +kernel
theorem dX11_table_58 : decode cX11_table 58 = .ok (.aconst_null, 1) := by decide +kernel
theorem dX11_table_59 : decode cX11_table 59 = .ok (.aconst_null, 1) := by decide +kernel
theorem dX11_table_60 : decode cX11_table 60 = .ok (.invokespecial 124, 3) := by decide +kernel
theorem dX11_table_63 : decode cX11_table 63 = .ok (.invokevirtual 127, 3) := by decide +kernel
theorem dX11_table_66 : decode cX11_table 66 = .ok (.invokevirtual 109, 3) := by decide +kernel
theorem dX11_table_69 : decode cX11_table 69 = .ok (.ireturn, 1) := by decide +kernel
theorem dX11_table_70 : decode cX11_table 70 = .ok (.aload_n 0, 1) := by decide +kernel
theorem dX11_table_71 : decode cX11_table 71 = .ok (.getfield 30, 3) := by decide +kernel
theorem dX11_table_74 : decode cX11_table 74 = .ok (.iload_n 3, 1) := by decide +kernel
theorem dX11_table_75 : decode cX11_table 75 = .ok (.invokevirtual 131, 3) := by decide +kernel
theorem dX11_table_78 : decode cX11_table 78 = .ok (.astore 4, 2) := by decide +kernel
theorem dX11_table_80 : decode cX11_table 80 = .ok (.aload 4, 2) := by decide +kernel
theorem dX11_table_82 : decode cX11_table 82 = .ok (.ifnull 12, 3) := by decide +kernel
theorem dX11_table_85 : decode cX11_table 85 = .ok (.aload 4, 2) := by decide +kernel
theorem dX11_table_87 : decode cX11_table 87 = .ok (.getfield 135, 3) := by decide +kernel
theorem dX11_table_90 : decode cX11_table 90 = .ok (.iconst 3, 1) := by decide +kernel
theorem dX11_table_91 : decode cX11_table 91 = .ok (.if_icmp .le 18, 3) := by decide +kernel
theorem dX11_table_94 : decode cX11_table 94 = .ok (.aload_n 0, 1) := by decide +kernel
theorem dX11_table_95 : decode cX11_table 95 = .ok (.aload 4, 2) := by decide +kernel
theorem dX11_table_97 : decode cX11_table 97 = .ok (.ifnonnull 7, 3) := by decide +kernel
theorem dX11_table_100 : decode cX11_table 100 = .ok (.iconst 3, 1) := by decide +kernel
theorem dX11_table_101 : decode cX11_table 101 = .ok (.goto 4, 3) := by decide +kernel
theorem dX11_table_104 : decode cX11_table 104 = .ok (.iconst 4, 1) := by decide +kernel
theorem dX11_table_105 : decode cX11_table 105 = .ok (.invokevirtual 102, 3) := by decide +kernel
theorem dX11_table_108 : decode cX11_table 108 = .ok (.ireturn, 1) := by decide +kernel
theorem dX11_table_109 : decode cX11_table 109 = .ok (.aload_n 0, 1) := by decide +kernel
theorem dX11_table_110 : decode cX11_table 110 = .ok (.aload_n 0, 1) := by decide +kernel
theorem dX11_table_111 : decode cX11_table 111 = .ok (.getfield 30, 3) := by decide +kernel
theorem dX11_table_114 : decode cX11_table 114 = .ok (.new 122, 3) := by decide +kernel
theorem dX11_table_117 : decode cX11_table 117 = .ok (.dup, 1) := by decide +kernel
theorem dX11_table_118 : decode cX11_table 118 = .ok (.iload_n 1, 1) := by decide +kernel
theorem dX11_table_119 : decode cX11_table 119 = .ok (.iload_n 2, 1) := by decide +kernel
theorem dX11_table_120 : decode cX11_table 120 = .ok (.aload 4, 2) := by decide +kernel
theorem dX11_table_122 : decode cX11_table 122 = .ok (.aconst_null, 1) := by decide +kernel
theorem dX11_table_123 : decode cX11_table 123 = .ok (.invokespecial 124, 3) := by decide +kernel
theorem dX11_table_126 : decode cX11_table 126 = .ok (.invokevirtual 127, 3) := by decide +kernel
theorem dX11_table_129 : decode cX11_table 129 = .ok (.invokevirtual 109, 3) := by decide +kernel
theorem dX11_table_132 : decode cX11_table 132 = .ok (.ireturn, 1) := by decide +kernel
theorem dX11_join_0 : decode cX11_join 0 = .ok (.aload_n 0, 1) := by decide +kernel
theorem dX11_join_1 : decode cX11_join 1 = .ok (.getfield 30, 3) := by decide +kernel
theorem dX11_join_4 : decode cX11_join 4 = .ok (.iload_n 1, 1) := by decide +kernel
theorem dX11_join_5 : decode cX11_join 5 = .ok (.invokevirtual 131, 3) := by decide +kernel
theorem dX11_join_8 : decode cX11_join 8 = .ok (.astore_n 3, 1) := by decide +kernel
theorem dX11_join_9 : decode cX11_join 9 = .ok (.aload_n 3, 1) := by decide +kernel
theorem dX11_join_10 : decode cX11_join 10 = .ok (.ifnull 11, 3) := by decide +kernel
theorem dX11_join_13 : decode cX11_join 13 = .ok (.aload_n 3, 1) := by decide +kernel
theorem dX11_join_14 : decode cX11_join 14 = .ok (.getfield 135, 3) := by decide +kernel
theorem dX11_join_17 : decode cX11_join 17 = .ok (.iconst 3, 1) := by decide +kernel
theorem dX11_join_18 : decode cX11_join 18 = .ok (.if_icmp .le 17, 3) := by decide +kernel
theorem dX11_join_21 : decode cX11_join 21 = .ok (.aload_n 0, 1) := by decide +kernel
theorem dX11_join_22 : decode cX11_join 22 = .ok (.aload_n 3, 1) := by decide +kernel
theorem dX11_join_23 : decode cX11_join 23 = .ok (.ifnonnull 7, 3) := by decide +kernel
theorem dX11_join_26 : decode cX11_join 26 = .ok (.iconst 3, 1) := by decide +kernel
theorem dX11_join_27 : decode cX11_join 27 = .ok (.goto 4, 3) := by decide +kernel
theorem dX11_join_30 : decode cX11_join 30 = .ok (.iconst 4, 1) := by decide +kernel
theorem dX11_join_31 : decode cX11_join 31 = .ok (.invokevirtual 102, 3) := by decide +kernel
theorem dX11_join_34 : decode cX11_join 34 = .ok (.ireturn, 1) := by decide +kernel
theorem dX11_join_35 : decode cX11_join 35 = .ok (.aload_n 0, 1) := by decide +kernel
theorem dX11_join_36 : decode cX11_join 36 = .ok (.getfield 30, 3) := by decide +kernel
theorem dX11_join_39 : decode cX11_join 39 = .ok (.iload_n 2, 1) := by decide +kernel
theorem dX11_join_40 : decode cX11_join 40 = .ok (.invokevirtual 131, 3) := by decide +kernel
theorem dX11_join_43 : decode cX11_join 43 = .ok (.astore 4, 2) := by decide +kernel
theorem dX11_join_45 : decode cX11_join 45 = .ok (.aload 4, 2) := by decide +kernel
theorem dX11_join_47 : decode cX11_join 47 = .ok (.ifnull 12, 3) := by decide +kernel
theorem dX11_join_50 : decode cX11_join 50 = .ok (.aload 4, 2) := by decide +kernel
theorem dX11_join_52 : decode cX11_join 52 = .ok (.getfield 135, 3) := by decide +kernel
theorem dX11_join_55 : decode cX11_join 55 = .ok (.iconst 3, 1) := by decide +kernel
theorem dX11_join_56 : decode cX11_join 56 = .ok (.if_icmp .le 18, 3) := by decide +kernel
theorem dX11_join_59 : decode cX11_join 59 = .ok (.aload_n 0, 1) := by decide +kernel
theorem dX11_join_60 : decode cX11_join 60 = .ok (.aload 4, 2) := by decide +kernel
theorem dX11_join_62 : decode cX11_join 62 = .ok (.ifnonnull 7, 3) := by decide +kernel
theorem dX11_join_65 : decode cX11_join 65 = .ok (.iconst 3, 1) := by decide +kernel
theorem dX11_join_66 : decode cX11_join 66 = .ok (.goto 4, 3) := by decide +kernel
theorem dX11_join_69 : decode cX11_join 69 = .ok (.iconst 4, 1) := by decide +kernel
theorem dX11_join_70 : decode cX11_join 70 = .ok (.invokevirtual 102, 3) := by decide +kernel
theorem dX11_join_73 : decode cX11_join 73 = .ok (.ireturn, 1) := by decide +kernel
theorem dX11_join_74 : decode cX11_join 74 = .ok (.aload_n 0, 1) := by decide +kernel
theorem dX11_join_75 : decode cX11_join 75 = .ok (.getfield 30, 3) := by decide +kernel
theorem dX11_join_78 : decode cX11_join 78 = .ok (.invokevirtual 118, 3) := by decide +kernel
theorem dX11_join_81 : decode cX11_join 81 = .ok (.ifCond .eq 10, 3) := by decide +kernel
theorem dX11_join_84 : decode cX11_join 84 = .ok (.aload_n 0, 1) := by decide +kernel
theorem dX11_join_85 : decode cX11_join 85 = .ok (.bipush 6, 2) := by decide +kernel
theorem dX11_join_87 : decode cX11_join 87 = .ok (.invokevirtual 102, 3) := by decide +kernel
theorem dX11_join_90 : decode cX11_join 90 = .ok (.ireturn, 1) := by decide +kernel
theorem dX11_join_91 : decode cX11_join 91 = .ok (.aload_n 0, 1) := by decide +kernel
theorem dX11_join_92 : decode cX11_join 92 = .ok (.aload_n 0, 1) := by decide +kernel
theorem dX11_join_93 : decode cX11_join 93 = .ok (.getfield 30, 3) := by decide +kernel
theorem dX11_join_96 : decode cX11_join 96 = .ok (.new 122, 3) := by decide +kernel
theorem dX11_join_99 : decode cX11_join 99 = .ok (.dup, 1) := by decide +kernel
theorem dX11_join_100 : decode cX11_join 100 = .ok (.iconst 5, 1) := by decide +kernel
theorem dX11_join_101 : decode cX11_join 101 = .ok (.aload_n 3, 1) := by decide +kernel
theorem dX11_join_102 : decode cX11_join 102 = .ok (.getfield 138, 3) := by decide +kernel
theorem dX11_join_105 : decode cX11_join 105 = .ok (.aload 4, 2) := by decide +kernel
theorem dX11_join_107 : decode cX11_join 107 = .ok (.getfield 138, 3) := by decide +kernel
theorem dX11_join_110 : decode cX11_join 110 = .ok (.invokestatic 141, 3) := by decide +kernel
theorem dX11_join_113 : decode cX11_join 113 = .ok (.aload_n 3, 1) := by decide +kernel
theorem dX11_join_114 : decode cX11_join 114 = .ok (.aload 4, 2) := by decide +kernel
theorem dX11_join_116 : decode cX11_join 116 = .ok (.invokespecial 124, 3) := by decide +kernel
theorem dX11_join_119 : decode cX11_join 119 = .ok (.invokevirtual 127, 3) := by decide +kernel
theorem dX11_join_122 : decode cX11_join 122 = .ok (.invokevirtual 109, 3) := by decide +kernel
theorem dX11_join_125 : decode cX11_join 125 = .ok (.ireturn, 1) := by decide +kernel
theorem dX11_drop_0 : decode cX11_drop 0 = .ok (.aload_n 0, 1) := by decide +kernel
theorem dX11_drop_1 : decode cX11_drop 1 = .ok (.getfield 30, 3) := by decide +kernel
theorem dX11_drop_4 : decode cX11_drop 4 = .ok (.iload_n 1, 1) := by decide +kernel
theorem dX11_drop_5 : decode cX11_drop 5 = .ok (.invokevirtual 131, 3) := by decide +kernel
theorem dX11_drop_8 : decode cX11_drop 8 = .ok (.astore_n 2, 1) := by decide +kernel
theorem dX11_drop_9 : decode cX11_drop 9 = .ok (.aload_n 2, 1) := by decide +kernel
theorem dX11_drop_10 : decode cX11_drop 10 = .ok (.ifnonnull 9, 3) := by decide +kernel
theorem dX11_drop_13 : decode cX11_drop 13 = .ok (.aload_n 0, 1) := by decide +kernel
theorem dX11_drop_14 : decode cX11_drop 14 = .ok (.iconst 3, 1) := by decide +kernel
theorem dX11_drop_15 : decode cX11_drop 15 = .ok (.invokevirtual 102, 3) := by decide +kernel
theorem dX11_drop_18 : decode cX11_drop 18 = .ok (.ireturn, 1) := by decide +kernel
theorem dX11_drop_19 : decode cX11_drop 19 = .ok (.aload_n 0, 1) := by decide +kernel
theorem dX11_drop_20 : decode cX11_drop 20 = .ok (.getfield 30, 3) := by decide +kernel
theorem dX11_drop_23 : decode cX11_drop 23 = .ok (.new 147, 3) := by decide +kernel
theorem dX11_drop_26 : decode cX11_drop 26 = .ok (.dup, 1) := by decide +kernel
theorem dX11_drop_27 : decode cX11_drop 27 = .ok (.iconst 1, 1) := by decide +kernel
theorem dX11_drop_28 : decode cX11_drop 28 = .ok (.aload_n 2, 1) := by decide +kernel
theorem dX11_drop_29 : decode cX11_drop 29 = .ok (.aconst_null, 1) := by decide +kernel
theorem dX11_drop_30 : decode cX11_drop 30 = .ok (.iconst 0, 1) := by decide +kernel
theorem dX11_drop_31 : decode cX11_drop 31 = .ok (.invokespecial 149, 3) := by decide +kernel
theorem dX11_drop_34 : decode cX11_drop 34 = .ok (.invokevirtual 152, 3) := by decide +kernel
theorem dX11_drop_37 : decode cX11_drop 37 = .ok (.aload_n 2, 1) := by decide +kernel
theorem dX11_drop_38 : decode cX11_drop 38 = .ok (.iconst 1, 1) := by decide +kernel
theorem dX11_drop_39 : decode cX11_drop 39 = .ok (.putfield 156, 3) := by decide +kernel
theorem dX11_drop_42 : decode cX11_drop 42 = .ok (.aload_n 0, 1) := by decide +kernel
theorem dX11_drop_43 : decode cX11_drop 43 = .ok (.iconst 1, 1) := by decide +kernel
theorem dX11_drop_44 : decode cX11_drop 44 = .ok (.invokevirtual 109, 3) := by decide +kernel
theorem dX11_drop_47 : decode cX11_drop 47 = .ok (.ireturn, 1) := by decide +kernel
theorem dX11_rule_0 : decode cX11_rule 0 = .ok (.aload_n 0, 1) := by decide +kernel
theorem dX11_rule_1 : decode cX11_rule 1 = .ok (.iload_n 1, 1) := by decide +kernel
theorem dX11_rule_2 : decode cX11_rule 2 = .ok (.iload_n 2, 1) := by decide +kernel
theorem dX11_rule_3 : decode cX11_rule 3 = .ok (.iload_n 3, 1) := by decide +kernel
theorem dX11_rule_4 : decode cX11_rule 4 = .ok (.invokevirtual 160, 3) := by decide +kernel
theorem dX11_rule_7 : decode cX11_rule 7 = .ok (.istore 4, 2) := by decide +kernel
theorem dX11_rule_9 : decode cX11_rule 9 = .ok (.aload_n 0, 1) := by decide +kernel
theorem dX11_rule_10 : decode cX11_rule 10 = .ok (.getfield 14, 3) := by decide +kernel
theorem dX11_rule_13 : decode cX11_rule 13 = .ok (.invokevirtual 164, 3) := by decide +kernel
theorem dX11_rule_16 : decode cX11_rule 16 = .ok (.iload 4, 2) := by decide +kernel
theorem dX11_rule_18 : decode cX11_rule 18 = .ok (.ireturn, 1) := by decide +kernel
theorem dX11_addRule_0 : decode cX11_addRule 0 = .ok (.aload_n 0, 1) := by decide +kernel
theorem dX11_addRule_1 : decode cX11_addRule 1 = .ok (.getfield 30, 3) := by decide +kernel
theorem dX11_addRule_4 : decode cX11_addRule 4 = .ok (.iload_n 1, 1) := by decide +kernel
theorem dX11_addRule_5 : decode cX11_addRule 5 = .ok (.invokevirtual 131, 3) := by decide +kernel
theorem dX11_addRule_8 : decode cX11_addRule 8 = .ok (.astore 4, 2) := by decide +kernel
theorem dX11_addRule_10 : decode cX11_addRule 10 = .ok (.aload 4, 2) := by decide +kernel
theorem dX11_addRule_12 : decode cX11_addRule 12 = .ok (.ifnonnull 9, 3) := by decide +kernel
theorem dX11_addRule_15 : decode cX11_addRule 15 = .ok (.aload_n 0, 1) := by decide +kernel
theorem dX11_addRule_16 : decode cX11_addRule 16 = .ok (.iconst 3, 1) := by decide +kernel
theorem dX11_addRule_17 : decode cX11_addRule 17 = .ok (.invokevirtual 102, 3) := by decide +kernel
theorem dX11_addRule_20 : decode cX11_addRule 20 = .ok (.ireturn, 1) := by decide +kernel
theorem dX11_addRule_21 : decode cX11_addRule 21 = .ok (.aload 4, 2) := by decide +kernel
theorem dX11_addRule_23 : decode cX11_addRule 23 = .ok (.getfield 135, 3) := by decide +kernel
theorem dX11_addRule_26 : decode cX11_addRule 26 = .ok (.iconst 5, 1) := by decide +kernel
theorem dX11_addRule_27 : decode cX11_addRule 27 = .ok (.if_icmp .ne 9, 3) := by decide +kernel
theorem dX11_addRule_30 : decode cX11_addRule 30 = .ok (.aload_n 0, 1) := by decide +kernel
theorem dX11_addRule_31 : decode cX11_addRule 31 = .ok (.iconst 4, 1) := by decide +kernel
theorem dX11_addRule_32 : decode cX11_addRule 32 = .ok (.invokevirtual 102, 3) := by decide +kernel
theorem dX11_addRule_35 : decode cX11_addRule 35 = .ok (.ireturn, 1) := by decide +kernel
theorem dX11_addRule_36 : decode cX11_addRule 36 = .ok (.iload_n 3, 1) := by decide +kernel
theorem dX11_addRule_37 : decode cX11_addRule 37 = .ok (.ifCond .ge 9, 3) := by decide +kernel
theorem dX11_addRule_40 : decode cX11_addRule 40 = .ok (.aload_n 0, 1) := by decide +kernel
theorem dX11_addRule_41 : decode cX11_addRule 41 = .ok (.iconst 5, 1) := by decide +kernel
theorem dX11_addRule_42 : decode cX11_addRule 42 = .ok (.invokevirtual 102, 3) := by decide +kernel
theorem dX11_addRule_45 : decode cX11_addRule 45 = .ok (.ireturn, 1) := by decide +kernel
theorem dX11_addRule_46 : decode cX11_addRule 46 = .ok (.iload_n 2, 1) := by decide +kernel
theorem dX11_addRule_47 : decode cX11_addRule 47 = .ok (.invokestatic 167, 3) := by decide +kernel
theorem dX11_addRule_50 : decode cX11_addRule 50 = .ok (.ifCond .eq 68, 3) := by decide +kernel
theorem dX11_addRule_53 : decode cX11_addRule 53 = .ok (.iload_n 3, 1) := by decide +kernel
theorem dX11_addRule_54 : decode cX11_addRule 54 = .ok (.iconst 1, 1) := by decide +kernel
theorem dX11_addRule_55 : decode cX11_addRule 55 = .ok (.if_icmp .lt 63, 3) := by decide +kernel
theorem dX11_addRule_58 : decode cX11_addRule 58 = .ok (.iload_n 3, 1) := by decide +kernel
theorem dX11_addRule_59 : decode cX11_addRule 59 = .ok (.bipush 8, 2) := by decide +kernel
theorem dX11_addRule_61 : decode cX11_addRule 61 = .ok (.if_icmp .gt 57, 3) := by decide +kernel
theorem dX11_addRule_64 : decode cX11_addRule 64 = .ok (.iload_n 3, 1) := by decide +kernel
theorem dX11_addRule_65 : decode cX11_addRule 65 = .ok (.aload_n 0, 1) := by decide +kernel
theorem dX11_addRule_66 : decode cX11_addRule 66 = .ok (.getfield 14, 3) := by decide +kernel
theorem dX11_addRule_69 : decode cX11_addRule 69 = .ok (.getfield 99, 3) := by decide +kernel
theorem dX11_addRule_72 : decode cX11_addRule 72 = .ok (.if_icmp .ge 46, 3) := by decide +kernel
theorem dX11_addRule_75 : decode cX11_addRule 75 = .ok (.aload_n 0, 1) := by decide +kernel
theorem dX11_addRule_76 : decode cX11_addRule 76 = .ok (.getfield 14, 3) := by decide +kernel
theorem dX11_addRule_79 : decode cX11_addRule 79 = .ok (.iconst 0, 1) := by decide +kernel
theorem dX11_addRule_80 : decode cX11_addRule 80 = .ok (.iload_n 3, 1) := by decide +kernel
theorem dX11_addRule_81 : decode cX11_addRule 81 = .ok (.bipush 33, 2) := by decide +kernel
theorem dX11_addRule_83 : decode cX11_addRule 83 = .ok (.bipush 125, 2) := by decide +kernel
theorem dX11_addRule_85 : decode cX11_addRule 85 = .ok (.invokevirtual 171, 3) := by decide +kernel
theorem dX11_addRule_88 : decode cX11_addRule 88 = .ok (.ifCond .eq 30, 3) := by decide +kernel
theorem dX11_addRule_91 : decode cX11_addRule 91 = .ok (.aload_n 0, 1) := by decide +kernel
theorem dX11_addRule_92 : decode cX11_addRule 92 = .ok (.iload_n 3, 1) := by decide +kernel
theorem dX11_addRule_93 : decode cX11_addRule 93 = .ok (.aload 4, 2) := by decide +kernel
theorem dX11_addRule_95 : decode cX11_addRule 95 = .ok (.getfield 138, 3) := by decide +kernel
theorem dX11_addRule_98 : decode cX11_addRule 98 = .ok (.invokevirtual 175, 3) := by decide +kernel
theorem dX11_addRule_101 : decode cX11_addRule 101 = .ok (.ifCond .eq 17, 3) := by decide +kernel
theorem dX11_addRule_104 : decode cX11_addRule 104 = .ok (.aload 4, 2) := by decide +kernel
theorem dX11_addRule_106 : decode cX11_addRule 106 = .ok (.getfield 179, 3) := by decide +kernel
theorem dX11_addRule_109 : decode cX11_addRule 109 = .ok (.invokevirtual 183, 3) := by decide +kernel
theorem dX11_addRule_112 : decode cX11_addRule 112 = .ok (.sipush 200, 3) := by decide +kernel
theorem dX11_addRule_115 : decode cX11_addRule 115 = .ok (.if_icmp .lt 10, 3) := by decide +kernel
theorem dX11_addRule_118 : decode cX11_addRule 118 = .ok (.aload_n 0, 1) := by decide +kernel
theorem dX11_addRule_119 : decode cX11_addRule 119 = .ok (.bipush 6, 2) := by decide +kernel
theorem dX11_addRule_121 : decode cX11_addRule 121 = .ok (.invokevirtual 102, 3) := by decide +kernel
theorem dX11_addRule_124 : decode cX11_addRule 124 = .ok (.ireturn, 1) := by decide +kernel
theorem dX11_addRule_125 : decode cX11_addRule 125 = .ok (.new 188, 3) := by decide +kernel
theorem dX11_addRule_128 : decode cX11_addRule 128 = .ok (.dup, 1) := by decide +kernel
theorem dX11_addRule_129 : decode cX11_addRule 129 = .ok (.iconst 4, 1) := by decide +kernel
theorem dX11_addRule_130 : decode cX11_addRule 130 = .ok (.aload_n 0, 1) := by decide +kernel
theorem dX11_addRule_131 : decode cX11_addRule 131 = .ok (.getfield 14, 3) := by decide +kernel
theorem dX11_addRule_134 : decode cX11_addRule 134 = .ok (.iconst 0, 1) := by decide +kernel
theorem dX11_addRule_135 : decode cX11_addRule 135 = .ok (.iload_n 3, 1) := by decide +kernel
theorem dX11_addRule_136 : decode cX11_addRule 136 = .ok (.invokevirtual 190, 3) := by decide +kernel
theorem dX11_addRule_139 : decode cX11_addRule 139 = .ok (.aload_n 0, 1) := by decide +kernel
theorem dX11_addRule_140 : decode cX11_addRule 140 = .ok (.getfield 14, 3) := by decide +kernel
theorem dX11_addRule_143 : decode cX11_addRule 143 = .ok (.iload_n 3, 1) := by decide +kernel
theorem dX11_addRule_144 : decode cX11_addRule 144 = .ok (.aload_n 0, 1) := by decide +kernel
theorem dX11_addRule_145 : decode cX11_addRule 145 = .ok (.getfield 14, 3) := by decide +kernel
theorem dX11_addRule_148 : decode cX11_addRule 148 = .ok (.getfield 99, 3) := by decide +kernel
theorem dX11_addRule_151 : decode cX11_addRule 151 = .ok (.invokevirtual 190, 3) := by decide +kernel
theorem dX11_addRule_154 : decode cX11_addRule 154 = .ok (.invokespecial 194, 3) := by decide +kernel
theorem dX11_addRule_157 : decode cX11_addRule 157 = .ok (.astore 5, 2) := by decide +kernel
theorem dX11_addRule_159 : decode cX11_addRule 159 = .ok (.aload 5, 2) := by decide +kernel
theorem dX11_addRule_161 : decode cX11_addRule 161 = .ok (.iload_n 2, 1) := by decide +kernel
theorem dX11_addRule_162 : decode cX11_addRule 162 = .ok (.putfield 197, 3) := by decide +kernel
theorem dX11_addRule_165 : decode cX11_addRule 165 = .ok (.aload 4, 2) := by decide +kernel
theorem dX11_addRule_167 : decode cX11_addRule 167 = .ok (.aload 5, 2) := by decide +kernel
theorem dX11_addRule_169 : decode cX11_addRule 169 = .ok (.invokevirtual 200, 3) := by decide +kernel
theorem dX11_addRule_172 : decode cX11_addRule 172 = .ok (.aload_n 0, 1) := by decide +kernel
theorem dX11_addRule_173 : decode cX11_addRule 173 = .ok (.getfield 30, 3) := by decide +kernel
theorem dX11_addRule_176 : decode cX11_addRule 176 = .ok (.new 147, 3) := by decide +kernel
theorem dX11_addRule_179 : decode cX11_addRule 179 = .ok (.dup, 1) := by decide +kernel
theorem dX11_addRule_180 : decode cX11_addRule 180 = .ok (.iconst 2, 1) := by decide +kernel
theorem dX11_addRule_181 : decode cX11_addRule 181 = .ok (.aload 4, 2) := by decide +kernel
theorem dX11_addRule_183 : decode cX11_addRule 183 = .ok (.aload 5, 2) := by decide +kernel
theorem dX11_addRule_185 : decode cX11_addRule 185 = .ok (.iconst 0, 1) := by decide +kernel
theorem dX11_addRule_186 : decode cX11_addRule 186 = .ok (.invokespecial 149, 3) := by decide +kernel
theorem dX11_addRule_189 : decode cX11_addRule 189 = .ok (.invokevirtual 152, 3) := by decide +kernel
theorem dX11_addRule_192 : decode cX11_addRule 192 = .ok (.aload_n 0, 1) := by decide +kernel
theorem dX11_addRule_193 : decode cX11_addRule 193 = .ok (.aload 4, 2) := by decide +kernel
theorem dX11_addRule_195 : decode cX11_addRule 195 = .ok (.getfield 179, 3) := by decide +kernel
theorem dX11_addRule_198 : decode cX11_addRule 198 = .ok (.invokevirtual 183, 3) := by decide +kernel
theorem dX11_addRule_201 : decode cX11_addRule 201 = .ok (.iconst 1, 1) := by decide +kernel
theorem dX11_addRule_202 : decode cX11_addRule 202 = .ok (.isub, 1) := by decide +kernel
theorem dX11_addRule_203 : decode cX11_addRule 203 = .ok (.invokevirtual 109, 3) := by decide +kernel
theorem dX11_addRule_206 : decode cX11_addRule 206 = .ok (.ireturn, 1) := by decide +kernel
theorem dX11_isCondition_0 : decode cX11_isCondition 0 = .ok (.iload_n 0, 1) := by decide +kernel
theorem dX11_isCondition_1 : decode cX11_isCondition 1 = .ok (.ifCond .lt 12, 3) := by decide +kernel
theorem dX11_isCondition_4 : decode cX11_isCondition 4 = .ok (.iload_n 0, 1) := by decide +kernel
theorem dX11_isCondition_5 : decode cX11_isCondition 5 = .ok (.iconst 5, 1) := by decide +kernel
theorem dX11_isCondition_6 : decode cX11_isCondition 6 = .ok (.if_icmp .gt 7, 3) := by decide +kernel
theorem dX11_isCondition_9 : decode cX11_isCondition 9 = .ok (.iconst 1, 1) := by decide +kernel
theorem dX11_isCondition_10 : decode cX11_isCondition 10 = .ok (.goto 4, 3) := by decide +kernel
theorem dX11_isCondition_13 : decode cX11_isCondition 13 = .ok (.iconst 0, 1) := by decide +kernel
theorem dX11_isCondition_14 : decode cX11_isCondition 14 = .ok (.ireturn, 1) := by decide +kernel
theorem dX11_isRowOfCells_0 : decode cX11_isRowOfCells 0 = .ok (.aload_n 0, 1) := by decide +kernel
theorem dX11_isRowOfCells_1 : decode cX11_isRowOfCells 1 = .ok (.getfield 14, 3) := by decide +kernel
theorem dX11_isRowOfCells_4 : decode cX11_isRowOfCells 4 = .ok (.getfield 99, 3) := by decide +kernel
theorem dX11_isRowOfCells_7 : decode cX11_isRowOfCells 7 = .ok (.iload_n 1, 1) := by decide +kernel
theorem dX11_isRowOfCells_8 : decode cX11_isRowOfCells 8 = .ok (.isub, 1) := by decide +kernel
theorem dX11_isRowOfCells_9 : decode cX11_isRowOfCells 9 = .ok (.iconst 4, 1) := by decide +kernel
theorem dX11_isRowOfCells_10 : decode cX11_isRowOfCells 10 = .ok (.if_icmp .gt 31, 3) := by decide +kernel
theorem dX11_isRowOfCells_13 : decode cX11_isRowOfCells 13 = .ok (.aload_n 0, 1) := by decide +kernel
theorem dX11_isRowOfCells_14 : decode cX11_isRowOfCells 14 = .ok (.getfield 14, 3) := by decide +kernel
theorem dX11_isRowOfCells_17 : decode cX11_isRowOfCells 17 = .ok (.iload_n 1, 1) := by decide +kernel
theorem dX11_isRowOfCells_18 : decode cX11_isRowOfCells 18 = .ok (.aload_n 0, 1) := by decide +kernel
theorem dX11_isRowOfCells_19 : decode cX11_isRowOfCells 19 = .ok (.getfield 14, 3) := by decide +kernel
theorem dX11_isRowOfCells_22 : decode cX11_isRowOfCells 22 = .ok (.getfield 99, 3) := by decide +kernel
theorem dX11_isRowOfCells_25 : decode cX11_isRowOfCells 25 = .ok (.iconst 1, 1) := by decide +kernel
theorem dX11_isRowOfCells_26 : decode cX11_isRowOfCells 26 = .ok (.iconst 1, 1) := by decide +kernel
theorem dX11_isRowOfCells_27 : decode cX11_isRowOfCells 27 = .ok (.iload_n 2, 1) := by decide +kernel
theorem dX11_isRowOfCells_28 : decode cX11_isRowOfCells 28 = .ok (.ishl, 1) := by decide +kernel
theorem dX11_isRowOfCells_29 : decode cX11_isRowOfCells 29 = .ok (.iconst 1, 1) := by decide +kernel
theorem dX11_isRowOfCells_30 : decode cX11_isRowOfCells 30 = .ok (.isub, 1) := by decide +kernel
theorem dX11_isRowOfCells_31 : decode cX11_isRowOfCells 31 = .ok (.invokevirtual 171, 3) := by decide +kernel
theorem dX11_isRowOfCells_34 : decode cX11_isRowOfCells 34 = .ok (.ifCond .eq 7, 3) := by decide +kernel
theorem dX11_isRowOfCells_37 : decode cX11_isRowOfCells 37 = .ok (.iconst 1, 1) := by decide +kernel
theorem dX11_isRowOfCells_38 : decode cX11_isRowOfCells 38 = .ok (.goto 4, 3) := by decide +kernel
theorem dX11_isRowOfCells_41 : decode cX11_isRowOfCells 41 = .ok (.iconst 0, 1) := by decide +kernel
theorem dX11_isRowOfCells_42 : decode cX11_isRowOfCells 42 = .ok (.ireturn, 1) := by decide +kernel
theorem dX11_condition_0 : decode cX11_condition 0 = .ok (.aload_n 0, 1) := by decide +kernel
theorem dX11_condition_1 : decode cX11_condition 1 = .ok (.getfield 30, 3) := by decide +kernel
theorem dX11_condition_4 : decode cX11_condition 4 = .ok (.iload_n 1, 1) := by decide +kernel
theorem dX11_condition_5 : decode cX11_condition 5 = .ok (.invokevirtual 131, 3) := by decide +kernel
theorem dX11_condition_8 : decode cX11_condition 8 = .ok (.astore 4, 2) := by decide +kernel
theorem dX11_condition_10 : decode cX11_condition 10 = .ok (.aload 4, 2) := by decide +kernel
theorem dX11_condition_12 : decode cX11_condition 12 = .ok (.ifnonnull 9, 3) := by decide +kernel
theorem dX11_condition_15 : decode cX11_condition 15 = .ok (.aload_n 0, 1) := by decide +kernel
theorem dX11_condition_16 : decode cX11_condition 16 = .ok (.iconst 3, 1) := by decide +kernel
theorem dX11_condition_17 : decode cX11_condition 17 = .ok (.invokevirtual 102, 3) := by decide +kernel
theorem dX11_condition_20 : decode cX11_condition 20 = .ok (.ireturn, 1) := by decide +kernel
theorem dX11_condition_21 : decode cX11_condition 21 = .ok (.aload 4, 2) := by decide +kernel
theorem dX11_condition_23 : decode cX11_condition 23 = .ok (.getfield 135, 3) := by decide +kernel
theorem dX11_condition_26 : decode cX11_condition 26 = .ok (.iconst 5, 1) := by decide +kernel
theorem dX11_condition_27 : decode cX11_condition 27 = .ok (.if_icmp .ne 9, 3) := by decide +kernel
theorem dX11_condition_30 : decode cX11_condition 30 = .ok (.aload_n 0, 1) := by decide +kernel
theorem dX11_condition_31 : decode cX11_condition 31 = .ok (.iconst 4, 1) := by decide +kernel
theorem dX11_condition_32 : decode cX11_condition 32 = .ok (.invokevirtual 102, 3) := by decide +kernel
theorem dX11_condition_35 : decode cX11_condition 35 = .ok (.ireturn, 1) := by decide +kernel
theorem dX11_condition_36 : decode cX11_condition 36 = .ok (.iload_n 2, 1) := by decide +kernel
theorem dX11_condition_37 : decode cX11_condition 37 = .ok (.ifCond .lt 15, 3) := by decide +kernel
theorem dX11_condition_40 : decode cX11_condition 40 = .ok (.iload_n 2, 1) := by decide +kernel
theorem dX11_condition_41 : decode cX11_condition 41 = .ok (.aload 4, 2) := by decide +kernel
theorem dX11_condition_43 : decode cX11_condition 43 = .ok (.getfield 179, 3) := by decide +kernel
theorem dX11_condition_46 : decode cX11_condition 46 = .ok (.invokevirtual 183, 3) := by decide +kernel
theorem dX11_condition_49 : decode cX11_condition 49 = .ok (.if_icmp .lt 9, 3) := by decide +kernel
theorem dX11_condition_52 : decode cX11_condition 52 = .ok (.aload_n 0, 1) := by decide +kernel
theorem dX11_condition_53 : decode cX11_condition 53 = .ok (.iconst 2, 1) := by decide +kernel
theorem dX11_condition_54 : decode cX11_condition 54 = .ok (.invokevirtual 102, 3) := by decide +kernel
theorem dX11_condition_57 : decode cX11_condition 57 = .ok (.ireturn, 1) := by decide +kernel
theorem dX11_condition_58 : decode cX11_condition 58 = .ok (.iload_n 3, 1) := by decide +kernel
theorem dX11_condition_59 : decode cX11_condition 59 = .ok (.invokestatic 167, 3) := by decide +kernel
theorem dX11_condition_62 : decode cX11_condition 62 = .ok (.ifCond .ne 10, 3) := by decide +kernel
theorem dX11_condition_65 : decode cX11_condition 65 = .ok (.aload_n 0, 1) := by decide +kernel
theorem dX11_condition_66 : decode cX11_condition 66 = .ok (.bipush 6, 2) := by decide +kernel
theorem dX11_condition_68 : decode cX11_condition 68 = .ok (.invokevirtual 102, 3) := by decide +kernel
theorem dX11_condition_71 : decode cX11_condition 71 = .ok (.ireturn, 1) := by decide +kernel
theorem dX11_condition_72 : decode cX11_condition 72 = .ok (.aload 4, 2) := by decide +kernel
theorem dX11_condition_74 : decode cX11_condition 74 = .ok (.getfield 179, 3) := by decide +kernel
theorem dX11_condition_77 : decode cX11_condition 77 = .ok (.iload_n 2, 1) := by decide +kernel
theorem dX11_condition_78 : decode cX11_condition 78 = .ok (.invokevirtual 204, 3) := by decide +kernel
theorem dX11_condition_81 : decode cX11_condition 81 = .ok (.checkcast 188, 3) := by decide +kernel
theorem dX11_condition_84 : decode cX11_condition 84 = .ok (.astore 5, 2) := by decide +kernel
theorem dX11_condition_86 : decode cX11_condition 86 = .ok (.aload 5, 2) := by decide +kernel
theorem dX11_condition_88 : decode cX11_condition 88 = .ok (.getfield 197, 3) := by decide +kernel
theorem dX11_condition_91 : decode cX11_condition 91 = .ok (.istore 6, 2) := by decide +kernel
theorem dX11_condition_93 : decode cX11_condition 93 = .ok (.aload_n 0, 1) := by decide +kernel
theorem dX11_condition_94 : decode cX11_condition 94 = .ok (.getfield 30, 3) := by decide +kernel
theorem dX11_condition_97 : decode cX11_condition 97 = .ok (.new 147, 3) := by decide +kernel
theorem dX11_condition_100 : decode cX11_condition 100 = .ok (.dup, 1) := by decide +kernel
theorem dX11_condition_101 : decode cX11_condition 101 = .ok (.iconst 3, 1) := by decide +kernel
theorem dX11_condition_102 : decode cX11_condition 102 = .ok (.aload 4, 2) := by decide +kernel
theorem dX11_condition_104 : decode cX11_condition 104 = .ok (.aload 5, 2) := by decide +kernel
theorem dX11_condition_106 : decode cX11_condition 106 = .ok (.iload 6, 2) := by decide +kernel
theorem dX11_condition_108 : decode cX11_condition 108 = .ok (.invokespecial 149, 3) := by decide +kernel
theorem dX11_condition_111 : decode cX11_condition 111 = .ok (.invokevirtual 152, 3) := by decide +kernel
theorem dX11_condition_114 : decode cX11_condition 114 = .ok (.aload 5, 2) := by decide +kernel
theorem dX11_condition_116 : decode cX11_condition 116 = .ok (.iload_n 3, 1) := by decide +kernel
theorem dX11_condition_117 : decode cX11_condition 117 = .ok (.putfield 197, 3) := by decide +kernel
theorem dX11_condition_120 : decode cX11_condition 120 = .ok (.aload_n 0, 1) := by decide +kernel
theorem dX11_condition_121 : decode cX11_condition 121 = .ok (.iload 6, 2) := by decide +kernel
theorem dX11_condition_123 : decode cX11_condition 123 = .ok (.invokevirtual 109, 3) := by decide +kernel
theorem dX11_condition_126 : decode cX11_condition 126 = .ok (.ireturn, 1) := by decide +kernel
theorem dX11_indicator_0 : decode cX11_indicator 0 = .ok (.aload_n 0, 1) := by decide +kernel
theorem dX11_indicator_1 : decode cX11_indicator 1 = .ok (.iload_n 1, 1) := by decide +kernel
theorem dX11_indicator_2 : decode cX11_indicator 2 = .ok (.iload_n 2, 1) := by decide +kernel
theorem dX11_indicator_3 : decode cX11_indicator 3 = .ok (.invokevirtual 208, 3) := by decide +kernel
theorem dX11_indicator_6 : decode cX11_indicator 6 = .ok (.istore_n 3, 1) := by decide +kernel
theorem dX11_indicator_7 : decode cX11_indicator 7 = .ok (.aload_n 0, 1) := by decide +kernel
theorem dX11_indicator_8 : decode cX11_indicator 8 = .ok (.getfield 14, 3) := by decide +kernel
theorem dX11_indicator_11 : decode cX11_indicator 11 = .ok (.invokevirtual 164, 3) := by decide +kernel
theorem dX11_indicator_14 : decode cX11_indicator 14 = .ok (.iload_n 3, 1) := by decide +kernel
theorem dX11_indicator_15 : decode cX11_indicator 15 = .ok (.ireturn, 1) := by decide +kernel
theorem dX11_changeIndicator_0 : decode cX11_changeIndicator 0 = .ok (.iload_n 2, 1) := by decide +kernel
theorem dX11_changeIndicator_1 : decode cX11_changeIndicator 1 = .ok (.ifCond .lt 8, 3) := by decide +kernel
theorem dX11_changeIndicator_4 : decode cX11_changeIndicator 4 = .ok (.iload_n 2, 1) := by decide +kernel
theorem dX11_changeIndicator_5 : decode cX11_changeIndicator 5 = .ok (.iconst 3, 1) := by decide +kernel
theorem dX11_changeIndicator_6 : decode cX11_changeIndicator 6 = .ok (.if_icmp .le 10, 3) := by decide +kernel
theorem dX11_changeIndicator_9 : decode cX11_changeIndicator 9 = .ok (.aload_n 0, 1) := by decide +kernel
theorem dX11_changeIndicator_10 : decode cX11_changeIndicator 10 = .ok (.bipush 6, 2) := by decide +kernel
theorem dX11_changeIndicator_12 : decode cX11_changeIndicator 12 = .ok (.invokevirtual 102, 3) := by decide +kernel
theorem dX11_changeIndicator_15 : decode cX11_changeIndicator 15 = .ok (.ireturn, 1) := by decide +kernel
theorem dX11_changeIndicator_16 : decode cX11_changeIndicator 16 = .ok (.aload_n 0, 1) := by decide +kernel
theorem dX11_changeIndicator_17 : decode cX11_changeIndicator 17 = .ok (.getfield 30, 3) := by decide +kernel
theorem dX11_changeIndicator_20 : decode cX11_changeIndicator 20 = .ok (.iload_n 1, 1) := by decide +kernel
theorem dX11_changeIndicator_21 : decode cX11_changeIndicator 21 = .ok (.invokevirtual 131, 3) := by decide +kernel
theorem dX11_changeIndicator_24 : decode cX11_changeIndicator 24 = .ok (.astore_n 3, 1) := by decide +kernel
theorem dX11_changeIndicator_25 : decode cX11_changeIndicator 25 = .ok (.aload_n 3, 1) := by decide +kernel
theorem dX11_changeIndicator_26 : decode cX11_changeIndicator 26 = .ok (.ifnonnull 9, 3) := by decide +kernel
theorem dX11_changeIndicator_29 : decode cX11_changeIndicator 29 = .ok (.aload_n 0, 1) := by decide +kernel
theorem dX11_changeIndicator_30 : decode cX11_changeIndicator 30 = .ok (.iconst 3, 1) := by decide +kernel
theorem dX11_changeIndicator_31 : decode cX11_changeIndicator 31 = .ok (.invokevirtual 102, 3) := by decide +kernel
theorem dX11_changeIndicator_34 : decode cX11_changeIndicator 34 = .ok (.ireturn, 1) := by decide +kernel
theorem dX11_changeIndicator_35 : decode cX11_changeIndicator 35 = .ok (.aload_n 3, 1) := by decide +kernel
theorem dX11_changeIndicator_36 : decode cX11_changeIndicator 36 = .ok (.iload_n 2, 1) := by decide +kernel
theorem dX11_changeIndicator_37 : decode cX11_changeIndicator 37 = .ok (.invokevirtual 211, 3) := by decide +kernel
theorem dX11_changeIndicator_40 : decode cX11_changeIndicator 40 = .ok (.ifCond .ne 9, 3) := by decide +kernel
theorem dX11_changeIndicator_43 : decode cX11_changeIndicator 43 = .ok (.aload_n 0, 1) := by decide +kernel
theorem dX11_changeIndicator_44 : decode cX11_changeIndicator 44 = .ok (.iconst 4, 1) := by decide +kernel
theorem dX11_changeIndicator_45 : decode cX11_changeIndicator 45 = .ok (.invokevirtual 102, 3) := by decide +kernel
theorem dX11_changeIndicator_48 : decode cX11_changeIndicator 48 = .ok (.ireturn, 1) := by decide +kernel
theorem dX11_changeIndicator_49 : decode cX11_changeIndicator 49 = .ok (.aload_n 0, 1) := by decide +kernel
theorem dX11_changeIndicator_50 : decode cX11_changeIndicator 50 = .ok (.iconst 0, 1) := by decide +kernel
theorem dX11_changeIndicator_51 : decode cX11_changeIndicator 51 = .ok (.aload_n 3, 1) := by decide +kernel
theorem dX11_changeIndicator_52 : decode cX11_changeIndicator 52 = .ok (.getfield 138, 3) := by decide +kernel
theorem dX11_changeIndicator_55 : decode cX11_changeIndicator 55 = .ok (.invokevirtual 175, 3) := by decide +kernel
theorem dX11_changeIndicator_58 : decode cX11_changeIndicator 58 = .ok (.ifCond .ne 10, 3) := by decide +kernel
theorem dX11_changeIndicator_61 : decode cX11_changeIndicator 61 = .ok (.aload_n 0, 1) := by decide +kernel
theorem dX11_changeIndicator_62 : decode cX11_changeIndicator 62 = .ok (.bipush 6, 2) := by decide +kernel
theorem dX11_changeIndicator_64 : decode cX11_changeIndicator 64 = .ok (.invokevirtual 102, 3) := by decide +kernel
theorem dX11_changeIndicator_67 : decode cX11_changeIndicator 67 = .ok (.ireturn, 1) := by decide +kernel
theorem dX11_changeIndicator_68 : decode cX11_changeIndicator 68 = .ok (.aload_n 0, 1) := by decide +kernel
theorem dX11_changeIndicator_69 : decode cX11_changeIndicator 69 = .ok (.getfield 30, 3) := by decide +kernel
theorem dX11_changeIndicator_72 : decode cX11_changeIndicator 72 = .ok (.new 147, 3) := by decide +kernel
theorem dX11_changeIndicator_75 : decode cX11_changeIndicator 75 = .ok (.dup, 1) := by decide +kernel
theorem dX11_changeIndicator_76 : decode cX11_changeIndicator 76 = .ok (.iconst 4, 1) := by decide +kernel
theorem dX11_changeIndicator_77 : decode cX11_changeIndicator 77 = .ok (.aload_n 3, 1) := by decide +kernel
theorem dX11_changeIndicator_78 : decode cX11_changeIndicator 78 = .ok (.aload_n 3, 1) := by decide +kernel
theorem dX11_changeIndicator_79 : decode cX11_changeIndicator 79 = .ok (.getfield 214, 3) := by decide +kernel
theorem dX11_changeIndicator_82 : decode cX11_changeIndicator 82 = .ok (.iload_n 2, 1) := by decide +kernel
theorem dX11_changeIndicator_83 : decode cX11_changeIndicator 83 = .ok (.aaload, 1) := by decide +kernel
theorem dX11_changeIndicator_84 : decode cX11_changeIndicator 84 = .ok (.iload_n 2, 1) := by decide +kernel
theorem dX11_changeIndicator_85 : decode cX11_changeIndicator 85 = .ok (.invokespecial 149, 3) := by decide +kernel
theorem dX11_changeIndicator_88 : decode cX11_changeIndicator 88 = .ok (.invokevirtual 152, 3) := by decide +kernel
theorem dX11_changeIndicator_91 : decode cX11_changeIndicator 91 = .ok (.aload_n 3, 1) := by decide +kernel
theorem dX11_changeIndicator_92 : decode cX11_changeIndicator 92 = .ok (.getfield 214, 3) := by decide +kernel
theorem dX11_changeIndicator_95 : decode cX11_changeIndicator 95 = .ok (.iload_n 2, 1) := by decide +kernel
theorem dX11_changeIndicator_96 : decode cX11_changeIndicator 96 = .ok (.aload_n 0, 1) := by decide +kernel
theorem dX11_changeIndicator_97 : decode cX11_changeIndicator 97 = .ok (.getfield 14, 3) := by decide +kernel
theorem dX11_changeIndicator_100 : decode cX11_changeIndicator 100 = .ok (.getfield 99, 3) := by decide +kernel
theorem dX11_changeIndicator_103 : decode cX11_changeIndicator 103 = .ok (.ifCond .ne 7, 3) := by decide +kernel
theorem dX11_changeIndicator_106 : decode cX11_changeIndicator 106 = .ok (.aconst_null, 1) := by decide +kernel
theorem dX11_changeIndicator_107 : decode cX11_changeIndicator 107 = .ok (.goto 35, 3) := by decide +kernel
theorem dX11_changeIndicator_110 : decode cX11_changeIndicator 110 = .ok (.new 188, 3) := by decide +kernel
theorem dX11_changeIndicator_113 : decode cX11_changeIndicator 113 = .ok (.dup, 1) := by decide +kernel
theorem dX11_changeIndicator_114 : decode cX11_changeIndicator 114 = .ok (.iload_n 2, 1) := by decide +kernel
theorem dX11_changeIndicator_115 : decode cX11_changeIndicator 115 = .ok (.aload_n 0, 1) := by decide +kernel
theorem dX11_changeIndicator_116 : decode cX11_changeIndicator 116 = .ok (.getfield 14, 3) := by decide +kernel
theorem dX11_changeIndicator_119 : decode cX11_changeIndicator 119 = .ok (.iconst 0, 1) := by decide +kernel
theorem dX11_changeIndicator_120 : decode cX11_changeIndicator 120 = .ok (.iconst 0, 1) := by decide +kernel
theorem dX11_changeIndicator_121 : decode cX11_changeIndicator 121 = .ok (.invokevirtual 190, 3) := by decide +kernel
theorem dX11_changeIndicator_124 : decode cX11_changeIndicator 124 = .ok (.aload_n 0, 1) := by decide +kernel
theorem dX11_changeIndicator_125 : decode cX11_changeIndicator 125 = .ok (.getfield 14, 3) := by decide +kernel
theorem dX11_changeIndicator_128 : decode cX11_changeIndicator 128 = .ok (.iconst 0, 1) := by decide +kernel
theorem dX11_changeIndicator_129 : decode cX11_changeIndicator 129 = .ok (.aload_n 0, 1) := by decide +kernel
theorem dX11_changeIndicator_130 : decode cX11_changeIndicator 130 = .ok (.getfield 14, 3) := by decide +kernel
theorem dX11_changeIndicator_133 : decode cX11_changeIndicator 133 = .ok (.getfield 99, 3) := by decide +kernel
theorem dX11_changeIndicator_136 : decode cX11_changeIndicator 136 = .ok (.invokevirtual 190, 3) := by decide +kernel
theorem dX11_changeIndicator_139 : decode cX11_changeIndicator 139 = .ok (.invokespecial 194, 3) := by decide +kernel
theorem dX11_changeIndicator_142 : decode cX11_changeIndicator 142 = .ok (.aastore, 1) := by decide +kernel
theorem dX11_changeIndicator_143 : decode cX11_changeIndicator 143 = .ok (.aload_n 0, 1) := by decide +kernel
theorem dX11_changeIndicator_144 : decode cX11_changeIndicator 144 = .ok (.aload_n 0, 1) := by decide +kernel
theorem dX11_changeIndicator_145 : decode cX11_changeIndicator 145 = .ok (.getfield 14, 3) := by decide +kernel
theorem dX11_changeIndicator_148 : decode cX11_changeIndicator 148 = .ok (.getfield 99, 3) := by decide +kernel
theorem dX11_changeIndicator_151 : decode cX11_changeIndicator 151 = .ok (.invokevirtual 109, 3) := by decide +kernel
theorem dX11_changeIndicator_154 : decode cX11_changeIndicator 154 = .ok (.ireturn, 1) := by decide +kernel
theorem dX11_undo_0 : decode cX11_undo 0 = .ok (.aload_n 0, 1) := by decide +kernel
theorem dX11_undo_1 : decode cX11_undo 1 = .ok (.aload_n 0, 1) := by decide +kernel
theorem dX11_undo_2 : decode cX11_undo 2 = .ok (.getfield 30, 3) := by decide +kernel
theorem dX11_undo_5 : decode cX11_undo 5 = .ok (.invokevirtual 218, 3) := by decide +kernel
theorem dX11_undo_8 : decode cX11_undo 8 = .ok (.ifCond .eq 7, 3) := by decide +kernel
theorem dX11_undo_11 : decode cX11_undo 11 = .ok (.iconst 1, 1) := by decide +kernel
theorem dX11_undo_12 : decode cX11_undo 12 = .ok (.goto 4, 3) := by decide +kernel
theorem dX11_undo_15 : decode cX11_undo 15 = .ok (.iconst 0, 1) := by decide +kernel
theorem dX11_undo_16 : decode cX11_undo 16 = .ok (.invokevirtual 109, 3) := by decide +kernel
theorem dX11_undo_19 : decode cX11_undo 19 = .ok (.ireturn, 1) := by decide +kernel
theorem dX11_text_0 : decode cX11_text 0 = .ok (.aload_n 0, 1) := by decide +kernel
theorem dX11_text_1 : decode cX11_text 1 = .ok (.invokevirtual 221, 3) := by decide +kernel
theorem dX11_text_4 : decode cX11_text 4 = .ok (.istore_n 1, 1) := by decide +kernel
theorem dX11_text_5 : decode cX11_text 5 = .ok (.aload_n 0, 1) := by decide +kernel
theorem dX11_text_6 : decode cX11_text 6 = .ok (.getfield 14, 3) := by decide +kernel
theorem dX11_text_9 : decode cX11_text 9 = .ok (.invokevirtual 164, 3) := by decide +kernel
theorem dX11_text_12 : decode cX11_text 12 = .ok (.iload_n 1, 1) := by decide +kernel
theorem dX11_text_13 : decode cX11_text 13 = .ok (.ireturn, 1) := by decide +kernel
theorem dX11_addText_0 : decode cX11_addText 0 = .ok (.iconst 0, 1) := by decide +kernel
theorem dX11_addText_1 : decode cX11_addText 1 = .ok (.istore_n 1, 1) := by decide +kernel
theorem dX11_addText_2 : decode cX11_addText 2 = .ok (.iload_n 1, 1) := by decide +kernel
theorem dX11_addText_3 : decode cX11_addText 3 = .ok (.aload_n 0, 1) := by decide +kernel
theorem dX11_addText_4 : decode cX11_addText 4 = .ok (.getfield 14, 3) := by decide +kernel
theorem dX11_addText_7 : decode cX11_addText 7 = .ok (.getfield 99, 3) := by decide +kernel
theorem dX11_addText_10 : decode cX11_addText 10 = .ok (.if_icmp .ge 43, 3) := by decide +kernel
theorem dX11_addText_13 : decode cX11_addText 13 = .ok (.aload_n 0, 1) := by decide +kernel
theorem dX11_addText_14 : decode cX11_addText 14 = .ok (.getfield 14, 3) := by decide +kernel
theorem dX11_addText_17 : decode cX11_addText 17 = .ok (.iload_n 1, 1) := by decide +kernel
theorem dX11_addText_18 : decode cX11_addText 18 = .ok (.invokevirtual 224, 3) := by decide +kernel
theorem dX11_addText_21 : decode cX11_addText 21 = .ok (.istore_n 2, 1) := by decide +kernel
theorem dX11_addText_22 : decode cX11_addText 22 = .ok (.iload_n 2, 1) := by decide +kernel
theorem dX11_addText_23 : decode cX11_addText 23 = .ok (.bipush 10, 2) := by decide +kernel
theorem dX11_addText_25 : decode cX11_addText 25 = .ok (.if_icmp .eq 22, 3) := by decide +kernel
theorem dX11_addText_28 : decode cX11_addText 28 = .ok (.iload_n 2, 1) := by decide +kernel
theorem dX11_addText_29 : decode cX11_addText 29 = .ok (.bipush 32, 2) := by decide +kernel
theorem dX11_addText_31 : decode cX11_addText 31 = .ok (.if_icmp .lt 9, 3) := by decide +kernel
theorem dX11_addText_34 : decode cX11_addText 34 = .ok (.iload_n 2, 1) := by decide +kernel
theorem dX11_addText_35 : decode cX11_addText 35 = .ok (.bipush 126, 2) := by decide +kernel
theorem dX11_addText_37 : decode cX11_addText 37 = .ok (.if_icmp .le 10, 3) := by decide +kernel
theorem dX11_addText_40 : decode cX11_addText 40 = .ok (.aload_n 0, 1) := by decide +kernel
theorem dX11_addText_41 : decode cX11_addText 41 = .ok (.bipush 6, 2) := by decide +kernel
theorem dX11_addText_43 : decode cX11_addText 43 = .ok (.invokevirtual 102, 3) := by decide +kernel
theorem dX11_addText_46 : decode cX11_addText 46 = .ok (.ireturn, 1) := by decide +kernel
theorem dX11_addText_47 : decode cX11_addText 47 = .ok (.iinc 1 1, 3) := by decide +kernel
theorem dX11_addText_50 : decode cX11_addText 50 = .ok (.goto (-48), 3) := by decide +kernel
theorem dX11_addText_53 : decode cX11_addText 53 = .ok (.aload_n 0, 1) := by decide +kernel
theorem dX11_addText_54 : decode cX11_addText 54 = .ok (.getfield 18, 3) := by decide +kernel
theorem dX11_addText_57 : decode cX11_addText 57 = .ok (.getfield 99, 3) := by decide +kernel
theorem dX11_addText_60 : decode cX11_addText 60 = .ok (.aload_n 0, 1) := by decide +kernel
theorem dX11_addText_61 : decode cX11_addText 61 = .ok (.getfield 14, 3) := by decide +kernel
theorem dX11_addText_64 : decode cX11_addText 64 = .ok (.getfield 99, 3) := by decide +kernel
theorem dX11_addText_67 : decode cX11_addText 67 = .ok (.iadd, 1) := by decide +kernel
theorem dX11_addText_68 : decode cX11_addText 68 = .ok (.sipush 500, 3) := by decide +kernel
theorem dX11_addText_71 : decode cX11_addText 71 = .ok (.if_icmp .le 10, 3) := by decide +kernel
theorem dX11_addText_74 : decode cX11_addText 74 = .ok (.aload_n 0, 1) := by decide +kernel
theorem dX11_addText_75 : decode cX11_addText 75 = .ok (.bipush 6, 2) := by decide +kernel
theorem dX11_addText_77 : decode cX11_addText 77 = .ok (.invokevirtual 102, 3) := by decide +kernel
theorem dX11_addText_80 : decode cX11_addText 80 = .ok (.ireturn, 1) := by decide +kernel
theorem dX11_addText_81 : decode cX11_addText 81 = .ok (.aload_n 0, 1) := by decide +kernel
theorem dX11_addText_82 : decode cX11_addText 82 = .ok (.getfield 14, 3) := by decide +kernel
theorem dX11_addText_85 : decode cX11_addText 85 = .ok (.getfield 99, 3) := by decide +kernel
theorem dX11_addText_88 : decode cX11_addText 88 = .ok (.ifCond .ne 10, 3) := by decide +kernel
theorem dX11_addText_91 : decode cX11_addText 91 = .ok (.aload_n 0, 1) := by decide +kernel
theorem dX11_addText_92 : decode cX11_addText 92 = .ok (.getfield 18, 3) := by decide +kernel
theorem dX11_addText_95 : decode cX11_addText 95 = .ok (.invokevirtual 164, 3) := by decide +kernel
theorem dX11_addText_98 : decode cX11_addText 98 = .ok (.aload_n 0, 1) := by decide +kernel
theorem dX11_addText_99 : decode cX11_addText 99 = .ok (.getfield 18, 3) := by decide +kernel
theorem dX11_addText_102 : decode cX11_addText 102 = .ok (.aload_n 0, 1) := by decide +kernel
theorem dX11_addText_103 : decode cX11_addText 103 = .ok (.getfield 14, 3) := by decide +kernel
theorem dX11_addText_106 : decode cX11_addText 106 = .ok (.invokevirtual 227, 3) := by decide +kernel
theorem dX11_addText_109 : decode cX11_addText 109 = .ok (.aload_n 0, 1) := by decide +kernel
theorem dX11_addText_110 : decode cX11_addText 110 = .ok (.aload_n 0, 1) := by decide +kernel
theorem dX11_addText_111 : decode cX11_addText 111 = .ok (.getfield 18, 3) := by decide +kernel
theorem dX11_addText_114 : decode cX11_addText 114 = .ok (.getfield 99, 3) := by decide +kernel
theorem dX11_addText_117 : decode cX11_addText 117 = .ok (.invokevirtual 109, 3) := by decide +kernel
theorem dX11_addText_120 : decode cX11_addText 120 = .ok (.ireturn, 1) := by decide +kernel
theorem dX11_measure_0 : decode cX11_measure 0 = .ok (.iload_n 1, 1) := by decide +kernel
theorem dX11_measure_1 : decode cX11_measure 1 = .ok (.iconst 1, 1) := by decide +kernel
theorem dX11_measure_2 : decode cX11_measure 2 = .ok (.if_icmp .lt 32, 3) := by decide +kernel
theorem dX11_measure_5 : decode cX11_measure 5 = .ok (.iload_n 1, 1) := by decide +kernel
theorem dX11_measure_6 : decode cX11_measure 6 = .ok (.bipush 100, 2) := by decide +kernel
theorem dX11_measure_8 : decode cX11_measure 8 = .ok (.if_icmp .gt 26, 3) := by decide +kernel
theorem dX11_measure_11 : decode cX11_measure 11 = .ok (.iload_n 2, 1) := by decide +kernel
theorem dX11_measure_12 : decode cX11_measure 12 = .ok (.iconst 1, 1) := by decide +kernel
theorem dX11_measure_13 : decode cX11_measure 13 = .ok (.if_icmp .lt 21, 3) := by decide +kernel
theorem dX11_measure_16 : decode cX11_measure 16 = .ok (.iload_n 2, 1) := by decide +kernel
theorem dX11_measure_17 : decode cX11_measure 17 = .ok (.bipush 50, 2) := by decide +kernel
theorem dX11_measure_19 : decode cX11_measure 19 = .ok (.if_icmp .gt 15, 3) := by decide +kernel
theorem dX11_measure_22 : decode cX11_measure 22 = .ok (.iload_n 3, 1) := by decide +kernel
theorem dX11_measure_23 : decode cX11_measure 23 = .ok (.iconst 1, 1) := by decide +kernel
theorem dX11_measure_24 : decode cX11_measure 24 = .ok (.if_icmp .lt 10, 3) := by decide +kernel
theorem dX11_measure_27 : decode cX11_measure 27 = .ok (.iload_n 3, 1) := by decide +kernel
theorem dX11_measure_28 : decode cX11_measure 28 = .ok (.sipush 255, 3) := by decide +kernel
theorem dX11_measure_31 : decode cX11_measure 31 = .ok (.if_icmp .le 10, 3) := by decide +kernel
theorem dX11_measure_34 : decode cX11_measure 34 = .ok (.aload_n 0, 1) := by decide +kernel
theorem dX11_measure_35 : decode cX11_measure 35 = .ok (.bipush 6, 2) := by decide +kernel
theorem dX11_measure_37 : decode cX11_measure 37 = .ok (.invokevirtual 102, 3) := by decide +kernel
theorem dX11_measure_40 : decode cX11_measure 40 = .ok (.ireturn, 1) := by decide +kernel
theorem dX11_measure_41 : decode cX11_measure 41 = .ok (.aload_n 0, 1) := by decide +kernel
theorem dX11_measure_42 : decode cX11_measure 42 = .ok (.iload_n 1, 1) := by decide +kernel
theorem dX11_measure_43 : decode cX11_measure 43 = .ok (.putfield 74, 3) := by decide +kernel
theorem dX11_measure_46 : decode cX11_measure 46 = .ok (.aload_n 0, 1) := by decide +kernel
theorem dX11_measure_47 : decode cX11_measure 47 = .ok (.iload_n 2, 1) := by decide +kernel
theorem dX11_measure_48 : decode cX11_measure 48 = .ok (.putfield 78, 3) := by decide +kernel
theorem dX11_measure_51 : decode cX11_measure 51 = .ok (.aload_n 0, 1) := by decide +kernel
theorem dX11_measure_52 : decode cX11_measure 52 = .ok (.iload_n 3, 1) := by decide +kernel
theorem dX11_measure_53 : decode cX11_measure 53 = .ok (.putfield 81, 3) := by decide +kernel
theorem dX11_measure_56 : decode cX11_measure 56 = .ok (.aload_n 0, 1) := by decide +kernel
theorem dX11_measure_57 : decode cX11_measure 57 = .ok (.iconst 1, 1) := by decide +kernel
theorem dX11_measure_58 : decode cX11_measure 58 = .ok (.invokevirtual 109, 3) := by decide +kernel
theorem dX11_measure_61 : decode cX11_measure 61 = .ok (.ireturn, 1) := by decide +kernel
theorem dX11_set_0 : decode cX11_set 0 = .ok (.aload_n 0, 1) := by decide +kernel
theorem dX11_set_1 : decode cX11_set 1 = .ok (.getfield 30, 3) := by decide +kernel
theorem dX11_set_4 : decode cX11_set 4 = .ok (.iload_n 1, 1) := by decide +kernel
theorem dX11_set_5 : decode cX11_set 5 = .ok (.invokevirtual 231, 3) := by decide +kernel
theorem dX11_set_8 : decode cX11_set 8 = .ok (.astore_n 2, 1) := by decide +kernel
theorem dX11_set_9 : decode cX11_set 9 = .ok (.aload_n 2, 1) := by decide +kernel
theorem dX11_set_10 : decode cX11_set 10 = .ok (.ifnonnull 9, 3) := by decide +kernel
theorem dX11_set_13 : decode cX11_set 13 = .ok (.aload_n 0, 1) := by decide +kernel
theorem dX11_set_14 : decode cX11_set 14 = .ok (.iconst 3, 1) := by decide +kernel
theorem dX11_set_15 : decode cX11_set 15 = .ok (.invokevirtual 102, 3) := by decide +kernel
theorem dX11_set_18 : decode cX11_set 18 = .ok (.ireturn, 1) := by decide +kernel
theorem dX11_set_19 : decode cX11_set 19 = .ok (.aload_n 0, 1) := by decide +kernel
theorem dX11_set_20 : decode cX11_set 20 = .ok (.getfield 71, 3) := by decide +kernel
theorem dX11_set_23 : decode cX11_set 23 = .ok (.invokevirtual 234, 3) := by decide +kernel
theorem dX11_set_26 : decode cX11_set 26 = .ok (.aload_n 0, 1) := by decide +kernel
theorem dX11_set_27 : decode cX11_set 27 = .ok (.getfield 37, 3) := by decide +kernel
theorem dX11_set_30 : decode cX11_set 30 = .ok (.invokevirtual 235, 3) := by decide +kernel
theorem dX11_set_33 : decode cX11_set 33 = .ok (.iconst 0, 1) := by decide +kernel
theorem dX11_set_34 : decode cX11_set 34 = .ok (.istore_n 3, 1) := by decide +kernel
theorem dX11_set_35 : decode cX11_set 35 = .ok (.aload_n 0, 1) := by decide +kernel
theorem dX11_set_36 : decode cX11_set 36 = .ok (.getfield 37, 3) := by decide +kernel
theorem dX11_set_39 : decode cX11_set 39 = .ok (.aload_n 0, 1) := by decide +kernel
theorem dX11_set_40 : decode cX11_set 40 = .ok (.getfield 18, 3) := by decide +kernel
theorem dX11_set_43 : decode cX11_set 43 = .ok (.aload_n 0, 1) := by decide +kernel
theorem dX11_set_44 : decode cX11_set 44 = .ok (.getfield 44, 3) := by decide +kernel
theorem dX11_set_47 : decode cX11_set 47 = .ok (.invokevirtual 238, 3) := by decide +kernel
theorem dX11_set_50 : decode cX11_set 50 = .ok (.istore 4, 2) := by decide +kernel
theorem dX11_set_52 : decode cX11_set 52 = .ok (.iconst 0, 1) := by decide +kernel
theorem dX11_set_53 : decode cX11_set 53 = .ok (.istore 5, 2) := by decide +kernel
theorem dX11_set_55 : decode cX11_set 55 = .ok (.iload_n 3, 1) := by decide +kernel
theorem dX11_set_56 : decode cX11_set 56 = .ok (.ifCond .ne 147, 3) := by decide +kernel
theorem dX11_set_59 : decode cX11_set 59 = .ok (.iload 4, 2) := by decide +kernel
theorem dX11_set_61 : decode cX11_set 61 = .ok (.ifCond .eq 142, 3) := by decide +kernel
theorem dX11_set_64 : decode cX11_set 64 = .ok (.iload 5, 2) := by decide +kernel
theorem dX11_set_66 : decode cX11_set 66 = .ok (.ldc 242, 2) := by decide +kernel
theorem dX11_set_68 : decode cX11_set 68 = .ok (.if_icmp .ge 135, 3) := by decide +kernel
theorem dX11_set_71 : decode cX11_set 71 = .ok (.iconst 1, 1) := by decide +kernel
theorem dX11_set_72 : decode cX11_set 72 = .ok (.istore 6, 2) := by decide +kernel
theorem dX11_set_74 : decode cX11_set 74 = .ok (.iload 4, 2) := by decide +kernel
theorem dX11_set_76 : decode cX11_set 76 = .ok (.iconst 1, 1) := by decide +kernel
theorem dX11_set_77 : decode cX11_set 77 = .ok (.if_icmp .ne 15, 3) := by decide +kernel
theorem dX11_set_80 : decode cX11_set 80 = .ok (.aload_n 0, 1) := by decide +kernel
theorem dX11_set_81 : decode cX11_set 81 = .ok (.getfield 71, 3) := by decide +kernel
theorem dX11_set_84 : decode cX11_set 84 = .ok (.invokevirtual 243, 3) := by decide +kernel
theorem dX11_set_87 : decode cX11_set 87 = .ok (.istore 6, 2) := by decide +kernel
theorem dX11_set_89 : decode cX11_set 89 = .ok (.goto 76, 3) := by decide +kernel
theorem dX11_set_92 : decode cX11_set 92 = .ok (.iload 4, 2) := by decide +kernel
theorem dX11_set_94 : decode cX11_set 94 = .ok (.iconst 3, 1) := by decide +kernel
theorem dX11_set_95 : decode cX11_set 95 = .ok (.if_icmp .ne 24, 3) := by decide +kernel
theorem dX11_set_98 : decode cX11_set 98 = .ok (.aload_n 0, 1) := by decide +kernel
theorem dX11_set_99 : decode cX11_set 99 = .ok (.getfield 71, 3) := by decide +kernel
theorem dX11_set_102 : decode cX11_set 102 = .ok (.aload_n 0, 1) := by decide +kernel
theorem dX11_set_103 : decode cX11_set 103 = .ok (.getfield 37, 3) := by decide +kernel
theorem dX11_set_106 : decode cX11_set 106 = .ok (.getfield 246, 3) := by decide +kernel
theorem dX11_set_109 : decode cX11_set 109 = .ok (.aload_n 0, 1) := by decide +kernel
theorem dX11_set_110 : decode cX11_set 110 = .ok (.getfield 74, 3) := by decide +kernel
theorem dX11_set_113 : decode cX11_set 113 = .ok (.invokevirtual 249, 3) := by decide +kernel
theorem dX11_set_116 : decode cX11_set 116 = .ok (.goto 49, 3) := by decide +kernel
theorem dX11_set_119 : decode cX11_set 119 = .ok (.aload_n 0, 1) := by decide +kernel
theorem dX11_set_120 : decode cX11_set 120 = .ok (.getfield 44, 3) := by decide +kernel
theorem dX11_set_123 : decode cX11_set 123 = .ok (.aload_n 2, 1) := by decide +kernel
theorem dX11_set_124 : decode cX11_set 124 = .ok (.invokevirtual 253, 3) := by decide +kernel
theorem dX11_set_127 : decode cX11_set 127 = .ok (.istore_n 3, 1) := by decide +kernel
theorem dX11_set_128 : decode cX11_set 128 = .ok (.iload_n 3, 1) := by decide +kernel
theorem dX11_set_129 : decode cX11_set 129 = .ok (.ifCond .ne 29, 3) := by decide +kernel
theorem dX11_set_132 : decode cX11_set 132 = .ok (.aload_n 0, 1) := by decide +kernel
theorem dX11_set_133 : decode cX11_set 133 = .ok (.getfield 71, 3) := by decide +kernel
theorem dX11_set_136 : decode cX11_set 136 = .ok (.aload_n 0, 1) := by decide +kernel
theorem dX11_set_137 : decode cX11_set 137 = .ok (.getfield 44, 3) := by decide +kernel
theorem dX11_set_140 : decode cX11_set 140 = .ok (.aload_n 2, 1) := by decide +kernel
theorem dX11_set_141 : decode cX11_set 141 = .ok (.getfield 135, 3) := by decide +kernel
theorem dX11_set_144 : decode cX11_set 144 = .ok (.aload_n 0, 1) := by decide +kernel
theorem dX11_set_145 : decode cX11_set 145 = .ok (.getfield 74, 3) := by decide +kernel
theorem dX11_set_148 : decode cX11_set 148 = .ok (.aload_n 0, 1) := by decide +kernel
theorem dX11_set_149 : decode cX11_set 149 = .ok (.getfield 81, 3) := by decide +kernel
theorem dX11_set_152 : decode cX11_set 152 = .ok (.invokevirtual 256, 3) := by decide +kernel
theorem dX11_set_155 : decode cX11_set 155 = .ok (.ifCond .eq 7, 3) := by decide +kernel
theorem dX11_set_158 : decode cX11_set 158 = .ok (.iconst 1, 1) := by decide +kernel
theorem dX11_set_159 : decode cX11_set 159 = .ok (.goto 4, 3) := by decide +kernel
theorem dX11_set_162 : decode cX11_set 162 = .ok (.iconst 0, 1) := by decide +kernel
theorem dX11_set_163 : decode cX11_set 163 = .ok (.istore 6, 2) := by decide +kernel
theorem dX11_set_165 : decode cX11_set 165 = .ok (.iload 6, 2) := by decide +kernel
theorem dX11_set_167 : decode cX11_set 167 = .ok (.ifCond .ne 9, 3) := by decide +kernel
theorem dX11_set_170 : decode cX11_set 170 = .ok (.bipush 6, 2) := by decide +kernel
theorem dX11_set_172 : decode cX11_set 172 = .ok (.istore_n 3, 1) := by decide +kernel
theorem dX11_set_173 : decode cX11_set 173 = .ok (.goto 24, 3) := by decide +kernel
theorem dX11_set_176 : decode cX11_set 176 = .ok (.iload_n 3, 1) := by decide +kernel
theorem dX11_set_177 : decode cX11_set 177 = .ok (.ifCond .ne 20, 3) := by decide +kernel
theorem dX11_set_180 : decode cX11_set 180 = .ok (.aload_n 0, 1) := by decide +kernel
theorem dX11_set_181 : decode cX11_set 181 = .ok (.getfield 37, 3) := by decide +kernel
theorem dX11_set_184 : decode cX11_set 184 = .ok (.aload_n 0, 1) := by decide +kernel
theorem dX11_set_185 : decode cX11_set 185 = .ok (.getfield 18, 3) := by decide +kernel
theorem dX11_set_188 : decode cX11_set 188 = .ok (.aload_n 0, 1) := by decide +kernel
theorem dX11_set_189 : decode cX11_set 189 = .ok (.getfield 44, 3) := by decide +kernel
theorem dX11_set_192 : decode cX11_set 192 = .ok (.invokevirtual 238, 3) := by decide +kernel
theorem dX11_set_195 : decode cX11_set 195 = .ok (.istore 4, 2) := by decide +kernel
theorem dX11_set_197 : decode cX11_set 197 = .ok (.iinc 5 1, 3) := by decide +kernel
theorem dX11_set_200 : decode cX11_set 200 = .ok (.goto (-145), 3) := by decide +kernel
theorem dX11_set_203 : decode cX11_set 203 = .ok (.iload_n 3, 1) := by decide +kernel
theorem dX11_set_204 : decode cX11_set 204 = .ok (.ifCond .ne 10, 3) := by decide +kernel
theorem dX11_set_207 : decode cX11_set 207 = .ok (.aload_n 0, 1) := by decide +kernel
theorem dX11_set_208 : decode cX11_set 208 = .ok (.invokevirtual 260, 3) := by decide +kernel
theorem dX11_set_211 : decode cX11_set 211 = .ok (.goto 15, 3) := by decide +kernel
theorem dX11_set_214 : decode cX11_set 214 = .ok (.aload_n 0, 1) := by decide +kernel
theorem dX11_set_215 : decode cX11_set 215 = .ok (.iload_n 3, 1) := by decide +kernel
theorem dX11_set_216 : decode cX11_set 216 = .ok (.aload_n 0, 1) := by decide +kernel
theorem dX11_set_217 : decode cX11_set 217 = .ok (.getfield 44, 3) := by decide +kernel
theorem dX11_set_220 : decode cX11_set 220 = .ok (.invokevirtual 263, 3) := by decide +kernel
theorem dX11_set_223 : decode cX11_set 223 = .ok (.invokevirtual 266, 3) := by decide +kernel
theorem dX11_set_226 : decode cX11_set 226 = .ok (.ireturn, 1) := by decide +kernel
theorem dX11_publish_0 : decode cX11_publish 0 = .ok (.aload_n 0, 1) := by decide +kernel
theorem dX11_publish_1 : decode cX11_publish 1 = .ok (.getfield 67, 3) := by decide +kernel
theorem dX11_publish_4 : decode cX11_publish 4 = .ok (.astore_n 1, 1) := by decide +kernel
theorem dX11_publish_5 : decode cX11_publish 5 = .ok (.aload_n 0, 1) := by decide +kernel
theorem dX11_publish_6 : decode cX11_publish 6 = .ok (.aload_n 0, 1) := by decide +kernel
theorem dX11_publish_7 : decode cX11_publish 7 = .ok (.getfield 71, 3) := by decide +kernel
theorem dX11_publish_10 : decode cX11_publish 10 = .ok (.putfield 67, 3) := by decide +kernel
theorem dX11_publish_13 : decode cX11_publish 13 = .ok (.aload_n 0, 1) := by decide +kernel
theorem dX11_publish_14 : decode cX11_publish 14 = .ok (.aload_n 1, 1) := by decide +kernel
theorem dX11_publish_15 : decode cX11_publish 15 = .ok (.putfield 71, 3) := by decide +kernel
theorem dX11_publish_18 : decode cX11_publish 18 = .ok (.aload_n 0, 1) := by decide +kernel
theorem dX11_publish_19 : decode cX11_publish 19 = .ok (.aload_n 0, 1) := by decide +kernel
theorem dX11_publish_20 : decode cX11_publish 20 = .ok (.getfield 67, 3) := by decide +kernel
theorem dX11_publish_23 : decode cX11_publish 23 = .ok (.getfield 269, 3) := by decide +kernel
theorem dX11_publish_26 : decode cX11_publish 26 = .ok (.invokevirtual 109, 3) := by decide +kernel
theorem dX11_publish_29 : decode cX11_publish 29 = .ok (.ireturn, 1) := by decide +kernel
theorem dX11_head_0 : decode cX11_head 0 = .ok (.aload_n 0, 1) := by decide +kernel
theorem dX11_head_1 : decode cX11_head 1 = .ok (.getfield 14, 3) := by decide +kernel
theorem dX11_head_4 : decode cX11_head 4 = .ok (.getfield 99, 3) := by decide +kernel
theorem dX11_head_7 : decode cX11_head 7 = .ok (.bipush 40, 2) := by decide +kernel
theorem dX11_head_9 : decode cX11_head 9 = .ok (.if_icmp .gt 29, 3) := by decide +kernel
theorem dX11_head_12 : decode cX11_head 12 = .ok (.aload_n 0, 1) := by decide +kernel
theorem dX11_head_13 : decode cX11_head 13 = .ok (.getfield 14, 3) := by decide +kernel
theorem dX11_head_16 : decode cX11_head 16 = .ok (.iconst 0, 1) := by decide +kernel
theorem dX11_head_17 : decode cX11_head 17 = .ok (.aload_n 0, 1) := by decide +kernel
theorem dX11_head_18 : decode cX11_head 18 = .ok (.getfield 14, 3) := by decide +kernel
theorem dX11_head_21 : decode cX11_head 21 = .ok (.getfield 99, 3) := by decide +kernel
theorem dX11_head_24 : decode cX11_head 24 = .ok (.bipush 33, 2) := by decide +kernel
theorem dX11_head_26 : decode cX11_head 26 = .ok (.bipush 125, 2) := by decide +kernel
theorem dX11_head_28 : decode cX11_head 28 = .ok (.invokevirtual 171, 3) := by decide +kernel
theorem dX11_head_31 : decode cX11_head 31 = .ok (.ifCond .eq 7, 3) := by decide +kernel
theorem dX11_head_34 : decode cX11_head 34 = .ok (.iconst 1, 1) := by decide +kernel
theorem dX11_head_35 : decode cX11_head 35 = .ok (.goto 4, 3) := by decide +kernel
theorem dX11_head_38 : decode cX11_head 38 = .ok (.iconst 0, 1) := by decide +kernel
theorem dX11_head_39 : decode cX11_head 39 = .ok (.istore_n 2, 1) := by decide +kernel
theorem dX11_head_40 : decode cX11_head 40 = .ok (.aload_n 0, 1) := by decide +kernel
theorem dX11_head_41 : decode cX11_head 41 = .ok (.getfield 44, 3) := by decide +kernel
theorem dX11_head_44 : decode cX11_head 44 = .ok (.invokevirtual 272, 3) := by decide +kernel
theorem dX11_head_47 : decode cX11_head 47 = .ok (.iconst 0, 1) := by decide +kernel
theorem dX11_head_48 : decode cX11_head 48 = .ok (.istore_n 3, 1) := by decide +kernel
theorem dX11_head_49 : decode cX11_head 49 = .ok (.iload_n 2, 1) := by decide +kernel
theorem dX11_head_50 : decode cX11_head 50 = .ok (.ifCond .eq 36, 3) := by decide +kernel
theorem dX11_head_53 : decode cX11_head 53 = .ok (.iload_n 3, 1) := by decide +kernel
theorem dX11_head_54 : decode cX11_head 54 = .ok (.aload_n 0, 1) := by decide +kernel
theorem dX11_head_55 : decode cX11_head 55 = .ok (.getfield 14, 3) := by decide +kernel
theorem dX11_head_58 : decode cX11_head 58 = .ok (.getfield 99, 3) := by decide +kernel
theorem dX11_head_61 : decode cX11_head 61 = .ok (.if_icmp .ge 25, 3) := by decide +kernel
theorem dX11_head_64 : decode cX11_head 64 = .ok (.aload_n 0, 1) := by decide +kernel
theorem dX11_head_65 : decode cX11_head 65 = .ok (.getfield 44, 3) := by decide +kernel
theorem dX11_head_68 : decode cX11_head 68 = .ok (.aload_n 0, 1) := by decide +kernel
theorem dX11_head_69 : decode cX11_head 69 = .ok (.getfield 14, 3) := by decide +kernel
theorem dX11_head_72 : decode cX11_head 72 = .ok (.iload_n 3, 1) := by decide +kernel
theorem dX11_head_73 : decode cX11_head 73 = .ok (.invokevirtual 224, 3) := by decide +kernel
theorem dX11_head_76 : decode cX11_head 76 = .ok (.iload_n 3, 1) := by decide +kernel
theorem dX11_head_77 : decode cX11_head 77 = .ok (.invokevirtual 273, 3) := by decide +kernel
theorem dX11_head_80 : decode cX11_head 80 = .ok (.iinc 3 1, 3) := by decide +kernel
theorem dX11_head_83 : decode cX11_head 83 = .ok (.goto (-34), 3) := by decide +kernel
theorem dX11_head_86 : decode cX11_head 86 = .ok (.aload_n 0, 1) := by decide +kernel
theorem dX11_head_87 : decode cX11_head 87 = .ok (.getfield 14, 3) := by decide +kernel
theorem dX11_head_90 : decode cX11_head 90 = .ok (.invokevirtual 164, 3) := by decide +kernel
theorem dX11_head_93 : decode cX11_head 93 = .ok (.iload_n 2, 1) := by decide +kernel
theorem dX11_head_94 : decode cX11_head 94 = .ok (.ifCond .ne 10, 3) := by decide +kernel
theorem dX11_head_97 : decode cX11_head 97 = .ok (.aload_n 0, 1) := by decide +kernel
theorem dX11_head_98 : decode cX11_head 98 = .ok (.bipush 6, 2) := by decide +kernel
theorem dX11_head_100 : decode cX11_head 100 = .ok (.invokevirtual 102, 3) := by decide +kernel
theorem dX11_head_103 : decode cX11_head 103 = .ok (.ireturn, 1) := by decide +kernel
theorem dX11_head_104 : decode cX11_head 104 = .ok (.aload_n 0, 1) := by decide +kernel
theorem dX11_head_105 : decode cX11_head 105 = .ok (.getfield 30, 3) := by decide +kernel
theorem dX11_head_108 : decode cX11_head 108 = .ok (.iload_n 1, 1) := by decide +kernel
theorem dX11_head_109 : decode cX11_head 109 = .ok (.invokevirtual 231, 3) := by decide +kernel
theorem dX11_head_112 : decode cX11_head 112 = .ok (.astore_n 3, 1) := by decide +kernel
theorem dX11_head_113 : decode cX11_head 113 = .ok (.aload_n 3, 1) := by decide +kernel
theorem dX11_head_114 : decode cX11_head 114 = .ok (.ifnonnull 9, 3) := by decide +kernel
theorem dX11_head_117 : decode cX11_head 117 = .ok (.aload_n 0, 1) := by decide +kernel
theorem dX11_head_118 : decode cX11_head 118 = .ok (.iconst 3, 1) := by decide +kernel
theorem dX11_head_119 : decode cX11_head 119 = .ok (.invokevirtual 102, 3) := by decide +kernel
theorem dX11_head_122 : decode cX11_head 122 = .ok (.ireturn, 1) := by decide +kernel
theorem dX11_head_123 : decode cX11_head 123 = .ok (.aload_n 0, 1) := by decide +kernel
theorem dX11_head_124 : decode cX11_head 124 = .ok (.getfield 44, 3) := by decide +kernel
theorem dX11_head_127 : decode cX11_head 127 = .ok (.aload_n 3, 1) := by decide +kernel
theorem dX11_head_128 : decode cX11_head 128 = .ok (.invokevirtual 253, 3) := by decide +kernel
theorem dX11_head_131 : decode cX11_head 131 = .ok (.istore 4, 2) := by decide +kernel
theorem dX11_head_133 : decode cX11_head 133 = .ok (.iload 4, 2) := by decide +kernel
theorem dX11_head_135 : decode cX11_head 135 = .ok (.ifCond .eq 17, 3) := by decide +kernel
theorem dX11_head_138 : decode cX11_head 138 = .ok (.aload_n 0, 1) := by decide +kernel
theorem dX11_head_139 : decode cX11_head 139 = .ok (.iload 4, 2) := by decide +kernel
theorem dX11_head_141 : decode cX11_head 141 = .ok (.aload_n 0, 1) := by decide +kernel
theorem dX11_head_142 : decode cX11_head 142 = .ok (.getfield 44, 3) := by decide +kernel
theorem dX11_head_145 : decode cX11_head 145 = .ok (.invokevirtual 263, 3) := by decide +kernel
theorem dX11_head_148 : decode cX11_head 148 = .ok (.invokevirtual 266, 3) := by decide +kernel
theorem dX11_head_151 : decode cX11_head 151 = .ok (.ireturn, 1) := by decide +kernel
theorem dX11_head_152 : decode cX11_head 152 = .ok (.aload_n 0, 1) := by decide +kernel
theorem dX11_head_153 : decode cX11_head 153 = .ok (.getfield 24, 3) := by decide +kernel
theorem dX11_head_156 : decode cX11_head 156 = .ok (.invokevirtual 164, 3) := by decide +kernel
theorem dX11_head_159 : decode cX11_head 159 = .ok (.iconst 0, 1) := by decide +kernel
theorem dX11_head_160 : decode cX11_head 160 = .ok (.istore 5, 2) := by decide +kernel
theorem dX11_head_162 : decode cX11_head 162 = .ok (.iload 5, 2) := by decide +kernel
theorem dX11_head_164 : decode cX11_head 164 = .ok (.aload_n 0, 1) := by decide +kernel
theorem dX11_head_165 : decode cX11_head 165 = .ok (.getfield 44, 3) := by decide +kernel
theorem dX11_head_168 : decode cX11_head 168 = .ok (.getfield 277, 3) := by decide +kernel
theorem dX11_head_171 : decode cX11_head 171 = .ok (.if_icmp .ge 35, 3) := by decide +kernel
theorem dX11_head_174 : decode cX11_head 174 = .ok (.iload 5, 2) := by decide +kernel
theorem dX11_head_176 : decode cX11_head 176 = .ok (.aload_n 0, 1) := by decide +kernel
theorem dX11_head_177 : decode cX11_head 177 = .ok (.getfield 74, 3) := by decide +kernel
theorem dX11_head_180 : decode cX11_head 180 = .ok (.if_icmp .ge 26, 3) := by decide +kernel
theorem dX11_head_183 : decode cX11_head 183 = .ok (.aload_n 0, 1) := by decide +kernel
theorem dX11_head_184 : decode cX11_head 184 = .ok (.getfield 24, 3) := by decide +kernel
theorem dX11_head_187 : decode cX11_head 187 = .ok (.aload_n 0, 1) := by decide +kernel
theorem dX11_head_188 : decode cX11_head 188 = .ok (.getfield 44, 3) := by decide +kernel
theorem dX11_head_191 : decode cX11_head 191 = .ok (.getfield 278, 3) := by decide +kernel
theorem dX11_head_194 : decode cX11_head 194 = .ok (.iload 5, 2) := by decide +kernel
theorem dX11_head_196 : decode cX11_head 196 = .ok (.iaload, 1) := by decide +kernel
theorem dX11_head_197 : decode cX11_head 197 = .ok (.invokevirtual 112, 3) := by decide +kernel
theorem dX11_head_200 : decode cX11_head 200 = .ok (.iinc 5 1, 3) := by decide +kernel
theorem dX11_head_203 : decode cX11_head 203 = .ok (.goto (-41), 3) := by decide +kernel
theorem dX11_head_206 : decode cX11_head 206 = .ok (.aload_n 0, 1) := by decide +kernel
theorem dX11_head_207 : decode cX11_head 207 = .ok (.aload_n 0, 1) := by decide +kernel
theorem dX11_head_208 : decode cX11_head 208 = .ok (.getfield 24, 3) := by decide +kernel
theorem dX11_head_211 : decode cX11_head 211 = .ok (.getfield 99, 3) := by decide +kernel
theorem dX11_head_214 : decode cX11_head 214 = .ok (.invokevirtual 109, 3) := by decide +kernel
theorem dX11_head_217 : decode cX11_head 217 = .ok (.ireturn, 1) := by decide +kernel
theorem dX11_lines_0 : decode cX11_lines 0 = .ok (.aload_n 0, 1) := by decide +kernel
theorem dX11_lines_1 : decode cX11_lines 1 = .ok (.getfield 67, 3) := by decide +kernel
theorem dX11_lines_4 : decode cX11_lines 4 = .ok (.getfield 269, 3) := by decide +kernel
theorem dX11_lines_7 : decode cX11_lines 7 = .ok (.ireturn, 1) := by decide +kernel
theorem dX11_pages_0 : decode cX11_pages 0 = .ok (.aload_n 0, 1) := by decide +kernel
theorem dX11_pages_1 : decode cX11_pages 1 = .ok (.invokevirtual 282, 3) := by decide +kernel
theorem dX11_pages_4 : decode cX11_pages 4 = .ok (.istore_n 1, 1) := by decide +kernel
theorem dX11_pages_5 : decode cX11_pages 5 = .ok (.aload_n 0, 1) := by decide +kernel
theorem dX11_pages_6 : decode cX11_pages 6 = .ok (.getfield 67, 3) := by decide +kernel
theorem dX11_pages_9 : decode cX11_pages 9 = .ok (.getfield 269, 3) := by decide +kernel
theorem dX11_pages_12 : decode cX11_pages 12 = .ok (.iload_n 1, 1) := by decide +kernel
theorem dX11_pages_13 : decode cX11_pages 13 = .ok (.iadd, 1) := by decide +kernel
theorem dX11_pages_14 : decode cX11_pages 14 = .ok (.iconst 1, 1) := by decide +kernel
theorem dX11_pages_15 : decode cX11_pages 15 = .ok (.isub, 1) := by decide +kernel
theorem dX11_pages_16 : decode cX11_pages 16 = .ok (.iload_n 1, 1) := by decide +kernel
theorem dX11_pages_17 : decode cX11_pages 17 = .ok (.idiv, 1) := by decide +kernel
theorem dX11_pages_18 : decode cX11_pages 18 = .ok (.ireturn, 1) := by decide +kernel
theorem dX11_pagesHaveHeader_0 : decode cX11_pagesHaveHeader 0 = .ok (.aload_n 0, 1) := by decide +kernel
theorem dX11_pagesHaveHeader_1 : decode cX11_pagesHaveHeader 1 = .ok (.getfield 24, 3) := by decide +kernel
theorem dX11_pagesHaveHeader_4 : decode cX11_pagesHaveHeader 4 = .ok (.getfield 99, 3) := by decide +kernel
theorem dX11_pagesHaveHeader_7 : decode cX11_pagesHaveHeader 7 = .ok (.ifCond .le 15, 3) := by decide +kernel
theorem dX11_pagesHaveHeader_10 : decode cX11_pagesHaveHeader 10 = .ok (.aload_n 0, 1) := by decide +kernel
theorem dX11_pagesHaveHeader_11 : decode cX11_pagesHaveHeader 11 = .ok (.getfield 78, 3) := by decide +kernel
theorem dX11_pagesHaveHeader_14 : decode cX11_pagesHaveHeader 14 = .ok (.iconst 2, 1) := by decide +kernel
theorem dX11_pagesHaveHeader_15 : decode cX11_pagesHaveHeader 15 = .ok (.if_icmp .lt 7, 3) := by decide +kernel
theorem dX11_pagesHaveHeader_18 : decode cX11_pagesHaveHeader 18 = .ok (.iconst 1, 1) := by decide +kernel
theorem dX11_pagesHaveHeader_19 : decode cX11_pagesHaveHeader 19 = .ok (.goto 4, 3) := by decide +kernel
theorem dX11_pagesHaveHeader_22 : decode cX11_pagesHaveHeader 22 = .ok (.iconst 0, 1) := by decide +kernel
theorem dX11_pagesHaveHeader_23 : decode cX11_pagesHaveHeader 23 = .ok (.ireturn, 1) := by decide +kernel
theorem dX11_linesOfPage_0 : decode cX11_linesOfPage 0 = .ok (.iconst 1, 1) := by decide +kernel
theorem dX11_linesOfPage_1 : decode cX11_linesOfPage 1 = .ok (.aload_n 0, 1) := by decide +kernel
theorem dX11_linesOfPage_2 : decode cX11_linesOfPage 2 = .ok (.invokevirtual 285, 3) := by decide +kernel
theorem dX11_linesOfPage_5 : decode cX11_linesOfPage 5 = .ok (.ifCond .eq 12, 3) := by decide +kernel
theorem dX11_linesOfPage_8 : decode cX11_linesOfPage 8 = .ok (.aload_n 0, 1) := by decide +kernel
theorem dX11_linesOfPage_9 : decode cX11_linesOfPage 9 = .ok (.getfield 78, 3) := by decide +kernel
theorem dX11_linesOfPage_12 : decode cX11_linesOfPage 12 = .ok (.iconst 1, 1) := by decide +kernel
theorem dX11_linesOfPage_13 : decode cX11_linesOfPage 13 = .ok (.isub, 1) := by decide +kernel
theorem dX11_linesOfPage_14 : decode cX11_linesOfPage 14 = .ok (.goto 7, 3) := by decide +kernel
theorem dX11_linesOfPage_17 : decode cX11_linesOfPage 17 = .ok (.aload_n 0, 1) := by decide +kernel
theorem dX11_linesOfPage_18 : decode cX11_linesOfPage 18 = .ok (.getfield 78, 3) := by decide +kernel
theorem dX11_linesOfPage_21 : decode cX11_linesOfPage 21 = .ok (.invokestatic 141, 3) := by decide +kernel
theorem dX11_linesOfPage_24 : decode cX11_linesOfPage 24 = .ok (.ireturn, 1) := by decide +kernel
theorem dX11_length_0 : decode cX11_length 0 = .ok (.aload_n 0, 1) := by decide +kernel
theorem dX11_length_1 : decode cX11_length 1 = .ok (.getfield 67, 3) := by decide +kernel
theorem dX11_length_4 : decode cX11_length 4 = .ok (.iload_n 1, 1) := by decide +kernel
theorem dX11_length_5 : decode cX11_length 5 = .ok (.invokevirtual 288, 3) := by decide +kernel
theorem dX11_length_8 : decode cX11_length 8 = .ok (.astore_n 2, 1) := by decide +kernel
theorem dX11_length_9 : decode cX11_length 9 = .ok (.aload_n 2, 1) := by decide +kernel
theorem dX11_length_10 : decode cX11_length 10 = .ok (.ifnonnull 18, 3) := by decide +kernel
theorem dX11_length_13 : decode cX11_length 13 = .ok (.aload_n 0, 1) := by decide +kernel
theorem dX11_length_14 : decode cX11_length 14 = .ok (.aload_n 0, 1) := by decide +kernel
theorem dX11_length_15 : decode cX11_length 15 = .ok (.getfield 67, 3) := by decide +kernel
theorem dX11_length_18 : decode cX11_length 18 = .ok (.iload_n 1, 1) := by decide +kernel
theorem dX11_length_19 : decode cX11_length 19 = .ok (.invokevirtual 292, 3) := by decide +kernel
theorem dX11_length_22 : decode cX11_length 22 = .ok (.invokevirtual 102, 3) := by decide +kernel
theorem dX11_length_25 : decode cX11_length 25 = .ok (.goto 11, 3) := by decide +kernel
theorem dX11_length_28 : decode cX11_length 28 = .ok (.aload_n 0, 1) := by decide +kernel
theorem dX11_length_29 : decode cX11_length 29 = .ok (.aload_n 2, 1) := by decide +kernel
theorem dX11_length_30 : decode cX11_length 30 = .ok (.getfield 295, 3) := by decide +kernel
theorem dX11_length_33 : decode cX11_length 33 = .ok (.invokevirtual 109, 3) := by decide +kernel
theorem dX11_length_36 : decode cX11_length 36 = .ok (.ireturn, 1) := by decide +kernel
theorem dX11_cell_0 : decode cX11_cell 0 = .ok (.aload_n 0, 1) := by decide +kernel
theorem dX11_cell_1 : decode cX11_cell 1 = .ok (.iload_n 1, 1) := by decide +kernel
theorem dX11_cell_2 : decode cX11_cell 2 = .ok (.iload_n 2, 1) := by decide +kernel
theorem dX11_cell_3 : decode cX11_cell 3 = .ok (.invokevirtual 298, 3) := by decide +kernel
theorem dX11_cell_6 : decode cX11_cell 6 = .ok (.ireturn, 1) := by decide +kernel
theorem dX11_cellOfLine_0 : decode cX11_cellOfLine 0 = .ok (.aload_n 0, 1) := by decide +kernel
theorem dX11_cellOfLine_1 : decode cX11_cellOfLine 1 = .ok (.getfield 67, 3) := by decide +kernel
theorem dX11_cellOfLine_4 : decode cX11_cellOfLine 4 = .ok (.iload_n 1, 1) := by decide +kernel
theorem dX11_cellOfLine_5 : decode cX11_cellOfLine 5 = .ok (.invokevirtual 288, 3) := by decide +kernel
theorem dX11_cellOfLine_8 : decode cX11_cellOfLine 8 = .ok (.astore_n 3, 1) := by decide +kernel
theorem dX11_cellOfLine_9 : decode cX11_cellOfLine 9 = .ok (.aload_n 3, 1) := by decide +kernel
theorem dX11_cellOfLine_10 : decode cX11_cellOfLine 10 = .ok (.ifnonnull 16, 3) := by decide +kernel
theorem dX11_cellOfLine_13 : decode cX11_cellOfLine 13 = .ok (.aload_n 0, 1) := by decide +kernel
theorem dX11_cellOfLine_14 : decode cX11_cellOfLine 14 = .ok (.aload_n 0, 1) := by decide +kernel
theorem dX11_cellOfLine_15 : decode cX11_cellOfLine 15 = .ok (.getfield 67, 3) := by decide +kernel
theorem dX11_cellOfLine_18 : decode cX11_cellOfLine 18 = .ok (.iload_n 1, 1) := by decide +kernel
theorem dX11_cellOfLine_19 : decode cX11_cellOfLine 19 = .ok (.invokevirtual 292, 3) := by decide +kernel
theorem dX11_cellOfLine_22 : decode cX11_cellOfLine 22 = .ok (.invokevirtual 102, 3) := by decide +kernel
theorem dX11_cellOfLine_25 : decode cX11_cellOfLine 25 = .ok (.ireturn, 1) := by decide +kernel
theorem dX11_cellOfLine_26 : decode cX11_cellOfLine 26 = .ok (.iload_n 2, 1) := by decide +kernel
theorem dX11_cellOfLine_27 : decode cX11_cellOfLine 27 = .ok (.ifCond .lt 11, 3) := by decide +kernel
theorem dX11_cellOfLine_30 : decode cX11_cellOfLine 30 = .ok (.iload_n 2, 1) := by decide +kernel
theorem dX11_cellOfLine_31 : decode cX11_cellOfLine 31 = .ok (.aload_n 3, 1) := by decide +kernel
theorem dX11_cellOfLine_32 : decode cX11_cellOfLine 32 = .ok (.getfield 295, 3) := by decide +kernel
theorem dX11_cellOfLine_35 : decode cX11_cellOfLine 35 = .ok (.if_icmp .lt 11, 3) := by decide +kernel
theorem dX11_cellOfLine_38 : decode cX11_cellOfLine 38 = .ok (.aload_n 0, 1) := by decide +kernel
theorem dX11_cellOfLine_39 : decode cX11_cellOfLine 39 = .ok (.iconst 2, 1) := by decide +kernel
theorem dX11_cellOfLine_40 : decode cX11_cellOfLine 40 = .ok (.invokevirtual 102, 3) := by decide +kernel
theorem dX11_cellOfLine_43 : decode cX11_cellOfLine 43 = .ok (.goto 13, 3) := by decide +kernel
theorem dX11_cellOfLine_46 : decode cX11_cellOfLine 46 = .ok (.aload_n 0, 1) := by decide +kernel
theorem dX11_cellOfLine_47 : decode cX11_cellOfLine 47 = .ok (.aload_n 3, 1) := by decide +kernel
theorem dX11_cellOfLine_48 : decode cX11_cellOfLine 48 = .ok (.getfield 301, 3) := by decide +kernel
theorem dX11_cellOfLine_51 : decode cX11_cellOfLine 51 = .ok (.iload_n 2, 1) := by decide +kernel
theorem dX11_cellOfLine_52 : decode cX11_cellOfLine 52 = .ok (.iaload, 1) := by decide +kernel
theorem dX11_cellOfLine_53 : decode cX11_cellOfLine 53 = .ok (.invokevirtual 109, 3) := by decide +kernel
theorem dX11_cellOfLine_56 : decode cX11_cellOfLine 56 = .ok (.ireturn, 1) := by decide +kernel
theorem dX11_page_0 : decode cX11_page 0 = .ok (.iload_n 1, 1) := by decide +kernel
theorem dX11_page_1 : decode cX11_page 1 = .ok (.ifCond .lt 23, 3) := by decide +kernel
theorem dX11_page_4 : decode cX11_page 4 = .ok (.iload_n 1, 1) := by decide +kernel
theorem dX11_page_5 : decode cX11_page 5 = .ok (.aload_n 0, 1) := by decide +kernel
theorem dX11_page_6 : decode cX11_page 6 = .ok (.invokevirtual 302, 3) := by decide +kernel
theorem dX11_page_9 : decode cX11_page 9 = .ok (.if_icmp .ge 15, 3) := by decide +kernel
theorem dX11_page_12 : decode cX11_page 12 = .ok (.iload_n 2, 1) := by decide +kernel
theorem dX11_page_13 : decode cX11_page 13 = .ok (.ifCond .lt 11, 3) := by decide +kernel
theorem dX11_page_16 : decode cX11_page 16 = .ok (.iload_n 2, 1) := by decide +kernel
theorem dX11_page_17 : decode cX11_page 17 = .ok (.aload_n 0, 1) := by decide +kernel
theorem dX11_page_18 : decode cX11_page 18 = .ok (.getfield 78, 3) := by decide +kernel
theorem dX11_page_21 : decode cX11_page 21 = .ok (.if_icmp .lt 9, 3) := by decide +kernel
theorem dX11_page_24 : decode cX11_page 24 = .ok (.aload_n 0, 1) := by decide +kernel
theorem dX11_page_25 : decode cX11_page 25 = .ok (.iconst 2, 1) := by decide +kernel
theorem dX11_page_26 : decode cX11_page 26 = .ok (.invokevirtual 102, 3) := by decide +kernel
theorem dX11_page_29 : decode cX11_page 29 = .ok (.ireturn, 1) := by decide +kernel
theorem dX11_page_30 : decode cX11_page 30 = .ok (.aload_n 0, 1) := by decide +kernel
theorem dX11_page_31 : decode cX11_page 31 = .ok (.invokevirtual 285, 3) := by decide +kernel
theorem dX11_page_34 : decode cX11_page 34 = .ok (.ifCond .eq 7, 3) := by decide +kernel
theorem dX11_page_37 : decode cX11_page 37 = .ok (.iconst 1, 1) := by decide +kernel
theorem dX11_page_38 : decode cX11_page 38 = .ok (.goto 4, 3) := by decide +kernel
theorem dX11_page_41 : decode cX11_page 41 = .ok (.iconst 0, 1) := by decide +kernel
theorem dX11_page_42 : decode cX11_page 42 = .ok (.istore 4, 2) := by decide +kernel
theorem dX11_page_44 : decode cX11_page 44 = .ok (.iload_n 2, 1) := by decide +kernel
theorem dX11_page_45 : decode cX11_page 45 = .ok (.iload 4, 2) := by decide +kernel
theorem dX11_page_47 : decode cX11_page 47 = .ok (.if_icmp .ge 39, 3) := by decide +kernel
theorem dX11_page_50 : decode cX11_page 50 = .ok (.iload_n 3, 1) := by decide +kernel
theorem dX11_page_51 : decode cX11_page 51 = .ok (.ifCond .lt 14, 3) := by decide +kernel
theorem dX11_page_54 : decode cX11_page 54 = .ok (.iload_n 3, 1) := by decide +kernel
theorem dX11_page_55 : decode cX11_page 55 = .ok (.aload_n 0, 1) := by decide +kernel
theorem dX11_page_56 : decode cX11_page 56 = .ok (.getfield 24, 3) := by decide +kernel
theorem dX11_page_59 : decode cX11_page 59 = .ok (.getfield 99, 3) := by decide +kernel
theorem dX11_page_62 : decode cX11_page 62 = .ok (.if_icmp .lt 11, 3) := by decide +kernel
theorem dX11_page_65 : decode cX11_page 65 = .ok (.aload_n 0, 1) := by decide +kernel
theorem dX11_page_66 : decode cX11_page 66 = .ok (.iconst 2, 1) := by decide +kernel
theorem dX11_page_67 : decode cX11_page 67 = .ok (.invokevirtual 102, 3) := by decide +kernel
theorem dX11_page_70 : decode cX11_page 70 = .ok (.goto 15, 3) := by decide +kernel
theorem dX11_page_73 : decode cX11_page 73 = .ok (.aload_n 0, 1) := by decide +kernel
theorem dX11_page_74 : decode cX11_page 74 = .ok (.aload_n 0, 1) := by decide +kernel
theorem dX11_page_75 : decode cX11_page 75 = .ok (.getfield 24, 3) := by decide +kernel
theorem dX11_page_78 : decode cX11_page 78 = .ok (.iload_n 3, 1) := by decide +kernel
theorem dX11_page_79 : decode cX11_page 79 = .ok (.invokevirtual 224, 3) := by decide +kernel
theorem dX11_page_82 : decode cX11_page 82 = .ok (.invokevirtual 109, 3) := by decide +kernel
theorem dX11_page_85 : decode cX11_page 85 = .ok (.ireturn, 1) := by decide +kernel
theorem dX11_page_86 : decode cX11_page 86 = .ok (.aload_n 0, 1) := by decide +kernel
theorem dX11_page_87 : decode cX11_page 87 = .ok (.iload_n 1, 1) := by decide +kernel
theorem dX11_page_88 : decode cX11_page 88 = .ok (.aload_n 0, 1) := by decide +kernel
theorem dX11_page_89 : decode cX11_page 89 = .ok (.invokevirtual 282, 3) := by decide +kernel
theorem dX11_page_92 : decode cX11_page 92 = .ok (.imul, 1) := by decide +kernel
theorem dX11_page_93 : decode cX11_page 93 = .ok (.iload_n 2, 1) := by decide +kernel
theorem dX11_page_94 : decode cX11_page 94 = .ok (.iadd, 1) := by decide +kernel
theorem dX11_page_95 : decode cX11_page 95 = .ok (.iload 4, 2) := by decide +kernel
theorem dX11_page_97 : decode cX11_page 97 = .ok (.isub, 1) := by decide +kernel
theorem dX11_page_98 : decode cX11_page 98 = .ok (.iload_n 3, 1) := by decide +kernel
theorem dX11_page_99 : decode cX11_page 99 = .ok (.invokevirtual 298, 3) := by decide +kernel
theorem dX11_page_102 : decode cX11_page 102 = .ok (.ireturn, 1) := by decide +kernel
theorem dX11_cut_0 : decode cX11_cut 0 = .ok (.iload_n 2, 1) := by decide +kernel
theorem dX11_cut_1 : decode cX11_cut 1 = .ok (.sipush 200, 3) := by decide +kernel
theorem dX11_cut_4 : decode cX11_cut 4 = .ok (.if_icmp .le 10, 3) := by decide +kernel
theorem dX11_cut_7 : decode cX11_cut 7 = .ok (.aload_n 0, 1) := by decide +kernel
theorem dX11_cut_8 : decode cX11_cut 8 = .ok (.bipush 6, 2) := by decide +kernel
theorem dX11_cut_10 : decode cX11_cut 10 = .ok (.invokevirtual 102, 3) := by decide +kernel
theorem dX11_cut_13 : decode cX11_cut 13 = .ok (.ireturn, 1) := by decide +kernel
theorem dX11_cut_14 : decode cX11_cut 14 = .ok (.iload_n 2, 1) := by decide +kernel
theorem dX11_cut_15 : decode cX11_cut 15 = .ok (.ifCond .ge 9, 3) := by decide +kernel
theorem dX11_cut_18 : decode cX11_cut 18 = .ok (.aload_n 0, 1) := by decide +kernel
theorem dX11_cut_19 : decode cX11_cut 19 = .ok (.iconst 5, 1) := by decide +kernel
theorem dX11_cut_20 : decode cX11_cut 20 = .ok (.invokevirtual 102, 3) := by decide +kernel
theorem dX11_cut_23 : decode cX11_cut 23 = .ok (.ireturn, 1) := by decide +kernel
theorem dX11_cut_24 : decode cX11_cut 24 = .ok (.aload_n 0, 1) := by decide +kernel
theorem dX11_cut_25 : decode cX11_cut 25 = .ok (.getfield 67, 3) := by decide +kernel
theorem dX11_cut_28 : decode cX11_cut 28 = .ok (.iload_n 1, 1) := by decide +kernel
theorem dX11_cut_29 : decode cX11_cut 29 = .ok (.invokevirtual 288, 3) := by decide +kernel
theorem dX11_cut_32 : decode cX11_cut 32 = .ok (.astore_n 3, 1) := by decide +kernel
theorem dX11_cut_33 : decode cX11_cut 33 = .ok (.aload_n 3, 1) := by decide +kernel
theorem dX11_cut_34 : decode cX11_cut 34 = .ok (.ifnonnull 16, 3) := by decide +kernel
theorem dX11_cut_37 : decode cX11_cut 37 = .ok (.aload_n 0, 1) := by decide +kernel
theorem dX11_cut_38 : decode cX11_cut 38 = .ok (.aload_n 0, 1) := by decide +kernel
theorem dX11_cut_39 : decode cX11_cut 39 = .ok (.getfield 67, 3) := by decide +kernel
theorem dX11_cut_42 : decode cX11_cut 42 = .ok (.iload_n 1, 1) := by decide +kernel
theorem dX11_cut_43 : decode cX11_cut 43 = .ok (.invokevirtual 292, 3) := by decide +kernel
theorem dX11_cut_46 : decode cX11_cut 46 = .ok (.invokevirtual 102, 3) := by decide +kernel
theorem dX11_cut_49 : decode cX11_cut 49 = .ok (.ireturn, 1) := by decide +kernel
theorem dX11_cut_50 : decode cX11_cut 50 = .ok (.aload_n 3, 1) := by decide +kernel
theorem dX11_cut_51 : decode cX11_cut 51 = .ok (.iload_n 2, 1) := by decide +kernel
theorem dX11_cut_52 : decode cX11_cut 52 = .ok (.invokevirtual 305, 3) := by decide +kernel
theorem dX11_cut_55 : decode cX11_cut 55 = .ok (.aload_n 0, 1) := by decide +kernel
theorem dX11_cut_56 : decode cX11_cut 56 = .ok (.iload_n 2, 1) := by decide +kernel
theorem dX11_cut_57 : decode cX11_cut 57 = .ok (.invokevirtual 109, 3) := by decide +kernel
theorem dX11_cut_60 : decode cX11_cut 60 = .ok (.ireturn, 1) := by decide +kernel
theorem dX11_lose_0 : decode cX11_lose 0 = .ok (.aload_n 0, 1) := by decide +kernel
theorem dX11_lose_1 : decode cX11_lose 1 = .ok (.getfield 67, 3) := by decide +kernel
theorem dX11_lose_4 : decode cX11_lose 4 = .ok (.iload_n 1, 1) := by decide +kernel
theorem dX11_lose_5 : decode cX11_lose 5 = .ok (.invokevirtual 308, 3) := by decide +kernel
theorem dX11_lose_8 : decode cX11_lose 8 = .ok (.astore_n 2, 1) := by decide +kernel
theorem dX11_lose_9 : decode cX11_lose 9 = .ok (.aload_n 2, 1) := by decide +kernel
theorem dX11_lose_10 : decode cX11_lose 10 = .ok (.ifnonnull 9, 3) := by decide +kernel
theorem dX11_lose_13 : decode cX11_lose 13 = .ok (.aload_n 0, 1) := by decide +kernel
theorem dX11_lose_14 : decode cX11_lose 14 = .ok (.iconst 2, 1) := by decide +kernel
theorem dX11_lose_15 : decode cX11_lose 15 = .ok (.invokevirtual 102, 3) := by decide +kernel
theorem dX11_lose_18 : decode cX11_lose 18 = .ok (.ireturn, 1) := by decide +kernel
theorem dX11_lose_19 : decode cX11_lose 19 = .ok (.aload_n 2, 1) := by decide +kernel
theorem dX11_lose_20 : decode cX11_lose 20 = .ok (.iconst 1, 1) := by decide +kernel
theorem dX11_lose_21 : decode cX11_lose 21 = .ok (.putfield 310, 3) := by decide +kernel
theorem dX11_lose_24 : decode cX11_lose 24 = .ok (.aload_n 0, 1) := by decide +kernel
theorem dX11_lose_25 : decode cX11_lose 25 = .ok (.iconst 1, 1) := by decide +kernel
theorem dX11_lose_26 : decode cX11_lose 26 = .ok (.invokevirtual 109, 3) := by decide +kernel
theorem dX11_lose_29 : decode cX11_lose 29 = .ok (.ireturn, 1) := by decide +kernel
theorem dX11_copyRow_0 : decode cX11_copyRow 0 = .ok (.aload_n 0, 1) := by decide +kernel
theorem dX11_copyRow_1 : decode cX11_copyRow 1 = .ok (.getfield 67, 3) := by decide +kernel
theorem dX11_copyRow_4 : decode cX11_copyRow 4 = .ok (.iload_n 1, 1) := by decide +kernel
theorem dX11_copyRow_5 : decode cX11_copyRow 5 = .ok (.invokevirtual 308, 3) := by decide +kernel
theorem dX11_copyRow_8 : decode cX11_copyRow 8 = .ok (.astore 6, 2) := by decide +kernel
theorem dX11_copyRow_10 : decode cX11_copyRow 10 = .ok (.aload_n 0, 1) := by decide +kernel
theorem dX11_copyRow_11 : decode cX11_copyRow 11 = .ok (.getfield 67, 3) := by decide +kernel
theorem dX11_copyRow_14 : decode cX11_copyRow 14 = .ok (.iload_n 3, 1) := by decide +kernel
theorem dX11_copyRow_15 : decode cX11_copyRow 15 = .ok (.invokevirtual 308, 3) := by decide +kernel
theorem dX11_copyRow_18 : decode cX11_copyRow 18 = .ok (.astore 7, 2) := by decide +kernel
theorem dX11_copyRow_20 : decode cX11_copyRow 20 = .ok (.aload 6, 2) := by decide +kernel
theorem dX11_copyRow_22 : decode cX11_copyRow 22 = .ok (.ifnull 8, 3) := by decide +kernel
theorem dX11_copyRow_25 : decode cX11_copyRow 25 = .ok (.aload 7, 2) := by decide +kernel
theorem dX11_copyRow_27 : decode cX11_copyRow 27 = .ok (.ifnonnull 9, 3) := by decide +kernel
theorem dX11_copyRow_30 : decode cX11_copyRow 30 = .ok (.aload_n 0, 1) := by decide +kernel
theorem dX11_copyRow_31 : decode cX11_copyRow 31 = .ok (.iconst 2, 1) := by decide +kernel
theorem dX11_copyRow_32 : decode cX11_copyRow 32 = .ok (.invokevirtual 102, 3) := by decide +kernel
theorem dX11_copyRow_35 : decode cX11_copyRow 35 = .ok (.ireturn, 1) := by decide +kernel
theorem dX11_copyRow_36 : decode cX11_copyRow 36 = .ok (.aload 6, 2) := by decide +kernel
theorem dX11_copyRow_38 : decode cX11_copyRow 38 = .ok (.getfield 310, 3) := by decide +kernel
theorem dX11_copyRow_41 : decode cX11_copyRow 41 = .ok (.ifCond .ne 11, 3) := by decide +kernel
theorem dX11_copyRow_44 : decode cX11_copyRow 44 = .ok (.aload 7, 2) := by decide +kernel
theorem dX11_copyRow_46 : decode cX11_copyRow 46 = .ok (.getfield 310, 3) := by decide +kernel
theorem dX11_copyRow_49 : decode cX11_copyRow 49 = .ok (.ifCond .eq 9, 3) := by decide +kernel
theorem dX11_copyRow_52 : decode cX11_copyRow 52 = .ok (.aload_n 0, 1) := by decide +kernel
theorem dX11_copyRow_53 : decode cX11_copyRow 53 = .ok (.iconst 1, 1) := by decide +kernel
theorem dX11_copyRow_54 : decode cX11_copyRow 54 = .ok (.invokevirtual 102, 3) := by decide +kernel
theorem dX11_copyRow_57 : decode cX11_copyRow 57 = .ok (.ireturn, 1) := by decide +kernel
theorem dX11_copyRow_58 : decode cX11_copyRow 58 = .ok (.aload 6, 2) := by decide +kernel
theorem dX11_copyRow_60 : decode cX11_copyRow 60 = .ok (.iload_n 2, 1) := by decide +kernel
theorem dX11_copyRow_61 : decode cX11_copyRow 61 = .ok (.iload 5, 2) := by decide +kernel
theorem dX11_copyRow_63 : decode cX11_copyRow 63 = .ok (.invokevirtual 313, 3) := by decide +kernel
theorem dX11_copyRow_66 : decode cX11_copyRow 66 = .ok (.ifCond .eq 15, 3) := by decide +kernel
theorem dX11_copyRow_69 : decode cX11_copyRow 69 = .ok (.aload 7, 2) := by decide +kernel
theorem dX11_copyRow_71 : decode cX11_copyRow 71 = .ok (.iload 4, 2) := by decide +kernel
theorem dX11_copyRow_73 : decode cX11_copyRow 73 = .ok (.iload 5, 2) := by decide +kernel
theorem dX11_copyRow_75 : decode cX11_copyRow 75 = .ok (.invokevirtual 313, 3) := by decide +kernel
theorem dX11_copyRow_78 : decode cX11_copyRow 78 = .ok (.ifCond .ne 9, 3) := by decide +kernel
theorem dX11_copyRow_81 : decode cX11_copyRow 81 = .ok (.aload_n 0, 1) := by decide +kernel
theorem dX11_copyRow_82 : decode cX11_copyRow 82 = .ok (.iconst 2, 1) := by decide +kernel
theorem dX11_copyRow_83 : decode cX11_copyRow 83 = .ok (.invokevirtual 102, 3) := by decide +kernel
theorem dX11_copyRow_86 : decode cX11_copyRow 86 = .ok (.ireturn, 1) := by decide +kernel
theorem dX11_copyRow_87 : decode cX11_copyRow 87 = .ok (.aload 6, 2) := by decide +kernel
theorem dX11_copyRow_89 : decode cX11_copyRow 89 = .ok (.getfield 301, 3) := by decide +kernel
theorem dX11_copyRow_92 : decode cX11_copyRow 92 = .ok (.iload_n 2, 1) := by decide +kernel
theorem dX11_copyRow_93 : decode cX11_copyRow 93 = .ok (.aload 7, 2) := by decide +kernel
theorem dX11_copyRow_95 : decode cX11_copyRow 95 = .ok (.getfield 301, 3) := by decide +kernel
theorem dX11_copyRow_98 : decode cX11_copyRow 98 = .ok (.iload 4, 2) := by decide +kernel
theorem dX11_copyRow_100 : decode cX11_copyRow 100 = .ok (.iload 5, 2) := by decide +kernel
theorem dX11_copyRow_102 : decode cX11_copyRow 102 = .ok (.invokestatic 316, 3) := by decide +kernel
theorem dX11_copyRow_105 : decode cX11_copyRow 105 = .ok (.aload_n 0, 1) := by decide +kernel
theorem dX11_copyRow_106 : decode cX11_copyRow 106 = .ok (.iload 5, 2) := by decide +kernel
theorem dX11_copyRow_108 : decode cX11_copyRow 108 = .ok (.invokevirtual 109, 3) := by decide +kernel
theorem dX11_copyRow_111 : decode cX11_copyRow 111 = .ok (.ireturn, 1) := by decide +kernel
theorem dX11_copyLines_0 : decode cX11_copyLines 0 = .ok (.iload_n 3, 1) := by decide +kernel
theorem dX11_copyLines_1 : decode cX11_copyLines 1 = .ok (.bipush 10, 2) := by decide +kernel
theorem dX11_copyLines_3 : decode cX11_copyLines 3 = .ok (.if_icmp .le 10, 3) := by decide +kernel
theorem dX11_copyLines_6 : decode cX11_copyLines 6 = .ok (.aload_n 0, 1) := by decide +kernel
theorem dX11_copyLines_7 : decode cX11_copyLines 7 = .ok (.bipush 6, 2) := by decide +kernel
theorem dX11_copyLines_9 : decode cX11_copyLines 9 = .ok (.invokevirtual 102, 3) := by decide +kernel
theorem dX11_copyLines_12 : decode cX11_copyLines 12 = .ok (.ireturn, 1) := by decide +kernel
theorem dX11_copyLines_13 : decode cX11_copyLines 13 = .ok (.iload_n 3, 1) := by decide +kernel
theorem dX11_copyLines_14 : decode cX11_copyLines 14 = .ok (.ifCond .ge 9, 3) := by decide +kernel
theorem dX11_copyLines_17 : decode cX11_copyLines 17 = .ok (.aload_n 0, 1) := by decide +kernel
theorem dX11_copyLines_18 : decode cX11_copyLines 18 = .ok (.iconst 5, 1) := by decide +kernel
theorem dX11_copyLines_19 : decode cX11_copyLines 19 = .ok (.invokevirtual 102, 3) := by decide +kernel
theorem dX11_copyLines_22 : decode cX11_copyLines 22 = .ok (.ireturn, 1) := by decide +kernel
theorem dX11_copyLines_23 : decode cX11_copyLines 23 = .ok (.aload_n 0, 1) := by decide +kernel
theorem dX11_copyLines_24 : decode cX11_copyLines 24 = .ok (.iconst 0, 1) := by decide +kernel
theorem dX11_copyLines_25 : decode cX11_copyLines 25 = .ok (.putfield 87, 3) := by decide +kernel
theorem dX11_copyLines_28 : decode cX11_copyLines 28 = .ok (.iconst 0, 1) := by decide +kernel
theorem dX11_copyLines_29 : decode cX11_copyLines 29 = .ok (.istore 4, 2) := by decide +kernel
theorem dX11_copyLines_31 : decode cX11_copyLines 31 = .ok (.iload 4, 2) := by decide +kernel
theorem dX11_copyLines_33 : decode cX11_copyLines 33 = .ok (.iload_n 3, 1) := by decide +kernel
theorem dX11_copyLines_34 : decode cX11_copyLines 34 = .ok (.if_icmp .ge 82, 3) := by decide +kernel
theorem dX11_copyLines_37 : decode cX11_copyLines 37 = .ok (.aload_n 0, 1) := by decide +kernel
theorem dX11_copyLines_38 : decode cX11_copyLines 38 = .ok (.getfield 67, 3) := by decide +kernel
theorem dX11_copyLines_41 : decode cX11_copyLines 41 = .ok (.iload_n 1, 1) := by decide +kernel
theorem dX11_copyLines_42 : decode cX11_copyLines 42 = .ok (.iload 4, 2) := by decide +kernel
theorem dX11_copyLines_44 : decode cX11_copyLines 44 = .ok (.iadd, 1) := by decide +kernel
theorem dX11_copyLines_45 : decode cX11_copyLines 45 = .ok (.invokevirtual 308, 3) := by decide +kernel
theorem dX11_copyLines_48 : decode cX11_copyLines 48 = .ok (.astore 5, 2) := by decide +kernel
theorem dX11_copyLines_50 : decode cX11_copyLines 50 = .ok (.aload_n 0, 1) := by decide +kernel
theorem dX11_copyLines_51 : decode cX11_copyLines 51 = .ok (.getfield 67, 3) := by decide +kernel
theorem dX11_copyLines_54 : decode cX11_copyLines 54 = .ok (.iload_n 2, 1) := by decide +kernel
theorem dX11_copyLines_55 : decode cX11_copyLines 55 = .ok (.iload 4, 2) := by decide +kernel
theorem dX11_copyLines_57 : decode cX11_copyLines 57 = .ok (.iadd, 1) := by decide +kernel
theorem dX11_copyLines_58 : decode cX11_copyLines 58 = .ok (.invokevirtual 308, 3) := by decide +kernel
theorem dX11_copyLines_61 : decode cX11_copyLines 61 = .ok (.astore 6, 2) := by decide +kernel
theorem dX11_copyLines_63 : decode cX11_copyLines 63 = .ok (.aload 5, 2) := by decide +kernel
theorem dX11_copyLines_65 : decode cX11_copyLines 65 = .ok (.ifnull 8, 3) := by decide +kernel
theorem dX11_copyLines_68 : decode cX11_copyLines 68 = .ok (.aload 6, 2) := by decide +kernel
theorem dX11_copyLines_70 : decode cX11_copyLines 70 = .ok (.ifnonnull 9, 3) := by decide +kernel
theorem dX11_copyLines_73 : decode cX11_copyLines 73 = .ok (.aload_n 0, 1) := by decide +kernel
theorem dX11_copyLines_74 : decode cX11_copyLines 74 = .ok (.iconst 2, 1) := by decide +kernel
theorem dX11_copyLines_75 : decode cX11_copyLines 75 = .ok (.invokevirtual 102, 3) := by decide +kernel
theorem dX11_copyLines_78 : decode cX11_copyLines 78 = .ok (.ireturn, 1) := by decide +kernel
theorem dX11_copyLines_79 : decode cX11_copyLines 79 = .ok (.aload 5, 2) := by decide +kernel
theorem dX11_copyLines_81 : decode cX11_copyLines 81 = .ok (.getfield 310, 3) := by decide +kernel
theorem dX11_copyLines_84 : decode cX11_copyLines 84 = .ok (.ifCond .eq 9, 3) := by decide +kernel
theorem dX11_copyLines_87 : decode cX11_copyLines 87 = .ok (.aload_n 0, 1) := by decide +kernel
theorem dX11_copyLines_88 : decode cX11_copyLines 88 = .ok (.iconst 1, 1) := by decide +kernel
theorem dX11_copyLines_89 : decode cX11_copyLines 89 = .ok (.invokevirtual 102, 3) := by decide +kernel
theorem dX11_copyLines_92 : decode cX11_copyLines 92 = .ok (.ireturn, 1) := by decide +kernel
theorem dX11_copyLines_93 : decode cX11_copyLines 93 = .ok (.aload 6, 2) := by decide +kernel
theorem dX11_copyLines_95 : decode cX11_copyLines 95 = .ok (.aload 5, 2) := by decide +kernel
theorem dX11_copyLines_97 : decode cX11_copyLines 97 = .ok (.invokevirtual 322, 3) := by decide +kernel
theorem dX11_copyLines_100 : decode cX11_copyLines 100 = .ok (.aload_n 0, 1) := by decide +kernel
theorem dX11_copyLines_101 : decode cX11_copyLines 101 = .ok (.dup, 1) := by decide +kernel
theorem dX11_copyLines_102 : decode cX11_copyLines 102 = .ok (.getfield 87, 3) := by decide +kernel
theorem dX11_copyLines_105 : decode cX11_copyLines 105 = .ok (.iconst 1, 1) := by decide +kernel
theorem dX11_copyLines_106 : decode cX11_copyLines 106 = .ok (.iadd, 1) := by decide +kernel
theorem dX11_copyLines_107 : decode cX11_copyLines 107 = .ok (.putfield 87, 3) := by decide +kernel
theorem dX11_copyLines_110 : decode cX11_copyLines 110 = .ok (.iinc 4 1, 3) := by decide +kernel
theorem dX11_copyLines_113 : decode cX11_copyLines 113 = .ok (.goto (-82), 3) := by decide +kernel
theorem dX11_copyLines_116 : decode cX11_copyLines 116 = .ok (.aload_n 0, 1) := by decide +kernel
theorem dX11_copyLines_117 : decode cX11_copyLines 117 = .ok (.iload_n 3, 1) := by decide +kernel
theorem dX11_copyLines_118 : decode cX11_copyLines 118 = .ok (.invokevirtual 109, 3) := by decide +kernel
theorem dX11_copyLines_121 : decode cX11_copyLines 121 = .ok (.ireturn, 1) := by decide +kernel
theorem dX11_copied_0 : decode cX11_copied 0 = .ok (.aload_n 0, 1) := by decide +kernel
theorem dX11_copied_1 : decode cX11_copied 1 = .ok (.getfield 87, 3) := by decide +kernel
theorem dX11_copied_4 : decode cX11_copied 4 = .ok (.ireturn, 1) := by decide +kernel
theorem dX11_emboss_0 : decode cX11_emboss 0 = .ok (.iload_n 2, 1) := by decide +kernel
theorem dX11_emboss_1 : decode cX11_emboss 1 = .ok (.sipush 200, 3) := by decide +kernel
theorem dX11_emboss_4 : decode cX11_emboss 4 = .ok (.if_icmp .le 10, 3) := by decide +kernel
theorem dX11_emboss_7 : decode cX11_emboss 7 = .ok (.aload_n 0, 1) := by decide +kernel
theorem dX11_emboss_8 : decode cX11_emboss 8 = .ok (.bipush 6, 2) := by decide +kernel
theorem dX11_emboss_10 : decode cX11_emboss 10 = .ok (.invokevirtual 102, 3) := by decide +kernel
theorem dX11_emboss_13 : decode cX11_emboss 13 = .ok (.ireturn, 1) := by decide +kernel
theorem dX11_emboss_14 : decode cX11_emboss 14 = .ok (.iload_n 2, 1) := by decide +kernel
theorem dX11_emboss_15 : decode cX11_emboss 15 = .ok (.ifCond .ge 9, 3) := by decide +kernel
theorem dX11_emboss_18 : decode cX11_emboss 18 = .ok (.aload_n 0, 1) := by decide +kernel
theorem dX11_emboss_19 : decode cX11_emboss 19 = .ok (.iconst 5, 1) := by decide +kernel
theorem dX11_emboss_20 : decode cX11_emboss 20 = .ok (.invokevirtual 102, 3) := by decide +kernel
theorem dX11_emboss_23 : decode cX11_emboss 23 = .ok (.ireturn, 1) := by decide +kernel
theorem dX11_emboss_24 : decode cX11_emboss 24 = .ok (.iconst 0, 1) := by decide +kernel
theorem dX11_emboss_25 : decode cX11_emboss 25 = .ok (.istore_n 3, 1) := by decide +kernel
theorem dX11_emboss_26 : decode cX11_emboss 26 = .ok (.iconst 0, 1) := by decide +kernel
theorem dX11_emboss_27 : decode cX11_emboss 27 = .ok (.istore 4, 2) := by decide +kernel
theorem dX11_emboss_29 : decode cX11_emboss 29 = .ok (.iload 4, 2) := by decide +kernel
theorem dX11_emboss_31 : decode cX11_emboss 31 = .ok (.iload_n 2, 1) := by decide +kernel
theorem dX11_emboss_32 : decode cX11_emboss 32 = .ok (.if_icmp .ge 89, 3) := by decide +kernel
theorem dX11_emboss_35 : decode cX11_emboss 35 = .ok (.aload_n 0, 1) := by decide +kernel
theorem dX11_emboss_36 : decode cX11_emboss 36 = .ok (.dup, 1) := by decide +kernel
theorem dX11_emboss_37 : decode cX11_emboss 37 = .ok (.getfield 90, 3) := by decide +kernel
theorem dX11_emboss_40 : decode cX11_emboss 40 = .ok (.iconst 1, 1) := by decide +kernel
theorem dX11_emboss_41 : decode cX11_emboss 41 = .ok (.iadd, 1) := by decide +kernel
theorem dX11_emboss_42 : decode cX11_emboss 42 = .ok (.putfield 90, 3) := by decide +kernel
theorem dX11_emboss_45 : decode cX11_emboss 45 = .ok (.aload_n 0, 1) := by decide +kernel
theorem dX11_emboss_46 : decode cX11_emboss 46 = .ok (.getfield 67, 3) := by decide +kernel
theorem dX11_emboss_49 : decode cX11_emboss 49 = .ok (.iload_n 1, 1) := by decide +kernel
theorem dX11_emboss_50 : decode cX11_emboss 50 = .ok (.iload 4, 2) := by decide +kernel
theorem dX11_emboss_52 : decode cX11_emboss 52 = .ok (.iadd, 1) := by decide +kernel
theorem dX11_emboss_53 : decode cX11_emboss 53 = .ok (.invokevirtual 308, 3) := by decide +kernel
theorem dX11_emboss_56 : decode cX11_emboss 56 = .ok (.astore 5, 2) := by decide +kernel
theorem dX11_emboss_58 : decode cX11_emboss 58 = .ok (.aload 5, 2) := by decide +kernel
theorem dX11_emboss_60 : decode cX11_emboss 60 = .ok (.ifnonnull 9, 3) := by decide +kernel
theorem dX11_emboss_63 : decode cX11_emboss 63 = .ok (.aload_n 0, 1) := by decide +kernel
theorem dX11_emboss_64 : decode cX11_emboss 64 = .ok (.iconst 2, 1) := by decide +kernel
theorem dX11_emboss_65 : decode cX11_emboss 65 = .ok (.invokevirtual 102, 3) := by decide +kernel
theorem dX11_emboss_68 : decode cX11_emboss 68 = .ok (.ireturn, 1) := by decide +kernel
theorem dX11_emboss_69 : decode cX11_emboss 69 = .ok (.aload 5, 2) := by decide +kernel
theorem dX11_emboss_71 : decode cX11_emboss 71 = .ok (.getfield 310, 3) := by decide +kernel
theorem dX11_emboss_74 : decode cX11_emboss 74 = .ok (.ifCond .ne 21, 3) := by decide +kernel
theorem dX11_emboss_77 : decode cX11_emboss 77 = .ok (.aload 5, 2) := by decide +kernel
theorem dX11_emboss_79 : decode cX11_emboss 79 = .ok (.getfield 295, 3) := by decide +kernel
theorem dX11_emboss_82 : decode cX11_emboss 82 = .ok (.aload_n 0, 1) := by decide +kernel
theorem dX11_emboss_83 : decode cX11_emboss 83 = .ok (.getfield 74, 3) := by decide +kernel
theorem dX11_emboss_86 : decode cX11_emboss 86 = .ok (.if_icmp .le 9, 3) := by decide +kernel
theorem dX11_emboss_89 : decode cX11_emboss 89 = .ok (.aload_n 0, 1) := by decide +kernel
theorem dX11_emboss_90 : decode cX11_emboss 90 = .ok (.iload_n 3, 1) := by decide +kernel
theorem dX11_emboss_91 : decode cX11_emboss 91 = .ok (.invokevirtual 109, 3) := by decide +kernel
theorem dX11_emboss_94 : decode cX11_emboss 94 = .ok (.ireturn, 1) := by decide +kernel
theorem dX11_emboss_95 : decode cX11_emboss 95 = .ok (.iload_n 3, 1) := by decide +kernel
theorem dX11_emboss_96 : decode cX11_emboss 96 = .ok (.aload 5, 2) := by decide +kernel
theorem dX11_emboss_98 : decode cX11_emboss 98 = .ok (.getfield 310, 3) := by decide +kernel
theorem dX11_emboss_101 : decode cX11_emboss 101 = .ok (.ifCond .eq 7, 3) := by decide +kernel
theorem dX11_emboss_104 : decode cX11_emboss 104 = .ok (.iconst 0, 1) := by decide +kernel
theorem dX11_emboss_105 : decode cX11_emboss 105 = .ok (.goto 8, 3) := by decide +kernel
theorem dX11_emboss_108 : decode cX11_emboss 108 = .ok (.aload 5, 2) := by decide +kernel
theorem dX11_emboss_110 : decode cX11_emboss 110 = .ok (.invokevirtual 326, 3) := by decide +kernel
theorem dX11_emboss_113 : decode cX11_emboss 113 = .ok (.iadd, 1) := by decide +kernel
theorem dX11_emboss_114 : decode cX11_emboss 114 = .ok (.istore_n 3, 1) := by decide +kernel
theorem dX11_emboss_115 : decode cX11_emboss 115 = .ok (.iinc 4 1, 3) := by decide +kernel
theorem dX11_emboss_118 : decode cX11_emboss 118 = .ok (.goto (-89), 3) := by decide +kernel
theorem dX11_emboss_121 : decode cX11_emboss 121 = .ok (.aload_n 0, 1) := by decide +kernel
theorem dX11_emboss_122 : decode cX11_emboss 122 = .ok (.iload_n 3, 1) := by decide +kernel
theorem dX11_emboss_123 : decode cX11_emboss 123 = .ok (.invokevirtual 109, 3) := by decide +kernel
theorem dX11_emboss_126 : decode cX11_emboss 126 = .ok (.ireturn, 1) := by decide +kernel
theorem dX11_closed_0 : decode cX11_closed 0 = .ok (.aload_n 0, 1) := by decide +kernel
theorem dX11_closed_1 : decode cX11_closed 1 = .ok (.getfield 90, 3) := by decide +kernel
theorem dX11_closed_4 : decode cX11_closed 4 = .ok (.ireturn, 1) := by decide +kernel
theorem dX11_read_0 : decode cX11_read 0 = .ok (.aload_n 0, 1) := by decide +kernel
theorem dX11_read_1 : decode cX11_read 1 = .ok (.getfield 30, 3) := by decide +kernel
theorem dX11_read_4 : decode cX11_read 4 = .ok (.iload_n 1, 1) := by decide +kernel
theorem dX11_read_5 : decode cX11_read 5 = .ok (.invokevirtual 231, 3) := by decide +kernel
theorem dX11_read_8 : decode cX11_read 8 = .ok (.astore 4, 2) := by decide +kernel
theorem dX11_read_10 : decode cX11_read 10 = .ok (.aload 4, 2) := by decide +kernel
theorem dX11_read_12 : decode cX11_read 12 = .ok (.ifnonnull 9, 3) := by decide +kernel
theorem dX11_read_15 : decode cX11_read 15 = .ok (.aload_n 0, 1) := by decide +kernel
theorem dX11_read_16 : decode cX11_read 16 = .ok (.iconst 3, 1) := by decide +kernel
theorem dX11_read_17 : decode cX11_read 17 = .ok (.invokevirtual 102, 3) := by decide +kernel
theorem dX11_read_20 : decode cX11_read 20 = .ok (.ireturn, 1) := by decide +kernel
theorem dX11_read_21 : decode cX11_read 21 = .ok (.iload_n 3, 1) := by decide +kernel
theorem dX11_read_22 : decode cX11_read 22 = .ok (.ifCond .ge 9, 3) := by decide +kernel
theorem dX11_read_25 : decode cX11_read 25 = .ok (.aload_n 0, 1) := by decide +kernel
theorem dX11_read_26 : decode cX11_read 26 = .ok (.iconst 5, 1) := by decide +kernel
theorem dX11_read_27 : decode cX11_read 27 = .ok (.invokevirtual 102, 3) := by decide +kernel
theorem dX11_read_30 : decode cX11_read 30 = .ok (.ireturn, 1) := by decide +kernel
theorem dX11_read_31 : decode cX11_read 31 = .ok (.iconst 0, 1) := by decide +kernel
theorem dX11_read_32 : decode cX11_read 32 = .ok (.istore 5, 2) := by decide +kernel
theorem dX11_read_34 : decode cX11_read 34 = .ok (.iload 5, 2) := by decide +kernel
theorem dX11_read_36 : decode cX11_read 36 = .ok (.iload_n 3, 1) := by decide +kernel
theorem dX11_read_37 : decode cX11_read 37 = .ok (.if_icmp .ge 39, 3) := by decide +kernel
theorem dX11_read_40 : decode cX11_read 40 = .ok (.aload_n 0, 1) := by decide +kernel
theorem dX11_read_41 : decode cX11_read 41 = .ok (.getfield 67, 3) := by decide +kernel
theorem dX11_read_44 : decode cX11_read 44 = .ok (.iload_n 2, 1) := by decide +kernel
theorem dX11_read_45 : decode cX11_read 45 = .ok (.iload 5, 2) := by decide +kernel
theorem dX11_read_47 : decode cX11_read 47 = .ok (.iadd, 1) := by decide +kernel
theorem dX11_read_48 : decode cX11_read 48 = .ok (.invokevirtual 288, 3) := by decide +kernel
theorem dX11_read_51 : decode cX11_read 51 = .ok (.ifnonnull 19, 3) := by decide +kernel
theorem dX11_read_54 : decode cX11_read 54 = .ok (.aload_n 0, 1) := by decide +kernel
theorem dX11_read_55 : decode cX11_read 55 = .ok (.aload_n 0, 1) := by decide +kernel
theorem dX11_read_56 : decode cX11_read 56 = .ok (.getfield 67, 3) := by decide +kernel
theorem dX11_read_59 : decode cX11_read 59 = .ok (.iload_n 2, 1) := by decide +kernel
theorem dX11_read_60 : decode cX11_read 60 = .ok (.iload 5, 2) := by decide +kernel
theorem dX11_read_62 : decode cX11_read 62 = .ok (.iadd, 1) := by decide +kernel
theorem dX11_read_63 : decode cX11_read 63 = .ok (.invokevirtual 292, 3) := by decide +kernel
theorem dX11_read_66 : decode cX11_read 66 = .ok (.invokevirtual 102, 3) := by decide +kernel
theorem dX11_read_69 : decode cX11_read 69 = .ok (.ireturn, 1) := by decide +kernel
theorem dX11_read_70 : decode cX11_read 70 = .ok (.iinc 5 1, 3) := by decide +kernel
theorem dX11_read_73 : decode cX11_read 73 = .ok (.goto (-39), 3) := by decide +kernel
theorem dX11_read_76 : decode cX11_read 76 = .ok (.aload_n 0, 1) := by decide +kernel
theorem dX11_read_77 : decode cX11_read 77 = .ok (.iload_n 2, 1) := by decide +kernel
theorem dX11_read_78 : decode cX11_read 78 = .ok (.iload_n 3, 1) := by decide +kernel
theorem dX11_read_79 : decode cX11_read 79 = .ok (.invokevirtual 328, 3) := by decide +kernel
theorem dX11_read_82 : decode cX11_read 82 = .ok (.aload_n 0, 1) := by decide +kernel
theorem dX11_read_83 : decode cX11_read 83 = .ok (.getfield 51, 3) := by decide +kernel
theorem dX11_read_86 : decode cX11_read 86 = .ok (.aload 4, 2) := by decide +kernel
theorem dX11_read_88 : decode cX11_read 88 = .ok (.invokevirtual 331, 3) := by decide +kernel
theorem dX11_read_91 : decode cX11_read 91 = .ok (.aload_n 0, 1) := by decide +kernel
theorem dX11_read_92 : decode cX11_read 92 = .ok (.getfield 51, 3) := by decide +kernel
theorem dX11_read_95 : decode cX11_read 95 = .ok (.invokevirtual 335, 3) := by decide +kernel
theorem dX11_read_98 : decode cX11_read 98 = .ok (.istore 5, 2) := by decide +kernel
theorem dX11_read_100 : decode cX11_read 100 = .ok (.aload_n 0, 1) := by decide +kernel
theorem dX11_read_101 : decode cX11_read 101 = .ok (.getfield 21, 3) := by decide +kernel
theorem dX11_read_104 : decode cX11_read 104 = .ok (.invokevirtual 164, 3) := by decide +kernel
theorem dX11_read_107 : decode cX11_read 107 = .ok (.iload 5, 2) := by decide +kernel
theorem dX11_read_109 : decode cX11_read 109 = .ok (.ifCond .ne 17, 3) := by decide +kernel
theorem dX11_read_112 : decode cX11_read 112 = .ok (.aload_n 0, 1) := by decide +kernel
theorem dX11_read_113 : decode cX11_read 113 = .ok (.bipush 9, 2) := by decide +kernel
theorem dX11_read_115 : decode cX11_read 115 = .ok (.aload_n 0, 1) := by decide +kernel
theorem dX11_read_116 : decode cX11_read 116 = .ok (.getfield 51, 3) := by decide +kernel
theorem dX11_read_119 : decode cX11_read 119 = .ok (.invokevirtual 338, 3) := by decide +kernel
theorem dX11_read_122 : decode cX11_read 122 = .ok (.invokevirtual 266, 3) := by decide +kernel
theorem dX11_read_125 : decode cX11_read 125 = .ok (.ireturn, 1) := by decide +kernel
theorem dX11_read_126 : decode cX11_read 126 = .ok (.aload_n 0, 1) := by decide +kernel
theorem dX11_read_127 : decode cX11_read 127 = .ok (.getfield 51, 3) := by decide +kernel
theorem dX11_read_130 : decode cX11_read 130 = .ok (.getfield 341, 3) := by decide +kernel
theorem dX11_read_133 : decode cX11_read 133 = .ok (.getfield 99, 3) := by decide +kernel
theorem dX11_read_136 : decode cX11_read 136 = .ok (.sipush 4000, 3) := by decide +kernel
theorem dX11_read_139 : decode cX11_read 139 = .ok (.if_icmp .le 10, 3) := by decide +kernel
theorem dX11_read_142 : decode cX11_read 142 = .ok (.aload_n 0, 1) := by decide +kernel
theorem dX11_read_143 : decode cX11_read 143 = .ok (.bipush 6, 2) := by decide +kernel
theorem dX11_read_145 : decode cX11_read 145 = .ok (.invokevirtual 102, 3) := by decide +kernel
theorem dX11_read_148 : decode cX11_read 148 = .ok (.ireturn, 1) := by decide +kernel
theorem dX11_read_149 : decode cX11_read 149 = .ok (.aload_n 0, 1) := by decide +kernel
theorem dX11_read_150 : decode cX11_read 150 = .ok (.getfield 21, 3) := by decide +kernel
theorem dX11_read_153 : decode cX11_read 153 = .ok (.aload_n 0, 1) := by decide +kernel
theorem dX11_read_154 : decode cX11_read 154 = .ok (.getfield 51, 3) := by decide +kernel
theorem dX11_read_157 : decode cX11_read 157 = .ok (.getfield 341, 3) := by decide +kernel
theorem dX11_read_160 : decode cX11_read 160 = .ok (.invokevirtual 227, 3) := by decide +kernel
theorem dX11_read_163 : decode cX11_read 163 = .ok (.aload_n 0, 1) := by decide +kernel
theorem dX11_read_164 : decode cX11_read 164 = .ok (.aload_n 0, 1) := by decide +kernel
theorem dX11_read_165 : decode cX11_read 165 = .ok (.getfield 21, 3) := by decide +kernel
theorem dX11_read_168 : decode cX11_read 168 = .ok (.getfield 99, 3) := by decide +kernel
theorem dX11_read_171 : decode cX11_read 171 = .ok (.invokevirtual 109, 3) := by decide +kernel
theorem dX11_read_174 : decode cX11_read 174 = .ok (.ireturn, 1) := by decide +kernel
theorem dX11_chainLines_0 : decode cX11_chainLines 0 = .ok (.aload_n 0, 1) := by decide +kernel
theorem dX11_chainLines_1 : decode cX11_chainLines 1 = .ok (.getfield 51, 3) := by decide +kernel
theorem dX11_chainLines_4 : decode cX11_chainLines 4 = .ok (.invokevirtual 344, 3) := by decide +kernel
theorem dX11_chainLines_7 : decode cX11_chainLines 7 = .ok (.iconst 0, 1) := by decide +kernel
theorem dX11_chainLines_8 : decode cX11_chainLines 8 = .ok (.istore_n 3, 1) := by decide +kernel
theorem dX11_chainLines_9 : decode cX11_chainLines 9 = .ok (.iload_n 3, 1) := by decide +kernel
theorem dX11_chainLines_10 : decode cX11_chainLines 10 = .ok (.iload_n 2, 1) := by decide +kernel
theorem dX11_chainLines_11 : decode cX11_chainLines 11 = .ok (.if_icmp .ge 54, 3) := by decide +kernel
theorem dX11_chainLines_14 : decode cX11_chainLines 14 = .ok (.aload_n 0, 1) := by decide +kernel
theorem dX11_chainLines_15 : decode cX11_chainLines 15 = .ok (.getfield 67, 3) := by decide +kernel
theorem dX11_chainLines_18 : decode cX11_chainLines 18 = .ok (.iload_n 1, 1) := by decide +kernel
theorem dX11_chainLines_19 : decode cX11_chainLines 19 = .ok (.iload_n 3, 1) := by decide +kernel
theorem dX11_chainLines_20 : decode cX11_chainLines 20 = .ok (.iadd, 1) := by decide +kernel
theorem dX11_chainLines_21 : decode cX11_chainLines 21 = .ok (.invokevirtual 308, 3) := by decide +kernel
theorem dX11_chainLines_24 : decode cX11_chainLines 24 = .ok (.astore 4, 2) := by decide +kernel
theorem dX11_chainLines_26 : decode cX11_chainLines 26 = .ok (.aload 4, 2) := by decide +kernel
theorem dX11_chainLines_28 : decode cX11_chainLines 28 = .ok (.ifnull 31, 3) := by decide +kernel
theorem dX11_chainLines_31 : decode cX11_chainLines 31 = .ok (.aload_n 0, 1) := by decide +kernel
theorem dX11_chainLines_32 : decode cX11_chainLines 32 = .ok (.getfield 51, 3) := by decide +kernel
theorem dX11_chainLines_35 : decode cX11_chainLines 35 = .ok (.aload 4, 2) := by decide +kernel
theorem dX11_chainLines_37 : decode cX11_chainLines 37 = .ok (.iload_n 1, 1) := by decide +kernel
theorem dX11_chainLines_38 : decode cX11_chainLines 38 = .ok (.iload_n 3, 1) := by decide +kernel
theorem dX11_chainLines_39 : decode cX11_chainLines 39 = .ok (.iadd, 1) := by decide +kernel
theorem dX11_chainLines_40 : decode cX11_chainLines 40 = .ok (.aload_n 0, 1) := by decide +kernel
theorem dX11_chainLines_41 : decode cX11_chainLines 41 = .ok (.getfield 81, 3) := by decide +kernel
theorem dX11_chainLines_44 : decode cX11_chainLines 44 = .ok (.iload_n 3, 1) := by decide +kernel
theorem dX11_chainLines_45 : decode cX11_chainLines 45 = .ok (.iload_n 2, 1) := by decide +kernel
theorem dX11_chainLines_46 : decode cX11_chainLines 46 = .ok (.iconst 1, 1) := by decide +kernel
theorem dX11_chainLines_47 : decode cX11_chainLines 47 = .ok (.isub, 1) := by decide +kernel
theorem dX11_chainLines_48 : decode cX11_chainLines 48 = .ok (.if_icmp .ne 7, 3) := by decide +kernel
theorem dX11_chainLines_51 : decode cX11_chainLines 51 = .ok (.iconst 1, 1) := by decide +kernel
theorem dX11_chainLines_52 : decode cX11_chainLines 52 = .ok (.goto 4, 3) := by decide +kernel
theorem dX11_chainLines_55 : decode cX11_chainLines 55 = .ok (.iconst 0, 1) := by decide +kernel
theorem dX11_chainLines_56 : decode cX11_chainLines 56 = .ok (.invokevirtual 347, 3) := by decide +kernel
theorem dX11_chainLines_59 : decode cX11_chainLines 59 = .ok (.iinc 3 1, 3) := by decide +kernel
theorem dX11_chainLines_62 : decode cX11_chainLines 62 = .ok (.goto (-53), 3) := by decide +kernel
theorem dX11_chainLines_65 : decode cX11_chainLines 65 = .ok (.return_, 1) := by decide +kernel
theorem dX11_letter_0 : decode cX11_letter 0 = .ok (.iload_n 1, 1) := by decide +kernel
theorem dX11_letter_1 : decode cX11_letter 1 = .ok (.ifCond .lt 14, 3) := by decide +kernel
theorem dX11_letter_4 : decode cX11_letter 4 = .ok (.iload_n 1, 1) := by decide +kernel
theorem dX11_letter_5 : decode cX11_letter 5 = .ok (.aload_n 0, 1) := by decide +kernel
theorem dX11_letter_6 : decode cX11_letter 6 = .ok (.getfield 21, 3) := by decide +kernel
theorem dX11_letter_9 : decode cX11_letter 9 = .ok (.getfield 99, 3) := by decide +kernel
theorem dX11_letter_12 : decode cX11_letter 12 = .ok (.if_icmp .lt 11, 3) := by decide +kernel
theorem dX11_letter_15 : decode cX11_letter 15 = .ok (.aload_n 0, 1) := by decide +kernel
theorem dX11_letter_16 : decode cX11_letter 16 = .ok (.iconst 2, 1) := by decide +kernel
theorem dX11_letter_17 : decode cX11_letter 17 = .ok (.invokevirtual 102, 3) := by decide +kernel
theorem dX11_letter_20 : decode cX11_letter 20 = .ok (.goto 15, 3) := by decide +kernel
theorem dX11_letter_23 : decode cX11_letter 23 = .ok (.aload_n 0, 1) := by decide +kernel
theorem dX11_letter_24 : decode cX11_letter 24 = .ok (.aload_n 0, 1) := by decide +kernel
theorem dX11_letter_25 : decode cX11_letter 25 = .ok (.getfield 21, 3) := by decide +kernel
theorem dX11_letter_28 : decode cX11_letter 28 = .ok (.iload_n 1, 1) := by decide +kernel
theorem dX11_letter_29 : decode cX11_letter 29 = .ok (.invokevirtual 224, 3) := by decide +kernel
theorem dX11_letter_32 : decode cX11_letter 32 = .ok (.invokevirtual 109, 3) := by decide +kernel
theorem dX11_letter_35 : decode cX11_letter 35 = .ok (.ireturn, 1) := by decide +kernel
theorem dX11_failed_0 : decode cX11_failed 0 = .ok (.iload_n 1, 1) := by decide +kernel
theorem dX11_failed_1 : decode cX11_failed 1 = .ok (.ifCond .lt 9, 3) := by decide +kernel
theorem dX11_failed_4 : decode cX11_failed 4 = .ok (.iload_n 1, 1) := by decide +kernel
theorem dX11_failed_5 : decode cX11_failed 5 = .ok (.bipush 7, 2) := by decide +kernel
theorem dX11_failed_7 : decode cX11_failed 7 = .ok (.if_icmp .le 10, 3) := by decide +kernel
theorem dX11_failed_10 : decode cX11_failed 10 = .ok (.aload_n 0, 1) := by decide +kernel
theorem dX11_failed_11 : decode cX11_failed 11 = .ok (.bipush 6, 2) := by decide +kernel
theorem dX11_failed_13 : decode cX11_failed 13 = .ok (.invokevirtual 102, 3) := by decide +kernel
theorem dX11_failed_16 : decode cX11_failed 16 = .ok (.ireturn, 1) := by decide +kernel
theorem dX11_failed_17 : decode cX11_failed 17 = .ok (.iconst 1, 1) := by decide +kernel
theorem dX11_failed_18 : decode cX11_failed 18 = .ok (.iload_n 1, 1) := by decide +kernel
theorem dX11_failed_19 : decode cX11_failed 19 = .ok (.ishl, 1) := by decide +kernel
theorem dX11_failed_20 : decode cX11_failed 20 = .ok (.istore_n 3, 1) := by decide +kernel
theorem dX11_failed_21 : decode cX11_failed 21 = .ok (.aload_n 0, 1) := by decide +kernel
theorem dX11_failed_22 : decode cX11_failed 22 = .ok (.iload_n 2, 1) := by decide +kernel
theorem dX11_failed_23 : decode cX11_failed 23 = .ok (.ifCond .eq 12, 3) := by decide +kernel
theorem dX11_failed_26 : decode cX11_failed 26 = .ok (.aload_n 0, 1) := by decide +kernel
theorem dX11_failed_27 : decode cX11_failed 27 = .ok (.getfield 84, 3) := by decide +kernel
theorem dX11_failed_30 : decode cX11_failed 30 = .ok (.iload_n 3, 1) := by decide +kernel
theorem dX11_failed_31 : decode cX11_failed 31 = .ok (.ior, 1) := by decide +kernel
theorem dX11_failed_32 : decode cX11_failed 32 = .ok (.goto 11, 3) := by decide +kernel
theorem dX11_failed_35 : decode cX11_failed 35 = .ok (.aload_n 0, 1) := by decide +kernel
theorem dX11_failed_36 : decode cX11_failed 36 = .ok (.getfield 84, 3) := by decide +kernel
theorem dX11_failed_39 : decode cX11_failed 39 = .ok (.iload_n 3, 1) := by decide +kernel
theorem dX11_failed_40 : decode cX11_failed 40 = .ok (.iconst (-1), 1) := by decide +kernel
theorem dX11_failed_41 : decode cX11_failed 41 = .ok (.ixor, 1) := by decide +kernel
theorem dX11_failed_42 : decode cX11_failed 42 = .ok (.iand, 1) := by decide +kernel
theorem dX11_failed_43 : decode cX11_failed 43 = .ok (.putfield 84, 3) := by decide +kernel
theorem dX11_failed_46 : decode cX11_failed 46 = .ok (.aload_n 0, 1) := by decide +kernel
theorem dX11_failed_47 : decode cX11_failed 47 = .ok (.aload_n 0, 1) := by decide +kernel
theorem dX11_failed_48 : decode cX11_failed 48 = .ok (.getfield 84, 3) := by decide +kernel
theorem dX11_failed_51 : decode cX11_failed 51 = .ok (.invokestatic 351, 3) := by decide +kernel
theorem dX11_failed_54 : decode cX11_failed 54 = .ok (.invokevirtual 109, 3) := by decide +kernel
theorem dX11_failed_57 : decode cX11_failed 57 = .ok (.ireturn, 1) := by decide +kernel
theorem dX11_readings_0 : decode cX11_readings 0 = .ok (.iload_n 3, 1) := by decide +kernel
theorem dX11_readings_1 : decode cX11_readings 1 = .ok (.iconst 1, 1) := by decide +kernel
theorem dX11_readings_2 : decode cX11_readings 2 = .ok (.if_icmp .lt 9, 3) := by decide +kernel
theorem dX11_readings_5 : decode cX11_readings 5 = .ok (.iload_n 3, 1) := by decide +kernel
theorem dX11_readings_6 : decode cX11_readings 6 = .ok (.bipush 50, 2) := by decide +kernel
theorem dX11_readings_8 : decode cX11_readings 8 = .ok (.if_icmp .le 10, 3) := by decide +kernel
theorem dX11_readings_11 : decode cX11_readings 11 = .ok (.aload_n 0, 1) := by decide +kernel
theorem dX11_readings_12 : decode cX11_readings 12 = .ok (.bipush 6, 2) := by decide +kernel
theorem dX11_readings_14 : decode cX11_readings 14 = .ok (.invokevirtual 102, 3) := by decide +kernel
theorem dX11_readings_17 : decode cX11_readings 17 = .ok (.ireturn, 1) := by decide +kernel
theorem dX11_readings_18 : decode cX11_readings 18 = .ok (.aload_n 0, 1) := by decide +kernel
theorem dX11_readings_19 : decode cX11_readings 19 = .ok (.getfield 30, 3) := by decide +kernel
theorem dX11_readings_22 : decode cX11_readings 22 = .ok (.iload_n 1, 1) := by decide +kernel
theorem dX11_readings_23 : decode cX11_readings 23 = .ok (.invokevirtual 231, 3) := by decide +kernel
theorem dX11_readings_26 : decode cX11_readings 26 = .ok (.astore 4, 2) := by decide +kernel
theorem dX11_readings_28 : decode cX11_readings 28 = .ok (.aload 4, 2) := by decide +kernel
theorem dX11_readings_30 : decode cX11_readings 30 = .ok (.ifnonnull 9, 3) := by decide +kernel
theorem dX11_readings_33 : decode cX11_readings 33 = .ok (.aload_n 0, 1) := by decide +kernel
theorem dX11_readings_34 : decode cX11_readings 34 = .ok (.iconst 3, 1) := by decide +kernel
theorem dX11_readings_35 : decode cX11_readings 35 = .ok (.invokevirtual 102, 3) := by decide +kernel
theorem dX11_readings_38 : decode cX11_readings 38 = .ok (.ireturn, 1) := by decide +kernel
theorem dX11_readings_39 : decode cX11_readings 39 = .ok (.aload_n 0, 1) := by decide +kernel
theorem dX11_readings_40 : decode cX11_readings 40 = .ok (.getfield 67, 3) := by decide +kernel
theorem dX11_readings_43 : decode cX11_readings 43 = .ok (.iload_n 2, 1) := by decide +kernel
theorem dX11_readings_44 : decode cX11_readings 44 = .ok (.invokevirtual 288, 3) := by decide +kernel
theorem dX11_readings_47 : decode cX11_readings 47 = .ok (.astore 5, 2) := by decide +kernel
theorem dX11_readings_49 : decode cX11_readings 49 = .ok (.aload 5, 2) := by decide +kernel
theorem dX11_readings_51 : decode cX11_readings 51 = .ok (.ifnonnull 16, 3) := by decide +kernel
theorem dX11_readings_54 : decode cX11_readings 54 = .ok (.aload_n 0, 1) := by decide +kernel
theorem dX11_readings_55 : decode cX11_readings 55 = .ok (.aload_n 0, 1) := by decide +kernel
theorem dX11_readings_56 : decode cX11_readings 56 = .ok (.getfield 67, 3) := by decide +kernel
theorem dX11_readings_59 : decode cX11_readings 59 = .ok (.iload_n 2, 1) := by decide +kernel
theorem dX11_readings_60 : decode cX11_readings 60 = .ok (.invokevirtual 292, 3) := by decide +kernel
theorem dX11_readings_63 : decode cX11_readings 63 = .ok (.invokevirtual 102, 3) := by decide +kernel
theorem dX11_readings_66 : decode cX11_readings 66 = .ok (.ireturn, 1) := by decide +kernel
theorem dX11_readings_67 : decode cX11_readings 67 = .ok (.aload 5, 2) := by decide +kernel
theorem dX11_readings_69 : decode cX11_readings 69 = .ok (.getfield 295, 3) := by decide +kernel
theorem dX11_readings_72 : decode cX11_readings 72 = .ok (.bipush 100, 2) := by decide +kernel
theorem dX11_readings_74 : decode cX11_readings 74 = .ok (.if_icmp .le 10, 3) := by decide +kernel
theorem dX11_readings_77 : decode cX11_readings 77 = .ok (.aload_n 0, 1) := by decide +kernel
theorem dX11_readings_78 : decode cX11_readings 78 = .ok (.bipush 6, 2) := by decide +kernel
theorem dX11_readings_80 : decode cX11_readings 80 = .ok (.invokevirtual 102, 3) := by decide +kernel
theorem dX11_readings_83 : decode cX11_readings 83 = .ok (.ireturn, 1) := by decide +kernel
theorem dX11_readings_84 : decode cX11_readings 84 = .ok (.aload_n 0, 1) := by decide +kernel
theorem dX11_readings_85 : decode cX11_readings 85 = .ok (.getfield 51, 3) := by decide +kernel
theorem dX11_readings_88 : decode cX11_readings 88 = .ok (.aload 4, 2) := by decide +kernel
theorem dX11_readings_90 : decode cX11_readings 90 = .ok (.invokevirtual 331, 3) := by decide +kernel
theorem dX11_readings_93 : decode cX11_readings 93 = .ok (.aload_n 0, 1) := by decide +kernel
theorem dX11_readings_94 : decode cX11_readings 94 = .ok (.getfield 60, 3) := by decide +kernel
theorem dX11_readings_97 : decode cX11_readings 97 = .ok (.aload 5, 2) := by decide +kernel
theorem dX11_readings_99 : decode cX11_readings 99 = .ok (.sipush 255, 3) := by decide +kernel
theorem dX11_readings_102 : decode cX11_readings 102 = .ok (.aload_n 0, 1) := by decide +kernel
theorem dX11_readings_103 : decode cX11_readings 103 = .ok (.getfield 84, 3) := by decide +kernel
theorem dX11_readings_106 : decode cX11_readings 106 = .ok (.iconst (-1), 1) := by decide +kernel
theorem dX11_readings_107 : decode cX11_readings 107 = .ok (.ixor, 1) := by decide +kernel
theorem dX11_readings_108 : decode cX11_readings 108 = .ok (.iand, 1) := by decide +kernel
theorem dX11_readings_109 : decode cX11_readings 109 = .ok (.iload_n 3, 1) := by decide +kernel
theorem dX11_readings_110 : decode cX11_readings 110 = .ok (.invokevirtual 356, 3) := by decide +kernel
theorem dX11_readings_113 : decode cX11_readings 113 = .ok (.aload_n 0, 1) := by decide +kernel
theorem dX11_readings_114 : decode cX11_readings 114 = .ok (.aload_n 0, 1) := by decide +kernel
theorem dX11_readings_115 : decode cX11_readings 115 = .ok (.getfield 60, 3) := by decide +kernel
theorem dX11_readings_118 : decode cX11_readings 118 = .ok (.getfield 360, 3) := by decide +kernel
theorem dX11_readings_121 : decode cX11_readings 121 = .ok (.invokevirtual 109, 3) := by decide +kernel
theorem dX11_readings_124 : decode cX11_readings 124 = .ok (.ireturn, 1) := by decide +kernel
theorem dX11_more_0 : decode cX11_more 0 = .ok (.aload_n 0, 1) := by decide +kernel
theorem dX11_more_1 : decode cX11_more 1 = .ok (.getfield 60, 3) := by decide +kernel
theorem dX11_more_4 : decode cX11_more 4 = .ok (.getfield 361, 3) := by decide +kernel
theorem dX11_more_7 : decode cX11_more 7 = .ok (.ifCond .eq 7, 3) := by decide +kernel
theorem dX11_more_10 : decode cX11_more 10 = .ok (.iconst 1, 1) := by decide +kernel
theorem dX11_more_11 : decode cX11_more 11 = .ok (.goto 4, 3) := by decide +kernel
theorem dX11_more_14 : decode cX11_more 14 = .ok (.iconst 0, 1) := by decide +kernel
theorem dX11_more_15 : decode cX11_more 15 = .ok (.ireturn, 1) := by decide +kernel
theorem dX11_reading_0 : decode cX11_reading 0 = .ok (.aload_n 0, 1) := by decide +kernel
theorem dX11_reading_1 : decode cX11_reading 1 = .ok (.getfield 60, 3) := by decide +kernel
theorem dX11_reading_4 : decode cX11_reading 4 = .ok (.iload_n 1, 1) := by decide +kernel
theorem dX11_reading_5 : decode cX11_reading 5 = .ok (.iload_n 2, 1) := by decide +kernel
theorem dX11_reading_6 : decode cX11_reading 6 = .ok (.invokevirtual 364, 3) := by decide +kernel
theorem dX11_reading_9 : decode cX11_reading 9 = .ok (.istore_n 3, 1) := by decide +kernel
theorem dX11_reading_10 : decode cX11_reading 10 = .ok (.iload_n 3, 1) := by decide +kernel
theorem dX11_reading_11 : decode cX11_reading 11 = .ok (.ifCond .ge 11, 3) := by decide +kernel
theorem dX11_reading_14 : decode cX11_reading 14 = .ok (.aload_n 0, 1) := by decide +kernel
theorem dX11_reading_15 : decode cX11_reading 15 = .ok (.iconst 2, 1) := by decide +kernel
theorem dX11_reading_16 : decode cX11_reading 16 = .ok (.invokevirtual 102, 3) := by decide +kernel
theorem dX11_reading_19 : decode cX11_reading 19 = .ok (.goto 8, 3) := by decide +kernel
theorem dX11_reading_22 : decode cX11_reading 22 = .ok (.aload_n 0, 1) := by decide +kernel
theorem dX11_reading_23 : decode cX11_reading 23 = .ok (.iload_n 3, 1) := by decide +kernel
theorem dX11_reading_24 : decode cX11_reading 24 = .ok (.invokevirtual 109, 3) := by decide +kernel
theorem dX11_reading_27 : decode cX11_reading 27 = .ok (.ireturn, 1) := by decide +kernel
theorem dX11_judge_0 : decode cX11_judge 0 = .ok (.aload_n 0, 1) := by decide +kernel
theorem dX11_judge_1 : decode cX11_judge 1 = .ok (.getfield 30, 3) := by decide +kernel
theorem dX11_judge_4 : decode cX11_judge 4 = .ok (.iload_n 1, 1) := by decide +kernel
theorem dX11_judge_5 : decode cX11_judge 5 = .ok (.invokevirtual 131, 3) := by decide +kernel
theorem dX11_judge_8 : decode cX11_judge 8 = .ok (.astore_n 2, 1) := by decide +kernel
theorem dX11_judge_9 : decode cX11_judge 9 = .ok (.aload_n 2, 1) := by decide +kernel
theorem dX11_judge_10 : decode cX11_judge 10 = .ok (.ifnonnull 9, 3) := by decide +kernel
theorem dX11_judge_13 : decode cX11_judge 13 = .ok (.aload_n 0, 1) := by decide +kernel
theorem dX11_judge_14 : decode cX11_judge 14 = .ok (.iconst 3, 1) := by decide +kernel
theorem dX11_judge_15 : decode cX11_judge 15 = .ok (.invokevirtual 102, 3) := by decide +kernel
theorem dX11_judge_18 : decode cX11_judge 18 = .ok (.ireturn, 1) := by decide +kernel
theorem dX11_judge_19 : decode cX11_judge 19 = .ok (.aload_n 2, 1) := by decide +kernel
theorem dX11_judge_20 : decode cX11_judge 20 = .ok (.getfield 135, 3) := by decide +kernel
theorem dX11_judge_23 : decode cX11_judge 23 = .ok (.iconst 4, 1) := by decide +kernel
theorem dX11_judge_24 : decode cX11_judge 24 = .ok (.if_icmp .ne 9, 3) := by decide +kernel
theorem dX11_judge_27 : decode cX11_judge 27 = .ok (.aload_n 0, 1) := by decide +kernel
theorem dX11_judge_28 : decode cX11_judge 28 = .ok (.iconst 4, 1) := by decide +kernel
theorem dX11_judge_29 : decode cX11_judge 29 = .ok (.invokevirtual 102, 3) := by decide +kernel
theorem dX11_judge_32 : decode cX11_judge 32 = .ok (.ireturn, 1) := by decide +kernel
theorem dX11_judge_33 : decode cX11_judge 33 = .ok (.aload_n 0, 1) := by decide +kernel
theorem dX11_judge_34 : decode cX11_judge 34 = .ok (.getfield 30, 3) := by decide +kernel
theorem dX11_judge_37 : decode cX11_judge 37 = .ok (.iload_n 1, 1) := by decide +kernel
theorem dX11_judge_38 : decode cX11_judge 38 = .ok (.invokevirtual 231, 3) := by decide +kernel
theorem dX11_judge_41 : decode cX11_judge 41 = .ok (.ifnonnull 9, 3) := by decide +kernel
theorem dX11_judge_44 : decode cX11_judge 44 = .ok (.aload_n 0, 1) := by decide +kernel
theorem dX11_judge_45 : decode cX11_judge 45 = .ok (.iconst 3, 1) := by decide +kernel
theorem dX11_judge_46 : decode cX11_judge 46 = .ok (.invokevirtual 102, 3) := by decide +kernel
theorem dX11_judge_49 : decode cX11_judge 49 = .ok (.ireturn, 1) := by decide +kernel
theorem dX11_judge_50 : decode cX11_judge 50 = .ok (.aload_n 2, 1) := by decide +kernel
theorem dX11_judge_51 : decode cX11_judge 51 = .ok (.invokevirtual 367, 3) := by decide +kernel
theorem dX11_judge_54 : decode cX11_judge 54 = .ok (.ifCond .eq 9, 3) := by decide +kernel
theorem dX11_judge_57 : decode cX11_judge 57 = .ok (.aload_n 0, 1) := by decide +kernel
theorem dX11_judge_58 : decode cX11_judge 58 = .ok (.iconst 0, 1) := by decide +kernel
theorem dX11_judge_59 : decode cX11_judge 59 = .ok (.invokevirtual 109, 3) := by decide +kernel
theorem dX11_judge_62 : decode cX11_judge 62 = .ok (.ireturn, 1) := by decide +kernel
theorem dX11_judge_63 : decode cX11_judge 63 = .ok (.aload_n 0, 1) := by decide +kernel
theorem dX11_judge_64 : decode cX11_judge 64 = .ok (.getfield 51, 3) := by decide +kernel
theorem dX11_judge_67 : decode cX11_judge 67 = .ok (.aload_n 2, 1) := by decide +kernel
theorem dX11_judge_68 : decode cX11_judge 68 = .ok (.invokevirtual 331, 3) := by decide +kernel
theorem dX11_judge_71 : decode cX11_judge 71 = .ok (.aload_n 0, 1) := by decide +kernel
theorem dX11_judge_72 : decode cX11_judge 72 = .ok (.getfield 51, 3) := by decide +kernel
theorem dX11_judge_75 : decode cX11_judge 75 = .ok (.getfield 370, 3) := by decide +kernel
theorem dX11_judge_78 : decode cX11_judge 78 = .ok (.aload_n 0, 1) := by decide +kernel
theorem dX11_judge_79 : decode cX11_judge 79 = .ok (.getfield 81, 3) := by decide +kernel
theorem dX11_judge_82 : decode cX11_judge 82 = .ok (.invokestatic 373, 3) := by decide +kernel
theorem dX11_judge_85 : decode cX11_judge 85 = .ok (.ifCond .eq 24, 3) := by decide +kernel
theorem dX11_judge_88 : decode cX11_judge 88 = .ok (.aload_n 0, 1) := by decide +kernel
theorem dX11_judge_89 : decode cX11_judge 89 = .ok (.getfield 51, 3) := by decide +kernel
theorem dX11_judge_92 : decode cX11_judge 92 = .ok (.getfield 377, 3) := by decide +kernel
theorem dX11_judge_95 : decode cX11_judge 95 = .ok (.aload_n 0, 1) := by decide +kernel
theorem dX11_judge_96 : decode cX11_judge 96 = .ok (.getfield 81, 3) := by decide +kernel
theorem dX11_judge_99 : decode cX11_judge 99 = .ok (.invokestatic 373, 3) := by decide +kernel
theorem dX11_judge_102 : decode cX11_judge 102 = .ok (.ifCond .eq 7, 3) := by decide +kernel
theorem dX11_judge_105 : decode cX11_judge 105 = .ok (.iconst 1, 1) := by decide +kernel
theorem dX11_judge_106 : decode cX11_judge 106 = .ok (.goto 4, 3) := by decide +kernel
theorem dX11_judge_109 : decode cX11_judge 109 = .ok (.iconst 0, 1) := by decide +kernel
theorem dX11_judge_110 : decode cX11_judge 110 = .ok (.istore_n 3, 1) := by decide +kernel
theorem dX11_judge_111 : decode cX11_judge 111 = .ok (.aload_n 0, 1) := by decide +kernel
theorem dX11_judge_112 : decode cX11_judge 112 = .ok (.iload_n 3, 1) := by decide +kernel
theorem dX11_judge_113 : decode cX11_judge 113 = .ok (.ifCond .eq 7, 3) := by decide +kernel
theorem dX11_judge_116 : decode cX11_judge 116 = .ok (.iconst 1, 1) := by decide +kernel
theorem dX11_judge_117 : decode cX11_judge 117 = .ok (.goto 4, 3) := by decide +kernel
theorem dX11_judge_120 : decode cX11_judge 120 = .ok (.iconst 0, 1) := by decide +kernel
theorem dX11_judge_121 : decode cX11_judge 121 = .ok (.invokevirtual 109, 3) := by decide +kernel
theorem dX11_judge_124 : decode cX11_judge 124 = .ok (.ireturn, 1) := by decide +kernel
theorem dX11_parts_0 : decode cX11_parts 0 = .ok (.aload_n 0, 1) := by decide +kernel
theorem dX11_parts_1 : decode cX11_parts 1 = .ok (.getfield 30, 3) := by decide +kernel
theorem dX11_parts_4 : decode cX11_parts 4 = .ok (.iload_n 1, 1) := by decide +kernel
theorem dX11_parts_5 : decode cX11_parts 5 = .ok (.invokevirtual 231, 3) := by decide +kernel
theorem dX11_parts_8 : decode cX11_parts 8 = .ok (.astore 4, 2) := by decide +kernel
theorem dX11_parts_10 : decode cX11_parts 10 = .ok (.aload 4, 2) := by decide +kernel
theorem dX11_parts_12 : decode cX11_parts 12 = .ok (.ifnonnull 9, 3) := by decide +kernel
theorem dX11_parts_15 : decode cX11_parts 15 = .ok (.aload_n 0, 1) := by decide +kernel
theorem dX11_parts_16 : decode cX11_parts 16 = .ok (.iconst 3, 1) := by decide +kernel
theorem dX11_parts_17 : decode cX11_parts 17 = .ok (.invokevirtual 102, 3) := by decide +kernel
theorem dX11_parts_20 : decode cX11_parts 20 = .ok (.ireturn, 1) := by decide +kernel
theorem dX11_parts_21 : decode cX11_parts 21 = .ok (.aload_n 0, 1) := by decide +kernel
theorem dX11_parts_22 : decode cX11_parts 22 = .ok (.getfield 51, 3) := by decide +kernel
theorem dX11_parts_25 : decode cX11_parts 25 = .ok (.aload 4, 2) := by decide +kernel
theorem dX11_parts_27 : decode cX11_parts 27 = .ok (.invokevirtual 331, 3) := by decide +kernel
theorem dX11_parts_30 : decode cX11_parts 30 = .ok (.aload_n 0, 1) := by decide +kernel
theorem dX11_parts_31 : decode cX11_parts 31 = .ok (.getfield 51, 3) := by decide +kernel
theorem dX11_parts_34 : decode cX11_parts 34 = .ok (.getfield 370, 3) := by decide +kernel
theorem dX11_parts_37 : decode cX11_parts 37 = .ok (.invokevirtual 183, 3) := by decide +kernel
theorem dX11_parts_40 : decode cX11_parts 40 = .ok (.istore 5, 2) := by decide +kernel
theorem dX11_parts_42 : decode cX11_parts 42 = .ok (.iload_n 2, 1) := by decide +kernel
theorem dX11_parts_43 : decode cX11_parts 43 = .ok (.ifCond .lt 19, 3) := by decide +kernel
theorem dX11_parts_46 : decode cX11_parts 46 = .ok (.iload_n 2, 1) := by decide +kernel
theorem dX11_parts_47 : decode cX11_parts 47 = .ok (.iload 5, 2) := by decide +kernel
theorem dX11_parts_49 : decode cX11_parts 49 = .ok (.if_icmp .ge 13, 3) := by decide +kernel
theorem dX11_parts_52 : decode cX11_parts 52 = .ok (.iload_n 3, 1) := by decide +kernel
theorem dX11_parts_53 : decode cX11_parts 53 = .ok (.ifCond .lt 9, 3) := by decide +kernel
theorem dX11_parts_56 : decode cX11_parts 56 = .ok (.iload_n 3, 1) := by decide +kernel
theorem dX11_parts_57 : decode cX11_parts 57 = .ok (.iload 5, 2) := by decide +kernel
theorem dX11_parts_59 : decode cX11_parts 59 = .ok (.if_icmp .lt 9, 3) := by decide +kernel
theorem dX11_parts_62 : decode cX11_parts 62 = .ok (.aload_n 0, 1) := by decide +kernel
theorem dX11_parts_63 : decode cX11_parts 63 = .ok (.iconst 2, 1) := by decide +kernel
theorem dX11_parts_64 : decode cX11_parts 64 = .ok (.invokevirtual 102, 3) := by decide +kernel
theorem dX11_parts_67 : decode cX11_parts 67 = .ok (.ireturn, 1) := by decide +kernel
theorem dX11_parts_68 : decode cX11_parts 68 = .ok (.aload_n 0, 1) := by decide +kernel
theorem dX11_parts_69 : decode cX11_parts 69 = .ok (.getfield 51, 3) := by decide +kernel
theorem dX11_parts_72 : decode cX11_parts 72 = .ok (.getfield 370, 3) := by decide +kernel
theorem dX11_parts_75 : decode cX11_parts 75 = .ok (.iload_n 2, 1) := by decide +kernel
theorem dX11_parts_76 : decode cX11_parts 76 = .ok (.invokevirtual 204, 3) := by decide +kernel
theorem dX11_parts_79 : decode cX11_parts 79 = .ok (.checkcast 188, 3) := by decide +kernel
theorem dX11_parts_82 : decode cX11_parts 82 = .ok (.astore 6, 2) := by decide +kernel
theorem dX11_parts_84 : decode cX11_parts 84 = .ok (.aload_n 0, 1) := by decide +kernel
theorem dX11_parts_85 : decode cX11_parts 85 = .ok (.getfield 51, 3) := by decide +kernel
theorem dX11_parts_88 : decode cX11_parts 88 = .ok (.getfield 370, 3) := by decide +kernel
theorem dX11_parts_91 : decode cX11_parts 91 = .ok (.iload_n 3, 1) := by decide +kernel
theorem dX11_parts_92 : decode cX11_parts 92 = .ok (.invokevirtual 204, 3) := by decide +kernel
theorem dX11_parts_95 : decode cX11_parts 95 = .ok (.checkcast 188, 3) := by decide +kernel
theorem dX11_parts_98 : decode cX11_parts 98 = .ok (.astore 7, 2) := by decide +kernel
theorem dX11_parts_100 : decode cX11_parts 100 = .ok (.aload 6, 2) := by decide +kernel
theorem dX11_parts_102 : decode cX11_parts 102 = .ok (.aload 7, 2) := by decide +kernel
theorem dX11_parts_104 : decode cX11_parts 104 = .ok (.invokevirtual 380, 3) := by decide +kernel
theorem dX11_parts_107 : decode cX11_parts 107 = .ok (.istore 8, 2) := by decide +kernel
theorem dX11_parts_109 : decode cX11_parts 109 = .ok (.iload 8, 2) := by decide +kernel
theorem dX11_parts_111 : decode cX11_parts 111 = .ok (.aload 6, 2) := by decide +kernel
theorem dX11_parts_113 : decode cX11_parts 113 = .ok (.getfield 384, 3) := by decide +kernel
theorem dX11_parts_116 : decode cX11_parts 116 = .ok (.arraylength, 1) := by decide +kernel
theorem dX11_parts_117 : decode cX11_parts 117 = .ok (.if_icmp .eq 14, 3) := by decide +kernel
theorem dX11_parts_120 : decode cX11_parts 120 = .ok (.iload 8, 2) := by decide +kernel
theorem dX11_parts_122 : decode cX11_parts 122 = .ok (.aload 7, 2) := by decide +kernel
theorem dX11_parts_124 : decode cX11_parts 124 = .ok (.getfield 384, 3) := by decide +kernel
theorem dX11_parts_127 : decode cX11_parts 127 = .ok (.arraylength, 1) := by decide +kernel
theorem dX11_parts_128 : decode cX11_parts 128 = .ok (.if_icmp .ne 7, 3) := by decide +kernel
theorem dX11_parts_131 : decode cX11_parts 131 = .ok (.iconst 1, 1) := by decide +kernel
theorem dX11_parts_132 : decode cX11_parts 132 = .ok (.goto 4, 3) := by decide +kernel
theorem dX11_parts_135 : decode cX11_parts 135 = .ok (.iconst 0, 1) := by decide +kernel
theorem dX11_parts_136 : decode cX11_parts 136 = .ok (.istore 9, 2) := by decide +kernel
theorem dX11_parts_138 : decode cX11_parts 138 = .ok (.aload_n 0, 1) := by decide +kernel
theorem dX11_parts_139 : decode cX11_parts 139 = .ok (.iload 9, 2) := by decide +kernel
theorem dX11_parts_141 : decode cX11_parts 141 = .ok (.ifCond .eq 10, 3) := by decide +kernel
theorem dX11_parts_144 : decode cX11_parts 144 = .ok (.iconst (-1), 1) := by decide +kernel
theorem dX11_parts_145 : decode cX11_parts 145 = .ok (.iload 8, 2) := by decide +kernel
theorem dX11_parts_147 : decode cX11_parts 147 = .ok (.isub, 1) := by decide +kernel
theorem dX11_parts_148 : decode cX11_parts 148 = .ok (.goto 5, 3) := by decide +kernel
theorem dX11_parts_151 : decode cX11_parts 151 = .ok (.iload 8, 2) := by decide +kernel
theorem dX11_parts_153 : decode cX11_parts 153 = .ok (.invokevirtual 109, 3) := by decide +kernel
theorem dX11_parts_156 : decode cX11_parts 156 = .ok (.ireturn, 1) := by decide +kernel
theorem dX11_unreadable_0 : decode cX11_unreadable 0 = .ok (.iload_n 2, 1) := by decide +kernel
theorem dX11_unreadable_1 : decode cX11_unreadable 1 = .ok (.iconst 1, 1) := by decide +kernel
theorem dX11_unreadable_2 : decode cX11_unreadable 2 = .ok (.if_icmp .lt 21, 3) := by decide +kernel
theorem dX11_unreadable_5 : decode cX11_unreadable 5 = .ok (.iload_n 2, 1) := by decide +kernel
theorem dX11_unreadable_6 : decode cX11_unreadable 6 = .ok (.bipush 6, 2) := by decide +kernel
theorem dX11_unreadable_8 : decode cX11_unreadable 8 = .ok (.if_icmp .gt 15, 3) := by decide +kernel
theorem dX11_unreadable_11 : decode cX11_unreadable 11 = .ok (.iload_n 3, 1) := by decide +kernel
theorem dX11_unreadable_12 : decode cX11_unreadable 12 = .ok (.iconst 1, 1) := by decide +kernel
theorem dX11_unreadable_13 : decode cX11_unreadable 13 = .ok (.if_icmp .lt 10, 3) := by decide +kernel
theorem dX11_unreadable_16 : decode cX11_unreadable 16 = .ok (.iload_n 3, 1) := by decide +kernel
theorem dX11_unreadable_17 : decode cX11_unreadable 17 = .ok (.sipush 5000, 3) := by decide +kernel
theorem dX11_unreadable_20 : decode cX11_unreadable 20 = .ok (.if_icmp .le 10, 3) := by decide +kernel
theorem dX11_unreadable_23 : decode cX11_unreadable 23 = .ok (.aload_n 0, 1) := by decide +kernel
theorem dX11_unreadable_24 : decode cX11_unreadable 24 = .ok (.bipush 6, 2) := by decide +kernel
theorem dX11_unreadable_26 : decode cX11_unreadable 26 = .ok (.invokevirtual 102, 3) := by decide +kernel
theorem dX11_unreadable_29 : decode cX11_unreadable 29 = .ok (.ireturn, 1) := by decide +kernel
theorem dX11_unreadable_30 : decode cX11_unreadable 30 = .ok (.aload_n 0, 1) := by decide +kernel
theorem dX11_unreadable_31 : decode cX11_unreadable 31 = .ok (.getfield 30, 3) := by decide +kernel
theorem dX11_unreadable_34 : decode cX11_unreadable 34 = .ok (.iload_n 1, 1) := by decide +kernel
theorem dX11_unreadable_35 : decode cX11_unreadable 35 = .ok (.invokevirtual 231, 3) := by decide +kernel
theorem dX11_unreadable_38 : decode cX11_unreadable 38 = .ok (.astore 4, 2) := by decide +kernel
theorem dX11_unreadable_40 : decode cX11_unreadable 40 = .ok (.aload 4, 2) := by decide +kernel
theorem dX11_unreadable_42 : decode cX11_unreadable 42 = .ok (.ifnonnull 9, 3) := by decide +kernel
theorem dX11_unreadable_45 : decode cX11_unreadable 45 = .ok (.aload_n 0, 1) := by decide +kernel
theorem dX11_unreadable_46 : decode cX11_unreadable 46 = .ok (.iconst 3, 1) := by decide +kernel
theorem dX11_unreadable_47 : decode cX11_unreadable 47 = .ok (.invokevirtual 102, 3) := by decide +kernel
theorem dX11_unreadable_50 : decode cX11_unreadable 50 = .ok (.ireturn, 1) := by decide +kernel
theorem dX11_unreadable_51 : decode cX11_unreadable 51 = .ok (.aload_n 0, 1) := by decide +kernel
theorem dX11_unreadable_52 : decode cX11_unreadable 52 = .ok (.getfield 51, 3) := by decide +kernel
theorem dX11_unreadable_55 : decode cX11_unreadable 55 = .ok (.aload 4, 2) := by decide +kernel
theorem dX11_unreadable_57 : decode cX11_unreadable 57 = .ok (.invokevirtual 331, 3) := by decide +kernel
theorem dX11_unreadable_60 : decode cX11_unreadable 60 = .ok (.aload_n 0, 1) := by decide +kernel
theorem dX11_unreadable_61 : decode cX11_unreadable 61 = .ok (.getfield 37, 3) := by decide +kernel
theorem dX11_unreadable_64 : decode cX11_unreadable 64 = .ok (.aload_n 0, 1) := by decide +kernel
theorem dX11_unreadable_65 : decode cX11_unreadable 65 = .ok (.getfield 51, 3) := by decide +kernel
theorem dX11_unreadable_68 : decode cX11_unreadable 68 = .ok (.aload 4, 2) := by decide +kernel
theorem dX11_unreadable_70 : decode cX11_unreadable 70 = .ok (.getfield 135, 3) := by decide +kernel
theorem dX11_unreadable_73 : decode cX11_unreadable 73 = .ok (.iconst 5, 1) := by decide +kernel
theorem dX11_unreadable_74 : decode cX11_unreadable 74 = .ok (.if_icmp .ne 7, 3) := by decide +kernel
theorem dX11_unreadable_77 : decode cX11_unreadable 77 = .ok (.iconst 1, 1) := by decide +kernel
theorem dX11_unreadable_78 : decode cX11_unreadable 78 = .ok (.goto 4, 3) := by decide +kernel
theorem dX11_unreadable_81 : decode cX11_unreadable 81 = .ok (.iconst 0, 1) := by decide +kernel
theorem dX11_unreadable_82 : decode cX11_unreadable 82 = .ok (.invokevirtual 385, 3) := by decide +kernel
theorem dX11_unreadable_85 : decode cX11_unreadable 85 = .ok (.aload_n 0, 1) := by decide +kernel
theorem dX11_unreadable_86 : decode cX11_unreadable 86 = .ok (.getfield 37, 3) := by decide +kernel
theorem dX11_unreadable_89 : decode cX11_unreadable 89 = .ok (.iload_n 2, 1) := by decide +kernel
theorem dX11_unreadable_90 : decode cX11_unreadable 90 = .ok (.invokevirtual 389, 3) := by decide +kernel
theorem dX11_unreadable_93 : decode cX11_unreadable 93 = .ok (.istore 5, 2) := by decide +kernel
theorem dX11_unreadable_95 : decode cX11_unreadable 95 = .ok (.iconst 0, 1) := by decide +kernel
theorem dX11_unreadable_96 : decode cX11_unreadable 96 = .ok (.istore 6, 2) := by decide +kernel
theorem dX11_unreadable_98 : decode cX11_unreadable 98 = .ok (.iload 5, 2) := by decide +kernel
theorem dX11_unreadable_100 : decode cX11_unreadable 100 = .ok (.ifCond .eq 100, 3) := by decide +kernel
theorem dX11_unreadable_103 : decode cX11_unreadable 103 = .ok (.iload 6, 2) := by decide +kernel
theorem dX11_unreadable_105 : decode cX11_unreadable 105 = .ok (.sipush 5000, 3) := by decide +kernel
theorem dX11_unreadable_108 : decode cX11_unreadable 108 = .ok (.if_icmp .gt 92, 3) := by decide +kernel
theorem dX11_unreadable_111 : decode cX11_unreadable 111 = .ok (.iload 6, 2) := by decide +kernel
theorem dX11_unreadable_113 : decode cX11_unreadable 113 = .ok (.iload_n 3, 1) := by decide +kernel
theorem dX11_unreadable_114 : decode cX11_unreadable 114 = .ok (.if_icmp .lt 10, 3) := by decide +kernel
theorem dX11_unreadable_117 : decode cX11_unreadable 117 = .ok (.aload_n 0, 1) := by decide +kernel
theorem dX11_unreadable_118 : decode cX11_unreadable 118 = .ok (.bipush 8, 2) := by decide +kernel
theorem dX11_unreadable_120 : decode cX11_unreadable 120 = .ok (.invokevirtual 102, 3) := by decide +kernel
theorem dX11_unreadable_123 : decode cX11_unreadable 123 = .ok (.ireturn, 1) := by decide +kernel
theorem dX11_unreadable_124 : decode cX11_unreadable 124 = .ok (.aload_n 0, 1) := by decide +kernel
theorem dX11_unreadable_125 : decode cX11_unreadable 125 = .ok (.getfield 37, 3) := by decide +kernel
theorem dX11_unreadable_128 : decode cX11_unreadable 128 = .ok (.aload_n 0, 1) := by decide +kernel
theorem dX11_unreadable_129 : decode cX11_unreadable 129 = .ok (.getfield 44, 3) := by decide +kernel
theorem dX11_unreadable_132 : decode cX11_unreadable 132 = .ok (.invokevirtual 392, 3) := by decide +kernel
theorem dX11_unreadable_135 : decode cX11_unreadable 135 = .ok (.aload_n 0, 1) := by decide +kernel
theorem dX11_unreadable_136 : decode cX11_unreadable 136 = .ok (.getfield 44, 3) := by decide +kernel
theorem dX11_unreadable_139 : decode cX11_unreadable 139 = .ok (.aload 4, 2) := by decide +kernel
theorem dX11_unreadable_141 : decode cX11_unreadable 141 = .ok (.invokevirtual 253, 3) := by decide +kernel
theorem dX11_unreadable_144 : decode cX11_unreadable 144 = .ok (.ifCond .ne 40, 3) := by decide +kernel
theorem dX11_unreadable_147 : decode cX11_unreadable 147 = .ok (.aload_n 0, 1) := by decide +kernel
theorem dX11_unreadable_148 : decode cX11_unreadable 148 = .ok (.invokevirtual 396, 3) := by decide +kernel
theorem dX11_unreadable_151 : decode cX11_unreadable 151 = .ok (.ifCond .ne 33, 3) := by decide +kernel
theorem dX11_unreadable_154 : decode cX11_unreadable 154 = .ok (.aload_n 0, 1) := by decide +kernel
theorem dX11_unreadable_155 : decode cX11_unreadable 155 = .ok (.getfield 21, 3) := by decide +kernel
theorem dX11_unreadable_158 : decode cX11_unreadable 158 = .ok (.invokevirtual 164, 3) := by decide +kernel
theorem dX11_unreadable_161 : decode cX11_unreadable 161 = .ok (.aload_n 0, 1) := by decide +kernel
theorem dX11_unreadable_162 : decode cX11_unreadable 162 = .ok (.getfield 44, 3) := by decide +kernel
theorem dX11_unreadable_165 : decode cX11_unreadable 165 = .ok (.aload_n 0, 1) := by decide +kernel
theorem dX11_unreadable_166 : decode cX11_unreadable 166 = .ok (.getfield 21, 3) := by decide +kernel
theorem dX11_unreadable_169 : decode cX11_unreadable 169 = .ok (.invokevirtual 399, 3) := by decide +kernel
theorem dX11_unreadable_172 : decode cX11_unreadable 172 = .ok (.aload_n 0, 1) := by decide +kernel
theorem dX11_unreadable_173 : decode cX11_unreadable 173 = .ok (.aload_n 0, 1) := by decide +kernel
theorem dX11_unreadable_174 : decode cX11_unreadable 174 = .ok (.getfield 44, 3) := by decide +kernel
theorem dX11_unreadable_177 : decode cX11_unreadable 177 = .ok (.getfield 402, 3) := by decide +kernel
theorem dX11_unreadable_180 : decode cX11_unreadable 180 = .ok (.invokevirtual 109, 3) := by decide +kernel
theorem dX11_unreadable_183 : decode cX11_unreadable 183 = .ok (.ireturn, 1) := by decide +kernel
theorem dX11_unreadable_184 : decode cX11_unreadable 184 = .ok (.aload_n 0, 1) := by decide +kernel
theorem dX11_unreadable_185 : decode cX11_unreadable 185 = .ok (.getfield 37, 3) := by decide +kernel
theorem dX11_unreadable_188 : decode cX11_unreadable 188 = .ok (.iload_n 2, 1) := by decide +kernel
theorem dX11_unreadable_189 : decode cX11_unreadable 189 = .ok (.invokevirtual 403, 3) := by decide +kernel
theorem dX11_unreadable_192 : decode cX11_unreadable 192 = .ok (.istore 5, 2) := by decide +kernel
theorem dX11_unreadable_194 : decode cX11_unreadable 194 = .ok (.iinc 6 1, 3) := by decide +kernel
theorem dX11_unreadable_197 : decode cX11_unreadable 197 = .ok (.goto (-99), 3) := by decide +kernel
theorem dX11_unreadable_200 : decode cX11_unreadable 200 = .ok (.aload_n 0, 1) := by decide +kernel
theorem dX11_unreadable_201 : decode cX11_unreadable 201 = .ok (.iconst 0, 1) := by decide +kernel
theorem dX11_unreadable_202 : decode cX11_unreadable 202 = .ok (.invokevirtual 109, 3) := by decide +kernel
theorem dX11_unreadable_205 : decode cX11_unreadable 205 = .ok (.ireturn, 1) := by decide +kernel
theorem dX11_isReadBack_0 : decode cX11_isReadBack 0 = .ok (.aload_n 0, 1) := by decide +kernel
theorem dX11_isReadBack_1 : decode cX11_isReadBack 1 = .ok (.getfield 51, 3) := by decide +kernel
theorem dX11_isReadBack_4 : decode cX11_isReadBack 4 = .ok (.invokevirtual 344, 3) := by decide +kernel
theorem dX11_isReadBack_7 : decode cX11_isReadBack 7 = .ok (.iconst 0, 1) := by decide +kernel
theorem dX11_isReadBack_8 : decode cX11_isReadBack 8 = .ok (.istore_n 1, 1) := by decide +kernel
theorem dX11_isReadBack_9 : decode cX11_isReadBack 9 = .ok (.iload_n 1, 1) := by decide +kernel
theorem dX11_isReadBack_10 : decode cX11_isReadBack 10 = .ok (.aload_n 0, 1) := by decide +kernel
theorem dX11_isReadBack_11 : decode cX11_isReadBack 11 = .ok (.getfield 44, 3) := by decide +kernel
theorem dX11_isReadBack_14 : decode cX11_isReadBack 14 = .ok (.getfield 277, 3) := by decide +kernel
theorem dX11_isReadBack_17 : decode cX11_isReadBack 17 = .ok (.if_icmp .ge 26, 3) := by decide +kernel
theorem dX11_isReadBack_20 : decode cX11_isReadBack 20 = .ok (.aload_n 0, 1) := by decide +kernel
theorem dX11_isReadBack_21 : decode cX11_isReadBack 21 = .ok (.getfield 51, 3) := by decide +kernel
theorem dX11_isReadBack_24 : decode cX11_isReadBack 24 = .ok (.aload_n 0, 1) := by decide +kernel
theorem dX11_isReadBack_25 : decode cX11_isReadBack 25 = .ok (.getfield 44, 3) := by decide +kernel
theorem dX11_isReadBack_28 : decode cX11_isReadBack 28 = .ok (.getfield 278, 3) := by decide +kernel
theorem dX11_isReadBack_31 : decode cX11_isReadBack 31 = .ok (.iload_n 1, 1) := by decide +kernel
theorem dX11_isReadBack_32 : decode cX11_isReadBack 32 = .ok (.iaload, 1) := by decide +kernel
theorem dX11_isReadBack_33 : decode cX11_isReadBack 33 = .ok (.iload_n 1, 1) := by decide +kernel
theorem dX11_isReadBack_34 : decode cX11_isReadBack 34 = .ok (.invokevirtual 406, 3) := by decide +kernel
theorem dX11_isReadBack_37 : decode cX11_isReadBack 37 = .ok (.iinc 1 1, 3) := by decide +kernel
theorem dX11_isReadBack_40 : decode cX11_isReadBack 40 = .ok (.goto (-31), 3) := by decide +kernel
theorem dX11_isReadBack_43 : decode cX11_isReadBack 43 = .ok (.aload_n 0, 1) := by decide +kernel
theorem dX11_isReadBack_44 : decode cX11_isReadBack 44 = .ok (.getfield 51, 3) := by decide +kernel
theorem dX11_isReadBack_47 : decode cX11_isReadBack 47 = .ok (.invokevirtual 335, 3) := by decide +kernel
theorem dX11_isReadBack_50 : decode cX11_isReadBack 50 = .ok (.ifCond .eq 24, 3) := by decide +kernel
theorem dX11_isReadBack_53 : decode cX11_isReadBack 53 = .ok (.aload_n 0, 1) := by decide +kernel
theorem dX11_isReadBack_54 : decode cX11_isReadBack 54 = .ok (.getfield 44, 3) := by decide +kernel
theorem dX11_isReadBack_57 : decode cX11_isReadBack 57 = .ok (.aload_n 0, 1) := by decide +kernel
theorem dX11_isReadBack_58 : decode cX11_isReadBack 58 = .ok (.getfield 51, 3) := by decide +kernel
theorem dX11_isReadBack_61 : decode cX11_isReadBack 61 = .ok (.getfield 341, 3) := by decide +kernel
theorem dX11_isReadBack_64 : decode cX11_isReadBack 64 = .ok (.invokevirtual 409, 3) := by decide +kernel
theorem dX11_isReadBack_67 : decode cX11_isReadBack 67 = .ok (.ifCond .eq 7, 3) := by decide +kernel
theorem dX11_isReadBack_70 : decode cX11_isReadBack 70 = .ok (.iconst 1, 1) := by decide +kernel
theorem dX11_isReadBack_71 : decode cX11_isReadBack 71 = .ok (.goto 4, 3) := by decide +kernel
theorem dX11_isReadBack_74 : decode cX11_isReadBack 74 = .ok (.iconst 0, 1) := by decide +kernel
theorem dX11_isReadBack_75 : decode cX11_isReadBack 75 = .ok (.ireturn, 1) := by decide +kernel
theorem dX11_saved_0 : decode cX11_saved 0 = .ok (.aload_n 0, 1) := by decide +kernel
theorem dX11_saved_1 : decode cX11_saved 1 = .ok (.getfield 30, 3) := by decide +kernel
theorem dX11_saved_4 : decode cX11_saved 4 = .ok (.iload_n 1, 1) := by decide +kernel
theorem dX11_saved_5 : decode cX11_saved 5 = .ok (.invokevirtual 231, 3) := by decide +kernel
theorem dX11_saved_8 : decode cX11_saved 8 = .ok (.astore_n 3, 1) := by decide +kernel
theorem dX11_saved_9 : decode cX11_saved 9 = .ok (.aload_n 0, 1) := by decide +kernel
theorem dX11_saved_10 : decode cX11_saved 10 = .ok (.getfield 30, 3) := by decide +kernel
theorem dX11_saved_13 : decode cX11_saved 13 = .ok (.iload_n 2, 1) := by decide +kernel
theorem dX11_saved_14 : decode cX11_saved 14 = .ok (.invokevirtual 231, 3) := by decide +kernel
theorem dX11_saved_17 : decode cX11_saved 17 = .ok (.astore 4, 2) := by decide +kernel
theorem dX11_saved_19 : decode cX11_saved 19 = .ok (.aload_n 3, 1) := by decide +kernel
theorem dX11_saved_20 : decode cX11_saved 20 = .ok (.ifnull 8, 3) := by decide +kernel
theorem dX11_saved_23 : decode cX11_saved 23 = .ok (.aload 4, 2) := by decide +kernel
theorem dX11_saved_25 : decode cX11_saved 25 = .ok (.ifnonnull 9, 3) := by decide +kernel
theorem dX11_saved_28 : decode cX11_saved 28 = .ok (.aload_n 0, 1) := by decide +kernel
theorem dX11_saved_29 : decode cX11_saved 29 = .ok (.iconst 3, 1) := by decide +kernel
theorem dX11_saved_30 : decode cX11_saved 30 = .ok (.invokevirtual 102, 3) := by decide +kernel
theorem dX11_saved_33 : decode cX11_saved 33 = .ok (.ireturn, 1) := by decide +kernel
theorem dX11_saved_34 : decode cX11_saved 34 = .ok (.iconst 0, 1) := by decide +kernel
theorem dX11_saved_35 : decode cX11_saved 35 = .ok (.istore 5, 2) := by decide +kernel
theorem dX11_saved_37 : decode cX11_saved 37 = .ok (.iconst 0, 1) := by decide +kernel
theorem dX11_saved_38 : decode cX11_saved 38 = .ok (.istore 6, 2) := by decide +kernel
theorem dX11_saved_40 : decode cX11_saved 40 = .ok (.iconst 0, 1) := by decide +kernel
theorem dX11_saved_41 : decode cX11_saved 41 = .ok (.istore 7, 2) := by decide +kernel
theorem dX11_saved_43 : decode cX11_saved 43 = .ok (.iload 6, 2) := by decide +kernel
theorem dX11_saved_45 : decode cX11_saved 45 = .ok (.ifCond .ne 141, 3) := by decide +kernel
theorem dX11_saved_48 : decode cX11_saved 48 = .ok (.iload 7, 2) := by decide +kernel
theorem dX11_saved_50 : decode cX11_saved 50 = .ok (.iconst 2, 1) := by decide +kernel
theorem dX11_saved_51 : decode cX11_saved 51 = .ok (.if_icmp .ge 135, 3) := by decide +kernel
theorem dX11_saved_54 : decode cX11_saved 54 = .ok (.aload_n 0, 1) := by decide +kernel
theorem dX11_saved_55 : decode cX11_saved 55 = .ok (.getfield 37, 3) := by decide +kernel
theorem dX11_saved_58 : decode cX11_saved 58 = .ok (.invokevirtual 235, 3) := by decide +kernel
theorem dX11_saved_61 : decode cX11_saved 61 = .ok (.aload_n 0, 1) := by decide +kernel
theorem dX11_saved_62 : decode cX11_saved 62 = .ok (.getfield 37, 3) := by decide +kernel
theorem dX11_saved_65 : decode cX11_saved 65 = .ok (.aload_n 0, 1) := by decide +kernel
theorem dX11_saved_66 : decode cX11_saved 66 = .ok (.getfield 18, 3) := by decide +kernel
theorem dX11_saved_69 : decode cX11_saved 69 = .ok (.aload_n 0, 1) := by decide +kernel
theorem dX11_saved_70 : decode cX11_saved 70 = .ok (.getfield 44, 3) := by decide +kernel
theorem dX11_saved_73 : decode cX11_saved 73 = .ok (.invokevirtual 238, 3) := by decide +kernel
theorem dX11_saved_76 : decode cX11_saved 76 = .ok (.istore 8, 2) := by decide +kernel
theorem dX11_saved_78 : decode cX11_saved 78 = .ok (.iconst 0, 1) := by decide +kernel
theorem dX11_saved_79 : decode cX11_saved 79 = .ok (.istore 9, 2) := by decide +kernel
theorem dX11_saved_81 : decode cX11_saved 81 = .ok (.iload 6, 2) := by decide +kernel
theorem dX11_saved_83 : decode cX11_saved 83 = .ok (.ifCond .ne 97, 3) := by decide +kernel
theorem dX11_saved_86 : decode cX11_saved 86 = .ok (.iload 8, 2) := by decide +kernel
theorem dX11_saved_88 : decode cX11_saved 88 = .ok (.ifCond .eq 92, 3) := by decide +kernel
theorem dX11_saved_91 : decode cX11_saved 91 = .ok (.iload 9, 2) := by decide +kernel
theorem dX11_saved_93 : decode cX11_saved 93 = .ok (.ldc 242, 2) := by decide +kernel
theorem dX11_saved_95 : decode cX11_saved 95 = .ok (.if_icmp .ge 85, 3) := by decide +kernel
theorem dX11_saved_98 : decode cX11_saved 98 = .ok (.iload 8, 2) := by decide +kernel
theorem dX11_saved_100 : decode cX11_saved 100 = .ok (.iconst 2, 1) := by decide +kernel
theorem dX11_saved_101 : decode cX11_saved 101 = .ok (.if_icmp .ne 51, 3) := by decide +kernel
theorem dX11_saved_104 : decode cX11_saved 104 = .ok (.aload_n 0, 1) := by decide +kernel
theorem dX11_saved_105 : decode cX11_saved 105 = .ok (.getfield 44, 3) := by decide +kernel
theorem dX11_saved_108 : decode cX11_saved 108 = .ok (.iload 7, 2) := by decide +kernel
theorem dX11_saved_110 : decode cX11_saved 110 = .ok (.ifCond .ne 7, 3) := by decide +kernel
theorem dX11_saved_113 : decode cX11_saved 113 = .ok (.aload_n 3, 1) := by decide +kernel
theorem dX11_saved_114 : decode cX11_saved 114 = .ok (.goto 5, 3) := by decide +kernel
theorem dX11_saved_117 : decode cX11_saved 117 = .ok (.aload 4, 2) := by decide +kernel
theorem dX11_saved_119 : decode cX11_saved 119 = .ok (.invokevirtual 253, 3) := by decide +kernel
theorem dX11_saved_122 : decode cX11_saved 122 = .ok (.istore 6, 2) := by decide +kernel
theorem dX11_saved_124 : decode cX11_saved 124 = .ok (.iload 5, 2) := by decide +kernel
theorem dX11_saved_126 : decode cX11_saved 126 = .ok (.iload 7, 2) := by decide +kernel
theorem dX11_saved_128 : decode cX11_saved 128 = .ok (.ifCond .ne 13, 3) := by decide +kernel
theorem dX11_saved_131 : decode cX11_saved 131 = .ok (.aload_n 0, 1) := by decide +kernel
theorem dX11_saved_132 : decode cX11_saved 132 = .ok (.getfield 44, 3) := by decide +kernel
theorem dX11_saved_135 : decode cX11_saved 135 = .ok (.getfield 277, 3) := by decide +kernel
theorem dX11_saved_138 : decode cX11_saved 138 = .ok (.goto 11, 3) := by decide +kernel
theorem dX11_saved_141 : decode cX11_saved 141 = .ok (.aload_n 0, 1) := by decide +kernel
theorem dX11_saved_142 : decode cX11_saved 142 = .ok (.getfield 44, 3) := by decide +kernel
theorem dX11_saved_145 : decode cX11_saved 145 = .ok (.getfield 277, 3) := by decide +kernel
theorem dX11_saved_148 : decode cX11_saved 148 = .ok (.ineg, 1) := by decide +kernel
theorem dX11_saved_149 : decode cX11_saved 149 = .ok (.iadd, 1) := by decide +kernel
theorem dX11_saved_150 : decode cX11_saved 150 = .ok (.istore 5, 2) := by decide +kernel
theorem dX11_saved_152 : decode cX11_saved 152 = .ok (.iload 6, 2) := by decide +kernel
theorem dX11_saved_154 : decode cX11_saved 154 = .ok (.ifCond .ne 20, 3) := by decide +kernel
theorem dX11_saved_157 : decode cX11_saved 157 = .ok (.aload_n 0, 1) := by decide +kernel
theorem dX11_saved_158 : decode cX11_saved 158 = .ok (.getfield 37, 3) := by decide +kernel
theorem dX11_saved_161 : decode cX11_saved 161 = .ok (.aload_n 0, 1) := by decide +kernel
theorem dX11_saved_162 : decode cX11_saved 162 = .ok (.getfield 18, 3) := by decide +kernel
theorem dX11_saved_165 : decode cX11_saved 165 = .ok (.aload_n 0, 1) := by decide +kernel
theorem dX11_saved_166 : decode cX11_saved 166 = .ok (.getfield 44, 3) := by decide +kernel
theorem dX11_saved_169 : decode cX11_saved 169 = .ok (.invokevirtual 238, 3) := by decide +kernel
theorem dX11_saved_172 : decode cX11_saved 172 = .ok (.istore 8, 2) := by decide +kernel
theorem dX11_saved_174 : decode cX11_saved 174 = .ok (.iinc 9 1, 3) := by decide +kernel
theorem dX11_saved_177 : decode cX11_saved 177 = .ok (.goto (-96), 3) := by decide +kernel
theorem dX11_saved_180 : decode cX11_saved 180 = .ok (.iinc 7 1, 3) := by decide +kernel
theorem dX11_saved_183 : decode cX11_saved 183 = .ok (.goto (-140), 3) := by decide +kernel
theorem dX11_saved_186 : decode cX11_saved 186 = .ok (.iload 6, 2) := by decide +kernel
theorem dX11_saved_188 : decode cX11_saved 188 = .ok (.ifCond .eq 19, 3) := by decide +kernel
theorem dX11_saved_191 : decode cX11_saved 191 = .ok (.aload_n 0, 1) := by decide +kernel
theorem dX11_saved_192 : decode cX11_saved 192 = .ok (.iload 6, 2) := by decide +kernel
theorem dX11_saved_194 : decode cX11_saved 194 = .ok (.aload_n 0, 1) := by decide +kernel
theorem dX11_saved_195 : decode cX11_saved 195 = .ok (.getfield 44, 3) := by decide +kernel
theorem dX11_saved_198 : decode cX11_saved 198 = .ok (.invokevirtual 263, 3) := by decide +kernel
theorem dX11_saved_201 : decode cX11_saved 201 = .ok (.invokevirtual 266, 3) := by decide +kernel
theorem dX11_saved_204 : decode cX11_saved 204 = .ok (.pop, 1) := by decide +kernel
theorem dX11_saved_205 : decode cX11_saved 205 = .ok (.iconst 0, 1) := by decide +kernel
theorem dX11_saved_206 : decode cX11_saved 206 = .ok (.ireturn, 1) := by decide +kernel
theorem dX11_saved_207 : decode cX11_saved 207 = .ok (.aload_n 0, 1) := by decide +kernel
theorem dX11_saved_208 : decode cX11_saved 208 = .ok (.iload 5, 2) := by decide +kernel
theorem dX11_saved_210 : decode cX11_saved 210 = .ok (.invokevirtual 109, 3) := by decide +kernel
theorem dX11_saved_213 : decode cX11_saved 213 = .ok (.ireturn, 1) := by decide +kernel
theorem dX11_place_0 : decode cX11_place 0 = .ok (.aload_n 0, 1) := by decide +kernel
theorem dX11_place_1 : decode cX11_place 1 = .ok (.getfield 96, 3) := by decide +kernel
theorem dX11_place_4 : decode cX11_place 4 = .ok (.ireturn, 1) := by decide +kernel
theorem dX11_finds_0 : decode cX11_finds 0 = .ok (.aload_n 0, 1) := by decide +kernel
theorem dX11_finds_1 : decode cX11_finds 1 = .ok (.getfield 44, 3) := by decide +kernel
theorem dX11_finds_4 : decode cX11_finds 4 = .ok (.iload_n 1, 1) := by decide +kernel
theorem dX11_finds_5 : decode cX11_finds 5 = .ok (.invokevirtual 413, 3) := by decide +kernel
theorem dX11_finds_8 : decode cX11_finds 8 = .ok (.ireturn, 1) := by decide +kernel
theorem dX11_status_0 : decode cX11_status 0 = .ok (.aload_n 0, 1) := by decide +kernel
theorem dX11_status_1 : decode cX11_status 1 = .ok (.getfield 93, 3) := by decide +kernel
theorem dX11_status_4 : decode cX11_status 4 = .ok (.ireturn, 1) := by decide +kernel
theorem dX11_digest_0 : decode cX11_digest 0 = .ok (.aload_n 0, 1) := by decide +kernel
theorem dX11_digest_1 : decode cX11_digest 1 = .ok (.getfield 67, 3) := by decide +kernel
theorem dX11_digest_4 : decode cX11_digest 4 = .ok (.sipush 527, 3) := by decide +kernel
theorem dX11_digest_7 : decode cX11_digest 7 = .ok (.aload_n 0, 1) := by decide +kernel
theorem dX11_digest_8 : decode cX11_digest 8 = .ok (.getfield 67, 3) := by decide +kernel
theorem dX11_digest_11 : decode cX11_digest 11 = .ok (.getfield 269, 3) := by decide +kernel
theorem dX11_digest_14 : decode cX11_digest 14 = .ok (.iadd, 1) := by decide +kernel
theorem dX11_digest_15 : decode cX11_digest 15 = .ok (.invokevirtual 416, 3) := by decide +kernel
theorem dX11_digest_18 : decode cX11_digest 18 = .ok (.istore_n 1, 1) := by decide +kernel
theorem dX11_digest_19 : decode cX11_digest 19 = .ok (.iload_n 1, 1) := by decide +kernel
theorem dX11_digest_20 : decode cX11_digest 20 = .ok (.bipush 31, 2) := by decide +kernel
theorem dX11_digest_22 : decode cX11_digest 22 = .ok (.imul, 1) := by decide +kernel
theorem dX11_digest_23 : decode cX11_digest 23 = .ok (.aload_n 0, 1) := by decide +kernel
theorem dX11_digest_24 : decode cX11_digest 24 = .ok (.getfield 21, 3) := by decide +kernel
theorem dX11_digest_27 : decode cX11_digest 27 = .ok (.getfield 99, 3) := by decide +kernel
theorem dX11_digest_30 : decode cX11_digest 30 = .ok (.iadd, 1) := by decide +kernel
theorem dX11_digest_31 : decode cX11_digest 31 = .ok (.istore_n 1, 1) := by decide +kernel
theorem dX11_digest_32 : decode cX11_digest 32 = .ok (.iconst 0, 1) := by decide +kernel
theorem dX11_digest_33 : decode cX11_digest 33 = .ok (.istore_n 2, 1) := by decide +kernel
theorem dX11_digest_34 : decode cX11_digest 34 = .ok (.iload_n 2, 1) := by decide +kernel
theorem dX11_digest_35 : decode cX11_digest 35 = .ok (.aload_n 0, 1) := by decide +kernel
theorem dX11_digest_36 : decode cX11_digest 36 = .ok (.getfield 21, 3) := by decide +kernel
theorem dX11_digest_39 : decode cX11_digest 39 = .ok (.getfield 99, 3) := by decide +kernel
theorem dX11_digest_42 : decode cX11_digest 42 = .ok (.if_icmp .ge 23, 3) := by decide +kernel
theorem dX11_digest_45 : decode cX11_digest 45 = .ok (.iload_n 1, 1) := by decide +kernel
theorem dX11_digest_46 : decode cX11_digest 46 = .ok (.bipush 31, 2) := by decide +kernel
theorem dX11_digest_48 : decode cX11_digest 48 = .ok (.imul, 1) := by decide +kernel
theorem dX11_digest_49 : decode cX11_digest 49 = .ok (.aload_n 0, 1) := by decide +kernel
theorem dX11_digest_50 : decode cX11_digest 50 = .ok (.getfield 21, 3) := by decide +kernel
theorem dX11_digest_53 : decode cX11_digest 53 = .ok (.iload_n 2, 1) := by decide +kernel
theorem dX11_digest_54 : decode cX11_digest 54 = .ok (.invokevirtual 224, 3) := by decide +kernel
theorem dX11_digest_57 : decode cX11_digest 57 = .ok (.iadd, 1) := by decide +kernel
theorem dX11_digest_58 : decode cX11_digest 58 = .ok (.istore_n 1, 1) := by decide +kernel
theorem dX11_digest_59 : decode cX11_digest 59 = .ok (.iinc 2 1, 3) := by decide +kernel
theorem dX11_digest_62 : decode cX11_digest 62 = .ok (.goto (-28), 3) := by decide +kernel
theorem dX11_digest_65 : decode cX11_digest 65 = .ok (.iconst 0, 1) := by decide +kernel
theorem dX11_digest_66 : decode cX11_digest 66 = .ok (.istore_n 2, 1) := by decide +kernel
theorem dX11_digest_67 : decode cX11_digest 67 = .ok (.iload_n 2, 1) := by decide +kernel
theorem dX11_digest_68 : decode cX11_digest 68 = .ok (.iconst 4, 1) := by decide +kernel
theorem dX11_digest_69 : decode cX11_digest 69 = .ok (.if_icmp .gt 23, 3) := by decide +kernel
theorem dX11_digest_72 : decode cX11_digest 72 = .ok (.iload_n 1, 1) := by decide +kernel
theorem dX11_digest_73 : decode cX11_digest 73 = .ok (.bipush 31, 2) := by decide +kernel
theorem dX11_digest_75 : decode cX11_digest 75 = .ok (.imul, 1) := by decide +kernel
theorem dX11_digest_76 : decode cX11_digest 76 = .ok (.aload_n 0, 1) := by decide +kernel
theorem dX11_digest_77 : decode cX11_digest 77 = .ok (.getfield 44, 3) := by decide +kernel
theorem dX11_digest_80 : decode cX11_digest 80 = .ok (.iload_n 2, 1) := by decide +kernel
theorem dX11_digest_81 : decode cX11_digest 81 = .ok (.invokevirtual 413, 3) := by decide +kernel
theorem dX11_digest_84 : decode cX11_digest 84 = .ok (.iadd, 1) := by decide +kernel
theorem dX11_digest_85 : decode cX11_digest 85 = .ok (.istore_n 1, 1) := by decide +kernel
theorem dX11_digest_86 : decode cX11_digest 86 = .ok (.iinc 2 1, 3) := by decide +kernel
theorem dX11_digest_89 : decode cX11_digest 89 = .ok (.goto (-22), 3) := by decide +kernel
theorem dX11_digest_92 : decode cX11_digest 92 = .ok (.iload_n 1, 1) := by decide +kernel
theorem dX11_digest_93 : decode cX11_digest 93 = .ok (.bipush 31, 2) := by decide +kernel
theorem dX11_digest_95 : decode cX11_digest 95 = .ok (.imul, 1) := by decide +kernel
theorem dX11_digest_96 : decode cX11_digest 96 = .ok (.aload_n 0, 1) := by decide +kernel
theorem dX11_digest_97 : decode cX11_digest 97 = .ok (.getfield 87, 3) := by decide +kernel
theorem dX11_digest_100 : decode cX11_digest 100 = .ok (.iadd, 1) := by decide +kernel
theorem dX11_digest_101 : decode cX11_digest 101 = .ok (.istore_n 1, 1) := by decide +kernel
theorem dX11_digest_102 : decode cX11_digest 102 = .ok (.iload_n 1, 1) := by decide +kernel
theorem dX11_digest_103 : decode cX11_digest 103 = .ok (.bipush 31, 2) := by decide +kernel
theorem dX11_digest_105 : decode cX11_digest 105 = .ok (.imul, 1) := by decide +kernel
theorem dX11_digest_106 : decode cX11_digest 106 = .ok (.aload_n 0, 1) := by decide +kernel
theorem dX11_digest_107 : decode cX11_digest 107 = .ok (.getfield 90, 3) := by decide +kernel
theorem dX11_digest_110 : decode cX11_digest 110 = .ok (.iadd, 1) := by decide +kernel
theorem dX11_digest_111 : decode cX11_digest 111 = .ok (.ireturn, 1) := by decide +kernel
theorem dX11_done_0 : decode cX11_done 0 = .ok (.aload_n 0, 1) := by decide +kernel
theorem dX11_done_1 : decode cX11_done 1 = .ok (.iconst 0, 1) := by decide +kernel
theorem dX11_done_2 : decode cX11_done 2 = .ok (.putfield 93, 3) := by decide +kernel
theorem dX11_done_5 : decode cX11_done 5 = .ok (.aload_n 0, 1) := by decide +kernel
theorem dX11_done_6 : decode cX11_done 6 = .ok (.iconst (-1), 1) := by decide +kernel
theorem dX11_done_7 : decode cX11_done 7 = .ok (.putfield 96, 3) := by decide +kernel
theorem dX11_done_10 : decode cX11_done 10 = .ok (.iload_n 1, 1) := by decide +kernel
theorem dX11_done_11 : decode cX11_done 11 = .ok (.ireturn, 1) := by decide +kernel
theorem dX11_refuse_0 : decode cX11_refuse 0 = .ok (.aload_n 0, 1) := by decide +kernel
theorem dX11_refuse_1 : decode cX11_refuse 1 = .ok (.iload_n 1, 1) := by decide +kernel
theorem dX11_refuse_2 : decode cX11_refuse 2 = .ok (.putfield 93, 3) := by decide +kernel
theorem dX11_refuse_5 : decode cX11_refuse 5 = .ok (.aload_n 0, 1) := by decide +kernel
theorem dX11_refuse_6 : decode cX11_refuse 6 = .ok (.iconst (-1), 1) := by decide +kernel
theorem dX11_refuse_7 : decode cX11_refuse 7 = .ok (.putfield 96, 3) := by decide +kernel
theorem dX11_refuse_10 : decode cX11_refuse 10 = .ok (.iconst (-1), 1) := by decide +kernel
theorem dX11_refuse_11 : decode cX11_refuse 11 = .ok (.ireturn, 1) := by decide +kernel
theorem dX11_refuseAt_0 : decode cX11_refuseAt 0 = .ok (.aload_n 0, 1) := by decide +kernel
theorem dX11_refuseAt_1 : decode cX11_refuseAt 1 = .ok (.iload_n 1, 1) := by decide +kernel
theorem dX11_refuseAt_2 : decode cX11_refuseAt 2 = .ok (.putfield 93, 3) := by decide +kernel
theorem dX11_refuseAt_5 : decode cX11_refuseAt 5 = .ok (.aload_n 0, 1) := by decide +kernel
theorem dX11_refuseAt_6 : decode cX11_refuseAt 6 = .ok (.iload_n 1, 1) := by decide +kernel
theorem dX11_refuseAt_7 : decode cX11_refuseAt 7 = .ok (.bipush 7, 2) := by decide +kernel
theorem dX11_refuseAt_9 : decode cX11_refuseAt 9 = .ok (.if_icmp .eq 9, 3) := by decide +kernel
theorem dX11_refuseAt_12 : decode cX11_refuseAt 12 = .ok (.iload_n 1, 1) := by decide +kernel
theorem dX11_refuseAt_13 : decode cX11_refuseAt 13 = .ok (.bipush 9, 2) := by decide +kernel
theorem dX11_refuseAt_15 : decode cX11_refuseAt 15 = .ok (.if_icmp .ne 7, 3) := by decide +kernel
theorem dX11_refuseAt_18 : decode cX11_refuseAt 18 = .ok (.iload_n 2, 1) := by decide +kernel
theorem dX11_refuseAt_19 : decode cX11_refuseAt 19 = .ok (.goto 4, 3) := by decide +kernel
theorem dX11_refuseAt_22 : decode cX11_refuseAt 22 = .ok (.iconst (-1), 1) := by decide +kernel
theorem dX11_refuseAt_23 : decode cX11_refuseAt 23 = .ok (.putfield 96, 3) := by decide +kernel
theorem dX11_refuseAt_26 : decode cX11_refuseAt 26 = .ok (.iconst (-1), 1) := by decide +kernel
theorem dX11_refuseAt_27 : decode cX11_refuseAt 27 = .ok (.ireturn, 1) := by decide +kernel
theorem dX11_isDigit_0 : decode cX11_isDigit 0 = .ok (.iload_n 0, 1) := by decide +kernel
theorem dX11_isDigit_1 : decode cX11_isDigit 1 = .ok (.bipush 48, 2) := by decide +kernel
theorem dX11_isDigit_3 : decode cX11_isDigit 3 = .ok (.if_icmp .lt 13, 3) := by decide +kernel
theorem dX11_isDigit_6 : decode cX11_isDigit 6 = .ok (.iload_n 0, 1) := by decide +kernel
theorem dX11_isDigit_7 : decode cX11_isDigit 7 = .ok (.bipush 57, 2) := by decide +kernel
theorem dX11_isDigit_9 : decode cX11_isDigit 9 = .ok (.if_icmp .gt 7, 3) := by decide +kernel
theorem dX11_isDigit_12 : decode cX11_isDigit 12 = .ok (.iconst 1, 1) := by decide +kernel
theorem dX11_isDigit_13 : decode cX11_isDigit 13 = .ok (.goto 4, 3) := by decide +kernel
theorem dX11_isDigit_16 : decode cX11_isDigit 16 = .ok (.iconst 0, 1) := by decide +kernel
theorem dX11_isDigit_17 : decode cX11_isDigit 17 = .ok (.ireturn, 1) := by decide +kernel
theorem dX11_isGreat_0 : decode cX11_isGreat 0 = .ok (.iload_n 0, 1) := by decide +kernel
theorem dX11_isGreat_1 : decode cX11_isGreat 1 = .ok (.bipush 65, 2) := by decide +kernel
theorem dX11_isGreat_3 : decode cX11_isGreat 3 = .ok (.if_icmp .lt 13, 3) := by decide +kernel
theorem dX11_isGreat_6 : decode cX11_isGreat 6 = .ok (.iload_n 0, 1) := by decide +kernel
theorem dX11_isGreat_7 : decode cX11_isGreat 7 = .ok (.bipush 90, 2) := by decide +kernel
theorem dX11_isGreat_9 : decode cX11_isGreat 9 = .ok (.if_icmp .gt 7, 3) := by decide +kernel
theorem dX11_isGreat_12 : decode cX11_isGreat 12 = .ok (.iconst 1, 1) := by decide +kernel
theorem dX11_isGreat_13 : decode cX11_isGreat 13 = .ok (.goto 4, 3) := by decide +kernel
theorem dX11_isGreat_16 : decode cX11_isGreat 16 = .ok (.iconst 0, 1) := by decide +kernel
theorem dX11_isGreat_17 : decode cX11_isGreat 17 = .ok (.ireturn, 1) := by decide +kernel
theorem dX11_isSmall_0 : decode cX11_isSmall 0 = .ok (.iload_n 0, 1) := by decide +kernel
theorem dX11_isSmall_1 : decode cX11_isSmall 1 = .ok (.bipush 97, 2) := by decide +kernel
theorem dX11_isSmall_3 : decode cX11_isSmall 3 = .ok (.if_icmp .lt 13, 3) := by decide +kernel
theorem dX11_isSmall_6 : decode cX11_isSmall 6 = .ok (.iload_n 0, 1) := by decide +kernel
theorem dX11_isSmall_7 : decode cX11_isSmall 7 = .ok (.bipush 122, 2) := by decide +kernel
theorem dX11_isSmall_9 : decode cX11_isSmall 9 = .ok (.if_icmp .gt 7, 3) := by decide +kernel
theorem dX11_isSmall_12 : decode cX11_isSmall 12 = .ok (.iconst 1, 1) := by decide +kernel
theorem dX11_isSmall_13 : decode cX11_isSmall 13 = .ok (.goto 4, 3) := by decide +kernel
theorem dX11_isSmall_16 : decode cX11_isSmall 16 = .ok (.iconst 0, 1) := by decide +kernel
theorem dX11_isSmall_17 : decode cX11_isSmall 17 = .ok (.ireturn, 1) := by decide +kernel
