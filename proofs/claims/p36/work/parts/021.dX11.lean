theorem dX11_head_0 : decode cX11_head 0 = .ok (.aload_n 0, 1) := by decide +kernel
theorem dX11_head_1 : decode cX11_head 1 = .ok (.getfield 14, 3) := by decide +kernel
theorem dX11_head_4 : decode cX11_head 4 = .ok (.getfield 99, 3) := by decide +kernel
theorem dX11_head_7 : decode cX11_head 7 = .ok (.bipush 40, 2) := by decide +kernel
theorem dX11_head_9 : decode cX11_head 9 = .ok (.if_icmp .gt 29, 3) := by decide +kernel
theorem dX11_head_12 : decode cX11_head 12 = .ok (.aload_n 0, 1) := by decide +kernel
theorem dX11_head_13 : decode cX11_head 13 = .ok (.getfield 14, 3) := by decide +kernel
theorem dX11_head_16 : decode cX11_head 16 = .ok (.iconst 0, 1) := by decide +kernel
theorem dX11_head_17 : decode cX11_head 17 = .ok (.aload_n 0, 1) := by decide +kernel
theorem dX11_head_18 : decode cX11_head 18 = .ok (.getfield 14, 3) := by decide +kernel
theorem dX11_head_21 : decode cX11_head 21 = .ok (.getfield 99, 3) := by decide +kernel
theorem dX11_head_24 : decode cX11_head 24 = .ok (.bipush 33, 2) := by decide +kernel
theorem dX11_head_26 : decode cX11_head 26 = .ok (.bipush 125, 2) := by decide +kernel
theorem dX11_head_28 : decode cX11_head 28 = .ok (.invokevirtual 171, 3) := by decide +kernel
theorem dX11_head_31 : decode cX11_head 31 = .ok (.ifCond .eq 7, 3) := by decide +kernel
theorem dX11_head_34 : decode cX11_head 34 = .ok (.iconst 1, 1) := by decide +kernel
theorem dX11_head_35 : decode cX11_head 35 = .ok (.goto 4, 3) := by decide +kernel
theorem dX11_head_38 : decode cX11_head 38 = .ok (.iconst 0, 1) := by decide +kernel
theorem dX11_head_39 : decode cX11_head 39 = .ok (.istore_n 2, 1) := by decide +kernel
theorem dX11_head_40 : decode cX11_head 40 = .ok (.aload_n 0, 1) := by decide +kernel
theorem dX11_head_41 : decode cX11_head 41 = .ok (.getfield 44, 3) := by decide +kernel
theorem dX11_head_44 : decode cX11_head 44 = .ok (.invokevirtual 272, 3) := by decide +kernel
theorem dX11_head_47 : decode cX11_head 47 = .ok (.iconst 0, 1) := by decide +kernel
theorem dX11_head_48 : decode cX11_head 48 = .ok (.istore_n 3, 1) := by decide +kernel
theorem dX11_head_49 : decode cX11_head 49 = .ok (.iload_n 2, 1) := by decide +kernel
theorem dX11_head_50 : decode cX11_head 50 = .ok (.ifCond .eq 36, 3) := by decide +kernel
theorem dX11_head_53 : decode cX11_head 53 = .ok (.iload_n 3, 1) := by decide +kernel
theorem dX11_head_54 : decode cX11_head 54 = .ok (.aload_n 0, 1) := by decide +kernel
theorem dX11_head_55 : decode cX11_head 55 = .ok (.getfield 14, 3) := by decide +kernel
theorem dX11_head_58 : decode cX11_head 58 = .ok (.getfield 99, 3) := by decide +kernel
theorem dX11_head_61 : decode cX11_head 61 = .ok (.if_icmp .ge 25, 3) := by decide +kernel
theorem dX11_head_64 : decode cX11_head 64 = .ok (.aload_n 0, 1) := by decide +kernel
theorem dX11_head_65 : decode cX11_head 65 = .ok (.getfield 44, 3) := by decide +kernel
theorem dX11_head_68 : decode cX11_head 68 = .ok (.aload_n 0, 1) := by decide +kernel
theorem dX11_head_69 : decode cX11_head 69 = .ok (.getfield 14, 3) := by decide +kernel
theorem dX11_head_72 : decode cX11_head 72 = .ok (.iload_n 3, 1) := by decide +kernel
theorem dX11_head_73 : decode cX11_head 73 = .ok (.invokevirtual 224, 3) := by decide +kernel
theorem dX11_head_76 : decode cX11_head 76 = .ok (.iload_n 3, 1) := by decide +kernel
theorem dX11_head_77 : decode cX11_head 77 = .ok (.invokevirtual 273, 3) := by decide +kernel
theorem dX11_head_80 : decode cX11_head 80 = .ok (.iinc 3 1, 3) := by decide +kernel
theorem dX11_head_83 : decode cX11_head 83 = .ok (.goto (-34), 3) := by decide +kernel
theorem dX11_head_86 : decode cX11_head 86 = .ok (.aload_n 0, 1) := by decide +kernel
theorem dX11_head_87 : decode cX11_head 87 = .ok (.getfield 14, 3) := by decide +kernel
theorem dX11_head_90 : decode cX11_head 90 = .ok (.invokevirtual 164, 3) := by decide +kernel
theorem dX11_head_93 : decode cX11_head 93 = .ok (.iload_n 2, 1) := by decide +kernel
theorem dX11_head_94 : decode cX11_head 94 = .ok (.ifCond .ne 10, 3) := by decide +kernel
theorem dX11_head_97 : decode cX11_head 97 = .ok (.aload_n 0, 1) := by decide +kernel
theorem dX11_head_98 : decode cX11_head 98 = .ok (.bipush 6, 2) := by decide +kernel
theorem dX11_head_100 : decode cX11_head 100 = .ok (.invokevirtual 102, 3) := by decide +kernel
theorem dX11_head_103 : decode cX11_head 103 = .ok (.ireturn, 1) := by decide +kernel
theorem dX11_head_104 : decode cX11_head 104 = .ok (.aload_n 0, 1) := by decide +kernel
theorem dX11_head_105 : decode cX11_head 105 = .ok (.getfield 30, 3) := by decide +kernel
theorem dX11_head_108 : decode cX11_head 108 = .ok (.iload_n 1, 1) := by decide +kernel
theorem dX11_head_109 : decode cX11_head 109 = .ok (.invokevirtual 231, 3) := by decide +kernel
theorem dX11_head_112 : decode cX11_head 112 = .ok (.astore_n 3, 1) := by decide +kernel
theorem dX11_head_113 : decode cX11_head 113 = .ok (.aload_n 3, 1) := by decide +kernel
theorem dX11_head_114 : decode cX11_head 114 = .ok (.ifnonnull 9, 3) := by decide +kernel
theorem dX11_head_117 : decode cX11_head 117 = .ok (.aload_n 0, 1) := by decide +kernel
theorem dX11_head_118 : decode cX11_head 118 = .ok (.iconst 3, 1) := by decide +kernel
theorem dX11_head_119 : decode cX11_head 119 = .ok (.invokevirtual 102, 3) := by decide +kernel
theorem dX11_head_122 : decode cX11_head 122 = .ok (.ireturn, 1) := by decide +kernel
theorem dX11_head_123 : decode cX11_head 123 = .ok (.aload_n 0, 1) := by decide +kernel
theorem dX11_head_124 : decode cX11_head 124 = .ok (.getfield 44, 3) := by decide +kernel
theorem dX11_head_127 : decode cX11_head 127 = .ok (.aload_n 3, 1) := by decide +kernel
theorem dX11_head_128 : decode cX11_head 128 = .ok (.invokevirtual 253, 3) := by decide +kernel
theorem dX11_head_131 : decode cX11_head 131 = .ok (.istore 4, 2) := by decide +kernel
theorem dX11_head_133 : decode cX11_head 133 = .ok (.iload 4, 2) := by decide +kernel
theorem dX11_head_135 : decode cX11_head 135 = .ok (.ifCond .eq 17, 3) := by decide +kernel
theorem dX11_head_138 : decode cX11_head 138 = .ok (.aload_n 0, 1) := by decide +kernel
theorem dX11_head_139 : decode cX11_head 139 = .ok (.iload 4, 2) := by decide +kernel
theorem dX11_head_141 : decode cX11_head 141 = .ok (.aload_n 0, 1) := by decide +kernel
theorem dX11_head_142 : decode cX11_head 142 = .ok (.getfield 44, 3) := by decide +kernel
theorem dX11_head_145 : decode cX11_head 145 = .ok (.invokevirtual 263, 3) := by decide +kernel
theorem dX11_head_148 : decode cX11_head 148 = .ok (.invokevirtual 266, 3) := by decide +kernel
theorem dX11_head_151 : decode cX11_head 151 = .ok (.ireturn, 1) := by decide +kernel
theorem dX11_head_152 : decode cX11_head 152 = .ok (.aload_n 0, 1) := by decide +kernel
theorem dX11_head_153 : decode cX11_head 153 = .ok (.getfield 24, 3) := by decide +kernel
theorem dX11_head_156 : decode cX11_head 156 = .ok (.invokevirtual 164, 3) := by decide +kernel
theorem dX11_head_159 : decode cX11_head 159 = .ok (.iconst 0, 1) := by decide +kernel
theorem dX11_head_160 : decode cX11_head 160 = .ok (.istore 5, 2) := by decide +kernel
theorem dX11_head_162 : decode cX11_head 162 = .ok (.iload 5, 2) := by decide +kernel
theorem dX11_head_164 : decode cX11_head 164 = .ok (.aload_n 0, 1) := by decide +kernel
theorem dX11_head_165 : decode cX11_head 165 = .ok (.getfield 44, 3) := by decide +kernel
theorem dX11_head_168 : decode cX11_head 168 = .ok (.getfield 277, 3) := by decide +kernel
theorem dX11_head_171 : decode cX11_head 171 = .ok (.if_icmp .ge 35, 3) := by decide +kernel
theorem dX11_head_174 : decode cX11_head 174 = .ok (.iload 5, 2) := by decide +kernel
theorem dX11_head_176 : decode cX11_head 176 = .ok (.aload_n 0, 1) := by decide +kernel
theorem dX11_head_177 : decode cX11_head 177 = .ok (.getfield 74, 3) := by decide +kernel
theorem dX11_head_180 : decode cX11_head 180 = .ok (.if_icmp .ge 26, 3) := by decide +kernel
theorem dX11_head_183 : decode cX11_head 183 = .ok (.aload_n 0, 1) := by decide +kernel
theorem dX11_head_184 : decode cX11_head 184 = .ok (.getfield 24, 3) := by decide +kernel
theorem dX11_head_187 : decode cX11_head 187 = .ok (.aload_n 0, 1) := by decide +kernel
theorem dX11_head_188 : decode cX11_head 188 = .ok (.getfield 44, 3) := by decide +kernel
theorem dX11_head_191 : decode cX11_head 191 = .ok (.getfield 278, 3) := by decide +kernel
theorem dX11_head_194 : decode cX11_head 194 = .ok (.iload 5, 2) := by decide +kernel
theorem dX11_head_196 : decode cX11_head 196 = .ok (.iaload, 1) := by decide +kernel
theorem dX11_head_197 : decode cX11_head 197 = .ok (.invokevirtual 112, 3) := by decide +kernel
theorem dX11_head_200 : decode cX11_head 200 = .ok (.iinc 5 1, 3) := by decide +kernel
theorem dX11_head_203 : decode cX11_head 203 = .ok (.goto (-41), 3) := by decide +kernel
theorem dX11_head_206 : decode cX11_head 206 = .ok (.aload_n 0, 1) := by decide +kernel
theorem dX11_head_207 : decode cX11_head 207 = .ok (.aload_n 0, 1) := by decide +kernel
theorem dX11_head_208 : decode cX11_head 208 = .ok (.getfield 24, 3) := by decide +kernel
theorem dX11_head_211 : decode cX11_head 211 = .ok (.getfield 99, 3) := by decide +kernel
theorem dX11_head_214 : decode cX11_head 214 = .ok (.invokevirtual 109, 3) := by decide +kernel
theorem dX11_head_217 : decode cX11_head 217 = .ok (.ireturn, 1) := by decide +kernel
theorem dX11_judge_0 : decode cX11_judge 0 = .ok (.aload_n 0, 1) := by decide +kernel
theorem dX11_judge_1 : decode cX11_judge 1 = .ok (.getfield 30, 3) := by decide +kernel
theorem dX11_judge_4 : decode cX11_judge 4 = .ok (.iload_n 1, 1) := by decide +kernel
theorem dX11_judge_5 : decode cX11_judge 5 = .ok (.invokevirtual 131, 3) := by decide +kernel
theorem dX11_judge_8 : decode cX11_judge 8 = .ok (.astore_n 2, 1) := by decide +kernel
theorem dX11_judge_9 : decode cX11_judge 9 = .ok (.aload_n 2, 1) := by decide +kernel
theorem dX11_judge_10 : decode cX11_judge 10 = .ok (.ifnonnull 9, 3) := by decide +kernel
theorem dX11_judge_13 : decode cX11_judge 13 = .ok (.aload_n 0, 1) := by decide +kernel
theorem dX11_judge_14 : decode cX11_judge 14 = .ok (.iconst 3, 1) := by decide +kernel
theorem dX11_judge_15 : decode cX11_judge 15 = .ok (.invokevirtual 102, 3) := by decide +kernel
theorem dX11_judge_18 : decode cX11_judge 18 = .ok (.ireturn, 1) := by decide +kernel
theorem dX11_judge_19 : decode cX11_judge 19 = .ok (.aload_n 2, 1) := by decide +kernel
theorem dX11_judge_20 : decode cX11_judge 20 = .ok (.getfield 135, 3) := by decide +kernel
theorem dX11_judge_23 : decode cX11_judge 23 = .ok (.iconst 4, 1) := by decide +kernel
theorem dX11_judge_24 : decode cX11_judge 24 = .ok (.if_icmp .ne 9, 3) := by decide +kernel
theorem dX11_judge_27 : decode cX11_judge 27 = .ok (.aload_n 0, 1) := by decide +kernel
theorem dX11_judge_28 : decode cX11_judge 28 = .ok (.iconst 4, 1) := by decide +kernel
theorem dX11_judge_29 : decode cX11_judge 29 = .ok (.invokevirtual 102, 3) := by decide +kernel
theorem dX11_judge_32 : decode cX11_judge 32 = .ok (.ireturn, 1) := by decide +kernel
theorem dX11_judge_33 : decode cX11_judge 33 = .ok (.aload_n 0, 1) := by decide +kernel
theorem dX11_judge_34 : decode cX11_judge 34 = .ok (.getfield 30, 3) := by decide +kernel
theorem dX11_judge_37 : decode cX11_judge 37 = .ok (.iload_n 1, 1) := by decide +kernel
theorem dX11_judge_38 : decode cX11_judge 38 = .ok (.invokevirtual 231, 3) := by decide +kernel
theorem dX11_judge_41 : decode cX11_judge 41 = .ok (.ifnonnull 9, 3) := by decide +kernel
theorem dX11_judge_44 : decode cX11_judge 44 = .ok (.aload_n 0, 1) := by decide +kernel
theorem dX11_judge_45 : decode cX11_judge 45 = .ok (.iconst 3, 1) := by decide +kernel
theorem dX11_judge_46 : decode cX11_judge 46 = .ok (.invokevirtual 102, 3) := by decide +kernel
theorem dX11_judge_49 : decode cX11_judge 49 = .ok (.ireturn, 1) := by decide +kernel
theorem dX11_judge_50 : decode cX11_judge 50 = .ok (.aload_n 2, 1) := by decide +kernel
theorem dX11_judge_51 : decode cX11_judge 51 = .ok (.invokevirtual 367, 3) := by decide +kernel
theorem dX11_judge_54 : decode cX11_judge 54 = .ok (.ifCond .eq 9, 3) := by decide +kernel
theorem dX11_judge_57 : decode cX11_judge 57 = .ok (.aload_n 0, 1) := by decide +kernel
theorem dX11_judge_58 : decode cX11_judge 58 = .ok (.iconst 0, 1) := by decide +kernel
theorem dX11_judge_59 : decode cX11_judge 59 = .ok (.invokevirtual 109, 3) := by decide +kernel
theorem dX11_judge_62 : decode cX11_judge 62 = .ok (.ireturn, 1) := by decide +kernel
theorem dX11_judge_63 : decode cX11_judge 63 = .ok (.aload_n 0, 1) := by decide +kernel
theorem dX11_judge_64 : decode cX11_judge 64 = .ok (.getfield 51, 3) := by decide +kernel
theorem dX11_judge_67 : decode cX11_judge 67 = .ok (.aload_n 2, 1) := by decide +kernel
theorem dX11_judge_68 : decode cX11_judge 68 = .ok (.invokevirtual 331, 3) := by decide +kernel
theorem dX11_judge_71 : decode cX11_judge 71 = .ok (.aload_n 0, 1) := by decide +kernel
theorem dX11_judge_72 : decode cX11_judge 72 = .ok (.getfield 51, 3) := by decide +kernel
theorem dX11_judge_75 : decode cX11_judge 75 = .ok (.getfield 370, 3) := by decide +kernel
theorem dX11_judge_78 : decode cX11_judge 78 = .ok (.aload_n 0, 1) := by decide +kernel
theorem dX11_judge_79 : decode cX11_judge 79 = .ok (.getfield 81, 3) := by decide +kernel
theorem dX11_judge_82 : decode cX11_judge 82 = .ok (.invokestatic 373, 3) := by decide +kernel
theorem dX11_judge_85 : decode cX11_judge 85 = .ok (.ifCond .eq 24, 3) := by decide +kernel
theorem dX11_judge_88 : decode cX11_judge 88 = .ok (.aload_n 0, 1) := by decide +kernel
theorem dX11_judge_89 : decode cX11_judge 89 = .ok (.getfield 51, 3) := by decide +kernel
theorem dX11_judge_92 : decode cX11_judge 92 = .ok (.getfield 377, 3) := by decide +kernel
theorem dX11_judge_95 : decode cX11_judge 95 = .ok (.aload_n 0, 1) := by decide +kernel
theorem dX11_judge_96 : decode cX11_judge 96 = .ok (.getfield 81, 3) := by decide +kernel
theorem dX11_judge_99 : decode cX11_judge 99 = .ok (.invokestatic 373, 3) := by decide +kernel
theorem dX11_judge_102 : decode cX11_judge 102 = .ok (.ifCond .eq 7, 3) := by decide +kernel
theorem dX11_judge_105 : decode cX11_judge 105 = .ok (.iconst 1, 1) := by decide +kernel
theorem dX11_judge_106 : decode cX11_judge 106 = .ok (.goto 4, 3) := by decide +kernel
theorem dX11_judge_109 : decode cX11_judge 109 = .ok (.iconst 0, 1) := by decide +kernel
theorem dX11_judge_110 : decode cX11_judge 110 = .ok (.istore_n 3, 1) := by decide +kernel
theorem dX11_judge_111 : decode cX11_judge 111 = .ok (.aload_n 0, 1) := by decide +kernel
theorem dX11_judge_112 : decode cX11_judge 112 = .ok (.iload_n 3, 1) := by decide +kernel
theorem dX11_judge_113 : decode cX11_judge 113 = .ok (.ifCond .eq 7, 3) := by decide +kernel
theorem dX11_judge_116 : decode cX11_judge 116 = .ok (.iconst 1, 1) := by decide +kernel
theorem dX11_judge_117 : decode cX11_judge 117 = .ok (.goto 4, 3) := by decide +kernel
theorem dX11_judge_120 : decode cX11_judge 120 = .ok (.iconst 0, 1) := by decide +kernel
theorem dX11_judge_121 : decode cX11_judge 121 = .ok (.invokevirtual 109, 3) := by decide +kernel
theorem dX11_judge_124 : decode cX11_judge 124 = .ok (.ireturn, 1) := by decide +kernel
theorem dX11_parts_0 : decode cX11_parts 0 = .ok (.aload_n 0, 1) := by decide +kernel
theorem dX11_parts_1 : decode cX11_parts 1 = .ok (.getfield 30, 3) := by decide +kernel
theorem dX11_parts_4 : decode cX11_parts 4 = .ok (.iload_n 1, 1) := by decide +kernel
theorem dX11_parts_5 : decode cX11_parts 5 = .ok (.invokevirtual 231, 3) := by decide +kernel
theorem dX11_parts_8 : decode cX11_parts 8 = .ok (.astore 4, 2) := by decide +kernel
theorem dX11_parts_10 : decode cX11_parts 10 = .ok (.aload 4, 2) := by decide +kernel
theorem dX11_parts_12 : decode cX11_parts 12 = .ok (.ifnonnull 9, 3) := by decide +kernel
theorem dX11_parts_15 : decode cX11_parts 15 = .ok (.aload_n 0, 1) := by decide +kernel
theorem dX11_parts_16 : decode cX11_parts 16 = .ok (.iconst 3, 1) := by decide +kernel
theorem dX11_parts_17 : decode cX11_parts 17 = .ok (.invokevirtual 102, 3) := by decide +kernel
theorem dX11_parts_20 : decode cX11_parts 20 = .ok (.ireturn, 1) := by decide +kernel
theorem dX11_parts_21 : decode cX11_parts 21 = .ok (.aload_n 0, 1) := by decide +kernel
theorem dX11_parts_22 : decode cX11_parts 22 = .ok (.getfield 51, 3) := by decide +kernel
theorem dX11_parts_25 : decode cX11_parts 25 = .ok (.aload 4, 2) := by decide +kernel
theorem dX11_parts_27 : decode cX11_parts 27 = .ok (.invokevirtual 331, 3) := by decide +kernel
theorem dX11_parts_30 : decode cX11_parts 30 = .ok (.aload_n 0, 1) := by decide +kernel
theorem dX11_parts_31 : decode cX11_parts 31 = .ok (.getfield 51, 3) := by decide +kernel
theorem dX11_parts_34 : decode cX11_parts 34 = .ok (.getfield 370, 3) := by decide +kernel
theorem dX11_parts_37 : decode cX11_parts 37 = .ok (.invokevirtual 183, 3) := by decide +kernel
theorem dX11_parts_40 : decode cX11_parts 40 = .ok (.istore 5, 2) := by decide +kernel
theorem dX11_parts_42 : decode cX11_parts 42 = .ok (.iload_n 2, 1) := by decide +kernel
theorem dX11_parts_43 : decode cX11_parts 43 = .ok (.ifCond .lt 19, 3) := by decide +kernel
theorem dX11_parts_46 : decode cX11_parts 46 = .ok (.iload_n 2, 1) := by decide +kernel
theorem dX11_parts_47 : decode cX11_parts 47 = .ok (.iload 5, 2) := by decide +kernel
theorem dX11_parts_49 : decode cX11_parts 49 = .ok (.if_icmp .ge 13, 3) := by decide +kernel
theorem dX11_parts_52 : decode cX11_parts 52 = .ok (.iload_n 3, 1) := by decide +kernel
theorem dX11_parts_53 : decode cX11_parts 53 = .ok (.ifCond .lt 9, 3) := by decide +kernel
theorem dX11_parts_56 : decode cX11_parts 56 = .ok (.iload_n 3, 1) := by decide +kernel
theorem dX11_parts_57 : decode cX11_parts 57 = .ok (.iload 5, 2) := by decide +kernel
theorem dX11_parts_59 : decode cX11_parts 59 = .ok (.if_icmp .lt 9, 3) := by decide +kernel
theorem dX11_parts_62 : decode cX11_parts 62 = .ok (.aload_n 0, 1) := by decide +kernel
theorem dX11_parts_63 : decode cX11_parts 63 = .ok (.iconst 2, 1) := by decide +kernel
theorem dX11_parts_64 : decode cX11_parts 64 = .ok (.invokevirtual 102, 3) := by decide +kernel
theorem dX11_parts_67 : decode cX11_parts 67 = .ok (.ireturn, 1) := by decide +kernel
theorem dX11_parts_68 : decode cX11_parts 68 = .ok (.aload_n 0, 1) := by decide +kernel
theorem dX11_parts_69 : decode cX11_parts 69 = .ok (.getfield 51, 3) := by decide +kernel
theorem dX11_parts_72 : decode cX11_parts 72 = .ok (.getfield 370, 3) := by decide +kernel
theorem dX11_parts_75 : decode cX11_parts 75 = .ok (.iload_n 2, 1) := by decide +kernel
theorem dX11_parts_76 : decode cX11_parts 76 = .ok (.invokevirtual 204, 3) := by decide +kernel
theorem dX11_parts_79 : decode cX11_parts 79 = .ok (.checkcast 188, 3) := by decide +kernel
theorem dX11_parts_82 : decode cX11_parts 82 = .ok (.astore 6, 2) := by decide +kernel
theorem dX11_parts_84 : decode cX11_parts 84 = .ok (.aload_n 0, 1) := by decide +kernel
theorem dX11_parts_85 : decode cX11_parts 85 = .ok (.getfield 51, 3) := by decide +kernel
theorem dX11_parts_88 : decode cX11_parts 88 = .ok (.getfield 370, 3) := by decide +kernel
theorem dX11_parts_91 : decode cX11_parts 91 = .ok (.iload_n 3, 1) := by decide +kernel
theorem dX11_parts_92 : decode cX11_parts 92 = .ok (.invokevirtual 204, 3) := by decide +kernel
theorem dX11_parts_95 : decode cX11_parts 95 = .ok (.checkcast 188, 3) := by decide +kernel
theorem dX11_parts_98 : decode cX11_parts 98 = .ok (.astore 7, 2) := by decide +kernel
theorem dX11_parts_100 : decode cX11_parts 100 = .ok (.aload 6, 2) := by decide +kernel
theorem dX11_parts_102 : decode cX11_parts 102 = .ok (.aload 7, 2) := by decide +kernel
theorem dX11_parts_104 : decode cX11_parts 104 = .ok (.invokevirtual 380, 3) := by decide +kernel
theorem dX11_parts_107 : decode cX11_parts 107 = .ok (.istore 8, 2) := by decide +kernel
theorem dX11_parts_109 : decode cX11_parts 109 = .ok (.iload 8, 2) := by decide +kernel
theorem dX11_parts_111 : decode cX11_parts 111 = .ok (.aload 6, 2) := by decide +kernel
theorem dX11_parts_113 : decode cX11_parts 113 = .ok (.getfield 384, 3) := by decide +kernel
theorem dX11_parts_116 : decode cX11_parts 116 = .ok (.arraylength, 1) := by decide +kernel
theorem dX11_parts_117 : decode cX11_parts 117 = .ok (.if_icmp .eq 14, 3) := by decide +kernel
theorem dX11_parts_120 : decode cX11_parts 120 = .ok (.iload 8, 2) := by decide +kernel
theorem dX11_parts_122 : decode cX11_parts 122 = .ok (.aload 7, 2) := by decide +kernel
theorem dX11_parts_124 : decode cX11_parts 124 = .ok (.getfield 384, 3) := by decide +kernel
theorem dX11_parts_127 : decode cX11_parts 127 = .ok (.arraylength, 1) := by decide +kernel
theorem dX11_parts_128 : decode cX11_parts 128 = .ok (.if_icmp .ne 7, 3) := by decide +kernel
theorem dX11_parts_131 : decode cX11_parts 131 = .ok (.iconst 1, 1) := by decide +kernel
theorem dX11_parts_132 : decode cX11_parts 132 = .ok (.goto 4, 3) := by decide +kernel
theorem dX11_parts_135 : decode cX11_parts 135 = .ok (.iconst 0, 1) := by decide +kernel
theorem dX11_parts_136 : decode cX11_parts 136 = .ok (.istore 9, 2) := by decide +kernel
theorem dX11_parts_138 : decode cX11_parts 138 = .ok (.aload_n 0, 1) := by decide +kernel
theorem dX11_parts_139 : decode cX11_parts 139 = .ok (.iload 9, 2) := by decide +kernel
theorem dX11_parts_141 : decode cX11_parts 141 = .ok (.ifCond .eq 10, 3) := by decide +kernel
theorem dX11_parts_144 : decode cX11_parts 144 = .ok (.iconst (-1), 1) := by decide +kernel
theorem dX11_parts_145 : decode cX11_parts 145 = .ok (.iload 8, 2) := by decide +kernel
theorem dX11_parts_147 : decode cX11_parts 147 = .ok (.isub, 1) := by decide +kernel
theorem dX11_parts_148 : decode cX11_parts 148 = .ok (.goto 5, 3) := by decide +kernel
theorem dX11_parts_151 : decode cX11_parts 151 = .ok (.iload 8, 2) := by decide +kernel
theorem dX11_parts_153 : decode cX11_parts 153 = .ok (.invokevirtual 109, 3) := by decide +kernel
theorem dX11_parts_156 : decode cX11_parts 156 = .ok (.ireturn, 1) := by decide +kernel
theorem dX11_saved_0 : decode cX11_saved 0 = .ok (.aload_n 0, 1) := by decide +kernel
theorem dX11_saved_1 : decode cX11_saved 1 = .ok (.getfield 30, 3) := by decide +kernel
theorem dX11_saved_4 : decode cX11_saved 4 = .ok (.iload_n 1, 1) := by decide +kernel
theorem dX11_saved_5 : decode cX11_saved 5 = .ok (.invokevirtual 231, 3) := by decide +kernel
theorem dX11_saved_8 : decode cX11_saved 8 = .ok (.astore_n 3, 1) := by decide +kernel
theorem dX11_saved_9 : decode cX11_saved 9 = .ok (.aload_n 0, 1) := by decide +kernel
theorem dX11_saved_10 : decode cX11_saved 10 = .ok (.getfield 30, 3) := by decide +kernel
theorem dX11_saved_13 : decode cX11_saved 13 = .ok (.iload_n 2, 1) := by decide +kernel
theorem dX11_saved_14 : decode cX11_saved 14 = .ok (.invokevirtual 231, 3) := by decide +kernel
theorem dX11_saved_17 : decode cX11_saved 17 = .ok (.astore 4, 2) := by decide +kernel
theorem dX11_saved_19 : decode cX11_saved 19 = .ok (.aload_n 3, 1) := by decide +kernel
theorem dX11_saved_20 : decode cX11_saved 20 = .ok (.ifnull 8, 3) := by decide +kernel
theorem dX11_saved_23 : decode cX11_saved 23 = .ok (.aload 4, 2) := by decide +kernel
theorem dX11_saved_25 : decode cX11_saved 25 = .ok (.ifnonnull 9, 3) := by decide +kernel
theorem dX11_saved_28 : decode cX11_saved 28 = .ok (.aload_n 0, 1) := by decide +kernel
theorem dX11_saved_29 : decode cX11_saved 29 = .ok (.iconst 3, 1) := by decide +kernel
theorem dX11_saved_30 : decode cX11_saved 30 = .ok (.invokevirtual 102, 3) := by decide +kernel
theorem dX11_saved_33 : decode cX11_saved 33 = .ok (.ireturn, 1) := by decide +kernel
theorem dX11_saved_34 : decode cX11_saved 34 = .ok (.iconst 0, 1) := by decide +kernel
theorem dX11_saved_35 : decode cX11_saved 35 = .ok (.istore 5, 2) := by decide +kernel
theorem dX11_saved_37 : decode cX11_saved 37 = .ok (.iconst 0, 1) := by decide +kernel
theorem dX11_saved_38 : decode cX11_saved 38 = .ok (.istore 6, 2) := by decide +kernel
theorem dX11_saved_40 : decode cX11_saved 40 = .ok (.iconst 0, 1) := by decide +kernel
theorem dX11_saved_41 : decode cX11_saved 41 = .ok (.istore 7, 2) := by decide +kernel
theorem dX11_saved_43 : decode cX11_saved 43 = .ok (.iload 6, 2) := by decide +kernel
theorem dX11_saved_45 : decode cX11_saved 45 = .ok (.ifCond .ne 141, 3) := by decide +kernel
theorem dX11_saved_48 : decode cX11_saved 48 = .ok (.iload 7, 2) := by decide +kernel
theorem dX11_saved_50 : decode cX11_saved 50 = .ok (.iconst 2, 1) := by decide +kernel
theorem dX11_saved_51 : decode cX11_saved 51 = .ok (.if_icmp .ge 135, 3) := by decide +kernel
theorem dX11_saved_54 : decode cX11_saved 54 = .ok (.aload_n 0, 1) := by decide +kernel
theorem dX11_saved_55 : decode cX11_saved 55 = .ok (.getfield 37, 3) := by decide +kernel
theorem dX11_saved_58 : decode cX11_saved 58 = .ok (.invokevirtual 235, 3) := by decide +kernel
theorem dX11_saved_61 : decode cX11_saved 61 = .ok (.aload_n 0, 1) := by decide +kernel
theorem dX11_saved_62 : decode cX11_saved 62 = .ok (.getfield 37, 3) := by decide +kernel
theorem dX11_saved_65 : decode cX11_saved 65 = .ok (.aload_n 0, 1) := by decide +kernel
theorem dX11_saved_66 : decode cX11_saved 66 = .ok (.getfield 18, 3) := by decide +kernel
theorem dX11_saved_69 : decode cX11_saved 69 = .ok (.aload_n 0, 1) := by decide +kernel
theorem dX11_saved_70 : decode cX11_saved 70 = .ok (.getfield 44, 3) := by decide +kernel
theorem dX11_saved_73 : decode cX11_saved 73 = .ok (.invokevirtual 238, 3) := by decide +kernel
theorem dX11_saved_76 : decode cX11_saved 76 = .ok (.istore 8, 2) := by decide +kernel
theorem dX11_saved_78 : decode cX11_saved 78 = .ok (.iconst 0, 1) := by decide +kernel
theorem dX11_saved_79 : decode cX11_saved 79 = .ok (.istore 9, 2) := by decide +kernel
theorem dX11_saved_81 : decode cX11_saved 81 = .ok (.iload 6, 2) := by decide +kernel
theorem dX11_saved_83 : decode cX11_saved 83 = .ok (.ifCond .ne 97, 3) := by decide +kernel
theorem dX11_saved_86 : decode cX11_saved 86 = .ok (.iload 8, 2) := by decide +kernel
theorem dX11_saved_88 : decode cX11_saved 88 = .ok (.ifCond .eq 92, 3) := by decide +kernel
theorem dX11_saved_91 : decode cX11_saved 91 = .ok (.iload 9, 2) := by decide +kernel
theorem dX11_saved_93 : decode cX11_saved 93 = .ok (.ldc 242, 2) := by decide +kernel
theorem dX11_saved_95 : decode cX11_saved 95 = .ok (.if_icmp .ge 85, 3) := by decide +kernel
theorem dX11_saved_98 : decode cX11_saved 98 = .ok (.iload 8, 2) := by decide +kernel
theorem dX11_saved_100 : decode cX11_saved 100 = .ok (.iconst 2, 1) := by decide +kernel
theorem dX11_saved_101 : decode cX11_saved 101 = .ok (.if_icmp .ne 51, 3) := by decide +kernel
theorem dX11_saved_104 : decode cX11_saved 104 = .ok (.aload_n 0, 1) := by decide +kernel
theorem dX11_saved_105 : decode cX11_saved 105 = .ok (.getfield 44, 3) := by decide +kernel
theorem dX11_saved_108 : decode cX11_saved 108 = .ok (.iload 7, 2) := by decide +kernel
theorem dX11_saved_110 : decode cX11_saved 110 = .ok (.ifCond .ne 7, 3) := by decide +kernel
theorem dX11_saved_113 : decode cX11_saved 113 = .ok (.aload_n 3, 1) := by decide +kernel
theorem dX11_saved_114 : decode cX11_saved 114 = .ok (.goto 5, 3) := by decide +kernel
theorem dX11_saved_117 : decode cX11_saved 117 = .ok (.aload 4, 2) := by decide +kernel
theorem dX11_saved_119 : decode cX11_saved 119 = .ok (.invokevirtual 253, 3) := by decide +kernel
theorem dX11_saved_122 : decode cX11_saved 122 = .ok (.istore 6, 2) := by decide +kernel
theorem dX11_saved_124 : decode cX11_saved 124 = .ok (.iload 5, 2) := by decide +kernel
theorem dX11_saved_126 : decode cX11_saved 126 = .ok (.iload 7, 2) := by decide +kernel
theorem dX11_saved_128 : decode cX11_saved 128 = .ok (.ifCond .ne 13, 3) := by decide +kernel
theorem dX11_saved_131 : decode cX11_saved 131 = .ok (.aload_n 0, 1) := by decide +kernel
theorem dX11_saved_132 : decode cX11_saved 132 = .ok (.getfield 44, 3) := by decide +kernel
theorem dX11_saved_135 : decode cX11_saved 135 = .ok (.getfield 277, 3) := by decide +kernel
theorem dX11_saved_138 : decode cX11_saved 138 = .ok (.goto 11, 3) := by decide +kernel
theorem dX11_saved_141 : decode cX11_saved 141 = .ok (.aload_n 0, 1) := by decide +kernel
theorem dX11_saved_142 : decode cX11_saved 142 = .ok (.getfield 44, 3) := by decide +kernel
theorem dX11_saved_145 : decode cX11_saved 145 = .ok (.getfield 277, 3) := by decide +kernel
theorem dX11_saved_148 : decode cX11_saved 148 = .ok (.ineg, 1) := by decide +kernel
theorem dX11_saved_149 : decode cX11_saved 149 = .ok (.iadd, 1) := by decide +kernel
theorem dX11_saved_150 : decode cX11_saved 150 = .ok (.istore 5, 2) := by decide +kernel
theorem dX11_saved_152 : decode cX11_saved 152 = .ok (.iload 6, 2) := by decide +kernel
theorem dX11_saved_154 : decode cX11_saved 154 = .ok (.ifCond .ne 20, 3) := by decide +kernel
theorem dX11_saved_157 : decode cX11_saved 157 = .ok (.aload_n 0, 1) := by decide +kernel
theorem dX11_saved_158 : decode cX11_saved 158 = .ok (.getfield 37, 3) := by decide +kernel
theorem dX11_saved_161 : decode cX11_saved 161 = .ok (.aload_n 0, 1) := by decide +kernel
theorem dX11_saved_162 : decode cX11_saved 162 = .ok (.getfield 18, 3) := by decide +kernel
theorem dX11_saved_165 : decode cX11_saved 165 = .ok (.aload_n 0, 1) := by decide +kernel
theorem dX11_saved_166 : decode cX11_saved 166 = .ok (.getfield 44, 3) := by decide +kernel
theorem dX11_saved_169 : decode cX11_saved 169 = .ok (.invokevirtual 238, 3) := by decide +kernel
theorem dX11_saved_172 : decode cX11_saved 172 = .ok (.istore 8, 2) := by decide +kernel
theorem dX11_saved_174 : decode cX11_saved 174 = .ok (.iinc 9 1, 3) := by decide +kernel
theorem dX11_saved_177 : decode cX11_saved 177 = .ok (.goto (-96), 3) := by decide +kernel
theorem dX11_saved_180 : decode cX11_saved 180 = .ok (.iinc 7 1, 3) := by decide +kernel
theorem dX11_saved_183 : decode cX11_saved 183 = .ok (.goto (-140), 3) := by decide +kernel
theorem dX11_saved_186 : decode cX11_saved 186 = .ok (.iload 6, 2) := by decide +kernel
theorem dX11_saved_188 : decode cX11_saved 188 = .ok (.ifCond .eq 19, 3) := by decide +kernel
theorem dX11_saved_191 : decode cX11_saved 191 = .ok (.aload_n 0, 1) := by decide +kernel
theorem dX11_saved_192 : decode cX11_saved 192 = .ok (.iload 6, 2) := by decide +kernel
theorem dX11_saved_194 : decode cX11_saved 194 = .ok (.aload_n 0, 1) := by decide +kernel
theorem dX11_saved_195 : decode cX11_saved 195 = .ok (.getfield 44, 3) := by decide +kernel
theorem dX11_saved_198 : decode cX11_saved 198 = .ok (.invokevirtual 263, 3) := by decide +kernel
theorem dX11_saved_201 : decode cX11_saved 201 = .ok (.invokevirtual 266, 3) := by decide +kernel
theorem dX11_saved_204 : decode cX11_saved 204 = .ok (.pop, 1) := by decide +kernel
theorem dX11_saved_205 : decode cX11_saved 205 = .ok (.iconst 0, 1) := by decide +kernel
theorem dX11_saved_206 : decode cX11_saved 206 = .ok (.ireturn, 1) := by decide +kernel
theorem dX11_saved_207 : decode cX11_saved 207 = .ok (.aload_n 0, 1) := by decide +kernel
theorem dX11_saved_208 : decode cX11_saved 208 = .ok (.iload 5, 2) := by decide +kernel
theorem dX11_saved_210 : decode cX11_saved 210 = .ok (.invokevirtual 109, 3) := by decide +kernel
theorem dX11_saved_213 : decode cX11_saved 213 = .ok (.ireturn, 1) := by decide +kernel
theorem dX11_done_0 : decode cX11_done 0 = .ok (.aload_n 0, 1) := by decide +kernel
theorem dX11_done_1 : decode cX11_done 1 = .ok (.iconst 0, 1) := by decide +kernel
theorem dX11_done_2 : decode cX11_done 2 = .ok (.putfield 93, 3) := by decide +kernel
theorem dX11_done_5 : decode cX11_done 5 = .ok (.aload_n 0, 1) := by decide +kernel
theorem dX11_done_6 : decode cX11_done 6 = .ok (.iconst (-1), 1) := by decide +kernel
theorem dX11_done_7 : decode cX11_done 7 = .ok (.putfield 96, 3) := by decide +kernel
theorem dX11_done_10 : decode cX11_done 10 = .ok (.iload_n 1, 1) := by decide +kernel
theorem dX11_done_11 : decode cX11_done 11 = .ok (.ireturn, 1) := by decide +kernel
theorem dX11_refuse_0 : decode cX11_refuse 0 = .ok (.aload_n 0, 1) := by decide +kernel
theorem dX11_refuse_1 : decode cX11_refuse 1 = .ok (.iload_n 1, 1) := by decide +kernel
theorem dX11_refuse_2 : decode cX11_refuse 2 = .ok (.putfield 93, 3) := by decide +kernel
theorem dX11_refuse_5 : decode cX11_refuse 5 = .ok (.aload_n 0, 1) := by decide +kernel
theorem dX11_refuse_6 : decode cX11_refuse 6 = .ok (.iconst (-1), 1) := by decide +kernel
theorem dX11_refuse_7 : decode cX11_refuse 7 = .ok (.putfield 96, 3) := by decide +kernel
theorem dX11_refuse_10 : decode cX11_refuse 10 = .ok (.iconst (-1), 1) := by decide +kernel
theorem dX11_refuse_11 : decode cX11_refuse 11 = .ok (.ireturn, 1) := by decide +kernel
theorem dX11_refuseAt_0 : decode cX11_refuseAt 0 = .ok (.aload_n 0, 1) := by decide +kernel
theorem dX11_refuseAt_1 : decode cX11_refuseAt 1 = .ok (.iload_n 1, 1) := by decide +kernel
theorem dX11_refuseAt_2 : decode cX11_refuseAt 2 = .ok (.putfield 93, 3) := by decide +kernel
theorem dX11_refuseAt_5 : decode cX11_refuseAt 5 = .ok (.aload_n 0, 1) := by decide +kernel
theorem dX11_refuseAt_6 : decode cX11_refuseAt 6 = .ok (.iload_n 1, 1) := by decide +kernel
theorem dX11_refuseAt_7 : decode cX11_refuseAt 7 = .ok (.bipush 7, 2) := by decide +kernel
theorem dX11_refuseAt_9 : decode cX11_refuseAt 9 = .ok (.if_icmp .eq 9, 3) := by decide +kernel
theorem dX11_refuseAt_12 : decode cX11_refuseAt 12 = .ok (.iload_n 1, 1) := by decide +kernel
theorem dX11_refuseAt_13 : decode cX11_refuseAt 13 = .ok (.bipush 9, 2) := by decide +kernel
theorem dX11_refuseAt_15 : decode cX11_refuseAt 15 = .ok (.if_icmp .ne 7, 3) := by decide +kernel
theorem dX11_refuseAt_18 : decode cX11_refuseAt 18 = .ok (.iload_n 2, 1) := by decide +kernel
theorem dX11_refuseAt_19 : decode cX11_refuseAt 19 = .ok (.goto 4, 3) := by decide +kernel
theorem dX11_refuseAt_22 : decode cX11_refuseAt 22 = .ok (.iconst (-1), 1) := by decide +kernel
theorem dX11_refuseAt_23 : decode cX11_refuseAt 23 = .ok (.putfield 96, 3) := by decide +kernel
theorem dX11_refuseAt_26 : decode cX11_refuseAt 26 = .ok (.iconst (-1), 1) := by decide +kernel
theorem dX11_refuseAt_27 : decode cX11_refuseAt 27 = .ok (.ireturn, 1) := by decide +kernel
theorem dX11_isDigit_0 : decode cX11_isDigit 0 = .ok (.iload_n 0, 1) := by decide +kernel
theorem dX11_isDigit_1 : decode cX11_isDigit 1 = .ok (.bipush 48, 2) := by decide +kernel
theorem dX11_isDigit_3 : decode cX11_isDigit 3 = .ok (.if_icmp .lt 13, 3) := by decide +kernel
theorem dX11_isDigit_6 : decode cX11_isDigit 6 = .ok (.iload_n 0, 1) := by decide +kernel
theorem dX11_isDigit_7 : decode cX11_isDigit 7 = .ok (.bipush 57, 2) := by decide +kernel
theorem dX11_isDigit_9 : decode cX11_isDigit 9 = .ok (.if_icmp .gt 7, 3) := by decide +kernel
theorem dX11_isDigit_12 : decode cX11_isDigit 12 = .ok (.iconst 1, 1) := by decide +kernel
theorem dX11_isDigit_13 : decode cX11_isDigit 13 = .ok (.goto 4, 3) := by decide +kernel
theorem dX11_isDigit_16 : decode cX11_isDigit 16 = .ok (.iconst 0, 1) := by decide +kernel
theorem dX11_isDigit_17 : decode cX11_isDigit 17 = .ok (.ireturn, 1) := by decide +kernel
theorem dX11_isGreat_0 : decode cX11_isGreat 0 = .ok (.iload_n 0, 1) := by decide +kernel
theorem dX11_isGreat_1 : decode cX11_isGreat 1 = .ok (.bipush 65, 2) := by decide +kernel
theorem dX11_isGreat_3 : decode cX11_isGreat 3 = .ok (.if_icmp .lt 13, 3) := by decide +kernel
theorem dX11_isGreat_6 : decode cX11_isGreat 6 = .ok (.iload_n 0, 1) := by decide +kernel
theorem dX11_isGreat_7 : decode cX11_isGreat 7 = .ok (.bipush 90, 2) := by decide +kernel
theorem dX11_isGreat_9 : decode cX11_isGreat 9 = .ok (.if_icmp .gt 7, 3) := by decide +kernel
theorem dX11_isGreat_12 : decode cX11_isGreat 12 = .ok (.iconst 1, 1) := by decide +kernel
theorem dX11_isGreat_13 : decode cX11_isGreat 13 = .ok (.goto 4, 3) := by decide +kernel
theorem dX11_isGreat_16 : decode cX11_isGreat 16 = .ok (.iconst 0, 1) := by decide +kernel
theorem dX11_isGreat_17 : decode cX11_isGreat 17 = .ok (.ireturn, 1) := by decide +kernel
