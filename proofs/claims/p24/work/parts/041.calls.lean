section
theorem kI_Jx4a65c_1 : Wi RJx4a65c 1 yJxc12de_init_da8c8 cJxc12de_init_da8c8 1 0 := ⟨⟨w1_69, w1_5, w1_71, (by decide +kernel)⟩, rfl, w1_70⟩
theorem kI_Jxc12de_1 : Wi RJxc12de 1 yJxa1e45_init_da8c8 cJxa1e45_init_da8c8 1 0 := ⟨⟨w1_72, w1_4, w1_74, (by decide +kernel)⟩, rfl, w1_73⟩
theorem kI_L_12 : Wi RL 12 yX12_init cX12_init 1 0 := ⟨⟨w6_51, w1_12, w6_53, (by decide +kernel)⟩, rfl, w6_52⟩
theorem kI_L_9 : Wi RL 9 yX11_init cX11_init 1 0 := ⟨⟨w1_26, w1_1, w1_28, (by decide +kernel)⟩, rfl, w1_27⟩
theorem kI_X10_11 : Wi RX10 11 yJx4a65c_init_da8c8 cJx4a65c_init_da8c8 1 0 := ⟨⟨w1_66, w1_6, w1_68, (by decide +kernel)⟩, rfl, w1_67⟩
theorem kI_X10_49 : Wi RX10 49 yX0_init cX0_init 5 4 := ⟨⟨w3_36, w1_18, w3_38, (by decide +kernel)⟩, rfl, w3_37⟩
theorem kI_X11_11 : Wi RX11 11 yX1_init cX1_init 2 1 := ⟨⟨w1_34, w1_2, w1_36, (by decide +kernel)⟩, rfl, w1_35⟩
theorem kI_X11_124 : Wi RX11 124 yX9_init cX9_init 5 4 := ⟨⟨w2_164, w1_16, w2_166, (by decide +kernel)⟩, rfl, w2_165⟩
theorem kI_X11_149 : Wi RX11 149 yX0_init cX0_init 5 4 := ⟨⟨w3_99, w1_18, w3_38, (by decide +kernel)⟩, rfl, w3_37⟩
theorem kI_X11_194 : Wi RX11 194 yX5_init cX5_init 4 3 := ⟨⟨w3_131, w1_21, w3_133, (by decide +kernel)⟩, rfl, w3_132⟩
theorem kI_X11_57 : Wi RX11 57 yX4_init cX4_init 2 1 := ⟨⟨w1_222, w1_10, w1_224, (by decide +kernel)⟩, rfl, w1_223⟩
theorem kI_X3_11 : Wi RX3 11 yJx4a65c_init_da8c8 cJx4a65c_init_da8c8 1 0 := ⟨⟨w1_186, w1_6, w1_68, (by decide +kernel)⟩, rfl, w1_67⟩
theorem kI_X3_23 : Wi RX3 23 yX1_init cX1_init 2 1 := ⟨⟨w1_188, w1_2, w1_36, (by decide +kernel)⟩, rfl, w1_35⟩
theorem kI_X4_28 : Wi RX4 28 yX1_init cX1_init 2 1 := ⟨⟨w1_228, w1_2, w1_36, (by decide +kernel)⟩, rfl, w1_35⟩
theorem kI_X9_11 : Wi RX9 11 yJx4a65c_init_da8c8 cJx4a65c_init_da8c8 1 0 := ⟨⟨w2_169, w1_6, w1_68, (by decide +kernel)⟩, rfl, w1_67⟩
theorem kI_X9_20 : Wi RX9 20 yX1_init cX1_init 2 1 := ⟨⟨w2_171, w1_2, w1_36, (by decide +kernel)⟩, rfl, w1_35⟩
theorem kN_X11_29 : Wn RX11 29 yX10_init "DotPress" cX10_init 1 0 := ⟨⟨w1_60t, w1_3, w1_62, (by decide +kernel)⟩, rfl, w1_61⟩
theorem kN_X11_36 : Wn RX11 36 yX8_init "DotPress" cX8_init 1 0 := ⟨⟨w1_99t, w1_7, w1_101, (by decide +kernel)⟩, rfl, w1_100⟩
theorem kN_X11_43 : Wn RX11 43 yX6_init "DotPress" cX6_init 1 0 := ⟨⟨w1_132t, w1_8, w1_134, (by decide +kernel)⟩, rfl, w1_133⟩
theorem kN_X11_50 : Wn RX11 50 yX3_init "DotPress" cX3_init 1 0 := ⟨⟨w1_181t, w1_9, w1_183, (by decide +kernel)⟩, rfl, w1_182⟩
theorem kN_X11_66 : Wn RX11 66 yX7_init "DotPress" cX7_init 1 0 := ⟨⟨w2_27t, w1_11, w2_29, (by decide +kernel)⟩, rfl, w2_28⟩
theorem kN_X7_32 : Wn RX7 32 yX2_init "DotPress" cX2_init 1 0 := ⟨⟨w4_40t, w1_22, w4_42, (by decide +kernel)⟩, rfl, w4_41⟩
theorem kSN_X5_25 : Wns RX5 25 yX11_isSmall "DotPress" cX11_isSmall 1 (some .boolean) 1 := ⟨⟨w5_97t, w1_1, w5_99, (by decide +kernel)⟩, w5_98⟩
theorem kSN_X6_115 : Wns RX6 115 yX11_isDigit "DotPress" cX11_isDigit 1 (some .boolean) 1 := ⟨⟨w4_93t, w1_1, w4_95, (by decide +kernel)⟩, w4_94⟩
theorem kSN_X6_98 : Wns RX6 98 yX11_isGreat "DotPress" cX11_isGreat 1 (some .boolean) 1 := ⟨⟨w4_119t, w1_1, w4_121, (by decide +kernel)⟩, w4_120⟩
theorem kS_J15_105 : Ws RJ15 105 yJ3_checkIndex_8e157 cJ3_checkIndex_8e157 3 (some .int) 3 := ⟨⟨w3_68, w1_20, w3_70, (by decide +kernel)⟩, w3_69⟩
theorem kS_J7_300 : Ws RJ7 300 yJ7_copyOf_6403c cJ7_copyOf_6403c 4 (some (.array (.object "java/lang/Object"))) 3 := ⟨⟨w3_26, w1_13, w3_28, (by decide +kernel)⟩, w3_27⟩
theorem kS_Jx4a65c_118 : Ws RJx4a65c 118 yJ15_checkIndex_7cf53 cJ15_checkIndex_7cf53 2 (some .int) 2 := ⟨⟨w3_65, w1_19, w3_67, (by decide +kernel)⟩, w3_66⟩
theorem kS_Jx4a65c_66 : Ws RJx4a65c 66 yJ7_copyOf_1904c cJ7_copyOf_1904c 2 (some (.array (.object "java/lang/Object"))) 2 := ⟨⟨w3_5, w1_13, w3_7, (by decide +kernel)⟩, w3_6⟩
theorem kS_Jx4a65c_73 : Ws RJx4a65c 73 yJ8_newLength_cabcc cJ8_newLength_cabcc 4 (some .int) 3 := ⟨⟨w2_237, w1_17, w2_239, (by decide +kernel)⟩, w2_238⟩
theorem kS_X11_167 : Ws RX11 167 yX11_isCondition cX11_isCondition 1 (some .boolean) 1 := ⟨⟨w3_109, w1_1, w3_111, (by decide +kernel)⟩, w3_110⟩
theorem kS_X11_351 : Ws RX11 351 yJ6_bitCount_0f7a4 cJ6_bitCount_0f7a4 1 (some .int) 1 := ⟨⟨w5_118, w1_23, w5_16, (by decide +kernel)⟩, w5_15⟩
theorem kS_X11_373 : Ws RX11 373 yX3_isReadable cX3_isReadable 6 (some .boolean) 2 := ⟨⟨w5_190, w1_9, w5_192, (by decide +kernel)⟩, w5_191⟩
theorem kS_X12_174 : Ws RX12 174 yX12_isIn cX12_isIn 3 (some .boolean) 3 := ⟨⟨w7_41, w1_12, w7_43, (by decide +kernel)⟩, w7_42⟩
theorem kS_X12_199 : Ws RX12 199 yX12_isLetter cX12_isLetter 1 (some .boolean) 1 := ⟨⟨w7_77, w1_12, w7_79, (by decide +kernel)⟩, w7_78⟩
theorem kS_X12_202 : Ws RX12 202 yX12_isDigit cX12_isDigit 1 (some .boolean) 1 := ⟨⟨w7_132, w1_12, w7_134, (by decide +kernel)⟩, w7_133⟩
theorem kS_X12_205 : Ws RX12 205 yX12_isGreat cX12_isGreat 1 (some .boolean) 1 := ⟨⟨w7_155, w1_12, w7_157, (by decide +kernel)⟩, w7_156⟩
theorem kS_X12_208 : Ws RX12 208 yX12_isSmall cX12_isSmall 1 (some .boolean) 1 := ⟨⟨w7_158, w1_12, w7_160, (by decide +kernel)⟩, w7_159⟩
theorem kS_X12_309 : Ws RX12 309 yJ6_bitCount_0f7a4 cJ6_bitCount_0f7a4 1 (some .int) 1 := ⟨⟨w8_8, w1_23, w5_16, (by decide +kernel)⟩, w5_15⟩
theorem kS_X12_370 : Ws RX12 370 yX12_state cX12_state 3 (some .int) 3 := ⟨⟨w8_93, w1_12, w8_95, (by decide +kernel)⟩, w8_94⟩
theorem kS_X1_20 : Ws RX1 20 yJ7_copyOf_59c91 cJ7_copyOf_59c91 3 (some (.array .int)) 2 := ⟨⟨w2_118, w1_13, w2_120, (by decide +kernel)⟩, w2_119⟩
theorem kS_X2_42 : Ws RX2 42 yJ6_bitCount_0f7a4 cJ6_bitCount_0f7a4 1 (some .int) 1 := ⟨⟨w5_14, w1_23, w5_16, (by decide +kernel)⟩, w5_15⟩
theorem kS_X3_59 : Ws RX3 59 yX3_gatherPart cX3_gatherPart 4 none 2 := ⟨⟨w5_58, w1_9, w5_60, (by decide +kernel)⟩, w5_59⟩
theorem kS_X3_67 : Ws RX3 67 yX3_addIndicator cX3_addIndicator 2 none 2 := ⟨⟨w5_65, w1_9, w5_67, (by decide +kernel)⟩, w5_66⟩
theorem kS_X3_73 : Ws RX3 73 yX3_markBegins cX3_markBegins 5 none 2 := ⟨⟨w5_68, w1_9, w5_70, (by decide +kernel)⟩, w5_69⟩
theorem kS_X6_156 : Ws RX6 156 yX6_isSign cX6_isSign 1 (some .boolean) 1 := ⟨⟨w4_116, w1_8, w4_118, (by decide +kernel)⟩, w4_117⟩
theorem kS_X8_95 : Ws RX8 95 yJ7_fill_53178 cJ7_fill_53178 4 none 2 := ⟨⟨w5_234, w1_13, w5_236, (by decide +kernel)⟩, w5_235⟩
theorem kS_X9_76 : Ws RX9 76 yX9_isUpright cX9_isUpright 2 (some .boolean) 1 := ⟨⟨w3_238, w1_16, w4_0, (by decide +kernel)⟩, w3_239⟩
theorem kS_X9_80 : Ws RX9 80 yX9_isOverShort cX9_isOverShort 2 (some .boolean) 1 := ⟨⟨w5_187, w1_16, w5_189, (by decide +kernel)⟩, w5_188⟩
theorem kV_Jx4a65c_123 : Wv RJx4a65c 123 yJx4a65c_elementData_915e3 cJx4a65c_elementData_915e3 2 (some (.object "java/lang/Object")) 1 := ⟨⟨w3_84, w1_6, w3_87, (by decide +kernel)⟩, w3_85, w3_86⟩
theorem kV_Jx4a65c_129 : Wv RJx4a65c 129 yJx4a65c_grow_d5877 cJx4a65c_grow_d5877 1 (some (.array (.object "java/lang/Object"))) 0 := ⟨⟨w2_229, w1_6, w2_232, (by decide +kernel)⟩, w2_231, wp_4⟩
theorem kV_Jx4a65c_131 : Wv RJx4a65c 131 yJx4a65c_add_72be8 cJx4a65c_add_72be8 4 none 3 := ⟨⟨w2_225, w1_6, w2_228, (by decide +kernel)⟩, w2_227, wp_3⟩
theorem kV_Jx4a65c_144 : Wv RJx4a65c 144 yJx4a65c_fastRemove_b59b0 cJx4a65c_fastRemove_b59b0 4 none 2 := ⟨⟨w3_71, w1_6, w3_74, (by decide +kernel)⟩, w3_73, wp_6⟩
theorem kV_Jx4a65c_69 : Wv RJx4a65c 69 yJx4a65c_grow_92f84 cJx4a65c_grow_92f84 4 (some (.array (.object "java/lang/Object"))) 1 := ⟨⟨w2_233, w1_6, w2_236, (by decide +kernel)⟩, w2_235, wp_5⟩
theorem kV_L_101 : Wv RL 101 yX12_copyRow cX12_copyRow 11 (some .int) 5 := ⟨⟨w7_232, w1_12, w7_235, (by decide +kernel)⟩, w7_233, w7_234⟩
theorem kV_L_102 : Wv RL 102 yX11_copyLines cX11_copyLines 7 (some .int) 3 := ⟨⟨w4_234, w1_1, w4_237, (by decide +kernel)⟩, w4_235, w4_236⟩
theorem kV_L_105 : Wv RL 105 yX12_copyLines cX12_copyLines 10 (some .int) 3 := ⟨⟨w7_236, w1_12, w7_239, (by decide +kernel)⟩, w7_237, w7_238⟩
theorem kV_L_106 : Wv RL 106 yX11_copied cX11_copied 1 (some .int) 0 := ⟨⟨w5_2, w1_1, w5_5, (by decide +kernel)⟩, w5_3, w5_4⟩
theorem kV_L_109 : Wv RL 109 yX12_copied cX12_copied 1 (some .int) 0 := ⟨⟨w8_0, w1_12, w8_3, (by decide +kernel)⟩, w8_1, w8_2⟩
theorem kV_L_110 : Wv RL 110 yX11_emboss cX11_emboss 6 (some .int) 2 := ⟨⟨w5_6, w1_1, w5_9, (by decide +kernel)⟩, w5_7, w5_8⟩
theorem kV_L_113 : Wv RL 113 yX12_emboss cX12_emboss 9 (some .int) 2 := ⟨⟨w8_4, w1_12, w8_7, (by decide +kernel)⟩, w8_5, w8_6⟩
theorem kV_L_114 : Wv RL 114 yX11_closed cX11_closed 1 (some .int) 0 := ⟨⟨w5_20, w1_1, w5_23, (by decide +kernel)⟩, w5_21, w5_22⟩
theorem kV_L_117 : Wv RL 117 yX12_closed cX12_closed 1 (some .int) 0 := ⟨⟨w8_9, w1_12, w8_12, (by decide +kernel)⟩, w8_10, w8_11⟩
theorem kV_L_118 : Wv RL 118 yX11_read cX11_read 6 (some .int) 3 := ⟨⟨w5_24, w1_1, w5_27, (by decide +kernel)⟩, w5_25, w5_26⟩
theorem kV_L_121 : Wv RL 121 yX12_read cX12_read 11 (some .int) 3 := ⟨⟨w8_17, w1_12, w8_20, (by decide +kernel)⟩, w8_18, w8_19⟩
theorem kV_L_122 : Wv RL 122 yX11_letter cX11_letter 2 (some .int) 1 := ⟨⟨w5_110, w1_1, w5_113, (by decide +kernel)⟩, w5_111, w5_112⟩
theorem kV_L_125 : Wv RL 125 yX12_letter cX12_letter 2 (some .int) 1 := ⟨⟨w8_69, w1_12, w8_72, (by decide +kernel)⟩, w8_70, w8_71⟩
theorem kV_L_126 : Wv RL 126 yX11_failed cX11_failed 4 (some .int) 2 := ⟨⟨w5_114, w1_1, w5_117, (by decide +kernel)⟩, w5_115, w5_116⟩
theorem kV_L_13 : Wv RL 13 yX11_feed cX11_feed 6 (some .int) 5 := ⟨⟨w2_102, w1_1, w2_105, (by decide +kernel)⟩, w2_103, w2_104⟩
theorem kV_L_130 : Wv RL 130 yX12_failed cX12_failed 3 (some .int) 2 := ⟨⟨w8_73, w1_12, w8_76, (by decide +kernel)⟩, w8_74, w8_75⟩
theorem kV_L_131 : Wv RL 131 yX11_readings cX11_readings 6 (some .int) 3 := ⟨⟨w5_119, w1_1, w5_122, (by decide +kernel)⟩, w5_120, w5_121⟩
theorem kV_L_134 : Wv RL 134 yX12_readings cX12_readings 5 (some .int) 3 := ⟨⟨w8_77, w1_12, w8_80, (by decide +kernel)⟩, w8_78, w8_79⟩
theorem kV_L_135 : Wv RL 135 yX11_more cX11_more 1 (some .int) 0 := ⟨⟨w5_166, w1_1, w5_169, (by decide +kernel)⟩, w5_167, w5_168⟩
theorem kV_L_138 : Wv RL 138 yX12_more cX12_more 1 (some .int) 0 := ⟨⟨w8_112, w1_12, w8_115, (by decide +kernel)⟩, w8_113, w8_114⟩
theorem kV_L_139 : Wv RL 139 yX11_reading cX11_reading 4 (some .int) 2 := ⟨⟨w5_170, w1_1, w5_173, (by decide +kernel)⟩, w5_171, w5_172⟩
theorem kV_L_142 : Wv RL 142 yX12_reading cX12_reading 3 (some .int) 2 := ⟨⟨w8_116, w1_12, w8_119, (by decide +kernel)⟩, w8_117, w8_118⟩
theorem kV_L_143 : Wv RL 143 yX11_judge cX11_judge 4 (some .int) 1 := ⟨⟨w5_179, w1_1, w5_182, (by decide +kernel)⟩, w5_180, w5_181⟩
theorem kV_L_146 : Wv RL 146 yX12_judge cX12_judge 3 (some .int) 1 := ⟨⟨w8_120, w1_12, w8_123, (by decide +kernel)⟩, w8_121, w8_122⟩
theorem kV_L_147 : Wv RL 147 yX11_parts cX11_parts 10 (some .int) 3 := ⟨⟨w5_206, w1_1, w5_209, (by decide +kernel)⟩, w5_207, w5_208⟩
theorem kV_L_150 : Wv RL 150 yX12_parts cX12_parts 5 (some .int) 3 := ⟨⟨w8_136, w1_12, w8_139, (by decide +kernel)⟩, w8_137, w8_138⟩
theorem kV_L_151 : Wv RL 151 yX11_unreadable cX11_unreadable 7 (some .int) 3 := ⟨⟨w5_211, w1_1, w5_214, (by decide +kernel)⟩, w5_212, w5_213⟩
theorem kV_L_154 : Wv RL 154 yX12_unreadable cX12_unreadable 9 (some .int) 3 := ⟨⟨w8_140, w1_12, w8_143, (by decide +kernel)⟩, w8_141, w8_142⟩
theorem kV_L_155 : Wv RL 155 yX11_saved cX11_saved 10 (some .int) 2 := ⟨⟨w6_20, w1_1, w6_23, (by decide +kernel)⟩, w6_21, w6_22⟩
theorem kV_L_158 : Wv RL 158 yX12_saved cX12_saved 8 (some .int) 2 := ⟨⟨w8_13, w1_12, w8_16, (by decide +kernel)⟩, w8_14, w8_15⟩
theorem kV_L_159 : Wv RL 159 yX11_place cX11_place 1 (some .int) 0 := ⟨⟨w6_24, w1_1, w6_27, (by decide +kernel)⟩, w6_25, w6_26⟩
theorem kV_L_162 : Wv RL 162 yX12_place cX12_place 1 (some .int) 0 := ⟨⟨w8_156, w1_12, w8_159, (by decide +kernel)⟩, w8_157, w8_158⟩
theorem kV_L_163 : Wv RL 163 yX11_finds cX11_finds 2 (some .int) 1 := ⟨⟨w6_28, w1_1, w6_31, (by decide +kernel)⟩, w6_29, w6_30⟩
theorem kV_L_166 : Wv RL 166 yX12_finds cX12_finds 2 (some .int) 1 := ⟨⟨w7_92, w1_12, w7_95, (by decide +kernel)⟩, w7_93, w7_94⟩
theorem kV_L_167 : Wv RL 167 yX11_status cX11_status 1 (some .int) 0 := ⟨⟨w6_36, w1_1, w6_39, (by decide +kernel)⟩, w6_37, w6_38⟩
theorem kV_L_17 : Wv RL 17 yX12_feed cX12_feed 8 (some .int) 5 := ⟨⟨w7_21, w1_12, w7_24, (by decide +kernel)⟩, w7_22, w7_23⟩
theorem kV_L_170 : Wv RL 170 yX12_status cX12_status 1 (some .int) 0 := ⟨⟨w8_160, w1_12, w8_163, (by decide +kernel)⟩, w8_161, w8_162⟩
theorem kV_L_171 : Wv RL 171 yX11_digest cX11_digest 3 (some .int) 0 := ⟨⟨w6_40, w1_1, w6_43, (by decide +kernel)⟩, w6_41, w6_42⟩
theorem kV_L_174 : Wv RL 174 yX12_digest cX12_digest 4 (some .int) 0 := ⟨⟨w8_164, w1_12, w8_167, (by decide +kernel)⟩, w8_165, w8_166⟩
theorem kV_L_18 : Wv RL 18 yX11_end cX11_end 2 (some .int) 1 := ⟨⟨w2_138, w1_1, w2_141, (by decide +kernel)⟩, w2_139, w2_140⟩
theorem kV_L_22 : Wv RL 22 yX12_end cX12_end 2 (some .int) 1 := ⟨⟨w7_33, w1_12, w7_36, (by decide +kernel)⟩, w7_34, w7_35⟩
theorem kV_L_23 : Wv RL 23 yX11_table cX11_table 5 (some .int) 3 := ⟨⟨w2_150, w1_1, w2_153, (by decide +kernel)⟩, w2_151, w2_152⟩
theorem kV_L_27 : Wv RL 27 yX12_table cX12_table 5 (some .int) 3 := ⟨⟨w7_37, w1_12, w7_40, (by decide +kernel)⟩, w7_38, w7_39⟩
theorem kV_L_28 : Wv RL 28 yX11_join cX11_join 5 (some .int) 2 := ⟨⟨w3_89, w1_1, w3_92, (by decide +kernel)⟩, w3_90, w3_91⟩
theorem kV_L_32 : Wv RL 32 yX12_join cX12_join 3 (some .int) 2 := ⟨⟨w7_56, w1_12, w7_59, (by decide +kernel)⟩, w7_57, w7_58⟩
theorem kV_L_33 : Wv RL 33 yX11_drop cX11_drop 3 (some .int) 1 := ⟨⟨w3_94, w1_1, w3_97, (by decide +kernel)⟩, w3_95, w3_96⟩
theorem kV_L_36 : Wv RL 36 yX12_drop cX12_drop 2 (some .int) 1 := ⟨⟨w7_61, w1_12, w7_64, (by decide +kernel)⟩, w7_62, w7_63⟩
theorem kV_L_37 : Wv RL 37 yX11_rule cX11_rule 5 (some .int) 3 := ⟨⟨w3_101, w1_1, w3_104, (by decide +kernel)⟩, w3_102, w3_103⟩
theorem kV_L_40 : Wv RL 40 yX12_rule cX12_rule 8 (some .int) 3 := ⟨⟨w7_65, w1_12, w7_68, (by decide +kernel)⟩, w7_66, w7_67⟩
theorem kV_L_41 : Wv RL 41 yX11_condition cX11_condition 7 (some .int) 3 := ⟨⟨w3_170, w1_1, w3_173, (by decide +kernel)⟩, w3_171, w3_172⟩
theorem kV_L_44 : Wv RL 44 yX12_condition cX12_condition 5 (some .int) 3 := ⟨⟨w7_80, w1_12, w7_83, (by decide +kernel)⟩, w7_81, w7_82⟩
theorem kV_L_45 : Wv RL 45 yX11_indicator cX11_indicator 4 (some .int) 2 := ⟨⟨w3_175, w1_1, w3_178, (by decide +kernel)⟩, w3_176, w3_177⟩
theorem kV_L_48 : Wv RL 48 yX12_indicator cX12_indicator 8 (some .int) 2 := ⟨⟨w7_84, w1_12, w7_87, (by decide +kernel)⟩, w7_85, w7_86⟩
theorem kV_L_49 : Wv RL 49 yX11_undo cX11_undo 1 (some .int) 0 := ⟨⟨w3_187, w1_1, w3_190, (by decide +kernel)⟩, w3_188, w3_189⟩
theorem kV_L_53 : Wv RL 53 yX12_undo cX12_undo 5 (some .int) 0 := ⟨⟨w7_88, w1_12, w7_91, (by decide +kernel)⟩, w7_89, w7_90⟩
theorem kV_L_54 : Wv RL 54 yX11_text cX11_text 2 (some .int) 0 := ⟨⟨w3_207, w1_1, w3_210, (by decide +kernel)⟩, w3_208, w3_209⟩
theorem kV_L_57 : Wv RL 57 yX12_text cX12_text 4 (some .int) 0 := ⟨⟨w7_96, w1_12, w7_99, (by decide +kernel)⟩, w7_97, w7_98⟩
theorem kV_L_58 : Wv RL 58 yX11_measure cX11_measure 4 (some .int) 3 := ⟨⟨w3_221, w1_1, w3_224, (by decide +kernel)⟩, w3_222, w3_223⟩
theorem kV_L_61 : Wv RL 61 yX12_measure cX12_measure 4 (some .int) 3 := ⟨⟨w7_100, w1_12, w7_103, (by decide +kernel)⟩, w7_101, w7_102⟩
theorem kV_L_62 : Wv RL 62 yX11_set cX11_set 7 (some .int) 1 := ⟨⟨w3_225, w1_1, w3_228, (by decide +kernel)⟩, w3_226, w3_227⟩
theorem kV_L_65 : Wv RL 65 yX12_set cX12_set 7 (some .int) 1 := ⟨⟨w7_104, w1_12, w7_107, (by decide +kernel)⟩, w7_105, w7_106⟩
theorem kV_L_66 : Wv RL 66 yX11_head cX11_head 6 (some .int) 1 := ⟨⟨w4_164, w1_1, w4_167, (by decide +kernel)⟩, w4_165, w4_166⟩
theorem kV_L_69 : Wv RL 69 yX12_head cX12_head 5 (some .int) 1 := ⟨⟨w7_185, w1_12, w7_188, (by decide +kernel)⟩, w7_186, w7_187⟩
theorem kV_L_70 : Wv RL 70 yX11_lines cX11_lines 1 (some .int) 0 := ⟨⟨w4_170, w1_1, w4_173, (by decide +kernel)⟩, w4_171, w4_172⟩
theorem kV_L_73 : Wv RL 73 yX12_lines cX12_lines 1 (some .int) 0 := ⟨⟨w7_190, w1_12, w7_193, (by decide +kernel)⟩, w7_191, w7_192⟩
theorem kV_L_74 : Wv RL 74 yX11_pages cX11_pages 2 (some .int) 0 := ⟨⟨w4_174, w1_1, w4_177, (by decide +kernel)⟩, w4_175, w4_176⟩
theorem kV_L_77 : Wv RL 77 yX12_pages cX12_pages 1 (some .int) 0 := ⟨⟨w7_194, w1_12, w7_197, (by decide +kernel)⟩, w7_195, w7_196⟩
theorem kV_L_78 : Wv RL 78 yX11_length cX11_length 3 (some .int) 1 := ⟨⟨w4_186, w1_1, w4_189, (by decide +kernel)⟩, w4_187, w4_188⟩
theorem kV_L_81 : Wv RL 81 yX12_length cX12_length 2 (some .int) 1 := ⟨⟨w7_206, w1_12, w7_209, (by decide +kernel)⟩, w7_207, w7_208⟩
theorem kV_L_82 : Wv RL 82 yX11_cell cX11_cell 3 (some .int) 2 := ⟨⟨w4_198, w1_1, w4_201, (by decide +kernel)⟩, w4_199, w4_200⟩
theorem kV_L_85 : Wv RL 85 yX12_cell cX12_cell 3 (some .int) 2 := ⟨⟨w7_214, w1_12, w7_217, (by decide +kernel)⟩, w7_215, w7_216⟩
theorem kV_L_86 : Wv RL 86 yX11_page cX11_page 5 (some .int) 3 := ⟨⟨w4_206, w1_1, w4_209, (by decide +kernel)⟩, w4_207, w4_208⟩
theorem kV_L_89 : Wv RL 89 yX12_page cX12_page 5 (some .int) 3 := ⟨⟨w7_218, w1_12, w7_221, (by decide +kernel)⟩, w7_219, w7_220⟩
theorem kV_L_90 : Wv RL 90 yX11_cut cX11_cut 4 (some .int) 2 := ⟨⟨w4_211, w1_1, w4_214, (by decide +kernel)⟩, w4_212, w4_213⟩
theorem kV_L_93 : Wv RL 93 yX12_cut cX12_cut 4 (some .int) 2 := ⟨⟨w7_224, w1_12, w7_227, (by decide +kernel)⟩, w7_225, w7_226⟩
theorem kV_L_94 : Wv RL 94 yX11_lose cX11_lose 3 (some .int) 1 := ⟨⟨w4_220, w1_1, w4_223, (by decide +kernel)⟩, w4_221, w4_222⟩
theorem kV_L_97 : Wv RL 97 yX12_lose cX12_lose 2 (some .int) 1 := ⟨⟨w7_228, w1_12, w7_231, (by decide +kernel)⟩, w7_229, w7_230⟩
theorem kV_L_98 : Wv RL 98 yX11_copyRow cX11_copyRow 8 (some .int) 5 := ⟨⟨w4_225, w1_1, w4_228, (by decide +kernel)⟩, w4_226, w4_227⟩
theorem kV_X10_21 : Wv RX10 21 yJx4a65c_size_8abf5 cJx4a65c_size_8abf5 1 (some .int) 0 := ⟨⟨w2_158, w1_6, w2_161, (by decide +kernel)⟩, w2_159, w2_160⟩
theorem kV_X10_25 : Wv RX10 25 yJx4a65c_get_915e3 cJx4a65c_get_915e3 2 (some (.object "java/lang/Object")) 1 := ⟨⟨w3_80, w1_6, w3_83, (by decide +kernel)⟩, w3_81, w3_82⟩
theorem kV_X10_35 : Wv RX10 35 yX10_alive cX10_alive 3 (some (.object "DotPress$Table")) 1 := ⟨⟨w3_233, w1_3, w3_79, (by decide +kernel)⟩, w3_77, w3_78⟩
theorem kV_X10_39 : Wv RX10 39 yX9_isWhole cX9_isWhole 1 (some .boolean) 0 := ⟨⟨w3_234, w1_16, w3_237, (by decide +kernel)⟩, w3_235, w3_236⟩
theorem kV_X10_43 : Wv RX10 43 yJx4a65c_add_9ea2d cJx4a65c_add_9ea2d 2 (some .boolean) 1 := ⟨⟨w2_221, w1_6, w2_224, (by decide +kernel)⟩, w2_222, w2_223⟩
theorem kV_X10_52 : Wv RX10 52 yX10_remember cX10_remember 2 none 1 := ⟨⟨w3_57, w1_3, w3_60, (by decide +kernel)⟩, w3_58, w3_59⟩
theorem kV_X10_56 : Wv RX10 56 yJx4a65c_remove_915e3 cJx4a65c_remove_915e3 4 (some (.object "java/lang/Object")) 1 := ⟨⟨w3_61, w1_6, w3_64, (by decide +kernel)⟩, w3_62, w3_63⟩
theorem kV_X10_59 : Wv RX10 59 yJx4a65c_isEmpty_aae02 cJx4a65c_isEmpty_aae02 1 (some .boolean) 0 := ⟨⟨w3_195, w1_6, w3_198, (by decide +kernel)⟩, w3_196, w3_197⟩
theorem kV_X10_70 : Wv RX10 70 yX9_removeLast cX9_removeLast 1 none 0 := ⟨⟨w3_199, w1_16, w3_202, (by decide +kernel)⟩, w3_200, w3_201⟩
theorem kV_X11_102 : Wv RX11 102 yX11_refuse cX11_refuse 2 (some .int) 1 := ⟨⟨w2_106, w1_1, w2_109, (by decide +kernel)⟩, w2_108, wp_0⟩
theorem kV_X11_106 : Wv RX11 106 yX11_feedFour cX11_feedFour 3 none 1 := ⟨⟨w2_110, w1_1, w2_113, (by decide +kernel)⟩, w2_112, wp_1⟩
theorem kV_X11_109 : Wv RX11 109 yX11_done cX11_done 2 (some .int) 1 := ⟨⟨w2_134, w1_1, w2_137, (by decide +kernel)⟩, w2_136, wp_2⟩
theorem kV_X11_112 : Wv RX11 112 yX1_add cX1_add 2 none 1 := ⟨⟨w2_114, w1_2, w2_117, (by decide +kernel)⟩, w2_115, w2_116⟩
theorem kV_X11_115 : Wv RX11 115 yX1_keep cX1_keep 2 none 1 := ⟨⟨w2_142, w1_2, w2_145, (by decide +kernel)⟩, w2_143, w2_144⟩
theorem kV_X11_118 : Wv RX11 118 yX10_isFull cX10_isFull 1 (some .boolean) 0 := ⟨⟨w2_154, w1_3, w2_157, (by decide +kernel)⟩, w2_155, w2_156⟩
theorem kV_X11_127 : Wv RX11 127 yX10_make cX10_make 2 (some .int) 1 := ⟨⟨w2_217, w1_3, w2_220, (by decide +kernel)⟩, w2_218, w2_219⟩
theorem kV_X11_131 : Wv RX11 131 yX10_alive cX10_alive 3 (some (.object "DotPress$Table")) 1 := ⟨⟨w3_76, w1_3, w3_79, (by decide +kernel)⟩, w3_77, w3_78⟩
theorem kV_X11_152 : Wv RX11 152 yX10_remember cX10_remember 2 none 1 := ⟨⟨w3_100, w1_3, w3_60, (by decide +kernel)⟩, w3_58, w3_59⟩
theorem kV_X11_160 : Wv RX11 160 yX11_addRule cX11_addRule 6 (some .int) 3 := ⟨⟨w3_105, w1_1, w3_108, (by decide +kernel)⟩, w3_107, wp_7⟩
theorem kV_X11_164 : Wv RX11 164 yX1_clear cX1_clear 1 none 0 := ⟨⟨w3_166, w1_2, w3_169, (by decide +kernel)⟩, w3_167, w3_168⟩
theorem kV_X11_171 : Wv RX11 171 yX1_isWithin cX1_isWithin 6 (some .boolean) 4 := ⟨⟨w3_112, w1_2, w3_115, (by decide +kernel)⟩, w3_113, w3_114⟩
theorem kV_X11_175 : Wv RX11 175 yX11_isRowOfCells cX11_isRowOfCells 3 (some .boolean) 2 := ⟨⟨w3_120, w1_1, w3_123, (by decide +kernel)⟩, w3_122, wp_8⟩
theorem kV_X11_183 : Wv RX11 183 yJx4a65c_size_8abf5 cJx4a65c_size_8abf5 1 (some .int) 0 := ⟨⟨w3_124, w1_6, w2_161, (by decide +kernel)⟩, w2_159, w2_160⟩
theorem kV_X11_190 : Wv RX11 190 yX1_slice cX1_slice 5 (some (.array .int)) 2 := ⟨⟨w3_127, w1_2, w3_130, (by decide +kernel)⟩, w3_128, w3_129⟩
theorem kV_X11_200 : Wv RX11 200 yX9_append cX9_append 2 none 1 := ⟨⟨w3_160, w1_16, w3_163, (by decide +kernel)⟩, w3_161, w3_162⟩
theorem kV_X11_204 : Wv RX11 204 yJx4a65c_get_915e3 cJx4a65c_get_915e3 2 (some (.object "java/lang/Object")) 1 := ⟨⟨w3_174, w1_6, w3_83, (by decide +kernel)⟩, w3_81, w3_82⟩
theorem kV_X11_208 : Wv RX11 208 yX11_changeIndicator cX11_changeIndicator 4 (some .int) 2 := ⟨⟨w3_179, w1_1, w3_182, (by decide +kernel)⟩, w3_181, wp_9⟩
theorem kV_X11_211 : Wv RX11 211 yX9_mayHave cX9_mayHave 2 (some .boolean) 1 := ⟨⟨w3_183, w1_16, w3_186, (by decide +kernel)⟩, w3_184, w3_185⟩
theorem kV_X11_218 : Wv RX11 218 yX10_takeBack cX10_takeBack 2 (some .boolean) 0 := ⟨⟨w3_191, w1_3, w3_194, (by decide +kernel)⟩, w3_192, w3_193⟩
theorem kV_X11_221 : Wv RX11 221 yX11_addText cX11_addText 3 (some .int) 0 := ⟨⟨w3_211, w1_1, w3_214, (by decide +kernel)⟩, w3_213, wp_10⟩
theorem kV_X11_224 : Wv RX11 224 yX1_at cX1_at 2 (some .int) 1 := ⟨⟨w3_215, w1_2, w3_119, (by decide +kernel)⟩, w3_117, w3_118⟩
theorem kV_X11_227 : Wv RX11 227 yX1_addAll cX1_addAll 3 none 1 := ⟨⟨w3_216, w1_2, w3_219, (by decide +kernel)⟩, w3_217, w3_218⟩
theorem kV_X11_231 : Wv RX11 231 yX10_whole cX10_whole 3 (some (.object "DotPress$Table")) 1 := ⟨⟨w3_229, w1_3, w3_232, (by decide +kernel)⟩, w3_230, w3_231⟩
theorem kV_X11_234 : Wv RX11 234 yX7_clear cX7_clear 1 none 0 := ⟨⟨w4_1, w1_11, w4_4, (by decide +kernel)⟩, w4_2, w4_3⟩
theorem kV_X11_235 : Wv RX11 235 yX8_restart cX8_restart 1 none 0 := ⟨⟨w4_5, w1_7, w4_8, (by decide +kernel)⟩, w4_6, w4_7⟩
theorem kV_X11_238 : Wv RX11 238 yX8_step cX8_step 4 (some .int) 2 := ⟨⟨w4_9, w1_7, w4_12, (by decide +kernel)⟩, w4_10, w4_11⟩
theorem kV_X11_243 : Wv RX11 243 yX7_beginText cX7_beginText 1 (some .boolean) 0 := ⟨⟨w4_31, w1_11, w4_34, (by decide +kernel)⟩, w4_32, w4_33⟩
theorem kV_X11_249 : Wv RX11 249 yX7_endText cX7_endText 5 none 2 := ⟨⟨w4_68, w1_11, w4_71, (by decide +kernel)⟩, w4_69, w4_70⟩
theorem kV_X11_253 : Wv RX11 253 yX6_setBy cX6_setBy 9 (some .int) 1 := ⟨⟨w4_81, w1_8, w4_84, (by decide +kernel)⟩, w4_82, w4_83⟩
theorem kV_X11_256 : Wv RX11 256 yX7_take cX7_take 10 (some .boolean) 4 := ⟨⟨w4_135, w1_11, w4_138, (by decide +kernel)⟩, w4_136, w4_137⟩
theorem kV_X11_260 : Wv RX11 260 yX11_publish cX11_publish 2 (some .int) 0 := ⟨⟨w4_152, w1_1, w4_155, (by decide +kernel)⟩, w4_154, wp_21⟩
theorem kV_X11_263 : Wv RX11 263 yX6_placeOfUnknown cX6_placeOfUnknown 1 (some .int) 0 := ⟨⟨w4_156, w1_8, w4_159, (by decide +kernel)⟩, w4_157, w4_158⟩
theorem kV_X11_266 : Wv RX11 266 yX11_refuseAt cX11_refuseAt 3 (some .int) 2 := ⟨⟨w4_160, w1_1, w4_163, (by decide +kernel)⟩, w4_162, wp_22⟩
theorem kV_X11_272 : Wv RX11 272 yX6_clear cX6_clear 1 none 0 := ⟨⟨w4_168, w1_8, w4_21, (by decide +kernel)⟩, w4_19, w4_20⟩
theorem kV_X11_273 : Wv RX11 273 yX6_put cX6_put 3 none 2 := ⟨⟨w4_169, w1_8, w4_29, (by decide +kernel)⟩, w4_27, w4_28⟩
theorem kV_X11_282 : Wv RX11 282 yX11_linesOfPage cX11_linesOfPage 1 (some .int) 0 := ⟨⟨w4_178, w1_1, w4_181, (by decide +kernel)⟩, w4_180, wp_23⟩
theorem kV_X11_285 : Wv RX11 285 yX11_pagesHaveHeader cX11_pagesHaveHeader 1 (some .boolean) 0 := ⟨⟨w4_182, w1_1, w4_185, (by decide +kernel)⟩, w4_184, wp_24⟩
theorem kV_X11_288 : Wv RX11 288 yX7_present cX7_present 3 (some (.object "DotPress$Line")) 1 := ⟨⟨w4_190, w1_11, w4_193, (by decide +kernel)⟩, w4_191, w4_192⟩
theorem kV_X11_292 : Wv RX11 292 yX7_whyNone cX7_whyNone 2 (some .int) 1 := ⟨⟨w4_194, w1_11, w4_197, (by decide +kernel)⟩, w4_195, w4_196⟩
theorem kV_X11_298 : Wv RX11 298 yX11_cellOfLine cX11_cellOfLine 4 (some .int) 2 := ⟨⟨w4_202, w1_1, w4_205, (by decide +kernel)⟩, w4_204, wp_25⟩
theorem kV_X11_302 : Wv RX11 302 yX11_pages cX11_pages 2 (some .int) 0 := ⟨⟨w4_210, w1_1, w4_177, (by decide +kernel)⟩, w4_175, w4_176⟩
theorem kV_X11_305 : Wv RX11 305 yX2_resize cX2_resize 3 none 1 := ⟨⟨w4_215, w1_22, w4_218, (by decide +kernel)⟩, w4_216, w4_217⟩
theorem kV_X11_308 : Wv RX11 308 yX7_at cX7_at 2 (some (.object "DotPress$Line")) 1 := ⟨⟨w4_224, w1_11, w4_75, (by decide +kernel)⟩, w4_73, w4_74⟩
theorem kV_X11_313 : Wv RX11 313 yX2_hasCells cX2_hasCells 3 (some .boolean) 2 := ⟨⟨w4_229, w1_22, w4_232, (by decide +kernel)⟩, w4_230, w4_231⟩
theorem kV_X11_322 : Wv RX11 322 yX2_become cX2_become 2 none 1 := ⟨⟨w4_238, w1_22, w5_1, (by decide +kernel)⟩, w4_239, w5_0⟩
theorem kV_X11_326 : Wv RX11 326 yX2_dots cX2_dots 3 (some .int) 0 := ⟨⟨w5_10, w1_22, w5_13, (by decide +kernel)⟩, w5_11, w5_12⟩
theorem kV_X11_328 : Wv RX11 328 yX11_chainLines cX11_chainLines 5 none 2 := ⟨⟨w5_28, w1_1, w5_31, (by decide +kernel)⟩, w5_30, wp_26⟩
theorem kV_X11_331 : Wv RX11 331 yX3_gather cX3_gather 2 none 1 := ⟨⟨w5_50, w1_9, w5_53, (by decide +kernel)⟩, w5_51, w5_52⟩
theorem kV_X11_335 : Wv RX11 335 yX3_decode cX3_decode 4 (some .boolean) 0 := ⟨⟨w5_71, w1_9, w5_74, (by decide +kernel)⟩, w5_72, w5_73⟩
theorem kV_X11_338 : Wv RX11 338 yX3_placeOfWrong cX3_placeOfWrong 1 (some .int) 0 := ⟨⟨w5_106, w1_9, w5_109, (by decide +kernel)⟩, w5_107, w5_108⟩
theorem kV_X11_344 : Wv RX11 344 yX3_clearCells cX3_clearCells 1 none 0 := ⟨⟨w5_32, w1_9, w5_35, (by decide +kernel)⟩, w5_33, w5_34⟩
theorem kV_X11_347 : Wv RX11 347 yX3_chain cX3_chain 8 none 4 := ⟨⟨w5_37, w1_9, w5_40, (by decide +kernel)⟩, w5_38, w5_39⟩
theorem kV_X11_356 : Wv RX11 356 yX4_collect cX4_collect 4 none 3 := ⟨⟨w5_123, w1_10, w5_126, (by decide +kernel)⟩, w5_124, w5_125⟩
theorem kV_X11_364 : Wv RX11 364 yX4_byteOf cX4_byteOf 4 (some .int) 2 := ⟨⟨w5_174, w1_10, w5_177, (by decide +kernel)⟩, w5_175, w5_176⟩
theorem kV_X11_367 : Wv RX11 367 yX9_hasShort cX9_hasShort 1 (some .boolean) 0 := ⟨⟨w5_183, w1_16, w5_186, (by decide +kernel)⟩, w5_184, w5_185⟩
theorem kV_X11_380 : Wv RX11 380 yX5_alike cX5_alike 4 (some .int) 1 := ⟨⟨w5_210, w1_21, w5_204, (by decide +kernel)⟩, w5_202, w5_203⟩
theorem kV_X11_385 : Wv RX11 385 yX8_gatherAlphabet cX8_gatherAlphabet 4 none 2 := ⟨⟨w5_215, w1_7, w5_218, (by decide +kernel)⟩, w5_216, w5_217⟩
theorem kV_X11_389 : Wv RX11 389 yX8_startSpelling cX8_startSpelling 2 (some .boolean) 1 := ⟨⟨w5_226, w1_7, w5_229, (by decide +kernel)⟩, w5_227, w5_228⟩
theorem kV_X11_392 : Wv RX11 392 yX8_spell cX8_spell 3 none 1 := ⟨⟨w5_237, w1_7, w6_0, (by decide +kernel)⟩, w5_238, w5_239⟩
theorem kV_X11_396 : Wv RX11 396 yX11_isReadBack cX11_isReadBack 2 (some .boolean) 0 := ⟨⟨w6_1, w1_1, w6_4, (by decide +kernel)⟩, w6_3, wp_38⟩
theorem kV_X11_399 : Wv RX11 399 yX6_writeLetters cX6_writeLetters 3 none 1 := ⟨⟨w6_11, w1_8, w6_14, (by decide +kernel)⟩, w6_12, w6_13⟩
theorem kV_X11_403 : Wv RX11 403 yX8_spellNext cX8_spellNext 3 (some .boolean) 1 := ⟨⟨w6_16, w1_7, w6_19, (by decide +kernel)⟩, w6_17, w6_18⟩
theorem kV_X11_406 : Wv RX11 406 yX3_addCell cX3_addCell 3 none 2 := ⟨⟨w6_5, w1_9, w5_48, (by decide +kernel)⟩, w5_46, w5_47⟩
theorem kV_X11_409 : Wv RX11 409 yX6_hasLetters cX6_hasLetters 3 (some .boolean) 1 := ⟨⟨w6_6, w1_8, w6_9, (by decide +kernel)⟩, w6_7, w6_8⟩
theorem kV_X11_413 : Wv RX11 413 yX6_findsOf cX6_findsOf 2 (some .int) 1 := ⟨⟨w6_32, w1_8, w6_35, (by decide +kernel)⟩, w6_33, w6_34⟩
theorem kV_X11_416 : Wv RX11 416 yX7_goOver cX7_goOver 6 (some .int) 1 := ⟨⟨w6_44, w1_11, w6_47, (by decide +kernel)⟩, w6_45, w6_46⟩
theorem kV_X12_154 : Wv RX12 154 yX12_bad cX12_bad 2 (some .int) 1 := ⟨⟨w7_25, w1_12, w7_28, (by decide +kernel)⟩, w7_27, wp_39⟩
theorem kV_X12_158 : Wv RX12 158 yX12_fine cX12_fine 2 (some .int) 1 := ⟨⟨w7_29, w1_12, w7_32, (by decide +kernel)⟩, w7_31, wp_40⟩
theorem kV_X12_167 : Wv RX12 167 yX12_isTable cX12_isTable 2 (some .boolean) 1 := ⟨⟨w7_44, w1_12, w7_47, (by decide +kernel)⟩, w7_46, wp_41⟩
theorem kV_X12_171 : Wv RX12 171 yX12_isWhole cX12_isWhole 2 (some .boolean) 1 := ⟨⟨w7_108, w1_12, w7_111, (by decide +kernel)⟩, w7_110, wp_46⟩
theorem kV_X12_178 : Wv RX12 178 yX12_newTable cX12_newTable 7 (some .int) 4 := ⟨⟨w7_48, w1_12, w7_51, (by decide +kernel)⟩, w7_50, wp_42⟩
theorem kV_X12_182 : Wv RX12 182 yX12_step cX12_step 7 none 4 := ⟨⟨w7_52, w1_12, w7_55, (by decide +kernel)⟩, w7_54, wp_43⟩
theorem kV_X12_192 : Wv RX12 192 yX12_taken cX12_taken 2 (some .int) 0 := ⟨⟨w7_69, w1_12, w7_72, (by decide +kernel)⟩, w7_71, wp_44⟩
theorem kV_X12_196 : Wv RX12 196 yX12_areCells cX12_areCells 6 (some .boolean) 3 := ⟨⟨w7_73, w1_12, w7_76, (by decide +kernel)⟩, w7_75, wp_45⟩
theorem kV_X12_211 : Wv RX12 211 yX12_fits cX12_fits 9 (some .boolean) 4 := ⟨⟨w7_151, w1_12, w7_154, (by decide +kernel)⟩, w7_153, wp_56⟩
theorem kV_X12_215 : Wv RX12 215 yX12_contracted cX12_contracted 7 (some .int) 4 := ⟨⟨w7_143, w1_12, w7_146, (by decide +kernel)⟩, w7_145, wp_54⟩
theorem kV_X12_218 : Wv RX12 218 yX12_find cX12_find 7 (some .int) 4 := ⟨⟨w7_139, w1_12, w7_142, (by decide +kernel)⟩, w7_141, wp_53⟩
theorem kV_X12_221 : Wv RX12 221 yX12_own cX12_own 7 (some .int) 4 := ⟨⟨w7_147, w1_12, w7_150, (by decide +kernel)⟩, w7_149, wp_55⟩
theorem kV_X12_227 : Wv RX12 227 yX12_putIndicator cX12_putIndicator 5 none 2 := ⟨⟨w7_135, w1_12, w7_138, (by decide +kernel)⟩, w7_137, wp_52⟩
theorem kV_X12_237 : Wv RX12 237 yX12_setPart cX12_setPart 8 (some .boolean) 3 := ⟨⟨w7_128, w1_12, w7_131, (by decide +kernel)⟩, w7_130, wp_51⟩
theorem kV_X12_240 : Wv RX12 240 yX12_badAt cX12_badAt 3 (some .int) 2 := ⟨⟨w7_165, w1_12, w7_168, (by decide +kernel)⟩, w7_167, wp_58⟩
theorem kV_X12_249 : Wv RX12 249 yX12_breakOf cX12_breakOf 7 (some .int) 3 := ⟨⟨w7_173, w1_12, w7_176, (by decide +kernel)⟩, w7_175, wp_60⟩
theorem kV_X12_253 : Wv RX12 253 yX12_putCell cX12_putCell 3 none 1 := ⟨⟨w7_177, w1_12, w7_180, (by decide +kernel)⟩, w7_179, wp_61⟩
theorem kV_X12_257 : Wv RX12 257 yX12_newLine cX12_newLine 1 (some .boolean) 0 := ⟨⟨w7_116, w1_12, w7_119, (by decide +kernel)⟩, w7_118, wp_48⟩
theorem kV_X12_261 : Wv RX12 261 yX12_lineEnd cX12_lineEnd 3 (some .int) 1 := ⟨⟨w7_112, w1_12, w7_115, (by decide +kernel)⟩, w7_114, wp_47⟩
theorem kV_X12_264 : Wv RX12 264 yX12_takeWord cX12_takeWord 4 (some .int) 2 := ⟨⟨w7_120, w1_12, w7_123, (by decide +kernel)⟩, w7_122, wp_49⟩
theorem kV_X12_267 : Wv RX12 267 yX12_setWord cX12_setWord 7 (some .boolean) 1 := ⟨⟨w7_124, w1_12, w7_127, (by decide +kernel)⟩, w7_126, wp_50⟩
theorem kV_X12_270 : Wv RX12 270 yX12_notSet cX12_notSet 1 (some .int) 0 := ⟨⟨w7_161, w1_12, w7_164, (by decide +kernel)⟩, w7_163, wp_57⟩
theorem kV_X12_273 : Wv RX12 273 yX12_flow cX12_flow 7 (some .boolean) 1 := ⟨⟨w7_169, w1_12, w7_172, (by decide +kernel)⟩, w7_171, wp_59⟩
theorem kV_X12_276 : Wv RX12 276 yX12_centre cX12_centre 5 none 1 := ⟨⟨w7_181, w1_12, w7_184, (by decide +kernel)⟩, w7_183, wp_62⟩
theorem kV_X12_288 : Wv RX12 288 yX12_hasHead cX12_hasHead 1 (some .boolean) 0 := ⟨⟨w7_202, w1_12, w7_205, (by decide +kernel)⟩, w7_204, wp_64⟩
theorem kV_X12_291 : Wv RX12 291 yX12_onPage cX12_onPage 1 (some .int) 0 := ⟨⟨w7_198, w1_12, w7_201, (by decide +kernel)⟩, w7_200, wp_63⟩
theorem kV_X12_294 : Wv RX12 294 yX12_lineFault cX12_lineFault 2 (some .int) 1 := ⟨⟨w7_210, w1_12, w7_213, (by decide +kernel)⟩, w7_212, wp_65⟩
theorem kV_X12_297 : Wv RX12 297 yX12_pages cX12_pages 1 (some .int) 0 := ⟨⟨w7_222, w1_12, w7_197, (by decide +kernel)⟩, w7_195, w7_196⟩
theorem kV_X12_300 : Wv RX12 300 yX12_cell cX12_cell 3 (some .int) 2 := ⟨⟨w7_223, w1_12, w7_217, (by decide +kernel)⟩, w7_215, w7_216⟩
theorem kV_X12_314 : Wv RX12 314 yX12_addRow cX12_addRow 6 none 4 := ⟨⟨w8_33, w1_12, w8_36, (by decide +kernel)⟩, w8_35, wp_69⟩
theorem kV_X12_317 : Wv RX12 317 yX12_addIndicator cX12_addIndicator 5 none 3 := ⟨⟨w8_37, w1_12, w8_40, (by decide +kernel)⟩, w8_39, wp_70⟩
theorem kV_X12_321 : Wv RX12 321 yX12_addRows cX12_addRows 5 none 2 := ⟨⟨w8_29, w1_12, w8_32, (by decide +kernel)⟩, w8_31, wp_68⟩
theorem kV_X12_324 : Wv RX12 324 yX12_rowCell cX12_rowCell 3 (some .int) 2 := ⟨⟨w8_61, w1_12, w8_64, (by decide +kernel)⟩, w8_63, wp_76⟩
theorem kV_X12_327 : Wv RX12 327 yX12_stands cX12_stands 6 (some .boolean) 3 := ⟨⟨w8_57, w1_12, w8_60, (by decide +kernel)⟩, w8_59, wp_75⟩
theorem kV_X12_336 : Wv RX12 336 yX12_tell cX12_tell 2 (some .boolean) 1 := ⟨⟨w8_45, w1_12, w8_48, (by decide +kernel)⟩, w8_47, wp_72⟩
theorem kV_X12_339 : Wv RX12 339 yX12_readWord cX12_readWord 9 (some .int) 2 := ⟨⟨w8_49, w1_12, w8_52, (by decide +kernel)⟩, w8_51, wp_73⟩
theorem kV_X12_342 : Wv RX12 342 yX12_longest cX12_longest 6 (some .int) 3 := ⟨⟨w8_53, w1_12, w8_56, (by decide +kernel)⟩, w8_55, wp_74⟩
theorem kV_X12_348 : Wv RX12 348 yX12_isSmallRule cX12_isSmallRule 2 (some .boolean) 1 := ⟨⟨w8_65, w1_12, w8_68, (by decide +kernel)⟩, w8_67, wp_77⟩
theorem kV_X12_351 : Wv RX12 351 yX12_putRow cX12_putRow 3 none 2 := ⟨⟨w8_21, w1_12, w8_24, (by decide +kernel)⟩, w8_23, wp_66⟩
theorem kV_X12_354 : Wv RX12 354 yX12_gather cX12_gather 2 none 1 := ⟨⟨w8_25, w1_12, w8_28, (by decide +kernel)⟩, w8_27, wp_67⟩
theorem kV_X12_357 : Wv RX12 357 yX12_readAll cX12_readAll 5 (some .int) 0 := ⟨⟨w8_41, w1_12, w8_44, (by decide +kernel)⟩, w8_43, wp_71⟩
theorem kV_X12_363 : Wv RX12 363 yX12_looksLike cX12_looksLike 3 (some .boolean) 2 := ⟨⟨w8_89, w1_12, w8_92, (by decide +kernel)⟩, w8_91, wp_80⟩
theorem kV_X12_367 : Wv RX12 367 yX12_next cX12_next 3 (some .int) 2 := ⟨⟨w8_100, w1_12, w8_103, (by decide +kernel)⟩, w8_102, wp_82⟩
theorem kV_X12_374 : Wv RX12 374 yX12_mayBlank cX12_mayBlank 3 (some .boolean) 2 := ⟨⟨w8_85, w1_12, w8_88, (by decide +kernel)⟩, w8_87, wp_79⟩
theorem kV_X12_378 : Wv RX12 378 yX12_may cX12_may 6 (some .boolean) 4 := ⟨⟨w8_96, w1_12, w8_99, (by decide +kernel)⟩, w8_98, wp_81⟩
theorem kV_X12_385 : Wv RX12 385 yX12_keep cX12_keep 2 none 0 := ⟨⟨w8_108, w1_12, w8_111, (by decide +kernel)⟩, w8_110, wp_84⟩
theorem kV_X12_391 : Wv RX12 391 yX12_go cX12_go 8 none 3 := ⟨⟨w8_104, w1_12, w8_107, (by decide +kernel)⟩, w8_106, wp_83⟩
theorem kV_X12_401 : Wv RX12 401 yX12_findCan cX12_findCan 7 none 0 := ⟨⟨w8_81, w1_12, w8_84, (by decide +kernel)⟩, w8_83, wp_78⟩
theorem kV_X12_404 : Wv RX12 404 yX12_alike cX12_alike 4 (some .int) 2 := ⟨⟨w8_132, w1_12, w8_135, (by decide +kernel)⟩, w8_134, wp_87⟩
theorem kV_X12_407 : Wv RX12 407 yX12_isShort cX12_isShort 4 (some .boolean) 1 := ⟨⟨w8_124, w1_12, w8_127, (by decide +kernel)⟩, w8_126, wp_85⟩
theorem kV_X12_410 : Wv RX12 410 yX12_isReadable cX12_isReadable 6 (some .boolean) 1 := ⟨⟨w8_128, w1_12, w8_131, (by decide +kernel)⟩, w8_130, wp_86⟩
theorem kV_X12_416 : Wv RX12 416 yX12_gatherSigns cX12_gatherSigns 8 none 1 := ⟨⟨w8_144, w1_12, w8_147, (by decide +kernel)⟩, w8_146, wp_88⟩
theorem kV_X12_422 : Wv RX12 422 yX12_putBack cX12_putBack 2 none 0 := ⟨⟨w8_148, w1_12, w8_151, (by decide +kernel)⟩, w8_150, wp_89⟩
theorem kV_X12_425 : Wv RX12 425 yX12_isUnreadable cX12_isUnreadable 3 (some .boolean) 1 := ⟨⟨w8_152, w1_12, w8_155, (by decide +kernel)⟩, w8_154, wp_90⟩
theorem kV_X1_26 : Wv RX1 26 yX1_add cX1_add 2 none 1 := ⟨⟨w3_220, w1_2, w2_117, (by decide +kernel)⟩, w2_115, w2_116⟩
theorem kV_X1_39 : Wv RX1 39 yX1_at cX1_at 2 (some .int) 1 := ⟨⟨w3_116, w1_2, w3_119, (by decide +kernel)⟩, w3_117, w3_118⟩
theorem kV_X2_23 : Wv RX2 23 yX2_add cX2_add 2 none 1 := ⟨⟨w4_143, w1_22, w4_146, (by decide +kernel)⟩, w4_144, w4_145⟩
theorem kV_X3_100 : Wv RX3 100 yX5_endsWith cX5_endsWith 2 (some .boolean) 1 := ⟨⟨w5_193, w1_21, w5_196, (by decide +kernel)⟩, w5_194, w5_195⟩
theorem kV_X3_104 : Wv RX3 104 yX5_isAtBeginOf cX5_isAtBeginOf 2 (some .boolean) 1 := ⟨⟨w5_197, w1_21, w5_200, (by decide +kernel)⟩, w5_198, w5_199⟩
theorem kV_X3_108 : Wv RX3 108 yX2_endsWith cX2_endsWith 2 (some .boolean) 1 := ⟨⟨w5_41, w1_22, w5_44, (by decide +kernel)⟩, w5_42, w5_43⟩
theorem kV_X3_114 : Wv RX3 114 yX3_addCell cX3_addCell 3 none 2 := ⟨⟨w5_45, w1_9, w5_48, (by decide +kernel)⟩, w5_46, w5_47⟩
theorem kV_X3_119 : Wv RX3 119 yX1_at cX1_at 2 (some .int) 1 := ⟨⟨w5_75, w1_2, w3_119, (by decide +kernel)⟩, w3_117, w3_118⟩
theorem kV_X3_123 : Wv RX3 123 yX3_decodeWord cX3_decodeWord 6 (some .int) 1 := ⟨⟨w5_76, w1_9, w5_79, (by decide +kernel)⟩, w5_78, wp_27⟩
theorem kV_X3_126 : Wv RX3 126 yX3_longestAt cX3_longestAt 11 (some (.object "DotPress$Row")) 2 := ⟨⟨w5_80, w1_9, w5_83, (by decide +kernel)⟩, w5_82, wp_28⟩
theorem kV_X3_130 : Wv RX3 130 yX5_beginsSmall cX5_beginsSmall 1 (some .boolean) 0 := ⟨⟨w5_93, w1_21, w5_96, (by decide +kernel)⟩, w5_94, w5_95⟩
theorem kV_X3_137 : Wv RX3 137 yX5_writeLetters cX5_writeLetters 4 none 2 := ⟨⟨w5_100, w1_21, w5_103, (by decide +kernel)⟩, w5_101, w5_102⟩
theorem kV_X3_147 : Wv RX3 147 yX3_rowsOf cX3_rowsOf 2 (some (.object "java/util/ArrayList")) 1 := ⟨⟨w5_84, w1_9, w5_87, (by decide +kernel)⟩, w5_85, w5_86⟩
theorem kV_X3_157 : Wv RX3 157 yX5_standsAt cX5_standsAt 4 (some .boolean) 2 := ⟨⟨w5_89, w1_21, w5_92, (by decide +kernel)⟩, w5_90, w5_91⟩
theorem kV_X3_47 : Wv RX3 47 yJx4a65c_clear_da8c8 cJx4a65c_clear_da8c8 4 none 0 := ⟨⟨w5_54, w1_6, w5_57, (by decide +kernel)⟩, w5_55, w5_56⟩
theorem kV_X3_77 : Wv RX3 77 yX1_clear cX1_clear 1 none 0 := ⟨⟨w5_36, w1_2, w3_169, (by decide +kernel)⟩, w3_167, w3_168⟩
theorem kV_X3_78 : Wv RX3 78 yJx4a65c_size_8abf5 cJx4a65c_size_8abf5 1 (some .int) 0 := ⟨⟨w5_61, w1_6, w2_161, (by decide +kernel)⟩, w2_159, w2_160⟩
theorem kV_X3_82 : Wv RX3 82 yJx4a65c_get_915e3 cJx4a65c_get_915e3 2 (some (.object "java/lang/Object")) 1 := ⟨⟨w5_62, w1_6, w3_83, (by decide +kernel)⟩, w3_81, w3_82⟩
theorem kV_X3_91 : Wv RX3 91 yX1_add cX1_add 2 none 1 := ⟨⟨w5_49, w1_2, w2_117, (by decide +kernel)⟩, w2_115, w2_116⟩
theorem kV_X3_97 : Wv RX3 97 yJx4a65c_add_9ea2d cJx4a65c_add_9ea2d 2 (some .boolean) 1 := ⟨⟨w5_64, w1_6, w2_224, (by decide +kernel)⟩, w2_222, w2_223⟩
theorem kV_X4_101 : Wv RX4 101 yJx4a65c_size_8abf5 cJx4a65c_size_8abf5 1 (some .int) 0 := ⟨⟨w5_139, w1_6, w2_161, (by decide +kernel)⟩, w2_159, w2_160⟩
theorem kV_X4_106 : Wv RX4 106 yX4_looksLike cX4_looksLike 3 (some .boolean) 2 := ⟨⟨w5_144, w1_10, w5_147, (by decide +kernel)⟩, w5_146, wp_32⟩
theorem kV_X4_110 : Wv RX4 110 yJx4a65c_get_915e3 cJx4a65c_get_915e3 2 (some (.object "java/lang/Object")) 1 := ⟨⟨w5_148, w1_6, w3_83, (by decide +kernel)⟩, w3_81, w3_82⟩
theorem kV_X4_116 : Wv RX4 116 yX4_looksLikeRow cX4_looksLikeRow 4 (some .boolean) 2 := ⟨⟨w5_150, w1_10, w5_153, (by decide +kernel)⟩, w5_152, wp_33⟩
theorem kV_X4_120 : Wv RX4 120 yX5_beginsSmall cX5_beginsSmall 1 (some .boolean) 0 := ⟨⟨w5_154, w1_21, w5_96, (by decide +kernel)⟩, w5_94, w5_95⟩
theorem kV_X4_128 : Wv RX4 128 yX1_add cX1_add 2 none 1 := ⟨⟨w5_164, w1_2, w2_117, (by decide +kernel)⟩, w2_115, w2_116⟩
theorem kV_X4_131 : Wv RX4 131 yX5_writeLetters cX5_writeLetters 4 none 2 := ⟨⟨w5_165, w1_21, w5_103, (by decide +kernel)⟩, w5_101, w5_102⟩
theorem kV_X4_56 : Wv RX4 56 yX1_at cX1_at 2 (some .int) 1 := ⟨⟨w5_178, w1_2, w3_119, (by decide +kernel)⟩, w3_117, w3_118⟩
theorem kV_X4_76 : Wv RX4 76 yX1_clear cX1_clear 1 none 0 := ⟨⟨w5_129, w1_2, w3_169, (by decide +kernel)⟩, w3_167, w3_168⟩
theorem kV_X4_79 : Wv RX4 79 yX4_markEnds cX4_markEnds 2 none 0 := ⟨⟨w5_130, w1_10, w5_133, (by decide +kernel)⟩, w5_132, wp_29⟩
theorem kV_X4_82 : Wv RX4 82 yX4_walk cX4_walk 6 none 1 := ⟨⟨w5_155, w1_10, w5_158, (by decide +kernel)⟩, w5_157, wp_34⟩
theorem kV_X4_85 : Wv RX4 85 yX4_nextChoice cX4_nextChoice 6 (some .int) 2 := ⟨⟨w5_134, w1_10, w5_137, (by decide +kernel)⟩, w5_136, wp_30⟩
theorem kV_X4_89 : Wv RX4 89 yX4_write cX4_write 5 none 1 := ⟨⟨w5_160, w1_10, w5_163, (by decide +kernel)⟩, w5_162, wp_35⟩
theorem kV_X4_92 : Wv RX4 92 yX4_nodeBehind cX4_nodeBehind 7 (some .int) 2 := ⟨⟨w5_140, w1_10, w5_143, (by decide +kernel)⟩, w5_142, wp_31⟩
theorem kV_X4_95 : Wv RX4 95 yX3_rowsOf cX3_rowsOf 2 (some (.object "java/util/ArrayList")) 1 := ⟨⟨w5_138, w1_9, w5_87, (by decide +kernel)⟩, w5_85, w5_86⟩
theorem kV_X5_35 : Wv RX5 35 yX5_alike cX5_alike 4 (some .int) 1 := ⟨⟨w5_201, w1_21, w5_204, (by decide +kernel)⟩, w5_202, w5_203⟩
theorem kV_X5_47 : Wv RX5 47 yX1_add cX1_add 2 none 1 := ⟨⟨w5_104, w1_2, w2_117, (by decide +kernel)⟩, w2_115, w2_116⟩
theorem kV_X6_105 : Wv RX6 105 yX6_markStart cX6_markStart 4 none 2 := ⟨⟨w4_122, w1_8, w4_125, (by decide +kernel)⟩, w4_124, wp_18⟩
theorem kV_X6_119 : Wv RX6 119 yX6_countFind cX6_countFind 2 none 1 := ⟨⟨w4_100, w1_8, w4_103, (by decide +kernel)⟩, w4_102, wp_15⟩
theorem kV_X6_122 : Wv RX6 122 yX6_findOwn cX6_findOwn 11 (some (.object "DotPress$Row")) 4 := ⟨⟨w4_104, w1_8, w4_107, (by decide +kernel)⟩, w4_106, wp_16⟩
theorem kV_X6_134 : Wv RX6 134 yJx4a65c_size_8abf5 cJx4a65c_size_8abf5 1 (some .int) 0 := ⟨⟨w4_108, w1_6, w2_161, (by decide +kernel)⟩, w2_159, w2_160⟩
theorem kV_X6_145 : Wv RX6 145 yJx4a65c_get_915e3 cJx4a65c_get_915e3 2 (some (.object "java/lang/Object")) 1 := ⟨⟨w4_110, w1_6, w3_83, (by decide +kernel)⟩, w3_81, w3_82⟩
theorem kV_X6_149 : Wv RX6 149 yX6_fits cX6_fits 6 (some .boolean) 2 := ⟨⟨w4_112, w1_8, w4_115, (by decide +kernel)⟩, w4_114, wp_17⟩
theorem kV_X6_54 : Wv RX6 54 yX1_at cX1_at 2 (some .int) 1 := ⟨⟨w6_10, w1_2, w3_119, (by decide +kernel)⟩, w3_117, w3_118⟩
theorem kV_X6_58 : Wv RX6 58 yX1_add cX1_add 2 none 1 := ⟨⟨w6_15, w1_2, w2_117, (by decide +kernel)⟩, w2_115, w2_116⟩
theorem kV_X6_74 : Wv RX6 74 yX6_setPart cX6_setPart 9 (some .int) 3 := ⟨⟨w4_85, w1_8, w4_88, (by decide +kernel)⟩, w4_87, wp_12⟩
theorem kV_X6_82 : Wv RX6 82 yX6_setTurn cX6_setTurn 3 (some .int) 2 := ⟨⟨w4_131, w1_8, w4_134, (by decide +kernel)⟩, w4_133, wp_20⟩
theorem kV_X6_86 : Wv RX6 86 yX6_push cX6_push 3 none 1 := ⟨⟨w4_126, w1_8, w4_129, (by decide +kernel)⟩, w4_128, wp_19⟩
theorem kV_X6_90 : Wv RX6 90 yX6_numberAhead cX6_numberAhead 4 (some (.object "DotPress$Row")) 2 := ⟨⟨w4_89, w1_8, w4_92, (by decide +kernel)⟩, w4_91, wp_13⟩
theorem kV_X6_94 : Wv RX6 94 yX6_find cX6_find 7 (some (.object "DotPress$Row")) 3 := ⟨⟨w4_96, w1_8, w4_99, (by decide +kernel)⟩, w4_98, wp_14⟩
theorem kV_X7_24 : Wv RX7 24 yX7_at cX7_at 2 (some (.object "DotPress$Line")) 1 := ⟨⟨w4_72, w1_11, w4_75, (by decide +kernel)⟩, w4_73, w4_74⟩
theorem kV_X7_33 : Wv RX7 33 yX2_clear cX2_clear 1 none 0 := ⟨⟨w4_64, w1_22, w4_67, (by decide +kernel)⟩, w4_65, w4_66⟩
theorem kV_X7_42 : Wv RX7 42 yX2_addPart cX2_addPart 5 none 3 := ⟨⟨w4_139, w1_22, w4_142, (by decide +kernel)⟩, w4_140, w4_141⟩
theorem kV_X7_46 : Wv RX7 46 yX6_lastBreak cX6_lastBreak 7 (some .int) 3 := ⟨⟨w4_147, w1_8, w4_150, (by decide +kernel)⟩, w4_148, w4_149⟩
theorem kV_X7_50 : Wv RX7 50 yX2_add cX2_add 2 none 1 := ⟨⟨w4_151, w1_22, w4_146, (by decide +kernel)⟩, w4_144, w4_145⟩
theorem kV_X7_54 : Wv RX7 54 yX7_begin cX7_begin 1 (some .boolean) 0 := ⟨⟨w4_35, w1_11, w4_38, (by decide +kernel)⟩, w4_36, w4_37⟩
theorem kV_X7_58 : Wv RX7 58 yX2_indent cX2_indent 3 none 1 := ⟨⟨w4_76, w1_22, w4_79, (by decide +kernel)⟩, w4_77, w4_78⟩
theorem kV_X7_61 : Wv RX7 61 yX7_present cX7_present 3 (some (.object "DotPress$Line")) 1 := ⟨⟨w6_48, w1_11, w4_193, (by decide +kernel)⟩, w4_191, w4_192⟩
theorem kV_X8_39 : Wv RX8 39 yX8_enterLine cX8_enterLine 2 (some .int) 1 := ⟨⟨w4_13, w1_7, w4_16, (by decide +kernel)⟩, w4_15, wp_11⟩
theorem kV_X8_43 : Wv RX8 43 yX6_clear cX6_clear 1 none 0 := ⟨⟨w4_18, w1_8, w4_21, (by decide +kernel)⟩, w4_19, w4_20⟩
theorem kV_X8_53 : Wv RX8 53 yX1_at cX1_at 2 (some .int) 1 := ⟨⟨w4_17, w1_2, w3_119, (by decide +kernel)⟩, w3_117, w3_118⟩
theorem kV_X8_57 : Wv RX8 57 yX6_putBreak cX6_putBreak 1 none 0 := ⟨⟨w4_22, w1_8, w4_25, (by decide +kernel)⟩, w4_23, w4_24⟩
theorem kV_X8_60 : Wv RX8 60 yX6_put cX6_put 3 none 2 := ⟨⟨w4_26, w1_8, w4_29, (by decide +kernel)⟩, w4_27, w4_28⟩
theorem kV_X8_70 : Wv RX8 70 yX8_markLetters cX8_markLetters 5 none 1 := ⟨⟨w5_219, w1_7, w5_222, (by decide +kernel)⟩, w5_221, wp_36⟩
theorem kV_X8_77 : Wv RX8 77 yJx4a65c_size_8abf5 cJx4a65c_size_8abf5 1 (some .int) 0 := ⟨⟨w5_223, w1_6, w2_161, (by decide +kernel)⟩, w2_159, w2_160⟩
theorem kV_X8_82 : Wv RX8 82 yJx4a65c_get_915e3 cJx4a65c_get_915e3 2 (some (.object "java/lang/Object")) 1 := ⟨⟨w5_224, w1_6, w3_83, (by decide +kernel)⟩, w3_81, w3_82⟩
theorem kV_X8_91 : Wv RX8 91 yX8_lengthen cX8_lengthen 2 (some .boolean) 1 := ⟨⟨w5_230, w1_7, w5_233, (by decide +kernel)⟩, w5_232, wp_37⟩
theorem kV_X9_51 : Wv RX9 51 yJx4a65c_add_9ea2d cJx4a65c_add_9ea2d 2 (some .boolean) 1 := ⟨⟨w3_164, w1_6, w2_224, (by decide +kernel)⟩, w2_222, w2_223⟩
theorem kV_X9_59 : Wv RX9 59 yX1_add cX1_add 2 none 1 := ⟨⟨w3_165, w1_2, w2_117, (by decide +kernel)⟩, w2_115, w2_116⟩
theorem kV_X9_61 : Wv RX9 61 yJx4a65c_isEmpty_aae02 cJx4a65c_isEmpty_aae02 1 (some .boolean) 0 := ⟨⟨w3_203, w1_6, w3_198, (by decide +kernel)⟩, w3_196, w3_197⟩
theorem kV_X9_65 : Wv RX9 65 yJx4a65c_size_8abf5 cJx4a65c_size_8abf5 1 (some .int) 0 := ⟨⟨w3_204, w1_6, w2_161, (by decide +kernel)⟩, w2_159, w2_160⟩
theorem kV_X9_69 : Wv RX9 69 yJx4a65c_remove_915e3 cJx4a65c_remove_915e3 4 (some (.object "java/lang/Object")) 1 := ⟨⟨w3_205, w1_6, w3_64, (by decide +kernel)⟩, w3_62, w3_63⟩
theorem kV_X9_73 : Wv RX9 73 yX1_keep cX1_keep 2 none 1 := ⟨⟨w3_206, w1_2, w2_145, (by decide +kernel)⟩, w2_143, w2_144⟩
end
section
abbrev iI (z : Int) : Int32 := Int32.ofInt z
abbrev R32 (z : Int) : Prop := -2147483648 ≤ z ∧ z < 2147483648
theorem r32_c {x lo hi : Int} (h1 : lo ≤ x) (h2 : x ≤ hi) (h3 : -2147483648 ≤ lo) (h4 : hi < 2147483648) : R32 x := ⟨Int.le_trans h3 h1, Int.lt_of_le_of_lt h2 h4⟩
theorem r32_01 {f : Int} (h : f = 0 ∨ f = 1) : R32 f := by
  rcases h with rfl | rfl <;> exact ⟨by decide, by decide⟩
theorem r32_067 {f : Int} (h : f = 0 ∨ f = 6 ∨ f = 7) : R32 f := by
  rcases h with rfl | rfl | rfl <;> exact ⟨by decide, by decide⟩
theorem r32_0p {f : Int} {p : Prop} (h : f = 0 ∨ (f = 1 ∧ p)) : R32 f := r32_01 (h.imp id And.left)
theorem r32_p0 {f : Int} {p : Prop} (h : (f = 1 ∧ p) ∨ f = 0) : R32 f := r32_01 (h.elim (fun q => Or.inr q.1) Or.inl)
theorem r32_pq {f : Int} {p q : Prop} (h : (f = 0 ∧ p) ∨ (f = 1 ∧ q)) : R32 f := r32_01 (h.imp And.left And.left)
theorem r32_qp {f : Int} {p q : Prop} (h : (f = 1 ∧ p) ∨ (f = 0 ∧ q)) : R32 f := r32_01 (h.elim (fun q => Or.inr q.1) (fun q => Or.inl q.1))
theorem iI_int {z : Int} (h : R32 z) : (iI z).toInt = z := Int32.toInt_ofInt_of_le h.1 h.2
theorem iI_of (x : Int32) : ∃ z : Int, R32 z ∧ x = iI z := ⟨x.toInt, ⟨Int32.le_toInt x, Int32.toInt_lt x⟩, (Int32.ofInt_toInt x).symm⟩
theorem iI_cl {z : Int} (h : R32 z) : (iI z).toNatClampNeg = z.toNat := by rw [← Int32.toNat_toInt, iI_int h]
theorem iI_lt {a b : Int} (ha : R32 a) (hb : R32 b) : iI a < iI b ↔ a < b := by rw [Int32.lt_iff_toInt_lt, iI_int ha, iI_int hb]
theorem iI_le {a b : Int} (ha : R32 a) (hb : R32 b) : iI a ≤ iI b ↔ a ≤ b := by rw [Int32.le_iff_toInt_le, iI_int ha, iI_int hb]
theorem iI_eq {a b : Int} (ha : R32 a) (hb : R32 b) : iI a = iI b ↔ a = b := by rw [← Int32.toInt_inj, iI_int ha, iI_int hb]
theorem iI_in {z : Int} {n : Nat} (h : R32 z) (h0 : 0 ≤ z) (hn : z < n) : vp_in (iI z) n := by rw [vp_in_iff, iI_int h]; exact ⟨h0, hn⟩
theorem R32_0 : R32 0 := ⟨by decide, by decide⟩
def mA (k : Nat) : Bool := [2, 5, 6, 7, 8, 9, 10, 11, 12, 13, 14, 15, 16, 17, 18, 20, 21, 22, 24, 26, 27, 29, 34, 35, 37, 38, 40, 44, 45, 46, 47, 48, 49, 51, 54, 57, 58, 59, 62, 65].contains k
def mZ (k : Nat) : Bool := [5, 22, 57].contains k
def mlen : Nat → Nat := fun k => match k with
  | 2 => 3000
  | 5 => 30
  | 6 => 30
  | 7 => 30
  | 8 => 30
  | 9 => 30
  | 10 => 30
  | 11 => 6000
  | 12 => 6000
  | 13 => 6000
  | 14 => 48000
  | 15 => 24000
  | 16 => 120
  | 17 => 480
  | 18 => 64
  | 20 => 512
  | 21 => 512
  | 22 => 513
  | 24 => 6144
  | 26 => 513
  | 27 => 5
  | 29 => 500
  | 34 => 200
  | 35 => 40000
  | 37 => 200
  | 38 => 40000
  | 40 => 200
  | 44 => 12016
  | 45 => 12016
  | 46 => 12016
  | 47 => 2
  | 48 => 40200
  | 49 => 40200
  | 51 => 4000
  | 54 => 4000
  | 57 => 404
  | 58 => 40400
  | 59 => 50
  | 62 => 1000
  | 65 => 256
  | _ => 0
def mfv (ad : Nat → Nat) (v : Nat → Int) : Nat → Value := fun k => if mA k = true then .ref (ad k) else .int (iI (v k))
def mar (G : GT) (n k : Nat) (c : Nat → Int) : va_E := if mZ k = true then aZ G n (fun j => iI (c j)) else aI G n (fun j => iI (c j))
def up2 (a : Nat → Nat → Int) (k i : Nat) (z : Int) : Nat → Nat → Int := fun k2 j => if k2 = k then (if j = i then z else a k2 j) else a k2 j
def mI (G : GT) (h0 : Nat) (ad ln : Nat → Nat) (v : Nat → Int) (a : Nat → Nat → Int) (L : List Nat) (E : Nat → va_E) : Prop := h0 ∈ L ∧ E h0 = ob 13 67 (mfv ad v) ∧ (∀ k, mA k = true → ad k ∈ L ∧ E (ad k) = mar G (ln k) k (a k)) ∧ (∀ k, mA k = true → h0 ≠ ad k) ∧ (∀ i j, mA i = true → mA j = true → ad i = ad j → i = j) ∧ (∀ k, k ≠ 18 → ln k = mlen k) ∧ (64 ≤ ln 18 ∧ ln 18 ≤ 8192)
theorem mfv_i {ad : Nat → Nat} {v : Nat → Int} {k : Nat} (h : mA k = false) : mfv ad v k = .int (iI (v k)) := by unfold mfv; rw [h]; rfl
theorem mfv_a {ad : Nat → Nat} {v : Nat → Int} {k : Nat} (h : mA k = true) : mfv ad v k = .ref (ad k) := by unfold mfv; rw [h]; rfl
theorem mfv_put {ad : Nat → Nat} {v : Nat → Int} {k : Nat} {z : Int} (h : mA k = false) : va_up (mfv ad v) k (.int (iI z)) = mfv ad (va_up v k z) := by
  funext j
  by_cases e : j = k
  · subst e; rw [va_up_self, mfv_i h, va_up_self]
  · rw [va_up_ne _ _ e]; unfold mfv; rw [va_up_ne _ _ e]
theorem mI.put {G : GT} {h0 : Nat} {ad ln : Nat → Nat} {v : Nat → Int} {a : Nat → Nat → Int} {L : List Nat} {E : Nat → va_E} {k : Nat} {z : Int} (h : mI G h0 ad ln v a L E) (hk : mA k = false) : mI G h0 ad ln (va_up v k z) a L (va_up E h0 (ob 13 67 (va_up (mfv ad v) k (.int (iI z))))) := by
  obtain ⟨h1, h2, h3, h4, h5, h6⟩ := h
  refine ⟨h1, by rw [va_up_self, mfv_put hk], fun j hj => ⟨(h3 j hj).1, ?_⟩, h4, h5, h6⟩
  rw [va_up_ne _ _ (Ne.symm (h4 j hj))]; exact (h3 j hj).2
theorem mI.set {G : GT} {h0 : Nat} {ad ln : Nat → Nat} {v : Nat → Int} {a : Nat → Nat → Int} {L : List Nat} {E : Nat → va_E} {k i : Nat} {z : Int} (h : mI G h0 ad ln v a L E) (hk : mA k = true) {x : va_E} (hx : x = mar G (ln k) k (up2 a k i z k)) : mI G h0 ad ln v (up2 a k i z) L (va_up E (ad k) x) := by
  obtain ⟨h1, h2, h3, h4, h5, h6⟩ := h
  refine ⟨h1, by rw [va_up_ne _ _ (h4 k hk)]; exact h2, fun j hj => ⟨(h3 j hj).1, ?_⟩, h4, h5, h6⟩
  by_cases e : j = k
  · subst e; rw [va_up_self, hx]
  · rw [va_up_ne _ _ (fun q => e (h5 j k hj hk q)), (h3 j hj).2]
    have : up2 a k i z j = a j := by funext q; unfold up2; rw [if_neg e]
    rw [this]
theorem up2_s {a : Nat → Nat → Int} {k i : Nat} {z : Int} : up2 a k i z k i = z := by unfold up2; rw [if_pos rfl, if_pos rfl]
theorem up2_k {a : Nat → Nat → Int} {k i k2 j : Nat} {z : Int} (h : k2 ≠ k) : up2 a k i z k2 j = a k2 j := by unfold up2; rw [if_neg h]
theorem up2_j {a : Nat → Nat → Int} {k i k2 j : Nat} {z : Int} (h : j ≠ i) : up2 a k i z k2 j = a k2 j := by
  unfold up2; simp [h]
def mw (p : Program) (l : Launch) (e : Env) (R : Room) (s : State) (m : MethodId) (args : Array Value) (below : List Frame) (meth : Method) (c : Code) (G : GT) (A : Nat → Prop) (nL : Nat) (Q : State → Prop) (h0 : Nat) (ad ln : Nat → Nat) (v : Nat → Int) (a : Nat → Nat → Int) (kc ks pc : Nat) (lv : List (Nat × Value)) (st : List Value) : Prop := ∀ (L : List Nat) (E : Nat → va_E), mI G h0 ad ln v a L E → wq p l e R s m args below meth c G A nL Q L E kc ks pc lv st
def Mm (l : Launch) (G : GT) (y : MethodName) (cc : ByteArray) (n : Nat) (ret : Option FieldType) (d : Nat) (As : List Value) (h0 : Nat) (ad ln : Nat → Nat) (v : Nat → Int) (a : Nat → Nat → Int) (mc ms : Nat) (Post : Option Value → (Nat → Int) → (Nat → Nat → Int) → Prop) : Prop := ∀ (L : List Nat) (E : Nat → va_E), mI G h0 ad ln v a L E → Mq l G y cc n ret d (.ref h0 :: As) L E mc ms (fun r L2 E2 => ∃ (v2 : Nat → Int) (a2 : Nat → Nat → Int), mI G h0 ad ln v2 a2 L2 E2 ∧ Post r v2 a2)
section MQ2
variable {p : Program} {l : Launch} {e : Env} {R : Room} {s : State} {m : MethodId} {args : Array Value} {below : List Frame} {meth : Method} {c : Code} {cc : ByteArray} {y : MethodName} {ret : Option FieldType} {G : GT} {A : Nat → Prop} {nL mc ms : Nat} {Q : State → Prop} {Post : Option Value → (Nat → Int) → (Nat → Nat → Int) → Prop} {h0 : Nat} {ad ln : Nat → Nat} {v : Nat → Int} {a : Nat → Nat → Int} {kc ks pc : Nat} {lv : List (Nat × Value)} {st : List Value}
theorem m_iconst (C : Cq p s m args meth c cc y ret G A nL) {n : Int} (d : decode cc pc = .ok (.iconst n, 1))  (k : mw p l e R s m args below meth c G A nL Q h0 ad ln v a kc ks (pc + 1) lv (.int (iI n) :: st)) : mw p l e R s m args below meth c G A nL Q h0 ad ln v a kc ks pc lv st := fun L E h => q_iconst C d rfl (k L E h)
theorem m_bipush (C : Cq p s m args meth c cc y ret G A nL) {n z : Int} (d : decode cc pc = .ok (.bipush n, 2)) (hz : (Int8.ofInt n).toInt32 = iI z) (k : mw p l e R s m args below meth c G A nL Q h0 ad ln v a kc ks (pc + 2) lv (.int (iI z) :: st)) : mw p l e R s m args below meth c G A nL Q h0 ad ln v a kc ks pc lv st := fun L E h => q_bipush C d hz (k L E h)
theorem m_sipush (C : Cq p s m args meth c cc y ret G A nL) {n z : Int} (d : decode cc pc = .ok (.sipush n, 3)) (hz : (Int16.ofInt n).toInt32 = iI z) (k : mw p l e R s m args below meth c G A nL Q h0 ad ln v a kc ks (pc + 3) lv (.int (iI z) :: st)) : mw p l e R s m args below meth c G A nL Q h0 ad ln v a kc ks pc lv st := fun L E h => q_sipush C d hz (k L E h)
theorem m_iload_n (C : Cq p s m args meth c cc y ret G A nL) {i : Fin 4} {j : Nat} {x : Int32} (d : decode cc pc = .ok (.iload_n i, 1)) (hj : lv[j]? = some ((i : Nat), .int x)) (k : mw p l e R s m args below meth c G A nL Q h0 ad ln v a kc ks (pc + 1) lv (.int x :: st)) : mw p l e R s m args below meth c G A nL Q h0 ad ln v a kc ks pc lv st := fun L E h => q_iload_n C d hj (k L E h)
theorem m_iload (C : Cq p s m args meth c cc y ret G A nL) {i j : Nat} {x : Int32} (d : decode cc pc = .ok (.iload i, 2)) (hj : lv[j]? = some (i, .int x)) (k : mw p l e R s m args below meth c G A nL Q h0 ad ln v a kc ks (pc + 2) lv (.int x :: st)) : mw p l e R s m args below meth c G A nL Q h0 ad ln v a kc ks pc lv st := fun L E h => q_iload C d hj (k L E h)
theorem m_aload_n (C : Cq p s m args meth c cc y ret G A nL) {i : Fin 4} {j : Nat} {x : Nat} (d : decode cc pc = .ok (.aload_n i, 1)) (hj : lv[j]? = some ((i : Nat), .ref x)) (k : mw p l e R s m args below meth c G A nL Q h0 ad ln v a kc ks (pc + 1) lv (.ref x :: st)) : mw p l e R s m args below meth c G A nL Q h0 ad ln v a kc ks pc lv st := fun L E h => q_aload_n C d hj (k L E h)
theorem m_lload (C : Cq p s m args meth c cc y ret G A nL) {i j : Nat} {x : Int64} (d : decode cc pc = .ok (.lload i, 2)) (hj : lv[j]? = some (i, .long x)) (k : mw p l e R s m args below meth c G A nL Q h0 ad ln v a kc ks (pc + 2) lv (.long x :: st)) : mw p l e R s m args below meth c G A nL Q h0 ad ln v a kc ks pc lv st := fun L E h => q_lload C d hj (k L E h)
theorem m_istore_n (C : Cq p s m args meth c cc y ret G A nL) {i : Fin 4} {x : Int32} {lv2 : List (Nat × Value)} (d : decode cc pc = .ok (.istore_n i, 1)) (hn : (i : Nat) < nL) (hl : ((i : Nat), Value.int x) :: lv.filter (fun q => !(q.1 == (i : Nat)) && !(q.1 + 1 == (i : Nat) && q.2.category == 2)) = lv2) (k : mw p l e R s m args below meth c G A nL Q h0 ad ln v a kc ks (pc + 1) lv2 st) : mw p l e R s m args below meth c G A nL Q h0 ad ln v a kc ks pc lv (Value.int x :: st) := fun L E h => q_istore_n C d hn hl (k L E h)
theorem m_istore (C : Cq p s m args meth c cc y ret G A nL) {i : Nat} {x : Int32} {lv2 : List (Nat × Value)} (d : decode cc pc = .ok (.istore i, 2)) (hn : i < nL) (hl : (i, Value.int x) :: lv.filter (fun q => !(q.1 == i) && !(q.1 + 1 == i && q.2.category == 2)) = lv2) (k : mw p l e R s m args below meth c G A nL Q h0 ad ln v a kc ks (pc + 2) lv2 st) : mw p l e R s m args below meth c G A nL Q h0 ad ln v a kc ks pc lv (Value.int x :: st) := fun L E h => q_istore C d hn hl (k L E h)
theorem m_lstore (C : Cq p s m args meth c cc y ret G A nL) {i : Nat} {x : Int64} {lv2 : List (Nat × Value)} (d : decode cc pc = .ok (.lstore i, 2)) (hn : i + 1 < nL) (hl : (i, Value.long x) :: lv.filter (fun q => !(q.1 == i) && (!(q.1 == i + 1) && !(q.1 + 1 == i && q.2.category == 2))) = lv2) (k : mw p l e R s m args below meth c G A nL Q h0 ad ln v a kc ks (pc + 2) lv2 st) : mw p l e R s m args below meth c G A nL Q h0 ad ln v a kc ks pc lv (Value.long x :: st) := fun L E h => q_lstore C d hn hl (k L E h)
theorem m_iinc (C : Cq p s m args meth c cc y ret G A nL) {i j : Nat} {n z : Int} {lv2 : List (Nat × Value)} (d : decode cc pc = .ok (.iinc i n, 3)) (hj : lv[j]? = some (i, .int (iI z))) (hn : i < nL) (hl : (i, Value.int (iI (z + n))) :: lv.filter (fun q => !(q.1 == i) && !(q.1 + 1 == i && q.2.category == 2)) = lv2) (k : mw p l e R s m args below meth c G A nL Q h0 ad ln v a kc ks (pc + 3) lv2 st) : mw p l e R s m args below meth c G A nL Q h0 ad ln v a kc ks pc lv st := fun L E h => q_iinc C d hj (Int32.ofInt_add z n).symm hn hl (k L E h)
theorem m_iadd (C : Cq p s m args meth c cc y ret G A nL) {x z : Int} (d : decode cc pc = .ok (.iadd, 1))  (k : mw p l e R s m args below meth c G A nL Q h0 ad ln v a kc ks (pc + 1) lv (.int (iI (x + z)) :: st)) : mw p l e R s m args below meth c G A nL Q h0 ad ln v a kc ks pc lv (.int (iI z) :: .int (iI x) :: st) := fun L E h => q_iadd C d (Int32.ofInt_add x z).symm (k L E h)
theorem m_isub (C : Cq p s m args meth c cc y ret G A nL) {x z : Int} (d : decode cc pc = .ok (.isub, 1))  (k : mw p l e R s m args below meth c G A nL Q h0 ad ln v a kc ks (pc + 1) lv (.int (iI (x - z)) :: st)) : mw p l e R s m args below meth c G A nL Q h0 ad ln v a kc ks pc lv (.int (iI z) :: .int (iI x) :: st) := fun L E h => q_isub C d (Int32.ofInt_sub x z).symm (k L E h)
theorem m_imul (C : Cq p s m args meth c cc y ret G A nL) {x z : Int} (d : decode cc pc = .ok (.imul, 1))  (k : mw p l e R s m args below meth c G A nL Q h0 ad ln v a kc ks (pc + 1) lv (.int (iI (x * z)) :: st)) : mw p l e R s m args below meth c G A nL Q h0 ad ln v a kc ks pc lv (.int (iI z) :: .int (iI x) :: st) := fun L E h => q_imul C d (Int32.ofInt_mul x z).symm (k L E h)
theorem m_iand (C : Cq p s m args meth c cc y ret G A nL) {x y2 w : Int32} (d : decode cc pc = .ok (.iand, 1)) (hv : x &&& y2 = w) (k : mw p l e R s m args below meth c G A nL Q h0 ad ln v a kc ks (pc + 1) lv (.int w :: st)) : mw p l e R s m args below meth c G A nL Q h0 ad ln v a kc ks pc lv (.int y2 :: .int x :: st) := fun L E h => q_iand C d hv (k L E h)
theorem m_ior (C : Cq p s m args meth c cc y ret G A nL) {x y2 w : Int32} (d : decode cc pc = .ok (.ior, 1)) (hv : x ||| y2 = w) (k : mw p l e R s m args below meth c G A nL Q h0 ad ln v a kc ks (pc + 1) lv (.int w :: st)) : mw p l e R s m args below meth c G A nL Q h0 ad ln v a kc ks pc lv (.int y2 :: .int x :: st) := fun L E h => q_ior C d hv (k L E h)
theorem m_ixor (C : Cq p s m args meth c cc y ret G A nL) {x y2 w : Int32} (d : decode cc pc = .ok (.ixor, 1)) (hv : x ^^^ y2 = w) (k : mw p l e R s m args below meth c G A nL Q h0 ad ln v a kc ks (pc + 1) lv (.int w :: st)) : mw p l e R s m args below meth c G A nL Q h0 ad ln v a kc ks pc lv (.int y2 :: .int x :: st) := fun L E h => q_ixor C d hv (k L E h)
theorem m_ishl (C : Cq p s m args meth c cc y ret G A nL) {x y2 w : Int32} (d : decode cc pc = .ok (.ishl, 1)) (hv : x <<< (y2 &&& 31) = w) (k : mw p l e R s m args below meth c G A nL Q h0 ad ln v a kc ks (pc + 1) lv (.int w :: st)) : mw p l e R s m args below meth c G A nL Q h0 ad ln v a kc ks pc lv (.int y2 :: .int x :: st) := fun L E h => q_ishl C d hv (k L E h)
theorem m_ishr (C : Cq p s m args meth c cc y ret G A nL) {x y2 w : Int32} (d : decode cc pc = .ok (.ishr, 1)) (hv : x >>> (y2 &&& 31) = w) (k : mw p l e R s m args below meth c G A nL Q h0 ad ln v a kc ks (pc + 1) lv (.int w :: st)) : mw p l e R s m args below meth c G A nL Q h0 ad ln v a kc ks pc lv (.int y2 :: .int x :: st) := fun L E h => q_ishr C d hv (k L E h)
theorem m_idiv (C : Cq p s m args meth c cc y ret G A nL) {x y2 w : Int32} (d : decode cc pc = .ok (.idiv, 1)) (hne : ¬ y2 = 0) (hv : x / y2 = w) (k : mw p l e R s m args below meth c G A nL Q h0 ad ln v a kc ks (pc + 1) lv (.int w :: st)) : mw p l e R s m args below meth c G A nL Q h0 ad ln v a kc ks pc lv (.int y2 :: .int x :: st) := fun L E h => q_idiv C d hne hv (k L E h)
theorem m_ineg (C : Cq p s m args meth c cc y ret G A nL) {z : Int} (d : decode cc pc = .ok (.ineg, 1))  (k : mw p l e R s m args below meth c G A nL Q h0 ad ln v a kc ks (pc + 1) lv (.int (iI (-z)) :: st)) : mw p l e R s m args below meth c G A nL Q h0 ad ln v a kc ks pc lv (.int (iI z) :: st) := fun L E h => q_ineg C d (Int32.ofInt_neg z).symm (k L E h)
theorem m_dup (C : Cq p s m args meth c cc y ret G A nL) {u : Value} (d : decode cc pc = .ok (.dup, 1)) (hu : u.category = 1) (k : mw p l e R s m args below meth c G A nL Q h0 ad ln v a kc ks (pc + 1) lv (u :: u :: st)) : mw p l e R s m args below meth c G A nL Q h0 ad ln v a kc ks pc lv (u :: st) := fun L E h => q_dup C d hu (k L E h)
theorem m_dup2 (C : Cq p s m args meth c cc y ret G A nL) {u w : Value} (d : decode cc pc = .ok (.dup2, 1)) (hu : u.category = 1) (hw : w.category = 1) (k : mw p l e R s m args below meth c G A nL Q h0 ad ln v a kc ks (pc + 1) lv (u :: w :: u :: w :: st)) : mw p l e R s m args below meth c G A nL Q h0 ad ln v a kc ks pc lv (u :: w :: st) := fun L E h => q_dup2 C d hu hw (k L E h)
theorem m_i2l (C : Cq p s m args meth c cc y ret G A nL) {x : Int32} {w : Int64} (d : decode cc pc = .ok (.i2l, 1)) (hv : x.toInt64 = w) (k : mw p l e R s m args below meth c G A nL Q h0 ad ln v a kc ks (pc + 1) lv (.long w :: st)) : mw p l e R s m args below meth c G A nL Q h0 ad ln v a kc ks pc lv (.int x :: st) := fun L E h => q_i2l C d hv (k L E h)
theorem m_l2i (C : Cq p s m args meth c cc y ret G A nL) {x : Int64} {w : Int32} (d : decode cc pc = .ok (.l2i, 1)) (hv : x.toInt32 = w) (k : mw p l e R s m args below meth c G A nL Q h0 ad ln v a kc ks (pc + 1) lv (.int w :: st)) : mw p l e R s m args below meth c G A nL Q h0 ad ln v a kc ks pc lv (.long x :: st) := fun L E h => q_l2i C d hv (k L E h)
theorem m_ladd (C : Cq p s m args meth c cc y ret G A nL) {x y2 w : Int64} (d : decode cc pc = .ok (.ladd, 1)) (hv : x + y2 = w) (k : mw p l e R s m args below meth c G A nL Q h0 ad ln v a kc ks (pc + 1) lv (.long w :: st)) : mw p l e R s m args below meth c G A nL Q h0 ad ln v a kc ks pc lv (.long y2 :: .long x :: st) := fun L E h => q_ladd C d hv (k L E h)
theorem m_lconst (C : Cq p s m args meth c cc y ret G A nL) {n : Fin 2} {w : Int64} (d : decode cc pc = .ok (.lconst n, 1)) (hv : Int64.ofNat (n : Nat) = w) (k : mw p l e R s m args below meth c G A nL Q h0 ad ln v a kc ks (pc + 1) lv (.long w :: st)) : mw p l e R s m args below meth c G A nL Q h0 ad ln v a kc ks pc lv st := fun L E h => q_lconst C d hv (k L E h)
theorem m_lcmp (C : Cq p s m args meth c cc y ret G A nL) {x y2 : Int64} {w : Int32} (d : decode cc pc = .ok (.lcmp, 1)) (hv : lg_cmp x y2 = w) (k : mw p l e R s m args below meth c G A nL Q h0 ad ln v a kc ks (pc + 1) lv (.int w :: st)) : mw p l e R s m args below meth c G A nL Q h0 ad ln v a kc ks pc lv (.long y2 :: .long x :: st) := fun L E h => q_lcmp C d hv (k L E h)
theorem m_goto (C : Cq p s m args meth c cc y ret G A nL) {off : Int} {tgt : Nat} (d : decode cc pc = .ok (.goto off, 3)) (ht : (pc : Int) + off = (tgt : Int)) (k : mw p l e R s m args below meth c G A nL Q h0 ad ln v a kc ks tgt lv st) : mw p l e R s m args below meth c G A nL Q h0 ad ln v a kc ks pc lv st := fun L E h => q_goto C d ht (k L E h)
theorem m_icmp_eq (C : Cq p s m args meth c cc y ret G A nL) {x z off : Int} {tgt : Nat} (hx : R32 x) (hz : R32 z) (d : decode cc pc = .ok (.if_icmp .eq off, 3)) (ht : (pc : Int) + off = (tgt : Int)) (kt : x = z → mw p l e R s m args below meth c G A nL Q h0 ad ln v a kc ks tgt lv st) (kf : ¬ x = z → mw p l e R s m args below meth c G A nL Q h0 ad ln v a kc ks (pc + 3) lv st) : mw p l e R s m args below meth c G A nL Q h0 ad ln v a kc ks pc lv (.int (iI z) :: .int (iI x) :: st) := fun L E h => q_icmp_eq C d ht (fun q => kt ((iI_eq hx hz).mp q) L E h) (fun q => kf (fun r => q ((iI_eq hx hz).mpr r)) L E h)
theorem m_if_eq (C : Cq p s m args meth c cc y ret G A nL) {x off : Int} {tgt : Nat} (hx : R32 x) (d : decode cc pc = .ok (.ifCond .eq off, 3)) (ht : (pc : Int) + off = (tgt : Int)) (kt : x = 0 → mw p l e R s m args below meth c G A nL Q h0 ad ln v a kc ks tgt lv st) (kf : ¬ x = 0 → mw p l e R s m args below meth c G A nL Q h0 ad ln v a kc ks (pc + 3) lv st) : mw p l e R s m args below meth c G A nL Q h0 ad ln v a kc ks pc lv (.int (iI x) :: st) := fun L E h => q_if_eq C d ht (fun q => kt ((iI_eq hx R32_0).mp q) L E h) (fun q => kf (fun r => q ((iI_eq hx R32_0).mpr r)) L E h)
theorem m_icmp_ne (C : Cq p s m args meth c cc y ret G A nL) {x z off : Int} {tgt : Nat} (hx : R32 x) (hz : R32 z) (d : decode cc pc = .ok (.if_icmp .ne off, 3)) (ht : (pc : Int) + off = (tgt : Int)) (kt : ¬ x = z → mw p l e R s m args below meth c G A nL Q h0 ad ln v a kc ks tgt lv st) (kf : x = z → mw p l e R s m args below meth c G A nL Q h0 ad ln v a kc ks (pc + 3) lv st) : mw p l e R s m args below meth c G A nL Q h0 ad ln v a kc ks pc lv (.int (iI z) :: .int (iI x) :: st) := fun L E h => q_icmp_ne C d ht (fun q => kt (fun r => q ((iI_eq hx hz).mpr r)) L E h) (fun q => kf ((iI_eq hx hz).mp q) L E h)
theorem m_if_ne (C : Cq p s m args meth c cc y ret G A nL) {x off : Int} {tgt : Nat} (hx : R32 x) (d : decode cc pc = .ok (.ifCond .ne off, 3)) (ht : (pc : Int) + off = (tgt : Int)) (kt : ¬ x = 0 → mw p l e R s m args below meth c G A nL Q h0 ad ln v a kc ks tgt lv st) (kf : x = 0 → mw p l e R s m args below meth c G A nL Q h0 ad ln v a kc ks (pc + 3) lv st) : mw p l e R s m args below meth c G A nL Q h0 ad ln v a kc ks pc lv (.int (iI x) :: st) := fun L E h => q_if_ne C d ht (fun q => kt (fun r => q ((iI_eq hx R32_0).mpr r)) L E h) (fun q => kf ((iI_eq hx R32_0).mp q) L E h)
theorem m_icmp_lt (C : Cq p s m args meth c cc y ret G A nL) {x z off : Int} {tgt : Nat} (hx : R32 x) (hz : R32 z) (d : decode cc pc = .ok (.if_icmp .lt off, 3)) (ht : (pc : Int) + off = (tgt : Int)) (kt : x < z → mw p l e R s m args below meth c G A nL Q h0 ad ln v a kc ks tgt lv st) (kf : ¬ x < z → mw p l e R s m args below meth c G A nL Q h0 ad ln v a kc ks (pc + 3) lv st) : mw p l e R s m args below meth c G A nL Q h0 ad ln v a kc ks pc lv (.int (iI z) :: .int (iI x) :: st) := fun L E h => q_icmp_lt C d ht (fun q => kt ((iI_lt hx hz).mp q) L E h) (fun q => kf (fun r => q ((iI_lt hx hz).mpr r)) L E h)
theorem m_if_lt (C : Cq p s m args meth c cc y ret G A nL) {x off : Int} {tgt : Nat} (hx : R32 x) (d : decode cc pc = .ok (.ifCond .lt off, 3)) (ht : (pc : Int) + off = (tgt : Int)) (kt : x < 0 → mw p l e R s m args below meth c G A nL Q h0 ad ln v a kc ks tgt lv st) (kf : ¬ x < 0 → mw p l e R s m args below meth c G A nL Q h0 ad ln v a kc ks (pc + 3) lv st) : mw p l e R s m args below meth c G A nL Q h0 ad ln v a kc ks pc lv (.int (iI x) :: st) := fun L E h => q_if_lt C d ht (fun q => kt ((iI_lt hx R32_0).mp q) L E h) (fun q => kf (fun r => q ((iI_lt hx R32_0).mpr r)) L E h)
theorem m_icmp_ge (C : Cq p s m args meth c cc y ret G A nL) {x z off : Int} {tgt : Nat} (hx : R32 x) (hz : R32 z) (d : decode cc pc = .ok (.if_icmp .ge off, 3)) (ht : (pc : Int) + off = (tgt : Int)) (kt : z ≤ x → mw p l e R s m args below meth c G A nL Q h0 ad ln v a kc ks tgt lv st) (kf : ¬ z ≤ x → mw p l e R s m args below meth c G A nL Q h0 ad ln v a kc ks (pc + 3) lv st) : mw p l e R s m args below meth c G A nL Q h0 ad ln v a kc ks pc lv (.int (iI z) :: .int (iI x) :: st) := fun L E h => q_icmp_ge C d ht (fun q => kt ((iI_le hz hx).mp q) L E h) (fun q => kf (fun r => q ((iI_le hz hx).mpr r)) L E h)
theorem m_if_ge (C : Cq p s m args meth c cc y ret G A nL) {x off : Int} {tgt : Nat} (hx : R32 x) (d : decode cc pc = .ok (.ifCond .ge off, 3)) (ht : (pc : Int) + off = (tgt : Int)) (kt : 0 ≤ x → mw p l e R s m args below meth c G A nL Q h0 ad ln v a kc ks tgt lv st) (kf : ¬ 0 ≤ x → mw p l e R s m args below meth c G A nL Q h0 ad ln v a kc ks (pc + 3) lv st) : mw p l e R s m args below meth c G A nL Q h0 ad ln v a kc ks pc lv (.int (iI x) :: st) := fun L E h => q_if_ge C d ht (fun q => kt ((iI_le R32_0 hx).mp q) L E h) (fun q => kf (fun r => q ((iI_le R32_0 hx).mpr r)) L E h)
theorem m_icmp_gt (C : Cq p s m args meth c cc y ret G A nL) {x z off : Int} {tgt : Nat} (hx : R32 x) (hz : R32 z) (d : decode cc pc = .ok (.if_icmp .gt off, 3)) (ht : (pc : Int) + off = (tgt : Int)) (kt : z < x → mw p l e R s m args below meth c G A nL Q h0 ad ln v a kc ks tgt lv st) (kf : ¬ z < x → mw p l e R s m args below meth c G A nL Q h0 ad ln v a kc ks (pc + 3) lv st) : mw p l e R s m args below meth c G A nL Q h0 ad ln v a kc ks pc lv (.int (iI z) :: .int (iI x) :: st) := fun L E h => q_icmp_gt C d ht (fun q => kt ((iI_lt hz hx).mp q) L E h) (fun q => kf (fun r => q ((iI_lt hz hx).mpr r)) L E h)
theorem m_icmp_le (C : Cq p s m args meth c cc y ret G A nL) {x z off : Int} {tgt : Nat} (hx : R32 x) (hz : R32 z) (d : decode cc pc = .ok (.if_icmp .le off, 3)) (ht : (pc : Int) + off = (tgt : Int)) (kt : x ≤ z → mw p l e R s m args below meth c G A nL Q h0 ad ln v a kc ks tgt lv st) (kf : ¬ x ≤ z → mw p l e R s m args below meth c G A nL Q h0 ad ln v a kc ks (pc + 3) lv st) : mw p l e R s m args below meth c G A nL Q h0 ad ln v a kc ks pc lv (.int (iI z) :: .int (iI x) :: st) := fun L E h => q_icmp_le C d ht (fun q => kt ((iI_le hx hz).mp q) L E h) (fun q => kf (fun r => q ((iI_le hx hz).mpr r)) L E h)
theorem m_if_le (C : Cq p s m args meth c cc y ret G A nL) {x off : Int} {tgt : Nat} (hx : R32 x) (d : decode cc pc = .ok (.ifCond .le off, 3)) (ht : (pc : Int) + off = (tgt : Int)) (kt : x ≤ 0 → mw p l e R s m args below meth c G A nL Q h0 ad ln v a kc ks tgt lv st) (kf : ¬ x ≤ 0 → mw p l e R s m args below meth c G A nL Q h0 ad ln v a kc ks (pc + 3) lv st) : mw p l e R s m args below meth c G A nL Q h0 ad ln v a kc ks pc lv (.int (iI x) :: st) := fun L E h => q_if_le C d ht (fun q => kt ((iI_le hx R32_0).mp q) L E h) (fun q => kf (fun r => q ((iI_le hx R32_0).mpr r)) L E h)
theorem m_get (C : Cq p s m args meth c cc y ret G A nL) {k idx : Nat} (d : decode cc pc = .ok (.getfield idx, 3)) (lk : Cond.fieldLink y.cls idx (TX12 k).1 (TX12 k).2.1 (TX12 k).2.2.1 ∈ lw_g) (hk : k < 67) (hA : mA k = false) (kk : mw p l e R s m args below meth c G A nL Q h0 ad ln v a kc ks (pc + 3) lv (.int (iI (v k)) :: st)) : mw p l e R s m args below meth c G A nL Q h0 ad ln v a kc ks pc lv (.ref h0 :: st) := fun L E h => q_get (k := k) C ck_13 d lk hk h.1 h.2.1 (mfv_i hA) (kk L E h)
theorem m_geta (C : Cq p s m args meth c cc y ret G A nL) {k idx : Nat} (d : decode cc pc = .ok (.getfield idx, 3)) (lk : Cond.fieldLink y.cls idx (TX12 k).1 (TX12 k).2.1 (TX12 k).2.2.1 ∈ lw_g) (hk : k < 67) (hA : mA k = true) (kk : mw p l e R s m args below meth c G A nL Q h0 ad ln v a kc ks (pc + 3) lv (.ref (ad k) :: st)) : mw p l e R s m args below meth c G A nL Q h0 ad ln v a kc ks pc lv (.ref h0 :: st) := fun L E h => q_get (k := k) C ck_13 d lk hk h.1 h.2.1 (mfv_a hA) (kk L E h)
theorem m_put (C : Cq p s m args meth c cc y ret G A nL) {k idx : Nat} {z : Int} (d : decode cc pc = .ok (.putfield idx, 3)) (lk : Cond.fieldLink y.cls idx (TX12 k).1 (TX12 k).2.1 (TX12 k).2.2.1 ∈ lw_g) (hk : k < 67) (hA : mA k = false) (hf : (TX12 k).2.2.2 = false) (ht : tyX12 k = .int) (kk : mw p l e R s m args below meth c G A nL Q h0 ad ln (va_up v k z) a kc ks (pc + 3) lv st) : mw p l e R s m args below meth c G A nL Q h0 ad ln v a kc ks pc lv (.int (iI z) :: .ref h0 :: st) := fun L E h => q_put (k := k) C ck_13 d lk hk hf h.1 h.2.1 (by rw [ht]; rfl) (by rw [ht]; rfl) (kk L _ (h.put hA))
theorem m_ald (C : Cq p s m args meth c cc y ret G A nL) {k : Nat} {z : Int} (d : decode cc pc = .ok (.iaload, 1)) (hA : mA k = true) (hZ : mZ k = false) (h18 : k ≠ 18) (h1 : 0 ≤ z) (h2 : z < (mlen k : Nat)) (hm : mlen k ≤ 100000) (kk : mw p l e R s m args below meth c G A nL Q h0 ad ln v a kc ks (pc + 1) lv (.int (iI (a k z.toNat)) :: st)) : mw p l e R s m args below meth c G A nL Q h0 ad ln v a kc ks pc lv (.int (iI z) :: .ref (ad k) :: st) := by
  intro L E h
  refine hv2 (show R32 z from ⟨by omega, by omega⟩) ((h.2.2.1 k hA).2) (fun hr hE => ?_)
  unfold mar at hE
  rw [hZ, if_neg (by decide), h.2.2.2.2.2.1 k h18] at hE
  exact q_iald C d (h.2.2.1 k hA).1 hE (iI_in hr h1 h2) (by rw [iI_cl hr]) (kk L E h)
theorem m_zald (C : Cq p s m args meth c cc y ret G A nL) {k : Nat} {z : Int} (d : decode cc pc = .ok (.baload, 1)) (hA : mA k = true) (hZ : mZ k = true) (h18 : k ≠ 18) (h1 : 0 ≤ z) (h2 : z < (mlen k : Nat)) (hm : mlen k ≤ 100000) (kk : mw p l e R s m args below meth c G A nL Q h0 ad ln v a kc ks (pc + 1) lv (.int (iI (a k z.toNat)) :: st)) : mw p l e R s m args below meth c G A nL Q h0 ad ln v a kc ks pc lv (.int (iI z) :: .ref (ad k) :: st) := by
  intro L E h
  refine hv2 (show R32 z from ⟨by omega, by omega⟩) ((h.2.2.1 k hA).2) (fun hr hE => ?_)
  unfold mar at hE
  rw [hZ, if_pos rfl, h.2.2.2.2.2.1 k h18] at hE
  exact q_zald C d (h.2.2.1 k hA).1 hE (iI_in hr h1 h2) (by rw [iI_cl hr]) (kk L E h)
theorem m_ast (C : Cq p s m args meth c cc y ret G A nL) {k : Nat} {z w : Int} (d : decode cc pc = .ok (.iastore, 1)) (hA : mA k = true) (hZ : mZ k = false) (h18 : k ≠ 18) (h1 : 0 ≤ z) (h2 : z < (mlen k : Nat)) (hm : mlen k ≤ 100000) (kk : mw p l e R s m args below meth c G A nL Q h0 ad ln v (up2 a k z.toNat w) kc ks (pc + 1) lv st) : mw p l e R s m args below meth c G A nL Q h0 ad ln v a kc ks pc lv (.int (iI w) :: .int (iI z) :: .ref (ad k) :: st) := by
  intro L E h
  refine hv2 (show R32 z from ⟨by omega, by omega⟩) ((h.2.2.1 k hA).2) (fun hr hE => ?_)
  have hE2 := hE
  unfold mar at hE
  rw [hZ, if_neg (by decide)] at hE
  refine q_iast C d (h.2.2.1 k hA).1 hE (by rw [h.2.2.2.2.2.1 k h18]; exact iI_in hr h1 h2) (kk L _ (h.set hA ?_))
  unfold mar
  rw [hZ, if_neg (by decide), iI_cl hr]
  congr 1
  funext j
  unfold upd up2
  rw [if_pos rfl]
  split <;> rfl
theorem m_st {st2 : List Value} (h : st = st2) (k : mw p l e R s m args below meth c G A nL Q h0 ad ln v a kc ks pc lv st2) : mw p l e R s m args below meth c G A nL Q h0 ad ln v a kc ks pc lv st := by subst h; exact k
theorem m_iret (C : Cq p s m args meth c cc y ret G A nL) {z : Int} (d : decode cc pc = .ok (.ireturn, 1)) (hr : ret = some .int) (h1 : kc ≤ mc) (h2 : ks ≤ ms) (hp : Post (some (.int (iI z))) v a) : mw p l e R s m args below meth c G A nL (MQ below (Qm G A (fun r L2 E2 => ∃ (v2 : Nat → Int) (a2 : Nat → Nat → Int), mI G h0 ad ln v2 a2 L2 E2 ∧ Post r v2 a2)) args s mc ms A) h0 ad ln v a kc ks pc lv [.int (iI z)] := fun L E h => q_iret C d hr h1 h2 ⟨v, a, h, hp⟩
theorem m_zret (C : Cq p s m args meth c cc y ret G A nL) {z : Int} (d : decode cc pc = .ok (.ireturn, 1)) (hr : ret = some .boolean) (hz : z = 0 ∨ z = 1) (h1 : kc ≤ mc) (h2 : ks ≤ ms) (hp : Post (some (.int (iI z))) v a) : mw p l e R s m args below meth c G A nL (MQ below (Qm G A (fun r L2 E2 => ∃ (v2 : Nat → Int) (a2 : Nat → Nat → Int), mI G h0 ad ln v2 a2 L2 E2 ∧ Post r v2 a2)) args s mc ms A) h0 ad ln v a kc ks pc lv [.int (iI z)] := fun L E h => q_zret C d hr (by rcases hz with rfl | rfl <;> decide) h1 h2 ⟨v, a, h, hp⟩
theorem m_vret (C : Cq p s m args meth c cc y ret G A nL) (d : decode cc pc = .ok (.return_, 1)) (hr : ret = none) (h1 : kc ≤ mc) (h2 : ks ≤ ms) (hp : Post none v a) : mw p l e R s m args below meth c G A nL (MQ below (Qm G A (fun r L2 E2 => ∃ (v2 : Nat → Int) (a2 : Nat → Nat → Int), mI G h0 ad ln v2 a2 L2 E2 ∧ Post r v2 a2)) args s mc ms A) h0 ad ln v a kc ks pc lv [] := fun L E h => q_vret C d hr h1 h2 ⟨v, a, h, hp⟩
theorem Mm.mk {n d : Nat} {As : List Value} (hy : plainName y.cls = true) (hn : (lg_sl (.ref h0 :: As)).length ≤ n) (body : ∀ (p : Program) (e : Env) (s : State) (m : MethodId) (args : Array Value) (below : List Frame) (meth : Method) (c : Code) (A : Nat → Prop), Cq p s m args meth c cc y ret G A n → mw p l e (rmq d mc ms) s m args below meth c G A n (MQ below (Qm G A (fun r L2 E2 => ∃ (v2 : Nat → Int) (a2 : Nat → Nat → Int), mI G h0 ad ln v2 a2 L2 E2 ∧ Post r v2 a2)) args s mc ms A) h0 ad ln v a 0 0 0 (lv_args 0 (.ref h0 :: As)) []) : Mm l G y cc n ret d As h0 ad ln v a mc ms Post := fun L E h => Mq.mk hy hn (fun p e s m args below meth c A C => body p e s m args below meth c A C L E h)
theorem m_call (C : Cq p s m args meth c cc y ret G A nL) {y2 : MethodName} {cc2 : ByteArray} {n2 d2 mc2 ms2 idx k2 : Nat} {ret2 : Option FieldType} {P2 : Option Value → (Nat → Int) → (Nat → Nat → Int) → Prop} {As rest : List Value} (M : Mm l G y2 cc2 n2 ret2 d2 As h0 ad ln v a mc2 ms2 P2) (d : decode cc pc = .ok (.invokevirtual idx, 3)) (hw : Wv y.cls idx y2 cc2 n2 ret2 k2) (hk : As.length = k2) (ck : Ck 13 y2.cls TX12 67 tyX12) (hst : st = As.reverse ++ .ref h0 :: rest) (hcat : (rest.map fun v => v.category).sum ≤ 8) (hR : d2 + 1 ≤ R.frames ∧ 8 + (n2 + 11) + 64 * d2 ≤ R.locals) (hf : kc + mc2 ≤ R.cells ∧ ks + ms2 ≤ R.slots) (kk : ∀ (r : Option Value) (v2 : Nat → Int) (a2 : Nat → Nat → Int), P2 r v2 a2 → mw p l e R s m args below meth c G A nL Q h0 ad ln v2 a2 (kc + mc2) (ks + ms2) (pc + 3) lv (r.toList ++ rest)) : mw p l e R s m args below meth c G A nL Q h0 ad ln v a kc ks pc lv st := fun L E h => q_callV C (M L E h) d hw hk h.1 h.2.1 ck hst hcat hR hf (fun r L2 E2 ⟨v2, a2, h2, hp⟩ => kk r v2 a2 hp L2 E2 h2)
theorem m_callS (C : Cq p s m args meth c cc y ret G A nL) {y2 : MethodName} {cc2 : ByteArray} {n2 d2 idx k2 : Nat} {ret2 : Option FieldType} {r2 : Value} {As rest : List Value} (M : ∀ (L : List Nat) (E : Nat → va_E), Mq l G y2 cc2 n2 ret2 d2 As L E 0 0 (fun r L2 E2 => r = some r2 ∧ L2 = L ∧ E2 = E)) (d : decode cc pc = .ok (.invokestatic idx, 3)) (hw : Ws y.cls idx y2 cc2 n2 ret2 k2) (hk : As.length = k2) (hst : st = As.reverse ++ rest) (hcat : (rest.map fun v => v.category).sum ≤ 8) (hR : d2 + 1 ≤ R.frames ∧ 8 + (n2 + 11) + 64 * d2 ≤ R.locals) (hf : kc ≤ R.cells ∧ ks ≤ R.slots) (kk : mw p l e R s m args below meth c G A nL Q h0 ad ln v a kc ks (pc + 3) lv (r2 :: rest)) : mw p l e R s m args below meth c G A nL Q h0 ad ln v a kc ks pc lv st := fun L E h => q_callS C (M L E) d hw hk hst hcat hR hf (fun r L2 E2 ⟨h1, h2, h3⟩ => by subst h1; subst h2; subst h3; exact kk _ _ h)
theorem m_lv {lv2 : List (Nat × Value)} (ps : List Nat) (hl : lv_pick lv ps = lv2) (k : mw p l e R s m args below meth c G A nL Q h0 ad ln v a kc ks pc lv2 st) : mw p l e R s m args below meth c G A nL Q h0 ad ln v a kc ks pc lv st := fun L E h H locs ls hP hD hS hv => k L E h H locs ls hP hD hS (lv_sub hv ps hl)
end MQ2
end
section
set_option maxHeartbeats 4000000 in
set_option maxRecDepth 100000 in
theorem s_isIn {l : Launch} {G : GT} {L : List Nat} {E : Nat → va_E} (x lo hi : Int32) : Mq l G yX12_isIn cX12_isIn 3 (some .boolean) 0 [.int x, .int lo, .int hi] L E 0 0 (fun v L2 E2 => v = some (.int (inn x lo hi)) ∧ L2 = L ∧ E2 = E) := by
  refine Mq.mk (by decide) (Nat.le_of_ble_eq_true rfl) ?_
  intro p e s m args below meth c A C
  refine q_iload_n (j := 0) C dX12_isIn_0 rfl ?_
  refine q_iload_n (j := 1) C dX12_isIn_1 rfl ?_
  refine q_icmp_lt (tgt := 14) C dX12_isIn_2 (by decide) (fun c1 => ?_) (fun c1 => ?_)
  · refine q_iconst (v := 0) C dX12_isIn_14 (by decide) ?_
    exact q_zret C dX12_isIn_15 rfl (by decide) (Nat.le_of_ble_eq_true rfl) (Nat.le_of_ble_eq_true rfl) ⟨(by refine congrArg (fun z => some (Value.int z)) ?_; unfold inn; (try simp only [i32_lt, i32_le, i32_eq, inn_f, Decidable.not_not, tn_m1, tn_0, tn_1, tn_2, tn_3, tn_4, tn_5, tn_6, tn_7, tn_8, tn_10, tn_30, tn_31, tn_32, tn_36, tn_40, tn_50, tn_100, tn_126, tn_200, tn_255, tn_500, tn_512, tn_3000, tn_5000] at c1); split <;> rename_i hz <;> (try simp only [i32_lt, i32_le, i32_eq, inn_f, Decidable.not_not, tn_m1, tn_0, tn_1, tn_2, tn_3, tn_4, tn_5, tn_6, tn_7, tn_8, tn_10, tn_30, tn_31, tn_32, tn_36, tn_40, tn_50, tn_100, tn_126, tn_200, tn_255, tn_500, tn_512, tn_3000, tn_5000] at hz) <;> first | rfl | (exfalso; omega)), rfl, rfl⟩
  · refine q_iload_n (j := 0) C dX12_isIn_5 rfl ?_
    refine q_iload_n (j := 2) C dX12_isIn_6 rfl ?_
    refine q_icmp_gt (tgt := 14) C dX12_isIn_7 (by decide) (fun c2 => ?_) (fun c2 => ?_)
    · refine q_iconst (v := 0) C dX12_isIn_14 (by decide) ?_
      exact q_zret C dX12_isIn_15 rfl (by decide) (Nat.le_of_ble_eq_true rfl) (Nat.le_of_ble_eq_true rfl) ⟨(by refine congrArg (fun z => some (Value.int z)) ?_; unfold inn; (try simp only [i32_lt, i32_le, i32_eq, inn_f, Decidable.not_not, tn_m1, tn_0, tn_1, tn_2, tn_3, tn_4, tn_5, tn_6, tn_7, tn_8, tn_10, tn_30, tn_31, tn_32, tn_36, tn_40, tn_50, tn_100, tn_126, tn_200, tn_255, tn_500, tn_512, tn_3000, tn_5000] at c1); (try simp only [i32_lt, i32_le, i32_eq, inn_f, Decidable.not_not, tn_m1, tn_0, tn_1, tn_2, tn_3, tn_4, tn_5, tn_6, tn_7, tn_8, tn_10, tn_30, tn_31, tn_32, tn_36, tn_40, tn_50, tn_100, tn_126, tn_200, tn_255, tn_500, tn_512, tn_3000, tn_5000] at c2); split <;> rename_i hz <;> (try simp only [i32_lt, i32_le, i32_eq, inn_f, Decidable.not_not, tn_m1, tn_0, tn_1, tn_2, tn_3, tn_4, tn_5, tn_6, tn_7, tn_8, tn_10, tn_30, tn_31, tn_32, tn_36, tn_40, tn_50, tn_100, tn_126, tn_200, tn_255, tn_500, tn_512, tn_3000, tn_5000] at hz) <;> first | rfl | (exfalso; omega)), rfl, rfl⟩
    · refine q_iconst (v := 1) C dX12_isIn_10 (by decide) ?_
      refine q_goto (tgt := 15) C dX12_isIn_11 (by decide) ?_
      exact q_zret C dX12_isIn_15 rfl (by decide) (Nat.le_of_ble_eq_true rfl) (Nat.le_of_ble_eq_true rfl) ⟨(by refine congrArg (fun z => some (Value.int z)) ?_; unfold inn; (try simp only [i32_lt, i32_le, i32_eq, inn_f, Decidable.not_not, tn_m1, tn_0, tn_1, tn_2, tn_3, tn_4, tn_5, tn_6, tn_7, tn_8, tn_10, tn_30, tn_31, tn_32, tn_36, tn_40, tn_50, tn_100, tn_126, tn_200, tn_255, tn_500, tn_512, tn_3000, tn_5000] at c1); (try simp only [i32_lt, i32_le, i32_eq, inn_f, Decidable.not_not, tn_m1, tn_0, tn_1, tn_2, tn_3, tn_4, tn_5, tn_6, tn_7, tn_8, tn_10, tn_30, tn_31, tn_32, tn_36, tn_40, tn_50, tn_100, tn_126, tn_200, tn_255, tn_500, tn_512, tn_3000, tn_5000] at c2); split <;> rename_i hz <;> (try simp only [i32_lt, i32_le, i32_eq, inn_f, Decidable.not_not, tn_m1, tn_0, tn_1, tn_2, tn_3, tn_4, tn_5, tn_6, tn_7, tn_8, tn_10, tn_30, tn_31, tn_32, tn_36, tn_40, tn_50, tn_100, tn_126, tn_200, tn_255, tn_500, tn_512, tn_3000, tn_5000] at hz) <;> first | rfl | (exfalso; omega)), rfl, rfl⟩
theorem inn_c {x lo hi : Int} (hx : R32 x) (h1 : R32 lo) (h2 : R32 hi) : (lo ≤ x ∧ x ≤ hi ∧ inn (iI x) (iI lo) (iI hi) = iI 1) ∨ (¬ (lo ≤ x ∧ x ≤ hi) ∧ inn (iI x) (iI lo) (iI hi) = iI 0) := by
  unfold inn
  by_cases h : lo ≤ x ∧ x ≤ hi
  · exact Or.inl ⟨h.1, h.2, if_pos ⟨(iI_le h1 hx).mpr h.1, (iI_le hx h2).mpr h.2⟩⟩
  · exact Or.inr ⟨h, if_neg (fun q => h ⟨(iI_le h1 hx).mp q.1, (iI_le hx h2).mp q.2⟩)⟩
def RG (v : Nat → Int) (a : Nat → Nat → Int) : Prop := (∀ k, R32 (v k)) ∧ ∀ k j, R32 (a k j)
def Iln (v : Nat → Int) (a : Nat → Nat → Int) : Prop := (0 ≤ v 36 ∧ v 36 ≤ 200) ∧ ∀ j, -1 ≤ a 34 j ∧ a 34 j ≤ 200
theorem RG.put {v : Nat → Int} {a : Nat → Nat → Int} {k : Nat} {z : Int} (h : RG v a) (hz : R32 z) : RG (va_up v k z) a := ⟨fun j => by unfold va_up; split; exact hz; exact h.1 j, h.2⟩
theorem RG.set {v : Nat → Int} {a : Nat → Nat → Int} {k i : Nat} {z : Int} (h : RG v a) (hz : R32 z) : RG v (up2 a k i z) := ⟨h.1, fun k2 j => by unfold up2; split; split; exact hz; exact h.2 _ _; exact h.2 _ _⟩
set_option maxHeartbeats 4000000 in
set_option maxRecDepth 100000 in
theorem M_lineFault {l : Launch} {G : GT} {h0 : Nat} {ad ln : Nat → Nat} {v : Nat → Int} {a : Nat → Nat → Int} {l0 : Int} (hR : RG v a) (hl : R32 l0) (hI : Iln v a) : Mm l G yX12_lineFault cX12_lineFault 2 (some .int) 1 [.int (iI l0)] h0 ad ln v a 0 0 (fun r v2 a2 => ∃ f : Int, r = some (.int (iI f)) ∧ ((f = 2 ∧ ¬ (0 ≤ l0 ∧ l0 < v 36)) ∨ (f = 1 ∧ 0 ≤ l0 ∧ l0 < v 36 ∧ a 34 l0.toNat < 0) ∨ (f = 0 ∧ 0 ≤ l0 ∧ l0 < v 36 ∧ 0 ≤ a 34 l0.toNat)) ∧ v = v2 ∧ a = a2) := by
  refine Mm.mk (by decide) (Nat.le_of_ble_eq_true rfl) ?_
  intro p e s m args below meth c A C
  have hI1 := hI.1
  refine m_iload_n (j := 1) C dX12_lineFault_0 rfl ?_
  refine m_iconst C dX12_lineFault_1 ?_
  refine m_aload_n (j := 0) C dX12_lineFault_2 rfl ?_
  have rv36 := hR.1 36
  refine m_get (k := 36) C dX12_lineFault_3 w6_95 (by decide) rfl ?_
  refine m_iconst C dX12_lineFault_6 ?_
  refine m_isub C dX12_lineFault_7 ?_
  refine m_callS (As := [.int (iI l0), .int (iI 0), .int (iI ((v 36) - 1))]) (rest := []) C (fun L E => s_isIn (iI l0) (iI 0) (iI ((v 36) - 1))) dX12_lineFault_8 kS_X12_174 rfl rfl (Nat.le_of_ble_eq_true rfl) ⟨Nat.le_of_ble_eq_true rfl, Nat.le_of_ble_eq_true rfl⟩ ⟨Nat.le_of_ble_eq_true rfl, Nat.le_of_ble_eq_true rfl⟩ ?_
  rcases inn_c (x := l0) (lo := 0) (hi := (v 36) - 1) ⟨by omega, by omega⟩ ⟨by decide, by decide⟩ ⟨by omega, by omega⟩ with ⟨h1a, h1b, h1e⟩ | ⟨h1a, h1e⟩
  · refine m_st (st2 := [.int (iI 1)]) (by rw [h1e]) ?_
    refine m_if_ne (tgt := 18) C ⟨by decide, by decide⟩ dX12_lineFault_11 (by decide) (fun _ => ?_) (fun z => absurd z (by omega))
    refine m_aload_n (j := 0) C dX12_lineFault_18 rfl ?_
    refine m_geta (k := 34) C dX12_lineFault_19 w6_93 (by decide) rfl ?_
    refine m_iload_n (j := 1) C dX12_lineFault_22 rfl ?_
    refine m_ald (k := 34) C dX12_lineFault_23 rfl rfl (by decide) (by omega) (by show _ < ((_ : Nat) : Int); simp only [mlen]; omega) (by decide) ?_
    have ra1 := hR.2 34 (l0.toNat)
    refine m_if_ge (tgt := 31) C ⟨by omega, by omega⟩ dX12_lineFault_24 (by decide) (fun c1 => ?_) (fun c1 => ?_)
    · refine m_iconst C dX12_lineFault_31 ?_
      exact m_iret C dX12_lineFault_32 rfl (Nat.le_of_ble_eq_true rfl) (Nat.le_of_ble_eq_true rfl) ⟨0, rfl, (by omega), rfl, rfl⟩
    · refine m_iconst C dX12_lineFault_27 ?_
      refine m_goto (tgt := 32) C dX12_lineFault_28 (by decide) ?_
      exact m_iret C dX12_lineFault_32 rfl (Nat.le_of_ble_eq_true rfl) (Nat.le_of_ble_eq_true rfl) ⟨1, rfl, (by omega), rfl, rfl⟩
  · refine m_st (st2 := [.int (iI 0)]) (by rw [h1e]) ?_
    refine m_if_ne (tgt := 18) C ⟨by decide, by decide⟩ dX12_lineFault_11 (by decide) (fun z => absurd z (by omega)) (fun _ => ?_)
    refine m_iconst C dX12_lineFault_14 ?_
    refine m_goto (tgt := 32) C dX12_lineFault_15 (by decide) ?_
    exact m_iret C dX12_lineFault_32 rfl (Nat.le_of_ble_eq_true rfl) (Nat.le_of_ble_eq_true rfl) ⟨2, rfl, (by omega), rfl, rfl⟩
set_option maxHeartbeats 4000000 in
set_option maxRecDepth 100000 in
theorem s_isSmall {l : Launch} {G : GT} {L : List Nat} {E : Nat → va_E} (x : Int32) : Mq l G yX12_isSmall cX12_isSmall 1 (some .boolean) 0 [.int x] L E 0 0 (fun v L2 E2 => v = some (.int (inn x 97 122)) ∧ L2 = L ∧ E2 = E) := by
  refine Mq.mk (by decide) (Nat.le_of_ble_eq_true rfl) ?_
  intro p e s m args below meth c A C
  refine q_iload_n (j := 0) C dX12_isSmall_0 rfl ?_
  refine q_bipush (v := 97) C dX12_isSmall_1 (by decide) ?_
  refine q_icmp_lt (tgt := 16) C dX12_isSmall_3 (by decide) (fun c1 => ?_) (fun c1 => ?_)
  · refine q_iconst (v := 0) C dX12_isSmall_16 (by decide) ?_
    exact q_zret C dX12_isSmall_17 rfl (by decide) (Nat.le_of_ble_eq_true rfl) (Nat.le_of_ble_eq_true rfl) ⟨(by refine congrArg (fun z => some (Value.int z)) ?_; unfold inn; (try simp only [i32_lt, i32_le, i32_eq, inn_f, Decidable.not_not, tn_m1, tn_0, tn_1, tn_2, tn_3, tn_4, tn_5, tn_6, tn_7, tn_8, tn_10, tn_30, tn_31, tn_32, tn_36, tn_40, tn_50, tn_100, tn_126, tn_200, tn_255, tn_500, tn_512, tn_3000, tn_5000] at c1); split <;> rename_i hz <;> (try simp only [i32_lt, i32_le, i32_eq, inn_f, Decidable.not_not, tn_m1, tn_0, tn_1, tn_2, tn_3, tn_4, tn_5, tn_6, tn_7, tn_8, tn_10, tn_30, tn_31, tn_32, tn_36, tn_40, tn_50, tn_100, tn_126, tn_200, tn_255, tn_500, tn_512, tn_3000, tn_5000] at hz) <;> first | rfl | (exfalso; omega)), rfl, rfl⟩
  · refine q_iload_n (j := 0) C dX12_isSmall_6 rfl ?_
    refine q_bipush (v := 122) C dX12_isSmall_7 (by decide) ?_
    refine q_icmp_gt (tgt := 16) C dX12_isSmall_9 (by decide) (fun c2 => ?_) (fun c2 => ?_)
    · refine q_iconst (v := 0) C dX12_isSmall_16 (by decide) ?_
      exact q_zret C dX12_isSmall_17 rfl (by decide) (Nat.le_of_ble_eq_true rfl) (Nat.le_of_ble_eq_true rfl) ⟨(by refine congrArg (fun z => some (Value.int z)) ?_; unfold inn; (try simp only [i32_lt, i32_le, i32_eq, inn_f, Decidable.not_not, tn_m1, tn_0, tn_1, tn_2, tn_3, tn_4, tn_5, tn_6, tn_7, tn_8, tn_10, tn_30, tn_31, tn_32, tn_36, tn_40, tn_50, tn_100, tn_126, tn_200, tn_255, tn_500, tn_512, tn_3000, tn_5000] at c1); (try simp only [i32_lt, i32_le, i32_eq, inn_f, Decidable.not_not, tn_m1, tn_0, tn_1, tn_2, tn_3, tn_4, tn_5, tn_6, tn_7, tn_8, tn_10, tn_30, tn_31, tn_32, tn_36, tn_40, tn_50, tn_100, tn_126, tn_200, tn_255, tn_500, tn_512, tn_3000, tn_5000] at c2); split <;> rename_i hz <;> (try simp only [i32_lt, i32_le, i32_eq, inn_f, Decidable.not_not, tn_m1, tn_0, tn_1, tn_2, tn_3, tn_4, tn_5, tn_6, tn_7, tn_8, tn_10, tn_30, tn_31, tn_32, tn_36, tn_40, tn_50, tn_100, tn_126, tn_200, tn_255, tn_500, tn_512, tn_3000, tn_5000] at hz) <;> first | rfl | (exfalso; omega)), rfl, rfl⟩
    · refine q_iconst (v := 1) C dX12_isSmall_12 (by decide) ?_
      refine q_goto (tgt := 17) C dX12_isSmall_13 (by decide) ?_
      exact q_zret C dX12_isSmall_17 rfl (by decide) (Nat.le_of_ble_eq_true rfl) (Nat.le_of_ble_eq_true rfl) ⟨(by refine congrArg (fun z => some (Value.int z)) ?_; unfold inn; (try simp only [i32_lt, i32_le, i32_eq, inn_f, Decidable.not_not, tn_m1, tn_0, tn_1, tn_2, tn_3, tn_4, tn_5, tn_6, tn_7, tn_8, tn_10, tn_30, tn_31, tn_32, tn_36, tn_40, tn_50, tn_100, tn_126, tn_200, tn_255, tn_500, tn_512, tn_3000, tn_5000] at c1); (try simp only [i32_lt, i32_le, i32_eq, inn_f, Decidable.not_not, tn_m1, tn_0, tn_1, tn_2, tn_3, tn_4, tn_5, tn_6, tn_7, tn_8, tn_10, tn_30, tn_31, tn_32, tn_36, tn_40, tn_50, tn_100, tn_126, tn_200, tn_255, tn_500, tn_512, tn_3000, tn_5000] at c2); split <;> rename_i hz <;> (try simp only [i32_lt, i32_le, i32_eq, inn_f, Decidable.not_not, tn_m1, tn_0, tn_1, tn_2, tn_3, tn_4, tn_5, tn_6, tn_7, tn_8, tn_10, tn_30, tn_31, tn_32, tn_36, tn_40, tn_50, tn_100, tn_126, tn_200, tn_255, tn_500, tn_512, tn_3000, tn_5000] at hz) <;> first | rfl | (exfalso; omega)), rfl, rfl⟩
set_option maxHeartbeats 4000000 in
set_option maxRecDepth 100000 in
theorem s_isDigit {l : Launch} {G : GT} {L : List Nat} {E : Nat → va_E} (x : Int32) : Mq l G yX12_isDigit cX12_isDigit 1 (some .boolean) 0 [.int x] L E 0 0 (fun v L2 E2 => v = some (.int (inn x 48 57)) ∧ L2 = L ∧ E2 = E) := by
  refine Mq.mk (by decide) (Nat.le_of_ble_eq_true rfl) ?_
  intro p e s m args below meth c A C
  refine q_iload_n (j := 0) C dX12_isDigit_0 rfl ?_
  refine q_bipush (v := 48) C dX12_isDigit_1 (by decide) ?_
  refine q_icmp_lt (tgt := 16) C dX12_isDigit_3 (by decide) (fun c1 => ?_) (fun c1 => ?_)
  · refine q_iconst (v := 0) C dX12_isDigit_16 (by decide) ?_
    exact q_zret C dX12_isDigit_17 rfl (by decide) (Nat.le_of_ble_eq_true rfl) (Nat.le_of_ble_eq_true rfl) ⟨(by refine congrArg (fun z => some (Value.int z)) ?_; unfold inn; (try simp only [i32_lt, i32_le, i32_eq, inn_f, Decidable.not_not, tn_m1, tn_0, tn_1, tn_2, tn_3, tn_4, tn_5, tn_6, tn_7, tn_8, tn_10, tn_30, tn_31, tn_32, tn_36, tn_40, tn_50, tn_100, tn_126, tn_200, tn_255, tn_500, tn_512, tn_3000, tn_5000] at c1); split <;> rename_i hz <;> (try simp only [i32_lt, i32_le, i32_eq, inn_f, Decidable.not_not, tn_m1, tn_0, tn_1, tn_2, tn_3, tn_4, tn_5, tn_6, tn_7, tn_8, tn_10, tn_30, tn_31, tn_32, tn_36, tn_40, tn_50, tn_100, tn_126, tn_200, tn_255, tn_500, tn_512, tn_3000, tn_5000] at hz) <;> first | rfl | (exfalso; omega)), rfl, rfl⟩
  · refine q_iload_n (j := 0) C dX12_isDigit_6 rfl ?_
    refine q_bipush (v := 57) C dX12_isDigit_7 (by decide) ?_
    refine q_icmp_gt (tgt := 16) C dX12_isDigit_9 (by decide) (fun c2 => ?_) (fun c2 => ?_)
    · refine q_iconst (v := 0) C dX12_isDigit_16 (by decide) ?_
      exact q_zret C dX12_isDigit_17 rfl (by decide) (Nat.le_of_ble_eq_true rfl) (Nat.le_of_ble_eq_true rfl) ⟨(by refine congrArg (fun z => some (Value.int z)) ?_; unfold inn; (try simp only [i32_lt, i32_le, i32_eq, inn_f, Decidable.not_not, tn_m1, tn_0, tn_1, tn_2, tn_3, tn_4, tn_5, tn_6, tn_7, tn_8, tn_10, tn_30, tn_31, tn_32, tn_36, tn_40, tn_50, tn_100, tn_126, tn_200, tn_255, tn_500, tn_512, tn_3000, tn_5000] at c1); (try simp only [i32_lt, i32_le, i32_eq, inn_f, Decidable.not_not, tn_m1, tn_0, tn_1, tn_2, tn_3, tn_4, tn_5, tn_6, tn_7, tn_8, tn_10, tn_30, tn_31, tn_32, tn_36, tn_40, tn_50, tn_100, tn_126, tn_200, tn_255, tn_500, tn_512, tn_3000, tn_5000] at c2); split <;> rename_i hz <;> (try simp only [i32_lt, i32_le, i32_eq, inn_f, Decidable.not_not, tn_m1, tn_0, tn_1, tn_2, tn_3, tn_4, tn_5, tn_6, tn_7, tn_8, tn_10, tn_30, tn_31, tn_32, tn_36, tn_40, tn_50, tn_100, tn_126, tn_200, tn_255, tn_500, tn_512, tn_3000, tn_5000] at hz) <;> first | rfl | (exfalso; omega)), rfl, rfl⟩
    · refine q_iconst (v := 1) C dX12_isDigit_12 (by decide) ?_
      refine q_goto (tgt := 17) C dX12_isDigit_13 (by decide) ?_
      exact q_zret C dX12_isDigit_17 rfl (by decide) (Nat.le_of_ble_eq_true rfl) (Nat.le_of_ble_eq_true rfl) ⟨(by refine congrArg (fun z => some (Value.int z)) ?_; unfold inn; (try simp only [i32_lt, i32_le, i32_eq, inn_f, Decidable.not_not, tn_m1, tn_0, tn_1, tn_2, tn_3, tn_4, tn_5, tn_6, tn_7, tn_8, tn_10, tn_30, tn_31, tn_32, tn_36, tn_40, tn_50, tn_100, tn_126, tn_200, tn_255, tn_500, tn_512, tn_3000, tn_5000] at c1); (try simp only [i32_lt, i32_le, i32_eq, inn_f, Decidable.not_not, tn_m1, tn_0, tn_1, tn_2, tn_3, tn_4, tn_5, tn_6, tn_7, tn_8, tn_10, tn_30, tn_31, tn_32, tn_36, tn_40, tn_50, tn_100, tn_126, tn_200, tn_255, tn_500, tn_512, tn_3000, tn_5000] at c2); split <;> rename_i hz <;> (try simp only [i32_lt, i32_le, i32_eq, inn_f, Decidable.not_not, tn_m1, tn_0, tn_1, tn_2, tn_3, tn_4, tn_5, tn_6, tn_7, tn_8, tn_10, tn_30, tn_31, tn_32, tn_36, tn_40, tn_50, tn_100, tn_126, tn_200, tn_255, tn_500, tn_512, tn_3000, tn_5000] at hz) <;> first | rfl | (exfalso; omega)), rfl, rfl⟩
set_option maxHeartbeats 4000000 in
set_option maxRecDepth 100000 in
theorem s_isGreat {l : Launch} {G : GT} {L : List Nat} {E : Nat → va_E} (x : Int32) : Mq l G yX12_isGreat cX12_isGreat 1 (some .boolean) 0 [.int x] L E 0 0 (fun v L2 E2 => v = some (.int (inn x 65 90)) ∧ L2 = L ∧ E2 = E) := by
  refine Mq.mk (by decide) (Nat.le_of_ble_eq_true rfl) ?_
  intro p e s m args below meth c A C
  refine q_iload_n (j := 0) C dX12_isGreat_0 rfl ?_
  refine q_bipush (v := 65) C dX12_isGreat_1 (by decide) ?_
  refine q_icmp_lt (tgt := 16) C dX12_isGreat_3 (by decide) (fun c1 => ?_) (fun c1 => ?_)
  · refine q_iconst (v := 0) C dX12_isGreat_16 (by decide) ?_
    exact q_zret C dX12_isGreat_17 rfl (by decide) (Nat.le_of_ble_eq_true rfl) (Nat.le_of_ble_eq_true rfl) ⟨(by refine congrArg (fun z => some (Value.int z)) ?_; unfold inn; (try simp only [i32_lt, i32_le, i32_eq, inn_f, Decidable.not_not, tn_m1, tn_0, tn_1, tn_2, tn_3, tn_4, tn_5, tn_6, tn_7, tn_8, tn_10, tn_30, tn_31, tn_32, tn_36, tn_40, tn_50, tn_100, tn_126, tn_200, tn_255, tn_500, tn_512, tn_3000, tn_5000] at c1); split <;> rename_i hz <;> (try simp only [i32_lt, i32_le, i32_eq, inn_f, Decidable.not_not, tn_m1, tn_0, tn_1, tn_2, tn_3, tn_4, tn_5, tn_6, tn_7, tn_8, tn_10, tn_30, tn_31, tn_32, tn_36, tn_40, tn_50, tn_100, tn_126, tn_200, tn_255, tn_500, tn_512, tn_3000, tn_5000] at hz) <;> first | rfl | (exfalso; omega)), rfl, rfl⟩
  · refine q_iload_n (j := 0) C dX12_isGreat_6 rfl ?_
    refine q_bipush (v := 90) C dX12_isGreat_7 (by decide) ?_
    refine q_icmp_gt (tgt := 16) C dX12_isGreat_9 (by decide) (fun c2 => ?_) (fun c2 => ?_)
    · refine q_iconst (v := 0) C dX12_isGreat_16 (by decide) ?_
      exact q_zret C dX12_isGreat_17 rfl (by decide) (Nat.le_of_ble_eq_true rfl) (Nat.le_of_ble_eq_true rfl) ⟨(by refine congrArg (fun z => some (Value.int z)) ?_; unfold inn; (try simp only [i32_lt, i32_le, i32_eq, inn_f, Decidable.not_not, tn_m1, tn_0, tn_1, tn_2, tn_3, tn_4, tn_5, tn_6, tn_7, tn_8, tn_10, tn_30, tn_31, tn_32, tn_36, tn_40, tn_50, tn_100, tn_126, tn_200, tn_255, tn_500, tn_512, tn_3000, tn_5000] at c1); (try simp only [i32_lt, i32_le, i32_eq, inn_f, Decidable.not_not, tn_m1, tn_0, tn_1, tn_2, tn_3, tn_4, tn_5, tn_6, tn_7, tn_8, tn_10, tn_30, tn_31, tn_32, tn_36, tn_40, tn_50, tn_100, tn_126, tn_200, tn_255, tn_500, tn_512, tn_3000, tn_5000] at c2); split <;> rename_i hz <;> (try simp only [i32_lt, i32_le, i32_eq, inn_f, Decidable.not_not, tn_m1, tn_0, tn_1, tn_2, tn_3, tn_4, tn_5, tn_6, tn_7, tn_8, tn_10, tn_30, tn_31, tn_32, tn_36, tn_40, tn_50, tn_100, tn_126, tn_200, tn_255, tn_500, tn_512, tn_3000, tn_5000] at hz) <;> first | rfl | (exfalso; omega)), rfl, rfl⟩
    · refine q_iconst (v := 1) C dX12_isGreat_12 (by decide) ?_
      refine q_goto (tgt := 17) C dX12_isGreat_13 (by decide) ?_
      exact q_zret C dX12_isGreat_17 rfl (by decide) (Nat.le_of_ble_eq_true rfl) (Nat.le_of_ble_eq_true rfl) ⟨(by refine congrArg (fun z => some (Value.int z)) ?_; unfold inn; (try simp only [i32_lt, i32_le, i32_eq, inn_f, Decidable.not_not, tn_m1, tn_0, tn_1, tn_2, tn_3, tn_4, tn_5, tn_6, tn_7, tn_8, tn_10, tn_30, tn_31, tn_32, tn_36, tn_40, tn_50, tn_100, tn_126, tn_200, tn_255, tn_500, tn_512, tn_3000, tn_5000] at c1); (try simp only [i32_lt, i32_le, i32_eq, inn_f, Decidable.not_not, tn_m1, tn_0, tn_1, tn_2, tn_3, tn_4, tn_5, tn_6, tn_7, tn_8, tn_10, tn_30, tn_31, tn_32, tn_36, tn_40, tn_50, tn_100, tn_126, tn_200, tn_255, tn_500, tn_512, tn_3000, tn_5000] at c2); split <;> rename_i hz <;> (try simp only [i32_lt, i32_le, i32_eq, inn_f, Decidable.not_not, tn_m1, tn_0, tn_1, tn_2, tn_3, tn_4, tn_5, tn_6, tn_7, tn_8, tn_10, tn_30, tn_31, tn_32, tn_36, tn_40, tn_50, tn_100, tn_126, tn_200, tn_255, tn_500, tn_512, tn_3000, tn_5000] at hz) <;> first | rfl | (exfalso; omega)), rfl, rfl⟩
end
section
set_option maxHeartbeats 4000000 in
set_option maxRecDepth 100000 in
theorem M_newLine {l : Launch} {G : GT} {h0 : Nat} {ad ln : Nat → Nat} {v : Nat → Int} {a : Nat → Nat → Int} (hR : RG v a) (h39 : 0 ≤ v 39 ∧ v 39 ≤ 200) : Mm l G yX12_newLine cX12_newLine 1 (some .boolean) 0 [] h0 ad ln v a 0 0 (fun r v2 a2 => ∃ f : Int, r = some (.int (iI f)) ∧ ((f = 1 ∧ v 39 < 200 ∧ v2 = va_up v 39 (v 39 + 1) ∧ a2 = up2 a 37 (v 39).toNat 0) ∨ (f = 0 ∧ v 39 = 200 ∧ v = v2 ∧ a = a2))) := by
  refine Mm.mk (by decide) (Nat.le_of_ble_eq_true rfl) ?_
  intro p e s m args below meth c A C
  refine m_aload_n (j := 0) C dX12_newLine_0 rfl ?_
  have rv39 := hR.1 39
  refine m_get (k := 39) C dX12_newLine_1 w6_98 (by decide) rfl ?_
  refine m_sipush (z := 200) C dX12_newLine_4 (by decide) ?_
  refine m_icmp_ne (tgt := 12) C ⟨by omega, by omega⟩ ⟨by decide, by decide⟩ dX12_newLine_7 (by decide) (fun c1 => ?_) (fun c1 => ?_)
  · refine m_aload_n (j := 0) C dX12_newLine_12 rfl ?_
    refine m_geta (k := 37) C dX12_newLine_13 w6_96 (by decide) rfl ?_
    refine m_aload_n (j := 0) C dX12_newLine_16 rfl ?_
    refine m_get (k := 39) C dX12_newLine_17 w6_98 (by decide) rfl ?_
    refine m_iconst C dX12_newLine_20 ?_
    refine m_ast (k := 37) C dX12_newLine_21 rfl rfl (by decide) (by omega) (by show _ < ((_ : Nat) : Int); simp only [mlen]; omega) (by decide) ?_
    refine m_aload_n (j := 0) C dX12_newLine_22 rfl ?_
    refine m_dup C dX12_newLine_23 rfl ?_
    refine m_get (k := 39) C dX12_newLine_24 w6_98 (by decide) rfl ?_
    refine m_iconst C dX12_newLine_27 ?_
    refine m_iadd C dX12_newLine_28 ?_
    refine m_put (k := 39) (z := (v 39) + 1) C dX12_newLine_29 w6_98 (by decide) rfl rfl rfl ?_
    refine m_iconst C dX12_newLine_32 ?_
    exact m_zret C dX12_newLine_33 rfl (Or.inr rfl) (Nat.le_of_ble_eq_true rfl) (Nat.le_of_ble_eq_true rfl) ⟨1, rfl, Or.inl ⟨rfl, by omega, rfl, rfl⟩⟩
  · refine m_iconst C dX12_newLine_10 ?_
    exact m_zret C dX12_newLine_11 rfl (Or.inl rfl) (Nat.le_of_ble_eq_true rfl) (Nat.le_of_ble_eq_true rfl) ⟨0, rfl, Or.inr ⟨rfl, by omega, rfl, rfl⟩⟩
set_option maxHeartbeats 4000000 in
set_option maxRecDepth 100000 in
theorem M_putCell {l : Launch} {G : GT} {h0 : Nat} {ad ln : Nat → Nat} {v : Nat → Int} {a : Nat → Nat → Int} {x : Int} (hR : RG v a) (h39 : 1 ≤ v 39 ∧ v 39 ≤ 200) (h37 : 0 ≤ a 37 (v 39 - 1).toNat ∧ a 37 (v 39 - 1).toNat < 200) : Mm l G yX12_putCell cX12_putCell 3 none 0 [.int (iI x)] h0 ad ln v a 0 0 (fun r v2 a2 => r = none ∧ v = v2 ∧ a2 = up2 (up2 a 38 (200 * (v 39 - 1) + a 37 (v 39 - 1).toNat).toNat x) 37 (v 39 - 1).toNat (a 37 (v 39 - 1).toNat + 1)) := by
  refine Mm.mk (by decide) (Nat.le_of_ble_eq_true rfl) ?_
  intro p e s m args below meth c A C
  refine m_aload_n (j := 0) C dX12_putCell_0 rfl ?_
  have rv39 := hR.1 39
  refine m_get (k := 39) C dX12_putCell_1 w6_98 (by decide) rfl ?_
  refine m_iconst C dX12_putCell_4 ?_
  refine m_isub C dX12_putCell_5 ?_
  refine m_istore_n (lv2 := [(2, .int (iI ((v 39) - 1))), (0, .ref h0), (1, .int (iI x))]) C dX12_putCell_6 (by decide) rfl ?_
  refine m_aload_n (j := 1) C dX12_putCell_7 rfl ?_
  refine m_geta (k := 38) C dX12_putCell_8 w6_97 (by decide) rfl ?_
  refine m_sipush (z := 200) C dX12_putCell_11 (by decide) ?_
  refine m_iload_n (j := 0) C dX12_putCell_14 rfl ?_
  refine m_imul C dX12_putCell_15 ?_
  refine m_aload_n (j := 1) C dX12_putCell_16 rfl ?_
  refine m_geta (k := 37) C dX12_putCell_17 w6_96 (by decide) rfl ?_
  refine m_iload_n (j := 0) C dX12_putCell_20 rfl ?_
  refine m_ald (k := 37) C dX12_putCell_21 rfl rfl (by decide) (by omega) (by show _ < ((_ : Nat) : Int); simp only [mlen]; omega) (by decide) ?_
  have ra1 := hR.2 37 (((v 39) - 1).toNat)
  refine m_iadd C dX12_putCell_22 ?_
  refine m_iload_n (j := 2) C dX12_putCell_23 rfl ?_
  refine m_ast (k := 38) C dX12_putCell_24 rfl rfl (by decide) (by omega) (by show _ < ((_ : Nat) : Int); simp only [mlen]; omega) (by decide) ?_
  refine m_aload_n (j := 1) C dX12_putCell_25 rfl ?_
  refine m_geta (k := 37) C dX12_putCell_26 w6_96 (by decide) rfl ?_
  refine m_iload_n (j := 0) C dX12_putCell_29 rfl ?_
  refine m_dup2 C dX12_putCell_30 rfl rfl ?_
  refine m_ald (k := 37) C dX12_putCell_31 rfl rfl (by decide) (by omega) (by show _ < ((_ : Nat) : Int); simp only [mlen]; omega) (by decide) ?_
  refine m_st (st2 := [.int (iI (a 37 (v 39 - 1).toNat)), .int (iI ((v 39) - 1)), .ref (ad 37)]) rfl ?_
  refine m_iconst C dX12_putCell_32 ?_
  refine m_iadd C dX12_putCell_33 ?_
  refine m_ast (k := 37) C dX12_putCell_34 rfl rfl (by decide) (by omega) (by show _ < ((_ : Nat) : Int); simp only [mlen]; omega) (by decide) ?_
  exact m_vret C dX12_putCell_35 rfl (Nat.le_of_ble_eq_true rfl) (Nat.le_of_ble_eq_true rfl) ⟨rfl, rfl, rfl⟩
set_option maxHeartbeats 4000000 in
set_option maxRecDepth 100000 in
theorem M_next {l : Launch} {G : GT} {h0 : Nat} {ad ln : Nat → Nat} {v : Nat → Int} {a : Nat → Nat → Int} {r q : Int} (hR : RG v a) (hr : 0 ≤ r ∧ r < 12016) (hq : q = 0 ∨ q = 1) : Mm l G yX12_next cX12_next 3 (some .int) 0 [.int (iI r), .int (iI q)] h0 ad ln v a 0 0 (fun r2 v2 a2 => ∃ f : Int, r2 = some (.int (iI f)) ∧ (f = 0 ∨ f = 1) ∧ v = v2 ∧ a = a2) := by
  refine Mm.mk (by decide) (Nat.le_of_ble_eq_true rfl) ?_
  intro p e s m args below meth c A C
  refine m_aload_n (j := 0) C dX12_next_0 rfl ?_
  refine m_geta (k := 44) C dX12_next_1 w6_103 (by decide) rfl ?_
  refine m_iload_n (j := 1) C dX12_next_4 rfl ?_
  refine m_ald (k := 44) C dX12_next_5 rfl rfl (by decide) (by omega) (by show _ < ((_ : Nat) : Int); simp only [mlen]; omega) (by decide) ?_
  have ra1 := hR.2 44 (r.toNat)
  refine m_bipush (z := (-3)) C dX12_next_6 (by decide) ?_
  refine m_icmp_ne (tgt := 15) C ⟨by omega, by omega⟩ ⟨by decide, by decide⟩ dX12_next_8 (by decide) (fun c1 => ?_) (fun c1 => ?_)
  · refine m_aload_n (j := 0) C dX12_next_15 rfl ?_
    refine m_geta (k := 44) C dX12_next_16 w6_103 (by decide) rfl ?_
    refine m_iload_n (j := 1) C dX12_next_19 rfl ?_
    refine m_ald (k := 44) C dX12_next_20 rfl rfl (by decide) (by omega) (by show _ < ((_ : Nat) : Int); simp only [mlen]; omega) (by decide) ?_
    have ra2 := hR.2 44 (r.toNat)
    refine m_bipush (z := (-4)) C dX12_next_21 (by decide) ?_
    refine m_icmp_ne (tgt := 30) C ⟨by omega, by omega⟩ ⟨by decide, by decide⟩ dX12_next_23 (by decide) (fun c2 => ?_) (fun c2 => ?_)
    · refine m_iload_n (j := 2) C dX12_next_30 rfl ?_
      exact m_iret C dX12_next_31 rfl (Nat.le_of_ble_eq_true rfl) (Nat.le_of_ble_eq_true rfl) ⟨q, rfl, (by omega), rfl, rfl⟩
    · refine m_iconst C dX12_next_26 ?_
      refine m_goto (tgt := 31) C dX12_next_27 (by decide) ?_
      exact m_iret C dX12_next_31 rfl (Nat.le_of_ble_eq_true rfl) (Nat.le_of_ble_eq_true rfl) ⟨0, rfl, (by omega), rfl, rfl⟩
  · refine m_iconst C dX12_next_11 ?_
    refine m_goto (tgt := 31) C dX12_next_12 (by decide) ?_
    exact m_iret C dX12_next_31 rfl (Nat.le_of_ble_eq_true rfl) (Nat.le_of_ble_eq_true rfl) ⟨1, rfl, (by omega), rfl, rfl⟩
set_option maxHeartbeats 4000000 in
set_option maxRecDepth 100000 in
theorem M_isSmallRule {l : Launch} {G : GT} {h0 : Nat} {ad ln : Nat → Nat} {v : Nat → Int} {a : Nat → Nat → Int} {r : Int} (hR : RG v a) (hr : 0 ≤ r ∧ r < 12016) (h44 : a 44 r.toNat < 6000) : Mm l G yX12_isSmallRule cX12_isSmallRule 2 (some .boolean) 1 [.int (iI r)] h0 ad ln v a 0 0 (fun r2 v2 a2 => ∃ f : Int, r2 = some (.int (iI f)) ∧ (f = 0 ∨ f = 1) ∧ v = v2 ∧ a = a2) := by
  refine Mm.mk (by decide) (Nat.le_of_ble_eq_true rfl) ?_
  intro p e s m args below meth c A C
  refine m_aload_n (j := 0) C dX12_isSmallRule_0 rfl ?_
  refine m_geta (k := 44) C dX12_isSmallRule_1 w6_103 (by decide) rfl ?_
  refine m_iload_n (j := 1) C dX12_isSmallRule_4 rfl ?_
  refine m_ald (k := 44) C dX12_isSmallRule_5 rfl rfl (by decide) (by omega) (by show _ < ((_ : Nat) : Int); simp only [mlen]; omega) (by decide) ?_
  have ra1 := hR.2 44 (r.toNat)
  refine m_if_lt (tgt := 33) C ⟨by omega, by omega⟩ dX12_isSmallRule_6 (by decide) (fun c1 => ?_) (fun c1 => ?_)
  · refine m_iconst C dX12_isSmallRule_33 ?_
    exact m_zret C dX12_isSmallRule_34 rfl (Or.inl rfl) (Nat.le_of_ble_eq_true rfl) (Nat.le_of_ble_eq_true rfl) ⟨0, rfl, (by omega), rfl, rfl⟩
  · refine m_aload_n (j := 0) C dX12_isSmallRule_9 rfl ?_
    refine m_geta (k := 14) C dX12_isSmallRule_10 w6_73 (by decide) rfl ?_
    refine m_bipush (z := 8) C dX12_isSmallRule_13 (by decide) ?_
    refine m_aload_n (j := 0) C dX12_isSmallRule_15 rfl ?_
    refine m_geta (k := 44) C dX12_isSmallRule_16 w6_103 (by decide) rfl ?_
    refine m_iload_n (j := 1) C dX12_isSmallRule_19 rfl ?_
    refine m_ald (k := 44) C dX12_isSmallRule_20 rfl rfl (by decide) (by omega) (by show _ < ((_ : Nat) : Int); simp only [mlen]; omega) (by decide) ?_
    have ra2 := hR.2 44 (r.toNat)
    refine m_imul C dX12_isSmallRule_21 ?_
    refine m_ald (k := 14) C dX12_isSmallRule_22 rfl rfl (by decide) (by omega) (by show _ < ((_ : Nat) : Int); simp only [mlen]; omega) (by decide) ?_
    have ra3 := hR.2 14 ((8 * (a 44 r.toNat)).toNat)
    refine m_callS (As := [.int (iI (a 14 (8 * (a 44 r.toNat)).toNat))]) (rest := []) C (fun L E => s_isSmall (iI (a 14 (8 * (a 44 r.toNat)).toNat))) dX12_isSmallRule_23 kS_X12_208 rfl rfl (Nat.le_of_ble_eq_true rfl) ⟨Nat.le_of_ble_eq_true rfl, Nat.le_of_ble_eq_true rfl⟩ ⟨Nat.le_of_ble_eq_true rfl, Nat.le_of_ble_eq_true rfl⟩ ?_
    rcases inn_c (x := a 14 (8 * (a 44 r.toNat)).toNat) (lo := 97) (hi := 122) ⟨by omega, by omega⟩ ⟨by decide, by decide⟩ ⟨by decide, by decide⟩ with ⟨h1a, h1b, h1e⟩ | ⟨h1a, h1e⟩
    · refine m_st (st2 := [.int (iI 1)]) (by rw [show inn (iI (a 14 (8 * (a 44 r.toNat)).toNat)) 97 122 = iI 1 from h1e]) ?_
      refine m_if_eq (tgt := 33) C ⟨by decide, by decide⟩ dX12_isSmallRule_26 (by decide) (fun z => absurd z (by omega)) (fun _ => ?_)
      refine m_iconst C dX12_isSmallRule_29 ?_
      refine m_goto (tgt := 34) C dX12_isSmallRule_30 (by decide) ?_
      exact m_zret C dX12_isSmallRule_34 rfl (Or.inr rfl) (Nat.le_of_ble_eq_true rfl) (Nat.le_of_ble_eq_true rfl) ⟨1, rfl, (by omega), rfl, rfl⟩
    · refine m_st (st2 := [.int (iI 0)]) (by rw [show inn (iI (a 14 (8 * (a 44 r.toNat)).toNat)) 97 122 = iI 0 from h1e]) ?_
      refine m_if_eq (tgt := 33) C ⟨by decide, by decide⟩ dX12_isSmallRule_26 (by decide) (fun _ => ?_) (fun z => absurd z (by omega))
      refine m_iconst C dX12_isSmallRule_33 ?_
      exact m_zret C dX12_isSmallRule_34 rfl (Or.inl rfl) (Nat.le_of_ble_eq_true rfl) (Nat.le_of_ble_eq_true rfl) ⟨0, rfl, (by omega), rfl, rfl⟩
set_option maxHeartbeats 4000000 in
set_option maxRecDepth 100000 in
theorem M_rowCell {l : Launch} {G : GT} {h0 : Nat} {ad ln : Nat → Nat} {v : Nat → Int} {a : Nat → Nat → Int} {r k : Int} (hR : RG v a) (hr : 0 ≤ r ∧ r < 12016) (h45 : 0 ≤ a 45 r.toNat + k ∧ (0 ≤ a 44 r.toNat → a 45 r.toNat + k < 24000) ∧ (a 44 r.toNat < 0 → a 45 r.toNat + k < 480)) : Mm l G yX12_rowCell cX12_rowCell 3 (some .int) 0 [.int (iI r), .int (iI k)] h0 ad ln v a 0 0 (fun r2 v2 a2 => ∃ f : Int, r2 = some (.int (iI f)) ∧ R32 f ∧ v = v2 ∧ a = a2) := by
  refine Mm.mk (by decide) (Nat.le_of_ble_eq_true rfl) ?_
  intro p e s m args below meth c A C
  refine m_aload_n (j := 0) C dX12_rowCell_0 rfl ?_
  refine m_geta (k := 44) C dX12_rowCell_1 w6_103 (by decide) rfl ?_
  refine m_iload_n (j := 1) C dX12_rowCell_4 rfl ?_
  refine m_ald (k := 44) C dX12_rowCell_5 rfl rfl (by decide) (by omega) (by show _ < ((_ : Nat) : Int); simp only [mlen]; omega) (by decide) ?_
  have ra1 := hR.2 44 (r.toNat)
  refine m_if_lt (tgt := 25) C ⟨by omega, by omega⟩ dX12_rowCell_6 (by decide) (fun c1 => ?_) (fun c1 => ?_)
  · refine m_aload_n (j := 0) C dX12_rowCell_25 rfl ?_
    refine m_geta (k := 17) C dX12_rowCell_26 w6_76 (by decide) rfl ?_
    refine m_aload_n (j := 0) C dX12_rowCell_29 rfl ?_
    refine m_geta (k := 45) C dX12_rowCell_30 w6_104 (by decide) rfl ?_
    refine m_iload_n (j := 1) C dX12_rowCell_33 rfl ?_
    refine m_ald (k := 45) C dX12_rowCell_34 rfl rfl (by decide) (by omega) (by show _ < ((_ : Nat) : Int); simp only [mlen]; omega) (by decide) ?_
    have ra2 := hR.2 45 (r.toNat)
    refine m_iload_n (j := 2) C dX12_rowCell_35 rfl ?_
    refine m_iadd C dX12_rowCell_36 ?_
    refine m_ald (k := 17) C dX12_rowCell_37 rfl rfl (by decide) (by omega) (by show _ < ((_ : Nat) : Int); simp only [mlen]; omega) (by decide) ?_
    have ra3 := hR.2 17 (((a 45 r.toNat) + k).toNat)
    exact m_iret C dX12_rowCell_38 rfl (Nat.le_of_ble_eq_true rfl) (Nat.le_of_ble_eq_true rfl) ⟨a 17 ((a 45 r.toNat) + k).toNat, rfl, hR.2 _ _, rfl, rfl⟩
  · refine m_aload_n (j := 0) C dX12_rowCell_9 rfl ?_
    refine m_geta (k := 15) C dX12_rowCell_10 w6_74 (by decide) rfl ?_
    refine m_aload_n (j := 0) C dX12_rowCell_13 rfl ?_
    refine m_geta (k := 45) C dX12_rowCell_14 w6_104 (by decide) rfl ?_
    refine m_iload_n (j := 1) C dX12_rowCell_17 rfl ?_
    refine m_ald (k := 45) C dX12_rowCell_18 rfl rfl (by decide) (by omega) (by show _ < ((_ : Nat) : Int); simp only [mlen]; omega) (by decide) ?_
    have ra4 := hR.2 45 (r.toNat)
    refine m_iload_n (j := 2) C dX12_rowCell_19 rfl ?_
    refine m_iadd C dX12_rowCell_20 ?_
    refine m_ald (k := 15) C dX12_rowCell_21 rfl rfl (by decide) (by omega) (by show _ < ((_ : Nat) : Int); simp only [mlen]; omega) (by decide) ?_
    have ra5 := hR.2 15 (((a 45 r.toNat) + k).toNat)
    refine m_goto (tgt := 38) C dX12_rowCell_22 (by decide) ?_
    exact m_iret C dX12_rowCell_38 rfl (Nat.le_of_ble_eq_true rfl) (Nat.le_of_ble_eq_true rfl) ⟨a 15 ((a 45 r.toNat) + k).toNat, rfl, hR.2 _ _, rfl, rfl⟩
set_option maxHeartbeats 4000000 in
set_option maxRecDepth 100000 in
theorem Lp_lineEnd {p : Program} {l : Launch} {e : Env} {s : State} {m : MethodId} {args : Array Value} {below : List Frame} {meth : Method} {c : Code} {G : GT} {A : Nat → Prop} {h0 : Nat} {ad ln : Nat → Nat} {v : Nat → Int} {a : Nat → Nat → Int} {q : Int} (hR : RG v a) (ht : 0 ≤ v 30 ∧ v 30 ≤ 500) (hq : 0 ≤ q ∧ q ≤ 1000) (C : Cq p s m args meth c cX12_lineEnd yX12_lineEnd (some .int) G A 3) : ∀ (n : Nat) (k : Int), 1001 - k < (n : Int) → (q ≤ k ∧ k ≤ 1000 ∧ (k = q ∨ k ≤ v 30)) → mw p l e (rmq 0 0 0) s m args below meth c G A 3 (MQ below (Qm G A (fun rq Lq Eq => ∃ (vq : Nat → Int) (aq : Nat → Nat → Int), mI G h0 ad ln vq aq Lq Eq ∧ (fun r v2 a2 => ∃ f : Int, r = some (.int (iI f)) ∧ (q ≤ f ∧ (f = q ∨ f ≤ v 30)) ∧ v = v2 ∧ a = a2) rq vq aq)) args s 0 0 A) h0 ad ln v a 0 0 2 [(2, .int (iI k)), (0, .ref h0), (1, .int (iI q))] [] := by
  intro n
  induction n with
  | zero =>
    intro k   hm hk
    exact absurd hm (by omega)
  | succ n ih =>
    intro k   hm hk
    refine m_iload_n (j := 0) C dX12_lineEnd_2 rfl ?_
    refine m_aload_n (j := 1) C dX12_lineEnd_3 rfl ?_
    have rv30 := hR.1 30
    refine m_get (k := 30) C dX12_lineEnd_4 w6_89 (by decide) rfl ?_
    refine m_icmp_ge (tgt := 27) C ⟨by omega, by omega⟩ ⟨by omega, by omega⟩ dX12_lineEnd_7 (by decide) (fun c1 => ?_) (fun c1 => ?_)
    · refine m_iload_n (j := 0) C dX12_lineEnd_27 rfl ?_
      exact m_iret C dX12_lineEnd_28 rfl (Nat.le_of_ble_eq_true rfl) (Nat.le_of_ble_eq_true rfl) ⟨k, rfl, (by omega), rfl, rfl⟩
    · refine m_aload_n (j := 1) C dX12_lineEnd_10 rfl ?_
      refine m_geta (k := 29) C dX12_lineEnd_11 w6_88 (by decide) rfl ?_
      refine m_iload_n (j := 0) C dX12_lineEnd_14 rfl ?_
      refine m_ald (k := 29) C dX12_lineEnd_15 rfl rfl (by decide) (by omega) (by show _ < ((_ : Nat) : Int); simp only [mlen]; omega) (by decide) ?_
      have ra1 := hR.2 29 (k.toNat)
      refine m_bipush (z := 10) C dX12_lineEnd_16 (by decide) ?_
      refine m_icmp_eq (tgt := 27) C ⟨by omega, by omega⟩ ⟨by decide, by decide⟩ dX12_lineEnd_18 (by decide) (fun c2 => ?_) (fun c2 => ?_)
      · refine m_iload_n (j := 0) C dX12_lineEnd_27 rfl ?_
        exact m_iret C dX12_lineEnd_28 rfl (Nat.le_of_ble_eq_true rfl) (Nat.le_of_ble_eq_true rfl) ⟨k, rfl, (by omega), rfl, rfl⟩
      · refine m_iinc (z := k) (j := 0) (lv2 := [(2, .int (iI (k + 1))), (0, .ref h0), (1, .int (iI q))]) C dX12_lineEnd_21 rfl (by decide) rfl ?_
        refine m_goto (tgt := 2) C dX12_lineEnd_24 (by decide) ?_
        refine m_lv (lv2 := [(2, .int (iI (k + 1))), (0, .ref h0), (1, .int (iI q))]) [0, 1, 2] rfl ?_
        exact ih (k + 1) (by omega) (by omega)
set_option maxHeartbeats 4000000 in
set_option maxRecDepth 100000 in
theorem M_lineEnd {l : Launch} {G : GT} {h0 : Nat} {ad ln : Nat → Nat} {v : Nat → Int} {a : Nat → Nat → Int} {q : Int} (hR : RG v a) (ht : 0 ≤ v 30 ∧ v 30 ≤ 500) (hq : 0 ≤ q ∧ q ≤ 1000) : Mm l G yX12_lineEnd cX12_lineEnd 3 (some .int) 0 [.int (iI q)] h0 ad ln v a 0 0 (fun r v2 a2 => ∃ f : Int, r = some (.int (iI f)) ∧ (q ≤ f ∧ (f = q ∨ f ≤ v 30)) ∧ v = v2 ∧ a = a2) := by
  refine Mm.mk (by decide) (Nat.le_of_ble_eq_true rfl) ?_
  intro p e s m args below meth c A C
  refine m_iload_n (j := 1) C dX12_lineEnd_0 rfl ?_
  refine m_istore_n (lv2 := [(2, .int (iI q)), (0, .ref h0), (1, .int (iI q))]) C dX12_lineEnd_1 (by decide) rfl ?_
  refine m_lv (lv2 := [(2, .int (iI q)), (0, .ref h0), (1, .int (iI q))]) [0, 1, 2] rfl ?_
  exact Lp_lineEnd hR ht hq C 1002 q  (by omega) (by omega)
end
section
def RowOK (a : Nat → Nat → Int) (r : Int) : Prop := (0 ≤ r ∧ r < 12016) ∧ (-4 ≤ a 44 r.toNat ∧ a 44 r.toNat < 6000) ∧ (1 ≤ a 46 r.toNat ∧ a 46 r.toNat ≤ 4) ∧ 0 ≤ a 45 r.toNat ∧ (0 ≤ a 44 r.toNat → a 45 r.toNat + a 46 r.toNat ≤ 24000) ∧ (a 44 r.toNat < 0 → a 45 r.toNat + a 46 r.toNat ≤ 480)
set_option maxHeartbeats 4000000 in
set_option maxRecDepth 100000 in
theorem Lp_alike {p : Program} {l : Launch} {e : Env} {s : State} {m : MethodId} {args : Array Value} {below : List Frame} {meth : Method} {c : Code} {G : GT} {A : Nat → Prop} {h0 : Nat} {ad ln : Nat → Nat} {v : Nat → Int} {a : Nat → Nat → Int} {x y : Int} (hR : RG v a) (hx : RowOK a x) (hy : RowOK a y) (C : Cq p s m args meth c cX12_alike yX12_alike (some .int) G A 4) : ∀ (n : Nat) (k : Int), 5 - k < (n : Int) → (0 ≤ k ∧ k ≤ a 46 x.toNat ∧ k ≤ a 46 y.toNat) → mw p l e (rmq 1 0 0) s m args below meth c G A 4 (MQ below (Qm G A (fun rq Lq Eq => ∃ (vq : Nat → Int) (aq : Nat → Nat → Int), mI G h0 ad ln vq aq Lq Eq ∧ (fun r v2 a2 => ∃ f : Int, r = some (.int (iI f)) ∧ (0 ≤ f ∧ f ≤ a 46 x.toNat ∧ f ≤ a 46 y.toNat) ∧ v = v2 ∧ a = a2) rq vq aq)) args s 0 0 A) h0 ad ln v a 0 0 2 [(3, .int (iI k)), (0, .ref h0), (1, .int (iI x)), (2, .int (iI y))] [] := by
  intro n
  induction n with
  | zero =>
    intro k   hm hk
    have uhx := hx
    unfold RowOK at uhx
    have uhy := hy
    unfold RowOK at uhy
    exact absurd hm (by omega)
  | succ n ih =>
    intro k   hm hk
    have uhx := hx
    unfold RowOK at uhx
    have uhy := hy
    unfold RowOK at uhy
    refine m_iload_n (j := 0) C dX12_alike_2 rfl ?_
    refine m_aload_n (j := 1) C dX12_alike_3 rfl ?_
    refine m_geta (k := 46) C dX12_alike_4 w6_105 (by decide) rfl ?_
    refine m_iload_n (j := 2) C dX12_alike_7 rfl ?_
    refine m_ald (k := 46) C dX12_alike_8 rfl rfl (by decide) (by omega) (by show _ < ((_ : Nat) : Int); simp only [mlen]; omega) (by decide) ?_
    have ra1 := hR.2 46 (x.toNat)
    refine m_icmp_ge (tgt := 43) C ⟨by omega, by omega⟩ ⟨by omega, by omega⟩ dX12_alike_9 (by decide) (fun c1 => ?_) (fun c1 => ?_)
    · refine m_iload_n (j := 0) C dX12_alike_43 rfl ?_
      exact m_iret C dX12_alike_44 rfl (Nat.le_of_ble_eq_true rfl) (Nat.le_of_ble_eq_true rfl) ⟨k, rfl, (by omega), rfl, rfl⟩
    · refine m_iload_n (j := 0) C dX12_alike_12 rfl ?_
      refine m_aload_n (j := 1) C dX12_alike_13 rfl ?_
      refine m_geta (k := 46) C dX12_alike_14 w6_105 (by decide) rfl ?_
      refine m_iload_n (j := 3) C dX12_alike_17 rfl ?_
      refine m_ald (k := 46) C dX12_alike_18 rfl rfl (by decide) (by omega) (by show _ < ((_ : Nat) : Int); simp only [mlen]; omega) (by decide) ?_
      have ra2 := hR.2 46 (y.toNat)
      refine m_icmp_ge (tgt := 43) C ⟨by omega, by omega⟩ ⟨by omega, by omega⟩ dX12_alike_19 (by decide) (fun c2 => ?_) (fun c2 => ?_)
      · refine m_iload_n (j := 0) C dX12_alike_43 rfl ?_
        exact m_iret C dX12_alike_44 rfl (Nat.le_of_ble_eq_true rfl) (Nat.le_of_ble_eq_true rfl) ⟨k, rfl, (by omega), rfl, rfl⟩
      · refine m_aload_n (j := 1) C dX12_alike_22 rfl ?_
        refine m_iload_n (j := 2) C dX12_alike_23 rfl ?_
        refine m_iload_n (j := 0) C dX12_alike_24 rfl ?_
        refine m_call (mc2 := 0) (ms2 := 0) (As := [.int (iI x), .int (iI k)]) (rest := []) C (M_rowCell (r := x) (k := k) hR (by omega) (by omega)) dX12_alike_25 kV_X12_324 rfl ck_13 rfl (Nat.le_of_ble_eq_true rfl) ⟨Nat.le_of_ble_eq_true rfl, Nat.le_of_ble_eq_true rfl⟩ ⟨Nat.le_of_ble_eq_true rfl, Nat.le_of_ble_eq_true rfl⟩ (fun rh1 vh1 ah1 h1 => ?_)
        obtain ⟨f1, rfl, hf1, rfl, rfl⟩ := h1
        refine m_st (st2 := [.int (iI f1)]) rfl ?_
        refine m_aload_n (j := 1) C dX12_alike_28 rfl ?_
        refine m_iload_n (j := 3) C dX12_alike_29 rfl ?_
        refine m_iload_n (j := 0) C dX12_alike_30 rfl ?_
        refine m_call (mc2 := 0) (ms2 := 0) (As := [.int (iI y), .int (iI k)]) (rest := [.int (iI f1)]) C (M_rowCell (r := y) (k := k) hR (by omega) (by omega)) dX12_alike_31 kV_X12_324 rfl ck_13 rfl (Nat.le_of_ble_eq_true rfl) ⟨Nat.le_of_ble_eq_true rfl, Nat.le_of_ble_eq_true rfl⟩ ⟨Nat.le_of_ble_eq_true rfl, Nat.le_of_ble_eq_true rfl⟩ (fun rh2 vh2 ah2 h2 => ?_)
        obtain ⟨f2, rfl, hf2, rfl, rfl⟩ := h2
        refine m_st (st2 := [.int (iI f2), .int (iI f1)]) rfl ?_
        refine m_icmp_ne (tgt := 43) C ⟨by omega, by omega⟩ ⟨by omega, by omega⟩ dX12_alike_34 (by decide) (fun c3 => ?_) (fun c3 => ?_)
        · refine m_iload_n (j := 0) C dX12_alike_43 rfl ?_
          exact m_iret C dX12_alike_44 rfl (Nat.le_of_ble_eq_true rfl) (Nat.le_of_ble_eq_true rfl) ⟨k, rfl, (by omega), rfl, rfl⟩
        · refine m_iinc (z := k) (j := 0) (lv2 := [(3, .int (iI (k + 1))), (0, .ref h0), (1, .int (iI x)), (2, .int (iI y))]) C dX12_alike_37 rfl (by decide) rfl ?_
          refine m_goto (tgt := 2) C dX12_alike_40 (by decide) ?_
          refine m_lv (lv2 := [(3, .int (iI (k + 1))), (0, .ref h0), (1, .int (iI x)), (2, .int (iI y))]) [0, 1, 2, 3] rfl ?_
          exact ih (k + 1) (by omega) (by omega)
set_option maxHeartbeats 4000000 in
set_option maxRecDepth 100000 in
theorem M_alike {l : Launch} {G : GT} {h0 : Nat} {ad ln : Nat → Nat} {v : Nat → Int} {a : Nat → Nat → Int} {x y : Int} (hR : RG v a) (hx : RowOK a x) (hy : RowOK a y) : Mm l G yX12_alike cX12_alike 4 (some .int) 1 [.int (iI x), .int (iI y)] h0 ad ln v a 0 0 (fun r v2 a2 => ∃ f : Int, r = some (.int (iI f)) ∧ (0 ≤ f ∧ f ≤ a 46 x.toNat ∧ f ≤ a 46 y.toNat) ∧ v = v2 ∧ a = a2) := by
  refine Mm.mk (by decide) (Nat.le_of_ble_eq_true rfl) ?_
  intro p e s m args below meth c A C
  have uhx := hx
  unfold RowOK at uhx
  have uhy := hy
  unfold RowOK at uhy
  refine m_iconst C dX12_alike_0 ?_
  refine m_istore_n (lv2 := [(3, .int (iI 0)), (0, .ref h0), (1, .int (iI x)), (2, .int (iI y))]) C dX12_alike_1 (by decide) rfl ?_
  refine m_lv (lv2 := [(3, .int (iI 0)), (0, .ref h0), (1, .int (iI x)), (2, .int (iI y))]) [0, 1, 2, 3] rfl ?_
  exact Lp_alike hR hx hy C 6 0  (by omega) (by omega)
set_option maxHeartbeats 4000000 in
set_option maxRecDepth 100000 in
theorem Lp_stands {p : Program} {l : Launch} {e : Env} {s : State} {m : MethodId} {args : Array Value} {below : List Frame} {meth : Method} {c : Code} {G : GT} {A : Nat → Prop} {h0 : Nat} {ad ln : Nat → Nat} {v : Nat → Int} {a : Nat → Nat → Int} {r q u : Int} (hR : RG v a) (hx : RowOK a r) (hq : 0 ≤ q ∧ q ≤ u ∧ u ≤ 40200) (C : Cq p s m args meth c cX12_stands yX12_stands (some .boolean) G A 6) : ∀ (n : Nat) (k f : Int), 5 - k < (n : Int) → (0 ≤ k ∧ k ≤ a 46 r.toNat) → (f = 0 ∨ (f = 1 ∧ q + a 46 r.toNat ≤ u)) → mw p l e (rmq 1 0 0) s m args below meth c G A 6 (MQ below (Qm G A (fun rq Lq Eq => ∃ (vq : Nat → Int) (aq : Nat → Nat → Int), mI G h0 ad ln vq aq Lq Eq ∧ (fun r2 v2 a2 => ∃ f : Int, r2 = some (.int (iI f)) ∧ (f = 0 ∨ (f = 1 ∧ q + a 46 r.toNat ≤ u)) ∧ v = v2 ∧ a = a2) rq vq aq)) args s 0 0 A) h0 ad ln v a 0 0 22 [(5, .int (iI k)), (4, .int (iI f)), (0, .ref h0), (1, .int (iI r)), (2, .int (iI q)), (3, .int (iI u))] [] := by
  intro n
  induction n with
  | zero =>
    intro k f   hm hk hf
    have uhx := hx
    unfold RowOK at uhx
    exact absurd hm (by omega)
  | succ n ih =>
    intro k f   hm hk hf
    have uhx := hx
    unfold RowOK at uhx
    refine m_iload (j := 0) C dX12_stands_22 rfl ?_
    refine m_aload_n (j := 2) C dX12_stands_24 rfl ?_
    refine m_geta (k := 46) C dX12_stands_25 w6_105 (by decide) rfl ?_
    refine m_iload_n (j := 3) C dX12_stands_28 rfl ?_
    refine m_ald (k := 46) C dX12_stands_29 rfl rfl (by decide) (by omega) (by show _ < ((_ : Nat) : Int); simp only [mlen]; omega) (by decide) ?_
    have ra1 := hR.2 46 (r.toNat)
    refine m_icmp_ge (tgt := 70) C ⟨by omega, by omega⟩ ⟨by omega, by omega⟩ dX12_stands_30 (by decide) (fun c1 => ?_) (fun c1 => ?_)
    · refine m_iload (j := 1) C dX12_stands_70 rfl ?_
      exact m_zret C dX12_stands_72 rfl (by omega) (Nat.le_of_ble_eq_true rfl) (Nat.le_of_ble_eq_true rfl) ⟨f, rfl, (by omega), rfl, rfl⟩
    · refine m_iload (j := 1) C dX12_stands_33 rfl ?_
      refine m_if_eq (tgt := 70) C ⟨by omega, by omega⟩ dX12_stands_35 (by decide) (fun c2 => ?_) (fun c2 => ?_)
      · refine m_iload (j := 1) C dX12_stands_70 rfl ?_
        exact m_zret C dX12_stands_72 rfl (by omega) (Nat.le_of_ble_eq_true rfl) (Nat.le_of_ble_eq_true rfl) ⟨f, rfl, (by omega), rfl, rfl⟩
      · refine m_aload_n (j := 2) C dX12_stands_38 rfl ?_
        refine m_iload_n (j := 3) C dX12_stands_39 rfl ?_
        refine m_iload (j := 0) C dX12_stands_40 rfl ?_
        refine m_call (mc2 := 0) (ms2 := 0) (As := [.int (iI r), .int (iI k)]) (rest := []) C (M_rowCell (r := r) (k := k) hR (by omega) (by omega)) dX12_stands_42 kV_X12_324 rfl ck_13 rfl (Nat.le_of_ble_eq_true rfl) ⟨Nat.le_of_ble_eq_true rfl, Nat.le_of_ble_eq_true rfl⟩ ⟨Nat.le_of_ble_eq_true rfl, Nat.le_of_ble_eq_true rfl⟩ (fun rh1 vh1 ah1 h1 => ?_)
        obtain ⟨f1, rfl, hf1, rfl, rfl⟩ := h1
        refine m_st (st2 := [.int (iI f1)]) rfl ?_
        refine m_aload_n (j := 2) C dX12_stands_45 rfl ?_
        refine m_geta (k := 48) C dX12_stands_46 w6_107 (by decide) rfl ?_
        refine m_iload_n (j := 4) C dX12_stands_49 rfl ?_
        refine m_iload (j := 0) C dX12_stands_50 rfl ?_
        refine m_iadd C dX12_stands_52 ?_
        refine m_ald (k := 48) C dX12_stands_53 rfl rfl (by decide) (by omega) (by show _ < ((_ : Nat) : Int); simp only [mlen]; omega) (by decide) ?_
        have ra2 := hR.2 48 ((q + k).toNat)
        refine m_icmp_ne (tgt := 61) C ⟨by omega, by omega⟩ ⟨by omega, by omega⟩ dX12_stands_54 (by decide) (fun c3 => ?_) (fun c3 => ?_)
        · refine m_iconst C dX12_stands_61 ?_
          refine m_istore (lv2 := [(4, .int (iI 0)), (5, .int (iI k)), (0, .ref h0), (1, .int (iI r)), (2, .int (iI q)), (3, .int (iI u))]) C dX12_stands_62 (by decide) rfl ?_
          refine m_iinc (z := k) (j := 1) (lv2 := [(5, .int (iI (k + 1))), (4, .int (iI 0)), (0, .ref h0), (1, .int (iI r)), (2, .int (iI q)), (3, .int (iI u))]) C dX12_stands_64 rfl (by decide) rfl ?_
          refine m_goto (tgt := 22) C dX12_stands_67 (by decide) ?_
          refine m_lv (lv2 := [(5, .int (iI (k + 1))), (4, .int (iI 0)), (0, .ref h0), (1, .int (iI r)), (2, .int (iI q)), (3, .int (iI u))]) [0, 1, 2, 3, 4, 5] rfl ?_
          exact ih (k + 1) 0 (by omega) (by omega) (by omega)
        · refine m_iconst C dX12_stands_57 ?_
          refine m_goto (tgt := 62) C dX12_stands_58 (by decide) ?_
          refine m_istore (lv2 := [(4, .int (iI 1)), (5, .int (iI k)), (0, .ref h0), (1, .int (iI r)), (2, .int (iI q)), (3, .int (iI u))]) C dX12_stands_62 (by decide) rfl ?_
          refine m_iinc (z := k) (j := 1) (lv2 := [(5, .int (iI (k + 1))), (4, .int (iI 1)), (0, .ref h0), (1, .int (iI r)), (2, .int (iI q)), (3, .int (iI u))]) C dX12_stands_64 rfl (by decide) rfl ?_
          refine m_goto (tgt := 22) C dX12_stands_67 (by decide) ?_
          refine m_lv (lv2 := [(5, .int (iI (k + 1))), (4, .int (iI 1)), (0, .ref h0), (1, .int (iI r)), (2, .int (iI q)), (3, .int (iI u))]) [0, 1, 2, 3, 4, 5] rfl ?_
          exact ih (k + 1) 1 (by omega) (by omega) (by omega)
set_option maxHeartbeats 4000000 in
set_option maxRecDepth 100000 in
theorem M_stands {l : Launch} {G : GT} {h0 : Nat} {ad ln : Nat → Nat} {v : Nat → Int} {a : Nat → Nat → Int} {r q u : Int} (hR : RG v a) (hx : RowOK a r) (hq : 0 ≤ q ∧ q ≤ u ∧ u ≤ 40200) : Mm l G yX12_stands cX12_stands 6 (some .boolean) 1 [.int (iI r), .int (iI q), .int (iI u)] h0 ad ln v a 0 0 (fun r2 v2 a2 => ∃ f : Int, r2 = some (.int (iI f)) ∧ (f = 0 ∨ (f = 1 ∧ q + a 46 r.toNat ≤ u)) ∧ v = v2 ∧ a = a2) := by
  refine Mm.mk (by decide) (Nat.le_of_ble_eq_true rfl) ?_
  intro p e s m args below meth c A C
  have uhx := hx
  unfold RowOK at uhx
  refine m_iload_n (j := 2) C dX12_stands_0 rfl ?_
  refine m_aload_n (j := 0) C dX12_stands_1 rfl ?_
  refine m_geta (k := 46) C dX12_stands_2 w6_105 (by decide) rfl ?_
  refine m_iload_n (j := 1) C dX12_stands_5 rfl ?_
  refine m_ald (k := 46) C dX12_stands_6 rfl rfl (by decide) (by omega) (by show _ < ((_ : Nat) : Int); simp only [mlen]; omega) (by decide) ?_
  have ra1 := hR.2 46 (r.toNat)
  refine m_iadd C dX12_stands_7 ?_
  refine m_iload_n (j := 3) C dX12_stands_8 rfl ?_
  refine m_icmp_gt (tgt := 16) C ⟨by omega, by omega⟩ ⟨by omega, by omega⟩ dX12_stands_9 (by decide) (fun c1 => ?_) (fun c1 => ?_)
  · refine m_iconst C dX12_stands_16 ?_
    refine m_istore (lv2 := [(4, .int (iI 0)), (0, .ref h0), (1, .int (iI r)), (2, .int (iI q)), (3, .int (iI u))]) C dX12_stands_17 (by decide) rfl ?_
    refine m_iconst C dX12_stands_19 ?_
    refine m_istore (lv2 := [(5, .int (iI 0)), (4, .int (iI 0)), (0, .ref h0), (1, .int (iI r)), (2, .int (iI q)), (3, .int (iI u))]) C dX12_stands_20 (by decide) rfl ?_
    refine m_lv (lv2 := [(5, .int (iI 0)), (4, .int (iI 0)), (0, .ref h0), (1, .int (iI r)), (2, .int (iI q)), (3, .int (iI u))]) [0, 1, 2, 3, 4, 5] rfl ?_
    exact Lp_stands hR hx hq C 6 0 0  (by omega) (by omega) (by omega)
  · refine m_iconst C dX12_stands_12 ?_
    refine m_goto (tgt := 17) C dX12_stands_13 (by decide) ?_
    refine m_istore (lv2 := [(4, .int (iI 1)), (0, .ref h0), (1, .int (iI r)), (2, .int (iI q)), (3, .int (iI u))]) C dX12_stands_17 (by decide) rfl ?_
    refine m_iconst C dX12_stands_19 ?_
    refine m_istore (lv2 := [(5, .int (iI 0)), (4, .int (iI 1)), (0, .ref h0), (1, .int (iI r)), (2, .int (iI q)), (3, .int (iI u))]) C dX12_stands_20 (by decide) rfl ?_
    refine m_lv (lv2 := [(5, .int (iI 0)), (4, .int (iI 1)), (0, .ref h0), (1, .int (iI r)), (2, .int (iI q)), (3, .int (iI u))]) [0, 1, 2, 3, 4, 5] rfl ?_
    exact Lp_stands hR hx hq C 6 0 1  (by omega) (by omega) (by omega)
set_option maxHeartbeats 4000000 in
set_option maxRecDepth 100000 in
theorem Lp_isShort {p : Program} {l : Launch} {e : Env} {s : State} {m : MethodId} {args : Array Value} {below : List Frame} {meth : Method} {c : Code} {G : GT} {A : Nat → Prop} {h0 : Nat} {ad ln : Nat → Nat} {v : Nat → Int} {a : Nat → Nat → Int} {t : Int} (hR : RG v a) (h4 : 0 ≤ v 4 ∧ v 4 ≤ 30) (hb : ∀ t : Int, 0 ≤ t → t < v 4 → a 8 t.toNat = -1 ∨ (0 ≤ a 8 t.toNat ∧ a 8 t.toNat < t)) (C : Cq p s m args meth c cX12_isShort yX12_isShort (some .boolean) G A 4) : ∀ (n : Nat) (k f : Int), k + 1 < (n : Int) → (-1 ≤ k ∧ k < v 4) → (f = 0 ∨ f = 1) → mw p l e (rmq 0 0 0) s m args below meth c G A 4 (MQ below (Qm G A (fun rq Lq Eq => ∃ (vq : Nat → Int) (aq : Nat → Nat → Int), mI G h0 ad ln vq aq Lq Eq ∧ (fun r v2 a2 => ∃ f : Int, r = some (.int (iI f)) ∧ (f = 0 ∨ f = 1) ∧ v = v2 ∧ a = a2) rq vq aq)) args s 0 0 A) h0 ad ln v a 0 0 4 [(3, .int (iI k)), (2, .int (iI f)), (0, .ref h0), (1, .int (iI t))] [] := by
  intro n
  induction n with
  | zero =>
    intro k f   hm hk hf
    exact absurd hm (by omega)
  | succ n ih =>
    intro k f   hm hk hf
    refine m_iload_n (j := 0) C dX12_isShort_4 rfl ?_
    refine m_if_lt (tgt := 38) C ⟨by omega, by omega⟩ dX12_isShort_5 (by decide) (fun c1 => ?_) (fun c1 => ?_)
    · refine m_iload_n (j := 1) C dX12_isShort_38 rfl ?_
      exact m_zret C dX12_isShort_39 rfl (by omega) (Nat.le_of_ble_eq_true rfl) (Nat.le_of_ble_eq_true rfl) ⟨f, rfl, hf, rfl, rfl⟩
    · refine m_iload_n (j := 1) C dX12_isShort_8 rfl ?_
      refine m_if_ne (tgt := 22) C ⟨by omega, by omega⟩ dX12_isShort_9 (by decide) (fun c2 => ?_) (fun c2 => ?_)
      · refine m_iconst C dX12_isShort_22 ?_
        refine m_goto (tgt := 27) C dX12_isShort_23 (by decide) ?_
        refine m_istore_n (lv2 := [(2, .int (iI 1)), (3, .int (iI k)), (0, .ref h0), (1, .int (iI t))]) C dX12_isShort_27 (by decide) rfl ?_
        refine m_aload_n (j := 2) C dX12_isShort_28 rfl ?_
        refine m_geta (k := 8) C dX12_isShort_29 w6_67 (by decide) rfl ?_
        refine m_iload_n (j := 1) C dX12_isShort_32 rfl ?_
        refine m_ald (k := 8) C dX12_isShort_33 rfl rfl (by decide) (by omega) (by show _ < ((_ : Nat) : Int); simp only [mlen]; omega) (by decide) ?_
        have ra1 := hR.2 8 (k.toNat)
        refine m_istore_n (lv2 := [(3, .int (iI (a 8 k.toNat))), (2, .int (iI 1)), (0, .ref h0), (1, .int (iI t))]) C dX12_isShort_34 (by decide) rfl ?_
        refine m_goto (tgt := 4) C dX12_isShort_35 (by decide) ?_
        refine m_lv (lv2 := [(3, .int (iI (a 8 k.toNat))), (2, .int (iI 1)), (0, .ref h0), (1, .int (iI t))]) [0, 1, 2, 3] rfl ?_
        exact ih (a 8 k.toNat) 1 (by have := hb k (by omega) (by omega); omega) (by have := hb k (by omega) (by omega); omega) (by omega)
      · refine m_aload_n (j := 2) C dX12_isShort_12 rfl ?_
        refine m_geta (k := 6) C dX12_isShort_13 w6_65 (by decide) rfl ?_
        refine m_iload_n (j := 0) C dX12_isShort_16 rfl ?_
        refine m_ald (k := 6) C dX12_isShort_17 rfl rfl (by decide) (by omega) (by show _ < ((_ : Nat) : Int); simp only [mlen]; omega) (by decide) ?_
        have ra2 := hR.2 6 (k.toNat)
        refine m_iconst C dX12_isShort_18 ?_
        refine m_icmp_ne (tgt := 26) C ⟨by omega, by omega⟩ ⟨by decide, by decide⟩ dX12_isShort_19 (by decide) (fun c3 => ?_) (fun c3 => ?_)
        · refine m_iconst C dX12_isShort_26 ?_
          refine m_istore_n (lv2 := [(2, .int (iI 0)), (3, .int (iI k)), (0, .ref h0), (1, .int (iI t))]) C dX12_isShort_27 (by decide) rfl ?_
          refine m_aload_n (j := 2) C dX12_isShort_28 rfl ?_
          refine m_geta (k := 8) C dX12_isShort_29 w6_67 (by decide) rfl ?_
          refine m_iload_n (j := 1) C dX12_isShort_32 rfl ?_
          refine m_ald (k := 8) C dX12_isShort_33 rfl rfl (by decide) (by omega) (by show _ < ((_ : Nat) : Int); simp only [mlen]; omega) (by decide) ?_
          have ra3 := hR.2 8 (k.toNat)
          refine m_istore_n (lv2 := [(3, .int (iI (a 8 k.toNat))), (2, .int (iI 0)), (0, .ref h0), (1, .int (iI t))]) C dX12_isShort_34 (by decide) rfl ?_
          refine m_goto (tgt := 4) C dX12_isShort_35 (by decide) ?_
          refine m_lv (lv2 := [(3, .int (iI (a 8 k.toNat))), (2, .int (iI 0)), (0, .ref h0), (1, .int (iI t))]) [0, 1, 2, 3] rfl ?_
          exact ih (a 8 k.toNat) 0 (by have := hb k (by omega) (by omega); omega) (by have := hb k (by omega) (by omega); omega) (by omega)
        · refine m_iconst C dX12_isShort_22 ?_
          refine m_goto (tgt := 27) C dX12_isShort_23 (by decide) ?_
          refine m_istore_n (lv2 := [(2, .int (iI 1)), (3, .int (iI k)), (0, .ref h0), (1, .int (iI t))]) C dX12_isShort_27 (by decide) rfl ?_
          refine m_aload_n (j := 2) C dX12_isShort_28 rfl ?_
          refine m_geta (k := 8) C dX12_isShort_29 w6_67 (by decide) rfl ?_
          refine m_iload_n (j := 1) C dX12_isShort_32 rfl ?_
          refine m_ald (k := 8) C dX12_isShort_33 rfl rfl (by decide) (by omega) (by show _ < ((_ : Nat) : Int); simp only [mlen]; omega) (by decide) ?_
          have ra4 := hR.2 8 (k.toNat)
          refine m_istore_n (lv2 := [(3, .int (iI (a 8 k.toNat))), (2, .int (iI 1)), (0, .ref h0), (1, .int (iI t))]) C dX12_isShort_34 (by decide) rfl ?_
          refine m_goto (tgt := 4) C dX12_isShort_35 (by decide) ?_
          refine m_lv (lv2 := [(3, .int (iI (a 8 k.toNat))), (2, .int (iI 1)), (0, .ref h0), (1, .int (iI t))]) [0, 1, 2, 3] rfl ?_
          exact ih (a 8 k.toNat) 1 (by have := hb k (by omega) (by omega); omega) (by have := hb k (by omega) (by omega); omega) (by omega)
set_option maxHeartbeats 4000000 in
set_option maxRecDepth 100000 in
theorem M_isShort {l : Launch} {G : GT} {h0 : Nat} {ad ln : Nat → Nat} {v : Nat → Int} {a : Nat → Nat → Int} {t : Int} (hR : RG v a) (h4 : 0 ≤ v 4 ∧ v 4 ≤ 30) (hb : ∀ t : Int, 0 ≤ t → t < v 4 → a 8 t.toNat = -1 ∨ (0 ≤ a 8 t.toNat ∧ a 8 t.toNat < t)) (ht : -1 ≤ t ∧ t < v 4) : Mm l G yX12_isShort cX12_isShort 4 (some .boolean) 0 [.int (iI t)] h0 ad ln v a 0 0 (fun r v2 a2 => ∃ f : Int, r = some (.int (iI f)) ∧ (f = 0 ∨ f = 1) ∧ v = v2 ∧ a = a2) := by
  refine Mm.mk (by decide) (Nat.le_of_ble_eq_true rfl) ?_
  intro p e s m args below meth c A C
  refine m_iconst C dX12_isShort_0 ?_
  refine m_istore_n (lv2 := [(2, .int (iI 0)), (0, .ref h0), (1, .int (iI t))]) C dX12_isShort_1 (by decide) rfl ?_
  refine m_iload_n (j := 2) C dX12_isShort_2 rfl ?_
  refine m_istore_n (lv2 := [(3, .int (iI t)), (2, .int (iI 0)), (0, .ref h0), (1, .int (iI t))]) C dX12_isShort_3 (by decide) rfl ?_
  refine m_lv (lv2 := [(3, .int (iI t)), (2, .int (iI 0)), (0, .ref h0), (1, .int (iI t))]) [0, 1, 2, 3] rfl ?_
  exact Lp_isShort hR h4 hb C 32 t 0  (by omega) ht (by omega)
set_option maxHeartbeats 4000000 in
set_option maxRecDepth 100000 in
theorem Lp_longest {p : Program} {l : Launch} {e : Env} {s : State} {m : MethodId} {args : Array Value} {below : List Frame} {meth : Method} {c : Code} {G : GT} {A : Nat → Prop} {h0 : Nat} {ad ln : Nat → Nat} {v : Nat → Int} {a : Nat → Nat → Int} {q x u : Int} (hR : RG v a) (hq : q = 0 ∨ q = 1) (h47 : 0 ≤ a 47 q.toNat ∧ a 47 q.toNat ≤ 6008) (hrow : ∀ r : Int, 6008 * q ≤ r → r < 6008 * q + a 47 q.toNat → RowOK a r) (hx : 0 ≤ x ∧ x ≤ u ∧ u ≤ 40200) (C : Cq p s m args meth c cX12_longest yX12_longest (some .int) G A 6) : ∀ (n : Nat) (k w1 : Int), 12017 - k < (n : Int) → (6008 * q ≤ k ∧ k ≤ 6008 * q + a 47 q.toNat) → (w1 = -1 ∨ (6008 * q ≤ w1 ∧ w1 < 6008 * q + a 47 q.toNat ∧ x + a 46 w1.toNat ≤ u)) → mw p l e (rmq 2 0 0) s m args below meth c G A 6 (MQ below (Qm G A (fun rq Lq Eq => ∃ (vq : Nat → Int) (aq : Nat → Nat → Int), mI G h0 ad ln vq aq Lq Eq ∧ (fun r2 v2 a2 => ∃ f : Int, r2 = some (.int (iI f)) ∧ (f = -1 ∨ (6008 * q ≤ f ∧ f < 6008 * q + a 47 q.toNat ∧ x + a 46 f.toNat ≤ u)) ∧ v = v2 ∧ a = a2) rq vq aq)) args s 0 0 A) h0 ad ln v a 0 0 10 [(5, .int (iI k)), (4, .int (iI w1)), (0, .ref h0), (1, .int (iI q)), (2, .int (iI x)), (3, .int (iI u))] [] := by
  intro n
  induction n with
  | zero =>
    intro k w1   hm hk hb
    exact absurd hm (by omega)
  | succ n ih =>
    intro k w1   hm hk hb
    refine m_iload (j := 0) C dX12_longest_10 rfl ?_
    refine m_sipush (z := 6008) C dX12_longest_12 (by decide) ?_
    refine m_iload_n (j := 3) C dX12_longest_15 rfl ?_
    refine m_imul C dX12_longest_16 ?_
    refine m_aload_n (j := 2) C dX12_longest_17 rfl ?_
    refine m_geta (k := 47) C dX12_longest_18 w6_106 (by decide) rfl ?_
    refine m_iload_n (j := 3) C dX12_longest_21 rfl ?_
    refine m_ald (k := 47) C dX12_longest_22 rfl rfl (by decide) (by omega) (by show _ < ((_ : Nat) : Int); simp only [mlen]; omega) (by decide) ?_
    have ra1 := hR.2 47 (q.toNat)
    refine m_iadd C dX12_longest_23 ?_
    refine m_icmp_ge (tgt := 70) C ⟨by omega, by omega⟩ ⟨by omega, by omega⟩ dX12_longest_24 (by decide) (fun c1 => ?_) (fun c1 => ?_)
    · refine m_iload (j := 1) C dX12_longest_70 rfl ?_
      exact m_iret C dX12_longest_72 rfl (Nat.le_of_ble_eq_true rfl) (Nat.le_of_ble_eq_true rfl) ⟨w1, rfl, hb, rfl, rfl⟩
    · refine m_iload (j := 1) C dX12_longest_27 rfl ?_
      refine m_if_lt (tgt := 49) C ⟨by omega, by omega⟩ dX12_longest_29 (by decide) (fun c2 => ?_) (fun c2 => ?_)
      · refine m_aload_n (j := 2) C dX12_longest_49 rfl ?_
        refine m_iload (j := 0) C dX12_longest_50 rfl ?_
        refine m_iload_n (j := 4) C dX12_longest_52 rfl ?_
        refine m_iload_n (j := 5) C dX12_longest_53 rfl ?_
        refine m_call (mc2 := 0) (ms2 := 0) (As := [.int (iI k), .int (iI x), .int (iI u)]) (rest := []) C (M_stands (r := k) (q := x) (u := u) hR (hrow k (by omega) (by omega)) hx) dX12_longest_54 kV_X12_327 rfl ck_13 rfl (Nat.le_of_ble_eq_true rfl) ⟨Nat.le_of_ble_eq_true rfl, Nat.le_of_ble_eq_true rfl⟩ ⟨Nat.le_of_ble_eq_true rfl, Nat.le_of_ble_eq_true rfl⟩ (fun rh1 vh1 ah1 h1 => ?_)
        obtain ⟨f1, rfl, hf1, rfl, rfl⟩ := h1
        refine m_st (st2 := [.int (iI f1)]) rfl ?_
        refine m_if_eq (tgt := 64) C ⟨by omega, by omega⟩ dX12_longest_57 (by decide) (fun c3 => ?_) (fun c3 => ?_)
        · refine m_iinc (z := k) (j := 0) (lv2 := [(5, .int (iI (k + 1))), (4, .int (iI w1)), (0, .ref h0), (1, .int (iI q)), (2, .int (iI x)), (3, .int (iI u))]) C dX12_longest_64 rfl (by decide) rfl ?_
          refine m_goto (tgt := 10) C dX12_longest_67 (by decide) ?_
          refine m_lv (lv2 := [(5, .int (iI (k + 1))), (4, .int (iI w1)), (0, .ref h0), (1, .int (iI q)), (2, .int (iI x)), (3, .int (iI u))]) [0, 1, 2, 3, 4, 5] rfl ?_
          exact ih (k + 1) w1 (by omega) (by omega) (by omega)
        · refine m_iload (j := 0) C dX12_longest_60 rfl ?_
          refine m_istore (lv2 := [(4, .int (iI k)), (5, .int (iI k)), (0, .ref h0), (1, .int (iI q)), (2, .int (iI x)), (3, .int (iI u))]) C dX12_longest_62 (by decide) rfl ?_
          refine m_iinc (z := k) (j := 1) (lv2 := [(5, .int (iI (k + 1))), (4, .int (iI k)), (0, .ref h0), (1, .int (iI q)), (2, .int (iI x)), (3, .int (iI u))]) C dX12_longest_64 rfl (by decide) rfl ?_
          refine m_goto (tgt := 10) C dX12_longest_67 (by decide) ?_
          refine m_lv (lv2 := [(5, .int (iI (k + 1))), (4, .int (iI k)), (0, .ref h0), (1, .int (iI q)), (2, .int (iI x)), (3, .int (iI u))]) [0, 1, 2, 3, 4, 5] rfl ?_
          exact ih (k + 1) k (by omega) (by omega) (by omega)
      · refine m_aload_n (j := 2) C dX12_longest_32 rfl ?_
        refine m_geta (k := 46) C dX12_longest_33 w6_105 (by decide) rfl ?_
        refine m_iload (j := 0) C dX12_longest_36 rfl ?_
        refine m_ald (k := 46) C dX12_longest_38 rfl rfl (by decide) (by omega) (by show _ < ((_ : Nat) : Int); simp only [mlen]; omega) (by decide) ?_
        have ra2 := hR.2 46 (k.toNat)
        refine m_aload_n (j := 2) C dX12_longest_39 rfl ?_
        refine m_geta (k := 46) C dX12_longest_40 w6_105 (by decide) rfl ?_
        refine m_iload (j := 1) C dX12_longest_43 rfl ?_
        refine m_ald (k := 46) C dX12_longest_45 rfl rfl (by decide) (by omega) (by show _ < ((_ : Nat) : Int); simp only [mlen]; omega) (by decide) ?_
        have ra3 := hR.2 46 (w1.toNat)
        refine m_icmp_le (tgt := 64) C ⟨by omega, by omega⟩ ⟨by omega, by omega⟩ dX12_longest_46 (by decide) (fun c4 => ?_) (fun c4 => ?_)
        · refine m_iinc (z := k) (j := 0) (lv2 := [(5, .int (iI (k + 1))), (4, .int (iI w1)), (0, .ref h0), (1, .int (iI q)), (2, .int (iI x)), (3, .int (iI u))]) C dX12_longest_64 rfl (by decide) rfl ?_
          refine m_goto (tgt := 10) C dX12_longest_67 (by decide) ?_
          refine m_lv (lv2 := [(5, .int (iI (k + 1))), (4, .int (iI w1)), (0, .ref h0), (1, .int (iI q)), (2, .int (iI x)), (3, .int (iI u))]) [0, 1, 2, 3, 4, 5] rfl ?_
          exact ih (k + 1) w1 (by omega) (by omega) (by omega)
        · refine m_aload_n (j := 2) C dX12_longest_49 rfl ?_
          refine m_iload (j := 0) C dX12_longest_50 rfl ?_
          refine m_iload_n (j := 4) C dX12_longest_52 rfl ?_
          refine m_iload_n (j := 5) C dX12_longest_53 rfl ?_
          refine m_call (mc2 := 0) (ms2 := 0) (As := [.int (iI k), .int (iI x), .int (iI u)]) (rest := []) C (M_stands (r := k) (q := x) (u := u) hR (hrow k (by omega) (by omega)) hx) dX12_longest_54 kV_X12_327 rfl ck_13 rfl (Nat.le_of_ble_eq_true rfl) ⟨Nat.le_of_ble_eq_true rfl, Nat.le_of_ble_eq_true rfl⟩ ⟨Nat.le_of_ble_eq_true rfl, Nat.le_of_ble_eq_true rfl⟩ (fun rh2 vh2 ah2 h2 => ?_)
          obtain ⟨f2, rfl, hf2, rfl, rfl⟩ := h2
          refine m_st (st2 := [.int (iI f2)]) rfl ?_
          refine m_if_eq (tgt := 64) C ⟨by omega, by omega⟩ dX12_longest_57 (by decide) (fun c5 => ?_) (fun c5 => ?_)
          · refine m_iinc (z := k) (j := 0) (lv2 := [(5, .int (iI (k + 1))), (4, .int (iI w1)), (0, .ref h0), (1, .int (iI q)), (2, .int (iI x)), (3, .int (iI u))]) C dX12_longest_64 rfl (by decide) rfl ?_
            refine m_goto (tgt := 10) C dX12_longest_67 (by decide) ?_
            refine m_lv (lv2 := [(5, .int (iI (k + 1))), (4, .int (iI w1)), (0, .ref h0), (1, .int (iI q)), (2, .int (iI x)), (3, .int (iI u))]) [0, 1, 2, 3, 4, 5] rfl ?_
            exact ih (k + 1) w1 (by omega) (by omega) (by omega)
          · refine m_iload (j := 0) C dX12_longest_60 rfl ?_
            refine m_istore (lv2 := [(4, .int (iI k)), (5, .int (iI k)), (0, .ref h0), (1, .int (iI q)), (2, .int (iI x)), (3, .int (iI u))]) C dX12_longest_62 (by decide) rfl ?_
            refine m_iinc (z := k) (j := 1) (lv2 := [(5, .int (iI (k + 1))), (4, .int (iI k)), (0, .ref h0), (1, .int (iI q)), (2, .int (iI x)), (3, .int (iI u))]) C dX12_longest_64 rfl (by decide) rfl ?_
            refine m_goto (tgt := 10) C dX12_longest_67 (by decide) ?_
            refine m_lv (lv2 := [(5, .int (iI (k + 1))), (4, .int (iI k)), (0, .ref h0), (1, .int (iI q)), (2, .int (iI x)), (3, .int (iI u))]) [0, 1, 2, 3, 4, 5] rfl ?_
            exact ih (k + 1) k (by omega) (by omega) (by omega)
set_option maxHeartbeats 4000000 in
set_option maxRecDepth 100000 in
theorem M_longest {l : Launch} {G : GT} {h0 : Nat} {ad ln : Nat → Nat} {v : Nat → Int} {a : Nat → Nat → Int} {q x u : Int} (hR : RG v a) (hq : q = 0 ∨ q = 1) (h47 : 0 ≤ a 47 q.toNat ∧ a 47 q.toNat ≤ 6008) (hrow : ∀ r : Int, 6008 * q ≤ r → r < 6008 * q + a 47 q.toNat → RowOK a r) (hx : 0 ≤ x ∧ x ≤ u ∧ u ≤ 40200) : Mm l G yX12_longest cX12_longest 6 (some .int) 2 [.int (iI q), .int (iI x), .int (iI u)] h0 ad ln v a 0 0 (fun r2 v2 a2 => ∃ f : Int, r2 = some (.int (iI f)) ∧ (f = -1 ∨ (6008 * q ≤ f ∧ f < 6008 * q + a 47 q.toNat ∧ x + a 46 f.toNat ≤ u)) ∧ v = v2 ∧ a = a2) := by
  refine Mm.mk (by decide) (Nat.le_of_ble_eq_true rfl) ?_
  intro p e s m args below meth c A C
  refine m_iconst C dX12_longest_0 ?_
  refine m_istore (lv2 := [(4, .int (iI (-1))), (0, .ref h0), (1, .int (iI q)), (2, .int (iI x)), (3, .int (iI u))]) C dX12_longest_1 (by decide) rfl ?_
  refine m_sipush (z := 6008) C dX12_longest_3 (by decide) ?_
  refine m_iload_n (j := 2) C dX12_longest_6 rfl ?_
  refine m_imul C dX12_longest_7 ?_
  refine m_istore (lv2 := [(5, .int (iI (6008 * q))), (4, .int (iI (-1))), (0, .ref h0), (1, .int (iI q)), (2, .int (iI x)), (3, .int (iI u))]) C dX12_longest_8 (by decide) rfl ?_
  refine m_lv (lv2 := [(5, .int (iI (6008 * q))), (4, .int (iI (-1))), (0, .ref h0), (1, .int (iI q)), (2, .int (iI x)), (3, .int (iI u))]) [0, 1, 2, 3, 4, 5] rfl ?_
  exact Lp_longest hR hq h47 hrow hx C 12018 (6008 * q) (-1)  (by omega) (by omega) (by omega)
set_option maxHeartbeats 4000000 in
set_option maxRecDepth 100000 in
theorem Lp_isRead2 {p : Program} {l : Launch} {e : Env} {s : State} {m : MethodId} {args : Array Value} {below : List Frame} {meth : Method} {c : Code} {G : GT} {A : Nat → Prop} {h0 : Nat} {ad ln : Nat → Nat} {v : Nat → Int} {a : Nat → Nat → Int} {q k : Int} (hR : RG v a) (hq : q = 0 ∨ q = 1) (h47 : 0 ≤ a 47 q.toNat ∧ a 47 q.toNat ≤ 6008) (hrow : ∀ r : Int, 6008 * q ≤ r → r < 6008 * q + a 47 q.toNat → RowOK a r) (hk : 6008 * q ≤ k ∧ k < 6008 * q + a 47 q.toNat) (hout : mw p l e (rmq 2 0 0) s m args below meth c G A 6 (MQ below (Qm G A (fun rq Lq Eq => ∃ (vq : Nat → Int) (aq : Nat → Nat → Int), mI G h0 ad ln vq aq Lq Eq ∧ (fun r v2 a2 => ∃ f : Int, r = some (.int (iI f)) ∧ (f = 0 ∨ f = 1) ∧ v = v2 ∧ a = a2) rq vq aq)) args s 0 0 A) h0 ad ln v a 0 0 91 [(3, .int (iI k)), (2, .int (iI (6008 * q))), (0, .ref h0), (1, .int (iI q))] []) (C : Cq p s m args meth c cX12_isReadable yX12_isReadable (some .boolean) G A 6) : ∀ (n : Nat) (j : Int), 12017 - j < (n : Int) → (6008 * q ≤ j ∧ j ≤ k) → mw p l e (rmq 2 0 0) s m args below meth c G A 6 (MQ below (Qm G A (fun rq Lq Eq => ∃ (vq : Nat → Int) (aq : Nat → Nat → Int), mI G h0 ad ln vq aq Lq Eq ∧ (fun r v2 a2 => ∃ f : Int, r = some (.int (iI f)) ∧ (f = 0 ∨ f = 1) ∧ v = v2 ∧ a = a2) rq vq aq)) args s 0 0 A) h0 ad ln v a 0 0 45 [(4, .int (iI j)), (3, .int (iI k)), (2, .int (iI (6008 * q))), (0, .ref h0), (1, .int (iI q))] [] := by
  intro n
  induction n with
  | zero =>
    intro j   hm hj
    exact absurd hm (by omega)
  | succ n ih =>
    intro j   hm hj
    refine m_iload (j := 0) C dX12_isReadable_45 rfl ?_
    refine m_iload_n (j := 1) C dX12_isReadable_47 rfl ?_
    refine m_icmp_ge (tgt := 91) C ⟨by omega, by omega⟩ ⟨by omega, by omega⟩ dX12_isReadable_48 (by decide) (fun c1 => ?_) (fun c1 => ?_)
    · refine m_lv (lv2 := [(3, .int (iI k)), (2, .int (iI (6008 * q))), (0, .ref h0), (1, .int (iI q))]) [1, 2, 3, 4] rfl ?_
      exact hout
    · refine m_aload_n (j := 3) C dX12_isReadable_51 rfl ?_
      refine m_iload_n (j := 1) C dX12_isReadable_52 rfl ?_
      refine m_iload (j := 0) C dX12_isReadable_53 rfl ?_
      refine m_call (mc2 := 0) (ms2 := 0) (As := [.int (iI k), .int (iI j)]) (rest := []) C (M_alike (x := k) (y := j) hR (hrow k (by omega) (by omega)) (hrow j (by omega) (by omega))) dX12_isReadable_55 kV_X12_404 rfl ck_13 rfl (Nat.le_of_ble_eq_true rfl) ⟨Nat.le_of_ble_eq_true rfl, Nat.le_of_ble_eq_true rfl⟩ ⟨Nat.le_of_ble_eq_true rfl, Nat.le_of_ble_eq_true rfl⟩ (fun rh1 vh1 ah1 h1 => ?_)
      obtain ⟨f1, rfl, hf1, rfl, rfl⟩ := h1
      have gf1 := hrow k (by omega) (by omega)
      have kf1 := hrow j (by omega) (by omega)
      unfold RowOK at gf1 kf1
      refine m_st (st2 := [.int (iI f1)]) rfl ?_
      refine m_istore (lv2 := [(5, .int (iI f1)), (4, .int (iI j)), (3, .int (iI k)), (2, .int (iI (6008 * q))), (0, .ref h0), (1, .int (iI q))]) C dX12_isReadable_58 (by decide) rfl ?_
      refine m_iload (j := 0) C dX12_isReadable_60 rfl ?_
      refine m_aload_n (j := 4) C dX12_isReadable_62 rfl ?_
      refine m_geta (k := 46) C dX12_isReadable_63 w6_105 (by decide) rfl ?_
      refine m_iload_n (j := 2) C dX12_isReadable_66 rfl ?_
      refine m_ald (k := 46) C dX12_isReadable_67 rfl rfl (by decide) (by omega) (by show _ < ((_ : Nat) : Int); simp only [mlen]; omega) (by decide) ?_
      have ra1 := hR.2 46 (k.toNat)
      refine m_icmp_eq (tgt := 83) C ⟨by omega, by omega⟩ ⟨by omega, by omega⟩ dX12_isReadable_68 (by decide) (fun c2 => ?_) (fun c2 => ?_)
      · refine m_iconst C dX12_isReadable_83 ?_
        exact m_zret C dX12_isReadable_84 rfl (Or.inl rfl) (Nat.le_of_ble_eq_true rfl) (Nat.le_of_ble_eq_true rfl) ⟨0, rfl, (by omega), rfl, rfl⟩
      · refine m_iload (j := 0) C dX12_isReadable_71 rfl ?_
        refine m_aload_n (j := 4) C dX12_isReadable_73 rfl ?_
        refine m_geta (k := 46) C dX12_isReadable_74 w6_105 (by decide) rfl ?_
        refine m_iload (j := 1) C dX12_isReadable_77 rfl ?_
        refine m_ald (k := 46) C dX12_isReadable_79 rfl rfl (by decide) (by omega) (by show _ < ((_ : Nat) : Int); simp only [mlen]; omega) (by decide) ?_
        have ra2 := hR.2 46 (j.toNat)
        refine m_icmp_ne (tgt := 85) C ⟨by omega, by omega⟩ ⟨by omega, by omega⟩ dX12_isReadable_80 (by decide) (fun c3 => ?_) (fun c3 => ?_)
        · refine m_iinc (z := j) (j := 1) (lv2 := [(4, .int (iI (j + 1))), (5, .int (iI f1)), (3, .int (iI k)), (2, .int (iI (6008 * q))), (0, .ref h0), (1, .int (iI q))]) C dX12_isReadable_85 rfl (by decide) rfl ?_
          refine m_goto (tgt := 45) C dX12_isReadable_88 (by decide) ?_
          refine m_lv (lv2 := [(4, .int (iI (j + 1))), (3, .int (iI k)), (2, .int (iI (6008 * q))), (0, .ref h0), (1, .int (iI q))]) [0, 2, 3, 4, 5] rfl ?_
          exact ih (j + 1) (by omega) (by omega)
        · refine m_iconst C dX12_isReadable_83 ?_
          exact m_zret C dX12_isReadable_84 rfl (Or.inl rfl) (Nat.le_of_ble_eq_true rfl) (Nat.le_of_ble_eq_true rfl) ⟨0, rfl, (by omega), rfl, rfl⟩
set_option maxHeartbeats 4000000 in
set_option maxRecDepth 100000 in
theorem Lp_isRead1 {p : Program} {l : Launch} {e : Env} {s : State} {m : MethodId} {args : Array Value} {below : List Frame} {meth : Method} {c : Code} {G : GT} {A : Nat → Prop} {h0 : Nat} {ad ln : Nat → Nat} {v : Nat → Int} {a : Nat → Nat → Int} {q : Int} (hR : RG v a) (hq : q = 0 ∨ q = 1) (h47 : 0 ≤ a 47 q.toNat ∧ a 47 q.toNat ≤ 6008) (hrow : ∀ r : Int, 6008 * q ≤ r → r < 6008 * q + a 47 q.toNat → RowOK a r) (C : Cq p s m args meth c cX12_isReadable yX12_isReadable (some .boolean) G A 6) : ∀ (n : Nat) (k : Int), 12017 - k < (n : Int) → (6008 * q ≤ k ∧ k ≤ 6008 * q + a 47 q.toNat) → mw p l e (rmq 2 0 0) s m args below meth c G A 6 (MQ below (Qm G A (fun rq Lq Eq => ∃ (vq : Nat → Int) (aq : Nat → Nat → Int), mI G h0 ad ln vq aq Lq Eq ∧ (fun r v2 a2 => ∃ f : Int, r = some (.int (iI f)) ∧ (f = 0 ∨ f = 1) ∧ v = v2 ∧ a = a2) rq vq aq)) args s 0 0 A) h0 ad ln v a 0 0 8 [(3, .int (iI k)), (2, .int (iI (6008 * q))), (0, .ref h0), (1, .int (iI q))] [] := by
  intro n
  induction n with
  | zero =>
    intro k   hm hk
    exact absurd hm (by omega)
  | succ n ih =>
    intro k   hm hk
    refine m_iload_n (j := 0) C dX12_isReadable_8 rfl ?_
    refine m_iload_n (j := 1) C dX12_isReadable_9 rfl ?_
    refine m_aload_n (j := 2) C dX12_isReadable_10 rfl ?_
    refine m_geta (k := 47) C dX12_isReadable_11 w6_106 (by decide) rfl ?_
    refine m_iload_n (j := 3) C dX12_isReadable_14 rfl ?_
    refine m_ald (k := 47) C dX12_isReadable_15 rfl rfl (by decide) (by omega) (by show _ < ((_ : Nat) : Int); simp only [mlen]; omega) (by decide) ?_
    have ra1 := hR.2 47 (q.toNat)
    refine m_iadd C dX12_isReadable_16 ?_
    refine m_icmp_ge (tgt := 97) C ⟨by omega, by omega⟩ ⟨by omega, by omega⟩ dX12_isReadable_17 (by decide) (fun c1 => ?_) (fun c1 => ?_)
    · refine m_iconst C dX12_isReadable_97 ?_
      exact m_zret C dX12_isReadable_98 rfl (Or.inr rfl) (Nat.le_of_ble_eq_true rfl) (Nat.le_of_ble_eq_true rfl) ⟨1, rfl, (by omega), rfl, rfl⟩
    · refine m_aload_n (j := 2) C dX12_isReadable_20 rfl ?_
      refine m_iload_n (j := 0) C dX12_isReadable_21 rfl ?_
      refine m_aload_n (j := 2) C dX12_isReadable_22 rfl ?_
      refine m_geta (k := 46) C dX12_isReadable_23 w6_105 (by decide) rfl ?_
      refine m_iload_n (j := 0) C dX12_isReadable_26 rfl ?_
      refine m_ald (k := 46) C dX12_isReadable_27 rfl rfl (by decide) (by omega) (by show _ < ((_ : Nat) : Int); simp only [mlen]; omega) (by decide) ?_
      have ra2 := hR.2 46 (k.toNat)
      refine m_iconst C dX12_isReadable_28 ?_
      refine m_isub C dX12_isReadable_29 ?_
      have gr := hrow k (by omega) (by omega)
      unfold RowOK at gr
      refine m_call (mc2 := 0) (ms2 := 0) (As := [.int (iI k), .int (iI ((a 46 k.toNat) - 1))]) (rest := []) C (M_rowCell (r := k) (k := (a 46 k.toNat) - 1) hR (by omega) (by omega)) dX12_isReadable_30 kV_X12_324 rfl ck_13 rfl (Nat.le_of_ble_eq_true rfl) ⟨Nat.le_of_ble_eq_true rfl, Nat.le_of_ble_eq_true rfl⟩ ⟨Nat.le_of_ble_eq_true rfl, Nat.le_of_ble_eq_true rfl⟩ (fun rh1 vh1 ah1 h1 => ?_)
      obtain ⟨f1, rfl, hf1, rfl, rfl⟩ := h1
      refine m_st (st2 := [.int (iI f1)]) rfl ?_
      refine m_aload_n (j := 2) C dX12_isReadable_33 rfl ?_
      have rv33 := hR.1 33
      refine m_get (k := 33) C dX12_isReadable_34 w6_92 (by decide) rfl ?_
      refine m_icmp_ne (tgt := 42) C ⟨by omega, by omega⟩ ⟨by omega, by omega⟩ dX12_isReadable_37 (by decide) (fun c2 => ?_) (fun c2 => ?_)
      · refine m_iload_n (j := 1) C dX12_isReadable_42 rfl ?_
        refine m_istore (lv2 := [(4, .int (iI (6008 * q))), (3, .int (iI k)), (2, .int (iI (6008 * q))), (0, .ref h0), (1, .int (iI q))]) C dX12_isReadable_43 (by decide) rfl ?_
        refine m_lv (lv2 := [(4, .int (iI (6008 * q))), (3, .int (iI k)), (2, .int (iI (6008 * q))), (0, .ref h0), (1, .int (iI q))]) [0, 1, 2, 3, 4] rfl ?_
        refine Lp_isRead2 hR hq h47 hrow (by omega) ?_ C 12018 (6008 * q) (by omega) (by omega)
        refine m_iinc (z := k) (j := 0) (lv2 := [(3, .int (iI (k + 1))), (2, .int (iI (6008 * q))), (0, .ref h0), (1, .int (iI q))]) C dX12_isReadable_91 rfl (by decide) rfl ?_
        refine m_goto (tgt := 8) C dX12_isReadable_94 (by decide) ?_
        exact ih (k + 1) (by omega) (by omega)
      · refine m_iconst C dX12_isReadable_40 ?_
        exact m_zret C dX12_isReadable_41 rfl (Or.inl rfl) (Nat.le_of_ble_eq_true rfl) (Nat.le_of_ble_eq_true rfl) ⟨0, rfl, (by omega), rfl, rfl⟩
set_option maxHeartbeats 4000000 in
set_option maxRecDepth 100000 in
theorem M_isReadable {l : Launch} {G : GT} {h0 : Nat} {ad ln : Nat → Nat} {v : Nat → Int} {a : Nat → Nat → Int} {q : Int} (hR : RG v a) (hq : q = 0 ∨ q = 1) (h47 : 0 ≤ a 47 q.toNat ∧ a 47 q.toNat ≤ 6008) (hrow : ∀ r : Int, 6008 * q ≤ r → r < 6008 * q + a 47 q.toNat → RowOK a r) : Mm l G yX12_isReadable cX12_isReadable 6 (some .boolean) 2 [.int (iI q)] h0 ad ln v a 0 0 (fun r v2 a2 => ∃ f : Int, r = some (.int (iI f)) ∧ (f = 0 ∨ f = 1) ∧ v = v2 ∧ a = a2) := by
  refine Mm.mk (by decide) (Nat.le_of_ble_eq_true rfl) ?_
  intro p e s m args below meth c A C
  refine m_sipush (z := 6008) C dX12_isReadable_0 (by decide) ?_
  refine m_iload_n (j := 1) C dX12_isReadable_3 rfl ?_
  refine m_imul C dX12_isReadable_4 ?_
  refine m_istore_n (lv2 := [(2, .int (iI (6008 * q))), (0, .ref h0), (1, .int (iI q))]) C dX12_isReadable_5 (by decide) rfl ?_
  refine m_iload_n (j := 0) C dX12_isReadable_6 rfl ?_
  refine m_istore_n (lv2 := [(3, .int (iI (6008 * q))), (2, .int (iI (6008 * q))), (0, .ref h0), (1, .int (iI q))]) C dX12_isReadable_7 (by decide) rfl ?_
  refine m_lv (lv2 := [(3, .int (iI (6008 * q))), (2, .int (iI (6008 * q))), (0, .ref h0), (1, .int (iI q))]) [0, 1, 2, 3] rfl ?_
  exact Lp_isRead1 hR hq h47 hrow C 12018 (6008 * q)  (by omega) (by omega)
end
section
set_option maxHeartbeats 4000000 in
set_option maxRecDepth 100000 in
theorem Lp_putInd {p : Program} {l : Launch} {e : Env} {s : State} {m : MethodId} {args : Array Value} {below : List Frame} {meth : Method} {c : Code} {G : GT} {A : Nat → Prop} {h0 : Nat} {ad ln : Nat → Nat} {v0 : Nat → Int} {a0 : Nat → Nat → Int} {t w1 : Int} (ht : 0 ≤ t ∧ t < 30) (hw : 0 ≤ w1 ∧ w1 ≤ 3) (h16 : 0 ≤ a0 16 (4 * t + w1).toNat ∧ a0 16 (4 * t + w1).toNat ≤ 4) (h25 : 0 ≤ v0 25 ∧ v0 25 ≤ 6000) (C : Cq p s m args meth c cX12_putIndicator yX12_putIndicator none G A 5) : ∀ (n : Nat) (k : Int) (v : Nat → Int) (a : Nat → Nat → Int), 5 - k < (n : Int) → (0 ≤ k ∧ k ≤ a0 16 (4 * t + w1).toNat) → v = v0 → (∀ j, j ≠ 24 → a j = a0 j) → RG v a → mw p l e (rmq 0 0 0) s m args below meth c G A 5 (MQ below (Qm G A (fun rq Lq Eq => ∃ (vq : Nat → Int) (aq : Nat → Nat → Int), mI G h0 ad ln vq aq Lq Eq ∧ (fun r v2 a2 => r = none ∧ v2 = va_up v0 25 (v0 25 + a0 16 (4 * t + w1).toNat) ∧ (∀ j, j ≠ 24 → a2 j = a0 j) ∧ RG v2 a2) rq vq aq)) args s 0 0 A) h0 ad ln v a 0 0 9 [(4, .int (iI k)), (3, .int (iI (4 * t + w1))), (0, .ref h0), (1, .int (iI t)), (2, .int (iI w1))] [] := by
  intro n
  induction n with
  | zero =>
    intro k  v a hm hk ev ha hr
    refine hv2 (show v 25 = v0 25 from by rw [ev]) (show a 16 (4 * t + w1).toNat = a0 16 (4 * t + w1).toNat from congrFun (ha 16 (by decide)) _) (fun q25 q16 => ?_)
    exact absurd hm (by omega)
  | succ n ih =>
    intro k  v a hm hk ev ha hr
    refine hv2 (show v 25 = v0 25 from by rw [ev]) (show a 16 (4 * t + w1).toNat = a0 16 (4 * t + w1).toNat from congrFun (ha 16 (by decide)) _) (fun q25 q16 => ?_)
    refine m_iload (j := 0) C dX12_putIndicator_9 rfl ?_
    refine m_aload_n (j := 2) C dX12_putIndicator_11 rfl ?_
    refine m_geta (k := 16) C dX12_putIndicator_12 w6_75 (by decide) rfl ?_
    refine m_iload_n (j := 1) C dX12_putIndicator_15 rfl ?_
    refine m_ald (k := 16) C dX12_putIndicator_16 rfl rfl (by decide) (by omega) (by show _ < ((_ : Nat) : Int); simp only [mlen]; omega) (by decide) ?_
    have ra1 := hr.2 16 ((4 * t + w1).toNat)
    refine m_icmp_ge (tgt := 49) C ⟨by omega, by omega⟩ ⟨by omega, by omega⟩ dX12_putIndicator_17 (by decide) (fun c1 => ?_) (fun c1 => ?_)
    · refine m_aload_n (j := 2) C dX12_putIndicator_49 rfl ?_
      refine m_dup C dX12_putIndicator_50 rfl ?_
      have rv25 := hr.1 25
      refine m_get (k := 25) C dX12_putIndicator_51 w6_84 (by decide) rfl ?_
      refine m_aload_n (j := 2) C dX12_putIndicator_54 rfl ?_
      refine m_geta (k := 16) C dX12_putIndicator_55 w6_75 (by decide) rfl ?_
      refine m_iload_n (j := 1) C dX12_putIndicator_58 rfl ?_
      refine m_ald (k := 16) C dX12_putIndicator_59 rfl rfl (by decide) (by omega) (by show _ < ((_ : Nat) : Int); simp only [mlen]; omega) (by decide) ?_
      have ra2 := hr.2 16 ((4 * t + w1).toNat)
      refine m_iadd C dX12_putIndicator_60 ?_
      refine m_put (k := 25) (z := (v 25) + (a 16 (4 * t + w1).toNat)) C dX12_putIndicator_61 w6_84 (by decide) rfl rfl rfl ?_
      exact m_vret C dX12_putIndicator_64 rfl (Nat.le_of_ble_eq_true rfl) (Nat.le_of_ble_eq_true rfl) ⟨rfl, (by rw [ev, q16]), ha, (hr.put ⟨by omega, by omega⟩)⟩
    · refine m_aload_n (j := 2) C dX12_putIndicator_20 rfl ?_
      refine m_geta (k := 24) C dX12_putIndicator_21 w6_83 (by decide) rfl ?_
      refine m_aload_n (j := 2) C dX12_putIndicator_24 rfl ?_
      have rv25 := hr.1 25
      refine m_get (k := 25) C dX12_putIndicator_25 w6_84 (by decide) rfl ?_
      refine m_iload (j := 0) C dX12_putIndicator_28 rfl ?_
      refine m_iadd C dX12_putIndicator_30 ?_
      refine m_aload_n (j := 2) C dX12_putIndicator_31 rfl ?_
      refine m_geta (k := 17) C dX12_putIndicator_32 w6_76 (by decide) rfl ?_
      refine m_iconst C dX12_putIndicator_35 ?_
      refine m_iload_n (j := 1) C dX12_putIndicator_36 rfl ?_
      refine m_imul C dX12_putIndicator_37 ?_
      refine m_iload (j := 0) C dX12_putIndicator_38 rfl ?_
      refine m_iadd C dX12_putIndicator_40 ?_
      refine m_ald (k := 17) C dX12_putIndicator_41 rfl rfl (by decide) (by omega) (by show _ < ((_ : Nat) : Int); simp only [mlen]; omega) (by decide) ?_
      have ra3 := hr.2 17 (((4 * (4 * t + w1)) + k).toNat)
      refine m_ast (k := 24) C dX12_putIndicator_42 rfl rfl (by decide) (by omega) (by show _ < ((_ : Nat) : Int); simp only [mlen]; omega) (by decide) ?_
      refine m_iinc (z := k) (j := 0) (lv2 := [(4, .int (iI (k + 1))), (3, .int (iI (4 * t + w1))), (0, .ref h0), (1, .int (iI t)), (2, .int (iI w1))]) C dX12_putIndicator_43 rfl (by decide) rfl ?_
      refine m_goto (tgt := 9) C dX12_putIndicator_46 (by decide) ?_
      refine m_lv (lv2 := [(4, .int (iI (k + 1))), (3, .int (iI (4 * t + w1))), (0, .ref h0), (1, .int (iI t)), (2, .int (iI w1))]) [0, 1, 2, 3, 4] rfl ?_
      exact ih (k + 1) _ _ (by omega) (by omega) ev (fun j hj => (funext fun i => up2_k hj).trans (ha j hj)) (hr.set (hr.2 17 _))
set_option maxHeartbeats 4000000 in
set_option maxRecDepth 100000 in
theorem M_putIndicator {l : Launch} {G : GT} {h0 : Nat} {ad ln : Nat → Nat} {v : Nat → Int} {a : Nat → Nat → Int} {t w1 : Int} (hR : RG v a) (ht : 0 ≤ t ∧ t < 30) (hw : 0 ≤ w1 ∧ w1 ≤ 3) (h16 : 0 ≤ a 16 (4 * t + w1).toNat ∧ a 16 (4 * t + w1).toNat ≤ 4) (h25 : 0 ≤ v 25 ∧ v 25 ≤ 6000) : Mm l G yX12_putIndicator cX12_putIndicator 5 none 0 [.int (iI t), .int (iI w1)] h0 ad ln v a 0 0 (fun r v2 a2 => r = none ∧ v2 = va_up v 25 (v 25 + a 16 (4 * t + w1).toNat) ∧ (∀ j, j ≠ 24 → a2 j = a j) ∧ RG v2 a2) := by
  refine Mm.mk (by decide) (Nat.le_of_ble_eq_true rfl) ?_
  intro p e s m args below meth c A C
  refine m_iconst C dX12_putIndicator_0 ?_
  refine m_iload_n (j := 1) C dX12_putIndicator_1 rfl ?_
  refine m_imul C dX12_putIndicator_2 ?_
  refine m_iload_n (j := 2) C dX12_putIndicator_3 rfl ?_
  refine m_iadd C dX12_putIndicator_4 ?_
  refine m_istore_n (lv2 := [(3, .int (iI ((4 * t) + w1))), (0, .ref h0), (1, .int (iI t)), (2, .int (iI w1))]) C dX12_putIndicator_5 (by decide) rfl ?_
  refine m_iconst C dX12_putIndicator_6 ?_
  refine m_istore (lv2 := [(4, .int (iI 0)), (3, .int (iI ((4 * t) + w1))), (0, .ref h0), (1, .int (iI t)), (2, .int (iI w1))]) C dX12_putIndicator_7 (by decide) rfl ?_
  refine m_lv (lv2 := [(4, .int (iI 0)), (3, .int (iI ((4 * t) + w1))), (0, .ref h0), (1, .int (iI t)), (2, .int (iI w1))]) [0, 1, 2, 3, 4] rfl ?_
  exact Lp_putInd ht hw h16 h25 C 6 0 _ _ (by omega) (by omega) rfl (fun j hj => rfl) hR
end
section
theorem m_tabIn {p : Program} {l : Launch} {e : Env} {R : Room} {s : State} {m : MethodId} {args : Array Value} {below : List Frame} {meth : Method} {c : Code} {cc : ByteArray} {y : MethodName} {ret : Option FieldType} {G : GT} {A : Nat → Prop} {nL : Nat} {Q : State → Prop} {h0 : Nat} {ad ln : Nat → Nat} {v : Nat → Int} {a : Nat → Nat → Int} {kc ks pc : Nat} {lv : List (Nat × Value)} {st : List Value} (C : Cq p s m args meth c cc y ret G A nL) {dflt lo hi z off : Int} {offs : Array Int} {len tgt : Nat} (hz : R32 z) (d : decode cc pc = .ok (.tableswitch dflt lo hi offs, len)) (h1 : ¬ z < lo) (h2 : ¬ hi < z) (ho : offs[(z - lo).toNat]? = some off) (ht : (pc : Int) + off = (tgt : Int)) (k : mw p l e R s m args below meth c G A nL Q h0 ad ln v a kc ks tgt lv st) : mw p l e R s m args below meth c G A nL Q h0 ad ln v a kc ks pc lv (.int (iI z) :: st) := fun L E h H locs ls hP hD hS hl => lv_tableIn C.1 C.2.1 d (by rw [iI_int hz]; exact h1) (by rw [iI_int hz]; exact h2) (by rw [iI_int hz]; exact ho) ht (k L E h H locs ls hP hD hS hl)
theorem m_tabOut {p : Program} {l : Launch} {e : Env} {R : Room} {s : State} {m : MethodId} {args : Array Value} {below : List Frame} {meth : Method} {c : Code} {cc : ByteArray} {y : MethodName} {ret : Option FieldType} {G : GT} {A : Nat → Prop} {nL : Nat} {Q : State → Prop} {h0 : Nat} {ad ln : Nat → Nat} {v : Nat → Int} {a : Nat → Nat → Int} {kc ks pc : Nat} {lv : List (Nat × Value)} {st : List Value} (C : Cq p s m args meth c cc y ret G A nL) {dflt lo hi z : Int} {offs : Array Int} {len tgt : Nat} (hz : R32 z) (d : decode cc pc = .ok (.tableswitch dflt lo hi offs, len)) (h1 : z < lo ∨ hi < z) (ht : (pc : Int) + dflt = (tgt : Int)) (k : mw p l e R s m args below meth c G A nL Q h0 ad ln v a kc ks tgt lv st) : mw p l e R s m args below meth c G A nL Q h0 ad ln v a kc ks pc lv (.int (iI z) :: st) := fun L E h H locs ls hP hD hS hl => lv_tableOut C.1 C.2.1 d (by rw [iI_int hz]; exact h1) ht (k L E h H locs ls hP hD hS hl)
set_option maxHeartbeats 4000000 in
set_option maxRecDepth 100000 in
theorem Lp_fits {p : Program} {l : Launch} {e : Env} {s : State} {m : MethodId} {args : Array Value} {below : List Frame} {meth : Method} {c : Code} {G : GT} {A : Nat → Prop} {h0 : Nat} {ad ln : Nat → Nat} {v : Nat → Int} {a : Nat → Nat → Int} {r q u x : Int} (hR : RG v a) (hr : 0 ≤ r ∧ r < 6000) (h12 : 1 ≤ a 12 r.toNat ∧ a 12 r.toNat ≤ 8) (hx : 0 ≤ q ∧ q ≤ x ∧ x < u ∧ u ≤ 500) (C : Cq p s m args meth c cX12_fits yX12_fits (some .boolean) G A 9) : ∀ (n : Nat) (k f : Int), 9 - k < (n : Int) → (0 ≤ k ∧ k ≤ a 12 r.toNat) → (f = 0 ∨ (f = 1 ∧ x + a 12 r.toNat ≤ u)) → mw p l e (rmq 1 0 0) s m args below meth c G A 9 (MQ below (Qm G A (fun rq Lq Eq => ∃ (vq : Nat → Int) (aq : Nat → Nat → Int), mI G h0 ad ln vq aq Lq Eq ∧ (fun r2 v2 a2 => ∃ f : Int, r2 = some (.int (iI f)) ∧ (f = 0 ∨ (f = 1 ∧ x + a 12 r.toNat ≤ u)) ∧ v = v2 ∧ a = a2) rq vq aq)) args s 0 0 A) h0 ad ln v a 0 0 27 [(7, .int (iI k)), (6, .int (iI f)), (5, .int (iI (a 12 r.toNat))), (0, .ref h0), (1, .int (iI r)), (2, .int (iI q)), (3, .int (iI u)), (4, .int (iI x))] [] := by
  intro n
  induction n with
  | zero =>
    intro k f   hm hk hf
    exact absurd hm (by omega)
  | succ n ih =>
    intro k f   hm hk hf
    refine m_iload (j := 0) C dX12_fits_27 rfl ?_
    refine m_iload (j := 2) C dX12_fits_29 rfl ?_
    refine m_icmp_ge (tgt := 77) C ⟨by omega, by omega⟩ ⟨by omega, by omega⟩ dX12_fits_31 (by decide) (fun c1 => ?_) (fun c1 => ?_)
    · refine m_iload (j := 1) C dX12_fits_77 rfl ?_
      refine m_if_ne (tgt := 84) C ⟨by omega, by omega⟩ dX12_fits_79 (by decide) (fun c2 => ?_) (fun c2 => ?_)
      · refine m_iload (j := 7) C dX12_fits_84 rfl ?_
        refine m_iload_n (j := 5) C dX12_fits_86 rfl ?_
        refine m_icmp_ne (tgt := 94) C ⟨by omega, by omega⟩ ⟨by omega, by omega⟩ dX12_fits_87 (by decide) (fun c3 => ?_) (fun c3 => ?_)
        · refine m_iconst C dX12_fits_94 ?_
          refine m_istore (lv2 := [(7, .int (iI 0)), (6, .int (iI f)), (5, .int (iI (a 12 r.toNat))), (0, .ref h0), (1, .int (iI r)), (2, .int (iI q)), (3, .int (iI u)), (4, .int (iI x))]) C dX12_fits_95 (by decide) rfl ?_
          refine m_iload (j := 7) C dX12_fits_97 rfl ?_
          refine m_iload (j := 2) C dX12_fits_99 rfl ?_
          refine m_iadd C dX12_fits_101 ?_
          refine m_iload_n (j := 6) C dX12_fits_102 rfl ?_
          refine m_icmp_ne (tgt := 110) C ⟨by omega, by omega⟩ ⟨by omega, by omega⟩ dX12_fits_103 (by decide) (fun c4 => ?_) (fun c4 => ?_)
          · refine m_iconst C dX12_fits_110 ?_
            refine m_istore (lv2 := [(8, .int (iI 0)), (7, .int (iI 0)), (6, .int (iI f)), (5, .int (iI (a 12 r.toNat))), (0, .ref h0), (1, .int (iI r)), (2, .int (iI q)), (3, .int (iI u)), (4, .int (iI x))]) C dX12_fits_111 (by decide) rfl ?_
            refine m_aload_n (j := 4) C dX12_fits_113 rfl ?_
            refine m_geta (k := 11) C dX12_fits_114 w6_70 (by decide) rfl ?_
            refine m_iload_n (j := 5) C dX12_fits_117 rfl ?_
            refine m_ald (k := 11) C dX12_fits_118 rfl rfl (by decide) (by omega) (by show _ < ((_ : Nat) : Int); simp only [mlen]; omega) (by decide) ?_
            have ra1 := hR.2 11 (r.toNat)
            rcases (show (a 11 r.toNat) = 0 ∨ (a 11 r.toNat) = 1 ∨ (a 11 r.toNat) = 2 ∨ (a 11 r.toNat) = 3 ∨ (a 11 r.toNat) = 4 ∨ ((a 11 r.toNat) < 0 ∨ 4 < (a 11 r.toNat)) by omega) with sw1 | sw1 | sw1 | sw1 | sw1 | sw1
            · refine m_tabIn (tgt := 152) (off := 33) C ⟨by omega, by omega⟩ dX12_fits_119 (by omega) (by omega) (by rw [sw1]; rfl) (by decide) ?_
              refine m_iconst C dX12_fits_152 ?_
              exact m_zret C dX12_fits_153 rfl (Or.inr rfl) (Nat.le_of_ble_eq_true rfl) (Nat.le_of_ble_eq_true rfl) ⟨1, rfl, (by omega), rfl, rfl⟩
            · refine m_tabIn (tgt := 154) (off := 35) C ⟨by omega, by omega⟩ dX12_fits_119 (by omega) (by omega) (by rw [sw1]; rfl) (by decide) ?_
              refine m_iload (j := 1) C dX12_fits_154 rfl ?_
              exact m_zret C dX12_fits_156 rfl (Or.inl rfl) (Nat.le_of_ble_eq_true rfl) (Nat.le_of_ble_eq_true rfl) ⟨0, rfl, (by omega), rfl, rfl⟩
            · refine m_tabIn (tgt := 157) (off := 38) C ⟨by omega, by omega⟩ dX12_fits_119 (by omega) (by omega) (by rw [sw1]; rfl) (by decide) ?_
              refine m_iload (j := 1) C dX12_fits_157 rfl ?_
              refine m_if_ne (tgt := 171) C ⟨by decide, by decide⟩ dX12_fits_159 (by decide) (fun z => absurd z (by omega)) (fun _ => ?_)
              refine m_iload (j := 0) C dX12_fits_162 rfl ?_
              refine m_if_ne (tgt := 171) C ⟨by decide, by decide⟩ dX12_fits_164 (by decide) (fun z => absurd z (by omega)) (fun _ => ?_)
              refine m_iconst C dX12_fits_167 ?_
              refine m_goto (tgt := 172) C dX12_fits_168 (by decide) ?_
              exact m_zret C dX12_fits_172 rfl (Or.inr rfl) (Nat.le_of_ble_eq_true rfl) (Nat.le_of_ble_eq_true rfl) ⟨1, rfl, (by omega), rfl, rfl⟩
            · refine m_tabIn (tgt := 173) (off := 54) C ⟨by omega, by omega⟩ dX12_fits_119 (by omega) (by omega) (by rw [sw1]; rfl) (by decide) ?_
              refine m_iload (j := 0) C dX12_fits_173 rfl ?_
              exact m_zret C dX12_fits_175 rfl (Or.inl rfl) (Nat.le_of_ble_eq_true rfl) (Nat.le_of_ble_eq_true rfl) ⟨0, rfl, (by omega), rfl, rfl⟩
            · refine m_tabIn (tgt := 176) (off := 57) C ⟨by omega, by omega⟩ dX12_fits_119 (by omega) (by omega) (by rw [sw1]; rfl) (by decide) ?_
              refine m_iload (j := 1) C dX12_fits_176 rfl ?_
              refine m_if_eq (tgt := 190) C ⟨by decide, by decide⟩ dX12_fits_178 (by decide) (fun _ => ?_) (fun z => absurd z (by omega))
              refine m_iconst C dX12_fits_190 ?_
              exact m_zret C dX12_fits_191 rfl (Or.inl rfl) (Nat.le_of_ble_eq_true rfl) (Nat.le_of_ble_eq_true rfl) ⟨0, rfl, (by omega), rfl, rfl⟩
            · refine m_tabOut (tgt := 192) C ⟨by omega, by omega⟩ dX12_fits_119 sw1 (by decide) ?_
              refine m_iload (j := 0) C dX12_fits_192 rfl ?_
              refine m_if_ne (tgt := 249) C ⟨by decide, by decide⟩ dX12_fits_194 (by decide) (fun z => absurd z (by omega)) (fun _ => ?_)
              refine m_aload_n (j := 4) C dX12_fits_197 rfl ?_
              refine m_geta (k := 20) C dX12_fits_198 w6_79 (by decide) rfl ?_
              refine m_iload (j := 8) C dX12_fits_201 rfl ?_
              refine m_iload (j := 3) C dX12_fits_203 rfl ?_
              refine m_iadd C dX12_fits_205 ?_
              refine m_ald (k := 20) C dX12_fits_206 rfl rfl (by decide) (by omega) (by show _ < ((_ : Nat) : Int); simp only [mlen]; omega) (by decide) ?_
              have ra2 := hR.2 20 ((x + (a 12 r.toNat)).toNat)
              refine m_callS (As := [.int (iI (a 20 (x + (a 12 r.toNat)).toNat))]) (rest := []) C (fun L E => s_isDigit (iI (a 20 (x + (a 12 r.toNat)).toNat))) dX12_fits_207 kS_X12_202 rfl rfl (Nat.le_of_ble_eq_true rfl) ⟨Nat.le_of_ble_eq_true rfl, Nat.le_of_ble_eq_true rfl⟩ ⟨Nat.le_of_ble_eq_true rfl, Nat.le_of_ble_eq_true rfl⟩ ?_
              rcases inn_c (x := a 20 (x + (a 12 r.toNat)).toNat) (lo := 48) (hi := 57) ⟨by omega, by omega⟩ ⟨by decide, by decide⟩ ⟨by decide, by decide⟩ with ⟨h1a, h1b, h1e⟩ | ⟨h1a, h1e⟩
              · refine m_st (st2 := [.int (iI 1)]) (by rw [show inn (iI (a 20 (x + (a 12 r.toNat)).toNat)) 48 57 = iI 1 from h1e]) ?_
                refine m_if_ne (tgt := 249) C ⟨by decide, by decide⟩ dX12_fits_210 (by decide) (fun _ => ?_) (fun z => absurd z (by omega))
                refine m_iconst C dX12_fits_249 ?_
                exact m_zret C dX12_fits_250 rfl (Or.inl rfl) (Nat.le_of_ble_eq_true rfl) (Nat.le_of_ble_eq_true rfl) ⟨0, rfl, (by omega), rfl, rfl⟩
              · refine m_st (st2 := [.int (iI 0)]) (by rw [show inn (iI (a 20 (x + (a 12 r.toNat)).toNat)) 48 57 = iI 0 from h1e]) ?_
                refine m_if_ne (tgt := 249) C ⟨by decide, by decide⟩ dX12_fits_210 (by decide) (fun z => absurd z (by omega)) (fun _ => ?_)
                refine m_aload_n (j := 4) C dX12_fits_213 rfl ?_
                refine m_geta (k := 20) C dX12_fits_214 w6_79 (by decide) rfl ?_
                refine m_iload (j := 8) C dX12_fits_217 rfl ?_
                refine m_iload (j := 3) C dX12_fits_219 rfl ?_
                refine m_iadd C dX12_fits_221 ?_
                refine m_ald (k := 20) C dX12_fits_222 rfl rfl (by decide) (by omega) (by show _ < ((_ : Nat) : Int); simp only [mlen]; omega) (by decide) ?_
                have ra3 := hR.2 20 ((x + (a 12 r.toNat)).toNat)
                refine m_callS (As := [.int (iI (a 20 (x + (a 12 r.toNat)).toNat))]) (rest := []) C (fun L E => s_isGreat (iI (a 20 (x + (a 12 r.toNat)).toNat))) dX12_fits_223 kS_X12_205 rfl rfl (Nat.le_of_ble_eq_true rfl) ⟨Nat.le_of_ble_eq_true rfl, Nat.le_of_ble_eq_true rfl⟩ ⟨Nat.le_of_ble_eq_true rfl, Nat.le_of_ble_eq_true rfl⟩ ?_
                rcases inn_c (x := a 20 (x + (a 12 r.toNat)).toNat) (lo := 65) (hi := 90) ⟨by omega, by omega⟩ ⟨by decide, by decide⟩ ⟨by decide, by decide⟩ with ⟨h2a, h2b, h2e⟩ | ⟨h2a, h2e⟩
                · refine m_st (st2 := [.int (iI 1)]) (by rw [show inn (iI (a 20 (x + (a 12 r.toNat)).toNat)) 65 90 = iI 1 from h2e]) ?_
                  refine m_if_ne (tgt := 249) C ⟨by decide, by decide⟩ dX12_fits_226 (by decide) (fun _ => ?_) (fun z => absurd z (by omega))
                  refine m_iconst C dX12_fits_249 ?_
                  exact m_zret C dX12_fits_250 rfl (Or.inl rfl) (Nat.le_of_ble_eq_true rfl) (Nat.le_of_ble_eq_true rfl) ⟨0, rfl, (by omega), rfl, rfl⟩
                · refine m_st (st2 := [.int (iI 0)]) (by rw [show inn (iI (a 20 (x + (a 12 r.toNat)).toNat)) 65 90 = iI 0 from h2e]) ?_
                  refine m_if_ne (tgt := 249) C ⟨by decide, by decide⟩ dX12_fits_226 (by decide) (fun z => absurd z (by omega)) (fun _ => ?_)
                  refine m_aload_n (j := 4) C dX12_fits_229 rfl ?_
                  refine m_geta (k := 20) C dX12_fits_230 w6_79 (by decide) rfl ?_
                  refine m_iload (j := 8) C dX12_fits_233 rfl ?_
                  refine m_iload (j := 3) C dX12_fits_235 rfl ?_
                  refine m_iadd C dX12_fits_237 ?_
                  refine m_ald (k := 20) C dX12_fits_238 rfl rfl (by decide) (by omega) (by show _ < ((_ : Nat) : Int); simp only [mlen]; omega) (by decide) ?_
                  have ra4 := hR.2 20 ((x + (a 12 r.toNat)).toNat)
                  refine m_callS (As := [.int (iI (a 20 (x + (a 12 r.toNat)).toNat))]) (rest := []) C (fun L E => s_isSmall (iI (a 20 (x + (a 12 r.toNat)).toNat))) dX12_fits_239 kS_X12_208 rfl rfl (Nat.le_of_ble_eq_true rfl) ⟨Nat.le_of_ble_eq_true rfl, Nat.le_of_ble_eq_true rfl⟩ ⟨Nat.le_of_ble_eq_true rfl, Nat.le_of_ble_eq_true rfl⟩ ?_
                  rcases inn_c (x := a 20 (x + (a 12 r.toNat)).toNat) (lo := 97) (hi := 122) ⟨by omega, by omega⟩ ⟨by decide, by decide⟩ ⟨by decide, by decide⟩ with ⟨h3a, h3b, h3e⟩ | ⟨h3a, h3e⟩
                  · refine m_st (st2 := [.int (iI 1)]) (by rw [show inn (iI (a 20 (x + (a 12 r.toNat)).toNat)) 97 122 = iI 1 from h3e]) ?_
                    refine m_if_ne (tgt := 249) C ⟨by decide, by decide⟩ dX12_fits_242 (by decide) (fun _ => ?_) (fun z => absurd z (by omega))
                    refine m_iconst C dX12_fits_249 ?_
                    exact m_zret C dX12_fits_250 rfl (Or.inl rfl) (Nat.le_of_ble_eq_true rfl) (Nat.le_of_ble_eq_true rfl) ⟨0, rfl, (by omega), rfl, rfl⟩
                  · refine m_st (st2 := [.int (iI 0)]) (by rw [show inn (iI (a 20 (x + (a 12 r.toNat)).toNat)) 97 122 = iI 0 from h3e]) ?_
                    refine m_if_ne (tgt := 249) C ⟨by decide, by decide⟩ dX12_fits_242 (by decide) (fun z => absurd z (by omega)) (fun _ => ?_)
                    refine m_iconst C dX12_fits_245 ?_
                    refine m_goto (tgt := 250) C dX12_fits_246 (by decide) ?_
                    exact m_zret C dX12_fits_250 rfl (Or.inr rfl) (Nat.le_of_ble_eq_true rfl) (Nat.le_of_ble_eq_true rfl) ⟨1, rfl, (by omega), rfl, rfl⟩
          · refine m_iconst C dX12_fits_106 ?_
            refine m_goto (tgt := 111) C dX12_fits_107 (by decide) ?_
            refine m_istore (lv2 := [(8, .int (iI 1)), (7, .int (iI 0)), (6, .int (iI f)), (5, .int (iI (a 12 r.toNat))), (0, .ref h0), (1, .int (iI r)), (2, .int (iI q)), (3, .int (iI u)), (4, .int (iI x))]) C dX12_fits_111 (by decide) rfl ?_
            refine m_aload_n (j := 4) C dX12_fits_113 rfl ?_
            refine m_geta (k := 11) C dX12_fits_114 w6_70 (by decide) rfl ?_
            refine m_iload_n (j := 5) C dX12_fits_117 rfl ?_
            refine m_ald (k := 11) C dX12_fits_118 rfl rfl (by decide) (by omega) (by show _ < ((_ : Nat) : Int); simp only [mlen]; omega) (by decide) ?_
            have ra5 := hR.2 11 (r.toNat)
            rcases (show (a 11 r.toNat) = 0 ∨ (a 11 r.toNat) = 1 ∨ (a 11 r.toNat) = 2 ∨ (a 11 r.toNat) = 3 ∨ (a 11 r.toNat) = 4 ∨ ((a 11 r.toNat) < 0 ∨ 4 < (a 11 r.toNat)) by omega) with sw2 | sw2 | sw2 | sw2 | sw2 | sw2
            · refine m_tabIn (tgt := 152) (off := 33) C ⟨by omega, by omega⟩ dX12_fits_119 (by omega) (by omega) (by rw [sw2]; rfl) (by decide) ?_
              refine m_iconst C dX12_fits_152 ?_
              exact m_zret C dX12_fits_153 rfl (Or.inr rfl) (Nat.le_of_ble_eq_true rfl) (Nat.le_of_ble_eq_true rfl) ⟨1, rfl, (by omega), rfl, rfl⟩
            · refine m_tabIn (tgt := 154) (off := 35) C ⟨by omega, by omega⟩ dX12_fits_119 (by omega) (by omega) (by rw [sw2]; rfl) (by decide) ?_
              refine m_iload (j := 1) C dX12_fits_154 rfl ?_
              exact m_zret C dX12_fits_156 rfl (Or.inl rfl) (Nat.le_of_ble_eq_true rfl) (Nat.le_of_ble_eq_true rfl) ⟨0, rfl, (by omega), rfl, rfl⟩
            · refine m_tabIn (tgt := 157) (off := 38) C ⟨by omega, by omega⟩ dX12_fits_119 (by omega) (by omega) (by rw [sw2]; rfl) (by decide) ?_
              refine m_iload (j := 1) C dX12_fits_157 rfl ?_
              refine m_if_ne (tgt := 171) C ⟨by decide, by decide⟩ dX12_fits_159 (by decide) (fun z => absurd z (by omega)) (fun _ => ?_)
              refine m_iload (j := 0) C dX12_fits_162 rfl ?_
              refine m_if_ne (tgt := 171) C ⟨by decide, by decide⟩ dX12_fits_164 (by decide) (fun _ => ?_) (fun z => absurd z (by omega))
              refine m_iconst C dX12_fits_171 ?_
              exact m_zret C dX12_fits_172 rfl (Or.inl rfl) (Nat.le_of_ble_eq_true rfl) (Nat.le_of_ble_eq_true rfl) ⟨0, rfl, (by omega), rfl, rfl⟩
            · refine m_tabIn (tgt := 173) (off := 54) C ⟨by omega, by omega⟩ dX12_fits_119 (by omega) (by omega) (by rw [sw2]; rfl) (by decide) ?_
              refine m_iload (j := 0) C dX12_fits_173 rfl ?_
              exact m_zret C dX12_fits_175 rfl (Or.inr rfl) (Nat.le_of_ble_eq_true rfl) (Nat.le_of_ble_eq_true rfl) ⟨1, rfl, (by omega), rfl, rfl⟩
            · refine m_tabIn (tgt := 176) (off := 57) C ⟨by omega, by omega⟩ dX12_fits_119 (by omega) (by omega) (by rw [sw2]; rfl) (by decide) ?_
              refine m_iload (j := 1) C dX12_fits_176 rfl ?_
              refine m_if_eq (tgt := 190) C ⟨by decide, by decide⟩ dX12_fits_178 (by decide) (fun _ => ?_) (fun z => absurd z (by omega))
              refine m_iconst C dX12_fits_190 ?_
              exact m_zret C dX12_fits_191 rfl (Or.inl rfl) (Nat.le_of_ble_eq_true rfl) (Nat.le_of_ble_eq_true rfl) ⟨0, rfl, (by omega), rfl, rfl⟩
            · refine m_tabOut (tgt := 192) C ⟨by omega, by omega⟩ dX12_fits_119 sw2 (by decide) ?_
              refine m_iload (j := 0) C dX12_fits_192 rfl ?_
              refine m_if_ne (tgt := 249) C ⟨by decide, by decide⟩ dX12_fits_194 (by decide) (fun _ => ?_) (fun z => absurd z (by omega))
              refine m_iconst C dX12_fits_249 ?_
              exact m_zret C dX12_fits_250 rfl (Or.inl rfl) (Nat.le_of_ble_eq_true rfl) (Nat.le_of_ble_eq_true rfl) ⟨0, rfl, (by omega), rfl, rfl⟩
        · refine m_iconst C dX12_fits_90 ?_
          refine m_goto (tgt := 95) C dX12_fits_91 (by decide) ?_
          refine m_istore (lv2 := [(7, .int (iI 1)), (6, .int (iI f)), (5, .int (iI (a 12 r.toNat))), (0, .ref h0), (1, .int (iI r)), (2, .int (iI q)), (3, .int (iI u)), (4, .int (iI x))]) C dX12_fits_95 (by decide) rfl ?_
          refine m_iload (j := 7) C dX12_fits_97 rfl ?_
          refine m_iload (j := 2) C dX12_fits_99 rfl ?_
          refine m_iadd C dX12_fits_101 ?_
          refine m_iload_n (j := 6) C dX12_fits_102 rfl ?_
          refine m_icmp_ne (tgt := 110) C ⟨by omega, by omega⟩ ⟨by omega, by omega⟩ dX12_fits_103 (by decide) (fun c5 => ?_) (fun c5 => ?_)
          · refine m_iconst C dX12_fits_110 ?_
            refine m_istore (lv2 := [(8, .int (iI 0)), (7, .int (iI 1)), (6, .int (iI f)), (5, .int (iI (a 12 r.toNat))), (0, .ref h0), (1, .int (iI r)), (2, .int (iI q)), (3, .int (iI u)), (4, .int (iI x))]) C dX12_fits_111 (by decide) rfl ?_
            refine m_aload_n (j := 4) C dX12_fits_113 rfl ?_
            refine m_geta (k := 11) C dX12_fits_114 w6_70 (by decide) rfl ?_
            refine m_iload_n (j := 5) C dX12_fits_117 rfl ?_
            refine m_ald (k := 11) C dX12_fits_118 rfl rfl (by decide) (by omega) (by show _ < ((_ : Nat) : Int); simp only [mlen]; omega) (by decide) ?_
            have ra6 := hR.2 11 (r.toNat)
            rcases (show (a 11 r.toNat) = 0 ∨ (a 11 r.toNat) = 1 ∨ (a 11 r.toNat) = 2 ∨ (a 11 r.toNat) = 3 ∨ (a 11 r.toNat) = 4 ∨ ((a 11 r.toNat) < 0 ∨ 4 < (a 11 r.toNat)) by omega) with sw3 | sw3 | sw3 | sw3 | sw3 | sw3
            · refine m_tabIn (tgt := 152) (off := 33) C ⟨by omega, by omega⟩ dX12_fits_119 (by omega) (by omega) (by rw [sw3]; rfl) (by decide) ?_
              refine m_iconst C dX12_fits_152 ?_
              exact m_zret C dX12_fits_153 rfl (Or.inr rfl) (Nat.le_of_ble_eq_true rfl) (Nat.le_of_ble_eq_true rfl) ⟨1, rfl, (by omega), rfl, rfl⟩
            · refine m_tabIn (tgt := 154) (off := 35) C ⟨by omega, by omega⟩ dX12_fits_119 (by omega) (by omega) (by rw [sw3]; rfl) (by decide) ?_
              refine m_iload (j := 1) C dX12_fits_154 rfl ?_
              exact m_zret C dX12_fits_156 rfl (Or.inr rfl) (Nat.le_of_ble_eq_true rfl) (Nat.le_of_ble_eq_true rfl) ⟨1, rfl, (by omega), rfl, rfl⟩
            · refine m_tabIn (tgt := 157) (off := 38) C ⟨by omega, by omega⟩ dX12_fits_119 (by omega) (by omega) (by rw [sw3]; rfl) (by decide) ?_
              refine m_iload (j := 1) C dX12_fits_157 rfl ?_
              refine m_if_ne (tgt := 171) C ⟨by decide, by decide⟩ dX12_fits_159 (by decide) (fun _ => ?_) (fun z => absurd z (by omega))
              refine m_iconst C dX12_fits_171 ?_
              exact m_zret C dX12_fits_172 rfl (Or.inl rfl) (Nat.le_of_ble_eq_true rfl) (Nat.le_of_ble_eq_true rfl) ⟨0, rfl, (by omega), rfl, rfl⟩
            · refine m_tabIn (tgt := 173) (off := 54) C ⟨by omega, by omega⟩ dX12_fits_119 (by omega) (by omega) (by rw [sw3]; rfl) (by decide) ?_
              refine m_iload (j := 0) C dX12_fits_173 rfl ?_
              exact m_zret C dX12_fits_175 rfl (Or.inl rfl) (Nat.le_of_ble_eq_true rfl) (Nat.le_of_ble_eq_true rfl) ⟨0, rfl, (by omega), rfl, rfl⟩
            · refine m_tabIn (tgt := 176) (off := 57) C ⟨by omega, by omega⟩ dX12_fits_119 (by omega) (by omega) (by rw [sw3]; rfl) (by decide) ?_
              refine m_iload (j := 1) C dX12_fits_176 rfl ?_
              refine m_if_eq (tgt := 190) C ⟨by decide, by decide⟩ dX12_fits_178 (by decide) (fun z => absurd z (by omega)) (fun _ => ?_)
              refine m_iload (j := 0) C dX12_fits_181 rfl ?_
              refine m_if_eq (tgt := 190) C ⟨by decide, by decide⟩ dX12_fits_183 (by decide) (fun _ => ?_) (fun z => absurd z (by omega))
              refine m_iconst C dX12_fits_190 ?_
              exact m_zret C dX12_fits_191 rfl (Or.inl rfl) (Nat.le_of_ble_eq_true rfl) (Nat.le_of_ble_eq_true rfl) ⟨0, rfl, (by omega), rfl, rfl⟩
            · refine m_tabOut (tgt := 192) C ⟨by omega, by omega⟩ dX12_fits_119 sw3 (by decide) ?_
              refine m_iload (j := 0) C dX12_fits_192 rfl ?_
              refine m_if_ne (tgt := 249) C ⟨by decide, by decide⟩ dX12_fits_194 (by decide) (fun z => absurd z (by omega)) (fun _ => ?_)
              refine m_aload_n (j := 4) C dX12_fits_197 rfl ?_
              refine m_geta (k := 20) C dX12_fits_198 w6_79 (by decide) rfl ?_
              refine m_iload (j := 8) C dX12_fits_201 rfl ?_
              refine m_iload (j := 3) C dX12_fits_203 rfl ?_
              refine m_iadd C dX12_fits_205 ?_
              refine m_ald (k := 20) C dX12_fits_206 rfl rfl (by decide) (by omega) (by show _ < ((_ : Nat) : Int); simp only [mlen]; omega) (by decide) ?_
              have ra7 := hR.2 20 ((x + (a 12 r.toNat)).toNat)
              refine m_callS (As := [.int (iI (a 20 (x + (a 12 r.toNat)).toNat))]) (rest := []) C (fun L E => s_isDigit (iI (a 20 (x + (a 12 r.toNat)).toNat))) dX12_fits_207 kS_X12_202 rfl rfl (Nat.le_of_ble_eq_true rfl) ⟨Nat.le_of_ble_eq_true rfl, Nat.le_of_ble_eq_true rfl⟩ ⟨Nat.le_of_ble_eq_true rfl, Nat.le_of_ble_eq_true rfl⟩ ?_
              rcases inn_c (x := a 20 (x + (a 12 r.toNat)).toNat) (lo := 48) (hi := 57) ⟨by omega, by omega⟩ ⟨by decide, by decide⟩ ⟨by decide, by decide⟩ with ⟨h4a, h4b, h4e⟩ | ⟨h4a, h4e⟩
              · refine m_st (st2 := [.int (iI 1)]) (by rw [show inn (iI (a 20 (x + (a 12 r.toNat)).toNat)) 48 57 = iI 1 from h4e]) ?_
                refine m_if_ne (tgt := 249) C ⟨by decide, by decide⟩ dX12_fits_210 (by decide) (fun _ => ?_) (fun z => absurd z (by omega))
                refine m_iconst C dX12_fits_249 ?_
                exact m_zret C dX12_fits_250 rfl (Or.inl rfl) (Nat.le_of_ble_eq_true rfl) (Nat.le_of_ble_eq_true rfl) ⟨0, rfl, (by omega), rfl, rfl⟩
              · refine m_st (st2 := [.int (iI 0)]) (by rw [show inn (iI (a 20 (x + (a 12 r.toNat)).toNat)) 48 57 = iI 0 from h4e]) ?_
                refine m_if_ne (tgt := 249) C ⟨by decide, by decide⟩ dX12_fits_210 (by decide) (fun z => absurd z (by omega)) (fun _ => ?_)
                refine m_aload_n (j := 4) C dX12_fits_213 rfl ?_
                refine m_geta (k := 20) C dX12_fits_214 w6_79 (by decide) rfl ?_
                refine m_iload (j := 8) C dX12_fits_217 rfl ?_
                refine m_iload (j := 3) C dX12_fits_219 rfl ?_
                refine m_iadd C dX12_fits_221 ?_
                refine m_ald (k := 20) C dX12_fits_222 rfl rfl (by decide) (by omega) (by show _ < ((_ : Nat) : Int); simp only [mlen]; omega) (by decide) ?_
                have ra8 := hR.2 20 ((x + (a 12 r.toNat)).toNat)
                refine m_callS (As := [.int (iI (a 20 (x + (a 12 r.toNat)).toNat))]) (rest := []) C (fun L E => s_isGreat (iI (a 20 (x + (a 12 r.toNat)).toNat))) dX12_fits_223 kS_X12_205 rfl rfl (Nat.le_of_ble_eq_true rfl) ⟨Nat.le_of_ble_eq_true rfl, Nat.le_of_ble_eq_true rfl⟩ ⟨Nat.le_of_ble_eq_true rfl, Nat.le_of_ble_eq_true rfl⟩ ?_
                rcases inn_c (x := a 20 (x + (a 12 r.toNat)).toNat) (lo := 65) (hi := 90) ⟨by omega, by omega⟩ ⟨by decide, by decide⟩ ⟨by decide, by decide⟩ with ⟨h5a, h5b, h5e⟩ | ⟨h5a, h5e⟩
                · refine m_st (st2 := [.int (iI 1)]) (by rw [show inn (iI (a 20 (x + (a 12 r.toNat)).toNat)) 65 90 = iI 1 from h5e]) ?_
                  refine m_if_ne (tgt := 249) C ⟨by decide, by decide⟩ dX12_fits_226 (by decide) (fun _ => ?_) (fun z => absurd z (by omega))
                  refine m_iconst C dX12_fits_249 ?_
                  exact m_zret C dX12_fits_250 rfl (Or.inl rfl) (Nat.le_of_ble_eq_true rfl) (Nat.le_of_ble_eq_true rfl) ⟨0, rfl, (by omega), rfl, rfl⟩
                · refine m_st (st2 := [.int (iI 0)]) (by rw [show inn (iI (a 20 (x + (a 12 r.toNat)).toNat)) 65 90 = iI 0 from h5e]) ?_
                  refine m_if_ne (tgt := 249) C ⟨by decide, by decide⟩ dX12_fits_226 (by decide) (fun z => absurd z (by omega)) (fun _ => ?_)
                  refine m_aload_n (j := 4) C dX12_fits_229 rfl ?_
                  refine m_geta (k := 20) C dX12_fits_230 w6_79 (by decide) rfl ?_
                  refine m_iload (j := 8) C dX12_fits_233 rfl ?_
                  refine m_iload (j := 3) C dX12_fits_235 rfl ?_
                  refine m_iadd C dX12_fits_237 ?_
                  refine m_ald (k := 20) C dX12_fits_238 rfl rfl (by decide) (by omega) (by show _ < ((_ : Nat) : Int); simp only [mlen]; omega) (by decide) ?_
                  have ra9 := hR.2 20 ((x + (a 12 r.toNat)).toNat)
                  refine m_callS (As := [.int (iI (a 20 (x + (a 12 r.toNat)).toNat))]) (rest := []) C (fun L E => s_isSmall (iI (a 20 (x + (a 12 r.toNat)).toNat))) dX12_fits_239 kS_X12_208 rfl rfl (Nat.le_of_ble_eq_true rfl) ⟨Nat.le_of_ble_eq_true rfl, Nat.le_of_ble_eq_true rfl⟩ ⟨Nat.le_of_ble_eq_true rfl, Nat.le_of_ble_eq_true rfl⟩ ?_
                  rcases inn_c (x := a 20 (x + (a 12 r.toNat)).toNat) (lo := 97) (hi := 122) ⟨by omega, by omega⟩ ⟨by decide, by decide⟩ ⟨by decide, by decide⟩ with ⟨h6a, h6b, h6e⟩ | ⟨h6a, h6e⟩
                  · refine m_st (st2 := [.int (iI 1)]) (by rw [show inn (iI (a 20 (x + (a 12 r.toNat)).toNat)) 97 122 = iI 1 from h6e]) ?_
                    refine m_if_ne (tgt := 249) C ⟨by decide, by decide⟩ dX12_fits_242 (by decide) (fun _ => ?_) (fun z => absurd z (by omega))
                    refine m_iconst C dX12_fits_249 ?_
                    exact m_zret C dX12_fits_250 rfl (Or.inl rfl) (Nat.le_of_ble_eq_true rfl) (Nat.le_of_ble_eq_true rfl) ⟨0, rfl, (by omega), rfl, rfl⟩
                  · refine m_st (st2 := [.int (iI 0)]) (by rw [show inn (iI (a 20 (x + (a 12 r.toNat)).toNat)) 97 122 = iI 0 from h6e]) ?_
                    refine m_if_ne (tgt := 249) C ⟨by decide, by decide⟩ dX12_fits_242 (by decide) (fun z => absurd z (by omega)) (fun _ => ?_)
                    refine m_iconst C dX12_fits_245 ?_
                    refine m_goto (tgt := 250) C dX12_fits_246 (by decide) ?_
                    exact m_zret C dX12_fits_250 rfl (Or.inr rfl) (Nat.le_of_ble_eq_true rfl) (Nat.le_of_ble_eq_true rfl) ⟨1, rfl, (by omega), rfl, rfl⟩
          · refine m_iconst C dX12_fits_106 ?_
            refine m_goto (tgt := 111) C dX12_fits_107 (by decide) ?_
            refine m_istore (lv2 := [(8, .int (iI 1)), (7, .int (iI 1)), (6, .int (iI f)), (5, .int (iI (a 12 r.toNat))), (0, .ref h0), (1, .int (iI r)), (2, .int (iI q)), (3, .int (iI u)), (4, .int (iI x))]) C dX12_fits_111 (by decide) rfl ?_
            refine m_aload_n (j := 4) C dX12_fits_113 rfl ?_
            refine m_geta (k := 11) C dX12_fits_114 w6_70 (by decide) rfl ?_
            refine m_iload_n (j := 5) C dX12_fits_117 rfl ?_
            refine m_ald (k := 11) C dX12_fits_118 rfl rfl (by decide) (by omega) (by show _ < ((_ : Nat) : Int); simp only [mlen]; omega) (by decide) ?_
            have ra10 := hR.2 11 (r.toNat)
            rcases (show (a 11 r.toNat) = 0 ∨ (a 11 r.toNat) = 1 ∨ (a 11 r.toNat) = 2 ∨ (a 11 r.toNat) = 3 ∨ (a 11 r.toNat) = 4 ∨ ((a 11 r.toNat) < 0 ∨ 4 < (a 11 r.toNat)) by omega) with sw4 | sw4 | sw4 | sw4 | sw4 | sw4
            · refine m_tabIn (tgt := 152) (off := 33) C ⟨by omega, by omega⟩ dX12_fits_119 (by omega) (by omega) (by rw [sw4]; rfl) (by decide) ?_
              refine m_iconst C dX12_fits_152 ?_
              exact m_zret C dX12_fits_153 rfl (Or.inr rfl) (Nat.le_of_ble_eq_true rfl) (Nat.le_of_ble_eq_true rfl) ⟨1, rfl, (by omega), rfl, rfl⟩
            · refine m_tabIn (tgt := 154) (off := 35) C ⟨by omega, by omega⟩ dX12_fits_119 (by omega) (by omega) (by rw [sw4]; rfl) (by decide) ?_
              refine m_iload (j := 1) C dX12_fits_154 rfl ?_
              exact m_zret C dX12_fits_156 rfl (Or.inr rfl) (Nat.le_of_ble_eq_true rfl) (Nat.le_of_ble_eq_true rfl) ⟨1, rfl, (by omega), rfl, rfl⟩
            · refine m_tabIn (tgt := 157) (off := 38) C ⟨by omega, by omega⟩ dX12_fits_119 (by omega) (by omega) (by rw [sw4]; rfl) (by decide) ?_
              refine m_iload (j := 1) C dX12_fits_157 rfl ?_
              refine m_if_ne (tgt := 171) C ⟨by decide, by decide⟩ dX12_fits_159 (by decide) (fun _ => ?_) (fun z => absurd z (by omega))
              refine m_iconst C dX12_fits_171 ?_
              exact m_zret C dX12_fits_172 rfl (Or.inl rfl) (Nat.le_of_ble_eq_true rfl) (Nat.le_of_ble_eq_true rfl) ⟨0, rfl, (by omega), rfl, rfl⟩
            · refine m_tabIn (tgt := 173) (off := 54) C ⟨by omega, by omega⟩ dX12_fits_119 (by omega) (by omega) (by rw [sw4]; rfl) (by decide) ?_
              refine m_iload (j := 0) C dX12_fits_173 rfl ?_
              exact m_zret C dX12_fits_175 rfl (Or.inr rfl) (Nat.le_of_ble_eq_true rfl) (Nat.le_of_ble_eq_true rfl) ⟨1, rfl, (by omega), rfl, rfl⟩
            · refine m_tabIn (tgt := 176) (off := 57) C ⟨by omega, by omega⟩ dX12_fits_119 (by omega) (by omega) (by rw [sw4]; rfl) (by decide) ?_
              refine m_iload (j := 1) C dX12_fits_176 rfl ?_
              refine m_if_eq (tgt := 190) C ⟨by decide, by decide⟩ dX12_fits_178 (by decide) (fun z => absurd z (by omega)) (fun _ => ?_)
              refine m_iload (j := 0) C dX12_fits_181 rfl ?_
              refine m_if_eq (tgt := 190) C ⟨by decide, by decide⟩ dX12_fits_183 (by decide) (fun z => absurd z (by omega)) (fun _ => ?_)
              refine m_iconst C dX12_fits_186 ?_
              refine m_goto (tgt := 191) C dX12_fits_187 (by decide) ?_
              exact m_zret C dX12_fits_191 rfl (Or.inr rfl) (Nat.le_of_ble_eq_true rfl) (Nat.le_of_ble_eq_true rfl) ⟨1, rfl, (by omega), rfl, rfl⟩
            · refine m_tabOut (tgt := 192) C ⟨by omega, by omega⟩ dX12_fits_119 sw4 (by decide) ?_
              refine m_iload (j := 0) C dX12_fits_192 rfl ?_
              refine m_if_ne (tgt := 249) C ⟨by decide, by decide⟩ dX12_fits_194 (by decide) (fun _ => ?_) (fun z => absurd z (by omega))
              refine m_iconst C dX12_fits_249 ?_
              exact m_zret C dX12_fits_250 rfl (Or.inl rfl) (Nat.le_of_ble_eq_true rfl) (Nat.le_of_ble_eq_true rfl) ⟨0, rfl, (by omega), rfl, rfl⟩
      · refine m_iconst C dX12_fits_82 ?_
        exact m_zret C dX12_fits_83 rfl (Or.inl rfl) (Nat.le_of_ble_eq_true rfl) (Nat.le_of_ble_eq_true rfl) ⟨0, rfl, (by omega), rfl, rfl⟩
    · refine m_iload (j := 1) C dX12_fits_34 rfl ?_
      refine m_if_eq (tgt := 77) C ⟨by omega, by omega⟩ dX12_fits_36 (by decide) (fun c6 => ?_) (fun c6 => ?_)
      · refine m_iload (j := 1) C dX12_fits_77 rfl ?_
        refine m_if_ne (tgt := 84) C ⟨by omega, by omega⟩ dX12_fits_79 (by decide) (fun z => absurd z (by omega)) (fun _ => ?_)
        refine m_iconst C dX12_fits_82 ?_
        exact m_zret C dX12_fits_83 rfl (Or.inl rfl) (Nat.le_of_ble_eq_true rfl) (Nat.le_of_ble_eq_true rfl) ⟨0, rfl, (by omega), rfl, rfl⟩
      · refine m_aload_n (j := 3) C dX12_fits_39 rfl ?_
        refine m_geta (k := 14) C dX12_fits_40 w6_73 (by decide) rfl ?_
        refine m_bipush (z := 8) C dX12_fits_43 (by decide) ?_
        refine m_iload_n (j := 4) C dX12_fits_45 rfl ?_
        refine m_imul C dX12_fits_46 ?_
        refine m_iload (j := 0) C dX12_fits_47 rfl ?_
        refine m_iadd C dX12_fits_49 ?_
        refine m_ald (k := 14) C dX12_fits_50 rfl rfl (by decide) (by omega) (by show _ < ((_ : Nat) : Int); simp only [mlen]; omega) (by decide) ?_
        have ra11 := hR.2 14 (((8 * r) + k).toNat)
        refine m_aload_n (j := 3) C dX12_fits_51 rfl ?_
        refine m_geta (k := 20) C dX12_fits_52 w6_79 (by decide) rfl ?_
        refine m_iload (j := 7) C dX12_fits_55 rfl ?_
        refine m_iload (j := 0) C dX12_fits_57 rfl ?_
        refine m_iadd C dX12_fits_59 ?_
        refine m_ald (k := 20) C dX12_fits_60 rfl rfl (by decide) (by omega) (by show _ < ((_ : Nat) : Int); simp only [mlen]; omega) (by decide) ?_
        have ra12 := hR.2 20 ((x + k).toNat)
        refine m_icmp_ne (tgt := 68) C ⟨by omega, by omega⟩ ⟨by omega, by omega⟩ dX12_fits_61 (by decide) (fun c7 => ?_) (fun c7 => ?_)
        · refine m_iconst C dX12_fits_68 ?_
          refine m_istore (lv2 := [(6, .int (iI 0)), (7, .int (iI k)), (5, .int (iI (a 12 r.toNat))), (0, .ref h0), (1, .int (iI r)), (2, .int (iI q)), (3, .int (iI u)), (4, .int (iI x))]) C dX12_fits_69 (by decide) rfl ?_
          refine m_iinc (z := k) (j := 1) (lv2 := [(7, .int (iI (k + 1))), (6, .int (iI 0)), (5, .int (iI (a 12 r.toNat))), (0, .ref h0), (1, .int (iI r)), (2, .int (iI q)), (3, .int (iI u)), (4, .int (iI x))]) C dX12_fits_71 rfl (by decide) rfl ?_
          refine m_goto (tgt := 27) C dX12_fits_74 (by decide) ?_
          refine m_lv (lv2 := [(7, .int (iI (k + 1))), (6, .int (iI 0)), (5, .int (iI (a 12 r.toNat))), (0, .ref h0), (1, .int (iI r)), (2, .int (iI q)), (3, .int (iI u)), (4, .int (iI x))]) [0, 1, 2, 3, 4, 5, 6, 7] rfl ?_
          exact ih (k + 1) 0 (by omega) (by omega) (by omega)
        · refine m_iconst C dX12_fits_64 ?_
          refine m_goto (tgt := 69) C dX12_fits_65 (by decide) ?_
          refine m_istore (lv2 := [(6, .int (iI 1)), (7, .int (iI k)), (5, .int (iI (a 12 r.toNat))), (0, .ref h0), (1, .int (iI r)), (2, .int (iI q)), (3, .int (iI u)), (4, .int (iI x))]) C dX12_fits_69 (by decide) rfl ?_
          refine m_iinc (z := k) (j := 1) (lv2 := [(7, .int (iI (k + 1))), (6, .int (iI 1)), (5, .int (iI (a 12 r.toNat))), (0, .ref h0), (1, .int (iI r)), (2, .int (iI q)), (3, .int (iI u)), (4, .int (iI x))]) C dX12_fits_71 rfl (by decide) rfl ?_
          refine m_goto (tgt := 27) C dX12_fits_74 (by decide) ?_
          refine m_lv (lv2 := [(7, .int (iI (k + 1))), (6, .int (iI 1)), (5, .int (iI (a 12 r.toNat))), (0, .ref h0), (1, .int (iI r)), (2, .int (iI q)), (3, .int (iI u)), (4, .int (iI x))]) [0, 1, 2, 3, 4, 5, 6, 7] rfl ?_
          exact ih (k + 1) 1 (by omega) (by omega) (by omega)
set_option maxHeartbeats 4000000 in
set_option maxRecDepth 100000 in
theorem M_fits {l : Launch} {G : GT} {h0 : Nat} {ad ln : Nat → Nat} {v : Nat → Int} {a : Nat → Nat → Int} {r q u x : Int} (hR : RG v a) (hr : 0 ≤ r ∧ r < 6000) (h12 : 1 ≤ a 12 r.toNat ∧ a 12 r.toNat ≤ 8) (hx : 0 ≤ q ∧ q ≤ x ∧ x < u ∧ u ≤ 500) : Mm l G yX12_fits cX12_fits 9 (some .boolean) 1 [.int (iI r), .int (iI q), .int (iI u), .int (iI x)] h0 ad ln v a 0 0 (fun r2 v2 a2 => ∃ f : Int, r2 = some (.int (iI f)) ∧ (f = 0 ∨ (f = 1 ∧ x + a 12 r.toNat ≤ u)) ∧ v = v2 ∧ a = a2) := by
  refine Mm.mk (by decide) (Nat.le_of_ble_eq_true rfl) ?_
  intro p e s m args below meth c A C
  refine m_aload_n (j := 0) C dX12_fits_0 rfl ?_
  refine m_geta (k := 12) C dX12_fits_1 w6_71 (by decide) rfl ?_
  refine m_iload_n (j := 1) C dX12_fits_4 rfl ?_
  refine m_ald (k := 12) C dX12_fits_5 rfl rfl (by decide) (by omega) (by show _ < ((_ : Nat) : Int); simp only [mlen]; omega) (by decide) ?_
  have ra1 := hR.2 12 (r.toNat)
  refine m_istore (lv2 := [(5, .int (iI (a 12 r.toNat))), (0, .ref h0), (1, .int (iI r)), (2, .int (iI q)), (3, .int (iI u)), (4, .int (iI x))]) C dX12_fits_6 (by decide) rfl ?_
  refine m_iload (j := 5) C dX12_fits_8 rfl ?_
  refine m_iload (j := 0) C dX12_fits_10 rfl ?_
  refine m_iadd C dX12_fits_12 ?_
  refine m_iload_n (j := 4) C dX12_fits_13 rfl ?_
  refine m_icmp_gt (tgt := 21) C ⟨by omega, by omega⟩ ⟨by omega, by omega⟩ dX12_fits_14 (by decide) (fun c1 => ?_) (fun c1 => ?_)
  · refine m_iconst C dX12_fits_21 ?_
    refine m_istore (lv2 := [(6, .int (iI 0)), (5, .int (iI (a 12 r.toNat))), (0, .ref h0), (1, .int (iI r)), (2, .int (iI q)), (3, .int (iI u)), (4, .int (iI x))]) C dX12_fits_22 (by decide) rfl ?_
    refine m_iconst C dX12_fits_24 ?_
    refine m_istore (lv2 := [(7, .int (iI 0)), (6, .int (iI 0)), (5, .int (iI (a 12 r.toNat))), (0, .ref h0), (1, .int (iI r)), (2, .int (iI q)), (3, .int (iI u)), (4, .int (iI x))]) C dX12_fits_25 (by decide) rfl ?_
    refine m_lv (lv2 := [(7, .int (iI 0)), (6, .int (iI 0)), (5, .int (iI (a 12 r.toNat))), (0, .ref h0), (1, .int (iI r)), (2, .int (iI q)), (3, .int (iI u)), (4, .int (iI x))]) [0, 1, 2, 3, 4, 5, 6, 7] rfl ?_
    exact Lp_fits hR hr h12 hx C 10 0 0  (by omega) (by omega) (by omega)
  · refine m_iconst C dX12_fits_17 ?_
    refine m_goto (tgt := 22) C dX12_fits_18 (by decide) ?_
    refine m_istore (lv2 := [(6, .int (iI 1)), (5, .int (iI (a 12 r.toNat))), (0, .ref h0), (1, .int (iI r)), (2, .int (iI q)), (3, .int (iI u)), (4, .int (iI x))]) C dX12_fits_22 (by decide) rfl ?_
    refine m_iconst C dX12_fits_24 ?_
    refine m_istore (lv2 := [(7, .int (iI 0)), (6, .int (iI 1)), (5, .int (iI (a 12 r.toNat))), (0, .ref h0), (1, .int (iI r)), (2, .int (iI q)), (3, .int (iI u)), (4, .int (iI x))]) C dX12_fits_25 (by decide) rfl ?_
    refine m_lv (lv2 := [(7, .int (iI 0)), (6, .int (iI 1)), (5, .int (iI (a 12 r.toNat))), (0, .ref h0), (1, .int (iI r)), (2, .int (iI q)), (3, .int (iI u)), (4, .int (iI x))]) [0, 1, 2, 3, 4, 5, 6, 7] rfl ?_
    exact Lp_fits hR hr h12 hx C 10 0 1  (by omega) (by omega) (by omega)
set_option maxHeartbeats 4000000 in
set_option maxRecDepth 100000 in
theorem Lp_own {p : Program} {l : Launch} {e : Env} {s : State} {m : MethodId} {args : Array Value} {below : List Frame} {meth : Method} {c : Code} {G : GT} {A : Nat → Prop} {h0 : Nat} {ad ln : Nat → Nat} {v : Nat → Int} {a : Nat → Nat → Int} {t q u x : Int} (hR : RG v a) (ht : 0 ≤ t ∧ t < 30) (h10 : 0 ≤ a 10 t.toNat ∧ a 10 t.toNat ≤ 200) (hru : ∀ r : Int, 200 * t ≤ r → r < 200 * t + a 10 t.toNat → 1 ≤ a 12 r.toNat ∧ a 12 r.toNat ≤ 8) (hx : 0 ≤ q ∧ q ≤ x ∧ x < u ∧ u ≤ 500) (C : Cq p s m args meth c cX12_own yX12_own (some .int) G A 7) : ∀ (n : Nat) (k w1 : Int), 6001 - k < (n : Int) → (200 * t ≤ k ∧ k ≤ 200 * t + a 10 t.toNat) → (w1 = -1 ∨ (200 * t ≤ w1 ∧ w1 < 200 * t + a 10 t.toNat ∧ x + a 12 w1.toNat ≤ u)) → mw p l e (rmq 2 0 0) s m args below meth c G A 7 (MQ below (Qm G A (fun rq Lq Eq => ∃ (vq : Nat → Int) (aq : Nat → Nat → Int), mI G h0 ad ln vq aq Lq Eq ∧ (fun r2 v2 a2 => ∃ f : Int, r2 = some (.int (iI f)) ∧ (f = -1 ∨ (200 * t ≤ f ∧ f < 200 * t + a 10 t.toNat ∧ x + a 12 f.toNat ≤ u)) ∧ v = v2 ∧ a = a2) rq vq aq)) args s 0 0 A) h0 ad ln v a 0 0 10 [(6, .int (iI k)), (5, .int (iI w1)), (0, .ref h0), (1, .int (iI t)), (2, .int (iI q)), (3, .int (iI u)), (4, .int (iI x))] [] := by
  intro n
  induction n with
  | zero =>
    intro k w1   hm hk hb
    exact absurd hm (by omega)
  | succ n ih =>
    intro k w1   hm hk hb
    refine m_iload (j := 0) C dX12_own_10 rfl ?_
    refine m_sipush (z := 200) C dX12_own_12 (by decide) ?_
    refine m_iload_n (j := 3) C dX12_own_15 rfl ?_
    refine m_imul C dX12_own_16 ?_
    refine m_aload_n (j := 2) C dX12_own_17 rfl ?_
    refine m_geta (k := 10) C dX12_own_18 w6_69 (by decide) rfl ?_
    refine m_iload_n (j := 3) C dX12_own_21 rfl ?_
    refine m_ald (k := 10) C dX12_own_22 rfl rfl (by decide) (by omega) (by show _ < ((_ : Nat) : Int); simp only [mlen]; omega) (by decide) ?_
    have ra1 := hR.2 10 (t.toNat)
    refine m_iadd C dX12_own_23 ?_
    refine m_icmp_ge (tgt := 72) C ⟨by omega, by omega⟩ ⟨by omega, by omega⟩ dX12_own_24 (by decide) (fun c1 => ?_) (fun c1 => ?_)
    · refine m_iload (j := 1) C dX12_own_72 rfl ?_
      exact m_iret C dX12_own_74 rfl (Nat.le_of_ble_eq_true rfl) (Nat.le_of_ble_eq_true rfl) ⟨w1, rfl, hb, rfl, rfl⟩
    · refine m_iload (j := 1) C dX12_own_27 rfl ?_
      refine m_if_lt (tgt := 49) C ⟨by omega, by omega⟩ dX12_own_29 (by decide) (fun c2 => ?_) (fun c2 => ?_)
      · refine m_aload_n (j := 2) C dX12_own_49 rfl ?_
        refine m_iload (j := 0) C dX12_own_50 rfl ?_
        refine m_iload_n (j := 4) C dX12_own_52 rfl ?_
        refine m_iload_n (j := 5) C dX12_own_53 rfl ?_
        refine m_iload (j := 6) C dX12_own_54 rfl ?_
        refine m_call (mc2 := 0) (ms2 := 0) (As := [.int (iI k), .int (iI q), .int (iI u), .int (iI x)]) (rest := []) C (M_fits (r := k) (q := q) (u := u) (x := x) hR (by omega) (hru k (by omega) (by omega)) hx) dX12_own_56 kV_X12_211 rfl ck_13 rfl (Nat.le_of_ble_eq_true rfl) ⟨Nat.le_of_ble_eq_true rfl, Nat.le_of_ble_eq_true rfl⟩ ⟨Nat.le_of_ble_eq_true rfl, Nat.le_of_ble_eq_true rfl⟩ (fun rh1 vh1 ah1 h1 => ?_)
        obtain ⟨f1, rfl, hf1, rfl, rfl⟩ := h1
        refine m_st (st2 := [.int (iI f1)]) rfl ?_
        refine m_if_eq (tgt := 66) C ⟨by omega, by omega⟩ dX12_own_59 (by decide) (fun c3 => ?_) (fun c3 => ?_)
        · refine m_iinc (z := k) (j := 0) (lv2 := [(6, .int (iI (k + 1))), (5, .int (iI w1)), (0, .ref h0), (1, .int (iI t)), (2, .int (iI q)), (3, .int (iI u)), (4, .int (iI x))]) C dX12_own_66 rfl (by decide) rfl ?_
          refine m_goto (tgt := 10) C dX12_own_69 (by decide) ?_
          refine m_lv (lv2 := [(6, .int (iI (k + 1))), (5, .int (iI w1)), (0, .ref h0), (1, .int (iI t)), (2, .int (iI q)), (3, .int (iI u)), (4, .int (iI x))]) [0, 1, 2, 3, 4, 5, 6] rfl ?_
          exact ih (k + 1) w1 (by omega) (by omega) (by omega)
        · refine m_iload (j := 0) C dX12_own_62 rfl ?_
          refine m_istore (lv2 := [(5, .int (iI k)), (6, .int (iI k)), (0, .ref h0), (1, .int (iI t)), (2, .int (iI q)), (3, .int (iI u)), (4, .int (iI x))]) C dX12_own_64 (by decide) rfl ?_
          refine m_iinc (z := k) (j := 1) (lv2 := [(6, .int (iI (k + 1))), (5, .int (iI k)), (0, .ref h0), (1, .int (iI t)), (2, .int (iI q)), (3, .int (iI u)), (4, .int (iI x))]) C dX12_own_66 rfl (by decide) rfl ?_
          refine m_goto (tgt := 10) C dX12_own_69 (by decide) ?_
          refine m_lv (lv2 := [(6, .int (iI (k + 1))), (5, .int (iI k)), (0, .ref h0), (1, .int (iI t)), (2, .int (iI q)), (3, .int (iI u)), (4, .int (iI x))]) [0, 1, 2, 3, 4, 5, 6] rfl ?_
          exact ih (k + 1) k (by omega) (by omega) (by omega)
      · refine m_aload_n (j := 2) C dX12_own_32 rfl ?_
        refine m_geta (k := 12) C dX12_own_33 w6_71 (by decide) rfl ?_
        refine m_iload (j := 0) C dX12_own_36 rfl ?_
        refine m_ald (k := 12) C dX12_own_38 rfl rfl (by decide) (by omega) (by show _ < ((_ : Nat) : Int); simp only [mlen]; omega) (by decide) ?_
        have ra2 := hR.2 12 (k.toNat)
        refine m_aload_n (j := 2) C dX12_own_39 rfl ?_
        refine m_geta (k := 12) C dX12_own_40 w6_71 (by decide) rfl ?_
        refine m_iload (j := 1) C dX12_own_43 rfl ?_
        refine m_ald (k := 12) C dX12_own_45 rfl rfl (by decide) (by omega) (by show _ < ((_ : Nat) : Int); simp only [mlen]; omega) (by decide) ?_
        have ra3 := hR.2 12 (w1.toNat)
        refine m_icmp_le (tgt := 66) C ⟨by omega, by omega⟩ ⟨by omega, by omega⟩ dX12_own_46 (by decide) (fun c4 => ?_) (fun c4 => ?_)
        · refine m_iinc (z := k) (j := 0) (lv2 := [(6, .int (iI (k + 1))), (5, .int (iI w1)), (0, .ref h0), (1, .int (iI t)), (2, .int (iI q)), (3, .int (iI u)), (4, .int (iI x))]) C dX12_own_66 rfl (by decide) rfl ?_
          refine m_goto (tgt := 10) C dX12_own_69 (by decide) ?_
          refine m_lv (lv2 := [(6, .int (iI (k + 1))), (5, .int (iI w1)), (0, .ref h0), (1, .int (iI t)), (2, .int (iI q)), (3, .int (iI u)), (4, .int (iI x))]) [0, 1, 2, 3, 4, 5, 6] rfl ?_
          exact ih (k + 1) w1 (by omega) (by omega) (by omega)
        · refine m_aload_n (j := 2) C dX12_own_49 rfl ?_
          refine m_iload (j := 0) C dX12_own_50 rfl ?_
          refine m_iload_n (j := 4) C dX12_own_52 rfl ?_
          refine m_iload_n (j := 5) C dX12_own_53 rfl ?_
          refine m_iload (j := 6) C dX12_own_54 rfl ?_
          refine m_call (mc2 := 0) (ms2 := 0) (As := [.int (iI k), .int (iI q), .int (iI u), .int (iI x)]) (rest := []) C (M_fits (r := k) (q := q) (u := u) (x := x) hR (by omega) (hru k (by omega) (by omega)) hx) dX12_own_56 kV_X12_211 rfl ck_13 rfl (Nat.le_of_ble_eq_true rfl) ⟨Nat.le_of_ble_eq_true rfl, Nat.le_of_ble_eq_true rfl⟩ ⟨Nat.le_of_ble_eq_true rfl, Nat.le_of_ble_eq_true rfl⟩ (fun rh2 vh2 ah2 h2 => ?_)
          obtain ⟨f2, rfl, hf2, rfl, rfl⟩ := h2
          refine m_st (st2 := [.int (iI f2)]) rfl ?_
          refine m_if_eq (tgt := 66) C ⟨by omega, by omega⟩ dX12_own_59 (by decide) (fun c5 => ?_) (fun c5 => ?_)
          · refine m_iinc (z := k) (j := 0) (lv2 := [(6, .int (iI (k + 1))), (5, .int (iI w1)), (0, .ref h0), (1, .int (iI t)), (2, .int (iI q)), (3, .int (iI u)), (4, .int (iI x))]) C dX12_own_66 rfl (by decide) rfl ?_
            refine m_goto (tgt := 10) C dX12_own_69 (by decide) ?_
            refine m_lv (lv2 := [(6, .int (iI (k + 1))), (5, .int (iI w1)), (0, .ref h0), (1, .int (iI t)), (2, .int (iI q)), (3, .int (iI u)), (4, .int (iI x))]) [0, 1, 2, 3, 4, 5, 6] rfl ?_
            exact ih (k + 1) w1 (by omega) (by omega) (by omega)
          · refine m_iload (j := 0) C dX12_own_62 rfl ?_
            refine m_istore (lv2 := [(5, .int (iI k)), (6, .int (iI k)), (0, .ref h0), (1, .int (iI t)), (2, .int (iI q)), (3, .int (iI u)), (4, .int (iI x))]) C dX12_own_64 (by decide) rfl ?_
            refine m_iinc (z := k) (j := 1) (lv2 := [(6, .int (iI (k + 1))), (5, .int (iI k)), (0, .ref h0), (1, .int (iI t)), (2, .int (iI q)), (3, .int (iI u)), (4, .int (iI x))]) C dX12_own_66 rfl (by decide) rfl ?_
            refine m_goto (tgt := 10) C dX12_own_69 (by decide) ?_
            refine m_lv (lv2 := [(6, .int (iI (k + 1))), (5, .int (iI k)), (0, .ref h0), (1, .int (iI t)), (2, .int (iI q)), (3, .int (iI u)), (4, .int (iI x))]) [0, 1, 2, 3, 4, 5, 6] rfl ?_
            exact ih (k + 1) k (by omega) (by omega) (by omega)
set_option maxHeartbeats 4000000 in
set_option maxRecDepth 100000 in
theorem M_own {l : Launch} {G : GT} {h0 : Nat} {ad ln : Nat → Nat} {v : Nat → Int} {a : Nat → Nat → Int} {t q u x : Int} (hR : RG v a) (ht : 0 ≤ t ∧ t < 30) (h10 : 0 ≤ a 10 t.toNat ∧ a 10 t.toNat ≤ 200) (hru : ∀ r : Int, 200 * t ≤ r → r < 200 * t + a 10 t.toNat → 1 ≤ a 12 r.toNat ∧ a 12 r.toNat ≤ 8) (hx : 0 ≤ q ∧ q ≤ x ∧ x < u ∧ u ≤ 500) : Mm l G yX12_own cX12_own 7 (some .int) 2 [.int (iI t), .int (iI q), .int (iI u), .int (iI x)] h0 ad ln v a 0 0 (fun r2 v2 a2 => ∃ f : Int, r2 = some (.int (iI f)) ∧ (f = -1 ∨ (200 * t ≤ f ∧ f < 200 * t + a 10 t.toNat ∧ x + a 12 f.toNat ≤ u)) ∧ v = v2 ∧ a = a2) := by
  refine Mm.mk (by decide) (Nat.le_of_ble_eq_true rfl) ?_
  intro p e s m args below meth c A C
  refine m_iconst C dX12_own_0 ?_
  refine m_istore (lv2 := [(5, .int (iI (-1))), (0, .ref h0), (1, .int (iI t)), (2, .int (iI q)), (3, .int (iI u)), (4, .int (iI x))]) C dX12_own_1 (by decide) rfl ?_
  refine m_sipush (z := 200) C dX12_own_3 (by decide) ?_
  refine m_iload_n (j := 2) C dX12_own_6 rfl ?_
  refine m_imul C dX12_own_7 ?_
  refine m_istore (lv2 := [(6, .int (iI (200 * t))), (5, .int (iI (-1))), (0, .ref h0), (1, .int (iI t)), (2, .int (iI q)), (3, .int (iI u)), (4, .int (iI x))]) C dX12_own_8 (by decide) rfl ?_
  refine m_lv (lv2 := [(6, .int (iI (200 * t))), (5, .int (iI (-1))), (0, .ref h0), (1, .int (iI t)), (2, .int (iI q)), (3, .int (iI u)), (4, .int (iI x))]) [0, 1, 2, 3, 4, 5, 6] rfl ?_
  exact Lp_own hR ht h10 hru hx C 6002 (200 * t) (-1)  (by omega) (by omega) (by omega)
end
section
def vlo : Nat → Int := fun k => match k with
  | 3 => 0
  | 4 => 0
  | 23 => 0
  | 25 => 0
  | 30 => 0
  | 31 => 1
  | 32 => 1
  | 36 => 0
  | 39 => 0
  | 41 => 0
  | 50 => 0
  | 52 => 0
  | 53 => 0
  | 55 => 0
  | 60 => 0
  | 61 => 0
  | 63 => 0
  | 64 => 0
  | 66 => 0
  | _ => -2147483648
def vhi : Nat → Int := fun k => match k with
  | 3 => 3000
  | 4 => 30
  | 23 => 500
  | 25 => 208
  | 30 => 500
  | 31 => 100
  | 32 => 50
  | 36 => 200
  | 39 => 200
  | 41 => 200
  | 50 => 40200
  | 52 => 4000
  | 53 => 40200
  | 55 => 4000
  | 60 => 50
  | 61 => 1
  | 63 => 808
  | 64 => 50
  | 66 => 256
  | _ => 2147483647
def alo : Nat → Int := fun k => match k with
  | 5 => 0
  | 6 => 0
  | 8 => -1
  | 9 => -1
  | 10 => 0
  | 12 => 0
  | 13 => 0
  | 14 => 0
  | 16 => 0
  | 22 => 0
  | 26 => -1
  | 34 => -1
  | 37 => 0
  | 44 => -4
  | 45 => 0
  | 46 => 0
  | 47 => 0
  | 57 => 0
  | 59 => 0
  | 65 => 0
  | _ => -2147483648
def ahi : Nat → Int := fun k => match k with
  | 5 => 1
  | 6 => 5
  | 8 => 29
  | 9 => 29
  | 10 => 200
  | 12 => 8
  | 13 => 4
  | 14 => 125
  | 16 => 4
  | 22 => 1
  | 26 => 208
  | 34 => 200
  | 37 => 200
  | 44 => 5999
  | 45 => 23999
  | 46 => 4
  | 47 => 6008
  | 57 => 1
  | 59 => 808
  | 65 => 255
  | _ => 2147483647
def BX (v : Nat → Int) (a : Nat → Nat → Int) : Prop := (∀ k, vlo k ≤ v k ∧ v k ≤ vhi k) ∧ ∀ k j, alo k ≤ a k j ∧ a k j ≤ ahi k
theorem vlo_r (k : Nat) : -2147483648 ≤ vlo k := by unfold vlo; split <;> decide
theorem vhi_r (k : Nat) : vhi k ≤ 2147483647 := by unfold vhi; split <;> decide
theorem alo_r (k : Nat) : -2147483648 ≤ alo k := by unfold alo; split <;> decide
theorem ahi_r (k : Nat) : ahi k ≤ 2147483647 := by unfold ahi; split <;> decide
theorem BX.rg {v : Nat → Int} {a : Nat → Nat → Int} (h : BX v a) : RG v a := ⟨fun k => by have := h.1 k; have := vlo_r k; have := vhi_r k; exact ⟨by omega, by omega⟩, fun k j => by have := h.2 k j; have := alo_r k; have := ahi_r k; exact ⟨by omega, by omega⟩⟩
theorem BX.put {v : Nat → Int} {a : Nat → Nat → Int} {k : Nat} {z : Int} (h : BX v a) (hz : vlo k ≤ z ∧ z ≤ vhi k) : BX (va_up v k z) a := ⟨fun j => by unfold va_up; split; rename_i e; subst e; exact hz; exact h.1 j, h.2⟩
theorem BX.set {v : Nat → Int} {a : Nat → Nat → Int} {k i : Nat} {z : Int} (h : BX v a) (hz : alo k ≤ z ∧ z ≤ ahi k) : BX v (up2 a k i z) := ⟨h.1, fun k2 j => by unfold up2; split; rename_i e; subst e; split; exact hz; exact h.2 _ _; exact h.2 _ _⟩
theorem BX.re {v v2 : Nat → Int} {a a2 : Nat → Nat → Int} (h : BX v a) (hr : RG v2 a2) (hv : ∀ k, (v2 k = v k ∨ (vlo k ≤ v2 k ∧ v2 k ≤ vhi k)) ∨ (vlo k = -2147483648 ∧ vhi k = 2147483647)) (ha : ∀ k, ((a2 k = a k) ∨ (∀ j, alo k ≤ a2 k j ∧ a2 k j ≤ ahi k)) ∨ (alo k = -2147483648 ∧ ahi k = 2147483647)) : BX v2 a2 := by
  refine ⟨fun k => ?_, fun k j => ?_⟩
  · rcases hv k with (e | e) | ⟨e1, e2⟩
    · rw [e]; exact h.1 k
    · exact e
    · have := hr.1 k; rw [e1, e2]; exact ⟨by omega, by omega⟩
  · rcases ha k with (e | e) | ⟨e1, e2⟩
    · rw [e]; exact h.2 k j
    · exact e j
    · have := hr.2 k j; rw [e1, e2]; exact ⟨by omega, by omega⟩
def fr (V A : List Nat) (v : Nat → Int) (a : Nat → Nat → Int) (v2 : Nat → Int) (a2 : Nat → Nat → Int) : Prop := (∀ j, V.contains j = false → v2 j = v j) ∧ (∀ j, A.contains j = false → a2 j = a j)
theorem fr.refl {V A : List Nat} {v : Nat → Int} {a : Nat → Nat → Int} : fr V A v a v a := ⟨fun _ _ => rfl, fun _ _ => rfl⟩
theorem fr.put {V A : List Nat} {v v2 : Nat → Int} {a a2 : Nat → Nat → Int} {k : Nat} {z : Int} (h : fr V A v a v2 a2) (hk : V.contains k = true) : fr V A v a (va_up v2 k z) a2 := ⟨fun j hj => by rw [va_up_ne _ _ (fun e => by rw [e, hk] at hj; cases hj)]; exact h.1 j hj, h.2⟩
theorem fr.set {V A : List Nat} {v v2 : Nat → Int} {a a2 : Nat → Nat → Int} {k i : Nat} {z : Int} (h : fr V A v a v2 a2) (hk : A.contains k = true) : fr V A v a v2 (up2 a2 k i z) := ⟨h.1, fun j hj => by rw [← h.2 j hj]; funext q; exact up2_k (fun e => by rw [e, hk] at hj; cases hj)⟩
theorem con_sub {V W : List Nat} (h : V.all (fun j => W.contains j) = true) {j : Nat} (hj : W.contains j = false) : V.contains j = false := by
  cases e : V.contains j with
  | false => rfl
  | true =>
    have h2 := List.all_eq_true.mp h j (List.contains_iff_mem.mp e)
    rw [hj] at h2; exact h2.symm
theorem fr.call {V A V2 A2 : List Nat} {v v2 v3 : Nat → Int} {a a2 a3 : Nat → Nat → Int} (h : fr V A v a v2 a2) (h2 : fr V2 A2 v2 a2 v3 a3) (hv : V2.all (fun j => V.contains j) = true) (ha : A2.all (fun j => A.contains j) = true) : fr V A v a v3 a3 := ⟨fun j hj => (h2.1 j (con_sub hv hj)).trans (h.1 j hj), fun j hj => (h2.2 j (con_sub ha hj)).trans (h.2 j hj)⟩
theorem fr.eq {v v2 : Nat → Int} {a a2 : Nat → Nat → Int} (h : fr [] [] v a v2 a2) : v = v2 ∧ a = a2 := ⟨(funext fun j => h.1 j rfl).symm, (funext fun j => h.2 j rfl).symm⟩
theorem nar_b {w : Int} (h : w = 0 ∨ w = 1) : vp_nar .boolean (iI w) = iI w := by rcases h with rfl | rfl <;> decide
theorem q_zast2 {p : Program} {l : Launch} {e : Env} {R : Room} {s : State} {m : MethodId} {args : Array Value} {below : List Frame} {meth : Method} {c : Code} {cc : ByteArray} {y : MethodName} {ret : Option FieldType} {G : GT} {A : Nat → Prop} {nL : Nat} {Q : State → Prop} {L : List Nat} {E : Nat → va_E} {kc ks pc : Nat} {lv : List (Nat × Value)} {st : List Value} (C : Cq p s m args meth c cc y ret G A nL) {b n : Nat} {f : Nat → Int32} {i x : Int32} (d : decode cc pc = .ok (.bastore, 1)) (ha : b ∈ L) (hE : E b = aZ G n f) (hin : vp_in i n) (kk : wq p l e R s m args below meth c G A nL Q L (va_up E b (aZ G n (upd f i.toNatClampNeg (vp_nar .boolean x)))) kc ks (pc + 1) lv st) : wq p l e R s m args below meth c G A nL Q L E kc ks pc lv (.int x :: .int i :: .ref b :: st) := by
  intro H locs ls hP hD hS hl
  obtain ⟨q0, hq⟩ := pl_at (E := E) ha
  refine va_zast C.1 C.2.1 C.2.2.2.2.2.1 hP hD hS q0 1 (by rw [hq, hE]; rfl) rfl hin d (fun H1 locs1 hP1 hD1 hS1 => ?_)
  rw [pl_set hD ha hq] at hP1 hD1
  exact kk H1 locs1 ls hP1 hD1 hS1 hl
theorem m_zast {p : Program} {l : Launch} {e : Env} {R : Room} {s : State} {m : MethodId} {args : Array Value} {below : List Frame} {meth : Method} {c : Code} {cc : ByteArray} {y : MethodName} {ret : Option FieldType} {G : GT} {A : Nat → Prop} {nL : Nat} {Q : State → Prop} {h0 : Nat} {ad ln : Nat → Nat} {v : Nat → Int} {a : Nat → Nat → Int} {kc ks pc : Nat} {lv : List (Nat × Value)} {st : List Value} (C : Cq p s m args meth c cc y ret G A nL) {k : Nat} {z w : Int} (d : decode cc pc = .ok (.bastore, 1)) (hA : mA k = true) (hZ : mZ k = true) (h18 : k ≠ 18) (h1 : 0 ≤ z) (h2 : z < (mlen k : Nat)) (hm : mlen k ≤ 100000) (hw : w = 0 ∨ w = 1) (kk : mw p l e R s m args below meth c G A nL Q h0 ad ln v (up2 a k z.toNat w) kc ks (pc + 1) lv st) : mw p l e R s m args below meth c G A nL Q h0 ad ln v a kc ks pc lv (.int (iI w) :: .int (iI z) :: .ref (ad k) :: st) := by
  intro L E h
  refine hv2 (show R32 z from ⟨by omega, by omega⟩) ((h.2.2.1 k hA).2) (fun hr hE => ?_)
  unfold mar at hE
  rw [hZ, if_pos rfl] at hE
  refine q_zast2 C d (h.2.2.1 k hA).1 hE (by rw [h.2.2.2.2.2.1 k h18]; exact iI_in hr h1 h2) (kk L _ (h.set hA ?_))
  unfold mar
  rw [hZ, if_pos rfl, iI_cl hr, nar_b hw]
  congr 1
  funext j
  unfold upd up2
  rw [if_pos rfl]
  split <;> rfl
def TBL (v : Nat → Int) (a : Nat → Nat → Int) : Prop := (∀ t : Int, 0 ≤ t → t < v 4 → ((a 6 t.toNat = 0 ∨ a 6 t.toNat = 4) ∧ a 8 t.toNat = -1) ∨ (1 ≤ a 6 t.toNat ∧ a 6 t.toNat ≤ 3 ∧ 0 ≤ a 8 t.toNat ∧ a 8 t.toNat < t ∧ a 6 (a 8 t.toNat).toNat ≤ 3) ∨ (a 6 t.toNat = 5 ∧ 0 ≤ a 8 t.toNat ∧ a 8 t.toNat < t ∧ a 6 (a 8 t.toNat).toNat ≤ 3 ∧ 0 ≤ a 9 t.toNat ∧ a 9 t.toNat < t ∧ a 6 (a 9 t.toNat).toNat ≤ 3)) ∧ ∀ t r : Int, 0 ≤ t → t < v 4 → 200 * t ≤ r → r < 200 * t + a 10 t.toNat → (1 ≤ a 12 r.toNat ∧ a 12 r.toNat ≤ 8) ∧ (1 ≤ a 13 r.toNat ∧ a 13 r.toNat ≤ 4)
def tbA : List Nat := [6, 8, 9, 10, 12, 13]
theorem TBL.fr {V A : List Nat} {v v2 : Nat → Int} {a a2 : Nat → Nat → Int} (h : TBL v a) (f : fr V A v a v2 a2) (h1 : V.contains 4 = false) (h2 : tbA.all (fun j => !A.contains j) = true) : TBL v2 a2 := by
  refine hv2 (show ∀ j, j ∈ tbA → a2 j = a j from fun j hj => f.2 j (by have := List.all_eq_true.mp h2 j hj; simpa using this)) (f.1 4 h1) (fun g g4 => ?_)
  have g6 := g 6 (by decide); have g8 := g 8 (by decide); have g9 := g 9 (by decide); have g10 := g 10 (by decide); have g12 := g 12 (by decide); have g13 := g 13 (by decide)
  unfold TBL
  rw [g4, g6, g8, g9, g10, g12, g13]
  exact h
theorem fr.back {v v2 : Nat → Int} {a a1 a3 : Nat → Nat → Int} {V A B : List Nat} {k i : Nat} {z y : Int} (h : fr V A v a v a1) (h2 : fr V B v (up2 a1 k i z) v2 a3) (hB : B.all (fun j => A.contains j) = true) (hk : B.contains k = false) (hy : y = a1 k i) : fr V A v a v2 (up2 a3 k i y) := by
  refine ⟨fun j hj => (h2.1 j hj), fun j hj => ?_⟩
  by_cases e : j = k
  · subst e
    rw [← h.2 j hj]
    funext q
    by_cases e2 : q = i
    · subst e2; rw [up2_s, hy]
    · rw [up2_j e2, h2.2 j hk, up2_j e2]
  · rw [show up2 a3 k i y j = a3 j from funext fun q => up2_k e, h2.2 j (con_sub hB hj), show up2 a1 k i z j = a1 j from funext fun q => up2_k e]
    exact h.2 j hj
end
section
def FindC (l : Launch) (G : GT) (h0 : Nat) (ad ln : Nat → Nat) (d : Nat) (t : Int) : Prop := ∀ (v : Nat → Int) (a : Nat → Nat → Int) (q u x : Int), BX v a → TBL v a → t < v 4 → a 6 t.toNat ≤ 4 → (0 ≤ q ∧ q ≤ x ∧ x < u ∧ u ≤ 500) → Mm l G yX12_find cX12_find 7 (some .int) d [.int (iI t), .int (iI q), .int (iI u), .int (iI x)] h0 ad ln v a 0 0 (fun r v2 a2 => ∃ f : Int, r = some (.int (iI f)) ∧ fr [] [27] v a v2 a2 ∧ BX v2 a2 ∧ (f = -1 ∨ (0 ≤ f ∧ f < 6000 ∧ (1 ≤ a 12 f.toNat ∧ a 12 f.toNat ≤ 8) ∧ (1 ≤ a 13 f.toNat ∧ a 13 f.toNat ≤ 4) ∧ x + a 12 f.toNat ≤ u)))
set_option maxHeartbeats 4000000 in
set_option maxRecDepth 100000 in
theorem M_contracted {l : Launch} {G : GT} {h0 : Nat} {ad ln : Nat → Nat} {v : Nat → Int} {a : Nat → Nat → Int} {d : Nat} {t q u x : Int} (hB : BX v a) (hT : TBL v a) (ht : 0 ≤ t ∧ t < v 4) (h30 : v 4 ≤ 30) (hk : 1 ≤ a 6 t.toNat ∧ a 6 t.toNat ≤ 3) (hx : 0 ≤ q ∧ q ≤ x ∧ x < u ∧ u ≤ 500) (hd : 3 ≤ d) (hf : ∀ b : Int, 0 ≤ b → b < t → FindC l G h0 ad ln d b) : Mm l G yX12_contracted cX12_contracted 7 (some .int) (d + 1) [.int (iI t), .int (iI q), .int (iI u), .int (iI x)] h0 ad ln v a 0 0 (fun r v2 a2 => ∃ f : Int, r = some (.int (iI f)) ∧ fr [] [27] v a v2 a2 ∧ BX v2 a2 ∧ (f = -1 ∨ (0 ≤ f ∧ f < 6000 ∧ (1 ≤ a 12 f.toNat ∧ a 12 f.toNat ≤ 8) ∧ (1 ≤ a 13 f.toNat ∧ a 13 f.toNat ≤ 4) ∧ x + a 12 f.toNat ≤ u))) := by
  refine Mm.mk (by decide) (Nat.le_of_ble_eq_true rfl) ?_
  intro p e s m args below meth c A C
  refine hv2 (hT.1 t (by omega) (by omega)) (show fr [] [27] v a v a from fr.refl) (fun ht0 fp0 => ?_)
  refine m_aload_n (j := 0) C dX12_contracted_0 rfl ?_
  refine m_geta (k := 27) C dX12_contracted_1 w6_86 (by decide) rfl ?_
  refine m_iconst C dX12_contracted_4 ?_
  refine m_dup2 C dX12_contracted_5 rfl rfl ?_
  refine m_ald (k := 27) C dX12_contracted_6 rfl rfl (by decide) (by decide) (by decide) (by decide) ?_
  have ra1 : (-2147483648) ≤ a 27 0 ∧ a 27 0 ≤ 2147483647 := hB.2 27 (0)
  refine m_st (st2 := [.int (iI (a 27 0)), .int (iI 0), .ref (ad 27)]) rfl ?_
  refine m_iconst C dX12_contracted_7 ?_
  refine m_iadd C dX12_contracted_8 ?_
  obtain ⟨zz1, hzz1, ezz1⟩ := iI_of (iI ((a 27 0) + 1))
  refine m_st (st2 := [.int (iI zz1), .int (iI 0), .ref (ad 27)]) (by rw [ezz1]) ?_
  refine m_ast (k := 27) C dX12_contracted_9 rfl rfl (by decide) (by decide) (by decide) (by decide) ?_
  refine hv2 (show BX v (up2 a 27 (0 : Int).toNat zz1) from hB.set (k := 27) (i := (0 : Int).toNat) (z := zz1) (show (-2147483648) ≤ zz1 ∧ zz1 ≤ 2147483647 by omega)) (fp0.set (k := 27) (i := (0 : Int).toNat) (z := zz1) rfl) (fun bq1 fq1 => ?_)
  refine m_aload_n (j := 0) C dX12_contracted_10 rfl ?_
  refine m_iload_n (j := 1) C dX12_contracted_11 rfl ?_
  refine m_iload_n (j := 2) C dX12_contracted_12 rfl ?_
  refine m_iload_n (j := 3) C dX12_contracted_13 rfl ?_
  refine m_iload (j := 4) C dX12_contracted_14 rfl ?_
  have ra2 : 0 ≤ a 10 t.toNat ∧ a 10 t.toNat ≤ 200 := bq1.2 10 (t.toNat)
  refine m_call (mc2 := 0) (ms2 := 0) (As := [.int (iI t), .int (iI q), .int (iI u), .int (iI x)]) (rest := []) C (M_own (t := t) (q := q) (u := u) (x := x) bq1.rg (by omega) (bq1.2 10 _) (fun r h1 h2 => ((hT.fr fq1 rfl rfl).2 t r (by omega) (by omega) h1 h2).1) (by omega)) dX12_contracted_16 kV_X12_221 rfl ck_13 rfl (Nat.le_of_ble_eq_true rfl) ⟨by dsimp only [rmq]; omega, by dsimp only [rmq]; omega⟩ ⟨Nat.le_of_ble_eq_true rfl, Nat.le_of_ble_eq_true rfl⟩ (fun rh1 vh1 ah1 h1 => ?_)
  obtain ⟨f1, rfl, hf1, rfl, rfl⟩ := h1
  have gf1 : f1 = -1 ∨ ((1 ≤ (up2 a 27 (0 : Int).toNat zz1) 12 f1.toNat ∧ (up2 a 27 (0 : Int).toNat zz1) 12 f1.toNat ≤ 8) ∧ (1 ≤ (up2 a 27 (0 : Int).toNat zz1) 13 f1.toNat ∧ (up2 a 27 (0 : Int).toNat zz1) 13 f1.toNat ≤ 4)) := by
    rcases hf1 with q | q
    · exact Or.inl q
    · exact Or.inr ((hT.fr fq1 rfl rfl).2 t f1 (by omega) (by omega) q.1 q.2.1)
  refine hv2 (show f1 = -1 ∨ ((1 ≤ a 12 f1.toNat ∧ a 12 f1.toNat ≤ 8) ∧ (1 ≤ a 13 f1.toNat ∧ a 13 f1.toNat ≤ 4)) from gf1) (show f1 = -1 ∨ (200 * t ≤ f1 ∧ f1 < 200 * t + a 10 t.toNat ∧ x + a 12 f1.toNat ≤ u) from hf1) (fun ggf1 hhf1 => ?_)
  refine m_st (st2 := [.int (iI f1)]) rfl ?_
  refine m_istore (lv2 := [(5, .int (iI f1)), (0, .ref h0), (1, .int (iI t)), (2, .int (iI q)), (3, .int (iI u)), (4, .int (iI x))]) C dX12_contracted_19 (by decide) rfl ?_
  refine m_aload_n (j := 1) C dX12_contracted_21 rfl ?_
  refine m_aload_n (j := 1) C dX12_contracted_22 rfl ?_
  refine m_geta (k := 8) C dX12_contracted_23 w6_67 (by decide) rfl ?_
  refine m_iload_n (j := 2) C dX12_contracted_26 rfl ?_
  refine m_ald (k := 8) C dX12_contracted_27 rfl rfl (by decide) (by omega) (by show _ < ((_ : Nat) : Int); simp only [mlen]; omega) (by decide) ?_
  have ra3 : (-1) ≤ a 8 t.toNat ∧ a 8 t.toNat ≤ 29 := bq1.2 8 (t.toNat)
  refine m_st (st2 := [.int (iI (a 8 t.toNat)), .ref h0]) (congrArg (fun z => Value.int (iI z) :: [.ref h0]) (congrFun (fq1.2 8 rfl) (t.toNat))) ?_
  refine m_iload_n (j := 3) C dX12_contracted_28 rfl ?_
  refine m_iload_n (j := 4) C dX12_contracted_29 rfl ?_
  refine m_iload (j := 5) C dX12_contracted_30 rfl ?_
  refine m_call (mc2 := 0) (ms2 := 0) (As := [.int (iI (a 8 t.toNat)), .int (iI q), .int (iI u), .int (iI x)]) (rest := []) C (hf (a 8 t.toNat) (by omega) (by omega) _ _ q u x bq1 (hT.fr fq1 rfl rfl) (by show a 8 t.toNat < v 4; omega) (by show a 6 (a 8 t.toNat).toNat ≤ 4; omega) (by omega)) dX12_contracted_32 kV_X12_218 rfl ck_13 rfl (Nat.le_of_ble_eq_true rfl) ⟨by dsimp only [rmq]; omega, by dsimp only [rmq]; omega⟩ ⟨Nat.le_of_ble_eq_true rfl, Nat.le_of_ble_eq_true rfl⟩ (fun rh2 vh2 ah2 h2 => ?_)
  obtain ⟨f2, rfl, fn1, bn1, ex1⟩ := h2
  refine hv2 (fq1.call fn1 rfl rfl) (show f2 = -1 ∨ (0 ≤ f2 ∧ f2 < 6000 ∧ (1 ≤ a 12 f2.toNat ∧ a 12 f2.toNat ≤ 8) ∧ (1 ≤ a 13 f2.toNat ∧ a 13 f2.toNat ≤ 4) ∧ x + a 12 f2.toNat ≤ u) from ex1) (fun fq2 ef2 => ?_)
  refine m_st (st2 := [.int (iI f2)]) rfl ?_
  refine m_istore (lv2 := [(6, .int (iI f2)), (5, .int (iI f1)), (0, .ref h0), (1, .int (iI t)), (2, .int (iI q)), (3, .int (iI u)), (4, .int (iI x))]) C dX12_contracted_35 (by decide) rfl ?_
  refine m_iload (j := 1) C dX12_contracted_37 rfl ?_
  refine m_if_lt (tgt := 64) C ⟨by omega, by omega⟩ dX12_contracted_39 (by decide) (fun c1 => ?_) (fun c1 => ?_)
  · refine m_iload (j := 0) C dX12_contracted_64 rfl ?_
    refine m_goto (tgt := 71) C dX12_contracted_66 (by decide) ?_
    exact m_iret C dX12_contracted_71 rfl (Nat.le_of_ble_eq_true rfl) (Nat.le_of_ble_eq_true rfl) ⟨f2, rfl, fq2, bn1, (by omega)⟩
  · replace gf1 := gf1.resolve_left (fun q => by omega)
    refine m_iload (j := 0) C dX12_contracted_42 rfl ?_
    refine m_if_lt (tgt := 69) C ⟨by omega, by omega⟩ dX12_contracted_44 (by decide) (fun c2 => ?_) (fun c2 => ?_)
    · refine m_iload (j := 1) C dX12_contracted_69 rfl ?_
      exact m_iret C dX12_contracted_71 rfl (Nat.le_of_ble_eq_true rfl) (Nat.le_of_ble_eq_true rfl) ⟨f1, rfl, fq2, bn1, (by omega)⟩
    · refine m_aload_n (j := 2) C dX12_contracted_47 rfl ?_
      refine m_geta (k := 12) C dX12_contracted_48 w6_71 (by decide) rfl ?_
      refine m_iload (j := 0) C dX12_contracted_51 rfl ?_
      refine m_ald (k := 12) C dX12_contracted_53 rfl rfl (by decide) (by omega) (by show _ < ((_ : Nat) : Int); simp only [mlen]; omega) (by decide) ?_
      refine hv2 (show 0 ≤ ah2 12 f2.toNat ∧ ah2 12 f2.toNat ≤ 8 from bn1.2 12 (f2.toNat)) (show ah2 12 (f2.toNat) = a 12 (f2.toNat) from congrFun (fn1.2 12 rfl) (f2.toNat)) (fun ra4 ae1 => ?_)
      refine m_st (st2 := [.int (iI (a 12 f2.toNat))]) (congrArg (fun z => Value.int (iI z) :: []) (congrFun (fq2.2 12 rfl) (f2.toNat))) ?_
      refine m_aload_n (j := 2) C dX12_contracted_54 rfl ?_
      refine m_geta (k := 12) C dX12_contracted_55 w6_71 (by decide) rfl ?_
      refine m_iload (j := 1) C dX12_contracted_58 rfl ?_
      refine m_ald (k := 12) C dX12_contracted_60 rfl rfl (by decide) (by omega) (by show _ < ((_ : Nat) : Int); simp only [mlen]; omega) (by decide) ?_
      refine hv2 (show 0 ≤ ah2 12 f1.toNat ∧ ah2 12 f1.toNat ≤ 8 from bn1.2 12 (f1.toNat)) (show ah2 12 (f1.toNat) = a 12 (f1.toNat) from congrFun (fn1.2 12 rfl) (f1.toNat)) (fun ra5 ae2 => ?_)
      refine m_st (st2 := [.int (iI (a 12 f1.toNat)), .int (iI (a 12 f2.toNat))]) (congrArg (fun z => Value.int (iI z) :: [.int (iI (a 12 f2.toNat))]) (congrFun (fq2.2 12 rfl) (f1.toNat))) ?_
      refine m_icmp_le (tgt := 69) C ⟨by omega, by omega⟩ ⟨by omega, by omega⟩ dX12_contracted_61 (by decide) (fun c3 => ?_) (fun c3 => ?_)
      · refine m_iload (j := 1) C dX12_contracted_69 rfl ?_
        exact m_iret C dX12_contracted_71 rfl (Nat.le_of_ble_eq_true rfl) (Nat.le_of_ble_eq_true rfl) ⟨f1, rfl, fq2, bn1, (by omega)⟩
      · refine m_iload (j := 0) C dX12_contracted_64 rfl ?_
        refine m_goto (tgt := 71) C dX12_contracted_66 (by decide) ?_
        exact m_iret C dX12_contracted_71 rfl (Nat.le_of_ble_eq_true rfl) (Nat.le_of_ble_eq_true rfl) ⟨f2, rfl, fq2, bn1, (by omega)⟩
set_option maxHeartbeats 4000000 in
set_option maxRecDepth 100000 in
theorem M_find1 {l : Launch} {G : GT} {h0 : Nat} {ad ln : Nat → Nat} {v : Nat → Int} {a : Nat → Nat → Int} {d : Nat} {t q u x : Int} (hB : BX v a) (hT : TBL v a) (ht : 0 ≤ t ∧ t < v 4) (h4 : a 6 t.toNat ≤ 4) (hx : 0 ≤ q ∧ q ≤ x ∧ x < u ∧ u ≤ 500) (hd : 3 ≤ d) (hf : ∀ b : Int, 0 ≤ b → b < t → FindC l G h0 ad ln d b) : Mm l G yX12_find cX12_find 7 (some .int) (d + 2) [.int (iI t), .int (iI q), .int (iI u), .int (iI x)] h0 ad ln v a 0 0 (fun r v2 a2 => ∃ f : Int, r = some (.int (iI f)) ∧ fr [] [27] v a v2 a2 ∧ BX v2 a2 ∧ (f = -1 ∨ (0 ≤ f ∧ f < 6000 ∧ (1 ≤ a 12 f.toNat ∧ a 12 f.toNat ≤ 8) ∧ (1 ≤ a 13 f.toNat ∧ a 13 f.toNat ≤ 4) ∧ x + a 12 f.toNat ≤ u))) := by
  refine Mm.mk (by decide) (Nat.le_of_ble_eq_true rfl) ?_
  intro p e s m args below meth c A C
  refine hv2 (show 0 ≤ v 4 ∧ v 4 ≤ 30 from hB.1 4) (show fr [] [27] v a v a from fr.refl) (fun h30 fp0 => ?_)
  have ht0 := hT.1 t (by omega) (by omega)
  refine m_aload_n (j := 0) C dX12_find_0 rfl ?_
  refine m_geta (k := 27) C dX12_find_1 w6_86 (by decide) rfl ?_
  refine m_aload_n (j := 0) C dX12_find_4 rfl ?_
  refine m_geta (k := 6) C dX12_find_5 w6_65 (by decide) rfl ?_
  refine m_iload_n (j := 1) C dX12_find_8 rfl ?_
  refine m_ald (k := 6) C dX12_find_9 rfl rfl (by decide) (by omega) (by show _ < ((_ : Nat) : Int); simp only [mlen]; omega) (by decide) ?_
  have ra1 : 0 ≤ a 6 t.toNat ∧ a 6 t.toNat ≤ 5 := hB.2 6 (t.toNat)
  refine m_dup2 C dX12_find_10 rfl rfl ?_
  refine m_ald (k := 27) C dX12_find_11 rfl rfl (by decide) (by omega) (by show _ < ((_ : Nat) : Int); simp only [mlen]; omega) (by decide) ?_
  have ra2 : (-2147483648) ≤ a 27 (a 6 t.toNat).toNat ∧ a 27 (a 6 t.toNat).toNat ≤ 2147483647 := hB.2 27 ((a 6 t.toNat).toNat)
  refine m_iconst C dX12_find_12 ?_
  refine m_iadd C dX12_find_13 ?_
  obtain ⟨zz1, hzz1, ezz1⟩ := iI_of (iI ((a 27 (a 6 t.toNat).toNat) + 1))
  refine m_st (st2 := [.int (iI zz1), .int (iI (a 6 t.toNat)), .ref (ad 27)]) (by rw [ezz1]) ?_
  refine m_ast (k := 27) C dX12_find_14 rfl rfl (by decide) (by omega) (by show _ < ((_ : Nat) : Int); simp only [mlen]; omega) (by decide) ?_
  refine hv2 (show BX v (up2 a 27 (a 6 t.toNat).toNat zz1) from hB.set (k := 27) (i := (a 6 t.toNat).toNat) (z := zz1) (show (-2147483648) ≤ zz1 ∧ zz1 ≤ 2147483647 by omega)) (fp0.set (k := 27) (i := (a 6 t.toNat).toNat) (z := zz1) rfl) (fun bq1 fq1 => ?_)
  refine m_aload_n (j := 0) C dX12_find_15 rfl ?_
  refine m_geta (k := 6) C dX12_find_16 w6_65 (by decide) rfl ?_
  refine m_iload_n (j := 1) C dX12_find_19 rfl ?_
  refine m_ald (k := 6) C dX12_find_20 rfl rfl (by decide) (by omega) (by show _ < ((_ : Nat) : Int); simp only [mlen]; omega) (by decide) ?_
  refine m_st (st2 := [.int (iI (a 6 t.toNat))]) (congrArg (fun z => Value.int (iI z) :: []) (congrFun (fq1.2 6 rfl) (t.toNat))) ?_
  rcases (show (a 6 t.toNat) = 1 ∨ (a 6 t.toNat) = 2 ∨ (a 6 t.toNat) = 3 ∨ ((a 6 t.toNat) < 1 ∨ 3 < (a 6 t.toNat)) by omega) with sw1 | sw1 | sw1 | sw1
  · refine m_tabIn (tgt := 48) (off := 27) C (r32_c (lo := 0) (hi := 5) ra1.1 ra1.2 (by decide) (by decide)) dX12_find_21 (by omega) (by omega) (by rw [sw1]; rfl) (by decide) ?_
    refine m_aload_n (j := 0) C dX12_find_48 rfl ?_
    refine m_iload_n (j := 1) C dX12_find_49 rfl ?_
    refine m_iload_n (j := 2) C dX12_find_50 rfl ?_
    refine m_iload_n (j := 3) C dX12_find_51 rfl ?_
    refine m_iload (j := 4) C dX12_find_52 rfl ?_
    refine m_call (mc2 := 0) (ms2 := 0) (As := [.int (iI t), .int (iI q), .int (iI u), .int (iI x)]) (rest := []) C (M_contracted (t := t) (q := q) (u := u) (x := x) bq1 (hT.fr fq1 rfl rfl) (by show 0 ≤ t ∧ t < v 4; omega) (by show v 4 ≤ 30; omega) (by show 1 ≤ a 6 t.toNat ∧ a 6 t.toNat ≤ 3; omega) hx hd hf) dX12_find_54 kV_X12_215 rfl ck_13 rfl (Nat.le_of_ble_eq_true rfl) ⟨by dsimp only [rmq]; omega, by dsimp only [rmq]; omega⟩ ⟨Nat.le_of_ble_eq_true rfl, Nat.le_of_ble_eq_true rfl⟩ (fun rh1 vh1 ah1 h1 => ?_)
    obtain ⟨f1, rfl, fn1, bn1, ex1⟩ := h1
    refine hv2 (fq1.call fn1 rfl rfl) (show f1 = -1 ∨ (0 ≤ f1 ∧ f1 < 6000 ∧ (1 ≤ a 12 f1.toNat ∧ a 12 f1.toNat ≤ 8) ∧ (1 ≤ a 13 f1.toNat ∧ a 13 f1.toNat ≤ 4) ∧ x + a 12 f1.toNat ≤ u) from ex1) (fun fq2 ef1 => ?_)
    refine m_st (st2 := [.int (iI f1)]) rfl ?_
    exact m_iret C dX12_find_57 rfl (Nat.le_of_ble_eq_true rfl) (Nat.le_of_ble_eq_true rfl) ⟨f1, rfl, fq2, bn1, (by omega)⟩
  · refine m_tabIn (tgt := 58) (off := 37) C (r32_c (lo := 0) (hi := 5) ra1.1 ra1.2 (by decide) (by decide)) dX12_find_21 (by omega) (by omega) (by rw [sw1]; rfl) (by decide) ?_
    refine m_aload_n (j := 0) C dX12_find_58 rfl ?_
    refine m_geta (k := 20) C dX12_find_59 w6_79 (by decide) rfl ?_
    refine m_iload (j := 4) C dX12_find_62 rfl ?_
    refine m_ald (k := 20) C dX12_find_64 rfl rfl (by decide) (by omega) (by show _ < ((_ : Nat) : Int); simp only [mlen]; omega) (by decide) ?_
    have ra3 : (-2147483648) ≤ a 20 x.toNat ∧ a 20 x.toNat ≤ 2147483647 := bq1.2 20 (x.toNat)
    refine m_st (st2 := [.int (iI (a 20 x.toNat))]) (congrArg (fun z => Value.int (iI z) :: []) (congrFun (fq1.2 20 rfl) (x.toNat))) ?_
    refine m_callS (As := [.int (iI (a 20 x.toNat))]) (rest := []) C (fun L E => s_isDigit (iI (a 20 x.toNat))) dX12_find_65 kS_X12_202 rfl rfl (Nat.le_of_ble_eq_true rfl) ⟨by dsimp only [rmq]; omega, by dsimp only [rmq]; omega⟩ ⟨Nat.le_of_ble_eq_true rfl, Nat.le_of_ble_eq_true rfl⟩ ?_
    rcases inn_c (x := a 20 x.toNat) (lo := 48) (hi := 57) (r32_c (lo := (-2147483648)) (hi := 2147483647) ra3.1 ra3.2 (by decide) (by decide)) ⟨by decide, by decide⟩ ⟨by decide, by decide⟩ with ⟨h2a, h2b, h2e⟩ | ⟨h2a, h2e⟩
    · refine m_st (st2 := [.int (iI 1)]) (by rw [show inn (iI (a 20 x.toNat)) 48 57 = iI 1 from h2e]) ?_
      refine m_if_ne (tgt := 86) C ⟨by decide, by decide⟩ dX12_find_68 (by decide) (fun _ => ?_) (fun z => absurd z (by omega))
      refine m_aload_n (j := 0) C dX12_find_86 rfl ?_
      refine m_geta (k := 27) C dX12_find_87 w6_86 (by decide) rfl ?_
      refine m_iconst C dX12_find_90 ?_
      refine m_dup2 C dX12_find_91 rfl rfl ?_
      refine m_ald (k := 27) C dX12_find_92 rfl rfl (by decide) (by decide) (by decide) (by decide) ?_
      have ra4 : (-2147483648) ≤ (up2 a 27 (a 6 t.toNat).toNat zz1) 27 0 ∧ (up2 a 27 (a 6 t.toNat).toNat zz1) 27 0 ≤ 2147483647 := bq1.2 27 (0)
      refine m_st (st2 := [.int (iI ((up2 a 27 (a 6 t.toNat).toNat zz1) 27 0)), .int (iI 0), .ref (ad 27)]) rfl ?_
      refine m_iconst C dX12_find_93 ?_
      refine m_iadd C dX12_find_94 ?_
      obtain ⟨zz2, hzz2, ezz2⟩ := iI_of (iI (((up2 a 27 (a 6 t.toNat).toNat zz1) 27 0) + 1))
      refine m_st (st2 := [.int (iI zz2), .int (iI 0), .ref (ad 27)]) (by rw [ezz2]) ?_
      refine m_ast (k := 27) C dX12_find_95 rfl rfl (by decide) (by decide) (by decide) (by decide) ?_
      refine hv2 (show BX v (up2 (up2 a 27 (a 6 t.toNat).toNat zz1) 27 (0 : Int).toNat zz2) from bq1.set (k := 27) (i := (0 : Int).toNat) (z := zz2) (show (-2147483648) ≤ zz2 ∧ zz2 ≤ 2147483647 by omega)) (fq1.set (k := 27) (i := (0 : Int).toNat) (z := zz2) rfl) (fun bq2 fq3 => ?_)
      refine m_aload_n (j := 0) C dX12_find_96 rfl ?_
      refine m_iload_n (j := 1) C dX12_find_97 rfl ?_
      refine m_iload_n (j := 2) C dX12_find_98 rfl ?_
      refine m_iload_n (j := 3) C dX12_find_99 rfl ?_
      refine m_iload (j := 4) C dX12_find_100 rfl ?_
      have ra5 : 0 ≤ a 10 t.toNat ∧ a 10 t.toNat ≤ 200 := bq2.2 10 (t.toNat)
      refine m_call (mc2 := 0) (ms2 := 0) (As := [.int (iI t), .int (iI q), .int (iI u), .int (iI x)]) (rest := []) C (M_own (t := t) (q := q) (u := u) (x := x) bq2.rg (by omega) (bq2.2 10 _) (fun r h1 h2 => ((hT.fr fq3 rfl rfl).2 t r (by omega) (by omega) h1 h2).1) (by omega)) dX12_find_102 kV_X12_221 rfl ck_13 rfl (Nat.le_of_ble_eq_true rfl) ⟨by dsimp only [rmq]; omega, by dsimp only [rmq]; omega⟩ ⟨Nat.le_of_ble_eq_true rfl, Nat.le_of_ble_eq_true rfl⟩ (fun rh3 vh3 ah3 h3 => ?_)
      obtain ⟨f2, rfl, hf2, rfl, rfl⟩ := h3
      have gf2 : f2 = -1 ∨ ((1 ≤ (up2 (up2 a 27 (a 6 t.toNat).toNat zz1) 27 (0 : Int).toNat zz2) 12 f2.toNat ∧ (up2 (up2 a 27 (a 6 t.toNat).toNat zz1) 27 (0 : Int).toNat zz2) 12 f2.toNat ≤ 8) ∧ (1 ≤ (up2 (up2 a 27 (a 6 t.toNat).toNat zz1) 27 (0 : Int).toNat zz2) 13 f2.toNat ∧ (up2 (up2 a 27 (a 6 t.toNat).toNat zz1) 27 (0 : Int).toNat zz2) 13 f2.toNat ≤ 4)) := by
        rcases hf2 with q | q
        · exact Or.inl q
        · exact Or.inr ((hT.fr fq3 rfl rfl).2 t f2 (by omega) (by omega) q.1 q.2.1)
      refine hv2 (show f2 = -1 ∨ ((1 ≤ a 12 f2.toNat ∧ a 12 f2.toNat ≤ 8) ∧ (1 ≤ a 13 f2.toNat ∧ a 13 f2.toNat ≤ 4)) from gf2) (show f2 = -1 ∨ (200 * t ≤ f2 ∧ f2 < 200 * t + a 10 t.toNat ∧ x + a 12 f2.toNat ≤ u) from hf2) (fun ggf2 hhf2 => ?_)
      refine m_st (st2 := [.int (iI f2)]) rfl ?_
      exact m_iret C dX12_find_105 rfl (Nat.le_of_ble_eq_true rfl) (Nat.le_of_ble_eq_true rfl) ⟨f2, rfl, fq3, bq2, (by omega)⟩
    · refine m_st (st2 := [.int (iI 0)]) (by rw [show inn (iI (a 20 x.toNat)) 48 57 = iI 0 from h2e]) ?_
      refine m_if_ne (tgt := 86) C ⟨by decide, by decide⟩ dX12_find_68 (by decide) (fun z => absurd z (by omega)) (fun _ => ?_)
      refine m_aload_n (j := 0) C dX12_find_71 rfl ?_
      refine m_aload_n (j := 0) C dX12_find_72 rfl ?_
      refine m_geta (k := 8) C dX12_find_73 w6_67 (by decide) rfl ?_
      refine m_iload_n (j := 1) C dX12_find_76 rfl ?_
      refine m_ald (k := 8) C dX12_find_77 rfl rfl (by decide) (by omega) (by show _ < ((_ : Nat) : Int); simp only [mlen]; omega) (by decide) ?_
      have ra6 : (-1) ≤ a 8 t.toNat ∧ a 8 t.toNat ≤ 29 := bq1.2 8 (t.toNat)
      refine m_st (st2 := [.int (iI (a 8 t.toNat)), .ref h0]) (congrArg (fun z => Value.int (iI z) :: [.ref h0]) (congrFun (fq1.2 8 rfl) (t.toNat))) ?_
      refine m_iload_n (j := 2) C dX12_find_78 rfl ?_
      refine m_iload_n (j := 3) C dX12_find_79 rfl ?_
      refine m_iload (j := 4) C dX12_find_80 rfl ?_
      refine m_call (mc2 := 0) (ms2 := 0) (As := [.int (iI (a 8 t.toNat)), .int (iI q), .int (iI u), .int (iI x)]) (rest := []) C (hf (a 8 t.toNat) (by omega) (by omega) _ _ q u x bq1 (hT.fr fq1 rfl rfl) (by show a 8 t.toNat < v 4; omega) (by show a 6 (a 8 t.toNat).toNat ≤ 4; omega) (by omega)) dX12_find_82 kV_X12_218 rfl ck_13 rfl (Nat.le_of_ble_eq_true rfl) ⟨by dsimp only [rmq]; omega, by dsimp only [rmq]; omega⟩ ⟨Nat.le_of_ble_eq_true rfl, Nat.le_of_ble_eq_true rfl⟩ (fun rh4 vh4 ah4 h4 => ?_)
      obtain ⟨f3, rfl, fn2, bn2, ex2⟩ := h4
      refine hv2 (fq1.call fn2 rfl rfl) (show f3 = -1 ∨ (0 ≤ f3 ∧ f3 < 6000 ∧ (1 ≤ a 12 f3.toNat ∧ a 12 f3.toNat ≤ 8) ∧ (1 ≤ a 13 f3.toNat ∧ a 13 f3.toNat ≤ 4) ∧ x + a 12 f3.toNat ≤ u) from ex2) (fun fq4 ef3 => ?_)
      refine m_st (st2 := [.int (iI f3)]) rfl ?_
      exact m_iret C dX12_find_85 rfl (Nat.le_of_ble_eq_true rfl) (Nat.le_of_ble_eq_true rfl) ⟨f3, rfl, fq4, bn2, (by omega)⟩
  · refine m_tabIn (tgt := 106) (off := 85) C (r32_c (lo := 0) (hi := 5) ra1.1 ra1.2 (by decide) (by decide)) dX12_find_21 (by omega) (by omega) (by rw [sw1]; rfl) (by decide) ?_
    refine m_aload_n (j := 0) C dX12_find_106 rfl ?_
    refine m_geta (k := 27) C dX12_find_107 w6_86 (by decide) rfl ?_
    refine m_iconst C dX12_find_110 ?_
    refine m_dup2 C dX12_find_111 rfl rfl ?_
    refine m_ald (k := 27) C dX12_find_112 rfl rfl (by decide) (by decide) (by decide) (by decide) ?_
    have ra7 : (-2147483648) ≤ (up2 a 27 (a 6 t.toNat).toNat zz1) 27 1 ∧ (up2 a 27 (a 6 t.toNat).toNat zz1) 27 1 ≤ 2147483647 := bq1.2 27 (1)
    refine m_st (st2 := [.int (iI ((up2 a 27 (a 6 t.toNat).toNat zz1) 27 1)), .int (iI 1), .ref (ad 27)]) rfl ?_
    refine m_iconst C dX12_find_113 ?_
    refine m_iadd C dX12_find_114 ?_
    obtain ⟨zz3, hzz3, ezz3⟩ := iI_of (iI (((up2 a 27 (a 6 t.toNat).toNat zz1) 27 1) + 1))
    refine m_st (st2 := [.int (iI zz3), .int (iI 1), .ref (ad 27)]) (by rw [ezz3]) ?_
    refine m_ast (k := 27) C dX12_find_115 rfl rfl (by decide) (by decide) (by decide) (by decide) ?_
    refine hv2 (show BX v (up2 (up2 a 27 (a 6 t.toNat).toNat zz1) 27 (1 : Int).toNat zz3) from bq1.set (k := 27) (i := (1 : Int).toNat) (z := zz3) (show (-2147483648) ≤ zz3 ∧ zz3 ≤ 2147483647 by omega)) (fq1.set (k := 27) (i := (1 : Int).toNat) (z := zz3) rfl) (fun bq3 fq5 => ?_)
    refine m_aload_n (j := 0) C dX12_find_116 rfl ?_
    refine m_geta (k := 20) C dX12_find_117 w6_79 (by decide) rfl ?_
    refine m_iload (j := 4) C dX12_find_120 rfl ?_
    refine m_ald (k := 20) C dX12_find_122 rfl rfl (by decide) (by omega) (by show _ < ((_ : Nat) : Int); simp only [mlen]; omega) (by decide) ?_
    have ra8 : (-2147483648) ≤ a 20 x.toNat ∧ a 20 x.toNat ≤ 2147483647 := bq3.2 20 (x.toNat)
    refine m_st (st2 := [.int (iI (a 20 x.toNat))]) (congrArg (fun z => Value.int (iI z) :: []) (congrFun (fq5.2 20 rfl) (x.toNat))) ?_
    refine m_istore (lv2 := [(5, .int (iI (a 20 x.toNat))), (0, .ref h0), (1, .int (iI t)), (2, .int (iI q)), (3, .int (iI u)), (4, .int (iI x))]) C dX12_find_123 (by decide) rfl ?_
    refine m_aload_n (j := 1) C dX12_find_125 rfl ?_
    refine m_geta (k := 20) C dX12_find_126 w6_79 (by decide) rfl ?_
    refine m_iload (j := 5) C dX12_find_129 rfl ?_
    refine m_iload (j := 0) C dX12_find_131 rfl ?_
    refine m_callS (As := [.int (iI (a 20 x.toNat))]) (rest := [.int (iI x), .ref (ad 20)]) C (fun L E => s_isGreat (iI (a 20 x.toNat))) dX12_find_133 kS_X12_205 rfl rfl (Nat.le_of_ble_eq_true rfl) ⟨by dsimp only [rmq]; omega, by dsimp only [rmq]; omega⟩ ⟨Nat.le_of_ble_eq_true rfl, Nat.le_of_ble_eq_true rfl⟩ ?_
    rcases inn_c (x := a 20 x.toNat) (lo := 65) (hi := 90) (r32_c (lo := (-2147483648)) (hi := 2147483647) ra8.1 ra8.2 (by decide) (by decide)) ⟨by decide, by decide⟩ ⟨by decide, by decide⟩ with ⟨h5a, h5b, h5e⟩ | ⟨h5a, h5e⟩
    · refine m_st (st2 := [.int (iI 1), .int (iI x), .ref (ad 20)]) (by rw [show inn (iI (a 20 x.toNat)) 65 90 = iI 1 from h5e]) ?_
      refine m_if_eq (tgt := 147) C ⟨by decide, by decide⟩ dX12_find_136 (by decide) (fun z => absurd z (by omega)) (fun _ => ?_)
      refine m_iload (j := 0) C dX12_find_139 rfl ?_
      refine m_bipush (z := 32) C dX12_find_141 (by decide) ?_
      refine m_iadd C dX12_find_143 ?_
      refine m_goto (tgt := 149) C dX12_find_144 (by decide) ?_
      refine m_ast (k := 20) C dX12_find_149 rfl rfl (by decide) (by omega) (by show _ < ((_ : Nat) : Int); simp only [mlen]; omega) (by decide) ?_
      refine hv2 (show BX v (up2 (up2 (up2 a 27 (a 6 t.toNat).toNat zz1) 27 (1 : Int).toNat zz3) 20 x.toNat ((a 20 x.toNat) + 32)) from bq3.set (k := 20) (i := x.toNat) (z := (a 20 x.toNat) + 32) (show (-2147483648) ≤ ((a 20 x.toNat) + 32) ∧ ((a 20 x.toNat) + 32) ≤ 2147483647 by omega)) (show fr [] [20, 27] v a v (up2 (up2 (up2 a 27 (a 6 t.toNat).toNat zz1) 27 (1 : Int).toNat zz3) 20 x.toNat ((a 20 x.toNat) + 32)) from ((fr.refl (V := []) (A := [20, 27])).call fq5 rfl rfl).set (k := 20) (i := x.toNat) (z := (a 20 x.toNat) + 32) rfl) (fun bq4 fw1 => ?_)
      refine m_aload_n (j := 1) C dX12_find_150 rfl ?_
      refine m_iload_n (j := 2) C dX12_find_151 rfl ?_
      refine m_iload_n (j := 3) C dX12_find_152 rfl ?_
      refine m_iload_n (j := 4) C dX12_find_153 rfl ?_
      refine m_iload (j := 5) C dX12_find_154 rfl ?_
      refine m_call (mc2 := 0) (ms2 := 0) (As := [.int (iI t), .int (iI q), .int (iI u), .int (iI x)]) (rest := []) C (M_contracted (t := t) (q := q) (u := u) (x := x) bq4 (hT.fr fw1 rfl rfl) (by show 0 ≤ t ∧ t < v 4; omega) (by show v 4 ≤ 30; omega) (by show 1 ≤ a 6 t.toNat ∧ a 6 t.toNat ≤ 3; omega) hx hd hf) dX12_find_156 kV_X12_215 rfl ck_13 rfl (Nat.le_of_ble_eq_true rfl) ⟨by dsimp only [rmq]; omega, by dsimp only [rmq]; omega⟩ ⟨Nat.le_of_ble_eq_true rfl, Nat.le_of_ble_eq_true rfl⟩ (fun rh6 vh6 ah6 h6 => ?_)
      obtain ⟨f4, rfl, fn3, bn3, ex3⟩ := h6
      have ef4 : f4 = -1 ∨ (0 ≤ f4 ∧ f4 < 6000 ∧ (1 ≤ a 12 f4.toNat ∧ a 12 f4.toNat ≤ 8) ∧ (1 ≤ a 13 f4.toNat ∧ a 13 f4.toNat ≤ 4) ∧ x + a 12 f4.toNat ≤ u) := ex3
      refine m_st (st2 := [.int (iI f4)]) rfl ?_
      refine m_istore (lv2 := [(6, .int (iI f4)), (5, .int (iI (a 20 x.toNat))), (0, .ref h0), (1, .int (iI t)), (2, .int (iI q)), (3, .int (iI u)), (4, .int (iI x))]) C dX12_find_159 (by decide) rfl ?_
      refine m_aload_n (j := 2) C dX12_find_161 rfl ?_
      refine m_geta (k := 20) C dX12_find_162 w6_79 (by decide) rfl ?_
      refine m_iload (j := 6) C dX12_find_165 rfl ?_
      refine m_iload (j := 1) C dX12_find_167 rfl ?_
      refine m_ast (k := 20) C dX12_find_169 rfl rfl (by decide) (by omega) (by show _ < ((_ : Nat) : Int); simp only [mlen]; omega) (by decide) ?_
      refine hv2 (show BX vh6 (up2 ah6 20 x.toNat (a 20 x.toNat)) from bn3.set (k := 20) (i := x.toNat) (z := a 20 x.toNat) (show (-2147483648) ≤ (a 20 x.toNat) ∧ (a 20 x.toNat) ≤ 2147483647 by omega)) (fq5.back fn3 rfl rfl (k := 20) (i := x.toNat) (y := a 20 x.toNat) rfl) (fun bq5 fq8 => ?_)
      refine m_iload (j := 0) C dX12_find_170 rfl ?_
      exact m_iret C dX12_find_172 rfl (Nat.le_of_ble_eq_true rfl) (Nat.le_of_ble_eq_true rfl) ⟨f4, rfl, fq8, bq5, (by omega)⟩
    · refine m_st (st2 := [.int (iI 0), .int (iI x), .ref (ad 20)]) (by rw [show inn (iI (a 20 x.toNat)) 65 90 = iI 0 from h5e]) ?_
      refine m_if_eq (tgt := 147) C ⟨by decide, by decide⟩ dX12_find_136 (by decide) (fun _ => ?_) (fun z => absurd z (by omega))
      refine m_iload (j := 0) C dX12_find_147 rfl ?_
      refine m_ast (k := 20) C dX12_find_149 rfl rfl (by decide) (by omega) (by show _ < ((_ : Nat) : Int); simp only [mlen]; omega) (by decide) ?_
      refine hv2 (show BX v (up2 (up2 (up2 a 27 (a 6 t.toNat).toNat zz1) 27 (1 : Int).toNat zz3) 20 x.toNat (a 20 x.toNat)) from bq3.set (k := 20) (i := x.toNat) (z := a 20 x.toNat) (show (-2147483648) ≤ (a 20 x.toNat) ∧ (a 20 x.toNat) ≤ 2147483647 by omega)) (show fr [] [20, 27] v a v (up2 (up2 (up2 a 27 (a 6 t.toNat).toNat zz1) 27 (1 : Int).toNat zz3) 20 x.toNat (a 20 x.toNat)) from ((fr.refl (V := []) (A := [20, 27])).call fq5 rfl rfl).set (k := 20) (i := x.toNat) (z := a 20 x.toNat) rfl) (fun bq6 fw2 => ?_)
      refine m_aload_n (j := 1) C dX12_find_150 rfl ?_
      refine m_iload_n (j := 2) C dX12_find_151 rfl ?_
      refine m_iload_n (j := 3) C dX12_find_152 rfl ?_
      refine m_iload_n (j := 4) C dX12_find_153 rfl ?_
      refine m_iload (j := 5) C dX12_find_154 rfl ?_
      refine m_call (mc2 := 0) (ms2 := 0) (As := [.int (iI t), .int (iI q), .int (iI u), .int (iI x)]) (rest := []) C (M_contracted (t := t) (q := q) (u := u) (x := x) bq6 (hT.fr fw2 rfl rfl) (by show 0 ≤ t ∧ t < v 4; omega) (by show v 4 ≤ 30; omega) (by show 1 ≤ a 6 t.toNat ∧ a 6 t.toNat ≤ 3; omega) hx hd hf) dX12_find_156 kV_X12_215 rfl ck_13 rfl (Nat.le_of_ble_eq_true rfl) ⟨by dsimp only [rmq]; omega, by dsimp only [rmq]; omega⟩ ⟨Nat.le_of_ble_eq_true rfl, Nat.le_of_ble_eq_true rfl⟩ (fun rh7 vh7 ah7 h7 => ?_)
      obtain ⟨f5, rfl, fn4, bn4, ex4⟩ := h7
      have ef5 : f5 = -1 ∨ (0 ≤ f5 ∧ f5 < 6000 ∧ (1 ≤ a 12 f5.toNat ∧ a 12 f5.toNat ≤ 8) ∧ (1 ≤ a 13 f5.toNat ∧ a 13 f5.toNat ≤ 4) ∧ x + a 12 f5.toNat ≤ u) := ex4
      refine m_st (st2 := [.int (iI f5)]) rfl ?_
      refine m_istore (lv2 := [(6, .int (iI f5)), (5, .int (iI (a 20 x.toNat))), (0, .ref h0), (1, .int (iI t)), (2, .int (iI q)), (3, .int (iI u)), (4, .int (iI x))]) C dX12_find_159 (by decide) rfl ?_
      refine m_aload_n (j := 2) C dX12_find_161 rfl ?_
      refine m_geta (k := 20) C dX12_find_162 w6_79 (by decide) rfl ?_
      refine m_iload (j := 6) C dX12_find_165 rfl ?_
      refine m_iload (j := 1) C dX12_find_167 rfl ?_
      refine m_ast (k := 20) C dX12_find_169 rfl rfl (by decide) (by omega) (by show _ < ((_ : Nat) : Int); simp only [mlen]; omega) (by decide) ?_
      refine hv2 (show BX vh7 (up2 ah7 20 x.toNat (a 20 x.toNat)) from bn4.set (k := 20) (i := x.toNat) (z := a 20 x.toNat) (show (-2147483648) ≤ (a 20 x.toNat) ∧ (a 20 x.toNat) ≤ 2147483647 by omega)) (fq5.back fn4 rfl rfl (k := 20) (i := x.toNat) (y := a 20 x.toNat) rfl) (fun bq7 fq11 => ?_)
      refine m_iload (j := 0) C dX12_find_170 rfl ?_
      exact m_iret C dX12_find_172 rfl (Nat.le_of_ble_eq_true rfl) (Nat.le_of_ble_eq_true rfl) ⟨f5, rfl, fq11, bq7, (by omega)⟩
  · refine m_tabOut (tgt := 173) C (r32_c (lo := 0) (hi := 5) ra1.1 ra1.2 (by decide) (by decide)) dX12_find_21 sw1 (by decide) ?_
    refine m_aload_n (j := 0) C dX12_find_173 rfl ?_
    refine m_iload_n (j := 1) C dX12_find_174 rfl ?_
    refine m_iload_n (j := 2) C dX12_find_175 rfl ?_
    refine m_iload_n (j := 3) C dX12_find_176 rfl ?_
    refine m_iload (j := 4) C dX12_find_177 rfl ?_
    have ra9 : 0 ≤ a 10 t.toNat ∧ a 10 t.toNat ≤ 200 := bq1.2 10 (t.toNat)
    refine m_call (mc2 := 0) (ms2 := 0) (As := [.int (iI t), .int (iI q), .int (iI u), .int (iI x)]) (rest := []) C (M_own (t := t) (q := q) (u := u) (x := x) bq1.rg (by omega) (bq1.2 10 _) (fun r h1 h2 => ((hT.fr fq1 rfl rfl).2 t r (by omega) (by omega) h1 h2).1) (by omega)) dX12_find_179 kV_X12_221 rfl ck_13 rfl (Nat.le_of_ble_eq_true rfl) ⟨by dsimp only [rmq]; omega, by dsimp only [rmq]; omega⟩ ⟨Nat.le_of_ble_eq_true rfl, Nat.le_of_ble_eq_true rfl⟩ (fun rh8 vh8 ah8 h8 => ?_)
    obtain ⟨f6, rfl, hf6, rfl, rfl⟩ := h8
    have gf6 : f6 = -1 ∨ ((1 ≤ (up2 a 27 (a 6 t.toNat).toNat zz1) 12 f6.toNat ∧ (up2 a 27 (a 6 t.toNat).toNat zz1) 12 f6.toNat ≤ 8) ∧ (1 ≤ (up2 a 27 (a 6 t.toNat).toNat zz1) 13 f6.toNat ∧ (up2 a 27 (a 6 t.toNat).toNat zz1) 13 f6.toNat ≤ 4)) := by
      rcases hf6 with q | q
      · exact Or.inl q
      · exact Or.inr ((hT.fr fq1 rfl rfl).2 t f6 (by omega) (by omega) q.1 q.2.1)
    refine hv2 (show f6 = -1 ∨ ((1 ≤ a 12 f6.toNat ∧ a 12 f6.toNat ≤ 8) ∧ (1 ≤ a 13 f6.toNat ∧ a 13 f6.toNat ≤ 4)) from gf6) (show f6 = -1 ∨ (200 * t ≤ f6 ∧ f6 < 200 * t + a 10 t.toNat ∧ x + a 12 f6.toNat ≤ u) from hf6) (fun ggf6 hhf6 => ?_)
    refine m_st (st2 := [.int (iI f6)]) rfl ?_
    exact m_iret C dX12_find_182 rfl (Nat.le_of_ble_eq_true rfl) (Nat.le_of_ble_eq_true rfl) ⟨f6, rfl, fq1, bq1, (by omega)⟩
theorem M_findN {l : Launch} {G : GT} {h0 : Nat} {ad ln : Nat → Nat} : ∀ (n : Nat) (t : Int), 0 ≤ t → t < (n : Int) → FindC l G h0 ad ln (2 * n + 3) t := by
  intro n
  induction n with
  | zero => intro t h1 h2; omega
  | succ n ih =>
    intro t h1 h2 v a q u x hB hT ht h4 hx
    exact M_find1 (d := 2 * n + 3) hB hT ⟨h1, ht⟩ h4 hx (by omega) (fun b hb hb2 => ih b hb (by omega))
theorem M_find {l : Launch} {G : GT} {h0 : Nat} {ad ln : Nat → Nat} {v : Nat → Int} {a : Nat → Nat → Int} {t q u x : Int} (hB : BX v a) (hT : TBL v a) (ht : 0 ≤ t ∧ t < v 4) (h4 : a 6 t.toNat ≤ 4) (hx : 0 ≤ q ∧ q ≤ x ∧ x < u ∧ u ≤ 500) : Mm l G yX12_find cX12_find 7 (some .int) 63 [.int (iI t), .int (iI q), .int (iI u), .int (iI x)] h0 ad ln v a 0 0 (fun r v2 a2 => ∃ f : Int, r = some (.int (iI f)) ∧ fr [] [27] v a v2 a2 ∧ BX v2 a2 ∧ (f = -1 ∨ (0 ≤ f ∧ f < 6000 ∧ (1 ≤ a 12 f.toNat ∧ a 12 f.toNat ≤ 8) ∧ (1 ≤ a 13 f.toNat ∧ a 13 f.toNat ≤ 4) ∧ x + a 12 f.toNat ≤ u))) := M_findN 30 t ht.1 (by have := hB.1 4; have e : vhi 4 = 30 := rfl; omega) v a q u x hB hT ht.2 h4 hx
end
section
theorem W_putIndicator {v v2 : Nat → Int} {a a2 : Nat → Nat → Int} {r : Option Value} {t w1 : Int} (hB : BX v a) (h25 : v 25 ≤ 204) (h : (fun r v2 a2 => r = none ∧ v2 = va_up v 25 (v 25 + a 16 (4 * t + w1).toNat) ∧ (∀ j, j ≠ 24 → a2 j = a j) ∧ RG v2 a2) r v2 a2) : (fun r v2 a2 => r = none ∧ fr [25] [24] v a v2 a2 ∧ BX v2 a2 ∧ (v2 25 = v 25 + a 16 (4 * t + w1).toNat)) r v2 a2 := by
  obtain ⟨rfl, rfl, ha, hr⟩ := h
  refine hv2 (show 0 ≤ a 16 (4 * t + w1).toNat ∧ a 16 (4 * t + w1).toNat ≤ 4 from hB.2 16 _) (show 0 ≤ v 25 ∧ v 25 ≤ 208 from hB.1 25) (fun h16 q25 => ?_)
  refine ⟨rfl, ⟨fun j hj => va_up_ne _ _ (by rintro rfl; exact absurd hj (by decide)), fun j hj => ha j (by rintro rfl; exact absurd hj (by decide))⟩, hB.re hr (fun k => ?_) (fun k => ?_), rfl⟩
  · by_cases e : k = 25
    · subst e; refine Or.inl (Or.inr ?_); rw [va_up_self]; exact (show 0 ≤ _ ∧ _ ≤ 208 by omega)
    · exact Or.inl (Or.inl (va_up_ne _ _ e))
  · by_cases e : k = 24
    · subst e; exact Or.inr ⟨rfl, rfl⟩
    · exact Or.inl (Or.inl (ha k e))
end
