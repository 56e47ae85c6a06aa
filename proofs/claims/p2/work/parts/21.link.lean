theorem fl_X10_15_11 : xF RX10 15 11 1 .int false := ⟨by decide, RX10, TX10, 8, tyX10, "PaperBoys$Terms", rfl, inlX10, tyX10_ok, nmX10, by decide, rfl, rfl, m_5_23, Or.inl rfl, (fun h => by cases h)⟩
theorem fl_X10_18_11 : xF RX10 18 11 2 .int false := ⟨by decide, RX10, TX10, 8, tyX10, "PaperBoys$Terms", rfl, inlX10, tyX10_ok, nmX10, by decide, rfl, rfl, m_6_0, Or.inl rfl, (fun h => by cases h)⟩
theorem fl_X10_21_11 : xF RX10 21 11 3 (.array .int) true := ⟨by decide, RX10, TX10, 8, tyX10, "PaperBoys$Terms", rfl, inlX10, tyX10_ok, nmX10, by decide, rfl, rfl, m_6_1, Or.inl rfl, (fun _ => rfl)⟩
theorem fl_X10_25_11 : xF RX10 25 11 4 (.array .int) true := ⟨by decide, RX10, TX10, 8, tyX10, "PaperBoys$Terms", rfl, inlX10, tyX10_ok, nmX10, by decide, rfl, rfl, m_6_2, Or.inl rfl, (fun _ => rfl)⟩
theorem fl_X10_28_11 : xF RX10 28 11 5 (.array .int) true := ⟨by decide, RX10, TX10, 8, tyX10, "PaperBoys$Terms", rfl, inlX10, tyX10_ok, nmX10, by decide, rfl, rfl, m_6_3, Or.inl rfl, (fun _ => rfl)⟩
theorem fl_X10_31_11 : xF RX10 31 11 6 (.array .int) true := ⟨by decide, RX10, TX10, 8, tyX10, "PaperBoys$Terms", rfl, inlX10, tyX10_ok, nmX10, by decide, rfl, rfl, m_6_4, Or.inl rfl, (fun _ => rfl)⟩
theorem fl_X10_34_11 : xF RX10 34 11 7 (.array .int) true := ⟨by decide, RX10, TX10, 8, tyX10, "PaperBoys$Terms", rfl, inlX10, tyX10_ok, nmX10, by decide, rfl, rfl, m_6_5, Or.inl rfl, (fun _ => rfl)⟩
theorem fl_X12_102_13 : xF RX12 102 13 52 (.array .int) true := ⟨by decide, RX12, TX12, 91, tyX12, "PaperBoysModel", rfl, inlX12, tyX12_ok, nmX12, by decide, rfl, rfl, m_9_8, Or.inl rfl, (fun _ => rfl)⟩
theorem fl_X12_105_13 : xF RX12 105 13 53 (.array .int) true := ⟨by decide, RX12, TX12, 91, tyX12, "PaperBoysModel", rfl, inlX12, tyX12_ok, nmX12, by decide, rfl, rfl, m_9_9, Or.inl rfl, (fun _ => rfl)⟩
theorem fl_X12_108_13 : xF RX12 108 13 54 (.array .int) true := ⟨by decide, RX12, TX12, 91, tyX12, "PaperBoysModel", rfl, inlX12, tyX12_ok, nmX12, by decide, rfl, rfl, m_9_10, Or.inl rfl, (fun _ => rfl)⟩
theorem fl_X12_111_13 : xF RX12 111 13 55 (.array .int) true := ⟨by decide, RX12, TX12, 91, tyX12, "PaperBoysModel", rfl, inlX12, tyX12_ok, nmX12, by decide, rfl, rfl, m_9_11, Or.inl rfl, (fun _ => rfl)⟩
theorem fl_X12_114_13 : xF RX12 114 13 56 (.array .int) true := ⟨by decide, RX12, TX12, 91, tyX12, "PaperBoysModel", rfl, inlX12, tyX12_ok, nmX12, by decide, rfl, rfl, m_9_12, Or.inl rfl, (fun _ => rfl)⟩
theorem fl_X12_117_13 : xF RX12 117 13 57 (.array .int) true := ⟨by decide, RX12, TX12, 91, tyX12, "PaperBoysModel", rfl, inlX12, tyX12_ok, nmX12, by decide, rfl, rfl, m_9_13, Or.inl rfl, (fun _ => rfl)⟩
theorem fl_X12_120_13 : xF RX12 120 13 59 .int false := ⟨by decide, RX12, TX12, 91, tyX12, "PaperBoysModel", rfl, inlX12, tyX12_ok, nmX12, by decide, rfl, rfl, m_9_14, Or.inl rfl, (fun h => by cases h)⟩
theorem fl_X12_129_13 : xF RX12 129 13 62 (.array .boolean) true := ⟨by decide, RX12, TX12, 91, tyX12, "PaperBoysModel", rfl, inlX12, tyX12_ok, nmX12, by decide, rfl, rfl, m_9_17, Or.inl rfl, (fun _ => rfl)⟩
theorem fl_X12_135_13 : xF RX12 135 13 64 (.array .int) true := ⟨by decide, RX12, TX12, 91, tyX12, "PaperBoysModel", rfl, inlX12, tyX12_ok, nmX12, by decide, rfl, rfl, m_9_19, Or.inl rfl, (fun _ => rfl)⟩
theorem fl_X12_138_13 : xF RX12 138 13 65 (.array .int) true := ⟨by decide, RX12, TX12, 91, tyX12, "PaperBoysModel", rfl, inlX12, tyX12_ok, nmX12, by decide, rfl, rfl, m_9_20, Or.inl rfl, (fun _ => rfl)⟩
theorem fl_X12_13_13 : xF RX12 13 13 4 (.array .int) true := ⟨by decide, RX12, TX12, 91, tyX12, "PaperBoysModel", rfl, inlX12, tyX12_ok, nmX12, by decide, rfl, rfl, m_8_3, Or.inl rfl, (fun _ => rfl)⟩
theorem fl_X12_141_13 : xF RX12 141 13 66 (.array .int) true := ⟨by decide, RX12, TX12, 91, tyX12, "PaperBoysModel", rfl, inlX12, tyX12_ok, nmX12, by decide, rfl, rfl, m_9_21, Or.inl rfl, (fun _ => rfl)⟩
theorem fl_X12_144_13 : xF RX12 144 13 67 (.array .int) true := ⟨by decide, RX12, TX12, 91, tyX12, "PaperBoysModel", rfl, inlX12, tyX12_ok, nmX12, by decide, rfl, rfl, m_9_22, Or.inl rfl, (fun _ => rfl)⟩
theorem fl_X12_147_13 : xF RX12 147 13 68 (.array .int) true := ⟨by decide, RX12, TX12, 91, tyX12, "PaperBoysModel", rfl, inlX12, tyX12_ok, nmX12, by decide, rfl, rfl, m_9_23, Or.inl rfl, (fun _ => rfl)⟩
theorem fl_X12_150_13 : xF RX12 150 13 71 .int false := ⟨by decide, RX12, TX12, 91, tyX12, "PaperBoysModel", rfl, inlX12, tyX12_ok, nmX12, by decide, rfl, rfl, m_10_0, Or.inl rfl, (fun h => by cases h)⟩
theorem fl_X12_159_13 : xF RX12 159 13 74 (.array .int) true := ⟨by decide, RX12, TX12, 91, tyX12, "PaperBoysModel", rfl, inlX12, tyX12_ok, nmX12, by decide, rfl, rfl, m_10_3, Or.inl rfl, (fun _ => rfl)⟩
theorem fl_X12_16_13 : xF RX12 16 13 5 (.array .int) true := ⟨by decide, RX12, TX12, 91, tyX12, "PaperBoysModel", rfl, inlX12, tyX12_ok, nmX12, by decide, rfl, rfl, m_8_4, Or.inl rfl, (fun _ => rfl)⟩
theorem fl_X12_183_13 : xF RX12 183 13 84 (.array .int) true := ⟨by decide, RX12, TX12, 91, tyX12, "PaperBoysModel", rfl, inlX12, tyX12_ok, nmX12, by decide, rfl, rfl, m_10_11, Or.inl rfl, (fun _ => rfl)⟩
theorem fl_X12_192_13 : xF RX12 192 13 89 .int false := ⟨by decide, RX12, TX12, 91, tyX12, "PaperBoysModel", rfl, inlX12, tyX12_ok, nmX12, by decide, rfl, rfl, m_10_14, Or.inl rfl, (fun h => by cases h)⟩
theorem fl_X12_195_13 : xF RX12 195 13 90 .int false := ⟨by decide, RX12, TX12, 91, tyX12, "PaperBoysModel", rfl, inlX12, tyX12_ok, nmX12, by decide, rfl, rfl, m_10_15, Or.inl rfl, (fun h => by cases h)⟩
theorem fl_X12_198_13 : xF RX12 198 13 0 .int false := ⟨by decide, RX12, TX12, 91, tyX12, "PaperBoysModel", rfl, inlX12, tyX12_ok, nmX12, by decide, rfl, rfl, m_11_5, Or.inl rfl, (fun h => by cases h)⟩
theorem fl_X12_19_13 : xF RX12 19 13 6 (.array .int) true := ⟨by decide, RX12, TX12, 91, tyX12, "PaperBoysModel", rfl, inlX12, tyX12_ok, nmX12, by decide, rfl, rfl, m_8_5, Or.inl rfl, (fun _ => rfl)⟩
theorem fl_X12_201_13 : xF RX12 201 13 2 .int false := ⟨by decide, RX12, TX12, 91, tyX12, "PaperBoysModel", rfl, inlX12, tyX12_ok, nmX12, by decide, rfl, rfl, m_11_6, Or.inl rfl, (fun h => by cases h)⟩
theorem fl_X12_208_13 : xF RX12 208 13 16 .int false := ⟨by decide, RX12, TX12, 91, tyX12, "PaperBoysModel", rfl, inlX12, tyX12_ok, nmX12, by decide, rfl, rfl, m_15_8, Or.inl rfl, (fun h => by cases h)⟩
theorem fl_X12_226_13 : xF RX12 226 13 17 .int false := ⟨by decide, RX12, TX12, 91, tyX12, "PaperBoysModel", rfl, inlX12, tyX12_ok, nmX12, by decide, rfl, rfl, m_18_11, Or.inl rfl, (fun h => by cases h)⟩
theorem fl_X12_22_13 : xF RX12 22 13 7 (.array .int) true := ⟨by decide, RX12, TX12, 91, tyX12, "PaperBoysModel", rfl, inlX12, tyX12_ok, nmX12, by decide, rfl, rfl, m_8_6, Or.inl rfl, (fun _ => rfl)⟩
theorem fl_X12_239_13 : xF RX12 239 13 3 .int false := ⟨by decide, RX12, TX12, 91, tyX12, "PaperBoysModel", rfl, inlX12, tyX12_ok, nmX12, by decide, rfl, rfl, m_19_23, Or.inl rfl, (fun h => by cases h)⟩
theorem fl_X12_246_13 : xF RX12 246 13 18 .boolean false := ⟨by decide, RX12, TX12, 91, tyX12, "PaperBoysModel", rfl, inlX12, tyX12_ok, nmX12, by decide, rfl, rfl, m_22_6, Or.inl rfl, (fun h => by cases h)⟩
theorem fl_X12_253_13 : xF RX12 253 13 19 .int false := ⟨by decide, RX12, TX12, 91, tyX12, "PaperBoysModel", rfl, inlX12, tyX12_ok, nmX12, by decide, rfl, rfl, m_28_15, Or.inl rfl, (fun h => by cases h)⟩
theorem fl_X12_256_13 : xF RX12 256 13 20 .int false := ⟨by decide, RX12, TX12, 91, tyX12, "PaperBoysModel", rfl, inlX12, tyX12_ok, nmX12, by decide, rfl, rfl, m_28_20, Or.inl rfl, (fun h => by cases h)⟩
theorem fl_X12_259_13 : xF RX12 259 13 21 .int false := ⟨by decide, RX12, TX12, 91, tyX12, "PaperBoysModel", rfl, inlX12, tyX12_ok, nmX12, by decide, rfl, rfl, m_29_2, Or.inl rfl, (fun h => by cases h)⟩
theorem fl_X12_25_13 : xF RX12 25 13 8 (.array .boolean) true := ⟨by decide, RX12, TX12, 91, tyX12, "PaperBoysModel", rfl, inlX12, tyX12_ok, nmX12, by decide, rfl, rfl, m_8_7, Or.inl rfl, (fun _ => rfl)⟩
theorem fl_X12_262_13 : xF RX12 262 13 22 .int false := ⟨by decide, RX12, TX12, 91, tyX12, "PaperBoysModel", rfl, inlX12, tyX12_ok, nmX12, by decide, rfl, rfl, m_28_21, Or.inl rfl, (fun h => by cases h)⟩
theorem fl_X12_274_13 : xF RX12 274 13 24 .int false := ⟨by decide, RX12, TX12, 91, tyX12, "PaperBoysModel", rfl, inlX12, tyX12_ok, nmX12, by decide, rfl, rfl, m_29_3, Or.inl rfl, (fun h => by cases h)⟩
theorem fl_X12_277_13 : xF RX12 277 13 28 .long false := ⟨by decide, RX12, TX12, 91, tyX12, "PaperBoysModel", rfl, inlX12, tyX12_ok, nmX12, by decide, rfl, rfl, m_29_4, Or.inl rfl, (fun h => by cases h)⟩
theorem fl_X12_281_13 : xF RX12 281 13 23 .int false := ⟨by decide, RX12, TX12, 91, tyX12, "PaperBoysModel", rfl, inlX12, tyX12_ok, nmX12, by decide, rfl, rfl, m_29_5, Or.inl rfl, (fun h => by cases h)⟩
theorem fl_X12_291_13 : xF RX12 291 13 25 .int false := ⟨by decide, RX12, TX12, 91, tyX12, "PaperBoysModel", rfl, inlX12, tyX12_ok, nmX12, by decide, rfl, rfl, m_28_16, Or.inl rfl, (fun h => by cases h)⟩
theorem fl_X12_294_13 : xF RX12 294 13 26 .int false := ⟨by decide, RX12, TX12, 91, tyX12, "PaperBoysModel", rfl, inlX12, tyX12_ok, nmX12, by decide, rfl, rfl, m_28_8, Or.inl rfl, (fun h => by cases h)⟩
theorem fl_X12_29_13 : xF RX12 29 13 9 (.array .int) true := ⟨by decide, RX12, TX12, 91, tyX12, "PaperBoysModel", rfl, inlX12, tyX12_ok, nmX12, by decide, rfl, rfl, m_8_8, Or.inl rfl, (fun _ => rfl)⟩
theorem fl_X12_32_13 : xF RX12 32 13 10 (.array .int) true := ⟨by decide, RX12, TX12, 91, tyX12, "PaperBoysModel", rfl, inlX12, tyX12_ok, nmX12, by decide, rfl, rfl, m_8_9, Or.inl rfl, (fun _ => rfl)⟩
theorem fl_X12_35_13 : xF RX12 35 13 11 (.array .int) true := ⟨by decide, RX12, TX12, 91, tyX12, "PaperBoysModel", rfl, inlX12, tyX12_ok, nmX12, by decide, rfl, rfl, m_8_10, Or.inl rfl, (fun _ => rfl)⟩
theorem fl_X12_373_13 : xF RX12 373 13 39 .int false := ⟨by decide, RX12, TX12, 91, tyX12, "PaperBoysModel", rfl, inlX12, tyX12_ok, nmX12, by decide, rfl, rfl, m_28_7, Or.inl rfl, (fun h => by cases h)⟩
theorem fl_X12_389_13 : xF RX12 389 13 58 .int false := ⟨by decide, RX12, TX12, 91, tyX12, "PaperBoysModel", rfl, inlX12, tyX12_ok, nmX12, by decide, rfl, rfl, m_36_5, Or.inl rfl, (fun h => by cases h)⟩
theorem fl_X12_38_13 : xF RX12 38 13 12 (.array .int) true := ⟨by decide, RX12, TX12, 91, tyX12, "PaperBoysModel", rfl, inlX12, tyX12_ok, nmX12, by decide, rfl, rfl, m_8_11, Or.inl rfl, (fun _ => rfl)⟩
theorem fl_X12_41_13 : xF RX12 41 13 13 (.array .int) true := ⟨by decide, RX12, TX12, 91, tyX12, "PaperBoysModel", rfl, inlX12, tyX12_ok, nmX12, by decide, rfl, rfl, m_8_12, Or.inl rfl, (fun _ => rfl)⟩
theorem fl_X12_421_13 : xF RX12 421 13 69 .int false := ⟨by decide, RX12, TX12, 91, tyX12, "PaperBoysModel", rfl, inlX12, tyX12_ok, nmX12, by decide, rfl, rfl, m_43_13, Or.inl rfl, (fun h => by cases h)⟩
theorem fl_X12_434_13 : xF RX12 434 13 70 .long false := ⟨by decide, RX12, TX12, 91, tyX12, "PaperBoysModel", rfl, inlX12, tyX12_ok, nmX12, by decide, rfl, rfl, m_47_4, Or.inl rfl, (fun h => by cases h)⟩
theorem fl_X12_44_13 : xF RX12 44 13 14 (.array .int) true := ⟨by decide, RX12, TX12, 91, tyX12, "PaperBoysModel", rfl, inlX12, tyX12_ok, nmX12, by decide, rfl, rfl, m_8_13, Or.inl rfl, (fun _ => rfl)⟩
theorem fl_X12_459_13 : xF RX12 459 13 78 .int false := ⟨by decide, RX12, TX12, 91, tyX12, "PaperBoysModel", rfl, inlX12, tyX12_ok, nmX12, by decide, rfl, rfl, m_51_20, Or.inl rfl, (fun h => by cases h)⟩
theorem fl_X12_462_13 : xF RX12 462 13 79 .boolean false := ⟨by decide, RX12, TX12, 91, tyX12, "PaperBoysModel", rfl, inlX12, tyX12_ok, nmX12, by decide, rfl, rfl, m_51_21, Or.inl rfl, (fun h => by cases h)⟩
theorem fl_X12_474_13 : xF RX12 474 13 87 .int false := ⟨by decide, RX12, TX12, 91, tyX12, "PaperBoysModel", rfl, inlX12, tyX12_ok, nmX12, by decide, rfl, rfl, m_55_16, Or.inl rfl, (fun h => by cases h)⟩
theorem fl_X12_477_13 : xF RX12 477 13 88 .boolean false := ⟨by decide, RX12, TX12, 91, tyX12, "PaperBoysModel", rfl, inlX12, tyX12_ok, nmX12, by decide, rfl, rfl, m_55_17, Or.inl rfl, (fun h => by cases h)⟩
theorem fl_X12_47_13 : xF RX12 47 13 15 (.array .int) true := ⟨by decide, RX12, TX12, 91, tyX12, "PaperBoysModel", rfl, inlX12, tyX12_ok, nmX12, by decide, rfl, rfl, m_8_14, Or.inl rfl, (fun _ => rfl)⟩
theorem fl_X12_53_13 : xF RX12 53 13 30 (.array .int) true := ⟨by decide, RX12, TX12, 91, tyX12, "PaperBoysModel", rfl, inlX12, tyX12_ok, nmX12, by decide, rfl, rfl, m_8_16, Or.inl rfl, (fun _ => rfl)⟩
theorem fl_X12_7_13 : xF RX12 7 13 1 (.array .int) true := ⟨by decide, RX12, TX12, 91, tyX12, "PaperBoysModel", rfl, inlX12, tyX12_ok, nmX12, by decide, rfl, rfl, m_8_2, Or.inl rfl, (fun _ => rfl)⟩
theorem fl_X12_80_13 : xF RX12 80 13 45 (.array .int) true := ⟨by decide, RX12, TX12, 91, tyX12, "PaperBoysModel", rfl, inlX12, tyX12_ok, nmX12, by decide, rfl, rfl, m_9_1, Or.inl rfl, (fun _ => rfl)⟩
theorem fl_X12_90_13 : xF RX12 90 13 48 (.array .int) true := ⟨by decide, RX12, TX12, 91, tyX12, "PaperBoysModel", rfl, inlX12, tyX12_ok, nmX12, by decide, rfl, rfl, m_9_4, Or.inl rfl, (fun _ => rfl)⟩
theorem fl_X12_93_13 : xF RX12 93 13 49 (.array .int) true := ⟨by decide, RX12, TX12, 91, tyX12, "PaperBoysModel", rfl, inlX12, tyX12_ok, nmX12, by decide, rfl, rfl, m_9_5, Or.inl rfl, (fun _ => rfl)⟩
theorem fl_X12_96_13 : xF RX12 96 13 50 (.array .int) true := ⟨by decide, RX12, TX12, 91, tyX12, "PaperBoysModel", rfl, inlX12, tyX12_ok, nmX12, by decide, rfl, rfl, m_9_6, Or.inl rfl, (fun _ => rfl)⟩
theorem fl_X2_15_3 : xF RX2 15 3 1 (.array .int) true := ⟨by decide, RX2, TX2, 4, tyX2, "PaperBoys$Chances", rfl, inlX2, tyX2_ok, nmX2, by decide, rfl, rfl, m_6_20, Or.inl rfl, (fun _ => rfl)⟩
theorem fl_X2_18_3 : xF RX2 18 3 2 .int false := ⟨by decide, RX2, TX2, 4, tyX2, "PaperBoys$Chances", rfl, inlX2, tyX2_ok, nmX2, by decide, rfl, rfl, m_6_21, Or.inl rfl, (fun h => by cases h)⟩
theorem fl_X2_22_3 : xF RX2 22 3 3 .long false := ⟨by decide, RX2, TX2, 4, tyX2, "PaperBoys$Chances", rfl, inlX2, tyX2_ok, nmX2, by decide, rfl, rfl, m_6_22, Or.inl rfl, (fun h => by cases h)⟩
theorem fl_X2_9_3 : xF RX2 9 3 0 (.array .int) true := ⟨by decide, RX2, TX2, 4, tyX2, "PaperBoys$Chances", rfl, inlX2, tyX2_ok, nmX2, by decide, rfl, rfl, m_6_19, Or.inl rfl, (fun _ => rfl)⟩
theorem fl_X3_17_4 : xF RX3 17 4 1 (.array (.array .int)) true := ⟨by decide, RX3, TX3, 7, tyX3, "PaperBoys$City", rfl, inlX3, tyX3_ok, nmX3, by decide, rfl, rfl, m_4_14, Or.inl rfl, (fun _ => rfl)⟩
theorem fl_X3_20_4 : xF RX3 20 4 2 (.array .int) true := ⟨by decide, RX3, TX3, 7, tyX3, "PaperBoys$City", rfl, inlX3, tyX3_ok, nmX3, by decide, rfl, rfl, m_4_15, Or.inl rfl, (fun _ => rfl)⟩
theorem fl_X3_23_4 : xF RX3 23 4 3 (.array .int) true := ⟨by decide, RX3, TX3, 7, tyX3, "PaperBoys$City", rfl, inlX3, tyX3_ok, nmX3, by decide, rfl, rfl, m_4_16, Or.inl rfl, (fun _ => rfl)⟩
theorem fl_X3_26_4 : xF RX3 26 4 4 (.array (.array .int)) true := ⟨by decide, RX3, TX3, 7, tyX3, "PaperBoys$City", rfl, inlX3, tyX3_ok, nmX3, by decide, rfl, rfl, m_4_17, Or.inl rfl, (fun _ => rfl)⟩
theorem fl_X3_35_10 : xF RX3 35 10 1 .int false := ⟨by decide, RX9, TX9, 2, tyX9, "PaperBoys$Tape", rfl, inlX9, tyX9_ok, nmX9, by decide, rfl, rfl, m_18_5, Or.inl rfl, (fun h => by cases h)⟩
theorem fl_X3_41_10 : xF RX3 41 10 0 (.array .int) true := ⟨by decide, RX9, TX9, 2, tyX9, "PaperBoys$Tape", rfl, inlX9, tyX9_ok, nmX9, by decide, rfl, rfl, m_18_6, Or.inl rfl, (fun h => by cases h)⟩
theorem fl_X3_9_4 : xF RX3 9 4 0 (.array .int) true := ⟨by decide, RX3, TX3, 7, tyX3, "PaperBoys$City", rfl, inlX3, tyX3_ok, nmX3, by decide, rfl, rfl, m_4_12, Or.inl rfl, (fun _ => rfl)⟩
theorem fl_X4_15_5 : xF RX4 15 5 1 (.array .int) true := ⟨by decide, RX4, TX4, 4, tyX4, "PaperBoys$Ledger", rfl, inlX4, tyX4_ok, nmX4, by decide, rfl, rfl, m_5_15, Or.inl rfl, (fun _ => rfl)⟩
theorem fl_X4_18_5 : xF RX4 18 5 2 (.array .int) true := ⟨by decide, RX4, TX4, 4, tyX4, "PaperBoys$Ledger", rfl, inlX4, tyX4_ok, nmX4, by decide, rfl, rfl, m_5_16, Or.inl rfl, (fun _ => rfl)⟩
theorem fl_X4_21_5 : xF RX4 21 5 3 .int false := ⟨by decide, RX4, TX4, 4, tyX4, "PaperBoys$Ledger", rfl, inlX4, tyX4_ok, nmX4, by decide, rfl, rfl, m_5_17, Or.inl rfl, (fun h => by cases h)⟩
theorem fl_X4_9_5 : xF RX4 9 5 0 (.array .int) true := ⟨by decide, RX4, TX4, 4, tyX4, "PaperBoys$Ledger", rfl, inlX4, tyX4_ok, nmX4, by decide, rfl, rfl, m_5_14, Or.inl rfl, (fun _ => rfl)⟩
theorem fl_X6_15_7 : xF RX6 15 7 1 (.array .int) true := ⟨by decide, RX6, TX6, 10, tyX6, "PaperBoys$Parting", rfl, inlX6, tyX6_ok, nmX6, by decide, rfl, rfl, m_7_12, Or.inl rfl, (fun _ => rfl)⟩
theorem fl_X6_19_7 : xF RX6 19 7 2 (.array .int) true := ⟨by decide, RX6, TX6, 10, tyX6, "PaperBoys$Parting", rfl, inlX6, tyX6_ok, nmX6, by decide, rfl, rfl, m_7_13, Or.inl rfl, (fun _ => rfl)⟩
theorem fl_X6_22_7 : xF RX6 22 7 3 (.array .int) true := ⟨by decide, RX6, TX6, 10, tyX6, "PaperBoys$Parting", rfl, inlX6, tyX6_ok, nmX6, by decide, rfl, rfl, m_7_14, Or.inl rfl, (fun _ => rfl)⟩
theorem fl_X6_25_7 : xF RX6 25 7 4 (.array .int) true := ⟨by decide, RX6, TX6, 10, tyX6, "PaperBoys$Parting", rfl, inlX6, tyX6_ok, nmX6, by decide, rfl, rfl, m_7_15, Or.inl rfl, (fun _ => rfl)⟩
theorem fl_X6_34_7 : xF RX6 34 7 7 (.array .boolean) true := ⟨by decide, RX6, TX6, 10, tyX6, "PaperBoys$Parting", rfl, inlX6, tyX6_ok, nmX6, by decide, rfl, rfl, m_7_19, Or.inl rfl, (fun _ => rfl)⟩
theorem fl_X6_38_7 : xF RX6 38 7 8 (.array .long) true := ⟨by decide, RX6, TX6, 10, tyX6, "PaperBoys$Parting", rfl, inlX6, tyX6_ok, nmX6, by decide, rfl, rfl, m_7_20, Or.inl rfl, (fun _ => rfl)⟩
theorem fl_X6_45_10 : xF RX6 45 10 0 (.array .int) true := ⟨by decide, RX9, TX9, 2, tyX9, "PaperBoys$Tape", rfl, inlX9, tyX9_ok, nmX9, by decide, rfl, rfl, m_49_4, Or.inl rfl, (fun h => by cases h)⟩
theorem fl_X6_9_7 : xF RX6 9 7 0 .int false := ⟨by decide, RX6, TX6, 10, tyX6, "PaperBoys$Parting", rfl, inlX6, tyX6_ok, nmX6, by decide, rfl, rfl, m_7_11, Or.inl rfl, (fun h => by cases h)⟩
theorem fl_X7_15_8 : xF RX7 15 8 1 (.array .int) true := ⟨by decide, RX7, TX7, 7, tyX7, "PaperBoys$Reader", rfl, inlX7, tyX7_ok, nmX7, by decide, rfl, rfl, m_6_10, Or.inl rfl, (fun _ => rfl)⟩
theorem fl_X7_18_8 : xF RX7 18 8 2 .int false := ⟨by decide, RX7, TX7, 7, tyX7, "PaperBoys$Reader", rfl, inlX7, tyX7_ok, nmX7, by decide, rfl, rfl, m_6_11, Or.inl rfl, (fun h => by cases h)⟩
theorem fl_X7_29_8 : xF RX7 29 8 5 .int false := ⟨by decide, RX7, TX7, 7, tyX7, "PaperBoys$Reader", rfl, inlX7, tyX7_ok, nmX7, by decide, rfl, rfl, m_6_14, Or.inl rfl, (fun h => by cases h)⟩
theorem fl_X7_32_8 : xF RX7 32 8 6 .int false := ⟨by decide, RX7, TX7, 7, tyX7, "PaperBoys$Reader", rfl, inlX7, tyX7_ok, nmX7, by decide, rfl, rfl, m_6_15, Or.inl rfl, (fun h => by cases h)⟩
theorem fl_X7_55_10 : xF RX7 55 10 1 .int false := ⟨by decide, RX9, TX9, 2, tyX9, "PaperBoys$Tape", rfl, inlX9, tyX9_ok, nmX9, by decide, rfl, rfl, m_22_19, Or.inl rfl, (fun h => by cases h)⟩
theorem fl_X7_70_10 : xF RX7 70 10 0 (.array .int) true := ⟨by decide, RX9, TX9, 2, tyX9, "PaperBoys$Tape", rfl, inlX9, tyX9_ok, nmX9, by decide, rfl, rfl, m_23_1, Or.inl rfl, (fun h => by cases h)⟩
theorem fl_X7_9_8 : xF RX7 9 8 0 (.array .int) true := ⟨by decide, RX7, TX7, 7, tyX7, "PaperBoys$Reader", rfl, inlX7, tyX7_ok, nmX7, by decide, rfl, rfl, m_6_9, Or.inl rfl, (fun _ => rfl)⟩
theorem fl_X9_15_10 : xF RX9 15 10 1 .int false := ⟨by decide, RX9, TX9, 2, tyX9, "PaperBoys$Tape", rfl, inlX9, tyX9_ok, nmX9, by decide, rfl, rfl, m_3_16, Or.inl rfl, (fun h => by cases h)⟩
theorem fl_X9_9_10 : xF RX9 9 10 0 (.array .int) true := ⟨by decide, RX9, TX9, 2, tyX9, "PaperBoys$Tape", rfl, inlX9, tyX9_ok, nmX9, by decide, rfl, rfl, m_3_15, Or.inl rfl, (fun _ => rfl)⟩
theorem lk_X10_37 : xLV RX10 37 yX10_holds cX10_holds 7 (some .boolean) 2 := ⟨m_35_10, m_35_11, m_35_12, m_2_9, m_35_13, by decide +kernel⟩
theorem lk_X10_57 : xLS RX10 57 yX10_isSo cX10_isSo 4 (some .boolean) 2 := ⟨m_35_14, m_35_15, m_2_9, m_35_16, by decide +kernel⟩
theorem lk_X11_115 : xLS RX11 115 yX11_within cX11_within 3 (some .boolean) 3 := ⟨m_12_8, m_12_9, m_1_2, m_12_10, by decide +kernel⟩
theorem lk_X11_159 : xLS RX11 159 yX11_isDay cX11_isDay 1 (some .boolean) 1 := ⟨m_12_14, m_12_15, m_1_2, m_12_16, by decide +kernel⟩
theorem lk_X12_211 : xLS RX12 211 yX12_isIn cX12_isIn 3 (some .boolean) 3 := ⟨m_15_9, m_15_10, m_1_5, m_15_11, by decide +kernel⟩
theorem lk_X12_215 : xLV RX12 215 yX12_isBoy cX12_isBoy 2 (some .boolean) 1 := ⟨m_16_22, m_16_23, m_17_0, m_1_5, m_17_1, by decide +kernel⟩
theorem lk_X12_219 : xLS RX12 219 yX12_isCorner cX12_isCorner 1 (some .boolean) 1 := ⟨m_17_14, m_17_15, m_1_5, m_17_16, by decide +kernel⟩
theorem lk_X12_222 : xLV RX12 222 yX12_take cX12_take 2 (some .int) 0 := ⟨m_18_12, m_18_13, m_18_14, m_1_5, m_18_15, by decide +kernel⟩
theorem lk_X12_229 : xLS RX12 229 yX12_isDay cX12_isDay 1 (some .boolean) 1 := ⟨m_19_1, m_19_2, m_1_5, m_19_3, by decide +kernel⟩
theorem lk_X12_232 : xLV RX12 232 yX12_skyOf cX12_skyOf 2 (some .int) 1 := ⟨m_19_4, m_19_5, m_19_6, m_1_5, m_19_7, by decide +kernel⟩
theorem lk_X12_236 : xLS RX12 236 yX12_isPaper cX12_isPaper 1 (some .boolean) 1 := ⟨m_20_0, m_20_1, m_1_5, m_20_2, by decide +kernel⟩
theorem lk_X12_242 : xLV RX12 242 yX12_askedOf cX12_askedOf 5 (some .int) 4 := ⟨m_21_13, m_21_14, m_21_15, m_1_5, m_21_16, by decide +kernel⟩
theorem lk_X12_250 : xLV RX12 250 yX12_layWays cX12_layWays 2 none 0 := ⟨m_22_2, m_22_3, m_22_4, m_1_5, m_22_5, by decide +kernel⟩
theorem lk_X12_265 : xLS RX12 265 yX12_isLetter cX12_isLetter 1 (some .boolean) 1 := ⟨m_29_8, m_29_9, m_1_5, m_29_10, by decide +kernel⟩
theorem lk_X12_268 : xLS RX12 268 yX12_isDigit cX12_isDigit 1 (some .boolean) 1 := ⟨m_29_11, m_29_12, m_1_5, m_29_13, by decide +kernel⟩
theorem lk_X12_271 : xLS RX12 271 yX12_isMark cX12_isMark 1 (some .boolean) 1 := ⟨m_29_14, m_29_15, m_1_5, m_29_16, by decide +kernel⟩
theorem lk_X12_284 : xLV RX12 284 yX12_byteAt cX12_byteAt 2 (some .int) 1 := ⟨m_29_17, m_29_18, m_29_19, m_1_5, m_29_20, by decide +kernel⟩
theorem lk_X12_297 : xLS RX12 297 yX12_spelt cX12_spelt 7 (some .long) 5 := ⟨m_30_5, m_30_6, m_1_5, m_30_7, by decide +kernel⟩
theorem lk_X12_301 : xLV RX12 301 yX12_isKey cX12_isKey 3 (some .boolean) 1 := ⟨m_30_8, m_30_9, m_30_10, m_1_5, m_30_11, by decide +kernel⟩
theorem lk_X12_399 : xLS RX12 399 yX12_cost cX12_cost 2 (some .int) 2 := ⟨m_37_1, m_37_2, m_1_5, m_37_3, by decide +kernel⟩
theorem lk_X12_408 : xLV RX12 408 yX12_isAhead cX12_isAhead 5 (some .boolean) 2 := ⟨m_41_4, m_41_5, m_41_6, m_1_5, m_41_7, by decide +kernel⟩
theorem lk_X12_418 : xLV RX12 418 yX12_refuse cX12_refuse 1 (some .int) 0 := ⟨m_42_7, m_42_8, m_42_9, m_1_5, m_42_10, by decide +kernel⟩
theorem lk_X12_424 : xLV RX12 424 yX12_countOf cX12_countOf 7 (some .int) 4 := ⟨m_44_10, m_44_11, m_44_12, m_1_5, m_44_13, by decide +kernel⟩
theorem lk_X12_427 : xLV RX12 427 yX12_cameBack cX12_cameBack 6 (some .int) 3 := ⟨m_44_14, m_44_15, m_44_16, m_1_5, m_44_17, by decide +kernel⟩
theorem lk_X12_431 : xLV RX12 431 yX12_isFirst cX12_isFirst 3 (some .boolean) 1 := ⟨m_45_21, m_45_22, m_45_23, m_1_5, m_46_0, by decide +kernel⟩
theorem lk_X12_480 : xLS RX12 480 yX12_isSum cX12_isSum 1 (some .boolean) 1 := ⟨m_57_9, m_57_10, m_1_5, m_57_11, by decide +kernel⟩
theorem lk_X2_37 : xLV RX2 37 yX2_gainOf cX2_gainOf 11 (some .long) 4 := ⟨m_46_19, m_46_20, m_46_21, m_2_18, m_46_22, by decide +kernel⟩
theorem lk_X2_41 : xLN RX2 41 yX11_costOf cX11_costOf 2 (some .int) 2 := ⟨by decide, m_35_22, m_1_2, m_35_23, by decide +kernel⟩
theorem lk_X2_50 : xLN RX2 50 yX11_backOf cX11_backOf 2 (some .int) 2 := ⟨by decide, m_40_12, m_1_2, m_40_13, by decide +kernel⟩
theorem lk_X2_53 : xLN RX2 53 yX11_paidFor cX11_paidFor 2 (some .int) 2 := ⟨by decide, m_40_14, m_1_2, m_40_15, by decide +kernel⟩
theorem lk_X3_44 : xLV RX3 44 yX3_askedFor cX3_askedFor 6 (some .int) 4 := ⟨m_40_3, m_21_6, m_21_7, m_3_22, m_21_8, by decide +kernel⟩
theorem lk_X4_25 : xLV RX4 25 yX4_lastAsOf cX4_lastAsOf 4 (some .int) 2 := ⟨m_43_22, m_43_23, m_44_0, m_2_1, m_44_1, by decide +kernel⟩
theorem lk_X6_50 : xLV RX6 50 yX6_wouldFight cX6_wouldFight 6 (some .boolean) 5 := ⟨m_50_20, m_50_21, m_50_22, m_3_2, m_50_23, by decide +kernel⟩
theorem lk_X6_69 : xLV RX6 69 yX6_isMightier cX6_isMightier 6 (some .boolean) 3 := ⟨m_49_21, m_49_22, m_49_23, m_3_2, m_50_0, by decide +kernel⟩
theorem lk_X6_95 : xLV RX6 95 yX6_clashesWith cX6_clashesWith 8 (some .long) 4 := ⟨m_50_16, m_50_17, m_50_18, m_3_2, m_50_19, by decide +kernel⟩
theorem lk_X7_47 : xLV RX7 47 yX7_now cX7_now 1 (some .int) 0 := ⟨m_25_21, m_25_22, m_25_23, m_2_13, m_26_0, by decide +kernel⟩
theorem lk_X7_60 : xLV RX7 60 yX7_tell cX7_tell 2 none 1 := ⟨m_26_5, m_26_6, m_26_7, m_2_13, m_26_8, by decide +kernel⟩
theorem lk_X7_73 : xLS RX7 73 yX7_isOfName cX7_isOfName 1 (some .boolean) 1 := ⟨m_23_2, m_23_3, m_2_13, m_23_4, by decide +kernel⟩
theorem lk_X7_89 : xLS RX7 89 yX7_isLetter cX7_isLetter 1 (some .boolean) 1 := ⟨m_23_5, m_23_6, m_2_13, m_23_7, by decide +kernel⟩
theorem lk_X7_92 : xLS RX7 92 yX7_isDigit cX7_isDigit 1 (some .boolean) 1 := ⟨m_23_8, m_23_9, m_2_13, m_23_10, by decide +kernel⟩
theorem mm_X2_45 : Cond.methodLink RX2 45 Lib.Math.min.name ∈ wsL_law ∧ Cond.static Lib.Math.min.name ∈ wsL_law ∧ Cond.initialized "java/lang/Math" ∈ wsL_law ∧ Cond.code Lib.Math.min.name Lib.Math.min.code 2 (some .int) ∈ wsL_law := ⟨m_46_23, m_15_1, m_13_23, m_15_2⟩
