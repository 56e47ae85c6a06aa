theorem m_1_16 : Cond.fieldLink RX11 10 "PaperBoys" "tape" "LPaperBoys$Tape;" ∈ wsL_law := ch_1 _ (List.mem_of_getElem? (i := 16) rfl)
theorem m_1_20 : Cond.fieldLink RX11 19 "PaperBoys" "market" "LPaperBoys$Market;" ∈ wsL_law := ch_1 _ (List.mem_of_getElem? (i := 20) rfl)
theorem m_1_22 : Cond.fieldLink RX11 27 "PaperBoys" "city" "LPaperBoys$City;" ∈ wsL_law := ch_1 _ (List.mem_of_getElem? (i := 22) rfl)
theorem m_2_2 : Cond.fieldLink RX11 31 "PaperBoys" "ledger" "LPaperBoys$Ledger;" ∈ wsL_law := ch_2 _ (List.mem_of_getElem? (i := 2) rfl)
theorem m_2_6 : Cond.fieldLink RX11 38 "PaperBoys" "texts" "Ljava/util/ArrayList;" ∈ wsL_law := ch_2 _ (List.mem_of_getElem? (i := 6) rfl)
theorem m_2_7 : Cond.classLink RX11 42 RX10 ∈ wsL_law := ch_2 _ (List.mem_of_getElem? (i := 7) rfl)
theorem m_2_10 : Cond.fieldLink RX11 45 "PaperBoys" "emptyText" "LPaperBoys$Terms;" ∈ wsL_law := ch_2 _ (List.mem_of_getElem? (i := 10) rfl)
theorem m_2_19 : Cond.fieldLink RX11 62 "PaperBoys" "chances" "LPaperBoys$Chances;" ∈ wsL_law := ch_2 _ (List.mem_of_getElem? (i := 19) rfl)
theorem m_2_23 : Cond.fieldLink RX11 69 "PaperBoys" "route" "LPaperBoys$Route;" ∈ wsL_law := ch_2 _ (List.mem_of_getElem? (i := 23) rfl)
theorem m_3_3 : Cond.fieldLink RX11 76 "PaperBoys" "parting" "LPaperBoys$Parting;" ∈ wsL_law := ch_3 _ (List.mem_of_getElem? (i := 3) rfl)
theorem m_3_5 : Cond.fieldLink RX11 83 "PaperBoys" "today" "I" ∈ wsL_law := ch_3 _ (List.mem_of_getElem? (i := 5) rfl)
theorem m_3_6 : Cond.fieldLink RX11 87 "PaperBoys" "fault" "I" ∈ wsL_law := ch_3 _ (List.mem_of_getElem? (i := 6) rfl)
theorem m_3_7 : Cond.fieldLink RX11 90 "PaperBoys" "why" "I" ∈ wsL_law := ch_3 _ (List.mem_of_getElem? (i := 7) rfl)
theorem m_3_8 : Cond.fieldLink RX11 93 "PaperBoys" "triedEaten" "I" ∈ wsL_law := ch_3 _ (List.mem_of_getElem? (i := 8) rfl)
theorem m_3_9 : Cond.fieldLink RX11 96 "PaperBoys" "strikeEnd" "I" ∈ wsL_law := ch_3 _ (List.mem_of_getElem? (i := 9) rfl)
theorem m_3_10 : Cond.fieldLink RX11 99 "PaperBoys" "strikePrice" "I" ∈ wsL_law := ch_3 _ (List.mem_of_getElem? (i := 10) rfl)
theorem m_10_20 : Cond.fieldLink RX11 102 "PaperBoys$Tape" "size" "I" ∈ wsL_law := ch_10 _ (List.mem_of_getElem? (i := 20) rfl)
theorem m_10_21 : Cond.methodLink RX11 105 yX9_put ∈ wsL_law := ch_10 _ (List.mem_of_getElem? (i := 21) rfl)
theorem m_10_22 : Cond.instanceMethod yX9_put ∈ wsL_law := ch_10 _ (List.mem_of_getElem? (i := 22) rfl)
theorem m_10_23 : Cond.selects RX9 yX9_put yX9_put ∈ wsL_law := ch_10 _ (List.mem_of_getElem? (i := 23) rfl)
theorem m_11_0 : Cond.code yX9_put cX9_put 3 none ∈ wsL_law := ch_11 _ (List.mem_of_getElem? (i := 0) rfl)
theorem m_11_23 : Cond.fieldLink RX11 109 "PaperBoys$Market" "boys" "Ljava/util/ArrayList;" ∈ wsL_law := ch_11 _ (List.mem_of_getElem? (i := 23) rfl)
theorem m_12_0 : Cond.classLink RX11 123 RX0 ∈ wsL_law := ch_12 _ (List.mem_of_getElem? (i := 0) rfl)
theorem m_12_3 : Cond.methodLink RX11 112 yJx4a65c_size_8abf5 ∈ wsL_law := ch_12 _ (List.mem_of_getElem? (i := 3) rfl)
theorem m_12_11 : Cond.methodLink RX11 119 yX11_isBadge ∈ wsL_law := ch_12 _ (List.mem_of_getElem? (i := 11) rfl)
theorem m_12_12 : Cond.static yX11_isBadge ∈ wsL_law := ch_12 _ (List.mem_of_getElem? (i := 12) rfl)
theorem m_12_13 : Cond.code yX11_isBadge cX11_isBadge 1 (some .boolean) ∈ wsL_law := ch_12 _ (List.mem_of_getElem? (i := 13) rfl)
theorem m_15_20 : Cond.fieldLink RX11 139 "PaperBoys$Boy" "badge" "I" ∈ wsL_law := ch_15 _ (List.mem_of_getElem? (i := 20) rfl)
theorem m_15_21 : Cond.methodLink RX11 132 yX5_hasBoy ∈ wsL_law := ch_15 _ (List.mem_of_getElem? (i := 21) rfl)
theorem m_15_22 : Cond.instanceMethod yX5_hasBoy ∈ wsL_law := ch_15 _ (List.mem_of_getElem? (i := 22) rfl)
theorem m_15_23 : Cond.selects RX5 yX5_hasBoy yX5_hasBoy ∈ wsL_law := ch_15 _ (List.mem_of_getElem? (i := 23) rfl)
theorem m_16_0 : Cond.code yX5_hasBoy cX5_hasBoy 2 (some .boolean) ∈ wsL_law := ch_16 _ (List.mem_of_getElem? (i := 0) rfl)
theorem m_16_2 : Cond.methodLink RX11 135 yJx4a65c_get_915e3 ∈ wsL_law := ch_16 _ (List.mem_of_getElem? (i := 2) rfl)
theorem m_17_6 : Cond.fieldLink RX11 145 "PaperBoys$City" "owners" "[I" ∈ wsL_law := ch_17 _ (List.mem_of_getElem? (i := 6) rfl)
theorem m_17_7 : Cond.methodLink RX11 142 yX11_isCorner ∈ wsL_law := ch_17 _ (List.mem_of_getElem? (i := 7) rfl)
theorem m_17_8 : Cond.static yX11_isCorner ∈ wsL_law := ch_17 _ (List.mem_of_getElem? (i := 8) rfl)
theorem m_17_9 : Cond.code yX11_isCorner cX11_isCorner 1 (some .boolean) ∈ wsL_law := ch_17 _ (List.mem_of_getElem? (i := 9) rfl)
theorem m_17_21 : Cond.methodLink RX11 151 yX9_isWeather ∈ wsL_law := ch_17 _ (List.mem_of_getElem? (i := 21) rfl)
theorem m_17_22 : Cond.instanceMethod yX9_isWeather ∈ wsL_law := ch_17 _ (List.mem_of_getElem? (i := 22) rfl)
theorem m_17_23 : Cond.selects RX9 yX9_isWeather yX9_isWeather ∈ wsL_law := ch_17 _ (List.mem_of_getElem? (i := 23) rfl)
theorem m_18_0 : Cond.code yX9_isWeather cX9_isWeather 2 (some .boolean) ∈ wsL_law := ch_18 _ (List.mem_of_getElem? (i := 0) rfl)
theorem m_18_1 : Cond.methodLink RX11 155 yX3_setSky ∈ wsL_law := ch_18 _ (List.mem_of_getElem? (i := 1) rfl)
theorem m_18_2 : Cond.instanceMethod yX3_setSky ∈ wsL_law := ch_18 _ (List.mem_of_getElem? (i := 2) rfl)
theorem m_18_3 : Cond.selects RX3 yX3_setSky yX3_setSky ∈ wsL_law := ch_18 _ (List.mem_of_getElem? (i := 3) rfl)
theorem m_18_4 : Cond.code yX3_setSky cX3_setSky 5 none ∈ wsL_law := ch_18 _ (List.mem_of_getElem? (i := 4) rfl)
theorem m_18_20 : Cond.fieldLink RX11 162 "PaperBoys$City" "sky" "[I" ∈ wsL_law := ch_18 _ (List.mem_of_getElem? (i := 20) rfl)
theorem m_19_12 : Cond.fieldLink RX11 171 "PaperBoys$City" "headlines" "[[I" ∈ wsL_law := ch_19 _ (List.mem_of_getElem? (i := 12) rfl)
theorem m_19_13 : Cond.methodLink RX11 165 yX11_isPaper ∈ wsL_law := ch_19 _ (List.mem_of_getElem? (i := 13) rfl)
theorem m_19_14 : Cond.static yX11_isPaper ∈ wsL_law := ch_19 _ (List.mem_of_getElem? (i := 14) rfl)
theorem m_19_15 : Cond.code yX11_isPaper cX11_isPaper 1 (some .boolean) ∈ wsL_law := ch_19 _ (List.mem_of_getElem? (i := 15) rfl)
theorem m_19_16 : Cond.methodLink RX11 168 yX11_isHeadline ∈ wsL_law := ch_19 _ (List.mem_of_getElem? (i := 16) rfl)
theorem m_19_17 : Cond.static yX11_isHeadline ∈ wsL_law := ch_19 _ (List.mem_of_getElem? (i := 17) rfl)
theorem m_19_18 : Cond.code yX11_isHeadline cX11_isHeadline 1 (some .boolean) ∈ wsL_law := ch_19 _ (List.mem_of_getElem? (i := 18) rfl)
theorem m_20_7 : Cond.fieldLink RX11 177 "PaperBoys$City" "wet" "[I" ∈ wsL_law := ch_20 _ (List.mem_of_getElem? (i := 7) rfl)
theorem m_20_8 : Cond.fieldLink RX11 180 "PaperBoys$City" "loud" "[I" ∈ wsL_law := ch_20 _ (List.mem_of_getElem? (i := 8) rfl)
theorem m_20_9 : Cond.methodLink RX11 175 yX11_isWeather ∈ wsL_law := ch_20 _ (List.mem_of_getElem? (i := 9) rfl)
theorem m_20_10 : Cond.static yX11_isWeather ∈ wsL_law := ch_20 _ (List.mem_of_getElem? (i := 10) rfl)
theorem m_20_11 : Cond.code yX11_isWeather cX11_isWeather 1 (some .boolean) ∈ wsL_law := ch_20 _ (List.mem_of_getElem? (i := 11) rfl)
theorem m_20_20 : Cond.fieldLink RX11 183 "PaperBoys$City" "wants" "[[I" ∈ wsL_law := ch_20 _ (List.mem_of_getElem? (i := 20) rfl)
theorem m_21_5 : Cond.methodLink RX11 186 yX3_askedFor ∈ wsL_law := ch_21 _ (List.mem_of_getElem? (i := 5) rfl)
theorem m_21_21 : Cond.fieldLink RX11 190 "PaperBoys$City" "minutes" "[[I" ∈ wsL_law := ch_21 _ (List.mem_of_getElem? (i := 21) rfl)
theorem m_28_1 : Cond.fieldLink RX11 356 "PaperBoys$Terms" "from" "I" ∈ wsL_law := ch_28 _ (List.mem_of_getElem? (i := 1) rfl)
theorem m_32_21 : Cond.fieldLink RX11 205 "PaperBoys$Market" "bundles" "Ljava/util/ArrayList;" ∈ wsL_law := ch_32 _ (List.mem_of_getElem? (i := 21) rfl)
theorem m_32_22 : Cond.classLink RX11 208 RX1 ∈ wsL_law := ch_32 _ (List.mem_of_getElem? (i := 22) rfl)
theorem m_33_16 : Cond.static yX11_placeOf ∈ wsL_law := ch_33 _ (List.mem_of_getElem? (i := 16) rfl)
theorem m_33_17 : Cond.code yX11_placeOf cX11_placeOf 3 (some .int) ∈ wsL_law := ch_33 _ (List.mem_of_getElem? (i := 17) rfl)
theorem m_33_18 : Cond.methodLink RX11 213 yX11_inForce ∈ wsL_law := ch_33 _ (List.mem_of_getElem? (i := 18) rfl)
theorem m_33_19 : Cond.instanceMethod yX11_inForce ∈ wsL_law := ch_33 _ (List.mem_of_getElem? (i := 19) rfl)
theorem m_33_20 : Cond.selects RX11 yX11_inForce yX11_inForce ∈ wsL_law := ch_33 _ (List.mem_of_getElem? (i := 20) rfl)
theorem m_33_21 : Cond.code yX11_inForce cX11_inForce 5 (some (.object "PaperBoys$Terms")) ∈ wsL_law := ch_33 _ (List.mem_of_getElem? (i := 21) rfl)
theorem m_37_9 : Cond.fieldLink RX11 224 "PaperBoys$Bundle" "day" "I" ∈ wsL_law := ch_37 _ (List.mem_of_getElem? (i := 9) rfl)
theorem m_37_10 : Cond.fieldLink RX11 231 "PaperBoys$Market" "facts" "[I" ∈ wsL_law := ch_37 _ (List.mem_of_getElem? (i := 10) rfl)
theorem m_37_11 : Cond.methodLink RX11 221 yX5_hasBundle ∈ wsL_law := ch_37 _ (List.mem_of_getElem? (i := 11) rfl)
theorem m_37_12 : Cond.instanceMethod yX5_hasBundle ∈ wsL_law := ch_37 _ (List.mem_of_getElem? (i := 12) rfl)
theorem m_37_13 : Cond.selects RX5 yX5_hasBundle yX5_hasBundle ∈ wsL_law := ch_37 _ (List.mem_of_getElem? (i := 13) rfl)
theorem m_37_14 : Cond.code yX5_hasBundle cX5_hasBundle 2 (some .boolean) ∈ wsL_law := ch_37 _ (List.mem_of_getElem? (i := 14) rfl)
theorem m_37_15 : Cond.methodLink RX11 227 yX5_learn ∈ wsL_law := ch_37 _ (List.mem_of_getElem? (i := 15) rfl)
theorem m_37_16 : Cond.methodLink RX11 234 yX10_lineFor ∈ wsL_law := ch_37 _ (List.mem_of_getElem? (i := 16) rfl)
theorem m_37_17 : Cond.methodLink RX11 238 yX10_numberOf ∈ wsL_law := ch_37 _ (List.mem_of_getElem? (i := 17) rfl)
theorem m_43_3 : Cond.fieldLink RX11 278 "PaperBoys$Ledger" "size" "I" ∈ wsL_law := ch_43 _ (List.mem_of_getElem? (i := 3) rfl)
theorem m_43_4 : Cond.methodLink RX11 279 yX11_placeOf ∈ wsL_law := ch_43 _ (List.mem_of_getElem? (i := 4) rfl)
theorem m_43_5 : Cond.methodLink RX11 283 yX4_add ∈ wsL_law := ch_43 _ (List.mem_of_getElem? (i := 5) rfl)
theorem m_43_6 : Cond.instanceMethod yX4_add ∈ wsL_law := ch_43 _ (List.mem_of_getElem? (i := 6) rfl)
theorem m_43_7 : Cond.selects RX4 yX4_add yX4_add ∈ wsL_law := ch_43 _ (List.mem_of_getElem? (i := 7) rfl)
theorem m_43_8 : Cond.code yX4_add cX4_add 4 none ∈ wsL_law := ch_43 _ (List.mem_of_getElem? (i := 8) rfl)
theorem m_43_18 : Cond.methodLink RX11 286 yX4_falseAsOf ∈ wsL_law := ch_43 _ (List.mem_of_getElem? (i := 18) rfl)
theorem m_43_19 : Cond.instanceMethod yX4_falseAsOf ∈ wsL_law := ch_43 _ (List.mem_of_getElem? (i := 19) rfl)
theorem m_43_20 : Cond.selects RX4 yX4_falseAsOf yX4_falseAsOf ∈ wsL_law := ch_43 _ (List.mem_of_getElem? (i := 20) rfl)
theorem m_43_21 : Cond.code yX4_falseAsOf cX4_falseAsOf 5 (some .int) ∈ wsL_law := ch_43 _ (List.mem_of_getElem? (i := 21) rfl)
theorem m_44_22 : Cond.methodLink RX11 290 yX4_shortAsOf ∈ wsL_law := ch_44 _ (List.mem_of_getElem? (i := 22) rfl)
theorem m_44_23 : Cond.instanceMethod yX4_shortAsOf ∈ wsL_law := ch_44 _ (List.mem_of_getElem? (i := 23) rfl)
theorem m_45_0 : Cond.selects RX4 yX4_shortAsOf yX4_shortAsOf ∈ wsL_law := ch_45 _ (List.mem_of_getElem? (i := 0) rfl)
theorem m_45_1 : Cond.code yX4_shortAsOf cX4_shortAsOf 7 (some .int) ∈ wsL_law := ch_45 _ (List.mem_of_getElem? (i := 1) rfl)
theorem m_46_5 : Cond.methodLink RX11 294 yX9_noneAbove ∈ wsL_law := ch_46 _ (List.mem_of_getElem? (i := 5) rfl)
theorem m_46_6 : Cond.instanceMethod yX9_noneAbove ∈ wsL_law := ch_46 _ (List.mem_of_getElem? (i := 6) rfl)
theorem m_46_7 : Cond.selects RX9 yX9_noneAbove yX9_noneAbove ∈ wsL_law := ch_46 _ (List.mem_of_getElem? (i := 7) rfl)
theorem m_46_8 : Cond.code yX9_noneAbove cX9_noneAbove 3 (some .boolean) ∈ wsL_law := ch_46 _ (List.mem_of_getElem? (i := 8) rfl)
theorem m_46_9 : Cond.methodLink RX11 297 yX2_learn ∈ wsL_law := ch_46 _ (List.mem_of_getElem? (i := 9) rfl)
theorem m_46_10 : Cond.instanceMethod yX2_learn ∈ wsL_law := ch_46 _ (List.mem_of_getElem? (i := 10) rfl)
theorem m_46_11 : Cond.selects RX2 yX2_learn yX2_learn ∈ wsL_law := ch_46 _ (List.mem_of_getElem? (i := 11) rfl)
theorem m_46_12 : Cond.code yX2_learn cX2_learn 8 none ∈ wsL_law := ch_46 _ (List.mem_of_getElem? (i := 12) rfl)
theorem m_46_13 : Cond.fieldLink RX2 26 "PaperBoys$Tape" "bytes" "[I" ∈ wsL_law := ch_46 _ (List.mem_of_getElem? (i := 13) rfl)
theorem m_46_14 : Cond.methodLink RX2 31 yX3_askedFor ∈ wsL_law := ch_46 _ (List.mem_of_getElem? (i := 14) rfl)
theorem m_46_15 : Cond.methodLink RX11 300 yX2_choose ∈ wsL_law := ch_46 _ (List.mem_of_getElem? (i := 15) rfl)
theorem m_46_16 : Cond.instanceMethod yX2_choose ∈ wsL_law := ch_46 _ (List.mem_of_getElem? (i := 16) rfl)
theorem m_46_17 : Cond.selects RX2 yX2_choose yX2_choose ∈ wsL_law := ch_46 _ (List.mem_of_getElem? (i := 17) rfl)
theorem m_46_18 : Cond.code yX2_choose cX2_choose 8 (some .int) ∈ wsL_law := ch_46 _ (List.mem_of_getElem? (i := 18) rfl)
theorem m_47_9 : Cond.fieldLink RX11 303 "PaperBoys$Chances" "expected" "J" ∈ wsL_law := ch_47 _ (List.mem_of_getElem? (i := 9) rfl)
theorem m_50_12 : Cond.methodLink RX6 73 yX6_findClashes ∈ wsL_law := ch_50 _ (List.mem_of_getElem? (i := 12) rfl)
theorem m_50_13 : Cond.instanceMethod yX6_findClashes ∈ wsL_law := ch_50 _ (List.mem_of_getElem? (i := 13) rfl)
theorem m_50_14 : Cond.selects RX6 yX6_findClashes yX6_findClashes ∈ wsL_law := ch_50 _ (List.mem_of_getElem? (i := 14) rfl)
theorem m_50_15 : Cond.code yX6_findClashes cX6_findClashes 7 none ∈ wsL_law := ch_50 _ (List.mem_of_getElem? (i := 15) rfl)
theorem m_51_0 : Cond.methodLink RX6 77 yX6_findRest ∈ wsL_law := ch_51 _ (List.mem_of_getElem? (i := 0) rfl)
theorem m_51_1 : Cond.instanceMethod yX6_findRest ∈ wsL_law := ch_51 _ (List.mem_of_getElem? (i := 1) rfl)
theorem m_51_2 : Cond.selects RX6 yX6_findRest yX6_findRest ∈ wsL_law := ch_51 _ (List.mem_of_getElem? (i := 2) rfl)
theorem m_51_3 : Cond.code yX6_findRest cX6_findRest 6 none ∈ wsL_law := ch_51 _ (List.mem_of_getElem? (i := 3) rfl)
theorem m_51_4 : Cond.methodLink RX6 89 Lib.Math.max.name ∈ wsL_law := ch_51 _ (List.mem_of_getElem? (i := 4) rfl)
theorem m_51_5 : Cond.methodLink RX6 84 yJ6_bitCount_0f7a4 ∈ wsL_law := ch_51 _ (List.mem_of_getElem? (i := 5) rfl)
theorem m_51_6 : Cond.static yJ6_bitCount_0f7a4 ∈ wsL_law := ch_51 _ (List.mem_of_getElem? (i := 6) rfl)
theorem m_51_7 : Cond.initialized RJ6 ∈ wsL_law := ch_51 _ (List.mem_of_getElem? (i := 7) rfl)
theorem m_51_8 : Cond.code yJ6_bitCount_0f7a4 cJ6_bitCount_0f7a4 1 (some .int) ∈ wsL_law := ch_51 _ (List.mem_of_getElem? (i := 8) rfl)
theorem m_51_9 : Cond.constant RJ6 265 (1431655765) ∈ wsL_law := ch_51 _ (List.mem_of_getElem? (i := 9) rfl)
theorem m_51_10 : Cond.constant RJ6 266 (858993459) ∈ wsL_law := ch_51 _ (List.mem_of_getElem? (i := 10) rfl)
theorem m_51_11 : Cond.constant RJ6 267 (252645135) ∈ wsL_law := ch_51 _ (List.mem_of_getElem? (i := 11) rfl)
theorem m_52_20 : Cond.fieldLink RX11 330 "PaperBoys$Parting" "n" "I" ∈ wsL_law := ch_52 _ (List.mem_of_getElem? (i := 20) rfl)
theorem m_52_21 : Cond.fieldLink RX11 333 "PaperBoys$Parting" "cornerOf" "[I" ∈ wsL_law := ch_52 _ (List.mem_of_getElem? (i := 21) rfl)
theorem m_56_6 : Cond.fieldLink RX11 343 "PaperBoys$Route" "wayLength" "I" ∈ wsL_law := ch_56 _ (List.mem_of_getElem? (i := 6) rfl)
theorem m_56_7 : Cond.fieldLink RX11 346 "PaperBoys$Route" "way" "[I" ∈ wsL_law := ch_56 _ (List.mem_of_getElem? (i := 7) rfl)
theorem m_56_16 : Cond.methodLink RX11 349 yX11_isOfStrike ∈ wsL_law := ch_56 _ (List.mem_of_getElem? (i := 16) rfl)
theorem m_56_17 : Cond.static yX11_isOfStrike ∈ wsL_law := ch_56 _ (List.mem_of_getElem? (i := 17) rfl)
theorem m_56_18 : Cond.code yX11_isOfStrike cX11_isOfStrike 1 (some .boolean) ∈ wsL_law := ch_56 _ (List.mem_of_getElem? (i := 18) rfl)
theorem m_56_20 : Cond.methodLink RX11 352 yX11_strikeWeek ∈ wsL_law := ch_56 _ (List.mem_of_getElem? (i := 20) rfl)
theorem m_56_21 : Cond.instanceMethod yX11_strikeWeek ∈ wsL_law := ch_56 _ (List.mem_of_getElem? (i := 21) rfl)
theorem m_56_22 : Cond.selects RX11 yX11_strikeWeek yX11_strikeWeek ∈ wsL_law := ch_56 _ (List.mem_of_getElem? (i := 22) rfl)
theorem m_56_23 : Cond.code yX11_strikeWeek cX11_strikeWeek 12 (some .int) ∈ wsL_law := ch_56 _ (List.mem_of_getElem? (i := 23) rfl)
theorem m_57_0 : Cond.fieldLink RX11 362 "PaperBoys$Tape" "bytes" "[I" ∈ wsL_law := ch_57 _ (List.mem_of_getElem? (i := 0) rfl)
theorem m_57_1 : Cond.methodLink RX11 365 yX11_strikeEnds ∈ wsL_law := ch_57 _ (List.mem_of_getElem? (i := 1) rfl)
theorem m_57_2 : Cond.instanceMethod yX11_strikeEnds ∈ wsL_law := ch_57 _ (List.mem_of_getElem? (i := 2) rfl)
theorem m_57_3 : Cond.selects RX11 yX11_strikeEnds yX11_strikeEnds ∈ wsL_law := ch_57 _ (List.mem_of_getElem? (i := 3) rfl)
theorem m_57_4 : Cond.code yX11_strikeEnds cX11_strikeEnds 4 (some .int) ∈ wsL_law := ch_57 _ (List.mem_of_getElem? (i := 4) rfl)
theorem kd38_0 : (decode cJ6_bitCount_0f7a4 0 = .ok (.iload_n 0, 1)) ∧ (decode cJ6_bitCount_0f7a4 1 = .ok (.iload_n 0, 1)) ∧ (decode cJ6_bitCount_0f7a4 2 = .ok (.iconst 1, 1)) ∧ (decode cJ6_bitCount_0f7a4 3 = .ok (.iushr, 1)) ∧ (decode cJ6_bitCount_0f7a4 4 = .ok (.ldc_w 265, 3)) ∧ (decode cJ6_bitCount_0f7a4 7 = .ok (.iand, 1)) ∧ (decode cJ6_bitCount_0f7a4 8 = .ok (.isub, 1)) ∧ (decode cJ6_bitCount_0f7a4 9 = .ok (.istore_n 0, 1)) ∧ (decode cJ6_bitCount_0f7a4 10 = .ok (.iload_n 0, 1)) ∧ (decode cJ6_bitCount_0f7a4 11 = .ok (.ldc_w 266, 3)) ∧ (decode cJ6_bitCount_0f7a4 14 = .ok (.iand, 1)) ∧ (decode cJ6_bitCount_0f7a4 15 = .ok (.iload_n 0, 1)) := by decide +kernel
theorem kd38_1 : (decode cJ6_bitCount_0f7a4 16 = .ok (.iconst 2, 1)) ∧ (decode cJ6_bitCount_0f7a4 17 = .ok (.iushr, 1)) ∧ (decode cJ6_bitCount_0f7a4 18 = .ok (.ldc_w 266, 3)) ∧ (decode cJ6_bitCount_0f7a4 21 = .ok (.iand, 1)) ∧ (decode cJ6_bitCount_0f7a4 22 = .ok (.iadd, 1)) ∧ (decode cJ6_bitCount_0f7a4 23 = .ok (.istore_n 0, 1)) ∧ (decode cJ6_bitCount_0f7a4 24 = .ok (.iload_n 0, 1)) ∧ (decode cJ6_bitCount_0f7a4 25 = .ok (.iload_n 0, 1)) ∧ (decode cJ6_bitCount_0f7a4 26 = .ok (.iconst 4, 1)) ∧ (decode cJ6_bitCount_0f7a4 27 = .ok (.iushr, 1)) ∧ (decode cJ6_bitCount_0f7a4 28 = .ok (.iadd, 1)) ∧ (decode cJ6_bitCount_0f7a4 29 = .ok (.ldc_w 267, 3)) := by decide +kernel
theorem kd38_2 : (decode cJ6_bitCount_0f7a4 32 = .ok (.iand, 1)) ∧ (decode cJ6_bitCount_0f7a4 33 = .ok (.istore_n 0, 1)) ∧ (decode cJ6_bitCount_0f7a4 34 = .ok (.iload_n 0, 1)) ∧ (decode cJ6_bitCount_0f7a4 35 = .ok (.iload_n 0, 1)) ∧ (decode cJ6_bitCount_0f7a4 36 = .ok (.bipush 8, 2)) ∧ (decode cJ6_bitCount_0f7a4 38 = .ok (.iushr, 1)) ∧ (decode cJ6_bitCount_0f7a4 39 = .ok (.iadd, 1)) ∧ (decode cJ6_bitCount_0f7a4 40 = .ok (.istore_n 0, 1)) ∧ (decode cJ6_bitCount_0f7a4 41 = .ok (.iload_n 0, 1)) ∧ (decode cJ6_bitCount_0f7a4 42 = .ok (.iload_n 0, 1)) ∧ (decode cJ6_bitCount_0f7a4 43 = .ok (.bipush 16, 2)) ∧ (decode cJ6_bitCount_0f7a4 45 = .ok (.iushr, 1)) := by decide +kernel
theorem kd38_3 : (decode cJ6_bitCount_0f7a4 46 = .ok (.iadd, 1)) ∧ (decode cJ6_bitCount_0f7a4 47 = .ok (.istore_n 0, 1)) ∧ (decode cJ6_bitCount_0f7a4 48 = .ok (.iload_n 0, 1)) ∧ (decode cJ6_bitCount_0f7a4 49 = .ok (.bipush 63, 2)) ∧ (decode cJ6_bitCount_0f7a4 51 = .ok (.iand, 1)) ∧ (decode cJ6_bitCount_0f7a4 52 = .ok (.ireturn, 1)) ∧ (decode cX11_asked 0 = .ok (.iload_n 1, 1)) ∧ (decode cX11_asked 1 = .ok (.invokestatic 142, 3)) ∧ (decode cX11_asked 4 = .ok (.ifCond .eq 25, 3)) ∧ (decode cX11_asked 7 = .ok (.iload_n 2, 1)) ∧ (decode cX11_asked 8 = .ok (.invokestatic 165, 3)) ∧ (decode cX11_asked 11 = .ok (.ifCond .eq 18, 3)) := by decide +kernel
theorem kd38_4 : (decode cX11_asked 14 = .ok (.iload_n 3, 1)) ∧ (decode cX11_asked 15 = .ok (.invokestatic 175, 3)) ∧ (decode cX11_asked 18 = .ok (.ifCond .eq 11, 3)) ∧ (decode cX11_asked 21 = .ok (.iload 4, 2)) ∧ (decode cX11_asked 23 = .ok (.invokestatic 168, 3)) ∧ (decode cX11_asked 26 = .ok (.ifCond .ne 5, 3)) ∧ (decode cX11_asked 29 = .ok (.iconst (-1), 1)) ∧ (decode cX11_asked 30 = .ok (.ireturn, 1)) ∧ (decode cX11_asked 31 = .ok (.aload_n 0, 1)) ∧ (decode cX11_asked 32 = .ok (.getfield 27, 3)) ∧ (decode cX11_asked 35 = .ok (.iload_n 1, 1)) ∧ (decode cX11_asked 36 = .ok (.iload_n 2, 1)) := by decide +kernel
theorem kd38_5 : (decode cX11_asked 37 = .ok (.iload_n 3, 1)) ∧ (decode cX11_asked 38 = .ok (.iload 4, 2)) ∧ (decode cX11_asked 40 = .ok (.invokevirtual 186, 3)) ∧ (decode cX11_asked 43 = .ok (.ireturn, 1)) ∧ (decode cX11_badge 0 = .ok (.aload_n 0, 1)) ∧ (decode cX11_badge 1 = .ok (.getfield 19, 3)) ∧ (decode cX11_badge 4 = .ok (.iload_n 1, 1)) ∧ (decode cX11_badge 5 = .ok (.invokevirtual 132, 3)) ∧ (decode cX11_badge 8 = .ok (.ifCond .eq 10, 3)) ∧ (decode cX11_badge 11 = .ok (.iload_n 2, 1)) ∧ (decode cX11_badge 12 = .ok (.invokestatic 119, 3)) ∧ (decode cX11_badge 15 = .ok (.ifCond .ne 5, 3)) := by decide +kernel
theorem kd38_6 : (decode cX11_badge 18 = .ok (.iconst 0, 1)) ∧ (decode cX11_badge 19 = .ok (.ireturn, 1)) ∧ (decode cX11_badge 20 = .ok (.aload_n 0, 1)) ∧ (decode cX11_badge 21 = .ok (.getfield 19, 3)) ∧ (decode cX11_badge 24 = .ok (.getfield 109, 3)) ∧ (decode cX11_badge 27 = .ok (.iload_n 1, 1)) ∧ (decode cX11_badge 28 = .ok (.invokevirtual 135, 3)) ∧ (decode cX11_badge 31 = .ok (.checkcast 123, 3)) ∧ (decode cX11_badge 34 = .ok (.iload_n 2, 1)) ∧ (decode cX11_badge 35 = .ok (.putfield 139, 3)) ∧ (decode cX11_badge 38 = .ok (.iconst 1, 1)) ∧ (decode cX11_badge 39 = .ok (.ireturn, 1)) := by decide +kernel
theorem kd38_7 : (decode cX11_best 0 = .ok (.iconst (-1), 1)) ∧ (decode cX11_best 1 = .ok (.istore 6, 2)) ∧ (decode cX11_best 3 = .ok (.iload_n 1, 1)) ∧ (decode cX11_best 4 = .ok (.invokestatic 142, 3)) ∧ (decode cX11_best 7 = .ok (.ifCond .eq 99, 3)) ∧ (decode cX11_best 10 = .ok (.iload_n 2, 1)) ∧ (decode cX11_best 11 = .ok (.invokestatic 165, 3)) ∧ (decode cX11_best 14 = .ok (.ifCond .eq 92, 3)) ∧ (decode cX11_best 17 = .ok (.iload_n 3, 1)) ∧ (decode cX11_best 18 = .ok (.iconst 0, 1)) ∧ (decode cX11_best 19 = .ok (.sipush 1000, 3)) ∧ (decode cX11_best 22 = .ok (.invokestatic 115, 3)) := by decide +kernel
theorem kd38_8 : (decode cX11_best 25 = .ok (.ifCond .eq 81, 3)) ∧ (decode cX11_best 28 = .ok (.iload 4, 2)) ∧ (decode cX11_best 30 = .ok (.iconst 0, 1)) ∧ (decode cX11_best 31 = .ok (.sipush 1000, 3)) ∧ (decode cX11_best 34 = .ok (.invokestatic 115, 3)) ∧ (decode cX11_best 37 = .ok (.ifCond .eq 69, 3)) ∧ (decode cX11_best 40 = .ok (.iload 5, 2)) ∧ (decode cX11_best 42 = .ok (.iconst 0, 1)) ∧ (decode cX11_best 43 = .ok (.bipush 100, 2)) ∧ (decode cX11_best 45 = .ok (.invokestatic 115, 3)) ∧ (decode cX11_best 48 = .ok (.ifCond .eq 58, 3)) ∧ (decode cX11_best 51 = .ok (.aload_n 0, 1)) := by decide +kernel
theorem kd38_9 : (decode cX11_best 52 = .ok (.getfield 10, 3)) ∧ (decode cX11_best 55 = .ok (.getfield 102, 3)) ∧ (decode cX11_best 58 = .ok (.bipush 10, 2)) ∧ (decode cX11_best 60 = .ok (.if_icmp .ne 46, 3)) ∧ (decode cX11_best 63 = .ok (.aload_n 0, 1)) ∧ (decode cX11_best 64 = .ok (.getfield 10, 3)) ∧ (decode cX11_best 67 = .ok (.bipush 20, 2)) ∧ (decode cX11_best 69 = .ok (.invokevirtual 294, 3)) ∧ (decode cX11_best 72 = .ok (.ifCond .eq 34, 3)) ∧ (decode cX11_best 75 = .ok (.aload_n 0, 1)) ∧ (decode cX11_best 76 = .ok (.getfield 62, 3)) ∧ (decode cX11_best 79 = .ok (.aload_n 0, 1)) := by decide +kernel
theorem kd38_10 : (decode cX11_best 80 = .ok (.getfield 27, 3)) ∧ (decode cX11_best 83 = .ok (.iload_n 1, 1)) ∧ (decode cX11_best 84 = .ok (.iload_n 2, 1)) ∧ (decode cX11_best 85 = .ok (.aload_n 0, 1)) ∧ (decode cX11_best 86 = .ok (.getfield 10, 3)) ∧ (decode cX11_best 89 = .ok (.invokevirtual 297, 3)) ∧ (decode cX11_best 92 = .ok (.aload_n 0, 1)) ∧ (decode cX11_best 93 = .ok (.getfield 62, 3)) ∧ (decode cX11_best 96 = .ok (.iload_n 3, 1)) ∧ (decode cX11_best 97 = .ok (.iload 4, 2)) ∧ (decode cX11_best 99 = .ok (.iload 5, 2)) ∧ (decode cX11_best 101 = .ok (.invokevirtual 300, 3)) := by decide +kernel
theorem kd38_11 : (decode cX11_best 104 = .ok (.istore 6, 2)) ∧ (decode cX11_best 106 = .ok (.aload_n 0, 1)) ∧ (decode cX11_best 107 = .ok (.getfield 10, 3)) ∧ (decode cX11_best 110 = .ok (.iconst 0, 1)) ∧ (decode cX11_best 111 = .ok (.putfield 102, 3)) ∧ (decode cX11_best 114 = .ok (.iload 6, 2)) ∧ (decode cX11_best 116 = .ok (.ireturn, 1)) ∧ (decode cX11_count 0 = .ok (.iload_n 1, 1)) ∧ (decode cX11_count 1 = .ok (.tableswitch 90 0 5 #[39, 44, 55, 66, 74, 82], 39)) ∧ (decode cX11_count 40 = .ok (.aload_n 0, 1)) ∧ (decode cX11_count 41 = .ok (.getfield 83, 3)) ∧ (decode cX11_count 44 = .ok (.ireturn, 1)) := by decide +kernel
theorem kd38_12 : (decode cX11_count 45 = .ok (.aload_n 0, 1)) ∧ (decode cX11_count 46 = .ok (.getfield 19, 3)) ∧ (decode cX11_count 49 = .ok (.getfield 109, 3)) ∧ (decode cX11_count 52 = .ok (.invokevirtual 112, 3)) ∧ (decode cX11_count 55 = .ok (.ireturn, 1)) ∧ (decode cX11_count 56 = .ok (.aload_n 0, 1)) ∧ (decode cX11_count 57 = .ok (.getfield 19, 3)) ∧ (decode cX11_count 60 = .ok (.getfield 205, 3)) ∧ (decode cX11_count 63 = .ok (.invokevirtual 112, 3)) ∧ (decode cX11_count 66 = .ok (.ireturn, 1)) ∧ (decode cX11_count 67 = .ok (.aload_n 0, 1)) ∧ (decode cX11_count 68 = .ok (.getfield 38, 3)) := by decide +kernel
theorem kd38_13 : (decode cX11_count 71 = .ok (.invokevirtual 112, 3)) ∧ (decode cX11_count 74 = .ok (.ireturn, 1)) ∧ (decode cX11_count 75 = .ok (.aload_n 0, 1)) ∧ (decode cX11_count 76 = .ok (.getfield 31, 3)) ∧ (decode cX11_count 79 = .ok (.getfield 278, 3)) ∧ (decode cX11_count 82 = .ok (.ireturn, 1)) ∧ (decode cX11_count 83 = .ok (.aload_n 0, 1)) ∧ (decode cX11_count 84 = .ok (.getfield 10, 3)) ∧ (decode cX11_count 87 = .ok (.getfield 102, 3)) ∧ (decode cX11_count 90 = .ok (.ireturn, 1)) ∧ (decode cX11_count 91 = .ok (.iconst (-1), 1)) ∧ (decode cX11_count 92 = .ok (.ireturn, 1)) := by decide +kernel
theorem kd38_14 : (decode cX11_counted 0 = .ok (.aload_n 0, 1)) ∧ (decode cX11_counted 1 = .ok (.getfield 31, 3)) ∧ (decode cX11_counted 4 = .ok (.getfield 278, 3)) ∧ (decode cX11_counted 7 = .ok (.bipush 60, 2)) ∧ (decode cX11_counted 9 = .ok (.if_icmp .ge 43, 3)) ∧ (decode cX11_counted 12 = .ok (.iload_n 1, 1)) ∧ (decode cX11_counted 13 = .ok (.invokestatic 165, 3)) ∧ (decode cX11_counted 16 = .ok (.ifCond .eq 36, 3)) ∧ (decode cX11_counted 19 = .ok (.iload_n 2, 1)) ∧ (decode cX11_counted 20 = .ok (.invokestatic 142, 3)) ∧ (decode cX11_counted 23 = .ok (.ifCond .eq 29, 3)) ∧ (decode cX11_counted 26 = .ok (.iload_n 3, 1)) := by decide +kernel
theorem kd38_15 : (decode cX11_counted 27 = .ok (.iconst 0, 1)) ∧ (decode cX11_counted 28 = .ok (.aload_n 0, 1)) ∧ (decode cX11_counted 29 = .ok (.getfield 83, 3)) ∧ (decode cX11_counted 32 = .ok (.iconst 1, 1)) ∧ (decode cX11_counted 33 = .ok (.isub, 1)) ∧ (decode cX11_counted 34 = .ok (.invokestatic 115, 3)) ∧ (decode cX11_counted 37 = .ok (.ifCond .eq 15, 3)) ∧ (decode cX11_counted 40 = .ok (.iload 4, 2)) ∧ (decode cX11_counted 42 = .ok (.iconst 0, 1)) ∧ (decode cX11_counted 43 = .ok (.sipush 10000, 3)) ∧ (decode cX11_counted 46 = .ok (.invokestatic 115, 3)) ∧ (decode cX11_counted 49 = .ok (.ifCond .ne 5, 3)) := by decide +kernel
theorem kd38_16 : (decode cX11_counted 52 = .ok (.iconst (-1), 1)) ∧ (decode cX11_counted 53 = .ok (.ireturn, 1)) ∧ (decode cX11_counted 54 = .ok (.aload_n 0, 1)) ∧ (decode cX11_counted 55 = .ok (.getfield 31, 3)) ∧ (decode cX11_counted 58 = .ok (.iload_n 3, 1)) ∧ (decode cX11_counted 59 = .ok (.iload_n 1, 1)) ∧ (decode cX11_counted 60 = .ok (.iload_n 2, 1)) ∧ (decode cX11_counted 61 = .ok (.invokestatic 279, 3)) ∧ (decode cX11_counted 64 = .ok (.iload 4, 2)) ∧ (decode cX11_counted 66 = .ok (.aload_n 0, 1)) ∧ (decode cX11_counted 67 = .ok (.getfield 83, 3)) ∧ (decode cX11_counted 70 = .ok (.invokevirtual 283, 3)) := by decide +kernel
theorem kd38_17 : (decode cX11_counted 73 = .ok (.aload_n 0, 1)) ∧ (decode cX11_counted 74 = .ok (.getfield 31, 3)) ∧ (decode cX11_counted 77 = .ok (.getfield 278, 3)) ∧ (decode cX11_counted 80 = .ok (.iconst 1, 1)) ∧ (decode cX11_counted 81 = .ok (.isub, 1)) ∧ (decode cX11_counted 82 = .ok (.ireturn, 1)) ∧ (decode cX11_end 0 = .ok (.iload_n 1, 1)) ∧ (decode cX11_end 1 = .ok (.ifCond .lt 14, 3)) ∧ (decode cX11_end 4 = .ok (.iload_n 1, 1)) ∧ (decode cX11_end 5 = .ok (.aload_n 0, 1)) ∧ (decode cX11_end 6 = .ok (.getfield 10, 3)) ∧ (decode cX11_end 9 = .ok (.getfield 102, 3)) := by decide +kernel
theorem kd38_18 : (decode cX11_end 12 = .ok (.if_icmp .le 5, 3)) ∧ (decode cX11_end 15 = .ok (.iconst 0, 1)) ∧ (decode cX11_end 16 = .ok (.ireturn, 1)) ∧ (decode cX11_end 17 = .ok (.aload_n 0, 1)) ∧ (decode cX11_end 18 = .ok (.getfield 10, 3)) ∧ (decode cX11_end 21 = .ok (.iload_n 1, 1)) ∧ (decode cX11_end 22 = .ok (.putfield 102, 3)) ∧ (decode cX11_end 25 = .ok (.iconst 1, 1)) ∧ (decode cX11_end 26 = .ok (.ireturn, 1)) ∧ (decode cX11_expected 0 = .ok (.aload_n 0, 1)) ∧ (decode cX11_expected 1 = .ok (.getfield 62, 3)) ∧ (decode cX11_expected 4 = .ok (.getfield 303, 3)) := by decide +kernel
theorem kd38_19 : (decode cX11_expected 7 = .ok (.lreturn, 1)) ∧ (decode cX11_falseCounts 0 = .ok (.aload_n 0, 1)) ∧ (decode cX11_falseCounts 1 = .ok (.getfield 31, 3)) ∧ (decode cX11_falseCounts 4 = .ok (.iload_n 1, 1)) ∧ (decode cX11_falseCounts 5 = .ok (.aload_n 0, 1)) ∧ (decode cX11_falseCounts 6 = .ok (.getfield 19, 3)) ∧ (decode cX11_falseCounts 9 = .ok (.invokevirtual 286, 3)) ∧ (decode cX11_falseCounts 12 = .ok (.ireturn, 1)) ∧ (decode cX11_fault 0 = .ok (.aload_n 0, 1)) ∧ (decode cX11_fault 1 = .ok (.getfield 87, 3)) ∧ (decode cX11_fault 4 = .ok (.ireturn, 1)) ∧ (decode cX11_feed 0 = .ok (.aload_n 0, 1)) := by decide +kernel
theorem kd38_20 : (decode cX11_feed 1 = .ok (.getfield 10, 3)) ∧ (decode cX11_feed 4 = .ok (.getfield 102, 3)) ∧ (decode cX11_feed 7 = .ok (.bipush 20, 2)) ∧ (decode cX11_feed 9 = .ok (.iadd, 1)) ∧ (decode cX11_feed 10 = .ok (.sipush 420, 3)) ∧ (decode cX11_feed 13 = .ok (.if_icmp .le 5, 3)) ∧ (decode cX11_feed 16 = .ok (.iconst (-1), 1)) ∧ (decode cX11_feed 17 = .ok (.ireturn, 1)) ∧ (decode cX11_feed 18 = .ok (.aload_n 0, 1)) ∧ (decode cX11_feed 19 = .ok (.getfield 10, 3)) ∧ (decode cX11_feed 22 = .ok (.iload_n 1, 1)) ∧ (decode cX11_feed 23 = .ok (.invokevirtual 105, 3)) := by decide +kernel
theorem kd38_21 : (decode cX11_feed 26 = .ok (.aload_n 0, 1)) ∧ (decode cX11_feed 27 = .ok (.getfield 10, 3)) ∧ (decode cX11_feed 30 = .ok (.iload_n 2, 1)) ∧ (decode cX11_feed 31 = .ok (.invokevirtual 105, 3)) ∧ (decode cX11_feed 34 = .ok (.aload_n 0, 1)) ∧ (decode cX11_feed 35 = .ok (.getfield 10, 3)) ∧ (decode cX11_feed 38 = .ok (.iload_n 3, 1)) ∧ (decode cX11_feed 39 = .ok (.invokevirtual 105, 3)) ∧ (decode cX11_feed 42 = .ok (.aload_n 0, 1)) ∧ (decode cX11_feed 43 = .ok (.getfield 10, 3)) ∧ (decode cX11_feed 46 = .ok (.iload 4, 2)) ∧ (decode cX11_feed 48 = .ok (.invokevirtual 105, 3)) := by decide +kernel
theorem kd38_22 : (decode cX11_feed 51 = .ok (.aload_n 0, 1)) ∧ (decode cX11_feed 52 = .ok (.getfield 10, 3)) ∧ (decode cX11_feed 55 = .ok (.iload 5, 2)) ∧ (decode cX11_feed 57 = .ok (.invokevirtual 105, 3)) ∧ (decode cX11_feed 60 = .ok (.aload_n 0, 1)) ∧ (decode cX11_feed 61 = .ok (.getfield 10, 3)) ∧ (decode cX11_feed 64 = .ok (.getfield 102, 3)) ∧ (decode cX11_feed 67 = .ok (.ireturn, 1)) ∧ (decode cX11_headline 0 = .ok (.iload_n 1, 1)) ∧ (decode cX11_headline 1 = .ok (.invokestatic 165, 3)) ∧ (decode cX11_headline 4 = .ok (.ifCond .eq 25, 3)) ∧ (decode cX11_headline 7 = .ok (.iload_n 2, 1)) := by decide +kernel
theorem kd38_23 : (decode cX11_headline 8 = .ok (.invokestatic 159, 3)) ∧ (decode cX11_headline 11 = .ok (.ifCond .eq 18, 3)) ∧ (decode cX11_headline 14 = .ok (.iload_n 2, 1)) ∧ (decode cX11_headline 15 = .ok (.aload_n 0, 1)) ∧ (decode cX11_headline 16 = .ok (.getfield 83, 3)) ∧ (decode cX11_headline 19 = .ok (.if_icmp .lt 10, 3)) ∧ (decode cX11_headline 22 = .ok (.iload_n 3, 1)) ∧ (decode cX11_headline 23 = .ok (.invokestatic 168, 3)) ∧ (decode cX11_headline 26 = .ok (.ifCond .ne 5, 3)) ∧ (decode cX11_headline 29 = .ok (.iconst 0, 1)) ∧ (decode cX11_headline 30 = .ok (.ireturn, 1)) ∧ (decode cX11_headline 31 = .ok (.aload_n 0, 1)) := by decide +kernel
theorem kd38_24 : (decode cX11_headline 32 = .ok (.getfield 27, 3)) ∧ (decode cX11_headline 35 = .ok (.getfield 171, 3)) ∧ (decode cX11_headline 38 = .ok (.iload_n 1, 1)) ∧ (decode cX11_headline 39 = .ok (.aaload, 1)) ∧ (decode cX11_headline 40 = .ok (.iload_n 2, 1)) ∧ (decode cX11_headline 41 = .ok (.iload_n 3, 1)) ∧ (decode cX11_headline 42 = .ok (.iastore, 1)) ∧ (decode cX11_headline 43 = .ok (.iconst 1, 1)) ∧ (decode cX11_headline 44 = .ok (.ireturn, 1)) ∧ (decode cX11_inForce 0 = .ok (.aload_n 0, 1)) ∧ (decode cX11_inForce 1 = .ok (.getfield 45, 3)) ∧ (decode cX11_inForce 4 = .ok (.astore_n 2, 1)) := by decide +kernel
theorem kd38_25 : (decode cX11_inForce 5 = .ok (.iconst 0, 1)) ∧ (decode cX11_inForce 6 = .ok (.istore_n 3, 1)) ∧ (decode cX11_inForce 7 = .ok (.iload_n 3, 1)) ∧ (decode cX11_inForce 8 = .ok (.aload_n 0, 1)) ∧ (decode cX11_inForce 9 = .ok (.getfield 38, 3)) ∧ (decode cX11_inForce 12 = .ok (.invokevirtual 112, 3)) ∧ (decode cX11_inForce 15 = .ok (.if_icmp .ge 46, 3)) ∧ (decode cX11_inForce 18 = .ok (.aload_n 0, 1)) ∧ (decode cX11_inForce 19 = .ok (.getfield 38, 3)) ∧ (decode cX11_inForce 22 = .ok (.iload_n 3, 1)) ∧ (decode cX11_inForce 23 = .ok (.invokevirtual 135, 3)) ∧ (decode cX11_inForce 26 = .ok (.checkcast 42, 3)) := by decide +kernel
theorem kd38_26 : (decode cX11_inForce 29 = .ok (.astore 4, 2)) ∧ (decode cX11_inForce 31 = .ok (.aload 4, 2)) ∧ (decode cX11_inForce 33 = .ok (.getfield 356, 3)) ∧ (decode cX11_inForce 36 = .ok (.iload_n 1, 1)) ∧ (decode cX11_inForce 37 = .ok (.if_icmp .gt 18, 3)) ∧ (decode cX11_inForce 40 = .ok (.aload 4, 2)) ∧ (decode cX11_inForce 42 = .ok (.getfield 356, 3)) ∧ (decode cX11_inForce 45 = .ok (.aload_n 2, 1)) ∧ (decode cX11_inForce 46 = .ok (.getfield 356, 3)) ∧ (decode cX11_inForce 49 = .ok (.if_icmp .lt 6, 3)) ∧ (decode cX11_inForce 52 = .ok (.aload 4, 2)) ∧ (decode cX11_inForce 54 = .ok (.astore_n 2, 1)) := by decide +kernel
theorem kd38_27 : (decode cX11_inForce 55 = .ok (.iinc 3 1, 3)) ∧ (decode cX11_inForce 58 = .ok (.goto (-51), 3)) ∧ (decode cX11_inForce 61 = .ok (.aload_n 2, 1)) ∧ (decode cX11_inForce 62 = .ok (.areturn, 1)) ∧ (decode cX11_minutes 0 = .ok (.iload_n 1, 1)) ∧ (decode cX11_minutes 1 = .ok (.invokestatic 142, 3)) ∧ (decode cX11_minutes 4 = .ok (.ifCond .eq 26, 3)) ∧ (decode cX11_minutes 7 = .ok (.iload_n 2, 1)) ∧ (decode cX11_minutes 8 = .ok (.invokestatic 142, 3)) ∧ (decode cX11_minutes 11 = .ok (.ifCond .eq 19, 3)) ∧ (decode cX11_minutes 14 = .ok (.iload_n 1, 1)) ∧ (decode cX11_minutes 15 = .ok (.iload_n 2, 1)) := by decide +kernel
theorem kd38_28 : (decode cX11_minutes 16 = .ok (.if_icmp .eq 14, 3)) ∧ (decode cX11_minutes 19 = .ok (.iload_n 3, 1)) ∧ (decode cX11_minutes 20 = .ok (.iconst 1, 1)) ∧ (decode cX11_minutes 21 = .ok (.sipush 200, 3)) ∧ (decode cX11_minutes 24 = .ok (.invokestatic 115, 3)) ∧ (decode cX11_minutes 27 = .ok (.ifCond .ne 5, 3)) ∧ (decode cX11_minutes 30 = .ok (.iconst 0, 1)) ∧ (decode cX11_minutes 31 = .ok (.ireturn, 1)) ∧ (decode cX11_minutes 32 = .ok (.aload_n 0, 1)) ∧ (decode cX11_minutes 33 = .ok (.getfield 27, 3)) ∧ (decode cX11_minutes 36 = .ok (.getfield 190, 3)) ∧ (decode cX11_minutes 39 = .ok (.iload_n 1, 1)) := by decide +kernel
theorem kd38_29 : (decode cX11_minutes 40 = .ok (.aaload, 1)) ∧ (decode cX11_minutes 41 = .ok (.iload_n 2, 1)) ∧ (decode cX11_minutes 42 = .ok (.iload_n 3, 1)) ∧ (decode cX11_minutes 43 = .ok (.iastore, 1)) ∧ (decode cX11_minutes 44 = .ok (.aload_n 0, 1)) ∧ (decode cX11_minutes 45 = .ok (.getfield 27, 3)) ∧ (decode cX11_minutes 48 = .ok (.getfield 190, 3)) ∧ (decode cX11_minutes 51 = .ok (.iload_n 2, 1)) ∧ (decode cX11_minutes 52 = .ok (.aaload, 1)) ∧ (decode cX11_minutes 53 = .ok (.iload_n 1, 1)) ∧ (decode cX11_minutes 54 = .ok (.iload_n 3, 1)) ∧ (decode cX11_minutes 55 = .ok (.iastore, 1)) := by decide +kernel
theorem kd38_30 : (decode cX11_minutes 56 = .ok (.iconst 1, 1)) ∧ (decode cX11_minutes 57 = .ok (.ireturn, 1)) ∧ (decode cX11_owner 0 = .ok (.iload_n 1, 1)) ∧ (decode cX11_owner 1 = .ok (.invokestatic 142, 3)) ∧ (decode cX11_owner 4 = .ok (.ifCond .eq 19, 3)) ∧ (decode cX11_owner 7 = .ok (.iload_n 2, 1)) ∧ (decode cX11_owner 8 = .ok (.iconst (-1), 1)) ∧ (decode cX11_owner 9 = .ok (.if_icmp .eq 16, 3)) ∧ (decode cX11_owner 12 = .ok (.aload_n 0, 1)) ∧ (decode cX11_owner 13 = .ok (.getfield 19, 3)) ∧ (decode cX11_owner 16 = .ok (.iload_n 2, 1)) ∧ (decode cX11_owner 17 = .ok (.invokevirtual 132, 3)) := by decide +kernel
theorem kd38_31 : (decode cX11_owner 20 = .ok (.ifCond .ne 5, 3)) ∧ (decode cX11_owner 23 = .ok (.iconst 0, 1)) ∧ (decode cX11_owner 24 = .ok (.ireturn, 1)) ∧ (decode cX11_owner 25 = .ok (.aload_n 0, 1)) ∧ (decode cX11_owner 26 = .ok (.getfield 27, 3)) ∧ (decode cX11_owner 29 = .ok (.getfield 145, 3)) ∧ (decode cX11_owner 32 = .ok (.iload_n 1, 1)) ∧ (decode cX11_owner 33 = .ok (.iload_n 2, 1)) ∧ (decode cX11_owner 34 = .ok (.iastore, 1)) ∧ (decode cX11_owner 35 = .ok (.iconst 1, 1)) ∧ (decode cX11_owner 36 = .ok (.ireturn, 1)) ∧ (decode cX11_partedAt 0 = .ok (.iload_n 1, 1)) := by decide +kernel
theorem kd38_32 : (decode cX11_partedAt 1 = .ok (.iconst 0, 1)) ∧ (decode cX11_partedAt 2 = .ok (.aload_n 0, 1)) ∧ (decode cX11_partedAt 3 = .ok (.getfield 76, 3)) ∧ (decode cX11_partedAt 6 = .ok (.getfield 330, 3)) ∧ (decode cX11_partedAt 9 = .ok (.iconst 1, 1)) ∧ (decode cX11_partedAt 10 = .ok (.isub, 1)) ∧ (decode cX11_partedAt 11 = .ok (.invokestatic 115, 3)) ∧ (decode cX11_partedAt 14 = .ok (.ifCond .eq 15, 3)) ∧ (decode cX11_partedAt 17 = .ok (.aload_n 0, 1)) ∧ (decode cX11_partedAt 18 = .ok (.getfield 76, 3)) ∧ (decode cX11_partedAt 21 = .ok (.getfield 333, 3)) ∧ (decode cX11_partedAt 24 = .ok (.iload_n 1, 1)) := by decide +kernel
theorem kd38_33 : (decode cX11_partedAt 25 = .ok (.iaload, 1)) ∧ (decode cX11_partedAt 26 = .ok (.goto 4, 3)) ∧ (decode cX11_partedAt 29 = .ok (.iconst (-1), 1)) ∧ (decode cX11_partedAt 30 = .ok (.ireturn, 1)) ∧ (decode cX11_shortOf 0 = .ok (.aload_n 0, 1)) ∧ (decode cX11_shortOf 1 = .ok (.getfield 31, 3)) ∧ (decode cX11_shortOf 4 = .ok (.iload_n 1, 1)) ∧ (decode cX11_shortOf 5 = .ok (.aload_n 0, 1)) ∧ (decode cX11_shortOf 6 = .ok (.getfield 83, 3)) ∧ (decode cX11_shortOf 9 = .ok (.aload_n 0, 1)) ∧ (decode cX11_shortOf 10 = .ok (.getfield 19, 3)) ∧ (decode cX11_shortOf 13 = .ok (.invokevirtual 290, 3)) := by decide +kernel
theorem kd38_34 : (decode cX11_shortOf 16 = .ok (.ireturn, 1)) ∧ (decode cX11_sky 0 = .ok (.iload_n 1, 1)) ∧ (decode cX11_sky 1 = .ok (.invokestatic 159, 3)) ∧ (decode cX11_sky 4 = .ok (.ifCond .eq 15, 3)) ∧ (decode cX11_sky 7 = .ok (.aload_n 0, 1)) ∧ (decode cX11_sky 8 = .ok (.getfield 27, 3)) ∧ (decode cX11_sky 11 = .ok (.getfield 162, 3)) ∧ (decode cX11_sky 14 = .ok (.iload_n 1, 1)) ∧ (decode cX11_sky 15 = .ok (.iaload, 1)) ∧ (decode cX11_sky 16 = .ok (.goto 4, 3)) ∧ (decode cX11_sky 19 = .ok (.iconst (-1), 1)) ∧ (decode cX11_sky 20 = .ok (.ireturn, 1)) := by decide +kernel
theorem kd38_35 : (decode cX11_strike 0 = .ok (.iconst (-1), 1)) ∧ (decode cX11_strike 1 = .ok (.istore 6, 2)) ∧ (decode cX11_strike 3 = .ok (.iload_n 1, 1)) ∧ (decode cX11_strike 4 = .ok (.invokestatic 349, 3)) ∧ (decode cX11_strike 7 = .ok (.ifCond .eq 76, 3)) ∧ (decode cX11_strike 10 = .ok (.iload_n 2, 1)) ∧ (decode cX11_strike 11 = .ok (.invokestatic 349, 3)) ∧ (decode cX11_strike 14 = .ok (.ifCond .eq 69, 3)) ∧ (decode cX11_strike 17 = .ok (.iload_n 3, 1)) ∧ (decode cX11_strike 18 = .ok (.invokestatic 349, 3)) ∧ (decode cX11_strike 21 = .ok (.ifCond .eq 62, 3)) ∧ (decode cX11_strike 24 = .ok (.iload 4, 2)) := by decide +kernel
theorem kd38_36 : (decode cX11_strike 26 = .ok (.invokestatic 349, 3)) ∧ (decode cX11_strike 29 = .ok (.ifCond .eq 54, 3)) ∧ (decode cX11_strike 32 = .ok (.iload 5, 2)) ∧ (decode cX11_strike 34 = .ok (.invokestatic 349, 3)) ∧ (decode cX11_strike 37 = .ok (.ifCond .eq 46, 3)) ∧ (decode cX11_strike 40 = .ok (.aload_n 0, 1)) ∧ (decode cX11_strike 41 = .ok (.getfield 10, 3)) ∧ (decode cX11_strike 44 = .ok (.getfield 102, 3)) ∧ (decode cX11_strike 47 = .ok (.iconst 2, 1)) ∧ (decode cX11_strike 48 = .ok (.irem, 1)) ∧ (decode cX11_strike 49 = .ok (.ifCond .ne 34, 3)) ∧ (decode cX11_strike 52 = .ok (.aload_n 0, 1)) := by decide +kernel
theorem kd38_37 : (decode cX11_strike 53 = .ok (.getfield 10, 3)) ∧ (decode cX11_strike 56 = .ok (.getfield 102, 3)) ∧ (decode cX11_strike 59 = .ok (.iconst 2, 1)) ∧ (decode cX11_strike 60 = .ok (.idiv, 1)) ∧ (decode cX11_strike 61 = .ok (.iconst 1, 1)) ∧ (decode cX11_strike 62 = .ok (.bipush 50, 2)) ∧ (decode cX11_strike 64 = .ok (.invokestatic 115, 3)) ∧ (decode cX11_strike 67 = .ok (.ifCond .eq 16, 3)) ∧ (decode cX11_strike 70 = .ok (.aload_n 0, 1)) ∧ (decode cX11_strike 71 = .ok (.iload_n 1, 1)) ∧ (decode cX11_strike 72 = .ok (.iload_n 2, 1)) ∧ (decode cX11_strike 73 = .ok (.iload_n 3, 1)) := by decide +kernel
theorem kd38_38 : (decode cX11_strike 74 = .ok (.iload 4, 2)) ∧ (decode cX11_strike 76 = .ok (.iload 5, 2)) ∧ (decode cX11_strike 78 = .ok (.invokevirtual 352, 3)) ∧ (decode cX11_strike 81 = .ok (.istore 6, 2)) ∧ (decode cX11_strike 83 = .ok (.aload_n 0, 1)) ∧ (decode cX11_strike 84 = .ok (.getfield 10, 3)) ∧ (decode cX11_strike 87 = .ok (.iconst 0, 1)) ∧ (decode cX11_strike 88 = .ok (.putfield 102, 3)) ∧ (decode cX11_strike 91 = .ok (.iload 6, 2)) ∧ (decode cX11_strike 93 = .ok (.ireturn, 1)) ∧ (decode cX11_strikeEnds 0 = .ok (.aload_n 0, 1)) ∧ (decode cX11_strikeEnds 1 = .ok (.iload_n 2, 1)) := by decide +kernel
theorem kd38_39 : (decode cX11_strikeEnds 2 = .ok (.putfield 96, 3)) ∧ (decode cX11_strikeEnds 5 = .ok (.aload_n 0, 1)) ∧ (decode cX11_strikeEnds 6 = .ok (.iload_n 3, 1)) ∧ (decode cX11_strikeEnds 7 = .ok (.putfield 99, 3)) ∧ (decode cX11_strikeEnds 10 = .ok (.iload_n 1, 1)) ∧ (decode cX11_strikeEnds 11 = .ok (.ireturn, 1)) ∧ (decode cX11_strikeWeek 0 = .ok (.aload_n 0, 1)) ∧ (decode cX11_strikeWeek 1 = .ok (.getfield 10, 3)) ∧ (decode cX11_strikeWeek 4 = .ok (.getfield 102, 3)) ∧ (decode cX11_strikeWeek 7 = .ok (.iconst 2, 1)) ∧ (decode cX11_strikeWeek 8 = .ok (.idiv, 1)) ∧ (decode cX11_strikeWeek 9 = .ok (.istore 6, 2)) := by decide +kernel
theorem kd38_40 : (decode cX11_strikeWeek 11 = .ok (.iload_n 1, 1)) ∧ (decode cX11_strikeWeek 12 = .ok (.istore 7, 2)) ∧ (decode cX11_strikeWeek 14 = .ok (.iload 4, 2)) ∧ (decode cX11_strikeWeek 16 = .ok (.istore 8, 2)) ∧ (decode cX11_strikeWeek 18 = .ok (.iconst 0, 1)) ∧ (decode cX11_strikeWeek 19 = .ok (.istore 9, 2)) ∧ (decode cX11_strikeWeek 21 = .ok (.iload 9, 2)) ∧ (decode cX11_strikeWeek 23 = .ok (.iload 6, 2)) ∧ (decode cX11_strikeWeek 25 = .ok (.if_icmp .ge 104, 3)) ∧ (decode cX11_strikeWeek 28 = .ok (.iload 7, 2)) ∧ (decode cX11_strikeWeek 30 = .ok (.iload_n 2, 1)) ∧ (decode cX11_strikeWeek 31 = .ok (.iload_n 3, 1)) := by decide +kernel
theorem kd38_41 : (decode cX11_strikeWeek 32 = .ok (.iload 9, 2)) ∧ (decode cX11_strikeWeek 34 = .ok (.imul, 1)) ∧ (decode cX11_strikeWeek 35 = .ok (.iadd, 1)) ∧ (decode cX11_strikeWeek 36 = .ok (.isub, 1)) ∧ (decode cX11_strikeWeek 37 = .ok (.istore 7, 2)) ∧ (decode cX11_strikeWeek 39 = .ok (.iload 8, 2)) ∧ (decode cX11_strikeWeek 41 = .ok (.iload 5, 2)) ∧ (decode cX11_strikeWeek 43 = .ok (.isub, 1)) ∧ (decode cX11_strikeWeek 44 = .ok (.istore 8, 2)) ∧ (decode cX11_strikeWeek 46 = .ok (.aload_n 0, 1)) ∧ (decode cX11_strikeWeek 47 = .ok (.getfield 10, 3)) ∧ (decode cX11_strikeWeek 50 = .ok (.getfield 362, 3)) := by decide +kernel
theorem kd38_42 : (decode cX11_strikeWeek 53 = .ok (.iconst 2, 1)) ∧ (decode cX11_strikeWeek 54 = .ok (.iload 9, 2)) ∧ (decode cX11_strikeWeek 56 = .ok (.imul, 1)) ∧ (decode cX11_strikeWeek 57 = .ok (.iaload, 1)) ∧ (decode cX11_strikeWeek 58 = .ok (.istore 10, 2)) ∧ (decode cX11_strikeWeek 60 = .ok (.aload_n 0, 1)) ∧ (decode cX11_strikeWeek 61 = .ok (.getfield 10, 3)) ∧ (decode cX11_strikeWeek 64 = .ok (.getfield 362, 3)) ∧ (decode cX11_strikeWeek 67 = .ok (.iconst 2, 1)) ∧ (decode cX11_strikeWeek 68 = .ok (.iload 9, 2)) ∧ (decode cX11_strikeWeek 70 = .ok (.imul, 1)) ∧ (decode cX11_strikeWeek 71 = .ok (.iconst 1, 1)) := by decide +kernel
theorem kd38_43 : (decode cX11_strikeWeek 72 = .ok (.iadd, 1)) ∧ (decode cX11_strikeWeek 73 = .ok (.iaload, 1)) ∧ (decode cX11_strikeWeek 74 = .ok (.istore 11, 2)) ∧ (decode cX11_strikeWeek 76 = .ok (.iload 11, 2)) ∧ (decode cX11_strikeWeek 78 = .ok (.iload 10, 2)) ∧ (decode cX11_strikeWeek 80 = .ok (.if_icmp .gt 13, 3)) ∧ (decode cX11_strikeWeek 83 = .ok (.aload_n 0, 1)) ∧ (decode cX11_strikeWeek 84 = .ok (.iload 9, 2)) ∧ (decode cX11_strikeWeek 86 = .ok (.iconst 0, 1)) ∧ (decode cX11_strikeWeek 87 = .ok (.iload 11, 2)) ∧ (decode cX11_strikeWeek 89 = .ok (.invokevirtual 365, 3)) ∧ (decode cX11_strikeWeek 92 = .ok (.ireturn, 1)) := by decide +kernel
theorem kd38_44 : (decode cX11_strikeWeek 93 = .ok (.iload 7, 2)) ∧ (decode cX11_strikeWeek 95 = .ok (.ifCond .ge 13, 3)) ∧ (decode cX11_strikeWeek 98 = .ok (.aload_n 0, 1)) ∧ (decode cX11_strikeWeek 99 = .ok (.iload 9, 2)) ∧ (decode cX11_strikeWeek 101 = .ok (.iconst 1, 1)) ∧ (decode cX11_strikeWeek 102 = .ok (.iload 11, 2)) ∧ (decode cX11_strikeWeek 104 = .ok (.invokevirtual 365, 3)) ∧ (decode cX11_strikeWeek 107 = .ok (.ireturn, 1)) ∧ (decode cX11_strikeWeek 108 = .ok (.iload 8, 2)) ∧ (decode cX11_strikeWeek 110 = .ok (.ifCond .ge 13, 3)) ∧ (decode cX11_strikeWeek 113 = .ok (.aload_n 0, 1)) ∧ (decode cX11_strikeWeek 114 = .ok (.iload 9, 2)) := by decide +kernel
theorem kd38_45 : (decode cX11_strikeWeek 116 = .ok (.iconst 2, 1)) ∧ (decode cX11_strikeWeek 117 = .ok (.iload 10, 2)) ∧ (decode cX11_strikeWeek 119 = .ok (.invokevirtual 365, 3)) ∧ (decode cX11_strikeWeek 122 = .ok (.ireturn, 1)) ∧ (decode cX11_strikeWeek 123 = .ok (.iinc 9 1, 3)) ∧ (decode cX11_strikeWeek 126 = .ok (.goto (-105), 3)) ∧ (decode cX11_strikeWeek 129 = .ok (.iconst (-1), 1)) ∧ (decode cX11_strikeWeek 130 = .ok (.ireturn, 1)) ∧ (decode cX11_struck 0 = .ok (.iload_n 1, 1)) ∧ (decode cX11_struck 1 = .ok (.ifCond .ne 8, 3)) ∧ (decode cX11_struck 4 = .ok (.aload_n 0, 1)) ∧ (decode cX11_struck 5 = .ok (.getfield 96, 3)) := by decide +kernel
theorem kd38_46 : (decode cX11_struck 8 = .ok (.ireturn, 1)) ∧ (decode cX11_struck 9 = .ok (.iload_n 1, 1)) ∧ (decode cX11_struck 10 = .ok (.iconst 1, 1)) ∧ (decode cX11_struck 11 = .ok (.if_icmp .ne 10, 3)) ∧ (decode cX11_struck 14 = .ok (.aload_n 0, 1)) ∧ (decode cX11_struck 15 = .ok (.getfield 99, 3)) ∧ (decode cX11_struck 18 = .ok (.goto 4, 3)) ∧ (decode cX11_struck 21 = .ok (.iconst (-1), 1)) ∧ (decode cX11_struck 22 = .ok (.ireturn, 1)) ∧ (decode cX11_table 0 = .ok (.iload_n 3, 1)) ∧ (decode cX11_table 1 = .ok (.iconst 0, 1)) ∧ (decode cX11_table 2 = .ok (.sipush 300, 3)) := by decide +kernel
theorem kd38_47 : (decode cX11_table 5 = .ok (.invokestatic 115, 3)) ∧ (decode cX11_table 8 = .ok (.ifCond .ne 5, 3)) ∧ (decode cX11_table 11 = .ok (.iconst 0, 1)) ∧ (decode cX11_table 12 = .ok (.ireturn, 1)) ∧ (decode cX11_table 13 = .ok (.iload_n 1, 1)) ∧ (decode cX11_table 14 = .ok (.ifCond .ne 22, 3)) ∧ (decode cX11_table 17 = .ok (.iload_n 2, 1)) ∧ (decode cX11_table 18 = .ok (.invokestatic 175, 3)) ∧ (decode cX11_table 21 = .ok (.ifCond .eq 15, 3)) ∧ (decode cX11_table 24 = .ok (.aload_n 0, 1)) ∧ (decode cX11_table 25 = .ok (.getfield 27, 3)) ∧ (decode cX11_table 28 = .ok (.getfield 177, 3)) := by decide +kernel
theorem kd38_48 : (decode cX11_table 31 = .ok (.iload_n 2, 1)) ∧ (decode cX11_table 32 = .ok (.iload_n 3, 1)) ∧ (decode cX11_table 33 = .ok (.iastore, 1)) ∧ (decode cX11_table 34 = .ok (.iconst 1, 1)) ∧ (decode cX11_table 35 = .ok (.ireturn, 1)) ∧ (decode cX11_table 36 = .ok (.iload_n 1, 1)) ∧ (decode cX11_table 37 = .ok (.iconst 1, 1)) ∧ (decode cX11_table 38 = .ok (.if_icmp .ne 22, 3)) ∧ (decode cX11_table 41 = .ok (.iload_n 2, 1)) ∧ (decode cX11_table 42 = .ok (.invokestatic 168, 3)) ∧ (decode cX11_table 45 = .ok (.ifCond .eq 15, 3)) ∧ (decode cX11_table 48 = .ok (.aload_n 0, 1)) := by decide +kernel
theorem kd38_49 : (decode cX11_table 49 = .ok (.getfield 27, 3)) ∧ (decode cX11_table 52 = .ok (.getfield 180, 3)) ∧ (decode cX11_table 55 = .ok (.iload_n 2, 1)) ∧ (decode cX11_table 56 = .ok (.iload_n 3, 1)) ∧ (decode cX11_table 57 = .ok (.iastore, 1)) ∧ (decode cX11_table 58 = .ok (.iconst 1, 1)) ∧ (decode cX11_table 59 = .ok (.ireturn, 1)) ∧ (decode cX11_table 60 = .ok (.iconst 0, 1)) ∧ (decode cX11_table 61 = .ok (.ireturn, 1)) ∧ (decode cX11_told 0 = .ok (.aload_n 0, 1)) ∧ (decode cX11_told 1 = .ok (.iconst (-1), 1)) ∧ (decode cX11_told 2 = .ok (.putfield 90, 3)) := by decide +kernel
theorem kd38_50 : (decode cX11_told 5 = .ok (.aload_n 0, 1)) ∧ (decode cX11_told 6 = .ok (.getfield 19, 3)) ∧ (decode cX11_told 9 = .ok (.iload_n 1, 1)) ∧ (decode cX11_told 10 = .ok (.invokevirtual 221, 3)) ∧ (decode cX11_told 13 = .ok (.ifCond .eq 12, 3)) ∧ (decode cX11_told 16 = .ok (.iload_n 2, 1)) ∧ (decode cX11_told 17 = .ok (.iconst 0, 1)) ∧ (decode cX11_told 18 = .ok (.iconst 5, 1)) ∧ (decode cX11_told 19 = .ok (.invokestatic 115, 3)) ∧ (decode cX11_told 22 = .ok (.ifCond .ne 5, 3)) ∧ (decode cX11_told 25 = .ok (.iconst (-1), 1)) ∧ (decode cX11_told 26 = .ok (.ireturn, 1)) := by decide +kernel
theorem kd38_51 : (decode cX11_told 27 = .ok (.aload_n 0, 1)) ∧ (decode cX11_told 28 = .ok (.getfield 19, 3)) ∧ (decode cX11_told 31 = .ok (.getfield 205, 3)) ∧ (decode cX11_told 34 = .ok (.iload_n 1, 1)) ∧ (decode cX11_told 35 = .ok (.invokevirtual 135, 3)) ∧ (decode cX11_told 38 = .ok (.checkcast 208, 3)) ∧ (decode cX11_told 41 = .ok (.astore_n 3, 1)) ∧ (decode cX11_told 42 = .ok (.aload_n 0, 1)) ∧ (decode cX11_told 43 = .ok (.aload_n 3, 1)) ∧ (decode cX11_told 44 = .ok (.getfield 224, 3)) ∧ (decode cX11_told 47 = .ok (.invokevirtual 213, 3)) ∧ (decode cX11_told 50 = .ok (.astore 4, 2)) := by decide +kernel
theorem kd38_52 : (decode cX11_told 52 = .ok (.aload_n 0, 1)) ∧ (decode cX11_told 53 = .ok (.getfield 19, 3)) ∧ (decode cX11_told 56 = .ok (.aload_n 3, 1)) ∧ (decode cX11_told 57 = .ok (.invokevirtual 227, 3)) ∧ (decode cX11_told 60 = .ok (.aload_n 0, 1)) ∧ (decode cX11_told 61 = .ok (.aload 4, 2)) ∧ (decode cX11_told 63 = .ok (.iload_n 2, 1)) ∧ (decode cX11_told 64 = .ok (.aload_n 0, 1)) ∧ (decode cX11_told 65 = .ok (.getfield 19, 3)) ∧ (decode cX11_told 68 = .ok (.getfield 231, 3)) ∧ (decode cX11_told 71 = .ok (.invokevirtual 234, 3)) ∧ (decode cX11_told 74 = .ok (.putfield 90, 3)) := by decide +kernel
theorem kd38_53 : (decode cX11_told 77 = .ok (.aload 4, 2)) ∧ (decode cX11_told 79 = .ok (.aload_n 0, 1)) ∧ (decode cX11_told 80 = .ok (.getfield 90, 3)) ∧ (decode cX11_told 83 = .ok (.iload_n 2, 1)) ∧ (decode cX11_told 84 = .ok (.invokevirtual 238, 3)) ∧ (decode cX11_told 87 = .ok (.ireturn, 1)) ∧ (decode cX11_triedEaten 0 = .ok (.aload_n 0, 1)) ∧ (decode cX11_triedEaten 1 = .ok (.getfield 93, 3)) ∧ (decode cX11_triedEaten 4 = .ok (.ireturn, 1)) ∧ (decode cX11_truckAt 0 = .ok (.iload_n 1, 1)) ∧ (decode cX11_truckAt 1 = .ok (.iconst 0, 1)) ∧ (decode cX11_truckAt 2 = .ok (.aload_n 0, 1)) := by decide +kernel
theorem kd38_54 : (decode cX11_truckAt 3 = .ok (.getfield 69, 3)) ∧ (decode cX11_truckAt 6 = .ok (.getfield 343, 3)) ∧ (decode cX11_truckAt 9 = .ok (.iconst 1, 1)) ∧ (decode cX11_truckAt 10 = .ok (.isub, 1)) ∧ (decode cX11_truckAt 11 = .ok (.invokestatic 115, 3)) ∧ (decode cX11_truckAt 14 = .ok (.ifCond .eq 15, 3)) ∧ (decode cX11_truckAt 17 = .ok (.aload_n 0, 1)) ∧ (decode cX11_truckAt 18 = .ok (.getfield 69, 3)) ∧ (decode cX11_truckAt 21 = .ok (.getfield 346, 3)) ∧ (decode cX11_truckAt 24 = .ok (.iload_n 1, 1)) ∧ (decode cX11_truckAt 25 = .ok (.iaload, 1)) ∧ (decode cX11_truckAt 26 = .ok (.goto 4, 3)) := by decide +kernel
theorem kd38_55 : (decode cX11_truckAt 29 = .ok (.iconst (-1), 1)) ∧ (decode cX11_truckAt 30 = .ok (.ireturn, 1)) ∧ (decode cX11_want 0 = .ok (.iload_n 1, 1)) ∧ (decode cX11_want 1 = .ok (.invokestatic 142, 3)) ∧ (decode cX11_want 4 = .ok (.ifCond .eq 21, 3)) ∧ (decode cX11_want 7 = .ok (.iload_n 2, 1)) ∧ (decode cX11_want 8 = .ok (.invokestatic 165, 3)) ∧ (decode cX11_want 11 = .ok (.ifCond .eq 14, 3)) ∧ (decode cX11_want 14 = .ok (.iload_n 3, 1)) ∧ (decode cX11_want 15 = .ok (.iconst 0, 1)) ∧ (decode cX11_want 16 = .ok (.sipush 400, 3)) ∧ (decode cX11_want 19 = .ok (.invokestatic 115, 3)) := by decide +kernel
theorem kd38_56 : (decode cX11_want 22 = .ok (.ifCond .ne 5, 3)) ∧ (decode cX11_want 25 = .ok (.iconst 0, 1)) ∧ (decode cX11_want 26 = .ok (.ireturn, 1)) ∧ (decode cX11_want 27 = .ok (.aload_n 0, 1)) ∧ (decode cX11_want 28 = .ok (.getfield 27, 3)) ∧ (decode cX11_want 31 = .ok (.getfield 183, 3)) ∧ (decode cX11_want 34 = .ok (.iload_n 1, 1)) ∧ (decode cX11_want 35 = .ok (.aaload, 1)) ∧ (decode cX11_want 36 = .ok (.iload_n 2, 1)) ∧ (decode cX11_want 37 = .ok (.iload_n 3, 1)) ∧ (decode cX11_want 38 = .ok (.iastore, 1)) ∧ (decode cX11_want 39 = .ok (.iconst 1, 1)) := by decide +kernel
theorem kd38_57 : (decode cX11_want 40 = .ok (.ireturn, 1)) ∧ (decode cX11_weather 0 = .ok (.aload_n 0, 1)) ∧ (decode cX11_weather 1 = .ok (.getfield 10, 3)) ∧ (decode cX11_weather 4 = .ok (.getfield 102, 3)) ∧ (decode cX11_weather 7 = .ok (.iconst 1, 1)) ∧ (decode cX11_weather 8 = .ok (.sipush 400, 3)) ∧ (decode cX11_weather 11 = .ok (.invokestatic 115, 3)) ∧ (decode cX11_weather 14 = .ok (.ifCond .eq 17, 3)) ∧ (decode cX11_weather 17 = .ok (.aload_n 0, 1)) ∧ (decode cX11_weather 18 = .ok (.getfield 10, 3)) ∧ (decode cX11_weather 21 = .ok (.invokevirtual 151, 3)) ∧ (decode cX11_weather 24 = .ok (.ifCond .eq 7, 3)) := by decide +kernel
theorem kd38_58 : (decode cX11_weather 27 = .ok (.iconst 1, 1)) ∧ (decode cX11_weather 28 = .ok (.goto 4, 3)) ∧ (decode cX11_weather 31 = .ok (.iconst 0, 1)) ∧ (decode cX11_weather 32 = .ok (.istore_n 1, 1)) ∧ (decode cX11_weather 33 = .ok (.iload_n 1, 1)) ∧ (decode cX11_weather 34 = .ok (.ifCond .eq 14, 3)) ∧ (decode cX11_weather 37 = .ok (.aload_n 0, 1)) ∧ (decode cX11_weather 38 = .ok (.getfield 27, 3)) ∧ (decode cX11_weather 41 = .ok (.aload_n 0, 1)) ∧ (decode cX11_weather 42 = .ok (.getfield 10, 3)) ∧ (decode cX11_weather 45 = .ok (.invokevirtual 155, 3)) ∧ (decode cX11_weather 48 = .ok (.aload_n 0, 1)) := by decide +kernel
theorem kd38_59 : (decode cX11_weather 49 = .ok (.getfield 10, 3)) ∧ (decode cX11_weather 52 = .ok (.iconst 0, 1)) ∧ (decode cX11_weather 53 = .ok (.putfield 102, 3)) ∧ (decode cX11_weather 56 = .ok (.iload_n 1, 1)) ∧ (decode cX11_weather 57 = .ok (.ireturn, 1)) ∧ (decode cX11_why 0 = .ok (.aload_n 0, 1)) ∧ (decode cX11_why 1 = .ok (.getfield 90, 3)) ∧ (decode cX11_why 4 = .ok (.ireturn, 1)) ∧ (decode cX2_learn 0 = .ok (.aload_n 0, 1)) ∧ (decode cX2_learn 1 = .ok (.iconst 0, 1)) ∧ (decode cX2_learn 2 = .ok (.putfield 18, 3)) ∧ (decode cX2_learn 5 = .ok (.iconst 0, 1)) := by decide +kernel
theorem kd38_60 : (decode cX2_learn 6 = .ok (.istore 5, 2)) ∧ (decode cX2_learn 8 = .ok (.iload 5, 2)) ∧ (decode cX2_learn 10 = .ok (.iconst 4, 1)) ∧ (decode cX2_learn 11 = .ok (.if_icmp .ge 91, 3)) ∧ (decode cX2_learn 14 = .ok (.iconst 0, 1)) ∧ (decode cX2_learn 15 = .ok (.istore 6, 2)) ∧ (decode cX2_learn 17 = .ok (.iload 6, 2)) ∧ (decode cX2_learn 19 = .ok (.bipush 6, 2)) ∧ (decode cX2_learn 21 = .ok (.if_icmp .ge 75, 3)) ∧ (decode cX2_learn 24 = .ok (.aload 4, 2)) ∧ (decode cX2_learn 26 = .ok (.getfield 26, 3)) ∧ (decode cX2_learn 29 = .ok (.iload 5, 2)) := by decide +kernel
theorem kd38_61 : (decode cX2_learn 31 = .ok (.iaload, 1)) ∧ (decode cX2_learn 32 = .ok (.aload 4, 2)) ∧ (decode cX2_learn 34 = .ok (.getfield 26, 3)) ∧ (decode cX2_learn 37 = .ok (.iconst 4, 1)) ∧ (decode cX2_learn 38 = .ok (.iload 6, 2)) ∧ (decode cX2_learn 40 = .ok (.iadd, 1)) ∧ (decode cX2_learn 41 = .ok (.iaload, 1)) ∧ (decode cX2_learn 42 = .ok (.imul, 1)) ∧ (decode cX2_learn 43 = .ok (.istore 7, 2)) ∧ (decode cX2_learn 45 = .ok (.iload 7, 2)) ∧ (decode cX2_learn 47 = .ok (.ifCond .le 43, 3)) ∧ (decode cX2_learn 50 = .ok (.aload_n 0, 1)) := by decide +kernel
theorem kd38_62 : (decode cX2_learn 51 = .ok (.getfield 9, 3)) ∧ (decode cX2_learn 54 = .ok (.aload_n 0, 1)) ∧ (decode cX2_learn 55 = .ok (.getfield 18, 3)) ∧ (decode cX2_learn 58 = .ok (.aload_n 1, 1)) ∧ (decode cX2_learn 59 = .ok (.iload_n 2, 1)) ∧ (decode cX2_learn 60 = .ok (.iload_n 3, 1)) ∧ (decode cX2_learn 61 = .ok (.iload 5, 2)) ∧ (decode cX2_learn 63 = .ok (.iload 6, 2)) ∧ (decode cX2_learn 65 = .ok (.invokevirtual 31, 3)) ∧ (decode cX2_learn 68 = .ok (.iastore, 1)) ∧ (decode cX2_learn 69 = .ok (.aload_n 0, 1)) ∧ (decode cX2_learn 70 = .ok (.getfield 15, 3)) := by decide +kernel
theorem kd38_63 : (decode cX2_learn 73 = .ok (.aload_n 0, 1)) ∧ (decode cX2_learn 74 = .ok (.getfield 18, 3)) ∧ (decode cX2_learn 77 = .ok (.iload 7, 2)) ∧ (decode cX2_learn 79 = .ok (.iastore, 1)) ∧ (decode cX2_learn 80 = .ok (.aload_n 0, 1)) ∧ (decode cX2_learn 81 = .ok (.dup, 1)) ∧ (decode cX2_learn 82 = .ok (.getfield 18, 3)) ∧ (decode cX2_learn 85 = .ok (.iconst 1, 1)) ∧ (decode cX2_learn 86 = .ok (.iadd, 1)) ∧ (decode cX2_learn 87 = .ok (.putfield 18, 3)) ∧ (decode cX2_learn 90 = .ok (.iinc 6 1, 3)) ∧ (decode cX2_learn 93 = .ok (.goto (-76), 3)) := by decide +kernel
theorem kd38_64 : (decode cX2_learn 96 = .ok (.iinc 5 1, 3)) ∧ (decode cX2_learn 99 = .ok (.goto (-91), 3)) ∧ (decode cX2_learn 102 = .ok (.return_, 1)) ∧ (decode cX6_findRest 0 = .ok (.iconst 1, 1)) ∧ (decode cX6_findRest 1 = .ok (.aload_n 0, 1)) ∧ (decode cX6_findRest 2 = .ok (.getfield 9, 3)) ∧ (decode cX6_findRest 5 = .ok (.ishl, 1)) ∧ (decode cX6_findRest 6 = .ok (.iconst 1, 1)) ∧ (decode cX6_findRest 7 = .ok (.isub, 1)) ∧ (decode cX6_findRest 8 = .ok (.istore_n 1, 1)) ∧ (decode cX6_findRest 9 = .ok (.aload_n 0, 1)) ∧ (decode cX6_findRest 10 = .ok (.getfield 31, 3)) := by decide +kernel
theorem kd38_65 : (decode cX6_findRest 13 = .ok (.iload_n 1, 1)) ∧ (decode cX6_findRest 14 = .ok (.iconst 0, 1)) ∧ (decode cX6_findRest 15 = .ok (.iastore, 1)) ∧ (decode cX6_findRest 16 = .ok (.iload_n 1, 1)) ∧ (decode cX6_findRest 17 = .ok (.iconst 1, 1)) ∧ (decode cX6_findRest 18 = .ok (.isub, 1)) ∧ (decode cX6_findRest 19 = .ok (.istore_n 2, 1)) ∧ (decode cX6_findRest 20 = .ok (.iload_n 2, 1)) ∧ (decode cX6_findRest 21 = .ok (.ifCond .lt 83, 3)) ∧ (decode cX6_findRest 24 = .ok (.iload_n 2, 1)) ∧ (decode cX6_findRest 25 = .ok (.invokestatic 84, 3)) ∧ (decode cX6_findRest 28 = .ok (.istore_n 3, 1)) := by decide +kernel
theorem kd38_66 : (decode cX6_findRest 29 = .ok (.iconst 0, 1)) ∧ (decode cX6_findRest 30 = .ok (.istore 4, 2)) ∧ (decode cX6_findRest 32 = .ok (.iconst 0, 1)) ∧ (decode cX6_findRest 33 = .ok (.istore 5, 2)) ∧ (decode cX6_findRest 35 = .ok (.iload 5, 2)) ∧ (decode cX6_findRest 37 = .ok (.aload_n 0, 1)) ∧ (decode cX6_findRest 38 = .ok (.getfield 9, 3)) ∧ (decode cX6_findRest 41 = .ok (.if_icmp .ge 49, 3)) ∧ (decode cX6_findRest 44 = .ok (.iload_n 2, 1)) ∧ (decode cX6_findRest 45 = .ok (.iload 5, 2)) ∧ (decode cX6_findRest 47 = .ok (.ishr, 1)) ∧ (decode cX6_findRest 48 = .ok (.iconst 1, 1)) := by decide +kernel
theorem kd38_67 : (decode cX6_findRest 49 = .ok (.iand, 1)) ∧ (decode cX6_findRest 50 = .ok (.ifCond .ne 34, 3)) ∧ (decode cX6_findRest 53 = .ok (.iload 4, 2)) ∧ (decode cX6_findRest 55 = .ok (.aload_n 0, 1)) ∧ (decode cX6_findRest 56 = .ok (.getfield 15, 3)) ∧ (decode cX6_findRest 59 = .ok (.iload_n 3, 1)) ∧ (decode cX6_findRest 60 = .ok (.bipush 8, 2)) ∧ (decode cX6_findRest 62 = .ok (.imul, 1)) ∧ (decode cX6_findRest 63 = .ok (.iload 5, 2)) ∧ (decode cX6_findRest 65 = .ok (.iadd, 1)) ∧ (decode cX6_findRest 66 = .ok (.iaload, 1)) ∧ (decode cX6_findRest 67 = .ok (.aload_n 0, 1)) := by decide +kernel
theorem kd38_68 : (decode cX6_findRest 68 = .ok (.getfield 31, 3)) ∧ (decode cX6_findRest 71 = .ok (.iload_n 2, 1)) ∧ (decode cX6_findRest 72 = .ok (.iconst 1, 1)) ∧ (decode cX6_findRest 73 = .ok (.iload 5, 2)) ∧ (decode cX6_findRest 75 = .ok (.ishl, 1)) ∧ (decode cX6_findRest 76 = .ok (.ior, 1)) ∧ (decode cX6_findRest 77 = .ok (.iaload, 1)) ∧ (decode cX6_findRest 78 = .ok (.iadd, 1)) ∧ (decode cX6_findRest 79 = .ok (.invokestatic 89, 3)) ∧ (decode cX6_findRest 82 = .ok (.istore 4, 2)) ∧ (decode cX6_findRest 84 = .ok (.iinc 5 1, 3)) ∧ (decode cX6_findRest 87 = .ok (.goto (-52), 3)) := by decide +kernel
theorem kd38_69 : (decode cX6_findRest 90 = .ok (.aload_n 0, 1)) ∧ (decode cX6_findRest 91 = .ok (.getfield 31, 3)) ∧ (decode cX6_findRest 94 = .ok (.iload_n 2, 1)) ∧ (decode cX6_findRest 95 = .ok (.iload 4, 2)) ∧ (decode cX6_findRest 97 = .ok (.iastore, 1)) ∧ (decode cX6_findRest 98 = .ok (.iinc 2 (-1), 3)) ∧ (decode cX6_findRest 101 = .ok (.goto (-81), 3)) ∧ (decode cX6_findRest 104 = .ok (.return_, 1)) ∧ (decode cX6_partBest 0 = .ok (.aload_n 0, 1)) ∧ (decode cX6_partBest 1 = .ok (.iload_n 1, 1)) ∧ (decode cX6_partBest 2 = .ok (.invokevirtual 73, 3)) ∧ (decode cX6_partBest 5 = .ok (.aload_n 0, 1)) := by decide +kernel
theorem kd38_70 : (decode cX6_partBest 6 = .ok (.invokevirtual 77, 3)) ∧ (decode cX6_partBest 9 = .ok (.aload_n 0, 1)) ∧ (decode cX6_partBest 10 = .ok (.iconst (-1), 1)) ∧ (decode cX6_partBest 11 = .ok (.putfield 42, 3)) ∧ (decode cX6_partBest 14 = .ok (.aload_n 0, 1)) ∧ (decode cX6_partBest 15 = .ok (.iconst 0, 1)) ∧ (decode cX6_partBest 16 = .ok (.iconst 0, 1)) ∧ (decode cX6_partBest 17 = .ok (.iconst 0, 1)) ∧ (decode cX6_partBest 18 = .ok (.lconst 0, 1)) ∧ (decode cX6_partBest 19 = .ok (.invokevirtual 80, 3)) ∧ (decode cX6_partBest 22 = .ok (.aload_n 0, 1)) ∧ (decode cX6_partBest 23 = .ok (.getfield 42, 3)) := by decide +kernel
theorem kd38_71 : (decode cX6_partBest 26 = .ok (.ireturn, 1)) := by decide +kernel
theorem fl_X11_102_10 : xF RX11 102 10 1 .int false := ⟨by decide, RX9, TX9, 2, tyX9, "PaperBoys$Tape", rfl, inlX9, tyX9_ok, nmX9, by decide, rfl, rfl, m_10_20, Or.inl rfl⟩
theorem fl_X11_109_6 : xF RX11 109 6 1 (.object "java/util/ArrayList") true := ⟨by decide, RX5, TX5, 8, tyX5, "PaperBoys$Market", rfl, inlX5, tyX5_ok, nmX5, by decide, rfl, rfl, m_11_23, Or.inl rfl⟩
theorem fl_X11_10_12 : xF RX11 10 12 0 (.object "PaperBoys$Tape") true := ⟨by decide, RX11, TX11, 18, tyX11, "PaperBoys", rfl, inlX11, tyX11_ok, nmX11, by decide, rfl, rfl, m_1_16, Or.inl rfl⟩
theorem fl_X11_139_1 : xF RX11 139 1 4 .int false := ⟨by decide, RX0, TX0, 6, tyX0, "PaperBoys$Boy", rfl, inlX0, tyX0_ok, nmX0, by decide, rfl, rfl, m_15_20, Or.inl rfl⟩
theorem fl_X11_145_4 : xF RX11 145 4 5 (.array .int) true := ⟨by decide, RX3, TX3, 7, tyX3, "PaperBoys$City", rfl, inlX3, tyX3_ok, nmX3, by decide, rfl, rfl, m_17_6, Or.inl rfl⟩
theorem fl_X11_162_4 : xF RX11 162 4 0 (.array .int) true := ⟨by decide, RX3, TX3, 7, tyX3, "PaperBoys$City", rfl, inlX3, tyX3_ok, nmX3, by decide, rfl, rfl, m_18_20, Or.inl rfl⟩
theorem fl_X11_171_4 : xF RX11 171 4 1 (.array (.array .int)) true := ⟨by decide, RX3, TX3, 7, tyX3, "PaperBoys$City", rfl, inlX3, tyX3_ok, nmX3, by decide, rfl, rfl, m_19_12, Or.inl rfl⟩
theorem fl_X11_177_4 : xF RX11 177 4 2 (.array .int) true := ⟨by decide, RX3, TX3, 7, tyX3, "PaperBoys$City", rfl, inlX3, tyX3_ok, nmX3, by decide, rfl, rfl, m_20_7, Or.inl rfl⟩
theorem fl_X11_180_4 : xF RX11 180 4 3 (.array .int) true := ⟨by decide, RX3, TX3, 7, tyX3, "PaperBoys$City", rfl, inlX3, tyX3_ok, nmX3, by decide, rfl, rfl, m_20_8, Or.inl rfl⟩
theorem fl_X11_183_4 : xF RX11 183 4 4 (.array (.array .int)) true := ⟨by decide, RX3, TX3, 7, tyX3, "PaperBoys$City", rfl, inlX3, tyX3_ok, nmX3, by decide, rfl, rfl, m_20_20, Or.inl rfl⟩
theorem fl_X11_190_4 : xF RX11 190 4 6 (.array (.array .int)) true := ⟨by decide, RX3, TX3, 7, tyX3, "PaperBoys$City", rfl, inlX3, tyX3_ok, nmX3, by decide, rfl, rfl, m_21_21, Or.inl rfl⟩
theorem fl_X11_19_12 : xF RX11 19 12 1 (.object "PaperBoys$Market") true := ⟨by decide, RX11, TX11, 18, tyX11, "PaperBoys", rfl, inlX11, tyX11_ok, nmX11, by decide, rfl, rfl, m_1_20, Or.inl rfl⟩
theorem fl_X11_205_6 : xF RX11 205 6 2 (.object "java/util/ArrayList") true := ⟨by decide, RX5, TX5, 8, tyX5, "PaperBoys$Market", rfl, inlX5, tyX5_ok, nmX5, by decide, rfl, rfl, m_32_21, Or.inl rfl⟩
theorem fl_X11_224_2 : xF RX11 224 2 5 .int true := ⟨by decide, RX1, TX1, 11, tyX1, "PaperBoys$Bundle", rfl, inlX1, tyX1_ok, nmX1, by decide, rfl, rfl, m_37_9, Or.inl rfl⟩
theorem fl_X11_231_6 : xF RX11 231 6 4 (.array .int) true := ⟨by decide, RX5, TX5, 8, tyX5, "PaperBoys$Market", rfl, inlX5, tyX5_ok, nmX5, by decide, rfl, rfl, m_37_10, Or.inl rfl⟩
theorem fl_X11_278_5 : xF RX11 278 5 3 .int false := ⟨by decide, RX4, TX4, 4, tyX4, "PaperBoys$Ledger", rfl, inlX4, tyX4_ok, nmX4, by decide, rfl, rfl, m_43_3, Or.inl rfl⟩
theorem fl_X11_27_12 : xF RX11 27 12 2 (.object "PaperBoys$City") true := ⟨by decide, RX11, TX11, 18, tyX11, "PaperBoys", rfl, inlX11, tyX11_ok, nmX11, by decide, rfl, rfl, m_1_22, Or.inl rfl⟩
theorem fl_X11_303_3 : xF RX11 303 3 3 .long false := ⟨by decide, RX2, TX2, 4, tyX2, "PaperBoys$Chances", rfl, inlX2, tyX2_ok, nmX2, by decide, rfl, rfl, m_47_9, Or.inl rfl⟩
theorem fl_X11_31_12 : xF RX11 31 12 3 (.object "PaperBoys$Ledger") true := ⟨by decide, RX11, TX11, 18, tyX11, "PaperBoys", rfl, inlX11, tyX11_ok, nmX11, by decide, rfl, rfl, m_2_2, Or.inl rfl⟩
theorem fl_X11_330_7 : xF RX11 330 7 0 .int false := ⟨by decide, RX6, TX6, 10, tyX6, "PaperBoys$Parting", rfl, inlX6, tyX6_ok, nmX6, by decide, rfl, rfl, m_52_20, Or.inl rfl⟩
theorem fl_X11_333_7 : xF RX11 333 7 3 (.array .int) true := ⟨by decide, RX6, TX6, 10, tyX6, "PaperBoys$Parting", rfl, inlX6, tyX6_ok, nmX6, by decide, rfl, rfl, m_52_21, Or.inl rfl⟩
theorem fl_X11_343_9 : xF RX11 343 9 5 .int false := ⟨by decide, RX8, TX8, 6, tyX8, "PaperBoys$Route", rfl, inlX8, tyX8_ok, nmX8, by decide, rfl, rfl, m_56_6, Or.inl rfl⟩
theorem fl_X11_346_9 : xF RX11 346 9 2 (.array .int) true := ⟨by decide, RX8, TX8, 6, tyX8, "PaperBoys$Route", rfl, inlX8, tyX8_ok, nmX8, by decide, rfl, rfl, m_56_7, Or.inl rfl⟩
theorem fl_X11_356_11 : xF RX11 356 11 0 .int false := ⟨by decide, RX10, TX10, 8, tyX10, "PaperBoys$Terms", rfl, inlX10, tyX10_ok, nmX10, by decide, rfl, rfl, m_28_1, Or.inl rfl⟩
theorem fl_X11_362_10 : xF RX11 362 10 0 (.array .int) true := ⟨by decide, RX9, TX9, 2, tyX9, "PaperBoys$Tape", rfl, inlX9, tyX9_ok, nmX9, by decide, rfl, rfl, m_57_0, Or.inl rfl⟩
theorem fl_X11_38_12 : xF RX11 38 12 4 (.object "java/util/ArrayList") true := ⟨by decide, RX11, TX11, 18, tyX11, "PaperBoys", rfl, inlX11, tyX11_ok, nmX11, by decide, rfl, rfl, m_2_6, Or.inl rfl⟩
theorem fl_X11_45_12 : xF RX11 45 12 5 (.object "PaperBoys$Terms") true := ⟨by decide, RX11, TX11, 18, tyX11, "PaperBoys", rfl, inlX11, tyX11_ok, nmX11, by decide, rfl, rfl, m_2_10, Or.inl rfl⟩
theorem fl_X11_62_12 : xF RX11 62 12 8 (.object "PaperBoys$Chances") true := ⟨by decide, RX11, TX11, 18, tyX11, "PaperBoys", rfl, inlX11, tyX11_ok, nmX11, by decide, rfl, rfl, m_2_19, Or.inl rfl⟩
theorem fl_X11_69_12 : xF RX11 69 12 9 (.object "PaperBoys$Route") true := ⟨by decide, RX11, TX11, 18, tyX11, "PaperBoys", rfl, inlX11, tyX11_ok, nmX11, by decide, rfl, rfl, m_2_23, Or.inl rfl⟩
theorem fl_X11_76_12 : xF RX11 76 12 10 (.object "PaperBoys$Parting") false := ⟨by decide, RX11, TX11, 18, tyX11, "PaperBoys", rfl, inlX11, tyX11_ok, nmX11, by decide, rfl, rfl, m_3_3, Or.inl rfl⟩
theorem fl_X11_83_12 : xF RX11 83 12 12 .int false := ⟨by decide, RX11, TX11, 18, tyX11, "PaperBoys", rfl, inlX11, tyX11_ok, nmX11, by decide, rfl, rfl, m_3_5, Or.inl rfl⟩
theorem fl_X11_87_12 : xF RX11 87 12 13 .int false := ⟨by decide, RX11, TX11, 18, tyX11, "PaperBoys", rfl, inlX11, tyX11_ok, nmX11, by decide, rfl, rfl, m_3_6, Or.inl rfl⟩
theorem fl_X11_90_12 : xF RX11 90 12 14 .int false := ⟨by decide, RX11, TX11, 18, tyX11, "PaperBoys", rfl, inlX11, tyX11_ok, nmX11, by decide, rfl, rfl, m_3_7, Or.inl rfl⟩
theorem fl_X11_93_12 : xF RX11 93 12 15 .int false := ⟨by decide, RX11, TX11, 18, tyX11, "PaperBoys", rfl, inlX11, tyX11_ok, nmX11, by decide, rfl, rfl, m_3_8, Or.inl rfl⟩
theorem fl_X11_96_12 : xF RX11 96 12 16 .int false := ⟨by decide, RX11, TX11, 18, tyX11, "PaperBoys", rfl, inlX11, tyX11_ok, nmX11, by decide, rfl, rfl, m_3_9, Or.inl rfl⟩
theorem fl_X11_99_12 : xF RX11 99 12 17 .int false := ⟨by decide, RX11, TX11, 18, tyX11, "PaperBoys", rfl, inlX11, tyX11_ok, nmX11, by decide, rfl, rfl, m_3_10, Or.inl rfl⟩
theorem fl_X2_26_10 : xF RX2 26 10 0 (.array .int) true := ⟨by decide, RX9, TX9, 2, tyX9, "PaperBoys$Tape", rfl, inlX9, tyX9_ok, nmX9, by decide, rfl, rfl, m_46_13, Or.inl rfl⟩
theorem lk_X11_105 : xLV RX11 105 yX9_put cX9_put 3 none 1 := ⟨m_10_21, m_10_22, m_10_23, m_1_15, m_11_0, by decide +kernel⟩
theorem lk_X11_112 : xLV RX11 112 yJx4a65c_size_8abf5 cJx4a65c_size_8abf5 1 (some .int) 0 := ⟨m_12_3, m_12_4, m_12_5, m_2_5, m_12_6, by decide +kernel⟩
theorem lk_X11_119 : xLS RX11 119 yX11_isBadge cX11_isBadge 1 (some .boolean) 1 := ⟨m_12_11, m_12_12, m_1_2, m_12_13, by decide +kernel⟩
theorem lk_X11_132 : xLV RX11 132 yX5_hasBoy cX5_hasBoy 2 (some .boolean) 1 := ⟨m_15_21, m_15_22, m_15_23, m_1_19, m_16_0, by decide +kernel⟩
theorem lk_X11_135 : xLV RX11 135 yJx4a65c_get_915e3 cJx4a65c_get_915e3 2 (some (.object "java/lang/Object")) 1 := ⟨m_16_2, m_16_3, m_16_4, m_2_5, m_16_5, by decide +kernel⟩
theorem lk_X11_142 : xLS RX11 142 yX11_isCorner cX11_isCorner 1 (some .boolean) 1 := ⟨m_17_7, m_17_8, m_1_2, m_17_9, by decide +kernel⟩
theorem lk_X11_151 : xLV RX11 151 yX9_isWeather cX9_isWeather 2 (some .boolean) 0 := ⟨m_17_21, m_17_22, m_17_23, m_1_15, m_18_0, by decide +kernel⟩
theorem lk_X11_155 : xLV RX11 155 yX3_setSky cX3_setSky 5 none 1 := ⟨m_18_1, m_18_2, m_18_3, m_3_22, m_18_4, by decide +kernel⟩
theorem lk_X11_165 : xLS RX11 165 yX11_isPaper cX11_isPaper 1 (some .boolean) 1 := ⟨m_19_13, m_19_14, m_1_2, m_19_15, by decide +kernel⟩
theorem lk_X11_168 : xLS RX11 168 yX11_isHeadline cX11_isHeadline 1 (some .boolean) 1 := ⟨m_19_16, m_19_17, m_1_2, m_19_18, by decide +kernel⟩
theorem lk_X11_175 : xLS RX11 175 yX11_isWeather cX11_isWeather 1 (some .boolean) 1 := ⟨m_20_9, m_20_10, m_1_2, m_20_11, by decide +kernel⟩
theorem lk_X11_186 : xLV RX11 186 yX3_askedFor cX3_askedFor 6 (some .int) 4 := ⟨m_21_5, m_21_6, m_21_7, m_3_22, m_21_8, by decide +kernel⟩
theorem lk_X11_213 : xLV RX11 213 yX11_inForce cX11_inForce 5 (some (.object "PaperBoys$Terms")) 1 := ⟨m_33_18, m_33_19, m_33_20, m_1_2, m_33_21, by decide +kernel⟩
theorem lk_X11_221 : xLV RX11 221 yX5_hasBundle cX5_hasBundle 2 (some .boolean) 1 := ⟨m_37_11, m_37_12, m_37_13, m_1_19, m_37_14, by decide +kernel⟩
theorem lk_X11_227 : xLV RX11 227 yX5_learn cX5_learn 3 none 1 := ⟨m_37_15, m_34_8, m_34_9, m_1_19, m_34_10, by decide +kernel⟩
theorem lk_X11_234 : xLV RX11 234 yX10_lineFor cX10_lineFor 4 (some .int) 2 := ⟨m_37_16, m_35_7, m_35_8, m_2_9, m_35_9, by decide +kernel⟩
theorem lk_X11_238 : xLV RX11 238 yX10_numberOf cX10_numberOf 4 (some .int) 2 := ⟨m_37_17, m_35_18, m_35_19, m_2_9, m_35_20, by decide +kernel⟩
theorem lk_X11_279 : xLS RX11 279 yX11_placeOf cX11_placeOf 3 (some .int) 3 := ⟨m_43_4, m_33_16, m_1_2, m_33_17, by decide +kernel⟩
theorem lk_X11_283 : xLV RX11 283 yX4_add cX4_add 4 none 3 := ⟨m_43_5, m_43_6, m_43_7, m_2_1, m_43_8, by decide +kernel⟩
theorem lk_X11_286 : xLV RX11 286 yX4_falseAsOf cX4_falseAsOf 5 (some .int) 2 := ⟨m_43_18, m_43_19, m_43_20, m_2_1, m_43_21, by decide +kernel⟩
theorem lk_X11_290 : xLV RX11 290 yX4_shortAsOf cX4_shortAsOf 7 (some .int) 3 := ⟨m_44_22, m_44_23, m_45_0, m_2_1, m_45_1, by decide +kernel⟩
theorem lk_X11_294 : xLV RX11 294 yX9_noneAbove cX9_noneAbove 3 (some .boolean) 1 := ⟨m_46_5, m_46_6, m_46_7, m_1_15, m_46_8, by decide +kernel⟩
theorem lk_X11_297 : xLV RX11 297 yX2_learn cX2_learn 8 none 4 := ⟨m_46_9, m_46_10, m_46_11, m_2_18, m_46_12, by decide +kernel⟩
theorem lk_X11_300 : xLV RX11 300 yX2_choose cX2_choose 8 (some .int) 3 := ⟨m_46_15, m_46_16, m_46_17, m_2_18, m_46_18, by decide +kernel⟩
theorem lk_X11_349 : xLS RX11 349 yX11_isOfStrike cX11_isOfStrike 1 (some .boolean) 1 := ⟨m_56_16, m_56_17, m_1_2, m_56_18, by decide +kernel⟩
theorem lk_X11_352 : xLV RX11 352 yX11_strikeWeek cX11_strikeWeek 12 (some .int) 5 := ⟨m_56_20, m_56_21, m_56_22, m_1_2, m_56_23, by decide +kernel⟩
theorem lk_X11_365 : xLV RX11 365 yX11_strikeEnds cX11_strikeEnds 4 (some .int) 3 := ⟨m_57_1, m_57_2, m_57_3, m_1_2, m_57_4, by decide +kernel⟩
theorem lk_X2_31 : xLV RX2 31 yX3_askedFor cX3_askedFor 6 (some .int) 4 := ⟨m_46_14, m_21_6, m_21_7, m_3_22, m_21_8, by decide +kernel⟩
theorem lk_X6_73 : xLV RX6 73 yX6_findClashes cX6_findClashes 7 none 1 := ⟨m_50_12, m_50_13, m_50_14, m_3_2, m_50_15, by decide +kernel⟩
theorem lk_X6_77 : xLV RX6 77 yX6_findRest cX6_findRest 6 none 0 := ⟨m_51_0, m_51_1, m_51_2, m_3_2, m_51_3, by decide +kernel⟩
theorem lk_X6_84 : xLS RX6 84 yJ6_bitCount_0f7a4 cJ6_bitCount_0f7a4 1 (some .int) 1 := ⟨m_51_5, m_51_6, m_51_7, m_51_8, by decide +kernel⟩
theorem mm_X6_89 : Cond.methodLink RX6 89 Lib.Math.max.name ∈ wsL_law ∧ Cond.static Lib.Math.max.name ∈ wsL_law ∧ Cond.initialized "java/lang/Math" ∈ wsL_law ∧ Cond.code Lib.Math.max.name Lib.Math.max.code 2 (some .int) ∈ wsL_law := ⟨m_51_4, m_13_22, m_13_23, m_14_0⟩
theorem xLs_n {S : xT} {g : xG} {tl td te cap a m : Nat} (h : xL1 S g tl td te cap) (hs : S a = some (tl, m)) : ∃ n : Int, g a 2 = .int (iI n) ∧ 0 ≤ n ∧ n ≤ cap := by
  obtain ⟨b, n, z, h1, h2, h3, h4, h5, h6, h7, h8⟩ := h.2 a m hs
  exact ⟨z, h4, h5, h7⟩
def xsr (a : Int32) (k : Int) : Int32 := (a.toUInt32 >>> ((iI k).toUInt32 &&& Int32.toUInt32 31)).toInt32
def xB1 (x : Int32) : Int32 := x - (xsr x 1 &&& iI 1431655765)
def xB2 (x : Int32) : Int32 := (x &&& iI 858993459) + (xsr x 2 &&& iI 858993459)
def xB3 (x : Int32) : Int32 := (x + xsr x 4) &&& iI 252645135
def xB4 (x : Int32) : Int32 := x + xsr x 8
def xB5 (x : Int32) : Int32 := x + xsr x 16
def xBC (x : Int32) : Int32 := xB5 (xB4 (xB3 (xB2 (xB1 x)))) &&& iI 63
set_option maxRecDepth 100000 in
theorem xBC_7 : ∀ n : Fin 255, (xBC (iI ((n.val : Nat) : Int))).toInt ≤ 7 := by decide +kernel
theorem xBC_le {x z : Int} (hx : 0 ≤ x ∧ x ≤ 254) (hz : -2147483648 ≤ z ∧ z ≤ 2147483647) (e : xBC (iI x) = iI z) : z ≤ 7 := by
  have h := xBC_7 ⟨x.toNat, by omega⟩
  have hx2 : ((x.toNat : Nat) : Int) = x := by omega
  simp only [hx2] at h
  rw [e, iI_toInt hz.1 hz.2] at h
  exact h
set_option maxHeartbeats 4000000 in
set_option maxRecDepth 100000 in
theorem c2_hasBoy (l : Launch) (D : va_G) (kA : Nat → ClassId) (b0 : Nat) (t0 : Nat → Nat) (S : xT) (g : xG) (a0 : Nat) (x1 : Int) (w0 : Nat) (hs_a0 : S a0 = some (6, 0)) (hx1 : (-2147483648) ≤ x1 ∧ x1 ≤ 2147483647) (ew0 : g a0 1 = .ref w0) (hs_w0 : S w0 = some (0, 0)) (hp0 : xLs S g) : xMt l yX5_hasBoy cX5_hasBoy 2 (some .boolean) 1 0 0 20 D kA b0 t0 [] [.ref a0, .int (iI x1)] S g (fun (r : Option Value) (S1 : xT) (g1 : xG) => S = S1 ∧ g = g1 ∧ ∃ z : Int, r = some (.int (iI z)) ∧ 0 ≤ z ∧ z ≤ 1 ∧ (∃ n : Int, g w0 2 = .int (iI n) ∧ 0 ≤ n ∧ n ≤ 40 ∧ (z = 1 → 0 ≤ x1 ∧ x1 < n))) := by
  refine xEnterZ (by decide) (by simp [lg_sl, Value.category]) [(0, .ref a0), (1, .int (iI x1))] rfl ?_
  intro K E hK hret _ _ _
  refine X_iloadn hK (i := 1) 1 kd32_21.2.2.2.2.1 rfl rfl ?_
  refine X_if_lt hK 19 (by omega) kd32_21.2.2.2.2.2.1 (by decide) (fun c1 => ?_) (fun c1 => ?_)
  · refine X_iconst hK kd32_22.2.1 ?_
    exact hret _ _ _ _ _ _ _ kd32_22.2.2.1 (by omega) (by omega) ⟨rfl, rfl, 0, rfl, (by omega), (by omega), (let ⟨n9, h1, h2, h3⟩ := xLs_n (xLs_0 hp0) hs_w0; ⟨n9, h1, h2, h3, fun h => absurd h (by omega)⟩)⟩ (Nat.le_refl _) (Nat.le_refl _)
  · refine X_iloadn hK (i := 1) 1 kd32_21.2.2.2.2.2.2.1 rfl rfl ?_
    refine X_aloadn hK (i := 0) 0 kd32_21.2.2.2.2.2.2.2.1 rfl rfl ?_
    refine X_getK hK fl_X5_21_6 hs_a0 ew0 kd32_21.2.2.2.2.2.2.2.2.1 ?_
    refine X_know hs_w0 (by decide) sl_0_2 (fun z2 ez2 lz2 uz2 => ?_)
    refine X_callV hK [] [.int (iI x1)] lk_X5_45 (c_size_0 _ _ _ _ _ S g w0 z2 hs_w0 (by omega) ez2 hp0) hs_w0 ⟨by decide, rfl⟩ kd32_21.2.2.2.2.2.2.2.2.2.1 rfl rfl (by simp [Value.category]) (by decide) (by decide) (by decide) (by decide) (fun r3 S5 g4 pr3 qr3 hg4 => ?_)
    obtain ⟨rfl, rfl, z6, rfl, lz6, uz6, k7⟩ := pr3
    refine X_st [.int (iI z6), .int (iI x1)] rfl ?_
    refine X_icmp_ge hK 19 (by omega) (by omega) kd32_21.2.2.2.2.2.2.2.2.2.2.1 (by decide) (fun c8 => ?_) (fun c8 => ?_)
    · refine X_iconst hK kd32_22.2.1 ?_
      exact hret _ _ _ _ _ _ _ kd32_22.2.2.1 (by omega) (by omega) ⟨rfl, rfl, 0, rfl, (by omega), (by omega), (let ⟨n9, h1, h2, h3⟩ := xLs_n (xLs_0 hp0) hs_w0; ⟨n9, h1, h2, h3, fun h => absurd h (by omega)⟩)⟩ (Nat.le_refl _) (Nat.le_refl _)
    · refine X_iconst hK kd32_21.2.2.2.2.2.2.2.2.2.2.2 ?_
      refine X_goto hK 20 kd32_22.1 (by decide) ?_
      exact hret _ _ _ _ _ _ _ kd32_22.2.2.1 (by omega) (by omega) ⟨rfl, rfl, 1, rfl, (by omega), (by omega), ⟨z2, ez2, by omega, by omega, fun _ => by omega⟩⟩ (Nat.le_refl _) (Nat.le_refl _)

set_option maxHeartbeats 4000000 in
set_option maxRecDepth 100000 in
theorem c2_hasBundle (l : Launch) (D : va_G) (kA : Nat → ClassId) (b0 : Nat) (t0 : Nat → Nat) (S : xT) (g : xG) (a0 : Nat) (x1 : Int) (w0 : Nat) (hs_a0 : S a0 = some (6, 0)) (hx1 : (-2147483648) ≤ x1 ∧ x1 ≤ 2147483647) (ew0 : g a0 2 = .ref w0) (hs_w0 : S w0 = some (100, 0)) (hp0 : xLs S g) : xMt l yX5_hasBundle cX5_hasBundle 2 (some .boolean) 1 0 0 20 D kA b0 t0 [] [.ref a0, .int (iI x1)] S g (fun (r : Option Value) (S1 : xT) (g1 : xG) => S = S1 ∧ g = g1 ∧ ∃ z : Int, r = some (.int (iI z)) ∧ 0 ≤ z ∧ z ≤ 1 ∧ (∃ n : Int, g w0 2 = .int (iI n) ∧ 0 ≤ n ∧ n ≤ 200 ∧ (z = 1 → 0 ≤ x1 ∧ x1 < n))) := by
  refine xEnterZ (by decide) (by simp [lg_sl, Value.category]) [(0, .ref a0), (1, .int (iI x1))] rfl ?_
  intro K E hK hret _ _ _
  refine X_iloadn hK (i := 1) 1 kd32_22.2.2.2.1 rfl rfl ?_
  refine X_if_lt hK 19 (by omega) kd32_22.2.2.2.2.1 (by decide) (fun c1 => ?_) (fun c1 => ?_)
  · refine X_iconst hK kd32_23.1 ?_
    exact hret _ _ _ _ _ _ _ kd32_23.2.1 (by omega) (by omega) ⟨rfl, rfl, 0, rfl, (by omega), (by omega), (let ⟨n9, h1, h2, h3⟩ := xLs_n (xLs_100 hp0) hs_w0; ⟨n9, h1, h2, h3, fun h => absurd h (by omega)⟩)⟩ (Nat.le_refl _) (Nat.le_refl _)
  · refine X_iloadn hK (i := 1) 1 kd32_22.2.2.2.2.2.1 rfl rfl ?_
    refine X_aloadn hK (i := 0) 0 kd32_22.2.2.2.2.2.2.1 rfl rfl ?_
    refine X_getK hK fl_X5_25_6 hs_a0 ew0 kd32_22.2.2.2.2.2.2.2.1 ?_
    refine X_know hs_w0 (by decide) sl_100_2 (fun z2 ez2 lz2 uz2 => ?_)
    refine X_callV hK [] [.int (iI x1)] lk_X5_45 (c_size_100 _ _ _ _ _ S g w0 z2 hs_w0 (by omega) ez2 hp0) hs_w0 ⟨by decide, rfl⟩ kd32_22.2.2.2.2.2.2.2.2.1 rfl rfl (by simp [Value.category]) (by decide) (by decide) (by decide) (by decide) (fun r3 S5 g4 pr3 qr3 hg4 => ?_)
    obtain ⟨rfl, rfl, z6, rfl, lz6, uz6, k7⟩ := pr3
    refine X_st [.int (iI z6), .int (iI x1)] rfl ?_
    refine X_icmp_ge hK 19 (by omega) (by omega) kd32_22.2.2.2.2.2.2.2.2.2.1 (by decide) (fun c8 => ?_) (fun c8 => ?_)
    · refine X_iconst hK kd32_23.1 ?_
      exact hret _ _ _ _ _ _ _ kd32_23.2.1 (by omega) (by omega) ⟨rfl, rfl, 0, rfl, (by omega), (by omega), (let ⟨n9, h1, h2, h3⟩ := xLs_n (xLs_100 hp0) hs_w0; ⟨n9, h1, h2, h3, fun h => absurd h (by omega)⟩)⟩ (Nat.le_refl _) (Nat.le_refl _)
    · refine X_iconst hK kd32_22.2.2.2.2.2.2.2.2.2.2.1 ?_
      refine X_goto hK 20 kd32_22.2.2.2.2.2.2.2.2.2.2.2 (by decide) ?_
      exact hret _ _ _ _ _ _ _ kd32_23.2.1 (by omega) (by omega) ⟨rfl, rfl, 1, rfl, (by omega), (by omega), ⟨z2, ez2, by omega, by omega, fun _ => by omega⟩⟩ (Nat.le_refl _) (Nat.le_refl _)

set_option maxHeartbeats 4000000 in
set_option maxRecDepth 100000 in
theorem c_X2_learn (l : Launch) (D : va_G) (kA : Nat → ClassId) (b0 : Nat) (t0 : Nat → Nat) (S : xT) (g : xG) (a0 : Nat) (a1 : Nat) (x2 : Int) (x3 : Int) (a4 : Nat) (hs_a0 : S a0 = some (3, 0)) (hs_a1 : S a1 = some (4, 0)) (hx2 : 0 ≤ x2 ∧ x2 ≤ 9) (hx3 : 0 ≤ x3 ∧ x3 ≤ 3) (hs_a4 : S a4 = some (10, 0)) : xMt l yX2_learn cX2_learn 8 none 1 0 0 25 D kA b0 t0 [(3, 2), (10500, 0), (10600, 0)] [.ref a0, .ref a1, .int (iI x2), .int (iI x3), .ref a4] S g (fun (r : Option Value) (S1 : xT) (g1 : xG) => S = S1 ∧ r = none) := by
  refine xEnterV (by decide) (by simp [lg_sl, Value.category]) [(0, .ref a0), (1, .ref a1), (2, .int (iI x2)), (3, .int (iI x3)), (4, .ref a4)] rfl ?_
  intro K E hK hret _ _ _
  refine X_aloadn hK (i := 0) 0 kd38_59.2.2.2.2.2.2.2.2.1 rfl rfl ?_
  refine X_iconst hK kd38_59.2.2.2.2.2.2.2.2.2.1 ?_
  refine X_puti hK fl_X2_18_3 hs_a0 (by decide) sl_3_2 (by omega) (by omega) kd38_59.2.2.2.2.2.2.2.2.2.2.1 (fun g1 hg1 => ?_)
  refine X_iconst hK kd38_59.2.2.2.2.2.2.2.2.2.2.2 ?_
  refine X_istore hK (i := 5) [(5, .int (iI 0)), (0, .ref a0), (1, .ref a1), (2, .int (iI x2)), (3, .int (iI x3)), (4, .ref a4)] kd38_60.1 (by decide) rfl ?_
  have P937 : ∀ (nP937 : Nat) (g782 : xG) (_ : xM [(3, 2), (10600, 0), (10500, 0)] S g1 g782) (z781 : Int) (_ : 0 ≤ z781) (_ : z781 ≤ 4) (q783 : Int) (_ : 0 ≤ q783) (_ : q783 ≤ 24) (_ : g782 a0 2 = .int (iI q783)) (_ : q783 ≤ 6 * z781) (_ : 20 - z781 < (nP937 : Int)), X K E 8 [(5, .int (iI z781)), (0, .ref a0), (1, .ref a1), (2, .int (iI x2)), (3, .int (iI x3)), (4, .ref a4)] [] S g782 0 0 := by
    intro nP937
    induction nP937 with
    | zero => intro g782 hg782 z781 lz781 uz781 q783 lq783 uq783 eq783 v938 mP937; exact False.elim (by omega)
    | succ nP937 ihP937 =>
      intro g782 hg782 z781 lz781 uz781 q783 lq783 uq783 eq783 v938 mP937
      refine X_iload hK (i := 5) 0 kd38_60.2.1 rfl ?_
      refine X_iconst hK kd38_60.2.2.1 ?_
      refine X_icmp_ge hK 102 (by omega) (by omega) kd38_60.2.2.2.1 (by decide) (fun c939 => ?_) (fun c939 => ?_)
      · exact hret _ _ _ _ _ _ kd38_64.2.2.1 ⟨rfl, rfl⟩ (Nat.le_refl _) (Nat.le_refl _)
      · refine X_iconst hK kd38_60.2.2.2.2.1 ?_
        refine X_istore hK (i := 6) [(6, .int (iI 0)), (5, .int (iI z781)), (0, .ref a0), (1, .ref a1), (2, .int (iI x2)), (3, .int (iI x3)), (4, .ref a4)] kd38_60.2.2.2.2.2.1 (by decide) rfl ?_
        have P1071 : ∀ (nP1071 : Nat) (g1050 : xG) (_ : xM [(3, 2), (10600, 0), (10500, 0)] S g782 g1050) (z1049 : Int) (_ : 0 ≤ z1049) (_ : z1049 ≤ 6) (q1051 : Int) (_ : 0 ≤ q1051) (_ : q1051 ≤ 24) (_ : g1050 a0 2 = .int (iI q1051)) (_ : q1051 ≤ 6 * z781 + z1049) (_ : 22 - z1049 < (nP1071 : Int)), X K E 17 [(6, .int (iI z1049)), (5, .int (iI z781)), (0, .ref a0), (1, .ref a1), (2, .int (iI x2)), (3, .int (iI x3)), (4, .ref a4)] [] S g1050 0 0 := by
          intro nP1071
          induction nP1071 with
          | zero => intro g1050 hg1050 z1049 lz1049 uz1049 q1051 lq1051 uq1051 eq1051 v1072 mP1071; exact False.elim (by omega)
          | succ nP1071 ihP1071 =>
            intro g1050 hg1050 z1049 lz1049 uz1049 q1051 lq1051 uq1051 eq1051 v1072 mP1071
            refine X_iload hK (i := 6) 0 kd38_60.2.2.2.2.2.2.1 rfl ?_
            refine X_bipush hK kd38_60.2.2.2.2.2.2.2.1 (by decide) ?_
            refine X_icmp_ge hK 96 (by omega) (by omega) kd38_60.2.2.2.2.2.2.2.2.1 (by decide) (fun c1073 => ?_) (fun c1073 => ?_)
            · refine X_iinc hK (i := 5) (z := z781) (n := 1) 1 [(5, .int (iI (z781 + 1))), (6, .int (iI z1049)), (0, .ref a0), (1, .ref a1), (2, .int (iI x2)), (3, .int (iI x3)), (4, .ref a4)] kd38_64.1 rfl (by decide) rfl ?_
              refine X_goto hK 8 kd38_64.2.1 (by decide) ?_
              refine X_lv [(5, .int (iI (z781 + 1))), (0, .ref a0), (1, .ref a1), (2, .int (iI x2)), (3, .int (iI x3)), (4, .ref a4)] [0, 2, 3, 4, 5, 6] rfl ?_
              exact ihP937  g1050 (xM.tr (xM.tr xM.rf xLe.rf hg782 (by decide)) xLe.rf hg1050 (by decide)) (z781 + 1) (by omega) (by omega) q1051 (by omega) (by omega) eq1051 (by omega) (by omega)
            · refine X_aload hK (i := 4) 6 kd38_60.2.2.2.2.2.2.2.2.2.1 rfl ?_
              refine X_getr hK 13500 420 fl_X2_26_10 hs_a4 sl_10_0 kd38_60.2.2.2.2.2.2.2.2.2.2.1 (fun b1074 eb1074 hs_b1074 => ?_)
              refine X_iload hK (i := 5) 1 kd38_60.2.2.2.2.2.2.2.2.2.2.2 rfl ?_
              refine X_iald hK hs_b1074 (by decide) sl_13500 (by omega) (by omega) kd38_61.1 (fun z1075 ez1075 lz1075 uz1075 => ?_)
              refine X_aload hK (i := 4) 6 kd38_61.2.1 rfl ?_
              refine X_getK hK fl_X2_26_10 hs_a4 eb1074 kd38_61.2.2.1 ?_
              refine X_iconst hK kd38_61.2.2.2.1 ?_
              refine X_iload hK (i := 6) 0 kd38_61.2.2.2.2.1 rfl ?_
              refine X_iadd hK kd38_61.2.2.2.2.2.1 ?_
              refine X_iald hK hs_b1074 (by decide) sl_13500 (by omega) (by omega) kd38_61.2.2.2.2.2.2.1 (fun z1076 ez1076 lz1076 uz1076 => ?_)
              refine X_imul hK kd38_61.2.2.2.2.2.2.2.1 ?_
              have hm1077 := xmulB (a := z1075) (b := z1076) (A := 255) (B := 255) (by omega) (by omega) (by omega) (by omega)
              refine X_istore hK (i := 7) [(7, .int (iI (z1075 * z1076))), (6, .int (iI z1049)), (5, .int (iI z781)), (0, .ref a0), (1, .ref a1), (2, .int (iI x2)), (3, .int (iI x3)), (4, .ref a4)] kd38_61.2.2.2.2.2.2.2.2.1 (by decide) rfl ?_
              refine X_iload hK (i := 7) 0 kd38_61.2.2.2.2.2.2.2.2.2.1 rfl ?_
              refine X_if_le hK 90 (by omega) kd38_61.2.2.2.2.2.2.2.2.2.2.1 (by decide) (fun c1078 => ?_) (fun c1078 => ?_)
              · refine X_iinc hK (i := 6) (z := z1049) (n := 1) 1 [(6, .int (iI (z1049 + 1))), (7, .int (iI (z1075 * z1076))), (5, .int (iI z781)), (0, .ref a0), (1, .ref a1), (2, .int (iI x2)), (3, .int (iI x3)), (4, .ref a4)] kd38_63.2.2.2.2.2.2.2.2.2.2.1 rfl (by decide) rfl ?_
                refine X_goto hK 17 kd38_63.2.2.2.2.2.2.2.2.2.2.2 (by decide) ?_
                refine X_lv [(6, .int (iI (z1049 + 1))), (5, .int (iI z781)), (0, .ref a0), (1, .ref a1), (2, .int (iI x2)), (3, .int (iI x3)), (4, .ref a4)] [0, 2, 3, 4, 5, 6, 7] rfl ?_
                exact ihP1071  g1050 (xM.tr xM.rf xLe.rf hg1050 (by decide)) (z1049 + 1) (by omega) (by omega) q1051 (by omega) (by omega) eq1051 (by omega) (by omega)
              · refine X_aloadn hK (i := 0) 3 kd38_61.2.2.2.2.2.2.2.2.2.2.2 rfl rfl ?_
                refine X_getr hK 10500 24 fl_X2_9_3 hs_a0 sl_3_0 kd38_62.1 (fun b1079 eb1079 hs_b1079 => ?_)
                refine X_aloadn hK (i := 0) 3 kd38_62.2.1 rfl rfl ?_
                refine X_getK hK fl_X2_18_3 hs_a0 eq1051 kd38_62.2.2.1 ?_
                refine X_aloadn hK (i := 1) 4 kd38_62.2.2.2.1 rfl rfl ?_
                refine X_iloadn hK (i := 2) 5 kd38_62.2.2.2.2.1 rfl rfl ?_
                refine X_iloadn hK (i := 3) 6 kd38_62.2.2.2.2.2.1 rfl rfl ?_
                refine X_iload hK (i := 5) 2 kd38_62.2.2.2.2.2.2.1 rfl ?_
                refine X_iload hK (i := 6) 1 kd38_62.2.2.2.2.2.2.2.1 rfl ?_
                refine X_knowr 11304 10 hs_a1 (by decide) sl_4_4 (fun b1080 eb1080 hs_b1080 => ?_)
                refine X_knowr 11000 4 hs_a1 (by decide) sl_4_2 (fun b1081 eb1081 hs_b1081 => ?_)
                refine X_knowr 11100 6 hs_a1 (by decide) sl_4_3 (fun b1082 eb1082 hs_b1082 => ?_)
                refine X_callV hK [.int (iI x2), .int (iI x3), .int (iI z781), .int (iI z1049)] [.int (iI q1051), .ref b1079] lk_X2_31 (c_X3_askedFor _ _ _ _ _ S g1050 a1 x2 x3 z781 z1049 b1080 b1081 b1082 hs_a1 (by omega) (by omega) (by omega) (by omega) eb1080 hs_b1080 eb1081 hs_b1081 eb1082 hs_b1082) hs_a1 ⟨by decide, rfl⟩ kd38_62.2.2.2.2.2.2.2.2.1 rfl rfl (by simp [Value.category]) (by decide) (by decide) (by decide) (by decide) (fun r1083 S1085 g1084 pr1083 qr1083 hg1084 => ?_)
                obtain ⟨rfl, rfl, z1086, rfl, lz1086, uz1086, k1087⟩ := pr1083
                refine X_st [.int (iI z1086), .int (iI q1051), .ref b1079] rfl ?_
                refine X_iast hK hs_b1079 (by decide) (by decide) sl_10500 (by omega) (by omega) (by omega) (by omega) kd38_62.2.2.2.2.2.2.2.2.2.1 (fun g1088 hg1088 => ?_)
                refine X_aloadn hK (i := 0) 3 kd38_62.2.2.2.2.2.2.2.2.2.2.1 rfl rfl ?_
                refine X_getr hK 10600 24 fl_X2_15_3 hs_a0 sl_3_1 kd38_62.2.2.2.2.2.2.2.2.2.2.2 (fun b1089 eb1089 hs_b1089 => ?_)
                refine X_aloadn hK (i := 0) 3 kd38_63.1 rfl rfl ?_
                refine X_getK hK fl_X2_18_3 hs_a0 ((xs_a hg1088 (xne hs_a0 hs_b1079 (by decide))).trans eq1051) kd38_63.2.1 ?_
                refine X_iload hK (i := 7) 0 kd38_63.2.2.1 rfl ?_
                refine X_iast hK hs_b1089 (by decide) (by decide) sl_10600 (by omega) (by omega) (by omega) (by omega) kd38_63.2.2.2.1 (fun g1090 hg1090 => ?_)
                refine X_aloadn hK (i := 0) 3 kd38_63.2.2.2.2.1 rfl rfl ?_
                refine X_dup hK kd38_63.2.2.2.2.2.1 rfl ?_
                refine X_getK hK fl_X2_18_3 hs_a0 ((xs_a hg1090 (xne hs_a0 hs_b1089 (by decide))).trans ((xs_a hg1088 (xne hs_a0 hs_b1079 (by decide))).trans eq1051)) kd38_63.2.2.2.2.2.2.1 ?_
                refine X_iconst hK kd38_63.2.2.2.2.2.2.2.1 ?_
                refine X_iadd hK kd38_63.2.2.2.2.2.2.2.2.1 ?_
                refine X_puti hK fl_X2_18_3 hs_a0 (by decide) sl_3_2 (by omega) (by omega) kd38_63.2.2.2.2.2.2.2.2.2.1 (fun g1091 hg1091 => ?_)
                refine X_iinc hK (i := 6) (z := z1049) (n := 1) 1 [(6, .int (iI (z1049 + 1))), (7, .int (iI (z1075 * z1076))), (5, .int (iI z781)), (0, .ref a0), (1, .ref a1), (2, .int (iI x2)), (3, .int (iI x3)), (4, .ref a4)] kd38_63.2.2.2.2.2.2.2.2.2.2.1 rfl (by decide) rfl ?_
                refine X_goto hK 17 kd38_63.2.2.2.2.2.2.2.2.2.2.2 (by decide) ?_
                refine X_lv [(6, .int (iI (z1049 + 1))), (5, .int (iI z781)), (0, .ref a0), (1, .ref a1), (2, .int (iI x2)), (3, .int (iI x3)), (4, .ref a4)] [0, 2, 3, 4, 5, 6, 7] rfl ?_
                exact ihP1071  g1091 (xM_up (xM_ua (xM_ua (xM.tr xM.rf xLe.rf hg1050 (by decide)) hg1088 hs_b1079 (by decide) (by decide)) hg1090 hs_b1089 (by decide) (by decide)) hg1091 hs_a0 (by decide) (by decide)) (z1049 + 1) (by omega) (by omega) (q1051 + 1) (by omega) (by omega) (xs_s hg1091) (by omega) (by omega)
        exact P1071 ((22 - 0 : Int).toNat + 1) g782 xM.rf 0 (by omega) (by omega) q783 (by omega) (by omega) eq783 (by omega) (by omega)
  exact P937 ((20 - 0 : Int).toNat + 1) g1 xM.rf 0 (by omega) (by omega) 0 (by omega) (by omega) (xs_s hg1) (by omega) (by omega)

set_option maxHeartbeats 4000000 in
set_option maxRecDepth 100000 in
theorem c_J6_bitCount_0f7a4 (l : Launch) (D : va_G) (kA : Nat → ClassId) (b0 : Nat) (t0 : Nat → Nat) (S : xT) (g : xG) (x0 : Int) (hx0 : 0 ≤ x0 ∧ x0 ≤ 254) : xMt l yJ6_bitCount_0f7a4 cJ6_bitCount_0f7a4 1 (some .int) 0 0 0 0 D kA b0 t0 [] [.int (iI x0)] S g (fun (r : Option Value) (S1 : xT) (g1 : xG) => S = S1 ∧ g = g1 ∧ ∃ z : Int, r = some (.int (iI z)) ∧ 0 ≤ z ∧ z ≤ 7) := by
  refine xEnterI (by decide) (by simp [lg_sl, Value.category]) [(0, .int (iI x0))] rfl ?_
  intro K E hK hret _ _ _
  refine X_iloadn hK (i := 0) 0 kd38_0.1 rfl rfl ?_
  refine X_iloadn hK (i := 0) 0 kd38_0.2.1 rfl rfl ?_
  refine X_iconst hK kd38_0.2.2.1 ?_
  refine X_iushr hK kd38_0.2.2.2.1 (fun z1 ez1 lz1 uz1 => ?_)
  refine X_ldcw hK (n := 1431655765) kd38_0.2.2.2.2.1 m_51_9 (by decide) ?_
  refine X_iand hK kd38_0.2.2.2.2.2.1 (fun z2 ez2 lz2 uz2 => ?_)
  have bz2 := xandB ez2 ⟨lz2, uz2⟩ (by omega)
  refine X_isub hK kd38_0.2.2.2.2.2.2.1 ?_
  refine X_istoren hK (i := 0) [(0, .int (iI (x0 - z2)))] kd38_0.2.2.2.2.2.2.2.1 rfl (by decide) rfl ?_
  refine X_iloadn hK (i := 0) 0 kd38_0.2.2.2.2.2.2.2.2.1 rfl rfl ?_
  refine X_ldcw hK (n := 858993459) kd38_0.2.2.2.2.2.2.2.2.2.1 m_51_10 (by decide) ?_
  refine X_iand hK kd38_0.2.2.2.2.2.2.2.2.2.2.1 (fun z3 ez3 lz3 uz3 => ?_)
  have bz3 := xandB ez3 ⟨lz3, uz3⟩ (by omega)
  refine X_iloadn hK (i := 0) 0 kd38_0.2.2.2.2.2.2.2.2.2.2.2 rfl rfl ?_
  refine X_iconst hK kd38_1.1 ?_
  refine X_iushr hK kd38_1.2.1 (fun z4 ez4 lz4 uz4 => ?_)
  refine X_ldcw hK (n := 858993459) kd38_1.2.2.1 m_51_10 (by decide) ?_
  refine X_iand hK kd38_1.2.2.2.1 (fun z5 ez5 lz5 uz5 => ?_)
  have bz5 := xandB ez5 ⟨lz5, uz5⟩ (by omega)
  refine X_iadd hK kd38_1.2.2.2.2.1 ?_
  refine X_istoren hK (i := 0) [(0, .int (iI (z3 + z5)))] kd38_1.2.2.2.2.2.1 rfl (by decide) rfl ?_
  refine X_iloadn hK (i := 0) 0 kd38_1.2.2.2.2.2.2.1 rfl rfl ?_
  refine X_iloadn hK (i := 0) 0 kd38_1.2.2.2.2.2.2.2.1 rfl rfl ?_
  refine X_iconst hK kd38_1.2.2.2.2.2.2.2.2.1 ?_
  refine X_iushr hK kd38_1.2.2.2.2.2.2.2.2.2.1 (fun z6 ez6 lz6 uz6 => ?_)
  refine X_iadd hK kd38_1.2.2.2.2.2.2.2.2.2.2.1 ?_
  refine X_norm (fun z7 ez7 lz7 uz7 => ?_)
  refine X_ldcw hK (n := 252645135) kd38_1.2.2.2.2.2.2.2.2.2.2.2 m_51_11 (by decide) ?_
  refine X_iand hK kd38_2.1 (fun z8 ez8 lz8 uz8 => ?_)
  have bz8 := xandB ez8 ⟨lz8, uz8⟩ (by omega)
  refine X_istoren hK (i := 0) [(0, .int (iI z8))] kd38_2.2.1 rfl (by decide) rfl ?_
  refine X_iloadn hK (i := 0) 0 kd38_2.2.2.1 rfl rfl ?_
  refine X_iloadn hK (i := 0) 0 kd38_2.2.2.2.1 rfl rfl ?_
  refine X_bipush hK kd38_2.2.2.2.2.1 (by decide) ?_
  refine X_iushr hK kd38_2.2.2.2.2.2.1 (fun z9 ez9 lz9 uz9 => ?_)
  refine X_iadd hK kd38_2.2.2.2.2.2.2.1 ?_
  refine X_norm (fun z10 ez10 lz10 uz10 => ?_)
  refine X_istoren hK (i := 0) [(0, .int (iI z10))] kd38_2.2.2.2.2.2.2.2.1 rfl (by decide) rfl ?_
  refine X_iloadn hK (i := 0) 0 kd38_2.2.2.2.2.2.2.2.2.1 rfl rfl ?_
  refine X_iloadn hK (i := 0) 0 kd38_2.2.2.2.2.2.2.2.2.2.1 rfl rfl ?_
  refine X_bipush hK kd38_2.2.2.2.2.2.2.2.2.2.2.1 (by decide) ?_
  refine X_iushr hK kd38_2.2.2.2.2.2.2.2.2.2.2.2 (fun z11 ez11 lz11 uz11 => ?_)
  refine X_iadd hK kd38_3.1 ?_
  refine X_norm (fun z12 ez12 lz12 uz12 => ?_)
  refine X_istoren hK (i := 0) [(0, .int (iI z12))] kd38_3.2.1 rfl (by decide) rfl ?_
  refine X_iloadn hK (i := 0) 0 kd38_3.2.2.1 rfl rfl ?_
  refine X_bipush hK kd38_3.2.2.2.1 (by decide) ?_
  refine X_iand hK kd38_3.2.2.2.2.1 (fun z13 ez13 lz13 uz13 => ?_)
  have bz13 := xandB ez13 ⟨lz13, uz13⟩ (by omega)
  have qz13 : xBC (iI x0) = iI z13 := (by simp only [xBC, xB1, xB2, xB3, xB4, xB5, xsr, iI_add, iI_sub, ez1, ez2, ez3, ez4, ez5, ez6, ← ez7, ez8, ez9, ← ez10, ez11, ← ez12, ez13]); have bz13 : 0 ≤ z13 ∧ z13 ≤ 7 := ⟨(xandB ez13 ⟨lz13, uz13⟩ (by omega)).1, xBC_le (by omega) ⟨lz13, uz13⟩ qz13⟩
  exact hret _ _ _ _ _ _ _ kd38_3.2.2.2.2.2.1 ⟨rfl, rfl, z13, rfl, (by omega), (by omega)⟩ (Nat.le_refl _) (Nat.le_refl _)

set_option maxHeartbeats 4000000 in
set_option maxRecDepth 100000 in
theorem c_X6_findRest (l : Launch) (D : va_G) (kA : Nat → ClassId) (b0 : Nat) (t0 : Nat → Nat) (S : xT) (g : xG) (a0 : Nat) (n0 : Int) (hs_a0 : S a0 = some (7, 0)) (hn0 : 1 ≤ n0 ∧ n0 ≤ 8) (en0 : g a0 0 = .int (iI n0)) : xMt l yX6_findRest cX6_findRest 6 none 1 0 0 20 D kA b0 t0 [(12600, 0)] [.ref a0] S g (fun (r : Option Value) (S1 : xT) (g1 : xG) => S = S1 ∧ r = none) := by
  refine xEnterV (by decide) (by simp [lg_sl, Value.category]) [(0, .ref a0)] rfl ?_
  intro K E hK hret _ _ _
  refine X_iconst hK kd38_64.2.2.2.1 ?_
  refine X_aloadn hK (i := 0) 0 kd38_64.2.2.2.2.1 rfl rfl ?_
  refine X_getK hK fl_X6_9_7 hs_a0 en0 kd38_64.2.2.2.2.2.1 ?_
  refine X_ishl hK kd38_64.2.2.2.2.2.2.1 (fun z1 ez1 lz1 uz1 => ?_)
  have bz1 := xshlB 8 ez1 ⟨lz1, uz1⟩ (by omega) (by decide)
  refine X_iconst hK kd38_64.2.2.2.2.2.2.2.1 ?_
  refine X_isub hK kd38_64.2.2.2.2.2.2.2.2.1 ?_
  refine X_istoren hK (i := 1) [(1, .int (iI (z1 - 1))), (0, .ref a0)] kd38_64.2.2.2.2.2.2.2.2.2.1 rfl (by decide) rfl ?_
  refine X_aloadn hK (i := 0) 1 kd38_64.2.2.2.2.2.2.2.2.2.2.1 rfl rfl ?_
  refine X_getr hK 12600 256 fl_X6_31_7 hs_a0 sl_7_6 kd38_64.2.2.2.2.2.2.2.2.2.2.2 (fun b2 eb2 hs_b2 => ?_)
  refine X_iloadn hK (i := 1) 0 kd38_65.1 rfl rfl ?_
  refine X_iconst hK kd38_65.2.1 ?_
  refine X_iast hK hs_b2 (by decide) (by decide) sl_12600 (by omega) (by omega) (by omega) (by omega) kd38_65.2.2.1 (fun g3 hg3 => ?_)
  refine X_iloadn hK (i := 1) 0 kd38_65.2.2.2.1 rfl rfl ?_
  refine X_iconst hK kd38_65.2.2.2.2.1 ?_
  refine X_isub hK kd38_65.2.2.2.2.2.1 ?_
  refine X_istoren hK (i := 2) [(2, .int (iI ((z1 - 1) - 1))), (1, .int (iI (z1 - 1))), (0, .ref a0)] kd38_65.2.2.2.2.2.2.1 rfl (by decide) rfl ?_
  have P1403 : ∀ (nP1403 : Nat) (g1124 : xG) (_ : xM [(12600, 0)] S g3 g1124) (z1123 : Int) (_ : (-1) ≤ z1123) (_ : z1123 ≤ 254) (_ : z1123 - (-17) < (nP1403 : Int)), X K E 20 [(2, .int (iI z1123)), (1, .int (iI (z1 - 1))), (0, .ref a0)] [] S g1124 0 0 := by
    intro nP1403
    induction nP1403 with
    | zero => intro g1124 hg1124 z1123 lz1123 uz1123 mP1403; exact False.elim (by omega)
    | succ nP1403 ihP1403 =>
      intro g1124 hg1124 z1123 lz1123 uz1123 mP1403
      refine X_iloadn hK (i := 2) 0 kd38_65.2.2.2.2.2.2.2.1 rfl rfl ?_
      refine X_if_lt hK 104 (by omega) kd38_65.2.2.2.2.2.2.2.2.1 (by decide) (fun c1404 => ?_) (fun c1404 => ?_)
      · exact hret _ _ _ _ _ _ kd38_69.2.2.2.2.2.2.2.1 ⟨rfl, rfl⟩ (Nat.le_refl _) (Nat.le_refl _)
      · refine X_iloadn hK (i := 2) 0 kd38_65.2.2.2.2.2.2.2.2.2.1 rfl rfl ?_
        refine X_callS hK [.int (iI z1123)] [] lk_X6_84 (c_J6_bitCount_0f7a4 _ _ _ _ _ S g1124 z1123 (by omega)) kd38_65.2.2.2.2.2.2.2.2.2.2.1 rfl rfl (by simp [Value.category]) (by decide) (by decide) (by decide) (by decide) (fun r1405 S1407 g1406 pr1405 qr1405 hg1406 => ?_)
        obtain ⟨rfl, rfl, z1408, rfl, lz1408, uz1408⟩ := pr1405
        refine X_st [.int (iI z1408)] rfl ?_
        refine X_istoren hK (i := 3) [(3, .int (iI z1408)), (2, .int (iI z1123)), (1, .int (iI (z1 - 1))), (0, .ref a0)] kd38_65.2.2.2.2.2.2.2.2.2.2.2 rfl (by decide) rfl ?_
        refine X_iconst hK kd38_66.1 ?_
        refine X_istore hK (i := 4) [(4, .int (iI 0)), (3, .int (iI z1408)), (2, .int (iI z1123)), (1, .int (iI (z1 - 1))), (0, .ref a0)] kd38_66.2.1 (by decide) rfl ?_
        refine X_iconst hK kd38_66.2.2.1 ?_
        refine X_istore hK (i := 5) [(5, .int (iI 0)), (4, .int (iI 0)), (3, .int (iI z1408)), (2, .int (iI z1123)), (1, .int (iI (z1 - 1))), (0, .ref a0)] kd38_66.2.2.2.1 (by decide) rfl ?_
        have P1641 : ∀ (nP1641 : Nat) (z1599 : Int) (_ : 0 ≤ z1599) (_ : z1599 ≤ 8) (z1600 : Int) (_ : 0 ≤ z1600) (_ : z1600 ≤ 2147483647) (_ : 24 - z1599 < (nP1641 : Int)), X K E 35 [(5, .int (iI z1599)), (4, .int (iI z1600)), (3, .int (iI z1408)), (2, .int (iI z1123)), (1, .int (iI (z1 - 1))), (0, .ref a0)] [] S g1124 0 0 := by
          intro nP1641
          induction nP1641 with
          | zero => intro z1599 lz1599 uz1599 z1600 lz1600 uz1600 mP1641; exact False.elim (by omega)
          | succ nP1641 ihP1641 =>
            intro z1599 lz1599 uz1599 z1600 lz1600 uz1600 mP1641
            refine X_iload hK (i := 5) 0 kd38_66.2.2.2.2.1 rfl ?_
            refine X_aloadn hK (i := 0) 5 kd38_66.2.2.2.2.2.1 rfl rfl ?_
            refine X_getK hK fl_X6_9_7 hs_a0 ((hg1124 a0 7 0 0 hs_a0 (by decide)).trans ((xs_a hg3 (xne hs_a0 hs_b2 (by decide))).trans en0)) kd38_66.2.2.2.2.2.2.1 ?_
            refine X_icmp_ge hK 90 (by omega) (by omega) kd38_66.2.2.2.2.2.2.2.1 (by decide) (fun c1642 => ?_) (fun c1642 => ?_)
            · refine X_aloadn hK (i := 0) 5 kd38_69.1 rfl rfl ?_
              refine X_getK hK fl_X6_31_7 hs_a0 ((hg1124 a0 7 0 6 hs_a0 (by decide)).trans ((xs_a hg3 (xne hs_a0 hs_b2 (by decide))).trans eb2)) kd38_69.2.1 ?_
              refine X_iloadn hK (i := 2) 3 kd38_69.2.2.1 rfl rfl ?_
              refine X_iload hK (i := 4) 1 kd38_69.2.2.2.1 rfl ?_
              refine X_iast hK hs_b2 (by decide) (by decide) sl_12600 (by omega) (by omega) (by omega) (by omega) kd38_69.2.2.2.2.1 (fun g1662 hg1662 => ?_)
              refine X_iinc hK (i := 2) (z := z1123) (n := (-1)) 3 [(2, .int (iI (z1123 + (-1)))), (5, .int (iI z1599)), (4, .int (iI z1600)), (3, .int (iI z1408)), (1, .int (iI (z1 - 1))), (0, .ref a0)] kd38_69.2.2.2.2.2.1 rfl (by decide) rfl ?_
              refine X_goto hK 20 kd38_69.2.2.2.2.2.2.1 (by decide) ?_
              refine X_lv [(2, .int (iI (z1123 + (-1)))), (1, .int (iI (z1 - 1))), (0, .ref a0)] [0, 4, 5] rfl ?_
              exact ihP1403  g1662 (xM_ua (xM.tr xM.rf xLe.rf hg1124 (by decide)) hg1662 hs_b2 (by decide) (by decide)) (z1123 + (-1)) (by omega) (by omega) (by omega)
            · refine X_iloadn hK (i := 2) 3 kd38_66.2.2.2.2.2.2.2.2.1 rfl rfl ?_
              refine X_iload hK (i := 5) 0 kd38_66.2.2.2.2.2.2.2.2.2.1 rfl ?_
              refine X_ishr hK kd38_66.2.2.2.2.2.2.2.2.2.2.1 (fun z1663 ez1663 lz1663 uz1663 => ?_)
              refine X_iconst hK kd38_66.2.2.2.2.2.2.2.2.2.2.2 ?_
              refine X_iand hK kd38_67.1 (fun z1664 ez1664 lz1664 uz1664 => ?_)
              have bz1664 := xandB ez1664 ⟨lz1664, uz1664⟩ (by omega)
              have J1674 : ∀ (z1673 : Int) (lz1673 : 0 ≤ z1673) (uz1673 : z1673 ≤ 2147483647), X K E 84 [(5, .int (iI z1599)), (4, .int (iI z1673)), (3, .int (iI z1408)), (2, .int (iI z1123)), (1, .int (iI (z1 - 1))), (0, .ref a0)] [] S g1124 0 0 := by
                intro z1673 lz1673 uz1673
                refine X_iinc hK (i := 5) (z := z1599) (n := 1) 0 [(5, .int (iI (z1599 + 1))), (4, .int (iI z1673)), (3, .int (iI z1408)), (2, .int (iI z1123)), (1, .int (iI (z1 - 1))), (0, .ref a0)] kd38_68.2.2.2.2.2.2.2.2.2.2.1 rfl (by decide) rfl ?_
                refine X_goto hK 35 kd38_68.2.2.2.2.2.2.2.2.2.2.2 (by decide) ?_
                exact ihP1641  (z1599 + 1) (by omega) (by omega) z1673 (by omega) (by omega) (by omega)
              refine X_if_ne hK 84 (by omega) kd38_67.2.1 (by decide) (fun c1665 => ?_) (fun c1665 => ?_)
              · exact J1674 z1600 (by omega) (by omega)
              · refine X_iload hK (i := 4) 1 kd38_67.2.2.1 rfl ?_
                refine X_aloadn hK (i := 0) 5 kd38_67.2.2.2.1 rfl rfl ?_
                refine X_getr hK 12100 64 fl_X6_15_7 hs_a0 sl_7_1 kd38_67.2.2.2.2.1 (fun b1675 eb1675 hs_b1675 => ?_)
                refine X_iloadn hK (i := 3) 2 kd38_67.2.2.2.2.2.1 rfl rfl ?_
                refine X_bipush hK kd38_67.2.2.2.2.2.2.1 (by decide) ?_
                refine X_imul hK kd38_67.2.2.2.2.2.2.2.1 ?_
                refine X_iload hK (i := 5) 0 kd38_67.2.2.2.2.2.2.2.2.1 rfl ?_
                refine X_iadd hK kd38_67.2.2.2.2.2.2.2.2.2.1 ?_
                refine X_iald hK hs_b1675 (by decide) sl_12100 (by omega) (by omega) kd38_67.2.2.2.2.2.2.2.2.2.2.1 (fun z1676 ez1676 lz1676 uz1676 => ?_)
                refine X_aloadn hK (i := 0) 5 kd38_67.2.2.2.2.2.2.2.2.2.2.2 rfl rfl ?_
                refine X_getK hK fl_X6_31_7 hs_a0 ((hg1124 a0 7 0 6 hs_a0 (by decide)).trans ((xs_a hg3 (xne hs_a0 hs_b2 (by decide))).trans eb2)) kd38_68.1 ?_
                refine X_iloadn hK (i := 2) 3 kd38_68.2.1 rfl rfl ?_
                refine X_iconst hK kd38_68.2.2.1 ?_
                refine X_iload hK (i := 5) 0 kd38_68.2.2.2.1 rfl ?_
                refine X_ishl hK kd38_68.2.2.2.2.1 (fun z1677 ez1677 lz1677 uz1677 => ?_)
                have bz1677 := xshlB 7 ez1677 ⟨lz1677, uz1677⟩ (by omega) (by decide)
                refine X_ior hK kd38_68.2.2.2.2.2.1 (fun z1678 ez1678 lz1678 uz1678 => ?_)
                have bz1678 := xiorB 8 ez1678 ⟨lz1678, uz1678⟩ (by omega) (by omega) (by decide)
                refine X_iald hK hs_b2 (by decide) sl_12600 (by omega) (by omega) kd38_68.2.2.2.2.2.2.1 (fun z1679 ez1679 lz1679 uz1679 => ?_)
                refine X_iadd hK kd38_68.2.2.2.2.2.2.2.1 ?_
                refine X_norm (fun z1680 ez1680 lz1680 uz1680 => ?_)
                refine X_mmax hK mm_X6_89 ⟨by decide, by simp [Value.category]⟩ (by decide) (by omega) (by omega) kd38_68.2.2.2.2.2.2.2.2.1 (fun z1681 ez1681 fz1681 => ?_)
                have bz1681 : 0 ≤ z1681 ∧ z1681 ≤ 2147483647 := by omega
                refine X_istore hK (i := 4) [(4, .int (iI z1681)), (5, .int (iI z1599)), (3, .int (iI z1408)), (2, .int (iI z1123)), (1, .int (iI (z1 - 1))), (0, .ref a0)] kd38_68.2.2.2.2.2.2.2.2.2.1 (by decide) rfl ?_
                refine X_lv [(5, .int (iI z1599)), (4, .int (iI z1681)), (3, .int (iI z1408)), (2, .int (iI z1123)), (1, .int (iI (z1 - 1))), (0, .ref a0)] [1, 0, 2, 3, 4, 5] rfl ?_
                exact J1674 z1681 (by omega) (by omega)
        exact P1641 ((24 - 0 : Int).toNat + 1) 0 (by omega) (by omega) 0 (by omega) (by omega) (by omega)
  exact P1403 ((((z1 - 1) - 1) - (-17) : Int).toNat + 1) g3 xM.rf ((z1 - 1) - 1) (by omega) (by omega) (by omega)

set_option maxHeartbeats 4000000 in
set_option maxRecDepth 100000 in
theorem c_X11_strikeEnds (l : Launch) (D : va_G) (kA : Nat → ClassId) (b0 : Nat) (t0 : Nat → Nat) (S : xT) (g : xG) (a0 : Nat) (x1 : Int) (x2 : Int) (x3 : Int) (hs_a0 : S a0 = some (12, 0)) (hx1 : (-2147483648) ≤ x1 ∧ x1 ≤ 2147483647) (hx2 : (-2147483648) ≤ x2 ∧ x2 ≤ 2147483647) (hx3 : (-2147483648) ≤ x3 ∧ x3 ≤ 2147483647) : xMt l yX11_strikeEnds cX11_strikeEnds 4 (some .int) 0 0 0 0 D kA b0 t0 [(12, 16), (12, 17)] [.ref a0, .int (iI x1), .int (iI x2), .int (iI x3)] S g (fun (r : Option Value) (S1 : xT) (g1 : xG) => S = S1 ∧ ∃ z : Int, r = some (.int (iI z)) ∧ (-2147483648) ≤ z ∧ z ≤ 2147483647 ∧ (z = x1) ∧ (g1 a0 16 = .int (iI (x2))) ∧ (g1 a0 17 = .int (iI (x3)))) := by
  refine xEnterI (by decide) (by simp [lg_sl, Value.category]) [(0, .ref a0), (1, .int (iI x1)), (2, .int (iI x2)), (3, .int (iI x3))] rfl ?_
  intro K E hK hret _ _ _
  refine X_aloadn hK (i := 0) 0 kd38_38.2.2.2.2.2.2.2.2.2.2.1 rfl rfl ?_
  refine X_iloadn hK (i := 2) 2 kd38_38.2.2.2.2.2.2.2.2.2.2.2 rfl rfl ?_
  refine X_puti hK fl_X11_96_12 hs_a0 (by decide) sl_12_16 (by omega) (by omega) kd38_39.1 (fun g1 hg1 => ?_)
  refine X_aloadn hK (i := 0) 0 kd38_39.2.1 rfl rfl ?_
  refine X_iloadn hK (i := 3) 3 kd38_39.2.2.1 rfl rfl ?_
  refine X_puti hK fl_X11_99_12 hs_a0 (by decide) sl_12_17 (by omega) (by omega) kd38_39.2.2.2.1 (fun g2 hg2 => ?_)
  refine X_iloadn hK (i := 1) 1 kd38_39.2.2.2.2.1 rfl rfl ?_
  exact hret _ _ _ _ _ _ _ kd38_39.2.2.2.2.2.1 ⟨rfl, x1, rfl, (by omega), (by omega), (by omega), (((xs_k hg2 (by decide)).trans (xs_s hg1)).trans (by congr 2 <;> omega)), ((xs_s hg2).trans (by congr 2 <;> omega))⟩ (Nat.le_refl _) (Nat.le_refl _)

set_option maxHeartbeats 4000000 in
set_option maxRecDepth 100000 in
theorem c_X11_strikeWeek (l : Launch) (D : va_G) (kA : Nat → ClassId) (b0 : Nat) (t0 : Nat → Nat) (S : xT) (g : xG) (a0 : Nat) (x1 : Int) (x2 : Int) (x3 : Int) (x4 : Int) (x5 : Int) (w0 : Nat) (n0 : Int) (y0 : Nat) (kh : Int) (kp : Int) (hs_a0 : S a0 = some (12, 0)) (hx1 : 0 ≤ x1 ∧ x1 ≤ 100000) (hx2 : 0 ≤ x2 ∧ x2 ≤ 100000) (hx3 : 0 ≤ x3 ∧ x3 ≤ 100000) (hx4 : 0 ≤ x4 ∧ x4 ≤ 100000) (hx5 : 0 ≤ x5 ∧ x5 ≤ 100000) (ew0 : g a0 0 = .ref w0) (hs_w0 : S w0 = some (10, 0)) (hn0 : 2 ≤ n0 ∧ n0 ≤ 100) (en0 : g w0 1 = .int (iI n0)) (ey0 : g w0 0 = .ref y0) (hs_y0 : S y0 = some (13500, 420)) (hkh : (-2147483648) ≤ kh ∧ kh ≤ 2147483647) (ekh : g a0 16 = .int (iI kh)) (hkp : (-2147483648) ≤ kp ∧ kp ≤ 2147483647) (ekp : g a0 17 = .int (iI kp)) : xMt l yX11_strikeWeek cX11_strikeWeek 12 (some .int) 1 0 0 23 D kA b0 t0 [(12, 16), (12, 17)] [.ref a0, .int (iI x1), .int (iI x2), .int (iI x3), .int (iI x4), .int (iI x5)] S g (fun (r : Option Value) (S1 : xT) (g1 : xG) => S = S1 ∧ ∃ z : Int, r = some (.int (iI z)) ∧ (-2147483648) ≤ z ∧ z ≤ 2147483647 ∧ (∃ e1 p1 : Int, g1 a0 16 = .int (iI e1) ∧ g1 a0 17 = .int (iI p1) ∧ (-2147483648 ≤ e1 ∧ e1 ≤ 2147483647) ∧ (-2147483648 ≤ p1 ∧ p1 ≤ 2147483647) ∧ xStk (xv g y0) x1 x2 x3 x4 x5 (n0 / 2) z e1 p1 kh kp)) := by
  refine xEnterI (by decide) (by simp [lg_sl, Value.category]) [(0, .ref a0), (1, .int (iI x1)), (2, .int (iI x2)), (3, .int (iI x3)), (4, .int (iI x4)), (5, .int (iI x5))] rfl ?_
  intro K E hK hret _ _ _
  refine X_aloadn hK (i := 0) 0 kd38_39.2.2.2.2.2.2.1 rfl rfl ?_
  refine X_getK hK fl_X11_10_12 hs_a0 ew0 kd38_39.2.2.2.2.2.2.2.1 ?_
  refine X_getK hK fl_X11_102_10 hs_w0 en0 kd38_39.2.2.2.2.2.2.2.2.1 ?_
  refine X_iconst hK kd38_39.2.2.2.2.2.2.2.2.2.1 ?_
  refine X_idiv hK (by omega) (by omega) kd38_39.2.2.2.2.2.2.2.2.2.2.1 (fun z1 ez1 fz1 => ?_)
  have bz1 : 1 ≤ z1 ∧ z1 ≤ 50 := by omega
  refine X_istore hK (i := 6) [(6, .int (iI z1)), (0, .ref a0), (1, .int (iI x1)), (2, .int (iI x2)), (3, .int (iI x3)), (4, .int (iI x4)), (5, .int (iI x5))] kd38_39.2.2.2.2.2.2.2.2.2.2.2 (by decide) rfl ?_
  refine X_iloadn hK (i := 1) 2 kd38_40.1 rfl rfl ?_
  refine X_istore hK (i := 7) [(7, .int (iI x1)), (6, .int (iI z1)), (0, .ref a0), (1, .int (iI x1)), (2, .int (iI x2)), (3, .int (iI x3)), (4, .int (iI x4)), (5, .int (iI x5))] kd38_40.2.1 (by decide) rfl ?_
  refine X_iload hK (i := 4) 6 kd38_40.2.2.1 rfl ?_
  refine X_istore hK (i := 8) [(8, .int (iI x4)), (7, .int (iI x1)), (6, .int (iI z1)), (0, .ref a0), (1, .int (iI x1)), (2, .int (iI x2)), (3, .int (iI x3)), (4, .int (iI x4)), (5, .int (iI x5))] kd38_40.2.2.2.1 (by decide) rfl ?_
  refine X_iconst hK kd38_40.2.2.2.2.1 ?_
  refine X_istore hK (i := 9) [(9, .int (iI 0)), (8, .int (iI x4)), (7, .int (iI x1)), (6, .int (iI z1)), (0, .ref a0), (1, .int (iI x1)), (2, .int (iI x2)), (3, .int (iI x3)), (4, .int (iI x4)), (5, .int (iI x5))] kd38_40.2.2.2.2.2.1 (by decide) rfl ?_
  have P187 : ∀ (nP187 : Nat) (z156 : Int) (_ : 0 ≤ z156) (_ : z156 ≤ 50) (z157 : Int) (_ : 0 ≤ z157) (_ : z157 ≤ 100000) (z158 : Int) (_ : 0 ≤ z158) (_ : z158 ≤ 100000) (_ : iI z158 = xfl x1 x2 x3 z156.toNat) (_ : iI z157 = xpl x4 x5 z156.toNat) (_ : xNs (xv g y0) x1 x2 x3 x4 x5 z156) (_ : 66 - z156 < (nP187 : Int)), X K E 21 [(9, .int (iI z156)), (8, .int (iI z157)), (7, .int (iI z158)), (6, .int (iI z1)), (0, .ref a0), (1, .int (iI x1)), (2, .int (iI x2)), (3, .int (iI x3)), (4, .int (iI x4)), (5, .int (iI x5))] [] S g 0 0 := by
    intro nP187
    induction nP187 with
    | zero => intro z156 lz156 uz156 z157 lz157 uz157 z158 lz158 uz158 v188 v189 v190 mP187; exact False.elim (by omega)
    | succ nP187 ihP187 =>
      intro z156 lz156 uz156 z157 lz157 uz157 z158 lz158 uz158 v188 v189 v190 mP187
      refine X_iload hK (i := 9) 0 kd38_40.2.2.2.2.2.2.1 rfl ?_
      refine X_iload hK (i := 6) 3 kd38_40.2.2.2.2.2.2.2.1 rfl ?_
      refine X_icmp_ge hK 129 (by omega) (by omega) kd38_40.2.2.2.2.2.2.2.2.1 (by decide) (fun c191 => ?_) (fun c191 => ?_)
      · refine X_iconst hK kd38_45.2.2.2.2.2.2.1 ?_
        exact hret _ _ _ _ _ _ _ kd38_45.2.2.2.2.2.2.2.1 ⟨rfl, (-1), rfl, (by omega), (by omega), ⟨_, _, ekh, ekp, (by omega), (by omega), (by rw [show n0 / 2 = z1 by omega]; exact (Or.inl ⟨rfl, rfl, rfl, fun i9 q1 q2 => v190 i9 q1 (by omega)⟩))⟩⟩ (Nat.le_refl _) (Nat.le_refl _)
      · refine X_iload hK (i := 7) 2 kd38_40.2.2.2.2.2.2.2.2.2.1 rfl ?_
        refine X_iloadn hK (i := 2) 6 kd38_40.2.2.2.2.2.2.2.2.2.2.1 rfl rfl ?_
        refine X_iloadn hK (i := 3) 7 kd38_40.2.2.2.2.2.2.2.2.2.2.2 rfl rfl ?_
        refine X_iload hK (i := 9) 0 kd38_41.1 rfl ?_
        refine X_imul hK kd38_41.2.1 ?_
        have hm192 := xmulB (a := x3) (b := z156) (A := 100000) (B := 49) (by omega) (by omega) (by omega) (by omega)
        refine X_iadd hK kd38_41.2.2.1 ?_
        refine X_isub hK kd38_41.2.2.2.1 ?_
        refine X_istore hK (i := 7) [(7, .int (iI (z158 - (x2 + (x3 * z156))))), (9, .int (iI z156)), (8, .int (iI z157)), (6, .int (iI z1)), (0, .ref a0), (1, .int (iI x1)), (2, .int (iI x2)), (3, .int (iI x3)), (4, .int (iI x4)), (5, .int (iI x5))] kd38_41.2.2.2.2.1 (by decide) rfl ?_
        refine X_iload hK (i := 8) 2 kd38_41.2.2.2.2.2.1 rfl ?_
        refine X_iload hK (i := 5) 9 kd38_41.2.2.2.2.2.2.1 rfl ?_
        refine X_isub hK kd38_41.2.2.2.2.2.2.2.1 ?_
        refine X_istore hK (i := 8) [(8, .int (iI (z157 - x5))), (7, .int (iI (z158 - (x2 + (x3 * z156))))), (9, .int (iI z156)), (6, .int (iI z1)), (0, .ref a0), (1, .int (iI x1)), (2, .int (iI x2)), (3, .int (iI x3)), (4, .int (iI x4)), (5, .int (iI x5))] kd38_41.2.2.2.2.2.2.2.2.1 (by decide) rfl ?_
        refine X_aloadn hK (i := 0) 4 kd38_41.2.2.2.2.2.2.2.2.2.1 rfl rfl ?_
        refine X_getK hK fl_X11_10_12 hs_a0 ew0 kd38_41.2.2.2.2.2.2.2.2.2.2.1 ?_
        refine X_getK hK fl_X11_362_10 hs_w0 ey0 kd38_41.2.2.2.2.2.2.2.2.2.2.2 ?_
        refine X_iconst hK kd38_42.1 ?_
        refine X_iload hK (i := 9) 2 kd38_42.2.1 rfl ?_
        refine X_imul hK kd38_42.2.2.1 ?_
        refine X_iald hK hs_y0 (by decide) sl_13500 (by omega) (by omega) kd38_42.2.2.2.1 (fun z193 ez193 lz193 uz193 => ?_)
        refine X_istore hK (i := 10) [(10, .int (iI z193)), (8, .int (iI (z157 - x5))), (7, .int (iI (z158 - (x2 + (x3 * z156))))), (9, .int (iI z156)), (6, .int (iI z1)), (0, .ref a0), (1, .int (iI x1)), (2, .int (iI x2)), (3, .int (iI x3)), (4, .int (iI x4)), (5, .int (iI x5))] kd38_42.2.2.2.2.1 (by decide) rfl ?_
        refine X_aloadn hK (i := 0) 5 kd38_42.2.2.2.2.2.1 rfl rfl ?_
        refine X_getK hK fl_X11_10_12 hs_a0 ew0 kd38_42.2.2.2.2.2.2.1 ?_
        refine X_getK hK fl_X11_362_10 hs_w0 ey0 kd38_42.2.2.2.2.2.2.2.1 ?_
        refine X_iconst hK kd38_42.2.2.2.2.2.2.2.2.1 ?_
        refine X_iload hK (i := 9) 3 kd38_42.2.2.2.2.2.2.2.2.2.1 rfl ?_
        refine X_imul hK kd38_42.2.2.2.2.2.2.2.2.2.2.1 ?_
        refine X_iconst hK kd38_42.2.2.2.2.2.2.2.2.2.2.2 ?_
        refine X_iadd hK kd38_43.1 ?_
        refine X_iald hK hs_y0 (by decide) sl_13500 (by omega) (by omega) kd38_43.2.1 (fun z194 ez194 lz194 uz194 => ?_)
        refine X_istore hK (i := 11) [(11, .int (iI z194)), (10, .int (iI z193)), (8, .int (iI (z157 - x5))), (7, .int (iI (z158 - (x2 + (x3 * z156))))), (9, .int (iI z156)), (6, .int (iI z1)), (0, .ref a0), (1, .int (iI x1)), (2, .int (iI x2)), (3, .int (iI x3)), (4, .int (iI x4)), (5, .int (iI x5))] kd38_43.2.2.1 (by decide) rfl ?_
        refine X_iload hK (i := 11) 0 kd38_43.2.2.2.1 rfl ?_
        refine X_iload hK (i := 10) 1 kd38_43.2.2.2.2.1 rfl ?_
        refine X_icmp_gt hK 93 (by omega) (by omega) kd38_43.2.2.2.2.2.1 (by decide) (fun c195 => ?_) (fun c195 => ?_)
        · refine X_iload hK (i := 7) 3 kd38_44.1 rfl ?_
          refine X_if_ge hK 108 (by omega) kd38_44.2.1 (by decide) (fun c196 => ?_) (fun c196 => ?_)
          · refine X_iload hK (i := 8) 2 kd38_44.2.2.2.2.2.2.2.2.1 rfl ?_
            refine X_if_ge hK 123 (by omega) kd38_44.2.2.2.2.2.2.2.2.2.1 (by decide) (fun c197 => ?_) (fun c197 => ?_)
            · refine X_iinc hK (i := 9) (z := z156) (n := 1) 4 [(9, .int (iI (z156 + 1))), (11, .int (iI z194)), (10, .int (iI z193)), (8, .int (iI (z157 - x5))), (7, .int (iI (z158 - (x2 + (x3 * z156))))), (6, .int (iI z1)), (0, .ref a0), (1, .int (iI x1)), (2, .int (iI x2)), (3, .int (iI x3)), (4, .int (iI x4)), (5, .int (iI x5))] kd38_45.2.2.2.2.1 rfl (by decide) rfl ?_
              refine X_goto hK 21 kd38_45.2.2.2.2.2.1 (by decide) ?_
              refine X_lv [(9, .int (iI (z156 + 1))), (8, .int (iI (z157 - x5))), (7, .int (iI (z158 - (x2 + (x3 * z156))))), (6, .int (iI z1)), (0, .ref a0), (1, .int (iI x1)), (2, .int (iI x2)), (3, .int (iI x3)), (4, .int (iI x4)), (5, .int (iI x5))] [0, 3, 4, 5, 6, 7, 8, 9, 10, 11] rfl ?_
              exact ihP187  (z156 + 1) (by omega) (by omega) (z157 - x5) (by omega) (by omega) (z158 - (x2 + (x3 * z156))) (by omega) (by omega) (xfl_s v188 (by omega) rfl) (xpl_s v189 (by omega) rfl) (xNs.s v190 (xhow_n (xv_e (j := 2 * z156) ez193 (by omega)) (xv_e (j := 2 * z156 + 1) ez194 (by omega)) (by omega) (xfl_s v188 (by omega) rfl) (by omega) (by omega) (xpl_s v189 (by omega) rfl) (by omega) (by omega))) (by omega)
            · refine X_aloadn hK (i := 0) 6 kd38_44.2.2.2.2.2.2.2.2.2.2.1 rfl rfl ?_
              refine X_iload hK (i := 9) 4 kd38_44.2.2.2.2.2.2.2.2.2.2.2 rfl ?_
              refine X_iconst hK kd38_45.1 ?_
              refine X_iload hK (i := 10) 1 kd38_45.2.1 rfl ?_
              refine X_callV hK [.int (iI z156), .int (iI 2), .int (iI z193)] [] lk_X11_365 (c_X11_strikeEnds _ _ _ _ _ S g a0 z156 2 z193 hs_a0 (by omega) (by omega) (by omega)) hs_a0 ⟨by decide, rfl⟩ kd38_45.2.2.1 rfl rfl (by simp [Value.category]) (by decide) (by decide) (by decide) (by decide) (fun r198 S200 g199 pr198 qr198 hg199 => ?_)
              obtain ⟨rfl, z201, rfl, lz201, uz201, k202, k203, k204⟩ := pr198
              refine X_st [.int (iI z201)] rfl ?_
              exact hret _ _ _ _ _ _ _ kd38_45.2.2.2.1 ⟨rfl, z201, rfl, (by omega), (by omega), ⟨_, _, k203, k204, (by omega), (by omega), (by rw [show n0 / 2 = z1 by omega, show z201 = z156 by omega]; exact (xStk.hit v190 (by omega) (xhow_2 (xv_e (j := 2 * z156) ez193 (by omega)) (xv_e (j := 2 * z156 + 1) ez194 (by omega)) (by omega) (xfl_s v188 (by omega) rfl) (by omega) (by omega) (xpl_s v189 (by omega) rfl) (by omega) (by omega)) (by decide) (by rw [if_pos rfl]; exact ((xv_e (j := 2 * z156) ez193 (by omega))).symm)))⟩⟩ (Nat.le_refl _) (Nat.le_refl _)
          · refine X_aloadn hK (i := 0) 6 kd38_44.2.2.1 rfl rfl ?_
            refine X_iload hK (i := 9) 4 kd38_44.2.2.2.1 rfl ?_
            refine X_iconst hK kd38_44.2.2.2.2.1 ?_
            refine X_iload hK (i := 11) 0 kd38_44.2.2.2.2.2.1 rfl ?_
            refine X_callV hK [.int (iI z156), .int (iI 1), .int (iI z194)] [] lk_X11_365 (c_X11_strikeEnds _ _ _ _ _ S g a0 z156 1 z194 hs_a0 (by omega) (by omega) (by omega)) hs_a0 ⟨by decide, rfl⟩ kd38_44.2.2.2.2.2.2.1 rfl rfl (by simp [Value.category]) (by decide) (by decide) (by decide) (by decide) (fun r205 S207 g206 pr205 qr205 hg206 => ?_)
            obtain ⟨rfl, z208, rfl, lz208, uz208, k209, k210, k211⟩ := pr205
            refine X_st [.int (iI z208)] rfl ?_
            exact hret _ _ _ _ _ _ _ kd38_44.2.2.2.2.2.2.2.1 ⟨rfl, z208, rfl, (by omega), (by omega), ⟨_, _, k210, k211, (by omega), (by omega), (by rw [show n0 / 2 = z1 by omega, show z208 = z156 by omega]; exact (xStk.hit v190 (by omega) (xhow_1 (xv_e (j := 2 * z156) ez193 (by omega)) (xv_e (j := 2 * z156 + 1) ez194 (by omega)) (by omega) (xfl_s v188 (by omega) rfl) (by omega) (by omega)) (by decide) (by rw [if_neg (by decide)]; exact ((xv_e (j := 2 * z156 + 1) ez194 (by omega))).symm)))⟩⟩ (Nat.le_refl _) (Nat.le_refl _)
        · refine X_aloadn hK (i := 0) 6 kd38_43.2.2.2.2.2.2.1 rfl rfl ?_
          refine X_iload hK (i := 9) 4 kd38_43.2.2.2.2.2.2.2.1 rfl ?_
          refine X_iconst hK kd38_43.2.2.2.2.2.2.2.2.1 ?_
          refine X_iload hK (i := 11) 0 kd38_43.2.2.2.2.2.2.2.2.2.1 rfl ?_
          refine X_callV hK [.int (iI z156), .int (iI 0), .int (iI z194)] [] lk_X11_365 (c_X11_strikeEnds _ _ _ _ _ S g a0 z156 0 z194 hs_a0 (by omega) (by omega) (by omega)) hs_a0 ⟨by decide, rfl⟩ kd38_43.2.2.2.2.2.2.2.2.2.2.1 rfl rfl (by simp [Value.category]) (by decide) (by decide) (by decide) (by decide) (fun r212 S214 g213 pr212 qr212 hg213 => ?_)
          obtain ⟨rfl, z215, rfl, lz215, uz215, k216, k217, k218⟩ := pr212
          refine X_st [.int (iI z215)] rfl ?_
          exact hret _ _ _ _ _ _ _ kd38_43.2.2.2.2.2.2.2.2.2.2.2 ⟨rfl, z215, rfl, (by omega), (by omega), ⟨_, _, k217, k218, (by omega), (by omega), (by rw [show n0 / 2 = z1 by omega, show z215 = z156 by omega]; exact (xStk.hit v190 (by omega) (xhow_0 (xv_e (j := 2 * z156) ez193 (by omega)) (xv_e (j := 2 * z156 + 1) ez194 (by omega)) (by omega)) (by decide) (by rw [if_neg (by decide)]; exact ((xv_e (j := 2 * z156 + 1) ez194 (by omega))).symm)))⟩⟩ (Nat.le_refl _) (Nat.le_refl _)
  exact P187 ((66 - 0 : Int).toNat + 1) 0 (by omega) (by omega) x4 (by omega) (by omega) x1 (by omega) (by omega) rfl rfl xNs.z (by omega)

set_option maxHeartbeats 4000000 in
set_option maxRecDepth 100000 in
theorem c_X11_feed (l : Launch) (D : va_G) (kA : Nat → ClassId) (b0 : Nat) (t0 : Nat → Nat) (S : xT) (g : xG) (a0 : Nat) (x1 : Int) (x2 : Int) (x3 : Int) (x4 : Int) (x5 : Int) (w0 : Nat) (n0 : Int) (y0 : Nat) (hs_a0 : S a0 = some (12, 0)) (hx1 : (-2147483648) ≤ x1 ∧ x1 ≤ 2147483647) (hx2 : (-2147483648) ≤ x2 ∧ x2 ≤ 2147483647) (hx3 : (-2147483648) ≤ x3 ∧ x3 ≤ 2147483647) (hx4 : (-2147483648) ≤ x4 ∧ x4 ≤ 2147483647) (hx5 : (-2147483648) ≤ x5 ∧ x5 ≤ 2147483647) (ew0 : g a0 0 = .ref w0) (hs_w0 : S w0 = some (10, 0)) (hn0 : 0 ≤ n0 ∧ n0 ≤ 420) (en0 : g w0 1 = .int (iI n0)) (ey0 : g w0 0 = .ref y0) (hs_y0 : S y0 = some (13500, 420)) : xMt l yX11_feed cX11_feed 6 (some .int) 1 0 0 22 D kA b0 t0 [(13500, 0), (10, 1)] [.ref a0, .int (iI x1), .int (iI x2), .int (iI x3), .int (iI x4), .int (iI x5)] S g (fun (r : Option Value) (S1 : xT) (g1 : xG) => S = S1 ∧ ∃ z : Int, r = some (.int (iI z)) ∧ (-1) ≤ z ∧ z ≤ 420 ∧ (g1 w0 1 = .int (iI (if n0 ≤ 400 then n0 + 20 else n0))) ∧ (z = if n0 ≤ 400 then n0 + 20 else -1) ∧ (xFe (xv g1 y0) (xv g y0) n0 x1 x2 x3 x4 x5)) := by
  refine xEnterI (by decide) (by simp [lg_sl, Value.category]) [(0, .ref a0), (1, .int (iI x1)), (2, .int (iI x2)), (3, .int (iI x3)), (4, .int (iI x4)), (5, .int (iI x5))] rfl ?_
  intro K E hK hret _ _ _
  refine X_aloadn hK (i := 0) 0 kd38_19.2.2.2.2.2.2.2.2.2.2.2 rfl rfl ?_
  refine X_getK hK fl_X11_10_12 hs_a0 ew0 kd38_20.1 ?_
  refine X_getK hK fl_X11_102_10 hs_w0 en0 kd38_20.2.1 ?_
  refine X_bipush hK kd38_20.2.2.1 (by decide) ?_
  refine X_iadd hK kd38_20.2.2.2.1 ?_
  refine X_sipush hK kd38_20.2.2.2.2.1 (by decide) ?_
  refine X_icmp_le hK 18 (by omega) (by omega) kd38_20.2.2.2.2.2.1 (by decide) (fun c1 => ?_) (fun c1 => ?_)
  · refine X_aloadn hK (i := 0) 0 kd38_20.2.2.2.2.2.2.2.2.1 rfl rfl ?_
    refine X_getK hK fl_X11_10_12 hs_a0 ew0 kd38_20.2.2.2.2.2.2.2.2.2.1 ?_
    refine X_iloadn hK (i := 1) 1 kd38_20.2.2.2.2.2.2.2.2.2.2.1 rfl rfl ?_
    refine X_callV hK [.int (iI x1)] [] lk_X11_105 (c_X9_put _ _ _ _ _ S g w0 x1 n0 y0 hs_w0 (by omega) (by omega) en0 ey0 hs_y0) hs_w0 ⟨by decide, rfl⟩ kd38_20.2.2.2.2.2.2.2.2.2.2.2 rfl rfl (by simp [Value.category]) (by decide) (by decide) (by decide) (by decide) (fun r2 S4 g3 pr2 qr2 hg3 => ?_)
    obtain ⟨rfl, rfl, k5, k6⟩ := pr2
    refine X_st [] rfl ?_
    refine X_aloadn hK (i := 0) 0 kd38_21.1 rfl rfl ?_
    refine X_getK hK fl_X11_10_12 hs_a0 ((hg3 a0 12 0 0 hs_a0 (by decide)).trans ew0) kd38_21.2.1 ?_
    refine X_iloadn hK (i := 2) 2 kd38_21.2.2.1 rfl rfl ?_
    refine X_callV hK [.int (iI x2)] [] lk_X11_105 (c_X9_put _ _ _ _ _ S g3 w0 x2 (n0 + 4) y0 hs_w0 (by omega) (by omega) k5 ((hg3 w0 10 0 0 hs_w0 (by decide)).trans ey0) hs_y0) hs_w0 ⟨by decide, rfl⟩ kd38_21.2.2.2.1 rfl rfl (by simp [Value.category]) (by decide) (by decide) (by decide) (by decide) (fun r7 S9 g8 pr7 qr7 hg8 => ?_)
    obtain ⟨rfl, rfl, k10, k11⟩ := pr7
    refine X_st [] rfl ?_
    refine X_aloadn hK (i := 0) 0 kd38_21.2.2.2.2.1 rfl rfl ?_
    refine X_getK hK fl_X11_10_12 hs_a0 ((hg8 a0 12 0 0 hs_a0 (by decide)).trans ((hg3 a0 12 0 0 hs_a0 (by decide)).trans ew0)) kd38_21.2.2.2.2.2.1 ?_
    refine X_iloadn hK (i := 3) 3 kd38_21.2.2.2.2.2.2.1 rfl rfl ?_
    refine X_callV hK [.int (iI x3)] [] lk_X11_105 (c_X9_put _ _ _ _ _ S g8 w0 x3 ((n0 + 4) + 4) y0 hs_w0 (by omega) (by omega) k10 ((hg8 w0 10 0 0 hs_w0 (by decide)).trans ((hg3 w0 10 0 0 hs_w0 (by decide)).trans ey0)) hs_y0) hs_w0 ⟨by decide, rfl⟩ kd38_21.2.2.2.2.2.2.2.1 rfl rfl (by simp [Value.category]) (by decide) (by decide) (by decide) (by decide) (fun r12 S14 g13 pr12 qr12 hg13 => ?_)
    obtain ⟨rfl, rfl, k15, k16⟩ := pr12
    refine X_st [] rfl ?_
    refine X_aloadn hK (i := 0) 0 kd38_21.2.2.2.2.2.2.2.2.1 rfl rfl ?_
    refine X_getK hK fl_X11_10_12 hs_a0 ((hg13 a0 12 0 0 hs_a0 (by decide)).trans ((hg8 a0 12 0 0 hs_a0 (by decide)).trans ((hg3 a0 12 0 0 hs_a0 (by decide)).trans ew0))) kd38_21.2.2.2.2.2.2.2.2.2.1 ?_
    refine X_iload hK (i := 4) 4 kd38_21.2.2.2.2.2.2.2.2.2.2.1 rfl ?_
    refine X_callV hK [.int (iI x4)] [] lk_X11_105 (c_X9_put _ _ _ _ _ S g13 w0 x4 (((n0 + 4) + 4) + 4) y0 hs_w0 (by omega) (by omega) k15 ((hg13 w0 10 0 0 hs_w0 (by decide)).trans ((hg8 w0 10 0 0 hs_w0 (by decide)).trans ((hg3 w0 10 0 0 hs_w0 (by decide)).trans ey0))) hs_y0) hs_w0 ⟨by decide, rfl⟩ kd38_21.2.2.2.2.2.2.2.2.2.2.2 rfl rfl (by simp [Value.category]) (by decide) (by decide) (by decide) (by decide) (fun r17 S19 g18 pr17 qr17 hg18 => ?_)
    obtain ⟨rfl, rfl, k20, k21⟩ := pr17
    refine X_st [] rfl ?_
    refine X_aloadn hK (i := 0) 0 kd38_22.1 rfl rfl ?_
    refine X_getK hK fl_X11_10_12 hs_a0 ((hg18 a0 12 0 0 hs_a0 (by decide)).trans ((hg13 a0 12 0 0 hs_a0 (by decide)).trans ((hg8 a0 12 0 0 hs_a0 (by decide)).trans ((hg3 a0 12 0 0 hs_a0 (by decide)).trans ew0)))) kd38_22.2.1 ?_
    refine X_iload hK (i := 5) 5 kd38_22.2.2.1 rfl ?_
    refine X_callV hK [.int (iI x5)] [] lk_X11_105 (c_X9_put _ _ _ _ _ S g18 w0 x5 ((((n0 + 4) + 4) + 4) + 4) y0 hs_w0 (by omega) (by omega) k20 ((hg18 w0 10 0 0 hs_w0 (by decide)).trans ((hg13 w0 10 0 0 hs_w0 (by decide)).trans ((hg8 w0 10 0 0 hs_w0 (by decide)).trans ((hg3 w0 10 0 0 hs_w0 (by decide)).trans ey0)))) hs_y0) hs_w0 ⟨by decide, rfl⟩ kd38_22.2.2.2.1 rfl rfl (by simp [Value.category]) (by decide) (by decide) (by decide) (by decide) (fun r22 S24 g23 pr22 qr22 hg23 => ?_)
    obtain ⟨rfl, rfl, k25, k26⟩ := pr22
    refine X_st [] rfl ?_
    refine X_aloadn hK (i := 0) 0 kd38_22.2.2.2.2.1 rfl rfl ?_
    refine X_getK hK fl_X11_10_12 hs_a0 ((hg23 a0 12 0 0 hs_a0 (by decide)).trans ((hg18 a0 12 0 0 hs_a0 (by decide)).trans ((hg13 a0 12 0 0 hs_a0 (by decide)).trans ((hg8 a0 12 0 0 hs_a0 (by decide)).trans ((hg3 a0 12 0 0 hs_a0 (by decide)).trans ew0))))) kd38_22.2.2.2.2.2.1 ?_
    refine X_getK hK fl_X11_102_10 hs_w0 k25 kd38_22.2.2.2.2.2.2.1 ?_
    exact hret _ _ _ _ _ _ _ kd38_22.2.2.2.2.2.2.2.1 ⟨rfl, (((((n0 + 4) + 4) + 4) + 4) + 4), rfl, (by omega), (by omega), (k25.trans (by congr 2 <;> omega)), (by omega), (Or.inl ⟨by omega, _, _, _, _, k6, k11, k16, k21, k26⟩)⟩ (Nat.le_refl _) (Nat.le_refl _)
  · refine X_iconst hK kd38_20.2.2.2.2.2.2.1 ?_
    exact hret _ _ _ _ _ _ _ kd38_20.2.2.2.2.2.2.2.1 ⟨rfl, (-1), rfl, (by omega), (by omega), (en0.trans (by congr 2 <;> omega)), (by omega), (Or.inr ⟨by omega, rfl⟩)⟩ (Nat.le_refl _) (Nat.le_refl _)

set_option maxHeartbeats 4000000 in
set_option maxRecDepth 100000 in
theorem c_X11_end (l : Launch) (D : va_G) (kA : Nat → ClassId) (b0 : Nat) (t0 : Nat → Nat) (S : xT) (g : xG) (a0 : Nat) (x1 : Int) (w0 : Nat) (n0 : Int) (hs_a0 : S a0 = some (12, 0)) (hx1 : (-2147483648) ≤ x1 ∧ x1 ≤ 2147483647) (ew0 : g a0 0 = .ref w0) (hs_w0 : S w0 = some (10, 0)) (hn0 : 0 ≤ n0 ∧ n0 ≤ 420) (en0 : g w0 1 = .int (iI n0)) : xMt l yX11_end cX11_end 2 (some .boolean) 0 0 0 0 D kA b0 t0 [(10, 1)] [.ref a0, .int (iI x1)] S g (fun (r : Option Value) (S1 : xT) (g1 : xG) => S = S1 ∧ ∃ z : Int, r = some (.int (iI z)) ∧ 0 ≤ z ∧ z ≤ 1 ∧ (g1 w0 1 = .int (iI (if 0 ≤ x1 ∧ x1 ≤ n0 then x1 else n0))) ∧ ((z = 1 ↔ 0 ≤ x1 ∧ x1 ≤ n0))) := by
  refine xEnterZ (by decide) (by simp [lg_sl, Value.category]) [(0, .ref a0), (1, .int (iI x1))] rfl ?_
  intro K E hK hret _ _ _
  refine X_iloadn hK (i := 1) 1 kd38_17.2.2.2.2.2.2.1 rfl rfl ?_
  refine X_if_lt hK 15 (by omega) kd38_17.2.2.2.2.2.2.2.1 (by decide) (fun c1 => ?_) (fun c1 => ?_)
  · refine X_iconst hK kd38_18.2.1 ?_
    exact hret _ _ _ _ _ _ _ kd38_18.2.2.1 (by omega) (by omega) ⟨rfl, 0, rfl, (by omega), (by omega), (en0.trans (by congr 2 <;> omega)), (by omega)⟩ (Nat.le_refl _) (Nat.le_refl _)
  · refine X_iloadn hK (i := 1) 1 kd38_17.2.2.2.2.2.2.2.2.1 rfl rfl ?_
    refine X_aloadn hK (i := 0) 0 kd38_17.2.2.2.2.2.2.2.2.2.1 rfl rfl ?_
    refine X_getK hK fl_X11_10_12 hs_a0 ew0 kd38_17.2.2.2.2.2.2.2.2.2.2.1 ?_
    refine X_getK hK fl_X11_102_10 hs_w0 en0 kd38_17.2.2.2.2.2.2.2.2.2.2.2 ?_
    refine X_icmp_le hK 17 (by omega) (by omega) kd38_18.1 (by decide) (fun c2 => ?_) (fun c2 => ?_)
    · refine X_aloadn hK (i := 0) 0 kd38_18.2.2.2.1 rfl rfl ?_
      refine X_getK hK fl_X11_10_12 hs_a0 ew0 kd38_18.2.2.2.2.1 ?_
      refine X_iloadn hK (i := 1) 1 kd38_18.2.2.2.2.2.1 rfl rfl ?_
      refine X_puti hK fl_X11_102_10 hs_w0 (by decide) sl_10_1 (by omega) (by omega) kd38_18.2.2.2.2.2.2.1 (fun g3 hg3 => ?_)
      refine X_iconst hK kd38_18.2.2.2.2.2.2.2.1 ?_
      exact hret _ _ _ _ _ _ _ kd38_18.2.2.2.2.2.2.2.2.1 (by omega) (by omega) ⟨rfl, 1, rfl, (by omega), (by omega), ((xs_s hg3).trans (by congr 2 <;> omega)), (by omega)⟩ (Nat.le_refl _) (Nat.le_refl _)
    · refine X_iconst hK kd38_18.2.1 ?_
      exact hret _ _ _ _ _ _ _ kd38_18.2.2.1 (by omega) (by omega) ⟨rfl, 0, rfl, (by omega), (by omega), (en0.trans (by congr 2 <;> omega)), (by omega)⟩ (Nat.le_refl _) (Nat.le_refl _)

set_option maxHeartbeats 4000000 in
set_option maxRecDepth 100000 in
theorem c4_hasBoy (l : Launch) (D : va_G) (kA : Nat → ClassId) (b0 : Nat) (t0 : Nat → Nat) (S : xT) (g : xG) (a0 : Nat) (x1 : Int) (w0 : Nat) (n0 : Int) (hs_a0 : S a0 = some (6, 0)) (hx1 : (-2147483648) ≤ x1 ∧ x1 ≤ 2147483647) (ew0 : g a0 1 = .ref w0) (hs_w0 : S w0 = some (0, 0)) (hn0 : 0 ≤ n0 ∧ n0 ≤ 40) (en0 : g w0 2 = .int (iI n0)) (hp0 : xLs S g) : xMt l yX5_hasBoy cX5_hasBoy 2 (some .boolean) 1 0 0 20 D kA b0 t0 [] [.ref a0, .int (iI x1)] S g (fun (r : Option Value) (S1 : xT) (g1 : xG) => S = S1 ∧ g = g1 ∧ ∃ z : Int, r = some (.int (iI z)) ∧ 0 ≤ z ∧ z ≤ 1 ∧ ((z = 1 ↔ 0 ≤ x1 ∧ x1 < n0))) := by
  refine xEnterZ (by decide) (by simp [lg_sl, Value.category]) [(0, .ref a0), (1, .int (iI x1))] rfl ?_
  intro K E hK hret _ _ _
  refine X_iloadn hK (i := 1) 1 kd32_21.2.2.2.2.1 rfl rfl ?_
  refine X_if_lt hK 19 (by omega) kd32_21.2.2.2.2.2.1 (by decide) (fun c1 => ?_) (fun c1 => ?_)
  · refine X_iconst hK kd32_22.2.1 ?_
    exact hret _ _ _ _ _ _ _ kd32_22.2.2.1 (by omega) (by omega) ⟨rfl, rfl, 0, rfl, (by omega), (by omega), (by omega)⟩ (Nat.le_refl _) (Nat.le_refl _)
  · refine X_iloadn hK (i := 1) 1 kd32_21.2.2.2.2.2.2.1 rfl rfl ?_
    refine X_aloadn hK (i := 0) 0 kd32_21.2.2.2.2.2.2.2.1 rfl rfl ?_
    refine X_getK hK fl_X5_21_6 hs_a0 ew0 kd32_21.2.2.2.2.2.2.2.2.1 ?_
    refine X_callV hK [] [.int (iI x1)] lk_X5_45 (c_size_0 _ _ _ _ _ S g w0 n0 hs_w0 (by omega) en0 hp0) hs_w0 ⟨by decide, rfl⟩ kd32_21.2.2.2.2.2.2.2.2.2.1 rfl rfl (by simp [Value.category]) (by decide) (by decide) (by decide) (by decide) (fun r2 S4 g3 pr2 qr2 hg3 => ?_)
    obtain ⟨rfl, rfl, z5, rfl, lz5, uz5, k6⟩ := pr2
    refine X_st [.int (iI z5), .int (iI x1)] rfl ?_
    refine X_icmp_ge hK 19 (by omega) (by omega) kd32_21.2.2.2.2.2.2.2.2.2.2.1 (by decide) (fun c7 => ?_) (fun c7 => ?_)
    · refine X_iconst hK kd32_22.2.1 ?_
      exact hret _ _ _ _ _ _ _ kd32_22.2.2.1 (by omega) (by omega) ⟨rfl, rfl, 0, rfl, (by omega), (by omega), (by omega)⟩ (Nat.le_refl _) (Nat.le_refl _)
    · refine X_iconst hK kd32_21.2.2.2.2.2.2.2.2.2.2.2 ?_
      refine X_goto hK 20 kd32_22.1 (by decide) ?_
      exact hret _ _ _ _ _ _ _ kd32_22.2.2.1 (by omega) (by omega) ⟨rfl, rfl, 1, rfl, (by omega), (by omega), (by omega)⟩ (Nat.le_refl _) (Nat.le_refl _)

set_option maxHeartbeats 4000000 in
set_option maxRecDepth 100000 in
theorem c_X11_badge (l : Launch) (D : va_G) (kA : Nat → ClassId) (b0 : Nat) (t0 : Nat → Nat) (S : xT) (g : xG) (a0 : Nat) (x1 : Int) (x2 : Int) (m0 : Nat) (l0 : Nat) (n0 : Int) (hs_a0 : S a0 = some (12, 0)) (hx1 : (-2147483648) ≤ x1 ∧ x1 ≤ 2147483647) (hx2 : (-2147483648) ≤ x2 ∧ x2 ≤ 2147483647) (em0 : g a0 1 = .ref m0) (hs_m0 : S m0 = some (6, 0)) (el0 : g m0 1 = .ref l0) (hs_l0 : S l0 = some (0, 0)) (hn0 : 0 ≤ n0 ∧ n0 ≤ 40) (en0 : g l0 2 = .int (iI n0)) (hp0 : xLs S g) : xMt l yX11_badge cX11_badge 3 (some .boolean) 3 0 0 64 D kA b0 t0 [(1, 4)] [.ref a0, .int (iI x1), .int (iI x2)] S g (fun (r : Option Value) (S1 : xT) (g1 : xG) => S = S1 ∧ ∃ z : Int, r = some (.int (iI z)) ∧ 0 ≤ z ∧ z ≤ 1 ∧ ((z = 1 ↔ 0 ≤ x1 ∧ x1 < n0 ∧ -1 ≤ x2 ∧ x2 ≤ 399))) := by
  refine xEnterZ (by decide) (by simp [lg_sl, Value.category]) [(0, .ref a0), (1, .int (iI x1)), (2, .int (iI x2))] rfl ?_
  intro K E hK hret _ _ _
  refine X_aloadn hK (i := 0) 0 kd38_5.2.2.2.2.1 rfl rfl ?_
  refine X_getK hK fl_X11_19_12 hs_a0 em0 kd38_5.2.2.2.2.2.1 ?_
  refine X_iloadn hK (i := 1) 1 kd38_5.2.2.2.2.2.2.1 rfl rfl ?_
  refine X_callV hK [.int (iI x1)] [] lk_X11_132 (c4_hasBoy _ _ _ _ _ S g m0 x1 l0 n0 hs_m0 (by omega) el0 hs_l0 (by omega) en0 hp0) hs_m0 ⟨by decide, rfl⟩ kd38_5.2.2.2.2.2.2.2.1 rfl rfl (by simp [Value.category]) (by decide) (by decide) (by decide) (by decide) (fun r1 S3 g2 pr1 qr1 hg2 => ?_)
  obtain ⟨rfl, rfl, z4, rfl, lz4, uz4, k5⟩ := pr1
  refine X_st [.int (iI z4)] rfl ?_
  refine X_if_eq hK 18 (by omega) kd38_5.2.2.2.2.2.2.2.2.1 (by decide) (fun c6 => ?_) (fun c6 => ?_)
  · refine X_iconst hK kd38_6.1 ?_
    exact hret _ _ _ _ _ _ _ kd38_6.2.1 (by omega) (by omega) ⟨rfl, 0, rfl, (by omega), (by omega), (by omega)⟩ (Nat.le_refl _) (Nat.le_refl _)
  · refine X_iloadn hK (i := 2) 2 kd38_5.2.2.2.2.2.2.2.2.2.1 rfl rfl ?_
    refine X_callS hK [.int (iI x2)] [] lk_X11_119 (c_X11_isBadge _ _ _ _ _ S g x2 (by omega)) kd38_5.2.2.2.2.2.2.2.2.2.2.1 rfl rfl (by simp [Value.category]) (by decide) (by decide) (by decide) (by decide) (fun r7 S9 g8 pr7 qr7 hg8 => ?_)
    obtain ⟨rfl, rfl, z10, rfl, lz10, uz10, k11⟩ := pr7
    refine X_st [.int (iI z10)] rfl ?_
    refine X_if_ne hK 20 (by omega) kd38_5.2.2.2.2.2.2.2.2.2.2.2 (by decide) (fun c12 => ?_) (fun c12 => ?_)
    · refine X_aloadn hK (i := 0) 0 kd38_6.2.2.1 rfl rfl ?_
      refine X_getK hK fl_X11_19_12 hs_a0 em0 kd38_6.2.2.2.1 ?_
      refine X_getK hK fl_X11_109_6 hs_m0 el0 kd38_6.2.2.2.2.1 ?_
      refine X_iloadn hK (i := 1) 1 kd38_6.2.2.2.2.2.1 rfl rfl ?_
      refine X_callV hK [.int (iI x1)] [] lk_X11_135 (c_get_0 _ _ _ _ _ S g l0 x1 n0 hs_l0 (by omega) (by omega) en0 hp0 (by omega)) hs_l0 ⟨by decide, rfl⟩ kd38_6.2.2.2.2.2.2.1 rfl rfl (by simp [Value.category]) (by decide) (by decide) (by decide) (by decide) (fun r13 S15 g14 pr13 qr13 hg14 => ?_)
      obtain ⟨rfl, rfl, b16, rfl, hs_b16⟩ := pr13
      refine X_st [.ref b16] rfl ?_
      refine X_cast hK hs_b16 ⟨by decide, rfl⟩ m_12_0 kd38_6.2.2.2.2.2.2.2.1 ?_
      refine X_iloadn hK (i := 2) 2 kd38_6.2.2.2.2.2.2.2.2.1 rfl rfl ?_
      refine X_puti hK fl_X11_139_1 hs_b16 (by decide) sl_1_4 (by omega) (by omega) kd38_6.2.2.2.2.2.2.2.2.2.1 (fun g17 hg17 => ?_)
      refine X_iconst hK kd38_6.2.2.2.2.2.2.2.2.2.2.1 ?_
      exact hret _ _ _ _ _ _ _ kd38_6.2.2.2.2.2.2.2.2.2.2.2 (by omega) (by omega) ⟨rfl, 1, rfl, (by omega), (by omega), (by omega)⟩ (Nat.le_refl _) (Nat.le_refl _)
    · refine X_iconst hK kd38_6.1 ?_
      exact hret _ _ _ _ _ _ _ kd38_6.2.1 (by omega) (by omega) ⟨rfl, 0, rfl, (by omega), (by omega), (by omega)⟩ (Nat.le_refl _) (Nat.le_refl _)

set_option maxHeartbeats 4000000 in
set_option maxRecDepth 100000 in
theorem c_X11_owner (l : Launch) (D : va_G) (kA : Nat → ClassId) (b0 : Nat) (t0 : Nat → Nat) (S : xT) (g : xG) (a0 : Nat) (x1 : Int) (x2 : Int) (m0 : Nat) (l0 : Nat) (n0 : Int) (hs_a0 : S a0 = some (12, 0)) (hx1 : (-2147483648) ≤ x1 ∧ x1 ≤ 2147483647) (hx2 : (-2147483648) ≤ x2 ∧ x2 ≤ 2147483647) (em0 : g a0 1 = .ref m0) (hs_m0 : S m0 = some (6, 0)) (el0 : g m0 1 = .ref l0) (hs_l0 : S l0 = some (0, 0)) (hn0 : 0 ≤ n0 ∧ n0 ≤ 40) (en0 : g l0 2 = .int (iI n0)) (hp0 : xLs S g) : xMt l yX11_owner cX11_owner 3 (some .boolean) 2 0 0 42 D kA b0 t0 [(11400, 0)] [.ref a0, .int (iI x1), .int (iI x2)] S g (fun (r : Option Value) (S1 : xT) (g1 : xG) => S = S1 ∧ ∃ z : Int, r = some (.int (iI z)) ∧ 0 ≤ z ∧ z ≤ 1 ∧ ((z = 1 ↔ 0 ≤ x1 ∧ x1 ≤ 9 ∧ -1 ≤ x2 ∧ x2 < n0))) := by
  refine xEnterZ (by decide) (by simp [lg_sl, Value.category]) [(0, .ref a0), (1, .int (iI x1)), (2, .int (iI x2))] rfl ?_
  intro K E hK hret _ _ _
  refine X_iloadn hK (i := 1) 1 kd38_30.2.2.1 rfl rfl ?_
  refine X_callS hK [.int (iI x1)] [] lk_X11_142 (c_X11_isCorner _ _ _ _ _ S g x1 (by omega)) kd38_30.2.2.2.1 rfl rfl (by simp [Value.category]) (by decide) (by decide) (by decide) (by decide) (fun r1 S3 g2 pr1 qr1 hg2 => ?_)
  obtain ⟨rfl, rfl, z4, rfl, lz4, uz4, k5⟩ := pr1
  refine X_st [.int (iI z4)] rfl ?_
  refine X_if_eq hK 23 (by omega) kd38_30.2.2.2.2.1 (by decide) (fun c6 => ?_) (fun c6 => ?_)
  · refine X_iconst hK kd38_31.2.1 ?_
    exact hret _ _ _ _ _ _ _ kd38_31.2.2.1 (by omega) (by omega) ⟨rfl, 0, rfl, (by omega), (by omega), (by omega)⟩ (Nat.le_refl _) (Nat.le_refl _)
  · refine X_iloadn hK (i := 2) 2 kd38_30.2.2.2.2.2.1 rfl rfl ?_
    refine X_iconst hK kd38_30.2.2.2.2.2.2.1 ?_
    refine X_icmp_eq hK 25 (by omega) (by omega) kd38_30.2.2.2.2.2.2.2.1 (by decide) (fun c7 => ?_) (fun c7 => ?_)
    · refine X_aloadn hK (i := 0) 0 kd38_31.2.2.2.1 rfl rfl ?_
      refine X_getr hK 4 0 fl_X11_27_12 hs_a0 sl_12_2 kd38_31.2.2.2.2.1 (fun b8 eb8 hs_b8 => ?_)
      refine X_getr hK 11400 10 fl_X11_145_4 hs_b8 sl_4_5 kd38_31.2.2.2.2.2.1 (fun b9 eb9 hs_b9 => ?_)
      refine X_iloadn hK (i := 1) 1 kd38_31.2.2.2.2.2.2.1 rfl rfl ?_
      refine X_iloadn hK (i := 2) 2 kd38_31.2.2.2.2.2.2.2.1 rfl rfl ?_
      refine X_iast hK hs_b9 (by decide) (by decide) sl_11400 (by omega) (by omega) (by omega) (by omega) kd38_31.2.2.2.2.2.2.2.2.1 (fun g10 hg10 => ?_)
      refine X_iconst hK kd38_31.2.2.2.2.2.2.2.2.2.1 ?_
      exact hret _ _ _ _ _ _ _ kd38_31.2.2.2.2.2.2.2.2.2.2.1 (by omega) (by omega) ⟨rfl, 1, rfl, (by omega), (by omega), (by omega)⟩ (Nat.le_refl _) (Nat.le_refl _)
    · refine X_aloadn hK (i := 0) 0 kd38_30.2.2.2.2.2.2.2.2.1 rfl rfl ?_
      refine X_getK hK fl_X11_19_12 hs_a0 em0 kd38_30.2.2.2.2.2.2.2.2.2.1 ?_
      refine X_iloadn hK (i := 2) 2 kd38_30.2.2.2.2.2.2.2.2.2.2.1 rfl rfl ?_
      refine X_callV hK [.int (iI x2)] [] lk_X11_132 (c4_hasBoy _ _ _ _ _ S g m0 x2 l0 n0 hs_m0 (by omega) el0 hs_l0 (by omega) en0 hp0) hs_m0 ⟨by decide, rfl⟩ kd38_30.2.2.2.2.2.2.2.2.2.2.2 rfl rfl (by simp [Value.category]) (by decide) (by decide) (by decide) (by decide) (fun r11 S13 g12 pr11 qr11 hg12 => ?_)
      obtain ⟨rfl, rfl, z14, rfl, lz14, uz14, k15⟩ := pr11
      refine X_st [.int (iI z14)] rfl ?_
      refine X_if_ne hK 25 (by omega) kd38_31.1 (by decide) (fun c16 => ?_) (fun c16 => ?_)
      · refine X_aloadn hK (i := 0) 0 kd38_31.2.2.2.1 rfl rfl ?_
        refine X_getr hK 4 0 fl_X11_27_12 hs_a0 sl_12_2 kd38_31.2.2.2.2.1 (fun b17 eb17 hs_b17 => ?_)
        refine X_getr hK 11400 10 fl_X11_145_4 hs_b17 sl_4_5 kd38_31.2.2.2.2.2.1 (fun b18 eb18 hs_b18 => ?_)
        refine X_iloadn hK (i := 1) 1 kd38_31.2.2.2.2.2.2.1 rfl rfl ?_
        refine X_iloadn hK (i := 2) 2 kd38_31.2.2.2.2.2.2.2.1 rfl rfl ?_
        refine X_iast hK hs_b18 (by decide) (by decide) sl_11400 (by omega) (by omega) (by omega) (by omega) kd38_31.2.2.2.2.2.2.2.2.1 (fun g19 hg19 => ?_)
        refine X_iconst hK kd38_31.2.2.2.2.2.2.2.2.2.1 ?_
        exact hret _ _ _ _ _ _ _ kd38_31.2.2.2.2.2.2.2.2.2.2.1 (by omega) (by omega) ⟨rfl, 1, rfl, (by omega), (by omega), (by omega)⟩ (Nat.le_refl _) (Nat.le_refl _)
      · refine X_iconst hK kd38_31.2.1 ?_
        exact hret _ _ _ _ _ _ _ kd38_31.2.2.1 (by omega) (by omega) ⟨rfl, 0, rfl, (by omega), (by omega), (by omega)⟩ (Nat.le_refl _) (Nat.le_refl _)

set_option maxHeartbeats 4000000 in
set_option maxRecDepth 100000 in
theorem c_X11_headline (l : Launch) (D : va_G) (kA : Nat → ClassId) (b0 : Nat) (t0 : Nat → Nat) (S : xT) (g : xG) (a0 : Nat) (x1 : Int) (x2 : Int) (x3 : Int) (td : Int) (hs_a0 : S a0 = some (12, 0)) (hx1 : (-2147483648) ≤ x1 ∧ x1 ≤ 2147483647) (hx2 : (-2147483648) ≤ x2 ∧ x2 ≤ 2147483647) (hx3 : (-2147483648) ≤ x3 ∧ x3 ≤ 2147483647) (htd : 0 ≤ td ∧ td ≤ 400) (etd : g a0 12 = .int (iI td)) : xMt l yX11_headline cX11_headline 4 (some .boolean) 2 0 0 42 D kA b0 t0 [(10800, 0)] [.ref a0, .int (iI x1), .int (iI x2), .int (iI x3)] S g (fun (r : Option Value) (S1 : xT) (g1 : xG) => S = S1 ∧ ∃ z : Int, r = some (.int (iI z)) ∧ 0 ≤ z ∧ z ≤ 1 ∧ ((z = 1 ↔ 0 ≤ x1 ∧ x1 ≤ 3 ∧ 0 ≤ x2 ∧ x2 ≤ 399 ∧ td ≤ x2 ∧ 0 ≤ x3 ∧ x3 ≤ 5))) := by
  refine xEnterZ (by decide) (by simp [lg_sl, Value.category]) [(0, .ref a0), (1, .int (iI x1)), (2, .int (iI x2)), (3, .int (iI x3))] rfl ?_
  intro K E hK hret _ _ _
  refine X_iloadn hK (i := 1) 1 kd38_22.2.2.2.2.2.2.2.2.1 rfl rfl ?_
  refine X_callS hK [.int (iI x1)] [] lk_X11_165 (c_X11_isPaper _ _ _ _ _ S g x1 (by omega)) kd38_22.2.2.2.2.2.2.2.2.2.1 rfl rfl (by simp [Value.category]) (by decide) (by decide) (by decide) (by decide) (fun r1 S3 g2 pr1 qr1 hg2 => ?_)
  obtain ⟨rfl, rfl, z4, rfl, lz4, uz4, k5⟩ := pr1
  refine X_st [.int (iI z4)] rfl ?_
  refine X_if_eq hK 29 (by omega) kd38_22.2.2.2.2.2.2.2.2.2.2.1 (by decide) (fun c6 => ?_) (fun c6 => ?_)
  · refine X_iconst hK kd38_23.2.2.2.2.2.2.2.2.2.1 ?_
    exact hret _ _ _ _ _ _ _ kd38_23.2.2.2.2.2.2.2.2.2.2.1 (by omega) (by omega) ⟨rfl, 0, rfl, (by omega), (by omega), (by omega)⟩ (Nat.le_refl _) (Nat.le_refl _)
  · refine X_iloadn hK (i := 2) 2 kd38_22.2.2.2.2.2.2.2.2.2.2.2 rfl rfl ?_
    refine X_callS hK [.int (iI x2)] [] lk_X11_159 (c_X11_isDay _ _ _ _ _ S g x2 (by omega)) kd38_23.1 rfl rfl (by simp [Value.category]) (by decide) (by decide) (by decide) (by decide) (fun r7 S9 g8 pr7 qr7 hg8 => ?_)
    obtain ⟨rfl, rfl, z10, rfl, lz10, uz10, k11⟩ := pr7
    refine X_st [.int (iI z10)] rfl ?_
    refine X_if_eq hK 29 (by omega) kd38_23.2.1 (by decide) (fun c12 => ?_) (fun c12 => ?_)
    · refine X_iconst hK kd38_23.2.2.2.2.2.2.2.2.2.1 ?_
      exact hret _ _ _ _ _ _ _ kd38_23.2.2.2.2.2.2.2.2.2.2.1 (by omega) (by omega) ⟨rfl, 0, rfl, (by omega), (by omega), (by omega)⟩ (Nat.le_refl _) (Nat.le_refl _)
    · refine X_iloadn hK (i := 2) 2 kd38_23.2.2.1 rfl rfl ?_
      refine X_aloadn hK (i := 0) 0 kd38_23.2.2.2.1 rfl rfl ?_
      refine X_getK hK fl_X11_83_12 hs_a0 etd kd38_23.2.2.2.2.1 ?_
      refine X_icmp_lt hK 29 (by omega) (by omega) kd38_23.2.2.2.2.2.1 (by decide) (fun c13 => ?_) (fun c13 => ?_)
      · refine X_iconst hK kd38_23.2.2.2.2.2.2.2.2.2.1 ?_
        exact hret _ _ _ _ _ _ _ kd38_23.2.2.2.2.2.2.2.2.2.2.1 (by omega) (by omega) ⟨rfl, 0, rfl, (by omega), (by omega), (by omega)⟩ (Nat.le_refl _) (Nat.le_refl _)
      · refine X_iloadn hK (i := 3) 3 kd38_23.2.2.2.2.2.2.1 rfl rfl ?_
        refine X_callS hK [.int (iI x3)] [] lk_X11_168 (c_X11_isHeadline _ _ _ _ _ S g x3 (by omega)) kd38_23.2.2.2.2.2.2.2.1 rfl rfl (by simp [Value.category]) (by decide) (by decide) (by decide) (by decide) (fun r14 S16 g15 pr14 qr14 hg15 => ?_)
        obtain ⟨rfl, rfl, z17, rfl, lz17, uz17, k18⟩ := pr14
        refine X_st [.int (iI z17)] rfl ?_
        refine X_if_ne hK 31 (by omega) kd38_23.2.2.2.2.2.2.2.2.1 (by decide) (fun c19 => ?_) (fun c19 => ?_)
        · refine X_aloadn hK (i := 0) 0 kd38_23.2.2.2.2.2.2.2.2.2.2.2 rfl rfl ?_
          refine X_getr hK 4 0 fl_X11_27_12 hs_a0 sl_12_2 kd38_24.1 (fun b20 eb20 hs_b20 => ?_)
          refine X_getr hK 10904 4 fl_X11_171_4 hs_b20 sl_4_1 kd38_24.2.1 (fun b21 eb21 hs_b21 => ?_)
          refine X_iloadn hK (i := 1) 1 kd38_24.2.2.1 rfl rfl ?_
          refine X_aald hK 10800 400 hs_b21 (by decide) sl_10904 (by omega) (by omega) kd38_24.2.2.2.1 (fun b22 eb22 hs_b22 => ?_)
          refine X_iloadn hK (i := 2) 2 kd38_24.2.2.2.2.1 rfl rfl ?_
          refine X_iloadn hK (i := 3) 3 kd38_24.2.2.2.2.2.1 rfl rfl ?_
          refine X_iast hK hs_b22 (by decide) (by decide) sl_10800 (by omega) (by omega) (by omega) (by omega) kd38_24.2.2.2.2.2.2.1 (fun g23 hg23 => ?_)
          refine X_iconst hK kd38_24.2.2.2.2.2.2.2.1 ?_
          exact hret _ _ _ _ _ _ _ kd38_24.2.2.2.2.2.2.2.2.1 (by omega) (by omega) ⟨rfl, 1, rfl, (by omega), (by omega), (by omega)⟩ (Nat.le_refl _) (Nat.le_refl _)
        · refine X_iconst hK kd38_23.2.2.2.2.2.2.2.2.2.1 ?_
          exact hret _ _ _ _ _ _ _ kd38_23.2.2.2.2.2.2.2.2.2.2.1 (by omega) (by omega) ⟨rfl, 0, rfl, (by omega), (by omega), (by omega)⟩ (Nat.le_refl _) (Nat.le_refl _)

set_option maxHeartbeats 4000000 in
set_option maxRecDepth 100000 in
theorem c_X11_table (l : Launch) (D : va_G) (kA : Nat → ClassId) (b0 : Nat) (t0 : Nat → Nat) (S : xT) (g : xG) (a0 : Nat) (x1 : Int) (x2 : Int) (x3 : Int) (ct : Nat) (wt : Nat) (ld : Nat) (hs_a0 : S a0 = some (12, 0)) (hx1 : (-2147483648) ≤ x1 ∧ x1 ≤ 2147483647) (hx2 : (-2147483648) ≤ x2 ∧ x2 ≤ 2147483647) (hx3 : (-2147483648) ≤ x3 ∧ x3 ≤ 2147483647) (ect : g a0 2 = .ref ct) (hs_ct : S ct = some (4, 0)) (ewt : g ct 2 = .ref wt) (hs_wt : S wt = some (11000, 4)) (eld : g ct 3 = .ref ld) (hs_ld : S ld = some (11100, 6)) : xMt l yX11_table cX11_table 4 (some .boolean) 2 0 0 42 D kA b0 t0 [(11100, 0), (11000, 0)] [.ref a0, .int (iI x1), .int (iI x2), .int (iI x3)] S g (fun (r : Option Value) (S1 : xT) (g1 : xG) => S = S1 ∧ ∃ z : Int, r = some (.int (iI z)) ∧ 0 ≤ z ∧ z ≤ 1 ∧ ((z = 1 ↔ 0 ≤ x3 ∧ x3 ≤ 300 ∧ ((x1 = 0 ∧ 0 ≤ x2 ∧ x2 ≤ 3) ∨ (x1 = 1 ∧ 0 ≤ x2 ∧ x2 ≤ 5)))) ∧ (xTb (xv g1 wt) (xv g wt) (xv g1 ld) (xv g ld) z x1 x2 x3)) := by
  refine xEnterZ (by decide) (by simp [lg_sl, Value.category]) [(0, .ref a0), (1, .int (iI x1)), (2, .int (iI x2)), (3, .int (iI x3))] rfl ?_
  intro K E hK hret _ _ _
  refine X_iloadn hK (i := 3) 3 kd38_46.2.2.2.2.2.2.2.2.2.1 rfl rfl ?_
  refine X_iconst hK kd38_46.2.2.2.2.2.2.2.2.2.2.1 ?_
  refine X_sipush hK kd38_46.2.2.2.2.2.2.2.2.2.2.2 (by decide) ?_
  refine X_callS hK [.int (iI x3), .int (iI 0), .int (iI 300)] [] lk_X11_115 (c_X11_within _ _ _ _ _ S g x3 0 300 (by omega) (by omega) (by omega)) kd38_47.1 rfl rfl (by simp [Value.category]) (by decide) (by decide) (by decide) (by decide) (fun r1 S3 g2 pr1 qr1 hg2 => ?_)
  obtain ⟨rfl, rfl, z4, rfl, lz4, uz4, k5⟩ := pr1
  refine X_st [.int (iI z4)] rfl ?_
  refine X_if_ne hK 13 (by omega) kd38_47.2.1 (by decide) (fun c6 => ?_) (fun c6 => ?_)
  · refine X_iloadn hK (i := 1) 1 kd38_47.2.2.2.2.1 rfl rfl ?_
    refine X_if_ne hK 36 (by omega) kd38_47.2.2.2.2.2.1 (by decide) (fun c7 => ?_) (fun c7 => ?_)
    · refine X_iloadn hK (i := 1) 1 kd38_48.2.2.2.2.2.1 rfl rfl ?_
      refine X_iconst hK kd38_48.2.2.2.2.2.2.1 ?_
      refine X_icmp_ne hK 60 (by omega) (by omega) kd38_48.2.2.2.2.2.2.2.1 (by decide) (fun c8 => ?_) (fun c8 => ?_)
      · refine X_iconst hK kd38_49.2.2.2.2.2.2.2.1 ?_
        exact hret _ _ _ _ _ _ _ kd38_49.2.2.2.2.2.2.2.2.1 (by omega) (by omega) ⟨rfl, 0, rfl, (by omega), (by omega), (by omega), (Or.inr (Or.inr ⟨by omega, rfl, rfl⟩))⟩ (Nat.le_refl _) (Nat.le_refl _)
      · refine X_iloadn hK (i := 2) 2 kd38_48.2.2.2.2.2.2.2.2.1 rfl rfl ?_
        refine X_callS hK [.int (iI x2)] [] lk_X11_168 (c_X11_isHeadline _ _ _ _ _ S g x2 (by omega)) kd38_48.2.2.2.2.2.2.2.2.2.1 rfl rfl (by simp [Value.category]) (by decide) (by decide) (by decide) (by decide) (fun r9 S11 g10 pr9 qr9 hg10 => ?_)
        obtain ⟨rfl, rfl, z12, rfl, lz12, uz12, k13⟩ := pr9
        refine X_st [.int (iI z12)] rfl ?_
        refine X_if_eq hK 60 (by omega) kd38_48.2.2.2.2.2.2.2.2.2.2.1 (by decide) (fun c14 => ?_) (fun c14 => ?_)
        · refine X_iconst hK kd38_49.2.2.2.2.2.2.2.1 ?_
          exact hret _ _ _ _ _ _ _ kd38_49.2.2.2.2.2.2.2.2.1 (by omega) (by omega) ⟨rfl, 0, rfl, (by omega), (by omega), (by omega), (Or.inr (Or.inr ⟨by omega, rfl, rfl⟩))⟩ (Nat.le_refl _) (Nat.le_refl _)
        · refine X_aloadn hK (i := 0) 0 kd38_48.2.2.2.2.2.2.2.2.2.2.2 rfl rfl ?_
          refine X_getK hK fl_X11_27_12 hs_a0 ect kd38_49.1 ?_
          refine X_getK hK fl_X11_180_4 hs_ct eld kd38_49.2.1 ?_
          refine X_iloadn hK (i := 2) 2 kd38_49.2.2.1 rfl rfl ?_
          refine X_iloadn hK (i := 3) 3 kd38_49.2.2.2.1 rfl rfl ?_
          refine X_iast hK hs_ld (by decide) (by decide) sl_11100 (by omega) (by omega) (by omega) (by omega) kd38_49.2.2.2.2.1 (fun g15 hg15 => ?_)
          refine X_iconst hK kd38_49.2.2.2.2.2.1 ?_
          exact hret _ _ _ _ _ _ _ kd38_49.2.2.2.2.2.2.1 (by omega) (by omega) ⟨rfl, 1, rfl, (by omega), (by omega), (by omega), (Or.inr (Or.inl ⟨rfl, by omega, (xv_a hg15 (xne hs_wt hs_ld (by decide))), (xUp.of hg15 (by omega) (by omega))⟩))⟩ (Nat.le_refl _) (Nat.le_refl _)
    · refine X_iloadn hK (i := 2) 2 kd38_47.2.2.2.2.2.2.1 rfl rfl ?_
      refine X_callS hK [.int (iI x2)] [] lk_X11_175 (c_X11_isWeather _ _ _ _ _ S g x2 (by omega)) kd38_47.2.2.2.2.2.2.2.1 rfl rfl (by simp [Value.category]) (by decide) (by decide) (by decide) (by decide) (fun r16 S18 g17 pr16 qr16 hg17 => ?_)
      obtain ⟨rfl, rfl, z19, rfl, lz19, uz19, k20⟩ := pr16
      refine X_st [.int (iI z19)] rfl ?_
      refine X_if_eq hK 36 (by omega) kd38_47.2.2.2.2.2.2.2.2.1 (by decide) (fun c21 => ?_) (fun c21 => ?_)
      · refine X_iloadn hK (i := 1) 1 kd38_48.2.2.2.2.2.1 rfl rfl ?_
        refine X_iconst hK kd38_48.2.2.2.2.2.2.1 ?_
        refine X_icmp_ne hK 60 (by omega) (by omega) kd38_48.2.2.2.2.2.2.2.1 (by decide) (fun c22 => ?_) (fun c22 => False.elim (by omega))
        refine X_iconst hK kd38_49.2.2.2.2.2.2.2.1 ?_
        exact hret _ _ _ _ _ _ _ kd38_49.2.2.2.2.2.2.2.2.1 (by omega) (by omega) ⟨rfl, 0, rfl, (by omega), (by omega), (by omega), (Or.inr (Or.inr ⟨by omega, rfl, rfl⟩))⟩ (Nat.le_refl _) (Nat.le_refl _)
      · refine X_aloadn hK (i := 0) 0 kd38_47.2.2.2.2.2.2.2.2.2.1 rfl rfl ?_
        refine X_getK hK fl_X11_27_12 hs_a0 ect kd38_47.2.2.2.2.2.2.2.2.2.2.1 ?_
        refine X_getK hK fl_X11_177_4 hs_ct ewt kd38_47.2.2.2.2.2.2.2.2.2.2.2 ?_
        refine X_iloadn hK (i := 2) 2 kd38_48.1 rfl rfl ?_
        refine X_iloadn hK (i := 3) 3 kd38_48.2.1 rfl rfl ?_
        refine X_iast hK hs_wt (by decide) (by decide) sl_11000 (by omega) (by omega) (by omega) (by omega) kd38_48.2.2.1 (fun g23 hg23 => ?_)
        refine X_iconst hK kd38_48.2.2.2.1 ?_
        exact hret _ _ _ _ _ _ _ kd38_48.2.2.2.2.1 (by omega) (by omega) ⟨rfl, 1, rfl, (by omega), (by omega), (by omega), (Or.inl ⟨rfl, by omega, (xUp.of hg23 (by omega) (by omega)), (xv_a hg23 (xne hs_ld hs_wt (by decide)))⟩)⟩ (Nat.le_refl _) (Nat.le_refl _)
  · refine X_iconst hK kd38_47.2.2.1 ?_
    exact hret _ _ _ _ _ _ _ kd38_47.2.2.2.1 (by omega) (by omega) ⟨rfl, 0, rfl, (by omega), (by omega), (by omega), (Or.inr (Or.inr ⟨by omega, rfl, rfl⟩))⟩ (Nat.le_refl _) (Nat.le_refl _)

set_option maxHeartbeats 4000000 in
set_option maxRecDepth 100000 in
theorem c_X11_want (l : Launch) (D : va_G) (kA : Nat → ClassId) (b0 : Nat) (t0 : Nat → Nat) (S : xT) (g : xG) (a0 : Nat) (x1 : Int) (x2 : Int) (x3 : Int) (ct : Nat) (wg : Nat) (hs_a0 : S a0 = some (12, 0)) (hx1 : (-2147483648) ≤ x1 ∧ x1 ≤ 2147483647) (hx2 : (-2147483648) ≤ x2 ∧ x2 ≤ 2147483647) (hx3 : (-2147483648) ≤ x3 ∧ x3 ≤ 2147483647) (ect : g a0 2 = .ref ct) (hs_ct : S ct = some (4, 0)) (ewg : g ct 4 = .ref wg) (hs_wg : S wg = some (11304, 10)) : xMt l yX11_want cX11_want 4 (some .boolean) 2 0 0 42 D kA b0 t0 [(11200, 0)] [.ref a0, .int (iI x1), .int (iI x2), .int (iI x3)] S g (fun (r : Option Value) (S1 : xT) (g1 : xG) => S = S1 ∧ ∃ z : Int, r = some (.int (iI z)) ∧ 0 ≤ z ∧ z ≤ 1 ∧ ((z = 1 ↔ 0 ≤ x1 ∧ x1 ≤ 9 ∧ 0 ≤ x2 ∧ x2 ≤ 3 ∧ 0 ≤ x3 ∧ x3 ≤ 400)) ∧ ((z = 1 → ∃ w : Nat, g wg x1.toNat = .ref w ∧ xFr 11200 S g g1 w ∧ xUp (xv g1 w) (xv g w) x2 x3) ∧ (z ≠ 1 → ∀ a n : Nat, S a = some (11200, n) → xv g1 a = xv g a))) := by
  refine xEnterZ (by decide) (by simp [lg_sl, Value.category]) [(0, .ref a0), (1, .int (iI x1)), (2, .int (iI x2)), (3, .int (iI x3))] rfl ?_
  intro K E hK hret _ _ _
  refine X_iloadn hK (i := 1) 1 kd38_55.2.2.1 rfl rfl ?_
  refine X_callS hK [.int (iI x1)] [] lk_X11_142 (c_X11_isCorner _ _ _ _ _ S g x1 (by omega)) kd38_55.2.2.2.1 rfl rfl (by simp [Value.category]) (by decide) (by decide) (by decide) (by decide) (fun r1 S3 g2 pr1 qr1 hg2 => ?_)
  obtain ⟨rfl, rfl, z4, rfl, lz4, uz4, k5⟩ := pr1
  refine X_st [.int (iI z4)] rfl ?_
  refine X_if_eq hK 25 (by omega) kd38_55.2.2.2.2.1 (by decide) (fun c6 => ?_) (fun c6 => ?_)
  · refine X_iconst hK kd38_56.2.1 ?_
    exact hret _ _ _ _ _ _ _ kd38_56.2.2.1 (by omega) (by omega) ⟨rfl, 0, rfl, (by omega), (by omega), (by omega), ⟨fun h9 => by omega, fun _ _ _ _ => rfl⟩⟩ (Nat.le_refl _) (Nat.le_refl _)
  · refine X_iloadn hK (i := 2) 2 kd38_55.2.2.2.2.2.1 rfl rfl ?_
    refine X_callS hK [.int (iI x2)] [] lk_X11_165 (c_X11_isPaper _ _ _ _ _ S g x2 (by omega)) kd38_55.2.2.2.2.2.2.1 rfl rfl (by simp [Value.category]) (by decide) (by decide) (by decide) (by decide) (fun r7 S9 g8 pr7 qr7 hg8 => ?_)
    obtain ⟨rfl, rfl, z10, rfl, lz10, uz10, k11⟩ := pr7
    refine X_st [.int (iI z10)] rfl ?_
    refine X_if_eq hK 25 (by omega) kd38_55.2.2.2.2.2.2.2.1 (by decide) (fun c12 => ?_) (fun c12 => ?_)
    · refine X_iconst hK kd38_56.2.1 ?_
      exact hret _ _ _ _ _ _ _ kd38_56.2.2.1 (by omega) (by omega) ⟨rfl, 0, rfl, (by omega), (by omega), (by omega), ⟨fun h9 => by omega, fun _ _ _ _ => rfl⟩⟩ (Nat.le_refl _) (Nat.le_refl _)
    · refine X_iloadn hK (i := 3) 3 kd38_55.2.2.2.2.2.2.2.2.1 rfl rfl ?_
      refine X_iconst hK kd38_55.2.2.2.2.2.2.2.2.2.1 ?_
      refine X_sipush hK kd38_55.2.2.2.2.2.2.2.2.2.2.1 (by decide) ?_
      refine X_callS hK [.int (iI x3), .int (iI 0), .int (iI 400)] [] lk_X11_115 (c_X11_within _ _ _ _ _ S g x3 0 400 (by omega) (by omega) (by omega)) kd38_55.2.2.2.2.2.2.2.2.2.2.2 rfl rfl (by simp [Value.category]) (by decide) (by decide) (by decide) (by decide) (fun r13 S15 g14 pr13 qr13 hg14 => ?_)
      obtain ⟨rfl, rfl, z16, rfl, lz16, uz16, k17⟩ := pr13
      refine X_st [.int (iI z16)] rfl ?_
      refine X_if_ne hK 27 (by omega) kd38_56.1 (by decide) (fun c18 => ?_) (fun c18 => ?_)
      · refine X_aloadn hK (i := 0) 0 kd38_56.2.2.2.1 rfl rfl ?_
        refine X_getK hK fl_X11_27_12 hs_a0 ect kd38_56.2.2.2.2.1 ?_
        refine X_getK hK fl_X11_183_4 hs_ct ewg kd38_56.2.2.2.2.2.1 ?_
        refine X_iloadn hK (i := 1) 1 kd38_56.2.2.2.2.2.2.1 rfl rfl ?_
        refine X_aald hK 11200 4 hs_wg (by decide) sl_11304 (by omega) (by omega) kd38_56.2.2.2.2.2.2.2.1 (fun b19 eb19 hs_b19 => ?_)
        refine X_iloadn hK (i := 2) 2 kd38_56.2.2.2.2.2.2.2.2.1 rfl rfl ?_
        refine X_iloadn hK (i := 3) 3 kd38_56.2.2.2.2.2.2.2.2.2.1 rfl rfl ?_
        refine X_iast hK hs_b19 (by decide) (by decide) sl_11200 (by omega) (by omega) (by omega) (by omega) kd38_56.2.2.2.2.2.2.2.2.2.2.1 (fun g20 hg20 => ?_)
        refine X_iconst hK kd38_56.2.2.2.2.2.2.2.2.2.2.2 ?_
        exact hret _ _ _ _ _ _ _ kd38_57.1 (by omega) (by omega) ⟨rfl, 1, rfl, (by omega), (by omega), (by omega), ⟨fun _ => ⟨b19, eb19, xFr.w xFr.rf hg20, xUp.of hg20 (by omega) (by omega)⟩, fun h9 => absurd rfl h9⟩⟩ (Nat.le_refl _) (Nat.le_refl _)
      · refine X_iconst hK kd38_56.2.1 ?_
        exact hret _ _ _ _ _ _ _ kd38_56.2.2.1 (by omega) (by omega) ⟨rfl, 0, rfl, (by omega), (by omega), (by omega), ⟨fun h9 => by omega, fun _ _ _ _ => rfl⟩⟩ (Nat.le_refl _) (Nat.le_refl _)

set_option maxHeartbeats 4000000 in
set_option maxRecDepth 100000 in
theorem c_X11_asked (l : Launch) (D : va_G) (kA : Nat → ClassId) (b0 : Nat) (t0 : Nat → Nat) (S : xT) (g : xG) (a0 : Nat) (x1 : Int) (x2 : Int) (x3 : Int) (x4 : Int) (ct : Nat) (wg : Nat) (wt : Nat) (ld : Nat) (hs_a0 : S a0 = some (12, 0)) (hx1 : (-2147483648) ≤ x1 ∧ x1 ≤ 2147483647) (hx2 : (-2147483648) ≤ x2 ∧ x2 ≤ 2147483647) (hx3 : (-2147483648) ≤ x3 ∧ x3 ≤ 2147483647) (hx4 : (-2147483648) ≤ x4 ∧ x4 ≤ 2147483647) (ect : g a0 2 = .ref ct) (hs_ct : S ct = some (4, 0)) (ewg : g ct 4 = .ref wg) (hs_wg : S wg = some (11304, 10)) (ewt : g ct 2 = .ref wt) (hs_wt : S wt = some (11000, 4)) (eld : g ct 3 = .ref ld) (hs_ld : S ld = some (11100, 6)) : xMt l yX11_asked cX11_asked 5 (some .int) 2 0 0 42 D kA b0 t0 [] [.ref a0, .int (iI x1), .int (iI x2), .int (iI x3), .int (iI x4)] S g (fun (r : Option Value) (S1 : xT) (g1 : xG) => S = S1 ∧ g = g1 ∧ ∃ z : Int, r = some (.int (iI z)) ∧ (-1) ≤ z ∧ z ≤ 3600 ∧ ((xAv x1 x2 x3 x4 ∧ ∃ w : Nat, g wg x1.toNat = .ref w ∧ z = xas (xv g w x2) (xv g wt x3) (xv g ld x4)) ∨ (¬ xAv x1 x2 x3 x4 ∧ z = -1))) := by
  refine xEnterI (by decide) (by simp [lg_sl, Value.category]) [(0, .ref a0), (1, .int (iI x1)), (2, .int (iI x2)), (3, .int (iI x3)), (4, .int (iI x4))] rfl ?_
  intro K E hK hret _ _ _
  refine X_iloadn hK (i := 1) 1 kd38_3.2.2.2.2.2.2.1 rfl rfl ?_
  refine X_callS hK [.int (iI x1)] [] lk_X11_142 (c_X11_isCorner _ _ _ _ _ S g x1 (by omega)) kd38_3.2.2.2.2.2.2.2.1 rfl rfl (by simp [Value.category]) (by decide) (by decide) (by decide) (by decide) (fun r1 S3 g2 pr1 qr1 hg2 => ?_)
  obtain ⟨rfl, rfl, z4, rfl, lz4, uz4, k5⟩ := pr1
  refine X_st [.int (iI z4)] rfl ?_
  refine X_if_eq hK 29 (by omega) kd38_3.2.2.2.2.2.2.2.2.1 (by decide) (fun c6 => ?_) (fun c6 => ?_)
  · refine X_iconst hK kd38_4.2.2.2.2.2.2.1 ?_
    exact hret _ _ _ _ _ _ _ kd38_4.2.2.2.2.2.2.2.1 ⟨rfl, rfl, (-1), rfl, (by omega), (by omega), (Or.inr ⟨(by unfold xAv; omega), by omega⟩)⟩ (Nat.le_refl _) (Nat.le_refl _)
  · refine X_iloadn hK (i := 2) 2 kd38_3.2.2.2.2.2.2.2.2.2.1 rfl rfl ?_
    refine X_callS hK [.int (iI x2)] [] lk_X11_165 (c_X11_isPaper _ _ _ _ _ S g x2 (by omega)) kd38_3.2.2.2.2.2.2.2.2.2.2.1 rfl rfl (by simp [Value.category]) (by decide) (by decide) (by decide) (by decide) (fun r7 S9 g8 pr7 qr7 hg8 => ?_)
    obtain ⟨rfl, rfl, z10, rfl, lz10, uz10, k11⟩ := pr7
    refine X_st [.int (iI z10)] rfl ?_
    refine X_if_eq hK 29 (by omega) kd38_3.2.2.2.2.2.2.2.2.2.2.2 (by decide) (fun c12 => ?_) (fun c12 => ?_)
    · refine X_iconst hK kd38_4.2.2.2.2.2.2.1 ?_
      exact hret _ _ _ _ _ _ _ kd38_4.2.2.2.2.2.2.2.1 ⟨rfl, rfl, (-1), rfl, (by omega), (by omega), (Or.inr ⟨(by unfold xAv; omega), by omega⟩)⟩ (Nat.le_refl _) (Nat.le_refl _)
    · refine X_iloadn hK (i := 3) 3 kd38_4.1 rfl rfl ?_
      refine X_callS hK [.int (iI x3)] [] lk_X11_175 (c_X11_isWeather _ _ _ _ _ S g x3 (by omega)) kd38_4.2.1 rfl rfl (by simp [Value.category]) (by decide) (by decide) (by decide) (by decide) (fun r13 S15 g14 pr13 qr13 hg14 => ?_)
      obtain ⟨rfl, rfl, z16, rfl, lz16, uz16, k17⟩ := pr13
      refine X_st [.int (iI z16)] rfl ?_
      refine X_if_eq hK 29 (by omega) kd38_4.2.2.1 (by decide) (fun c18 => ?_) (fun c18 => ?_)
      · refine X_iconst hK kd38_4.2.2.2.2.2.2.1 ?_
        exact hret _ _ _ _ _ _ _ kd38_4.2.2.2.2.2.2.2.1 ⟨rfl, rfl, (-1), rfl, (by omega), (by omega), (Or.inr ⟨(by unfold xAv; omega), by omega⟩)⟩ (Nat.le_refl _) (Nat.le_refl _)
      · refine X_iload hK (i := 4) 4 kd38_4.2.2.2.1 rfl ?_
        refine X_callS hK [.int (iI x4)] [] lk_X11_168 (c_X11_isHeadline _ _ _ _ _ S g x4 (by omega)) kd38_4.2.2.2.2.1 rfl rfl (by simp [Value.category]) (by decide) (by decide) (by decide) (by decide) (fun r19 S21 g20 pr19 qr19 hg20 => ?_)
        obtain ⟨rfl, rfl, z22, rfl, lz22, uz22, k23⟩ := pr19
        refine X_st [.int (iI z22)] rfl ?_
        refine X_if_ne hK 31 (by omega) kd38_4.2.2.2.2.2.1 (by decide) (fun c24 => ?_) (fun c24 => ?_)
        · refine X_aloadn hK (i := 0) 0 kd38_4.2.2.2.2.2.2.2.2.1 rfl rfl ?_
          refine X_getK hK fl_X11_27_12 hs_a0 ect kd38_4.2.2.2.2.2.2.2.2.2.1 ?_
          refine X_iloadn hK (i := 1) 1 kd38_4.2.2.2.2.2.2.2.2.2.2.1 rfl rfl ?_
          refine X_iloadn hK (i := 2) 2 kd38_4.2.2.2.2.2.2.2.2.2.2.2 rfl rfl ?_
          refine X_iloadn hK (i := 3) 3 kd38_5.1 rfl rfl ?_
          refine X_iload hK (i := 4) 4 kd38_5.2.1 rfl ?_
          refine X_callV hK [.int (iI x1), .int (iI x2), .int (iI x3), .int (iI x4)] [] lk_X11_186 (c_X3_askedFor _ _ _ _ _ S g ct x1 x2 x3 x4 wg wt ld hs_ct (by omega) (by omega) (by omega) (by omega) ewg hs_wg ewt hs_wt eld hs_ld) hs_ct ⟨by decide, rfl⟩ kd38_5.2.2.1 rfl rfl (by simp [Value.category]) (by decide) (by decide) (by decide) (by decide) (fun r25 S27 g26 pr25 qr25 hg26 => ?_)
          obtain ⟨rfl, rfl, z28, rfl, lz28, uz28, k29⟩ := pr25
          refine X_st [.int (iI z28)] rfl ?_
          exact hret _ _ _ _ _ _ _ kd38_5.2.2.2.1 ⟨rfl, rfl, z28, rfl, (by omega), (by omega), (Or.inl ⟨(by unfold xAv; omega), k29⟩)⟩ (Nat.le_refl _) (Nat.le_refl _)
        · refine X_iconst hK kd38_4.2.2.2.2.2.2.1 ?_
          exact hret _ _ _ _ _ _ _ kd38_4.2.2.2.2.2.2.2.1 ⟨rfl, rfl, (-1), rfl, (by omega), (by omega), (Or.inr ⟨(by unfold xAv; omega), by omega⟩)⟩ (Nat.le_refl _) (Nat.le_refl _)

set_option maxHeartbeats 4000000 in
set_option maxRecDepth 100000 in
theorem c_X11_counted (l : Launch) (D : va_G) (kA : Nat → ClassId) (b0 : Nat) (t0 : Nat → Nat) (S : xT) (g : xG) (a0 : Nat) (x1 : Int) (x2 : Int) (x3 : Int) (x4 : Int) (w0 : Nat) (n0 : Int) (td : Int) (hs_a0 : S a0 = some (12, 0)) (hx1 : (-2147483648) ≤ x1 ∧ x1 ≤ 2147483647) (hx2 : (-2147483648) ≤ x2 ∧ x2 ≤ 2147483647) (hx3 : (-2147483648) ≤ x3 ∧ x3 ≤ 2147483647) (hx4 : (-2147483648) ≤ x4 ∧ x4 ≤ 2147483647) (ew0 : g a0 3 = .ref w0) (hs_w0 : S w0 = some (5, 0)) (hn0 : 0 ≤ n0 ∧ n0 ≤ 60) (en0 : g w0 3 = .int (iI n0)) (htd : 0 ≤ td ∧ td ≤ 400) (etd : g a0 12 = .int (iI td)) : xMt l yX11_counted cX11_counted 5 (some .int) 2 0 0 42 D kA b0 t0 [(11700, 0), (11800, 0), (11900, 0), (5, 3)] [.ref a0, .int (iI x1), .int (iI x2), .int (iI x3), .int (iI x4)] S g (fun (r : Option Value) (S1 : xT) (g1 : xG) => S = S1 ∧ ∃ z : Int, r = some (.int (iI z)) ∧ (-1) ≤ z ∧ z ≤ 59 ∧ (z = if n0 < 60 ∧ 0 ≤ x1 ∧ x1 ≤ 3 ∧ 0 ≤ x2 ∧ x2 ≤ 9 ∧ 0 ≤ x3 ∧ x3 < td ∧ 0 ≤ x4 ∧ x4 ≤ 10000 then n0 else -1) ∧ (g1 w0 3 = .int (iI (if n0 < 60 ∧ 0 ≤ x1 ∧ x1 ≤ 3 ∧ 0 ≤ x2 ∧ x2 ≤ 9 ∧ 0 ≤ x3 ∧ x3 < td ∧ 0 ≤ x4 ∧ x4 ≤ 10000 then n0 + 1 else n0)))) := by
  refine xEnterI (by decide) (by simp [lg_sl, Value.category]) [(0, .ref a0), (1, .int (iI x1)), (2, .int (iI x2)), (3, .int (iI x3)), (4, .int (iI x4))] rfl ?_
  intro K E hK hret _ _ _
  refine X_aloadn hK (i := 0) 0 kd38_14.1 rfl rfl ?_
  refine X_getK hK fl_X11_31_12 hs_a0 ew0 kd38_14.2.1 ?_
  refine X_getK hK fl_X11_278_5 hs_w0 en0 kd38_14.2.2.1 ?_
  refine X_bipush hK kd38_14.2.2.2.1 (by decide) ?_
  refine X_icmp_ge hK 52 (by omega) (by omega) kd38_14.2.2.2.2.1 (by decide) (fun c1 => ?_) (fun c1 => ?_)
  · refine X_iconst hK kd38_16.1 ?_
    exact hret _ _ _ _ _ _ _ kd38_16.2.1 ⟨rfl, (-1), rfl, (by omega), (by omega), (by omega), (en0.trans (by congr 2 <;> omega))⟩ (Nat.le_refl _) (Nat.le_refl _)
  · refine X_iloadn hK (i := 1) 1 kd38_14.2.2.2.2.2.1 rfl rfl ?_
    refine X_callS hK [.int (iI x1)] [] lk_X11_165 (c_X11_isPaper _ _ _ _ _ S g x1 (by omega)) kd38_14.2.2.2.2.2.2.1 rfl rfl (by simp [Value.category]) (by decide) (by decide) (by decide) (by decide) (fun r2 S4 g3 pr2 qr2 hg3 => ?_)
    obtain ⟨rfl, rfl, z5, rfl, lz5, uz5, k6⟩ := pr2
    refine X_st [.int (iI z5)] rfl ?_
    refine X_if_eq hK 52 (by omega) kd38_14.2.2.2.2.2.2.2.1 (by decide) (fun c7 => ?_) (fun c7 => ?_)
    · refine X_iconst hK kd38_16.1 ?_
      exact hret _ _ _ _ _ _ _ kd38_16.2.1 ⟨rfl, (-1), rfl, (by omega), (by omega), (by omega), (en0.trans (by congr 2 <;> omega))⟩ (Nat.le_refl _) (Nat.le_refl _)
    · refine X_iloadn hK (i := 2) 2 kd38_14.2.2.2.2.2.2.2.2.1 rfl rfl ?_
      refine X_callS hK [.int (iI x2)] [] lk_X11_142 (c_X11_isCorner _ _ _ _ _ S g x2 (by omega)) kd38_14.2.2.2.2.2.2.2.2.2.1 rfl rfl (by simp [Value.category]) (by decide) (by decide) (by decide) (by decide) (fun r8 S10 g9 pr8 qr8 hg9 => ?_)
      obtain ⟨rfl, rfl, z11, rfl, lz11, uz11, k12⟩ := pr8
      refine X_st [.int (iI z11)] rfl ?_
      refine X_if_eq hK 52 (by omega) kd38_14.2.2.2.2.2.2.2.2.2.2.1 (by decide) (fun c13 => ?_) (fun c13 => ?_)
      · refine X_iconst hK kd38_16.1 ?_
        exact hret _ _ _ _ _ _ _ kd38_16.2.1 ⟨rfl, (-1), rfl, (by omega), (by omega), (by omega), (en0.trans (by congr 2 <;> omega))⟩ (Nat.le_refl _) (Nat.le_refl _)
      · refine X_iloadn hK (i := 3) 3 kd38_14.2.2.2.2.2.2.2.2.2.2.2 rfl rfl ?_
        refine X_iconst hK kd38_15.1 ?_
        refine X_aloadn hK (i := 0) 0 kd38_15.2.1 rfl rfl ?_
        refine X_getK hK fl_X11_83_12 hs_a0 etd kd38_15.2.2.1 ?_
        refine X_iconst hK kd38_15.2.2.2.1 ?_
        refine X_isub hK kd38_15.2.2.2.2.1 ?_
        refine X_callS hK [.int (iI x3), .int (iI 0), .int (iI (td - 1))] [] lk_X11_115 (c_X11_within _ _ _ _ _ S g x3 0 (td - 1) (by omega) (by omega) (by omega)) kd38_15.2.2.2.2.2.1 rfl rfl (by simp [Value.category]) (by decide) (by decide) (by decide) (by decide) (fun r14 S16 g15 pr14 qr14 hg15 => ?_)
        obtain ⟨rfl, rfl, z17, rfl, lz17, uz17, k18⟩ := pr14
        refine X_st [.int (iI z17)] rfl ?_
        refine X_if_eq hK 52 (by omega) kd38_15.2.2.2.2.2.2.1 (by decide) (fun c19 => ?_) (fun c19 => ?_)
        · refine X_iconst hK kd38_16.1 ?_
          exact hret _ _ _ _ _ _ _ kd38_16.2.1 ⟨rfl, (-1), rfl, (by omega), (by omega), (by omega), (en0.trans (by congr 2 <;> omega))⟩ (Nat.le_refl _) (Nat.le_refl _)
        · refine X_iload hK (i := 4) 4 kd38_15.2.2.2.2.2.2.2.1 rfl ?_
          refine X_iconst hK kd38_15.2.2.2.2.2.2.2.2.1 ?_
          refine X_sipush hK kd38_15.2.2.2.2.2.2.2.2.2.1 (by decide) ?_
          refine X_callS hK [.int (iI x4), .int (iI 0), .int (iI 10000)] [] lk_X11_115 (c_X11_within _ _ _ _ _ S g x4 0 10000 (by omega) (by omega) (by omega)) kd38_15.2.2.2.2.2.2.2.2.2.2.1 rfl rfl (by simp [Value.category]) (by decide) (by decide) (by decide) (by decide) (fun r20 S22 g21 pr20 qr20 hg21 => ?_)
          obtain ⟨rfl, rfl, z23, rfl, lz23, uz23, k24⟩ := pr20
          refine X_st [.int (iI z23)] rfl ?_
          refine X_if_ne hK 54 (by omega) kd38_15.2.2.2.2.2.2.2.2.2.2.2 (by decide) (fun c25 => ?_) (fun c25 => ?_)
          · refine X_aloadn hK (i := 0) 0 kd38_16.2.2.1 rfl rfl ?_
            refine X_getK hK fl_X11_31_12 hs_a0 ew0 kd38_16.2.2.2.1 ?_
            refine X_iloadn hK (i := 3) 3 kd38_16.2.2.2.2.1 rfl rfl ?_
            refine X_iloadn hK (i := 1) 1 kd38_16.2.2.2.2.2.1 rfl rfl ?_
            refine X_iloadn hK (i := 2) 2 kd38_16.2.2.2.2.2.2.1 rfl rfl ?_
            refine X_callS hK [.int (iI x3), .int (iI x1), .int (iI x2)] [.ref w0] lk_X11_279 (c_X11_placeOf _ _ _ _ _ S g x3 x1 x2 (by omega) (by omega) (by omega)) kd38_16.2.2.2.2.2.2.2.1 rfl rfl (by simp [Value.category]) (by decide) (by decide) (by decide) (by decide) (fun r26 S28 g27 pr26 qr26 hg27 => ?_)
            obtain ⟨rfl, rfl, z29, rfl, lz29, uz29⟩ := pr26
            refine X_st [.int (iI z29), .ref w0] rfl ?_
            refine X_iload hK (i := 4) 4 kd38_16.2.2.2.2.2.2.2.2.1 rfl ?_
            refine X_aloadn hK (i := 0) 0 kd38_16.2.2.2.2.2.2.2.2.2.1 rfl rfl ?_
            refine X_getK hK fl_X11_83_12 hs_a0 etd kd38_16.2.2.2.2.2.2.2.2.2.2.1 ?_
            refine X_callV hK [.int (iI z29), .int (iI x4), .int (iI td)] [] lk_X11_283 (c_X4_add _ _ _ _ _ S g w0 z29 x4 td n0 hs_w0 (by omega) (by omega) (by omega) (by omega) en0) hs_w0 ⟨by decide, rfl⟩ kd38_16.2.2.2.2.2.2.2.2.2.2.2 rfl rfl (by simp [Value.category]) (by decide) (by decide) (by decide) (by decide) (fun r30 S32 g31 pr30 qr30 hg31 => ?_)
            obtain ⟨rfl, rfl, k33⟩ := pr30
            refine X_st [] rfl ?_
            refine X_aloadn hK (i := 0) 0 kd38_17.1 rfl rfl ?_
            refine X_getK hK fl_X11_31_12 hs_a0 ((hg31 a0 12 0 3 hs_a0 (by decide)).trans ew0) kd38_17.2.1 ?_
            refine X_getK hK fl_X11_278_5 hs_w0 k33 kd38_17.2.2.1 ?_
            refine X_iconst hK kd38_17.2.2.2.1 ?_
            refine X_isub hK kd38_17.2.2.2.2.1 ?_
            exact hret _ _ _ _ _ _ _ kd38_17.2.2.2.2.2.1 ⟨rfl, ((if n0 < 60 then n0 + 1 else n0) - 1), rfl, (by omega), (by omega), (by omega), (k33.trans (by congr 2 <;> omega))⟩ (Nat.le_refl _) (Nat.le_refl _)
          · refine X_iconst hK kd38_16.1 ?_
            exact hret _ _ _ _ _ _ _ kd38_16.2.1 ⟨rfl, (-1), rfl, (by omega), (by omega), (by omega), (en0.trans (by congr 2 <;> omega))⟩ (Nat.le_refl _) (Nat.le_refl _)

set_option maxHeartbeats 4000000 in
set_option maxRecDepth 100000 in
theorem c_X11_weather (l : Launch) (D : va_G) (kA : Nat → ClassId) (b0 : Nat) (t0 : Nat → Nat) (S : xT) (g : xG) (a0 : Nat) (w0 : Nat) (n0 : Int) (y0 : Nat) (ct : Nat) (sk : Nat) (hs_a0 : S a0 = some (12, 0)) (ew0 : g a0 0 = .ref w0) (hs_w0 : S w0 = some (10, 0)) (hn0 : 0 ≤ n0 ∧ n0 ≤ 420) (en0 : g w0 1 = .int (iI n0)) (ey0 : g w0 0 = .ref y0) (hs_y0 : S y0 = some (13500, 420)) (ect : g a0 2 = .ref ct) (hs_ct : S ct = some (4, 0)) (esk : g ct 0 = .ref sk) (hs_sk : S sk = some (10700, 400)) : xMt l yX11_weather cX11_weather 2 (some .boolean) 1 0 0 24 D kA b0 t0 [(10, 1), (10700, 0)] [.ref a0] S g (fun (r : Option Value) (S1 : xT) (g1 : xG) => S = S1 ∧ ∃ z : Int, r = some (.int (iI z)) ∧ 0 ≤ z ∧ z ≤ 1 ∧ (g1 w0 1 = .int (iI (0))) ∧ ((z = 1 ↔ 1 ≤ n0 ∧ n0 ≤ 400 ∧ xWk (xv g y0) n0)) ∧ ((z = 1 → xSky (xv g1 sk) (xv g y0) n0 400) ∧ (z ≠ 1 → xv g1 sk = xv g sk))) := by
  refine xEnterZ (by decide) (by simp [lg_sl, Value.category]) [(0, .ref a0)] rfl ?_
  intro K E hK hret _ _ _
  refine X_aloadn hK (i := 0) 0 kd38_57.2.1 rfl rfl ?_
  refine X_getK hK fl_X11_10_12 hs_a0 ew0 kd38_57.2.2.1 ?_
  refine X_getK hK fl_X11_102_10 hs_w0 en0 kd38_57.2.2.2.1 ?_
  refine X_iconst hK kd38_57.2.2.2.2.1 ?_
  refine X_sipush hK kd38_57.2.2.2.2.2.1 (by decide) ?_
  refine X_callS hK [.int (iI n0), .int (iI 1), .int (iI 400)] [] lk_X11_115 (c_X11_within _ _ _ _ _ S g n0 1 400 (by omega) (by omega) (by omega)) kd38_57.2.2.2.2.2.2.1 rfl rfl (by simp [Value.category]) (by decide) (by decide) (by decide) (by decide) (fun r1 S3 g2 pr1 qr1 hg2 => ?_)
  obtain ⟨rfl, rfl, z4, rfl, lz4, uz4, k5⟩ := pr1
  refine X_st [.int (iI z4)] rfl ?_
  refine X_if_eq hK 31 (by omega) kd38_57.2.2.2.2.2.2.2.1 (by decide) (fun c6 => ?_) (fun c6 => ?_)
  · refine X_iconst hK kd38_58.2.2.1 ?_
    refine X_istoren hK (i := 1) [(1, .int (iI 0)), (0, .ref a0)] kd38_58.2.2.2.1 rfl (by decide) rfl ?_
    refine X_iloadn hK (i := 1) 0 kd38_58.2.2.2.2.1 rfl rfl ?_
    refine X_if_eq hK 48 (by omega) kd38_58.2.2.2.2.2.1 (by decide) (fun c7 => ?_) (fun c7 => False.elim (by omega))
    refine X_aloadn hK (i := 0) 1 kd38_58.2.2.2.2.2.2.2.2.2.2.2 rfl rfl ?_
    refine X_getK hK fl_X11_10_12 hs_a0 ew0 kd38_59.1 ?_
    refine X_iconst hK kd38_59.2.1 ?_
    refine X_puti hK fl_X11_102_10 hs_w0 (by decide) sl_10_1 (by omega) (by omega) kd38_59.2.2.1 (fun g8 hg8 => ?_)
    refine X_iloadn hK (i := 1) 0 kd38_59.2.2.2.1 rfl rfl ?_
    exact hret _ _ _ _ _ _ _ kd38_59.2.2.2.2.1 (by omega) (by omega) ⟨rfl, 0, rfl, (by omega), (by omega), ((xs_s hg8).trans (by congr 2 <;> omega)), ⟨fun h9 => by omega, fun h9 => by omega⟩, ⟨fun h9 => by omega, fun _ => (xv_a hg8 (xne hs_sk hs_w0 (by decide)))⟩⟩ (Nat.le_refl _) (Nat.le_refl _)
  · refine X_aloadn hK (i := 0) 0 kd38_57.2.2.2.2.2.2.2.2.1 rfl rfl ?_
    refine X_getK hK fl_X11_10_12 hs_a0 ew0 kd38_57.2.2.2.2.2.2.2.2.2.1 ?_
    refine X_callV hK [] [] lk_X11_151 (c_X9_isWeather _ _ _ _ _ S g w0 y0 n0 hs_w0 ey0 hs_y0 (by omega) en0) hs_w0 ⟨by decide, rfl⟩ kd38_57.2.2.2.2.2.2.2.2.2.2.1 rfl rfl (by simp [Value.category]) (by decide) (by decide) (by decide) (by decide) (fun r9 S11 g10 pr9 qr9 hg10 => ?_)
    obtain ⟨rfl, rfl, z12, rfl, lz12, uz12, k13, k14⟩ := pr9
    refine X_st [.int (iI z12)] rfl ?_
    refine X_if_eq hK 31 (by omega) kd38_57.2.2.2.2.2.2.2.2.2.2.2 (by decide) (fun c15 => ?_) (fun c15 => ?_)
    · refine X_iconst hK kd38_58.2.2.1 ?_
      refine X_istoren hK (i := 1) [(1, .int (iI 0)), (0, .ref a0)] kd38_58.2.2.2.1 rfl (by decide) rfl ?_
      refine X_iloadn hK (i := 1) 0 kd38_58.2.2.2.2.1 rfl rfl ?_
      refine X_if_eq hK 48 (by omega) kd38_58.2.2.2.2.2.1 (by decide) (fun c16 => ?_) (fun c16 => False.elim (by omega))
      refine X_aloadn hK (i := 0) 1 kd38_58.2.2.2.2.2.2.2.2.2.2.2 rfl rfl ?_
      refine X_getK hK fl_X11_10_12 hs_a0 ew0 kd38_59.1 ?_
      refine X_iconst hK kd38_59.2.1 ?_
      refine X_puti hK fl_X11_102_10 hs_w0 (by decide) sl_10_1 (by omega) (by omega) kd38_59.2.2.1 (fun g17 hg17 => ?_)
      refine X_iloadn hK (i := 1) 0 kd38_59.2.2.2.1 rfl rfl ?_
      exact hret _ _ _ _ _ _ _ kd38_59.2.2.2.2.1 (by omega) (by omega) ⟨rfl, 0, rfl, (by omega), (by omega), ((xs_s hg17).trans (by congr 2 <;> omega)), ⟨fun h9 => ⟨by omega, by omega, k13.mp (by omega)⟩, fun h9 => by have h8 := k13.mpr h9.2.2; omega⟩, ⟨fun h9 => by omega, fun _ => (xv_a hg17 (xne hs_sk hs_w0 (by decide)))⟩⟩ (Nat.le_refl _) (Nat.le_refl _)
    · refine X_iconst hK kd38_58.1 ?_
      refine X_goto hK 32 kd38_58.2.1 (by decide) ?_
      refine X_istoren hK (i := 1) [(1, .int (iI 1)), (0, .ref a0)] kd38_58.2.2.2.1 rfl (by decide) rfl ?_
      refine X_iloadn hK (i := 1) 0 kd38_58.2.2.2.2.1 rfl rfl ?_
      refine X_if_eq hK 48 (by omega) kd38_58.2.2.2.2.2.1 (by decide) (fun c18 => False.elim (by omega)) (fun c18 => ?_)
      refine X_aloadn hK (i := 0) 1 kd38_58.2.2.2.2.2.2.1 rfl rfl ?_
      refine X_getK hK fl_X11_27_12 hs_a0 ect kd38_58.2.2.2.2.2.2.2.1 ?_
      refine X_aloadn hK (i := 0) 1 kd38_58.2.2.2.2.2.2.2.2.1 rfl rfl ?_
      refine X_getK hK fl_X11_10_12 hs_a0 ew0 kd38_58.2.2.2.2.2.2.2.2.2.1 ?_
      refine X_callV hK [.ref w0] [] lk_X11_155 (c_X3_setSky _ _ _ _ _ S g ct w0 y0 n0 sk hs_ct hs_w0 ey0 hs_y0 (by omega) en0 esk hs_sk (k14 (by omega))) hs_ct ⟨by decide, rfl⟩ kd38_58.2.2.2.2.2.2.2.2.2.2.1 rfl rfl (by simp [Value.category]) (by decide) (by decide) (by decide) (by decide) (fun r19 S21 g20 pr19 qr19 hg20 => ?_)
      obtain ⟨rfl, rfl, k22⟩ := pr19
      refine X_st [] rfl ?_
      refine X_aloadn hK (i := 0) 1 kd38_58.2.2.2.2.2.2.2.2.2.2.2 rfl rfl ?_
      refine X_getK hK fl_X11_10_12 hs_a0 ((hg20 a0 12 0 0 hs_a0 (by decide)).trans ew0) kd38_59.1 ?_
      refine X_iconst hK kd38_59.2.1 ?_
      refine X_puti hK fl_X11_102_10 hs_w0 (by decide) sl_10_1 (by omega) (by omega) kd38_59.2.2.1 (fun g23 hg23 => ?_)
      refine X_iloadn hK (i := 1) 0 kd38_59.2.2.2.1 rfl rfl ?_
      exact hret _ _ _ _ _ _ _ kd38_59.2.2.2.2.1 (by omega) (by omega) ⟨rfl, 1, rfl, (by omega), (by omega), ((xs_s hg23).trans (by congr 2 <;> omega)), ⟨fun h9 => ⟨by omega, by omega, k13.mp (by omega)⟩, fun h9 => by have h8 := k13.mpr h9.2.2; omega⟩, ⟨fun _ => (by rw [(xv_a hg23 (xne hs_sk hs_w0 (by decide)))]; exact k22), fun h9 => absurd (show _ = (1 : Int) by omega) h9⟩⟩ (Nat.le_refl _) (Nat.le_refl _)

set_option maxHeartbeats 4000000 in
set_option maxRecDepth 100000 in
theorem c_X11_sky (l : Launch) (D : va_G) (kA : Nat → ClassId) (b0 : Nat) (t0 : Nat → Nat) (S : xT) (g : xG) (a0 : Nat) (x1 : Int) (ct : Nat) (sk : Nat) (hs_a0 : S a0 = some (12, 0)) (hx1 : (-2147483648) ≤ x1 ∧ x1 ≤ 2147483647) (ect : g a0 2 = .ref ct) (hs_ct : S ct = some (4, 0)) (esk : g ct 0 = .ref sk) (hs_sk : S sk = some (10700, 400)) : xMt l yX11_sky cX11_sky 2 (some .int) 2 0 0 42 D kA b0 t0 [] [.ref a0, .int (iI x1)] S g (fun (r : Option Value) (S1 : xT) (g1 : xG) => S = S1 ∧ g = g1 ∧ ∃ z : Int, r = some (.int (iI z)) ∧ (-1) ≤ z ∧ z ≤ 3 ∧ (z = if 0 ≤ x1 ∧ x1 ≤ 399 then xv g sk x1 else -1)) := by
  refine xEnterI (by decide) (by simp [lg_sl, Value.category]) [(0, .ref a0), (1, .int (iI x1))] rfl ?_
  intro K E hK hret _ _ _
  refine X_iloadn hK (i := 1) 1 kd38_34.2.1 rfl rfl ?_
  refine X_callS hK [.int (iI x1)] [] lk_X11_159 (c_X11_isDay _ _ _ _ _ S g x1 (by omega)) kd38_34.2.2.1 rfl rfl (by simp [Value.category]) (by decide) (by decide) (by decide) (by decide) (fun r1 S3 g2 pr1 qr1 hg2 => ?_)
  obtain ⟨rfl, rfl, z4, rfl, lz4, uz4, k5⟩ := pr1
  refine X_st [.int (iI z4)] rfl ?_
  refine X_if_eq hK 19 (by omega) kd38_34.2.2.2.1 (by decide) (fun c6 => ?_) (fun c6 => ?_)
  · refine X_iconst hK kd38_34.2.2.2.2.2.2.2.2.2.2.1 ?_
    exact hret _ _ _ _ _ _ _ kd38_34.2.2.2.2.2.2.2.2.2.2.2 ⟨rfl, rfl, (-1), rfl, (by omega), (by omega), (by omega)⟩ (Nat.le_refl _) (Nat.le_refl _)
  · refine X_aloadn hK (i := 0) 0 kd38_34.2.2.2.2.1 rfl rfl ?_
    refine X_getK hK fl_X11_27_12 hs_a0 ect kd38_34.2.2.2.2.2.1 ?_
    refine X_getK hK fl_X11_162_4 hs_ct esk kd38_34.2.2.2.2.2.2.1 ?_
    refine X_iloadn hK (i := 1) 1 kd38_34.2.2.2.2.2.2.2.1 rfl rfl ?_
    refine X_iald hK hs_sk (by decide) sl_10700 (by omega) (by omega) kd38_34.2.2.2.2.2.2.2.2.1 (fun z7 ez7 lz7 uz7 => ?_)
    have hvz7 := xv_e (j := x1) ez7 (by omega)
    refine X_goto hK 20 kd38_34.2.2.2.2.2.2.2.2.2.1 (by decide) ?_
    exact hret _ _ _ _ _ _ _ kd38_34.2.2.2.2.2.2.2.2.2.2.2 ⟨rfl, rfl, z7, rfl, (by omega), (by omega), (by omega)⟩ (Nat.le_refl _) (Nat.le_refl _)

set_option maxHeartbeats 4000000 in
set_option maxRecDepth 100000 in
theorem c_X11_fault (l : Launch) (D : va_G) (kA : Nat → ClassId) (b0 : Nat) (t0 : Nat → Nat) (S : xT) (g : xG) (a0 : Nat) (hs_a0 : S a0 = some (12, 0)) : xMt l yX11_fault cX11_fault 1 (some .int) 0 0 0 0 D kA b0 t0 [] [.ref a0] S g (fun (r : Option Value) (S1 : xT) (g1 : xG) => S = S1 ∧ g = g1 ∧ ∃ z : Int, r = some (.int (iI z)) ∧ (-2147483648) ≤ z ∧ z ≤ 2147483647) := by
  refine xEnterI (by decide) (by simp [lg_sl, Value.category]) [(0, .ref a0)] rfl ?_
  intro K E hK hret _ _ _
  refine X_aloadn hK (i := 0) 0 kd38_19.2.2.2.2.2.2.2.2.1 rfl rfl ?_
  refine X_geti hK fl_X11_87_12 hs_a0 sl_12_13 kd38_19.2.2.2.2.2.2.2.2.2.1 (fun z1 ez1 lz1 uz1 => ?_)
  exact hret _ _ _ _ _ _ _ kd38_19.2.2.2.2.2.2.2.2.2.2.1 ⟨rfl, rfl, z1, rfl, (by omega), (by omega)⟩ (Nat.le_refl _) (Nat.le_refl _)

set_option maxHeartbeats 4000000 in
set_option maxRecDepth 100000 in
theorem c_X11_why (l : Launch) (D : va_G) (kA : Nat → ClassId) (b0 : Nat) (t0 : Nat → Nat) (S : xT) (g : xG) (a0 : Nat) (hs_a0 : S a0 = some (12, 0)) : xMt l yX11_why cX11_why 1 (some .int) 0 0 0 0 D kA b0 t0 [] [.ref a0] S g (fun (r : Option Value) (S1 : xT) (g1 : xG) => S = S1 ∧ g = g1 ∧ ∃ z : Int, r = some (.int (iI z)) ∧ (-2147483648) ≤ z ∧ z ≤ 2147483647) := by
  refine xEnterI (by decide) (by simp [lg_sl, Value.category]) [(0, .ref a0)] rfl ?_
  intro K E hK hret _ _ _
  refine X_aloadn hK (i := 0) 0 kd38_59.2.2.2.2.2.1 rfl rfl ?_
  refine X_geti hK fl_X11_90_12 hs_a0 sl_12_14 kd38_59.2.2.2.2.2.2.1 (fun z1 ez1 lz1 uz1 => ?_)
  exact hret _ _ _ _ _ _ _ kd38_59.2.2.2.2.2.2.2.1 ⟨rfl, rfl, z1, rfl, (by omega), (by omega)⟩ (Nat.le_refl _) (Nat.le_refl _)

set_option maxHeartbeats 4000000 in
set_option maxRecDepth 100000 in
theorem c_X11_expected (l : Launch) (D : va_G) (kA : Nat → ClassId) (b0 : Nat) (t0 : Nat → Nat) (S : xT) (g : xG) (a0 : Nat) (hs_a0 : S a0 = some (12, 0)) : xMt l yX11_expected cX11_expected 1 (some .long) 0 0 0 0 D kA b0 t0 [] [.ref a0] S g (fun (r : Option Value) (S1 : xT) (g1 : xG) => S = S1 ∧ g = g1 ∧ ∃ z : Int64, r = some (.long z)) := by
  refine xEnterL (by decide) (by simp [lg_sl, Value.category]) [(0, .ref a0)] rfl ?_
  intro K E hK hret _ _ _
  refine X_aloadn hK (i := 0) 0 kd38_18.2.2.2.2.2.2.2.2.2.1 rfl rfl ?_
  refine X_getr hK 3 0 fl_X11_62_12 hs_a0 sl_12_8 kd38_18.2.2.2.2.2.2.2.2.2.2.1 (fun b1 eb1 hs_b1 => ?_)
  refine X_getl hK fl_X11_303_3 hs_b1 sl_3_3 kd38_18.2.2.2.2.2.2.2.2.2.2.2 (fun y2 ey2 => ?_)
  exact hret _ _ _ _ _ _ _ kd38_19.1 ⟨rfl, rfl, y2, rfl⟩ (Nat.le_refl _) (Nat.le_refl _)

set_option maxHeartbeats 4000000 in
set_option maxRecDepth 100000 in
theorem c_X11_triedEaten (l : Launch) (D : va_G) (kA : Nat → ClassId) (b0 : Nat) (t0 : Nat → Nat) (S : xT) (g : xG) (a0 : Nat) (hs_a0 : S a0 = some (12, 0)) : xMt l yX11_triedEaten cX11_triedEaten 1 (some .int) 0 0 0 0 D kA b0 t0 [] [.ref a0] S g (fun (r : Option Value) (S1 : xT) (g1 : xG) => S = S1 ∧ g = g1 ∧ ∃ z : Int, r = some (.int (iI z)) ∧ (-2147483648) ≤ z ∧ z ≤ 2147483647) := by
  refine xEnterI (by decide) (by simp [lg_sl, Value.category]) [(0, .ref a0)] rfl ?_
  intro K E hK hret _ _ _
  refine X_aloadn hK (i := 0) 0 kd38_53.2.2.2.2.2.2.1 rfl rfl ?_
  refine X_geti hK fl_X11_93_12 hs_a0 sl_12_15 kd38_53.2.2.2.2.2.2.2.1 (fun z1 ez1 lz1 uz1 => ?_)
  exact hret _ _ _ _ _ _ _ kd38_53.2.2.2.2.2.2.2.2.1 ⟨rfl, rfl, z1, rfl, (by omega), (by omega)⟩ (Nat.le_refl _) (Nat.le_refl _)

set_option maxHeartbeats 4000000 in
set_option maxRecDepth 100000 in
theorem c_X11_partedAt (l : Launch) (D : va_G) (kA : Nat → ClassId) (b0 : Nat) (t0 : Nat → Nat) (S : xT) (g : xG) (a0 : Nat) (x1 : Int) (hs_a0 : S a0 = some (12, 0)) (hx1 : (-2147483648) ≤ x1 ∧ x1 ≤ 2147483647) : xMt l yX11_partedAt cX11_partedAt 2 (some .int) 1 0 0 22 D kA b0 t0 [] [.ref a0, .int (iI x1)] S g (fun (r : Option Value) (S1 : xT) (g1 : xG) => S = S1 ∧ g = g1 ∧ ∃ z : Int, r = some (.int (iI z)) ∧ (-1) ≤ z ∧ z ≤ 7) := by
  refine xEnterI (by decide) (by simp [lg_sl, Value.category]) [(0, .ref a0), (1, .int (iI x1))] rfl ?_
  intro K E hK hret _ _ _
  refine X_iloadn hK (i := 1) 1 kd38_31.2.2.2.2.2.2.2.2.2.2.2 rfl rfl ?_
  refine X_iconst hK kd38_32.1 ?_
  refine X_aloadn hK (i := 0) 0 kd38_32.2.1 rfl rfl ?_
  refine X_getr hK 7 0 fl_X11_76_12 hs_a0 sl_12_10 kd38_32.2.2.1 (fun b1 eb1 hs_b1 => ?_)
  refine X_geti hK fl_X11_330_7 hs_b1 sl_7_0 kd38_32.2.2.2.1 (fun z2 ez2 lz2 uz2 => ?_)
  refine X_iconst hK kd38_32.2.2.2.2.1 ?_
  refine X_isub hK kd38_32.2.2.2.2.2.1 ?_
  refine X_callS hK [.int (iI x1), .int (iI 0), .int (iI (z2 - 1))] [] lk_X11_115 (c_X11_within _ _ _ _ _ S g x1 0 (z2 - 1) (by omega) (by omega) (by omega)) kd38_32.2.2.2.2.2.2.1 rfl rfl (by simp [Value.category]) (by decide) (by decide) (by decide) (by decide) (fun r3 S5 g4 pr3 qr3 hg4 => ?_)
  obtain ⟨rfl, rfl, z6, rfl, lz6, uz6, k7⟩ := pr3
  refine X_st [.int (iI z6)] rfl ?_
  refine X_if_eq hK 29 (by omega) kd38_32.2.2.2.2.2.2.2.1 (by decide) (fun c8 => ?_) (fun c8 => ?_)
  · refine X_iconst hK kd38_33.2.2.1 ?_
    exact hret _ _ _ _ _ _ _ kd38_33.2.2.2.1 ⟨rfl, rfl, (-1), rfl, (by omega), (by omega)⟩ (Nat.le_refl _) (Nat.le_refl _)
  · refine X_aloadn hK (i := 0) 0 kd38_32.2.2.2.2.2.2.2.2.1 rfl rfl ?_
    refine X_getK hK fl_X11_76_12 hs_a0 eb1 kd38_32.2.2.2.2.2.2.2.2.2.1 ?_
    refine X_getr hK 12300 8 fl_X11_333_7 hs_b1 sl_7_3 kd38_32.2.2.2.2.2.2.2.2.2.2.1 (fun b9 eb9 hs_b9 => ?_)
    refine X_iloadn hK (i := 1) 1 kd38_32.2.2.2.2.2.2.2.2.2.2.2 rfl rfl ?_
    refine X_iald hK hs_b9 (by decide) sl_12300 (by omega) (by omega) kd38_33.1 (fun z10 ez10 lz10 uz10 => ?_)
    refine X_goto hK 30 kd38_33.2.1 (by decide) ?_
    exact hret _ _ _ _ _ _ _ kd38_33.2.2.2.1 ⟨rfl, rfl, z10, rfl, (by omega), (by omega)⟩ (Nat.le_refl _) (Nat.le_refl _)

set_option maxHeartbeats 4000000 in
set_option maxRecDepth 100000 in
theorem c_X11_falseCounts (l : Launch) (D : va_G) (kA : Nat → ClassId) (b0 : Nat) (t0 : Nat → Nat) (S : xT) (g : xG) (a0 : Nat) (x1 : Int) (hs_a0 : S a0 = some (12, 0)) (hx1 : (-2147483648) ≤ x1 ∧ x1 ≤ 2147483647) (hp0 : xLs S g) : xMt l yX11_falseCounts cX11_falseCounts 2 (some .int) 5 0 0 112 D kA b0 t0 [] [.ref a0, .int (iI x1)] S g (fun (r : Option Value) (S1 : xT) (g1 : xG) => S = S1 ∧ g = g1 ∧ ∃ z : Int, r = some (.int (iI z)) ∧ (-2147483648) ≤ z ∧ z ≤ 2147483647) := by
  refine xEnterI (by decide) (by simp [lg_sl, Value.category]) [(0, .ref a0), (1, .int (iI x1))] rfl ?_
  intro K E hK hret _ _ _
  refine X_aloadn hK (i := 0) 0 kd38_19.2.1 rfl rfl ?_
  refine X_getr hK 5 0 fl_X11_31_12 hs_a0 sl_12_3 kd38_19.2.2.1 (fun b1 eb1 hs_b1 => ?_)
  refine X_iloadn hK (i := 1) 1 kd38_19.2.2.2.1 rfl rfl ?_
  refine X_aloadn hK (i := 0) 0 kd38_19.2.2.2.2.1 rfl rfl ?_
  refine X_getr hK 6 0 fl_X11_19_12 hs_a0 sl_12_1 kd38_19.2.2.2.2.2.1 (fun b2 eb2 hs_b2 => ?_)
  refine X_callV hK [.int (iI x1), .ref b2] [] lk_X11_286 (c_X4_falseAsOf _ _ _ _ _ S g b1 x1 b2 hs_b1 (by omega) hs_b2 hp0) hs_b1 ⟨by decide, rfl⟩ kd38_19.2.2.2.2.2.2.1 rfl rfl (by simp [Value.category]) (by decide) (by decide) (by decide) (by decide) (fun r3 S5 g4 pr3 qr3 hg4 => ?_)
  obtain ⟨rfl, rfl, z6, rfl, lz6, uz6⟩ := pr3
  refine X_st [.int (iI z6)] rfl ?_
  exact hret _ _ _ _ _ _ _ kd38_19.2.2.2.2.2.2.2.1 ⟨rfl, rfl, z6, rfl, (by omega), (by omega)⟩ (Nat.le_refl _) (Nat.le_refl _)

set_option maxHeartbeats 4000000 in
set_option maxRecDepth 100000 in
theorem c_X11_shortOf (l : Launch) (D : va_G) (kA : Nat → ClassId) (b0 : Nat) (t0 : Nat → Nat) (S : xT) (g : xG) (a0 : Nat) (x1 : Int) (hs_a0 : S a0 = some (12, 0)) (hx1 : (-2147483648) ≤ x1 ∧ x1 ≤ 2147483647) (hp0 : xLs S g) : xMt l yX11_shortOf cX11_shortOf 2 (some .int) 5 0 0 114 D kA b0 t0 [] [.ref a0, .int (iI x1)] S g (fun (r : Option Value) (S1 : xT) (g1 : xG) => S = S1 ∧ g = g1 ∧ ∃ z : Int, r = some (.int (iI z)) ∧ (-2147483648) ≤ z ∧ z ≤ 2147483647) := by
  refine xEnterI (by decide) (by simp [lg_sl, Value.category]) [(0, .ref a0), (1, .int (iI x1))] rfl ?_
  intro K E hK hret _ _ _
  refine X_aloadn hK (i := 0) 0 kd38_33.2.2.2.2.1 rfl rfl ?_
  refine X_getr hK 5 0 fl_X11_31_12 hs_a0 sl_12_3 kd38_33.2.2.2.2.2.1 (fun b1 eb1 hs_b1 => ?_)
  refine X_iloadn hK (i := 1) 1 kd38_33.2.2.2.2.2.2.1 rfl rfl ?_
  refine X_aloadn hK (i := 0) 0 kd38_33.2.2.2.2.2.2.2.1 rfl rfl ?_
  refine X_geti hK fl_X11_83_12 hs_a0 sl_12_12 kd38_33.2.2.2.2.2.2.2.2.1 (fun z2 ez2 lz2 uz2 => ?_)
  refine X_aloadn hK (i := 0) 0 kd38_33.2.2.2.2.2.2.2.2.2.1 rfl rfl ?_
  refine X_getr hK 6 0 fl_X11_19_12 hs_a0 sl_12_1 kd38_33.2.2.2.2.2.2.2.2.2.2.1 (fun b3 eb3 hs_b3 => ?_)
  refine X_callV hK [.int (iI x1), .int (iI z2), .ref b3] [] lk_X11_290 (c_X4_shortAsOf _ _ _ _ _ S g b1 x1 z2 b3 hs_b1 (by omega) (by omega) hs_b3 hp0) hs_b1 ⟨by decide, rfl⟩ kd38_33.2.2.2.2.2.2.2.2.2.2.2 rfl rfl (by simp [Value.category]) (by decide) (by decide) (by decide) (by decide) (fun r4 S6 g5 pr4 qr4 hg5 => ?_)
  obtain ⟨rfl, rfl, z7, rfl, lz7, uz7⟩ := pr4
  refine X_st [.int (iI z7)] rfl ?_
  exact hret _ _ _ _ _ _ _ kd38_34.1 ⟨rfl, rfl, z7, rfl, (by omega), (by omega)⟩ (Nat.le_refl _) (Nat.le_refl _)

set_option maxHeartbeats 4000000 in
set_option maxRecDepth 100000 in
theorem c_X11_count (l : Launch) (D : va_G) (kA : Nat → ClassId) (b0 : Nat) (t0 : Nat → Nat) (S : xT) (g : xG) (a0 : Nat) (x1 : Int) (hs_a0 : S a0 = some (12, 0)) (hx1 : (-2147483648) ≤ x1 ∧ x1 ≤ 2147483647) (hp0 : xLs S g) : xMt l yX11_count cX11_count 2 (some .int) 1 0 0 20 D kA b0 t0 [] [.ref a0, .int (iI x1)] S g (fun (r : Option Value) (S1 : xT) (g1 : xG) => S = S1 ∧ g = g1 ∧ ∃ z : Int, r = some (.int (iI z)) ∧ (-1) ≤ z ∧ z ≤ 420) := by
  refine xEnterI (by decide) (by simp [lg_sl, Value.category]) [(0, .ref a0), (1, .int (iI x1))] rfl ?_
  intro K E hK hret _ _ _
  refine X_iloadn hK (i := 1) 1 kd38_11.2.2.2.2.2.2.2.1 rfl rfl ?_
  rcases (show (x1 < 0 ∨ 5 < x1) ∨ x1 = 0 ∨ x1 = 1 ∨ x1 = 2 ∨ x1 = 3 ∨ x1 = 4 ∨ x1 = 5 by omega) with c1 | c1 | c1 | c1 | c1 | c1 | c1
  · refine X_tableOut hK 91 (by omega) c1 kd38_11.2.2.2.2.2.2.2.2.1 (by decide) ?_
    refine X_iconst hK kd38_13.2.2.2.2.2.2.2.2.2.2.1 ?_
    exact hret _ _ _ _ _ _ _ kd38_13.2.2.2.2.2.2.2.2.2.2.2 ⟨rfl, rfl, (-1), rfl, (by omega), (by omega)⟩ (Nat.le_refl _) (Nat.le_refl _)
  · refine X_tableIn hK 40 0 (by decide) c1 (by decide) (by decide) kd38_11.2.2.2.2.2.2.2.2.1 rfl (by decide) ?_
    refine X_aloadn hK (i := 0) 0 kd38_11.2.2.2.2.2.2.2.2.2.1 rfl rfl ?_
    refine X_geti hK fl_X11_83_12 hs_a0 sl_12_12 kd38_11.2.2.2.2.2.2.2.2.2.2.1 (fun z2 ez2 lz2 uz2 => ?_)
    exact hret _ _ _ _ _ _ _ kd38_11.2.2.2.2.2.2.2.2.2.2.2 ⟨rfl, rfl, z2, rfl, (by omega), (by omega)⟩ (Nat.le_refl _) (Nat.le_refl _)
  · refine X_tableIn hK 45 1 (by decide) c1 (by decide) (by decide) kd38_11.2.2.2.2.2.2.2.2.1 rfl (by decide) ?_
    refine X_aloadn hK (i := 0) 0 kd38_12.1 rfl rfl ?_
    refine X_getr hK 6 0 fl_X11_19_12 hs_a0 sl_12_1 kd38_12.2.1 (fun b3 eb3 hs_b3 => ?_)
    refine X_getr hK 0 0 fl_X11_109_6 hs_b3 sl_6_1 kd38_12.2.2.1 (fun b4 eb4 hs_b4 => ?_)
    refine X_know hs_b4 (by decide) sl_0_2 (fun z5 ez5 lz5 uz5 => ?_)
    refine X_callV hK [] [] lk_X11_112 (c_size_0 _ _ _ _ _ S g b4 z5 hs_b4 (by omega) ez5 hp0) hs_b4 ⟨by decide, rfl⟩ kd38_12.2.2.2.1 rfl rfl (by simp [Value.category]) (by decide) (by decide) (by decide) (by decide) (fun r6 S8 g7 pr6 qr6 hg7 => ?_)
    obtain ⟨rfl, rfl, z9, rfl, lz9, uz9, k10⟩ := pr6
    refine X_st [.int (iI z9)] rfl ?_
    exact hret _ _ _ _ _ _ _ kd38_12.2.2.2.2.1 ⟨rfl, rfl, z9, rfl, (by omega), (by omega)⟩ (Nat.le_refl _) (Nat.le_refl _)
  · refine X_tableIn hK 56 2 (by decide) c1 (by decide) (by decide) kd38_11.2.2.2.2.2.2.2.2.1 rfl (by decide) ?_
    refine X_aloadn hK (i := 0) 0 kd38_12.2.2.2.2.2.1 rfl rfl ?_
    refine X_getr hK 6 0 fl_X11_19_12 hs_a0 sl_12_1 kd38_12.2.2.2.2.2.2.1 (fun b11 eb11 hs_b11 => ?_)
    refine X_getr hK 100 0 fl_X11_205_6 hs_b11 sl_6_2 kd38_12.2.2.2.2.2.2.2.1 (fun b12 eb12 hs_b12 => ?_)
    refine X_know hs_b12 (by decide) sl_100_2 (fun z13 ez13 lz13 uz13 => ?_)
    refine X_callV hK [] [] lk_X11_112 (c_size_100 _ _ _ _ _ S g b12 z13 hs_b12 (by omega) ez13 hp0) hs_b12 ⟨by decide, rfl⟩ kd38_12.2.2.2.2.2.2.2.2.1 rfl rfl (by simp [Value.category]) (by decide) (by decide) (by decide) (by decide) (fun r14 S16 g15 pr14 qr14 hg15 => ?_)
    obtain ⟨rfl, rfl, z17, rfl, lz17, uz17, k18⟩ := pr14
    refine X_st [.int (iI z17)] rfl ?_
    exact hret _ _ _ _ _ _ _ kd38_12.2.2.2.2.2.2.2.2.2.1 ⟨rfl, rfl, z17, rfl, (by omega), (by omega)⟩ (Nat.le_refl _) (Nat.le_refl _)
  · refine X_tableIn hK 67 3 (by decide) c1 (by decide) (by decide) kd38_11.2.2.2.2.2.2.2.2.1 rfl (by decide) ?_
    refine X_aloadn hK (i := 0) 0 kd38_12.2.2.2.2.2.2.2.2.2.2.1 rfl rfl ?_
    refine X_getr hK 300 0 fl_X11_38_12 hs_a0 sl_12_4 kd38_12.2.2.2.2.2.2.2.2.2.2.2 (fun b19 eb19 hs_b19 => ?_)
    refine X_know hs_b19 (by decide) sl_300_2 (fun z20 ez20 lz20 uz20 => ?_)
    refine X_callV hK [] [] lk_X11_112 (c_size_300 _ _ _ _ _ S g b19 z20 hs_b19 (by omega) ez20 hp0) hs_b19 ⟨by decide, rfl⟩ kd38_13.1 rfl rfl (by simp [Value.category]) (by decide) (by decide) (by decide) (by decide) (fun r21 S23 g22 pr21 qr21 hg22 => ?_)
    obtain ⟨rfl, rfl, z24, rfl, lz24, uz24, k25⟩ := pr21
    refine X_st [.int (iI z24)] rfl ?_
    exact hret _ _ _ _ _ _ _ kd38_13.2.1 ⟨rfl, rfl, z24, rfl, (by omega), (by omega)⟩ (Nat.le_refl _) (Nat.le_refl _)
  · refine X_tableIn hK 75 4 (by decide) c1 (by decide) (by decide) kd38_11.2.2.2.2.2.2.2.2.1 rfl (by decide) ?_
    refine X_aloadn hK (i := 0) 0 kd38_13.2.2.1 rfl rfl ?_
    refine X_getr hK 5 0 fl_X11_31_12 hs_a0 sl_12_3 kd38_13.2.2.2.1 (fun b26 eb26 hs_b26 => ?_)
    refine X_geti hK fl_X11_278_5 hs_b26 sl_5_3 kd38_13.2.2.2.2.1 (fun z27 ez27 lz27 uz27 => ?_)
    exact hret _ _ _ _ _ _ _ kd38_13.2.2.2.2.2.1 ⟨rfl, rfl, z27, rfl, (by omega), (by omega)⟩ (Nat.le_refl _) (Nat.le_refl _)
  · refine X_tableIn hK 83 5 (by decide) c1 (by decide) (by decide) kd38_11.2.2.2.2.2.2.2.2.1 rfl (by decide) ?_
    refine X_aloadn hK (i := 0) 0 kd38_13.2.2.2.2.2.2.1 rfl rfl ?_
    refine X_getr hK 10 0 fl_X11_10_12 hs_a0 sl_12_0 kd38_13.2.2.2.2.2.2.2.1 (fun b28 eb28 hs_b28 => ?_)
    refine X_geti hK fl_X11_102_10 hs_b28 sl_10_1 kd38_13.2.2.2.2.2.2.2.2.1 (fun z29 ez29 lz29 uz29 => ?_)
    exact hret _ _ _ _ _ _ _ kd38_13.2.2.2.2.2.2.2.2.2.1 ⟨rfl, rfl, z29, rfl, (by omega), (by omega)⟩ (Nat.le_refl _) (Nat.le_refl _)

set_option maxHeartbeats 4000000 in
set_option maxRecDepth 100000 in
theorem c_X11_best (l : Launch) (D : va_G) (kA : Nat → ClassId) (b0 : Nat) (t0 : Nat → Nat) (S : xT) (g : xG) (a0 : Nat) (x1 : Int) (x2 : Int) (x3 : Int) (x4 : Int) (x5 : Int) (w0 : Nat) (n0 : Int) (hs_a0 : S a0 = some (12, 0)) (hx1 : (-2147483648) ≤ x1 ∧ x1 ≤ 2147483647) (hx2 : (-2147483648) ≤ x2 ∧ x2 ≤ 2147483647) (hx3 : (-2147483648) ≤ x3 ∧ x3 ≤ 2147483647) (hx4 : (-2147483648) ≤ x4 ∧ x4 ≤ 2147483647) (hx5 : (-2147483648) ≤ x5 ∧ x5 ≤ 2147483647) (ew0 : g a0 0 = .ref w0) (hs_w0 : S w0 = some (10, 0)) (hn0 : 0 ≤ n0 ∧ n0 ≤ 420) (en0 : g w0 1 = .int (iI n0)) : xMt l yX11_best cX11_best 7 (some .int) 3 0 0 78 D kA b0 t0 [(10, 1), (3, 2), (10500, 0), (10600, 0), (3, 3)] [.ref a0, .int (iI x1), .int (iI x2), .int (iI x3), .int (iI x4), .int (iI x5)] S g (fun (r : Option Value) (S1 : xT) (g1 : xG) => S = S1 ∧ ∃ z : Int, r = some (.int (iI z)) ∧ (-1) ≤ z ∧ z ≤ 400 ∧ (g1 w0 1 = .int (iI (0)))) := by
  refine xEnterI (by decide) (by simp [lg_sl, Value.category]) [(0, .ref a0), (1, .int (iI x1)), (2, .int (iI x2)), (3, .int (iI x3)), (4, .int (iI x4)), (5, .int (iI x5))] rfl ?_
  intro K E hK hret _ _ _
  refine X_iconst hK kd38_7.1 ?_
  refine X_istore hK (i := 6) [(6, .int (iI (-1))), (0, .ref a0), (1, .int (iI x1)), (2, .int (iI x2)), (3, .int (iI x3)), (4, .int (iI x4)), (5, .int (iI x5))] kd38_7.2.1 (by decide) rfl ?_
  refine X_iloadn hK (i := 1) 2 kd38_7.2.2.1 rfl rfl ?_
  refine X_callS hK [.int (iI x1)] [] lk_X11_142 (c_X11_isCorner _ _ _ _ _ S g x1 (by omega)) kd38_7.2.2.2.1 rfl rfl (by simp [Value.category]) (by decide) (by decide) (by decide) (by decide) (fun r1 S3 g2 pr1 qr1 hg2 => ?_)
  obtain ⟨rfl, rfl, z4, rfl, lz4, uz4, k5⟩ := pr1
  refine X_st [.int (iI z4)] rfl ?_
  refine X_if_eq hK 106 (by omega) kd38_7.2.2.2.2.1 (by decide) (fun c6 => ?_) (fun c6 => ?_)
  · refine X_aloadn hK (i := 0) 1 kd38_11.2.1 rfl rfl ?_
    refine X_getK hK fl_X11_10_12 hs_a0 ew0 kd38_11.2.2.1 ?_
    refine X_iconst hK kd38_11.2.2.2.1 ?_
    refine X_puti hK fl_X11_102_10 hs_w0 (by decide) sl_10_1 (by omega) (by omega) kd38_11.2.2.2.2.1 (fun g7 hg7 => ?_)
    refine X_iload hK (i := 6) 0 kd38_11.2.2.2.2.2.1 rfl ?_
    exact hret _ _ _ _ _ _ _ kd38_11.2.2.2.2.2.2.1 ⟨rfl, (-1), rfl, (by omega), (by omega), ((xs_s hg7).trans (by congr 2 <;> omega))⟩ (Nat.le_refl _) (Nat.le_refl _)
  · refine X_iloadn hK (i := 2) 3 kd38_7.2.2.2.2.2.1 rfl rfl ?_
    refine X_callS hK [.int (iI x2)] [] lk_X11_165 (c_X11_isPaper _ _ _ _ _ S g x2 (by omega)) kd38_7.2.2.2.2.2.2.1 rfl rfl (by simp [Value.category]) (by decide) (by decide) (by decide) (by decide) (fun r8 S10 g9 pr8 qr8 hg9 => ?_)
    obtain ⟨rfl, rfl, z11, rfl, lz11, uz11, k12⟩ := pr8
    refine X_st [.int (iI z11)] rfl ?_
    refine X_if_eq hK 106 (by omega) kd38_7.2.2.2.2.2.2.2.1 (by decide) (fun c13 => ?_) (fun c13 => ?_)
    · refine X_aloadn hK (i := 0) 1 kd38_11.2.1 rfl rfl ?_
      refine X_getK hK fl_X11_10_12 hs_a0 ew0 kd38_11.2.2.1 ?_
      refine X_iconst hK kd38_11.2.2.2.1 ?_
      refine X_puti hK fl_X11_102_10 hs_w0 (by decide) sl_10_1 (by omega) (by omega) kd38_11.2.2.2.2.1 (fun g14 hg14 => ?_)
      refine X_iload hK (i := 6) 0 kd38_11.2.2.2.2.2.1 rfl ?_
      exact hret _ _ _ _ _ _ _ kd38_11.2.2.2.2.2.2.1 ⟨rfl, (-1), rfl, (by omega), (by omega), ((xs_s hg14).trans (by congr 2 <;> omega))⟩ (Nat.le_refl _) (Nat.le_refl _)
    · refine X_iloadn hK (i := 3) 4 kd38_7.2.2.2.2.2.2.2.2.1 rfl rfl ?_
      refine X_iconst hK kd38_7.2.2.2.2.2.2.2.2.2.1 ?_
      refine X_sipush hK kd38_7.2.2.2.2.2.2.2.2.2.2.1 (by decide) ?_
      refine X_callS hK [.int (iI x3), .int (iI 0), .int (iI 1000)] [] lk_X11_115 (c_X11_within _ _ _ _ _ S g x3 0 1000 (by omega) (by omega) (by omega)) kd38_7.2.2.2.2.2.2.2.2.2.2.2 rfl rfl (by simp [Value.category]) (by decide) (by decide) (by decide) (by decide) (fun r15 S17 g16 pr15 qr15 hg16 => ?_)
      obtain ⟨rfl, rfl, z18, rfl, lz18, uz18, k19⟩ := pr15
      refine X_st [.int (iI z18)] rfl ?_
      refine X_if_eq hK 106 (by omega) kd38_8.1 (by decide) (fun c20 => ?_) (fun c20 => ?_)
      · refine X_aloadn hK (i := 0) 1 kd38_11.2.1 rfl rfl ?_
        refine X_getK hK fl_X11_10_12 hs_a0 ew0 kd38_11.2.2.1 ?_
        refine X_iconst hK kd38_11.2.2.2.1 ?_
        refine X_puti hK fl_X11_102_10 hs_w0 (by decide) sl_10_1 (by omega) (by omega) kd38_11.2.2.2.2.1 (fun g21 hg21 => ?_)
        refine X_iload hK (i := 6) 0 kd38_11.2.2.2.2.2.1 rfl ?_
        exact hret _ _ _ _ _ _ _ kd38_11.2.2.2.2.2.2.1 ⟨rfl, (-1), rfl, (by omega), (by omega), ((xs_s hg21).trans (by congr 2 <;> omega))⟩ (Nat.le_refl _) (Nat.le_refl _)
      · refine X_iload hK (i := 4) 5 kd38_8.2.1 rfl ?_
        refine X_iconst hK kd38_8.2.2.1 ?_
        refine X_sipush hK kd38_8.2.2.2.1 (by decide) ?_
        refine X_callS hK [.int (iI x4), .int (iI 0), .int (iI 1000)] [] lk_X11_115 (c_X11_within _ _ _ _ _ S g x4 0 1000 (by omega) (by omega) (by omega)) kd38_8.2.2.2.2.1 rfl rfl (by simp [Value.category]) (by decide) (by decide) (by decide) (by decide) (fun r22 S24 g23 pr22 qr22 hg23 => ?_)
        obtain ⟨rfl, rfl, z25, rfl, lz25, uz25, k26⟩ := pr22
        refine X_st [.int (iI z25)] rfl ?_
        refine X_if_eq hK 106 (by omega) kd38_8.2.2.2.2.2.1 (by decide) (fun c27 => ?_) (fun c27 => ?_)
        · refine X_aloadn hK (i := 0) 1 kd38_11.2.1 rfl rfl ?_
          refine X_getK hK fl_X11_10_12 hs_a0 ew0 kd38_11.2.2.1 ?_
          refine X_iconst hK kd38_11.2.2.2.1 ?_
          refine X_puti hK fl_X11_102_10 hs_w0 (by decide) sl_10_1 (by omega) (by omega) kd38_11.2.2.2.2.1 (fun g28 hg28 => ?_)
          refine X_iload hK (i := 6) 0 kd38_11.2.2.2.2.2.1 rfl ?_
          exact hret _ _ _ _ _ _ _ kd38_11.2.2.2.2.2.2.1 ⟨rfl, (-1), rfl, (by omega), (by omega), ((xs_s hg28).trans (by congr 2 <;> omega))⟩ (Nat.le_refl _) (Nat.le_refl _)
        · refine X_iload hK (i := 5) 6 kd38_8.2.2.2.2.2.2.1 rfl ?_
          refine X_iconst hK kd38_8.2.2.2.2.2.2.2.1 ?_
          refine X_bipush hK kd38_8.2.2.2.2.2.2.2.2.1 (by decide) ?_
          refine X_callS hK [.int (iI x5), .int (iI 0), .int (iI 100)] [] lk_X11_115 (c_X11_within _ _ _ _ _ S g x5 0 100 (by omega) (by omega) (by omega)) kd38_8.2.2.2.2.2.2.2.2.2.1 rfl rfl (by simp [Value.category]) (by decide) (by decide) (by decide) (by decide) (fun r29 S31 g30 pr29 qr29 hg30 => ?_)
          obtain ⟨rfl, rfl, z32, rfl, lz32, uz32, k33⟩ := pr29
          refine X_st [.int (iI z32)] rfl ?_
          refine X_if_eq hK 106 (by omega) kd38_8.2.2.2.2.2.2.2.2.2.2.1 (by decide) (fun c34 => ?_) (fun c34 => ?_)
          · refine X_aloadn hK (i := 0) 1 kd38_11.2.1 rfl rfl ?_
            refine X_getK hK fl_X11_10_12 hs_a0 ew0 kd38_11.2.2.1 ?_
            refine X_iconst hK kd38_11.2.2.2.1 ?_
            refine X_puti hK fl_X11_102_10 hs_w0 (by decide) sl_10_1 (by omega) (by omega) kd38_11.2.2.2.2.1 (fun g35 hg35 => ?_)
            refine X_iload hK (i := 6) 0 kd38_11.2.2.2.2.2.1 rfl ?_
            exact hret _ _ _ _ _ _ _ kd38_11.2.2.2.2.2.2.1 ⟨rfl, (-1), rfl, (by omega), (by omega), ((xs_s hg35).trans (by congr 2 <;> omega))⟩ (Nat.le_refl _) (Nat.le_refl _)
          · refine X_aloadn hK (i := 0) 1 kd38_8.2.2.2.2.2.2.2.2.2.2.2 rfl rfl ?_
            refine X_getK hK fl_X11_10_12 hs_a0 ew0 kd38_9.1 ?_
            refine X_getK hK fl_X11_102_10 hs_w0 en0 kd38_9.2.1 ?_
            refine X_bipush hK kd38_9.2.2.1 (by decide) ?_
            refine X_icmp_ne hK 106 (by omega) (by omega) kd38_9.2.2.2.1 (by decide) (fun c36 => ?_) (fun c36 => ?_)
            · refine X_aloadn hK (i := 0) 1 kd38_11.2.1 rfl rfl ?_
              refine X_getK hK fl_X11_10_12 hs_a0 ew0 kd38_11.2.2.1 ?_
              refine X_iconst hK kd38_11.2.2.2.1 ?_
              refine X_puti hK fl_X11_102_10 hs_w0 (by decide) sl_10_1 (by omega) (by omega) kd38_11.2.2.2.2.1 (fun g37 hg37 => ?_)
              refine X_iload hK (i := 6) 0 kd38_11.2.2.2.2.2.1 rfl ?_
              exact hret _ _ _ _ _ _ _ kd38_11.2.2.2.2.2.2.1 ⟨rfl, (-1), rfl, (by omega), (by omega), ((xs_s hg37).trans (by congr 2 <;> omega))⟩ (Nat.le_refl _) (Nat.le_refl _)
            · refine X_aloadn hK (i := 0) 1 kd38_9.2.2.2.2.1 rfl rfl ?_
              refine X_getK hK fl_X11_10_12 hs_a0 ew0 kd38_9.2.2.2.2.2.1 ?_
              refine X_bipush hK kd38_9.2.2.2.2.2.2.1 (by decide) ?_
              refine X_callV hK [.int (iI 20)] [] lk_X11_294 (c_X9_noneAbove _ _ _ _ _ S g w0 20 hs_w0 (by omega)) hs_w0 ⟨by decide, rfl⟩ kd38_9.2.2.2.2.2.2.2.1 rfl rfl (by simp [Value.category]) (by decide) (by decide) (by decide) (by decide) (fun r38 S40 g39 pr38 qr38 hg39 => ?_)
              obtain ⟨rfl, rfl, z41, rfl, lz41, uz41⟩ := pr38
              refine X_st [.int (iI z41)] rfl ?_
              refine X_if_eq hK 106 (by omega) kd38_9.2.2.2.2.2.2.2.2.1 (by decide) (fun c42 => ?_) (fun c42 => ?_)
              · refine X_aloadn hK (i := 0) 1 kd38_11.2.1 rfl rfl ?_
                refine X_getK hK fl_X11_10_12 hs_a0 ew0 kd38_11.2.2.1 ?_
                refine X_iconst hK kd38_11.2.2.2.1 ?_
                refine X_puti hK fl_X11_102_10 hs_w0 (by decide) sl_10_1 (by omega) (by omega) kd38_11.2.2.2.2.1 (fun g43 hg43 => ?_)
                refine X_iload hK (i := 6) 0 kd38_11.2.2.2.2.2.1 rfl ?_
                exact hret _ _ _ _ _ _ _ kd38_11.2.2.2.2.2.2.1 ⟨rfl, (-1), rfl, (by omega), (by omega), ((xs_s hg43).trans (by congr 2 <;> omega))⟩ (Nat.le_refl _) (Nat.le_refl _)
              · refine X_aloadn hK (i := 0) 1 kd38_9.2.2.2.2.2.2.2.2.2.1 rfl rfl ?_
                refine X_getr hK 3 0 fl_X11_62_12 hs_a0 sl_12_8 kd38_9.2.2.2.2.2.2.2.2.2.2.1 (fun b44 eb44 hs_b44 => ?_)
                refine X_aloadn hK (i := 0) 1 kd38_9.2.2.2.2.2.2.2.2.2.2.2 rfl rfl ?_
                refine X_getr hK 4 0 fl_X11_27_12 hs_a0 sl_12_2 kd38_10.1 (fun b45 eb45 hs_b45 => ?_)
                refine X_iloadn hK (i := 1) 2 kd38_10.2.1 rfl rfl ?_
                refine X_iloadn hK (i := 2) 3 kd38_10.2.2.1 rfl rfl ?_
                refine X_aloadn hK (i := 0) 1 kd38_10.2.2.2.1 rfl rfl ?_
                refine X_getK hK fl_X11_10_12 hs_a0 ew0 kd38_10.2.2.2.2.1 ?_
                refine X_callV hK [.ref b45, .int (iI x1), .int (iI x2), .ref w0] [] lk_X11_297 (c_X2_learn _ _ _ _ _ S g b44 b45 x1 x2 w0 hs_b44 hs_b45 (by omega) (by omega) hs_w0) hs_b44 ⟨by decide, rfl⟩ kd38_10.2.2.2.2.2.1 rfl rfl (by simp [Value.category]) (by decide) (by decide) (by decide) (by decide) (fun r46 S48 g47 pr46 qr46 hg47 => ?_)
                obtain ⟨rfl, rfl⟩ := pr46
                refine X_st [] rfl ?_
                refine X_aloadn hK (i := 0) 1 kd38_10.2.2.2.2.2.2.1 rfl rfl ?_
                refine X_getK hK fl_X11_62_12 hs_a0 ((hg47 a0 12 0 8 hs_a0 (by decide)).trans eb44) kd38_10.2.2.2.2.2.2.2.1 ?_
                refine X_iloadn hK (i := 3) 4 kd38_10.2.2.2.2.2.2.2.2.1 rfl rfl ?_
                refine X_iload hK (i := 4) 5 kd38_10.2.2.2.2.2.2.2.2.2.1 rfl ?_
                refine X_iload hK (i := 5) 6 kd38_10.2.2.2.2.2.2.2.2.2.2.1 rfl ?_
                refine X_callV hK [.int (iI x3), .int (iI x4), .int (iI x5)] [] lk_X11_300 (c_X2_choose _ _ _ _ _ S g47 b44 x3 x4 x5 hs_b44 (by omega) (by omega) (by omega)) hs_b44 ⟨by decide, rfl⟩ kd38_10.2.2.2.2.2.2.2.2.2.2.2 rfl rfl (by simp [Value.category]) (by decide) (by decide) (by decide) (by decide) (fun r49 S51 g50 pr49 qr49 hg50 => ?_)
                obtain ⟨rfl, z52, rfl, lz52, uz52⟩ := pr49
                refine X_st [.int (iI z52)] rfl ?_
                refine X_istore hK (i := 6) [(6, .int (iI z52)), (0, .ref a0), (1, .int (iI x1)), (2, .int (iI x2)), (3, .int (iI x3)), (4, .int (iI x4)), (5, .int (iI x5))] kd38_11.1 (by decide) rfl ?_
                refine X_aloadn hK (i := 0) 1 kd38_11.2.1 rfl rfl ?_
                refine X_getK hK fl_X11_10_12 hs_a0 ((hg50 a0 12 0 0 hs_a0 (by decide)).trans ((hg47 a0 12 0 0 hs_a0 (by decide)).trans ew0)) kd38_11.2.2.1 ?_
                refine X_iconst hK kd38_11.2.2.2.1 ?_
                refine X_puti hK fl_X11_102_10 hs_w0 (by decide) sl_10_1 (by omega) (by omega) kd38_11.2.2.2.2.1 (fun g53 hg53 => ?_)
                refine X_iload hK (i := 6) 0 kd38_11.2.2.2.2.2.1 rfl ?_
                exact hret _ _ _ _ _ _ _ kd38_11.2.2.2.2.2.2.1 ⟨rfl, z52, rfl, (by omega), (by omega), ((xs_s hg53).trans (by congr 2 <;> omega))⟩ (Nat.le_refl _) (Nat.le_refl _)

set_option maxHeartbeats 4000000 in
set_option maxRecDepth 100000 in
theorem c_X11_strike (l : Launch) (D : va_G) (kA : Nat → ClassId) (b0 : Nat) (t0 : Nat → Nat) (S : xT) (g : xG) (a0 : Nat) (x1 : Int) (x2 : Int) (x3 : Int) (x4 : Int) (x5 : Int) (w0 : Nat) (n0 : Int) (y0 : Nat) (kh : Int) (kp : Int) (hs_a0 : S a0 = some (12, 0)) (hx1 : (-2147483648) ≤ x1 ∧ x1 ≤ 2147483647) (hx2 : (-2147483648) ≤ x2 ∧ x2 ≤ 2147483647) (hx3 : (-2147483648) ≤ x3 ∧ x3 ≤ 2147483647) (hx4 : (-2147483648) ≤ x4 ∧ x4 ≤ 2147483647) (hx5 : (-2147483648) ≤ x5 ∧ x5 ≤ 2147483647) (ew0 : g a0 0 = .ref w0) (hs_w0 : S w0 = some (10, 0)) (hn0 : 0 ≤ n0 ∧ n0 ≤ 420) (en0 : g w0 1 = .int (iI n0)) (ey0 : g w0 0 = .ref y0) (hs_y0 : S y0 = some (13500, 420)) (hkh : (-2147483648) ≤ kh ∧ kh ≤ 2147483647) (ekh : g a0 16 = .int (iI kh)) (hkp : (-2147483648) ≤ kp ∧ kp ≤ 2147483647) (ekp : g a0 17 = .int (iI kp)) : xMt l yX11_strike cX11_strike 7 (some .int) 2 0 0 54 D kA b0 t0 [(10, 1), (12, 16), (12, 17)] [.ref a0, .int (iI x1), .int (iI x2), .int (iI x3), .int (iI x4), .int (iI x5)] S g (fun (r : Option Value) (S1 : xT) (g1 : xG) => S = S1 ∧ ∃ z : Int, r = some (.int (iI z)) ∧ (-2147483648) ≤ z ∧ z ≤ 2147483647 ∧ (g1 w0 1 = .int (iI (0))) ∧ (∃ e1 p1 : Int, g1 a0 16 = .int (iI e1) ∧ g1 a0 17 = .int (iI p1) ∧ (-2147483648 ≤ e1 ∧ e1 ≤ 2147483647) ∧ (-2147483648 ≤ p1 ∧ p1 ≤ 2147483647) ∧ xSkr (xv g y0) x1 x2 x3 x4 x5 n0 z e1 p1 kh kp)) := by
  refine xEnterI (by decide) (by simp [lg_sl, Value.category]) [(0, .ref a0), (1, .int (iI x1)), (2, .int (iI x2)), (3, .int (iI x3)), (4, .int (iI x4)), (5, .int (iI x5))] rfl ?_
  intro K E hK hret _ _ _
  refine X_iconst hK kd38_35.1 ?_
  refine X_istore hK (i := 6) [(6, .int (iI (-1))), (0, .ref a0), (1, .int (iI x1)), (2, .int (iI x2)), (3, .int (iI x3)), (4, .int (iI x4)), (5, .int (iI x5))] kd38_35.2.1 (by decide) rfl ?_
  refine X_iloadn hK (i := 1) 2 kd38_35.2.2.1 rfl rfl ?_
  refine X_callS hK [.int (iI x1)] [] lk_X11_349 (c_X11_isOfStrike _ _ _ _ _ S g x1 (by omega)) kd38_35.2.2.2.1 rfl rfl (by simp [Value.category]) (by decide) (by decide) (by decide) (by decide) (fun r1 S3 g2 pr1 qr1 hg2 => ?_)
  obtain ⟨rfl, rfl, z4, rfl, lz4, uz4, k5⟩ := pr1
  refine X_st [.int (iI z4)] rfl ?_
  refine X_if_eq hK 83 (by omega) kd38_35.2.2.2.2.1 (by decide) (fun c6 => ?_) (fun c6 => ?_)
  · refine X_aloadn hK (i := 0) 1 kd38_38.2.2.2.2.1 rfl rfl ?_
    refine X_getK hK fl_X11_10_12 hs_a0 ew0 kd38_38.2.2.2.2.2.1 ?_
    refine X_iconst hK kd38_38.2.2.2.2.2.2.1 ?_
    refine X_puti hK fl_X11_102_10 hs_w0 (by decide) sl_10_1 (by omega) (by omega) kd38_38.2.2.2.2.2.2.2.1 (fun g7 hg7 => ?_)
    refine X_iload hK (i := 6) 0 kd38_38.2.2.2.2.2.2.2.2.1 rfl ?_
    exact hret _ _ _ _ _ _ _ kd38_38.2.2.2.2.2.2.2.2.2.1 ⟨rfl, (-1), rfl, (by omega), (by omega), ((xs_s hg7).trans (by congr 2 <;> omega)), ⟨_, _, ((xs_k hg7 (by decide)).trans ekh), ((xs_k hg7 (by decide)).trans ekp), (by omega), (by omega), (Or.inr ⟨(by unfold xVal; omega), (by omega), rfl, rfl⟩)⟩⟩ (Nat.le_refl _) (Nat.le_refl _)
  · refine X_iloadn hK (i := 2) 3 kd38_35.2.2.2.2.2.1 rfl rfl ?_
    refine X_callS hK [.int (iI x2)] [] lk_X11_349 (c_X11_isOfStrike _ _ _ _ _ S g x2 (by omega)) kd38_35.2.2.2.2.2.2.1 rfl rfl (by simp [Value.category]) (by decide) (by decide) (by decide) (by decide) (fun r8 S10 g9 pr8 qr8 hg9 => ?_)
    obtain ⟨rfl, rfl, z11, rfl, lz11, uz11, k12⟩ := pr8
    refine X_st [.int (iI z11)] rfl ?_
    refine X_if_eq hK 83 (by omega) kd38_35.2.2.2.2.2.2.2.1 (by decide) (fun c13 => ?_) (fun c13 => ?_)
    · refine X_aloadn hK (i := 0) 1 kd38_38.2.2.2.2.1 rfl rfl ?_
      refine X_getK hK fl_X11_10_12 hs_a0 ew0 kd38_38.2.2.2.2.2.1 ?_
      refine X_iconst hK kd38_38.2.2.2.2.2.2.1 ?_
      refine X_puti hK fl_X11_102_10 hs_w0 (by decide) sl_10_1 (by omega) (by omega) kd38_38.2.2.2.2.2.2.2.1 (fun g14 hg14 => ?_)
      refine X_iload hK (i := 6) 0 kd38_38.2.2.2.2.2.2.2.2.1 rfl ?_
      exact hret _ _ _ _ _ _ _ kd38_38.2.2.2.2.2.2.2.2.2.1 ⟨rfl, (-1), rfl, (by omega), (by omega), ((xs_s hg14).trans (by congr 2 <;> omega)), ⟨_, _, ((xs_k hg14 (by decide)).trans ekh), ((xs_k hg14 (by decide)).trans ekp), (by omega), (by omega), (Or.inr ⟨(by unfold xVal; omega), (by omega), rfl, rfl⟩)⟩⟩ (Nat.le_refl _) (Nat.le_refl _)
    · refine X_iloadn hK (i := 3) 4 kd38_35.2.2.2.2.2.2.2.2.1 rfl rfl ?_
      refine X_callS hK [.int (iI x3)] [] lk_X11_349 (c_X11_isOfStrike _ _ _ _ _ S g x3 (by omega)) kd38_35.2.2.2.2.2.2.2.2.2.1 rfl rfl (by simp [Value.category]) (by decide) (by decide) (by decide) (by decide) (fun r15 S17 g16 pr15 qr15 hg16 => ?_)
      obtain ⟨rfl, rfl, z18, rfl, lz18, uz18, k19⟩ := pr15
      refine X_st [.int (iI z18)] rfl ?_
      refine X_if_eq hK 83 (by omega) kd38_35.2.2.2.2.2.2.2.2.2.2.1 (by decide) (fun c20 => ?_) (fun c20 => ?_)
      · refine X_aloadn hK (i := 0) 1 kd38_38.2.2.2.2.1 rfl rfl ?_
        refine X_getK hK fl_X11_10_12 hs_a0 ew0 kd38_38.2.2.2.2.2.1 ?_
        refine X_iconst hK kd38_38.2.2.2.2.2.2.1 ?_
        refine X_puti hK fl_X11_102_10 hs_w0 (by decide) sl_10_1 (by omega) (by omega) kd38_38.2.2.2.2.2.2.2.1 (fun g21 hg21 => ?_)
        refine X_iload hK (i := 6) 0 kd38_38.2.2.2.2.2.2.2.2.1 rfl ?_
        exact hret _ _ _ _ _ _ _ kd38_38.2.2.2.2.2.2.2.2.2.1 ⟨rfl, (-1), rfl, (by omega), (by omega), ((xs_s hg21).trans (by congr 2 <;> omega)), ⟨_, _, ((xs_k hg21 (by decide)).trans ekh), ((xs_k hg21 (by decide)).trans ekp), (by omega), (by omega), (Or.inr ⟨(by unfold xVal; omega), (by omega), rfl, rfl⟩)⟩⟩ (Nat.le_refl _) (Nat.le_refl _)
      · refine X_iload hK (i := 4) 5 kd38_35.2.2.2.2.2.2.2.2.2.2.2 rfl ?_
        refine X_callS hK [.int (iI x4)] [] lk_X11_349 (c_X11_isOfStrike _ _ _ _ _ S g x4 (by omega)) kd38_36.1 rfl rfl (by simp [Value.category]) (by decide) (by decide) (by decide) (by decide) (fun r22 S24 g23 pr22 qr22 hg23 => ?_)
        obtain ⟨rfl, rfl, z25, rfl, lz25, uz25, k26⟩ := pr22
        refine X_st [.int (iI z25)] rfl ?_
        refine X_if_eq hK 83 (by omega) kd38_36.2.1 (by decide) (fun c27 => ?_) (fun c27 => ?_)
        · refine X_aloadn hK (i := 0) 1 kd38_38.2.2.2.2.1 rfl rfl ?_
          refine X_getK hK fl_X11_10_12 hs_a0 ew0 kd38_38.2.2.2.2.2.1 ?_
          refine X_iconst hK kd38_38.2.2.2.2.2.2.1 ?_
          refine X_puti hK fl_X11_102_10 hs_w0 (by decide) sl_10_1 (by omega) (by omega) kd38_38.2.2.2.2.2.2.2.1 (fun g28 hg28 => ?_)
          refine X_iload hK (i := 6) 0 kd38_38.2.2.2.2.2.2.2.2.1 rfl ?_
          exact hret _ _ _ _ _ _ _ kd38_38.2.2.2.2.2.2.2.2.2.1 ⟨rfl, (-1), rfl, (by omega), (by omega), ((xs_s hg28).trans (by congr 2 <;> omega)), ⟨_, _, ((xs_k hg28 (by decide)).trans ekh), ((xs_k hg28 (by decide)).trans ekp), (by omega), (by omega), (Or.inr ⟨(by unfold xVal; omega), (by omega), rfl, rfl⟩)⟩⟩ (Nat.le_refl _) (Nat.le_refl _)
        · refine X_iload hK (i := 5) 6 kd38_36.2.2.1 rfl ?_
          refine X_callS hK [.int (iI x5)] [] lk_X11_349 (c_X11_isOfStrike _ _ _ _ _ S g x5 (by omega)) kd38_36.2.2.2.1 rfl rfl (by simp [Value.category]) (by decide) (by decide) (by decide) (by decide) (fun r29 S31 g30 pr29 qr29 hg30 => ?_)
          obtain ⟨rfl, rfl, z32, rfl, lz32, uz32, k33⟩ := pr29
          refine X_st [.int (iI z32)] rfl ?_
          refine X_if_eq hK 83 (by omega) kd38_36.2.2.2.2.1 (by decide) (fun c34 => ?_) (fun c34 => ?_)
          · refine X_aloadn hK (i := 0) 1 kd38_38.2.2.2.2.1 rfl rfl ?_
            refine X_getK hK fl_X11_10_12 hs_a0 ew0 kd38_38.2.2.2.2.2.1 ?_
            refine X_iconst hK kd38_38.2.2.2.2.2.2.1 ?_
            refine X_puti hK fl_X11_102_10 hs_w0 (by decide) sl_10_1 (by omega) (by omega) kd38_38.2.2.2.2.2.2.2.1 (fun g35 hg35 => ?_)
            refine X_iload hK (i := 6) 0 kd38_38.2.2.2.2.2.2.2.2.1 rfl ?_
            exact hret _ _ _ _ _ _ _ kd38_38.2.2.2.2.2.2.2.2.2.1 ⟨rfl, (-1), rfl, (by omega), (by omega), ((xs_s hg35).trans (by congr 2 <;> omega)), ⟨_, _, ((xs_k hg35 (by decide)).trans ekh), ((xs_k hg35 (by decide)).trans ekp), (by omega), (by omega), (Or.inr ⟨(by unfold xVal; omega), (by omega), rfl, rfl⟩)⟩⟩ (Nat.le_refl _) (Nat.le_refl _)
          · refine X_aloadn hK (i := 0) 1 kd38_36.2.2.2.2.2.1 rfl rfl ?_
            refine X_getK hK fl_X11_10_12 hs_a0 ew0 kd38_36.2.2.2.2.2.2.1 ?_
            refine X_getK hK fl_X11_102_10 hs_w0 en0 kd38_36.2.2.2.2.2.2.2.1 ?_
            refine X_iconst hK kd38_36.2.2.2.2.2.2.2.2.1 ?_
            refine X_irem hK (by omega) (by omega) kd38_36.2.2.2.2.2.2.2.2.2.1 (fun z36 wz36 ez36 fz36 hz36 => ?_)
            have bz36 : 0 ≤ z36 ∧ z36 ≤ 1 := by omega
            refine X_if_ne hK 83 (by omega) kd38_36.2.2.2.2.2.2.2.2.2.2.1 (by decide) (fun c37 => ?_) (fun c37 => ?_)
            · refine X_aloadn hK (i := 0) 1 kd38_38.2.2.2.2.1 rfl rfl ?_
              refine X_getK hK fl_X11_10_12 hs_a0 ew0 kd38_38.2.2.2.2.2.1 ?_
              refine X_iconst hK kd38_38.2.2.2.2.2.2.1 ?_
              refine X_puti hK fl_X11_102_10 hs_w0 (by decide) sl_10_1 (by omega) (by omega) kd38_38.2.2.2.2.2.2.2.1 (fun g38 hg38 => ?_)
              refine X_iload hK (i := 6) 0 kd38_38.2.2.2.2.2.2.2.2.1 rfl ?_
              exact hret _ _ _ _ _ _ _ kd38_38.2.2.2.2.2.2.2.2.2.1 ⟨rfl, (-1), rfl, (by omega), (by omega), ((xs_s hg38).trans (by congr 2 <;> omega)), ⟨_, _, ((xs_k hg38 (by decide)).trans ekh), ((xs_k hg38 (by decide)).trans ekp), (by omega), (by omega), (Or.inr ⟨(by unfold xVal; omega), (by omega), rfl, rfl⟩)⟩⟩ (Nat.le_refl _) (Nat.le_refl _)
            · refine X_aloadn hK (i := 0) 1 kd38_36.2.2.2.2.2.2.2.2.2.2.2 rfl rfl ?_
              refine X_getK hK fl_X11_10_12 hs_a0 ew0 kd38_37.1 ?_
              refine X_getK hK fl_X11_102_10 hs_w0 en0 kd38_37.2.1 ?_
              refine X_iconst hK kd38_37.2.2.1 ?_
              refine X_idiv hK (by omega) (by omega) kd38_37.2.2.2.1 (fun z39 ez39 fz39 => ?_)
              have bz39 : 0 ≤ z39 ∧ z39 ≤ 210 := by omega
              refine X_iconst hK kd38_37.2.2.2.2.1 ?_
              refine X_bipush hK kd38_37.2.2.2.2.2.1 (by decide) ?_
              refine X_callS hK [.int (iI z39), .int (iI 1), .int (iI 50)] [] lk_X11_115 (c_X11_within _ _ _ _ _ S g z39 1 50 (by omega) (by omega) (by omega)) kd38_37.2.2.2.2.2.2.1 rfl rfl (by simp [Value.category]) (by decide) (by decide) (by decide) (by decide) (fun r40 S42 g41 pr40 qr40 hg41 => ?_)
              obtain ⟨rfl, rfl, z43, rfl, lz43, uz43, k44⟩ := pr40
              refine X_st [.int (iI z43)] rfl ?_
              refine X_if_eq hK 83 (by omega) kd38_37.2.2.2.2.2.2.2.1 (by decide) (fun c45 => ?_) (fun c45 => ?_)
              · refine X_aloadn hK (i := 0) 1 kd38_38.2.2.2.2.1 rfl rfl ?_
                refine X_getK hK fl_X11_10_12 hs_a0 ew0 kd38_38.2.2.2.2.2.1 ?_
                refine X_iconst hK kd38_38.2.2.2.2.2.2.1 ?_
                refine X_puti hK fl_X11_102_10 hs_w0 (by decide) sl_10_1 (by omega) (by omega) kd38_38.2.2.2.2.2.2.2.1 (fun g46 hg46 => ?_)
                refine X_iload hK (i := 6) 0 kd38_38.2.2.2.2.2.2.2.2.1 rfl ?_
                exact hret _ _ _ _ _ _ _ kd38_38.2.2.2.2.2.2.2.2.2.1 ⟨rfl, (-1), rfl, (by omega), (by omega), ((xs_s hg46).trans (by congr 2 <;> omega)), ⟨_, _, ((xs_k hg46 (by decide)).trans ekh), ((xs_k hg46 (by decide)).trans ekp), (by omega), (by omega), (Or.inr ⟨(by unfold xVal; omega), (by omega), rfl, rfl⟩)⟩⟩ (Nat.le_refl _) (Nat.le_refl _)
              · refine X_aloadn hK (i := 0) 1 kd38_37.2.2.2.2.2.2.2.2.1 rfl rfl ?_
                refine X_iloadn hK (i := 1) 2 kd38_37.2.2.2.2.2.2.2.2.2.1 rfl rfl ?_
                refine X_iloadn hK (i := 2) 3 kd38_37.2.2.2.2.2.2.2.2.2.2.1 rfl rfl ?_
                refine X_iloadn hK (i := 3) 4 kd38_37.2.2.2.2.2.2.2.2.2.2.2 rfl rfl ?_
                refine X_iload hK (i := 4) 5 kd38_38.1 rfl ?_
                refine X_iload hK (i := 5) 6 kd38_38.2.1 rfl ?_
                refine X_callV hK [.int (iI x1), .int (iI x2), .int (iI x3), .int (iI x4), .int (iI x5)] [] lk_X11_352 (c_X11_strikeWeek _ _ _ _ _ S g a0 x1 x2 x3 x4 x5 w0 n0 y0 kh kp hs_a0 (by omega) (by omega) (by omega) (by omega) (by omega) ew0 hs_w0 (by omega) en0 ey0 hs_y0 (by omega) ekh (by omega) ekp) hs_a0 ⟨by decide, rfl⟩ kd38_38.2.2.1 rfl rfl (by simp [Value.category]) (by decide) (by decide) (by decide) (by decide) (fun r47 S49 g48 pr47 qr47 hg48 => ?_)
                obtain ⟨rfl, z50, rfl, lz50, uz50, k51⟩ := pr47
                refine X_st [.int (iI z50)] rfl ?_
                obtain ⟨z52, z53, ez52, ez53, rz52, rz53, kz52⟩ := k51
                refine X_istore hK (i := 6) [(6, .int (iI z50)), (0, .ref a0), (1, .int (iI x1)), (2, .int (iI x2)), (3, .int (iI x3)), (4, .int (iI x4)), (5, .int (iI x5))] kd38_38.2.2.2.1 (by decide) rfl ?_
                refine X_aloadn hK (i := 0) 1 kd38_38.2.2.2.2.1 rfl rfl ?_
                refine X_getK hK fl_X11_10_12 hs_a0 ((hg48 a0 12 0 0 hs_a0 (by decide)).trans ew0) kd38_38.2.2.2.2.2.1 ?_
                refine X_iconst hK kd38_38.2.2.2.2.2.2.1 ?_
                refine X_puti hK fl_X11_102_10 hs_w0 (by decide) sl_10_1 (by omega) (by omega) kd38_38.2.2.2.2.2.2.2.1 (fun g54 hg54 => ?_)
                refine X_iload hK (i := 6) 0 kd38_38.2.2.2.2.2.2.2.2.1 rfl ?_
                exact hret _ _ _ _ _ _ _ kd38_38.2.2.2.2.2.2.2.2.2.1 ⟨rfl, z50, rfl, (by omega), (by omega), ((xs_s hg54).trans (by congr 2 <;> omega)), ⟨_, _, ((xs_k hg54 (by decide)).trans ez52), ((xs_k hg54 (by decide)).trans ez53), (by omega), (by omega), (Or.inl ⟨(by unfold xVal; omega), kz52⟩)⟩⟩ (Nat.le_refl _) (Nat.le_refl _)

set_option maxHeartbeats 4000000 in
set_option maxRecDepth 100000 in
theorem c_X11_struck (l : Launch) (D : va_G) (kA : Nat → ClassId) (b0 : Nat) (t0 : Nat → Nat) (S : xT) (g : xG) (a0 : Nat) (x1 : Int) (kh : Int) (kp : Int) (hs_a0 : S a0 = some (12, 0)) (hx1 : (-2147483648) ≤ x1 ∧ x1 ≤ 2147483647) (hkh : (-2147483648) ≤ kh ∧ kh ≤ 2147483647) (ekh : g a0 16 = .int (iI kh)) (hkp : (-2147483648) ≤ kp ∧ kp ≤ 2147483647) (ekp : g a0 17 = .int (iI kp)) : xMt l yX11_struck cX11_struck 2 (some .int) 0 0 0 0 D kA b0 t0 [] [.ref a0, .int (iI x1)] S g (fun (r : Option Value) (S1 : xT) (g1 : xG) => S = S1 ∧ g = g1 ∧ ∃ z : Int, r = some (.int (iI z)) ∧ (-2147483648) ≤ z ∧ z ≤ 2147483647 ∧ (z = if x1 = 0 then kh else if x1 = 1 then kp else -1)) := by
  refine xEnterI (by decide) (by simp [lg_sl, Value.category]) [(0, .ref a0), (1, .int (iI x1))] rfl ?_
  intro K E hK hret _ _ _
  refine X_iloadn hK (i := 1) 1 kd38_45.2.2.2.2.2.2.2.2.1 rfl rfl ?_
  refine X_if_ne hK 9 (by omega) kd38_45.2.2.2.2.2.2.2.2.2.1 (by decide) (fun c1 => ?_) (fun c1 => ?_)
  · refine X_iloadn hK (i := 1) 1 kd38_46.2.1 rfl rfl ?_
    refine X_iconst hK kd38_46.2.2.1 ?_
    refine X_icmp_ne hK 21 (by omega) (by omega) kd38_46.2.2.2.1 (by decide) (fun c2 => ?_) (fun c2 => ?_)
    · refine X_iconst hK kd38_46.2.2.2.2.2.2.2.1 ?_
      exact hret _ _ _ _ _ _ _ kd38_46.2.2.2.2.2.2.2.2.1 ⟨rfl, rfl, (-1), rfl, (by omega), (by omega), (by omega)⟩ (Nat.le_refl _) (Nat.le_refl _)
    · refine X_aloadn hK (i := 0) 0 kd38_46.2.2.2.2.1 rfl rfl ?_
      refine X_getK hK fl_X11_99_12 hs_a0 ekp kd38_46.2.2.2.2.2.1 ?_
      refine X_goto hK 22 kd38_46.2.2.2.2.2.2.1 (by decide) ?_
      exact hret _ _ _ _ _ _ _ kd38_46.2.2.2.2.2.2.2.2.1 ⟨rfl, rfl, kp, rfl, (by omega), (by omega), (by omega)⟩ (Nat.le_refl _) (Nat.le_refl _)
  · refine X_aloadn hK (i := 0) 0 kd38_45.2.2.2.2.2.2.2.2.2.2.1 rfl rfl ?_
    refine X_getK hK fl_X11_96_12 hs_a0 ekh kd38_45.2.2.2.2.2.2.2.2.2.2.2 ?_
    exact hret _ _ _ _ _ _ _ kd38_46.1 ⟨rfl, rfl, kh, rfl, (by omega), (by omega), (by omega)⟩ (Nat.le_refl _) (Nat.le_refl _)

set_option maxHeartbeats 4000000 in
set_option maxRecDepth 100000 in
theorem c_X11_inForce (l : Launch) (D : va_G) (kA : Nat → ClassId) (b0 : Nat) (t0 : Nat → Nat) (S : xT) (g : xG) (a0 : Nat) (x1 : Int) (hs_a0 : S a0 = some (12, 0)) (hx1 : (-2147483648) ≤ x1 ∧ x1 ≤ 2147483647) (hp0 : xLs S g) : xMt l yX11_inForce cX11_inForce 5 (some (.object "PaperBoys$Terms")) 3 0 0 64 D kA b0 t0 [] [.ref a0, .int (iI x1)] S g (fun (r : Option Value) (S1 : xT) (g1 : xG) => S = S1 ∧ g = g1 ∧ ∃ z : Nat, r = some (.ref z) ∧ S z = some (11, 0)) := by
  refine xEnterA (Or.inl ⟨_, rfl⟩) (by decide) (by simp [lg_sl, Value.category]) [(0, .ref a0), (1, .int (iI x1))] rfl ?_
  intro K E hK hret _ _ _
  refine X_aloadn hK (i := 0) 0 kd38_24.2.2.2.2.2.2.2.2.2.1 rfl rfl ?_
  refine X_getr hK 11 0 fl_X11_45_12 hs_a0 sl_12_5 kd38_24.2.2.2.2.2.2.2.2.2.2.1 (fun b1 eb1 hs_b1 => ?_)
  refine X_astoren hK (i := 2) [(2, .ref b1), (0, .ref a0), (1, .int (iI x1))] kd38_24.2.2.2.2.2.2.2.2.2.2.2 rfl (by decide) rfl ?_
  refine X_iconst hK kd38_25.1 ?_
  refine X_istoren hK (i := 3) [(3, .int (iI 0)), (2, .ref b1), (0, .ref a0), (1, .int (iI x1))] kd38_25.2.1 rfl (by decide) rfl ?_
  have P134 : ∀ (nP134 : Nat) (z112 : Int) (_ : 0 ≤ z112) (_ : z112 ≤ 10) (b113 : Nat) (_ : S b113 = some (11, 0)) (_ : 26 - z112 < (nP134 : Int)), X K E 7 [(3, .int (iI z112)), (2, .ref b113), (0, .ref a0), (1, .int (iI x1))] [] S g 0 0 := by
    intro nP134
    induction nP134 with
    | zero => intro z112 lz112 uz112 b113 hs_b113 mP134; exact False.elim (by omega)
    | succ nP134 ihP134 =>
      intro z112 lz112 uz112 b113 hs_b113 mP134
      refine X_iloadn hK (i := 3) 0 kd38_25.2.2.1 rfl rfl ?_
      refine X_aloadn hK (i := 0) 2 kd38_25.2.2.2.1 rfl rfl ?_
      refine X_getr hK 300 0 fl_X11_38_12 hs_a0 sl_12_4 kd38_25.2.2.2.2.1 (fun b135 eb135 hs_b135 => ?_)
      refine X_know hs_b135 (by decide) sl_300_2 (fun z136 ez136 lz136 uz136 => ?_)
      refine X_callV hK [] [.int (iI z112)] lk_X11_112 (c_size_300 _ _ _ _ _ S g b135 z136 hs_b135 (by omega) ez136 hp0) hs_b135 ⟨by decide, rfl⟩ kd38_25.2.2.2.2.2.1 rfl rfl (by simp [Value.category]) (by decide) (by decide) (by decide) (by decide) (fun r137 S139 g138 pr137 qr137 hg138 => ?_)
      obtain ⟨rfl, rfl, z140, rfl, lz140, uz140, k141⟩ := pr137
      refine X_st [.int (iI z140), .int (iI z112)] rfl ?_
      refine X_icmp_ge hK 61 (by omega) (by omega) kd38_25.2.2.2.2.2.2.1 (by decide) (fun c142 => ?_) (fun c142 => ?_)
      · refine X_aloadn hK (i := 2) 1 kd38_27.2.2.1 rfl rfl ?_
        exact hret _ _ _ _ _ _ _ kd38_27.2.2.2.1 (Or.inr ⟨_, rfl⟩) ⟨rfl, rfl, b113, rfl, hs_b113⟩ (Nat.le_refl _) (Nat.le_refl _)
      · refine X_aloadn hK (i := 0) 2 kd38_25.2.2.2.2.2.2.2.1 rfl rfl ?_
        refine X_getK hK fl_X11_38_12 hs_a0 eb135 kd38_25.2.2.2.2.2.2.2.2.1 ?_
        refine X_iloadn hK (i := 3) 0 kd38_25.2.2.2.2.2.2.2.2.2.1 rfl rfl ?_
        refine X_callV hK [.int (iI z112)] [] lk_X11_135 (c_get_300 _ _ _ _ _ S g b135 z112 z136 hs_b135 (by omega) (by omega) ez136 hp0 (by omega)) hs_b135 ⟨by decide, rfl⟩ kd38_25.2.2.2.2.2.2.2.2.2.2.1 rfl rfl (by simp [Value.category]) (by decide) (by decide) (by decide) (by decide) (fun r143 S145 g144 pr143 qr143 hg144 => ?_)
        obtain ⟨rfl, rfl, b146, rfl, hs_b146⟩ := pr143
        refine X_st [.ref b146] rfl ?_
        refine X_cast hK hs_b146 ⟨by decide, rfl⟩ m_2_7 kd38_25.2.2.2.2.2.2.2.2.2.2.2 ?_
        refine X_astore hK (i := 4) [(4, .ref b146), (3, .int (iI z112)), (2, .ref b113), (0, .ref a0), (1, .int (iI x1))] kd38_26.1 (by decide) rfl ?_
        refine X_aload hK (i := 4) 0 kd38_26.2.1 rfl ?_
        refine X_geti hK fl_X11_356_11 hs_b146 sl_11_0 kd38_26.2.2.1 (fun z147 ez147 lz147 uz147 => ?_)
        refine X_iloadn hK (i := 1) 4 kd38_26.2.2.2.1 rfl rfl ?_
        have J152 : ∀ (b151 : Nat) (hs_b151 : S b151 = some (11, 0)), X K E 55 [(4, .ref b146), (3, .int (iI z112)), (2, .ref b151), (0, .ref a0), (1, .int (iI x1))] [] S g 0 0 := by
          intro b151 hs_b151
          refine X_iinc hK (i := 3) (z := z112) (n := 1) 1 [(3, .int (iI (z112 + 1))), (4, .ref b146), (2, .ref b151), (0, .ref a0), (1, .int (iI x1))] kd38_27.1 rfl (by decide) rfl ?_
          refine X_goto hK 7 kd38_27.2.1 (by decide) ?_
          refine X_lv [(3, .int (iI (z112 + 1))), (2, .ref b151), (0, .ref a0), (1, .int (iI x1))] [0, 2, 3, 4] rfl ?_
          exact ihP134  (z112 + 1) (by omega) (by omega) b151 hs_b151 (by omega)
        refine X_icmp_gt hK 55 (by omega) (by omega) kd38_26.2.2.2.2.1 (by decide) (fun c148 => ?_) (fun c148 => ?_)
        · exact J152 b113 hs_b113
        · refine X_aload hK (i := 4) 0 kd38_26.2.2.2.2.2.1 rfl ?_
          refine X_getK hK fl_X11_356_11 hs_b146 ez147 kd38_26.2.2.2.2.2.2.1 ?_
          refine X_aloadn hK (i := 2) 2 kd38_26.2.2.2.2.2.2.2.1 rfl rfl ?_
          refine X_geti hK fl_X11_356_11 hs_b113 sl_11_0 kd38_26.2.2.2.2.2.2.2.2.1 (fun z153 ez153 lz153 uz153 => ?_)
          refine X_icmp_lt hK 55 (by omega) (by omega) kd38_26.2.2.2.2.2.2.2.2.2.1 (by decide) (fun c154 => ?_) (fun c154 => ?_)
          · exact J152 b113 hs_b113
          · refine X_aload hK (i := 4) 0 kd38_26.2.2.2.2.2.2.2.2.2.2.1 rfl ?_
            refine X_astoren hK (i := 2) [(2, .ref b146), (4, .ref b146), (3, .int (iI z112)), (0, .ref a0), (1, .int (iI x1))] kd38_26.2.2.2.2.2.2.2.2.2.2.2 rfl (by decide) rfl ?_
            refine X_lv [(4, .ref b146), (3, .int (iI z112)), (2, .ref b146), (0, .ref a0), (1, .int (iI x1))] [1, 2, 0, 3, 4] rfl ?_
            exact J152 b146 hs_b146
  exact P134 ((26 - 0 : Int).toNat + 1) 0 (by omega) (by omega) b1 hs_b1 (by omega)

set_option maxHeartbeats 4000000 in
set_option maxRecDepth 100000 in
theorem c_X11_told (l : Launch) (D : va_G) (kA : Nat → ClassId) (b0 : Nat) (t0 : Nat → Nat) (S : xT) (g : xG) (a0 : Nat) (x1 : Int) (x2 : Int) (hs_a0 : S a0 = some (12, 0)) (hx1 : (-2147483648) ≤ x1 ∧ x1 ≤ 2147483647) (hx2 : (-2147483648) ≤ x2 ∧ x2 ≤ 2147483647) (hp0 : xLs S g) : xMt l yX11_told cX11_told 5 (some .int) 4 0 0 88 D kA b0 t0 [(12, 14), (12000, 0)] [.ref a0, .int (iI x1), .int (iI x2)] S g (fun (r : Option Value) (S1 : xT) (g1 : xG) => S = S1 ∧ ∃ z : Int, r = some (.int (iI z)) ∧ (-2147483648) ≤ z ∧ z ≤ 2147483647) := by
  refine xEnterI (by decide) (by simp [lg_sl, Value.category]) [(0, .ref a0), (1, .int (iI x1)), (2, .int (iI x2))] rfl ?_
  intro K E hK hret _ _ _
  refine X_aloadn hK (i := 0) 0 kd38_49.2.2.2.2.2.2.2.2.2.1 rfl rfl ?_
  refine X_iconst hK kd38_49.2.2.2.2.2.2.2.2.2.2.1 ?_
  refine X_puti hK fl_X11_90_12 hs_a0 (by decide) sl_12_14 (by omega) (by omega) kd38_49.2.2.2.2.2.2.2.2.2.2.2 (fun g1 hg1 => ?_)
  refine X_aloadn hK (i := 0) 0 kd38_50.1 rfl rfl ?_
  refine X_getr hK 6 0 fl_X11_19_12 hs_a0 sl_12_1 kd38_50.2.1 (fun b2 eb2 hs_b2 => ?_)
  refine X_iloadn hK (i := 1) 1 kd38_50.2.2.1 rfl rfl ?_
  refine X_knowr 100 0 hs_b2 (by decide) sl_6_2 (fun b3 eb3 hs_b3 => ?_)
  refine X_callV hK [.int (iI x1)] [] lk_X11_221 (c2_hasBundle _ _ _ _ _ S g1 b2 x1 b3 hs_b2 (by omega) eb3 hs_b3 (xLs_up hp0 hg1 hs_a0 (by decide))) hs_b2 ⟨by decide, rfl⟩ kd38_50.2.2.2.1 rfl rfl (by simp [Value.category]) (by decide) (by decide) (by decide) (by decide) (fun r4 S6 g5 pr4 qr4 hg5 => ?_)
  obtain ⟨rfl, rfl, z7, rfl, lz7, uz7, k8⟩ := pr4
  refine X_st [.int (iI z7)] rfl ?_
  obtain ⟨z9, ez9, lz9, uz9, kz9⟩ := k8
  refine X_if_eq hK 25 (by omega) kd38_50.2.2.2.2.1 (by decide) (fun c10 => ?_) (fun c10 => ?_)
  · refine X_iconst hK kd38_50.2.2.2.2.2.2.2.2.2.2.1 ?_
    exact hret _ _ _ _ _ _ _ kd38_50.2.2.2.2.2.2.2.2.2.2.2 ⟨rfl, (-1), rfl, (by omega), (by omega)⟩ (Nat.le_refl _) (Nat.le_refl _)
  · refine X_iloadn hK (i := 2) 2 kd38_50.2.2.2.2.2.1 rfl rfl ?_
    refine X_iconst hK kd38_50.2.2.2.2.2.2.1 ?_
    refine X_iconst hK kd38_50.2.2.2.2.2.2.2.1 ?_
    refine X_callS hK [.int (iI x2), .int (iI 0), .int (iI 5)] [] lk_X11_115 (c_X11_within _ _ _ _ _ S g1 x2 0 5 (by omega) (by omega) (by omega)) kd38_50.2.2.2.2.2.2.2.2.1 rfl rfl (by simp [Value.category]) (by decide) (by decide) (by decide) (by decide) (fun r11 S13 g12 pr11 qr11 hg12 => ?_)
    obtain ⟨rfl, rfl, z14, rfl, lz14, uz14, k15⟩ := pr11
    refine X_st [.int (iI z14)] rfl ?_
    refine X_if_ne hK 27 (by omega) kd38_50.2.2.2.2.2.2.2.2.2.1 (by decide) (fun c16 => ?_) (fun c16 => ?_)
    · refine X_aloadn hK (i := 0) 0 kd38_51.1 rfl rfl ?_
      refine X_getK hK fl_X11_19_12 hs_a0 eb2 kd38_51.2.1 ?_
      refine X_getK hK fl_X11_205_6 hs_b2 eb3 kd38_51.2.2.1 ?_
      refine X_iloadn hK (i := 1) 1 kd38_51.2.2.2.1 rfl rfl ?_
      refine X_callV hK [.int (iI x1)] [] lk_X11_135 (c_get_100 _ _ _ _ _ S g1 b3 x1 z9 hs_b3 (by omega) (by omega) ez9 (xLs_up hp0 hg1 hs_a0 (by decide)) (by omega)) hs_b3 ⟨by decide, rfl⟩ kd38_51.2.2.2.2.1 rfl rfl (by simp [Value.category]) (by decide) (by decide) (by decide) (by decide) (fun r17 S19 g18 pr17 qr17 hg18 => ?_)
      obtain ⟨rfl, rfl, b20, rfl, hs_b20⟩ := pr17
      refine X_st [.ref b20] rfl ?_
      refine X_cast hK hs_b20 ⟨by decide, rfl⟩ m_32_22 kd38_51.2.2.2.2.2.1 ?_
      refine X_astoren hK (i := 3) [(3, .ref b20), (0, .ref a0), (1, .int (iI x1)), (2, .int (iI x2))] kd38_51.2.2.2.2.2.2.1 rfl (by decide) rfl ?_
      refine X_aloadn hK (i := 0) 1 kd38_51.2.2.2.2.2.2.2.1 rfl rfl ?_
      refine X_aloadn hK (i := 3) 0 kd38_51.2.2.2.2.2.2.2.2.1 rfl rfl ?_
      refine X_geti hK fl_X11_224_2 hs_b20 sl_2_5 kd38_51.2.2.2.2.2.2.2.2.2.1 (fun z21 ez21 lz21 uz21 => ?_)
      refine X_callV hK [.int (iI z21)] [] lk_X11_213 (c_X11_inForce _ _ _ _ _ S g1 a0 z21 hs_a0 (by omega) (xLs_up hp0 hg1 hs_a0 (by decide))) hs_a0 ⟨by decide, rfl⟩ kd38_51.2.2.2.2.2.2.2.2.2.2.1 rfl rfl (by simp [Value.category]) (by decide) (by decide) (by decide) (by decide) (fun r22 S24 g23 pr22 qr22 hg23 => ?_)
      obtain ⟨rfl, rfl, b25, rfl, hs_b25⟩ := pr22
      refine X_st [.ref b25] rfl ?_
      refine X_astore hK (i := 4) [(4, .ref b25), (3, .ref b20), (0, .ref a0), (1, .int (iI x1)), (2, .int (iI x2))] kd38_51.2.2.2.2.2.2.2.2.2.2.2 (by decide) rfl ?_
      refine X_aloadn hK (i := 0) 2 kd38_52.1 rfl rfl ?_
      refine X_getK hK fl_X11_19_12 hs_a0 eb2 kd38_52.2.1 ?_
      refine X_aloadn hK (i := 3) 1 kd38_52.2.2.1 rfl rfl ?_
      refine X_callV hK [.ref b20] [] lk_X11_227 (c_X5_learn _ _ _ _ _ S g1 b2 b20 hs_b2 hs_b20) hs_b2 ⟨by decide, rfl⟩ kd38_52.2.2.2.1 rfl rfl (by simp [Value.category]) (by decide) (by decide) (by decide) (by decide) (fun r26 S28 g27 pr26 qr26 hg27 => ?_)
      obtain ⟨rfl, rfl⟩ := pr26
      refine X_st [] rfl ?_
      refine X_aloadn hK (i := 0) 2 kd38_52.2.2.2.2.1 rfl rfl ?_
      refine X_aload hK (i := 4) 0 kd38_52.2.2.2.2.2.1 rfl ?_
      refine X_iloadn hK (i := 2) 4 kd38_52.2.2.2.2.2.2.1 rfl rfl ?_
      refine X_aloadn hK (i := 0) 2 kd38_52.2.2.2.2.2.2.2.1 rfl rfl ?_
      refine X_getK hK fl_X11_19_12 hs_a0 ((hg27 a0 12 0 1 hs_a0 (by decide)).trans eb2) kd38_52.2.2.2.2.2.2.2.2.1 ?_
      refine X_getr hK 12000 12 fl_X11_231_6 hs_b2 sl_6_4 kd38_52.2.2.2.2.2.2.2.2.2.1 (fun b29 eb29 hs_b29 => ?_)
      refine X_callV hK [.int (iI x2), .ref b29] [.ref a0] lk_X11_234 (c_X10_lineFor _ _ _ _ _ S g27 b25 x2 b29 hs_b25 (by omega) hs_b29) hs_b25 ⟨by decide, rfl⟩ kd38_52.2.2.2.2.2.2.2.2.2.2.1 rfl rfl (by simp [Value.category]) (by decide) (by decide) (by decide) (by decide) (fun r30 S32 g31 pr30 qr30 hg31 => ?_)
      obtain ⟨rfl, rfl, z33, rfl, lz33, uz33⟩ := pr30
      refine X_st [.int (iI z33), .ref a0] rfl ?_
      refine X_puti hK fl_X11_90_12 hs_a0 (by decide) sl_12_14 (by omega) (by omega) kd38_52.2.2.2.2.2.2.2.2.2.2.2 (fun g34 hg34 => ?_)
      refine X_aload hK (i := 4) 0 kd38_53.1 rfl ?_
      refine X_aloadn hK (i := 0) 2 kd38_53.2.1 rfl rfl ?_
      refine X_getK hK fl_X11_90_12 hs_a0 (xs_s hg34) kd38_53.2.2.1 ?_
      refine X_iloadn hK (i := 2) 4 kd38_53.2.2.2.1 rfl rfl ?_
      refine X_callV hK [.int (iI z33), .int (iI x2)] [] lk_X11_238 (c_X10_numberOf _ _ _ _ _ S g34 b25 z33 x2 hs_b25 (by omega) (by omega)) hs_b25 ⟨by decide, rfl⟩ kd38_53.2.2.2.2.1 rfl rfl (by simp [Value.category]) (by decide) (by decide) (by decide) (by decide) (fun r35 S37 g36 pr35 qr35 hg36 => ?_)
      obtain ⟨rfl, rfl, z38, rfl, lz38, uz38⟩ := pr35
      refine X_st [.int (iI z38)] rfl ?_
      exact hret _ _ _ _ _ _ _ kd38_53.2.2.2.2.2.1 ⟨rfl, z38, rfl, (by omega), (by omega)⟩ (Nat.le_refl _) (Nat.le_refl _)
    · refine X_iconst hK kd38_50.2.2.2.2.2.2.2.2.2.2.1 ?_
      exact hret _ _ _ _ _ _ _ kd38_50.2.2.2.2.2.2.2.2.2.2.2 ⟨rfl, (-1), rfl, (by omega), (by omega)⟩ (Nat.le_refl _) (Nat.le_refl _)
