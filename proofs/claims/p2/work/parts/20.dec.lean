theorem m_1_2 : Cond.initialized RX11 ∈ wsL_law := ch_1 _ (List.mem_of_getElem? (i := 2) rfl)
theorem m_1_5 : Cond.initialized RX12 ∈ wsL_law := ch_1 _ (List.mem_of_getElem? (i := 5) rfl)
theorem m_2_1 : Cond.initialized RX4 ∈ wsL_law := ch_2 _ (List.mem_of_getElem? (i := 1) rfl)
theorem m_2_9 : Cond.initialized RX10 ∈ wsL_law := ch_2 _ (List.mem_of_getElem? (i := 9) rfl)
theorem m_2_13 : Cond.initialized RX7 ∈ wsL_law := ch_2 _ (List.mem_of_getElem? (i := 13) rfl)
theorem m_2_18 : Cond.initialized RX2 ∈ wsL_law := ch_2 _ (List.mem_of_getElem? (i := 18) rfl)
theorem m_3_2 : Cond.initialized RX6 ∈ wsL_law := ch_3 _ (List.mem_of_getElem? (i := 2) rfl)
theorem m_3_15 : Cond.fieldLink RX9 9 "PaperBoys$Tape" "bytes" "[I" ∈ wsL_law := ch_3 _ (List.mem_of_getElem? (i := 15) rfl)
theorem m_3_16 : Cond.fieldLink RX9 15 "PaperBoys$Tape" "size" "I" ∈ wsL_law := ch_3 _ (List.mem_of_getElem? (i := 16) rfl)
theorem m_3_22 : Cond.initialized RX3 ∈ wsL_law := ch_3 _ (List.mem_of_getElem? (i := 22) rfl)
theorem m_4_12 : Cond.fieldLink RX3 9 "PaperBoys$City" "sky" "[I" ∈ wsL_law := ch_4 _ (List.mem_of_getElem? (i := 12) rfl)
theorem m_4_14 : Cond.fieldLink RX3 17 "PaperBoys$City" "headlines" "[[I" ∈ wsL_law := ch_4 _ (List.mem_of_getElem? (i := 14) rfl)
theorem m_4_15 : Cond.fieldLink RX3 20 "PaperBoys$City" "wet" "[I" ∈ wsL_law := ch_4 _ (List.mem_of_getElem? (i := 15) rfl)
theorem m_4_16 : Cond.fieldLink RX3 23 "PaperBoys$City" "loud" "[I" ∈ wsL_law := ch_4 _ (List.mem_of_getElem? (i := 16) rfl)
theorem m_4_17 : Cond.fieldLink RX3 26 "PaperBoys$City" "wants" "[[I" ∈ wsL_law := ch_4 _ (List.mem_of_getElem? (i := 17) rfl)
theorem m_5_14 : Cond.fieldLink RX4 9 "PaperBoys$Ledger" "place" "[I" ∈ wsL_law := ch_5 _ (List.mem_of_getElem? (i := 14) rfl)
theorem m_5_15 : Cond.fieldLink RX4 15 "PaperBoys$Ledger" "copies" "[I" ∈ wsL_law := ch_5 _ (List.mem_of_getElem? (i := 15) rfl)
theorem m_5_16 : Cond.fieldLink RX4 18 "PaperBoys$Ledger" "told" "[I" ∈ wsL_law := ch_5 _ (List.mem_of_getElem? (i := 16) rfl)
theorem m_5_17 : Cond.fieldLink RX4 21 "PaperBoys$Ledger" "size" "I" ∈ wsL_law := ch_5 _ (List.mem_of_getElem? (i := 17) rfl)
theorem m_5_23 : Cond.fieldLink RX10 15 "PaperBoys$Terms" "lines" "I" ∈ wsL_law := ch_5 _ (List.mem_of_getElem? (i := 23) rfl)
theorem m_6_0 : Cond.fieldLink RX10 18 "PaperBoys$Terms" "steps" "I" ∈ wsL_law := ch_6 _ (List.mem_of_getElem? (i := 0) rfl)
theorem m_6_1 : Cond.fieldLink RX10 21 "PaperBoys$Terms" "kind" "[I" ∈ wsL_law := ch_6 _ (List.mem_of_getElem? (i := 1) rfl)
theorem m_6_2 : Cond.fieldLink RX10 25 "PaperBoys$Terms" "number" "[I" ∈ wsL_law := ch_6 _ (List.mem_of_getElem? (i := 2) rfl)
theorem m_6_3 : Cond.fieldLink RX10 28 "PaperBoys$Terms" "first" "[I" ∈ wsL_law := ch_6 _ (List.mem_of_getElem? (i := 3) rfl)
theorem m_6_4 : Cond.fieldLink RX10 31 "PaperBoys$Terms" "behind" "[I" ∈ wsL_law := ch_6 _ (List.mem_of_getElem? (i := 4) rfl)
theorem m_6_5 : Cond.fieldLink RX10 34 "PaperBoys$Terms" "step" "[I" ∈ wsL_law := ch_6 _ (List.mem_of_getElem? (i := 5) rfl)
theorem m_6_9 : Cond.fieldLink RX7 9 "PaperBoys$Reader" "token" "[I" ∈ wsL_law := ch_6 _ (List.mem_of_getElem? (i := 9) rfl)
theorem m_6_10 : Cond.fieldLink RX7 15 "PaperBoys$Reader" "place" "[I" ∈ wsL_law := ch_6 _ (List.mem_of_getElem? (i := 10) rfl)
theorem m_6_11 : Cond.fieldLink RX7 18 "PaperBoys$Reader" "at" "I" ∈ wsL_law := ch_6 _ (List.mem_of_getElem? (i := 11) rfl)
theorem m_6_14 : Cond.fieldLink RX7 29 "PaperBoys$Reader" "fault" "I" ∈ wsL_law := ch_6 _ (List.mem_of_getElem? (i := 14) rfl)
theorem m_6_15 : Cond.fieldLink RX7 32 "PaperBoys$Reader" "faultPlace" "I" ∈ wsL_law := ch_6 _ (List.mem_of_getElem? (i := 15) rfl)
theorem m_6_19 : Cond.fieldLink RX2 9 "PaperBoys$Chances" "asks" "[I" ∈ wsL_law := ch_6 _ (List.mem_of_getElem? (i := 19) rfl)
theorem m_6_20 : Cond.fieldLink RX2 15 "PaperBoys$Chances" "shares" "[I" ∈ wsL_law := ch_6 _ (List.mem_of_getElem? (i := 20) rfl)
theorem m_6_21 : Cond.fieldLink RX2 18 "PaperBoys$Chances" "size" "I" ∈ wsL_law := ch_6 _ (List.mem_of_getElem? (i := 21) rfl)
theorem m_6_22 : Cond.fieldLink RX2 22 "PaperBoys$Chances" "expected" "J" ∈ wsL_law := ch_6 _ (List.mem_of_getElem? (i := 22) rfl)
theorem m_7_11 : Cond.fieldLink RX6 9 "PaperBoys$Parting" "n" "I" ∈ wsL_law := ch_7 _ (List.mem_of_getElem? (i := 11) rfl)
theorem m_7_12 : Cond.fieldLink RX6 15 "PaperBoys$Parting" "gain" "[I" ∈ wsL_law := ch_7 _ (List.mem_of_getElem? (i := 12) rfl)
theorem m_7_13 : Cond.fieldLink RX6 19 "PaperBoys$Parting" "might" "[I" ∈ wsL_law := ch_7 _ (List.mem_of_getElem? (i := 13) rfl)
theorem m_7_14 : Cond.fieldLink RX6 22 "PaperBoys$Parting" "cornerOf" "[I" ∈ wsL_law := ch_7 _ (List.mem_of_getElem? (i := 14) rfl)
theorem m_7_15 : Cond.fieldLink RX6 25 "PaperBoys$Parting" "boyOf" "[I" ∈ wsL_law := ch_7 _ (List.mem_of_getElem? (i := 15) rfl)
theorem m_7_19 : Cond.fieldLink RX6 34 "PaperBoys$Parting" "sentAway" "[Z" ∈ wsL_law := ch_7 _ (List.mem_of_getElem? (i := 19) rfl)
theorem m_7_20 : Cond.fieldLink RX6 38 "PaperBoys$Parting" "clash" "[J" ∈ wsL_law := ch_7 _ (List.mem_of_getElem? (i := 20) rfl)
theorem m_8_2 : Cond.fieldLink RX12 7 "PaperBoysModel" "tape" "[I" ∈ wsL_law := ch_8 _ (List.mem_of_getElem? (i := 2) rfl)
theorem m_8_3 : Cond.fieldLink RX12 13 "PaperBoysModel" "age" "[I" ∈ wsL_law := ch_8 _ (List.mem_of_getElem? (i := 3) rfl)
theorem m_8_4 : Cond.fieldLink RX12 16 "PaperBoysModel" "badge" "[I" ∈ wsL_law := ch_8 _ (List.mem_of_getElem? (i := 4) rfl)
theorem m_8_5 : Cond.fieldLink RX12 19 "PaperBoysModel" "fists" "[I" ∈ wsL_law := ch_8 _ (List.mem_of_getElem? (i := 5) rfl)
theorem m_8_6 : Cond.fieldLink RX12 22 "PaperBoysModel" "coin" "[I" ∈ wsL_law := ch_8 _ (List.mem_of_getElem? (i := 6) rfl)
theorem m_8_7 : Cond.fieldLink RX12 25 "PaperBoysModel" "school" "[Z" ∈ wsL_law := ch_8 _ (List.mem_of_getElem? (i := 7) rfl)
theorem m_8_8 : Cond.fieldLink RX12 29 "PaperBoysModel" "ownerOf" "[I" ∈ wsL_law := ch_8 _ (List.mem_of_getElem? (i := 8) rfl)
theorem m_8_9 : Cond.fieldLink RX12 32 "PaperBoysModel" "skies" "[I" ∈ wsL_law := ch_8 _ (List.mem_of_getElem? (i := 9) rfl)
theorem m_8_10 : Cond.fieldLink RX12 35 "PaperBoysModel" "heads" "[I" ∈ wsL_law := ch_8 _ (List.mem_of_getElem? (i := 10) rfl)
theorem m_8_11 : Cond.fieldLink RX12 38 "PaperBoysModel" "wants" "[I" ∈ wsL_law := ch_8 _ (List.mem_of_getElem? (i := 11) rfl)
theorem m_8_12 : Cond.fieldLink RX12 41 "PaperBoysModel" "wet" "[I" ∈ wsL_law := ch_8 _ (List.mem_of_getElem? (i := 12) rfl)
theorem m_8_13 : Cond.fieldLink RX12 44 "PaperBoysModel" "loud" "[I" ∈ wsL_law := ch_8 _ (List.mem_of_getElem? (i := 13) rfl)
theorem m_8_14 : Cond.fieldLink RX12 47 "PaperBoysModel" "way" "[I" ∈ wsL_law := ch_8 _ (List.mem_of_getElem? (i := 14) rfl)
theorem m_8_16 : Cond.fieldLink RX12 53 "PaperBoysModel" "fromDay" "[I" ∈ wsL_law := ch_8 _ (List.mem_of_getElem? (i := 16) rfl)
theorem m_9_1 : Cond.fieldLink RX12 80 "PaperBoysModel" "fact" "[I" ∈ wsL_law := ch_9 _ (List.mem_of_getElem? (i := 1) rfl)
theorem m_9_4 : Cond.fieldLink RX12 90 "PaperBoysModel" "boyOf" "[I" ∈ wsL_law := ch_9 _ (List.mem_of_getElem? (i := 4) rfl)
theorem m_9_5 : Cond.fieldLink RX12 93 "PaperBoysModel" "paperOf" "[I" ∈ wsL_law := ch_9 _ (List.mem_of_getElem? (i := 5) rfl)
theorem m_9_6 : Cond.fieldLink RX12 96 "PaperBoysModel" "cornerOf" "[I" ∈ wsL_law := ch_9 _ (List.mem_of_getElem? (i := 6) rfl)
theorem m_9_8 : Cond.fieldLink RX12 102 "PaperBoysModel" "hourOf" "[I" ∈ wsL_law := ch_9 _ (List.mem_of_getElem? (i := 8) rfl)
theorem m_9_9 : Cond.fieldLink RX12 105 "PaperBoysModel" "dayOf" "[I" ∈ wsL_law := ch_9 _ (List.mem_of_getElem? (i := 9) rfl)
theorem m_9_10 : Cond.fieldLink RX12 108 "PaperBoysModel" "costOf" "[I" ∈ wsL_law := ch_9 _ (List.mem_of_getElem? (i := 10) rfl)
theorem m_9_11 : Cond.fieldLink RX12 111 "PaperBoysModel" "sold" "[I" ∈ wsL_law := ch_9 _ (List.mem_of_getElem? (i := 11) rfl)
theorem m_9_12 : Cond.fieldLink RX12 114 "PaperBoysModel" "backOf" "[I" ∈ wsL_law := ch_9 _ (List.mem_of_getElem? (i := 12) rfl)
theorem m_9_13 : Cond.fieldLink RX12 117 "PaperBoysModel" "eaten" "[I" ∈ wsL_law := ch_9 _ (List.mem_of_getElem? (i := 13) rfl)
theorem m_9_14 : Cond.fieldLink RX12 120 "PaperBoysModel" "why" "I" ∈ wsL_law := ch_9 _ (List.mem_of_getElem? (i := 14) rfl)
theorem m_9_17 : Cond.fieldLink RX12 129 "PaperBoysModel" "isCried" "[Z" ∈ wsL_law := ch_9 _ (List.mem_of_getElem? (i := 17) rfl)
theorem m_9_19 : Cond.fieldLink RX12 135 "PaperBoysModel" "countPaper" "[I" ∈ wsL_law := ch_9 _ (List.mem_of_getElem? (i := 19) rfl)
theorem m_9_20 : Cond.fieldLink RX12 138 "PaperBoysModel" "countCorner" "[I" ∈ wsL_law := ch_9 _ (List.mem_of_getElem? (i := 20) rfl)
theorem m_9_21 : Cond.fieldLink RX12 141 "PaperBoysModel" "countDay" "[I" ∈ wsL_law := ch_9 _ (List.mem_of_getElem? (i := 21) rfl)
theorem m_9_22 : Cond.fieldLink RX12 144 "PaperBoysModel" "countCopies" "[I" ∈ wsL_law := ch_9 _ (List.mem_of_getElem? (i := 22) rfl)
theorem m_9_23 : Cond.fieldLink RX12 147 "PaperBoysModel" "countTold" "[I" ∈ wsL_law := ch_9 _ (List.mem_of_getElem? (i := 23) rfl)
theorem m_10_0 : Cond.fieldLink RX12 150 "PaperBoysModel" "triedEaten" "I" ∈ wsL_law := ch_10 _ (List.mem_of_getElem? (i := 0) rfl)
theorem m_10_3 : Cond.fieldLink RX12 159 "PaperBoysModel" "has" "[I" ∈ wsL_law := ch_10 _ (List.mem_of_getElem? (i := 3) rfl)
theorem m_10_11 : Cond.fieldLink RX12 183 "PaperBoysModel" "truckWay" "[I" ∈ wsL_law := ch_10 _ (List.mem_of_getElem? (i := 11) rfl)
theorem m_10_14 : Cond.fieldLink RX12 192 "PaperBoysModel" "struckHow" "I" ∈ wsL_law := ch_10 _ (List.mem_of_getElem? (i := 14) rfl)
theorem m_10_15 : Cond.fieldLink RX12 195 "PaperBoysModel" "struckPrice" "I" ∈ wsL_law := ch_10 _ (List.mem_of_getElem? (i := 15) rfl)
theorem m_11_5 : Cond.fieldLink RX12 198 "PaperBoysModel" "thrown" "I" ∈ wsL_law := ch_11 _ (List.mem_of_getElem? (i := 5) rfl)
theorem m_11_6 : Cond.fieldLink RX12 201 "PaperBoysModel" "taped" "I" ∈ wsL_law := ch_11 _ (List.mem_of_getElem? (i := 6) rfl)
theorem m_12_8 : Cond.methodLink RX11 115 yX11_within ∈ wsL_law := ch_12 _ (List.mem_of_getElem? (i := 8) rfl)
theorem m_12_9 : Cond.static yX11_within ∈ wsL_law := ch_12 _ (List.mem_of_getElem? (i := 9) rfl)
theorem m_12_10 : Cond.code yX11_within cX11_within 3 (some .boolean) ∈ wsL_law := ch_12 _ (List.mem_of_getElem? (i := 10) rfl)
theorem m_12_14 : Cond.methodLink RX11 159 yX11_isDay ∈ wsL_law := ch_12 _ (List.mem_of_getElem? (i := 14) rfl)
theorem m_12_15 : Cond.static yX11_isDay ∈ wsL_law := ch_12 _ (List.mem_of_getElem? (i := 15) rfl)
theorem m_12_16 : Cond.code yX11_isDay cX11_isDay 1 (some .boolean) ∈ wsL_law := ch_12 _ (List.mem_of_getElem? (i := 16) rfl)
theorem m_13_23 : Cond.initialized "java/lang/Math" ∈ wsL_law := ch_13 _ (List.mem_of_getElem? (i := 23) rfl)
theorem m_15_1 : Cond.static Lib.Math.min.name ∈ wsL_law := ch_15 _ (List.mem_of_getElem? (i := 1) rfl)
theorem m_15_2 : Cond.code Lib.Math.min.name Lib.Math.min.code 2 (some .int) ∈ wsL_law := ch_15 _ (List.mem_of_getElem? (i := 2) rfl)
theorem m_15_8 : Cond.fieldLink RX12 208 "PaperBoysModel" "boys" "I" ∈ wsL_law := ch_15 _ (List.mem_of_getElem? (i := 8) rfl)
theorem m_15_9 : Cond.methodLink RX12 211 yX12_isIn ∈ wsL_law := ch_15 _ (List.mem_of_getElem? (i := 9) rfl)
theorem m_15_10 : Cond.static yX12_isIn ∈ wsL_law := ch_15 _ (List.mem_of_getElem? (i := 10) rfl)
theorem m_15_11 : Cond.code yX12_isIn cX12_isIn 3 (some .boolean) ∈ wsL_law := ch_15 _ (List.mem_of_getElem? (i := 11) rfl)
theorem m_16_22 : Cond.methodLink RX12 215 yX12_isBoy ∈ wsL_law := ch_16 _ (List.mem_of_getElem? (i := 22) rfl)
theorem m_16_23 : Cond.instanceMethod yX12_isBoy ∈ wsL_law := ch_16 _ (List.mem_of_getElem? (i := 23) rfl)
theorem m_17_0 : Cond.selects RX12 yX12_isBoy yX12_isBoy ∈ wsL_law := ch_17 _ (List.mem_of_getElem? (i := 0) rfl)
theorem m_17_1 : Cond.code yX12_isBoy cX12_isBoy 2 (some .boolean) ∈ wsL_law := ch_17 _ (List.mem_of_getElem? (i := 1) rfl)
theorem m_17_14 : Cond.methodLink RX12 219 yX12_isCorner ∈ wsL_law := ch_17 _ (List.mem_of_getElem? (i := 14) rfl)
theorem m_17_15 : Cond.static yX12_isCorner ∈ wsL_law := ch_17 _ (List.mem_of_getElem? (i := 15) rfl)
theorem m_17_16 : Cond.code yX12_isCorner cX12_isCorner 1 (some .boolean) ∈ wsL_law := ch_17 _ (List.mem_of_getElem? (i := 16) rfl)
theorem m_18_5 : Cond.fieldLink RX3 35 "PaperBoys$Tape" "size" "I" ∈ wsL_law := ch_18 _ (List.mem_of_getElem? (i := 5) rfl)
theorem m_18_6 : Cond.fieldLink RX3 41 "PaperBoys$Tape" "bytes" "[I" ∈ wsL_law := ch_18 _ (List.mem_of_getElem? (i := 6) rfl)
theorem m_18_11 : Cond.fieldLink RX12 226 "PaperBoysModel" "skyMany" "I" ∈ wsL_law := ch_18 _ (List.mem_of_getElem? (i := 11) rfl)
theorem m_18_12 : Cond.methodLink RX12 222 yX12_take ∈ wsL_law := ch_18 _ (List.mem_of_getElem? (i := 12) rfl)
theorem m_18_13 : Cond.instanceMethod yX12_take ∈ wsL_law := ch_18 _ (List.mem_of_getElem? (i := 13) rfl)
theorem m_18_14 : Cond.selects RX12 yX12_take yX12_take ∈ wsL_law := ch_18 _ (List.mem_of_getElem? (i := 14) rfl)
theorem m_18_15 : Cond.code yX12_take cX12_take 2 (some .int) ∈ wsL_law := ch_18 _ (List.mem_of_getElem? (i := 15) rfl)
theorem m_19_1 : Cond.methodLink RX12 229 yX12_isDay ∈ wsL_law := ch_19 _ (List.mem_of_getElem? (i := 1) rfl)
theorem m_19_2 : Cond.static yX12_isDay ∈ wsL_law := ch_19 _ (List.mem_of_getElem? (i := 2) rfl)
theorem m_19_3 : Cond.code yX12_isDay cX12_isDay 1 (some .boolean) ∈ wsL_law := ch_19 _ (List.mem_of_getElem? (i := 3) rfl)
theorem m_19_4 : Cond.methodLink RX12 232 yX12_skyOf ∈ wsL_law := ch_19 _ (List.mem_of_getElem? (i := 4) rfl)
theorem m_19_5 : Cond.instanceMethod yX12_skyOf ∈ wsL_law := ch_19 _ (List.mem_of_getElem? (i := 5) rfl)
theorem m_19_6 : Cond.selects RX12 yX12_skyOf yX12_skyOf ∈ wsL_law := ch_19 _ (List.mem_of_getElem? (i := 6) rfl)
theorem m_19_7 : Cond.code yX12_skyOf cX12_skyOf 2 (some .int) ∈ wsL_law := ch_19 _ (List.mem_of_getElem? (i := 7) rfl)
theorem m_19_23 : Cond.fieldLink RX12 239 "PaperBoysModel" "today" "I" ∈ wsL_law := ch_19 _ (List.mem_of_getElem? (i := 23) rfl)
theorem m_20_0 : Cond.methodLink RX12 236 yX12_isPaper ∈ wsL_law := ch_20 _ (List.mem_of_getElem? (i := 0) rfl)
theorem m_20_1 : Cond.static yX12_isPaper ∈ wsL_law := ch_20 _ (List.mem_of_getElem? (i := 1) rfl)
theorem m_20_2 : Cond.code yX12_isPaper cX12_isPaper 1 (some .boolean) ∈ wsL_law := ch_20 _ (List.mem_of_getElem? (i := 2) rfl)
theorem m_21_6 : Cond.instanceMethod yX3_askedFor ∈ wsL_law := ch_21 _ (List.mem_of_getElem? (i := 6) rfl)
theorem m_21_7 : Cond.selects RX3 yX3_askedFor yX3_askedFor ∈ wsL_law := ch_21 _ (List.mem_of_getElem? (i := 7) rfl)
theorem m_21_8 : Cond.code yX3_askedFor cX3_askedFor 6 (some .int) ∈ wsL_law := ch_21 _ (List.mem_of_getElem? (i := 8) rfl)
theorem m_21_13 : Cond.methodLink RX12 242 yX12_askedOf ∈ wsL_law := ch_21 _ (List.mem_of_getElem? (i := 13) rfl)
theorem m_21_14 : Cond.instanceMethod yX12_askedOf ∈ wsL_law := ch_21 _ (List.mem_of_getElem? (i := 14) rfl)
theorem m_21_15 : Cond.selects RX12 yX12_askedOf yX12_askedOf ∈ wsL_law := ch_21 _ (List.mem_of_getElem? (i := 15) rfl)
theorem m_21_16 : Cond.code yX12_askedOf cX12_askedOf 5 (some .int) ∈ wsL_law := ch_21 _ (List.mem_of_getElem? (i := 16) rfl)
theorem m_22_2 : Cond.methodLink RX12 250 yX12_layWays ∈ wsL_law := ch_22 _ (List.mem_of_getElem? (i := 2) rfl)
theorem m_22_3 : Cond.instanceMethod yX12_layWays ∈ wsL_law := ch_22 _ (List.mem_of_getElem? (i := 3) rfl)
theorem m_22_4 : Cond.selects RX12 yX12_layWays yX12_layWays ∈ wsL_law := ch_22 _ (List.mem_of_getElem? (i := 4) rfl)
theorem m_22_5 : Cond.code yX12_layWays cX12_layWays 2 none ∈ wsL_law := ch_22 _ (List.mem_of_getElem? (i := 5) rfl)
theorem m_22_6 : Cond.fieldLink RX12 246 "PaperBoysModel" "isLaid" "Z" ∈ wsL_law := ch_22 _ (List.mem_of_getElem? (i := 6) rfl)
theorem m_22_19 : Cond.fieldLink RX7 55 "PaperBoys$Tape" "size" "I" ∈ wsL_law := ch_22 _ (List.mem_of_getElem? (i := 19) rfl)
theorem m_23_1 : Cond.fieldLink RX7 70 "PaperBoys$Tape" "bytes" "[I" ∈ wsL_law := ch_23 _ (List.mem_of_getElem? (i := 1) rfl)
theorem m_23_2 : Cond.methodLink RX7 73 yX7_isOfName ∈ wsL_law := ch_23 _ (List.mem_of_getElem? (i := 2) rfl)
theorem m_23_3 : Cond.static yX7_isOfName ∈ wsL_law := ch_23 _ (List.mem_of_getElem? (i := 3) rfl)
theorem m_23_4 : Cond.code yX7_isOfName cX7_isOfName 1 (some .boolean) ∈ wsL_law := ch_23 _ (List.mem_of_getElem? (i := 4) rfl)
theorem m_23_5 : Cond.methodLink RX7 89 yX7_isLetter ∈ wsL_law := ch_23 _ (List.mem_of_getElem? (i := 5) rfl)
theorem m_23_6 : Cond.static yX7_isLetter ∈ wsL_law := ch_23 _ (List.mem_of_getElem? (i := 6) rfl)
theorem m_23_7 : Cond.code yX7_isLetter cX7_isLetter 1 (some .boolean) ∈ wsL_law := ch_23 _ (List.mem_of_getElem? (i := 7) rfl)
theorem m_23_8 : Cond.methodLink RX7 92 yX7_isDigit ∈ wsL_law := ch_23 _ (List.mem_of_getElem? (i := 8) rfl)
theorem m_23_9 : Cond.static yX7_isDigit ∈ wsL_law := ch_23 _ (List.mem_of_getElem? (i := 9) rfl)
theorem m_23_10 : Cond.code yX7_isDigit cX7_isDigit 1 (some .boolean) ∈ wsL_law := ch_23 _ (List.mem_of_getElem? (i := 10) rfl)
theorem m_25_21 : Cond.methodLink RX7 47 yX7_now ∈ wsL_law := ch_25 _ (List.mem_of_getElem? (i := 21) rfl)
theorem m_25_22 : Cond.instanceMethod yX7_now ∈ wsL_law := ch_25 _ (List.mem_of_getElem? (i := 22) rfl)
theorem m_25_23 : Cond.selects RX7 yX7_now yX7_now ∈ wsL_law := ch_25 _ (List.mem_of_getElem? (i := 23) rfl)
theorem m_26_0 : Cond.code yX7_now cX7_now 1 (some .int) ∈ wsL_law := ch_26 _ (List.mem_of_getElem? (i := 0) rfl)
theorem m_26_5 : Cond.methodLink RX7 60 yX7_tell ∈ wsL_law := ch_26 _ (List.mem_of_getElem? (i := 5) rfl)
theorem m_26_6 : Cond.instanceMethod yX7_tell ∈ wsL_law := ch_26 _ (List.mem_of_getElem? (i := 6) rfl)
theorem m_26_7 : Cond.selects RX7 yX7_tell yX7_tell ∈ wsL_law := ch_26 _ (List.mem_of_getElem? (i := 7) rfl)
theorem m_26_8 : Cond.code yX7_tell cX7_tell 2 none ∈ wsL_law := ch_26 _ (List.mem_of_getElem? (i := 8) rfl)
theorem m_28_7 : Cond.fieldLink RX12 373 "PaperBoysModel" "terms" "I" ∈ wsL_law := ch_28 _ (List.mem_of_getElem? (i := 7) rfl)
theorem m_28_8 : Cond.fieldLink RX12 294 "PaperBoysModel" "place" "I" ∈ wsL_law := ch_28 _ (List.mem_of_getElem? (i := 8) rfl)
theorem m_28_15 : Cond.fieldLink RX12 253 "PaperBoysModel" "size" "I" ∈ wsL_law := ch_28 _ (List.mem_of_getElem? (i := 15) rfl)
theorem m_28_16 : Cond.fieldLink RX12 291 "PaperBoysModel" "fault" "I" ∈ wsL_law := ch_28 _ (List.mem_of_getElem? (i := 16) rfl)
theorem m_28_20 : Cond.fieldLink RX12 256 "PaperBoysModel" "to" "I" ∈ wsL_law := ch_28 _ (List.mem_of_getElem? (i := 20) rfl)
theorem m_28_21 : Cond.fieldLink RX12 262 "PaperBoysModel" "kind" "I" ∈ wsL_law := ch_28 _ (List.mem_of_getElem? (i := 21) rfl)
theorem m_29_2 : Cond.fieldLink RX12 259 "PaperBoysModel" "from" "I" ∈ wsL_law := ch_29 _ (List.mem_of_getElem? (i := 2) rfl)
theorem m_29_3 : Cond.fieldLink RX12 274 "PaperBoysModel" "sign" "I" ∈ wsL_law := ch_29 _ (List.mem_of_getElem? (i := 3) rfl)
theorem m_29_4 : Cond.fieldLink RX12 277 "PaperBoysModel" "word" "J" ∈ wsL_law := ch_29 _ (List.mem_of_getElem? (i := 4) rfl)
theorem m_29_5 : Cond.fieldLink RX12 281 "PaperBoysModel" "number" "I" ∈ wsL_law := ch_29 _ (List.mem_of_getElem? (i := 5) rfl)
theorem m_29_6 : Cond.constantLong RX12 287 (27) ∈ wsL_law := ch_29 _ (List.mem_of_getElem? (i := 6) rfl)
theorem m_29_7 : Cond.constantLong RX12 289 (96) ∈ wsL_law := ch_29 _ (List.mem_of_getElem? (i := 7) rfl)
theorem m_29_8 : Cond.methodLink RX12 265 yX12_isLetter ∈ wsL_law := ch_29 _ (List.mem_of_getElem? (i := 8) rfl)
theorem m_29_9 : Cond.static yX12_isLetter ∈ wsL_law := ch_29 _ (List.mem_of_getElem? (i := 9) rfl)
theorem m_29_10 : Cond.code yX12_isLetter cX12_isLetter 1 (some .boolean) ∈ wsL_law := ch_29 _ (List.mem_of_getElem? (i := 10) rfl)
theorem m_29_11 : Cond.methodLink RX12 268 yX12_isDigit ∈ wsL_law := ch_29 _ (List.mem_of_getElem? (i := 11) rfl)
theorem m_29_12 : Cond.static yX12_isDigit ∈ wsL_law := ch_29 _ (List.mem_of_getElem? (i := 12) rfl)
theorem m_29_13 : Cond.code yX12_isDigit cX12_isDigit 1 (some .boolean) ∈ wsL_law := ch_29 _ (List.mem_of_getElem? (i := 13) rfl)
theorem m_29_14 : Cond.methodLink RX12 271 yX12_isMark ∈ wsL_law := ch_29 _ (List.mem_of_getElem? (i := 14) rfl)
theorem m_29_15 : Cond.static yX12_isMark ∈ wsL_law := ch_29 _ (List.mem_of_getElem? (i := 15) rfl)
theorem m_29_16 : Cond.code yX12_isMark cX12_isMark 1 (some .boolean) ∈ wsL_law := ch_29 _ (List.mem_of_getElem? (i := 16) rfl)
theorem m_29_17 : Cond.methodLink RX12 284 yX12_byteAt ∈ wsL_law := ch_29 _ (List.mem_of_getElem? (i := 17) rfl)
theorem m_29_18 : Cond.instanceMethod yX12_byteAt ∈ wsL_law := ch_29 _ (List.mem_of_getElem? (i := 18) rfl)
theorem m_29_19 : Cond.selects RX12 yX12_byteAt yX12_byteAt ∈ wsL_law := ch_29 _ (List.mem_of_getElem? (i := 19) rfl)
theorem m_29_20 : Cond.code yX12_byteAt cX12_byteAt 2 (some .int) ∈ wsL_law := ch_29 _ (List.mem_of_getElem? (i := 20) rfl)
theorem m_30_5 : Cond.methodLink RX12 297 yX12_spelt ∈ wsL_law := ch_30 _ (List.mem_of_getElem? (i := 5) rfl)
theorem m_30_6 : Cond.static yX12_spelt ∈ wsL_law := ch_30 _ (List.mem_of_getElem? (i := 6) rfl)
theorem m_30_7 : Cond.code yX12_spelt cX12_spelt 7 (some .long) ∈ wsL_law := ch_30 _ (List.mem_of_getElem? (i := 7) rfl)
theorem m_30_8 : Cond.methodLink RX12 301 yX12_isKey ∈ wsL_law := ch_30 _ (List.mem_of_getElem? (i := 8) rfl)
theorem m_30_9 : Cond.instanceMethod yX12_isKey ∈ wsL_law := ch_30 _ (List.mem_of_getElem? (i := 9) rfl)
theorem m_30_10 : Cond.selects RX12 yX12_isKey yX12_isKey ∈ wsL_law := ch_30 _ (List.mem_of_getElem? (i := 10) rfl)
theorem m_30_11 : Cond.code yX12_isKey cX12_isKey 3 (some .boolean) ∈ wsL_law := ch_30 _ (List.mem_of_getElem? (i := 11) rfl)
theorem m_31_9 : Cond.constantLong RX12 305 (12) ∈ wsL_law := ch_31 _ (List.mem_of_getElem? (i := 9) rfl)
theorem m_31_10 : Cond.constantLong RX12 307 (18) ∈ wsL_law := ch_31 _ (List.mem_of_getElem? (i := 10) rfl)
theorem m_31_11 : Cond.constantLong RX12 309 (19) ∈ wsL_law := ch_31 _ (List.mem_of_getElem? (i := 11) rfl)
theorem m_31_12 : Cond.constantLong RX12 311 (5) ∈ wsL_law := ch_31 _ (List.mem_of_getElem? (i := 12) rfl)
theorem m_35_10 : Cond.methodLink RX10 37 yX10_holds ∈ wsL_law := ch_35 _ (List.mem_of_getElem? (i := 10) rfl)
theorem m_35_11 : Cond.instanceMethod yX10_holds ∈ wsL_law := ch_35 _ (List.mem_of_getElem? (i := 11) rfl)
theorem m_35_12 : Cond.selects RX10 yX10_holds yX10_holds ∈ wsL_law := ch_35 _ (List.mem_of_getElem? (i := 12) rfl)
theorem m_35_13 : Cond.code yX10_holds cX10_holds 7 (some .boolean) ∈ wsL_law := ch_35 _ (List.mem_of_getElem? (i := 13) rfl)
theorem m_35_14 : Cond.methodLink RX10 57 yX10_isSo ∈ wsL_law := ch_35 _ (List.mem_of_getElem? (i := 14) rfl)
theorem m_35_15 : Cond.static yX10_isSo ∈ wsL_law := ch_35 _ (List.mem_of_getElem? (i := 15) rfl)
theorem m_35_16 : Cond.code yX10_isSo cX10_isSo 4 (some .boolean) ∈ wsL_law := ch_35 _ (List.mem_of_getElem? (i := 16) rfl)
theorem m_35_22 : Cond.static yX11_costOf ∈ wsL_law := ch_35 _ (List.mem_of_getElem? (i := 22) rfl)
theorem m_35_23 : Cond.code yX11_costOf cX11_costOf 2 (some .int) ∈ wsL_law := ch_35 _ (List.mem_of_getElem? (i := 23) rfl)
theorem m_36_5 : Cond.fieldLink RX12 389 "PaperBoysModel" "bundles" "I" ∈ wsL_law := ch_36 _ (List.mem_of_getElem? (i := 5) rfl)
theorem m_37_1 : Cond.methodLink RX12 399 yX12_cost ∈ wsL_law := ch_37 _ (List.mem_of_getElem? (i := 1) rfl)
theorem m_37_2 : Cond.static yX12_cost ∈ wsL_law := ch_37 _ (List.mem_of_getElem? (i := 2) rfl)
theorem m_37_3 : Cond.code yX12_cost cX12_cost 2 (some .int) ∈ wsL_law := ch_37 _ (List.mem_of_getElem? (i := 3) rfl)
theorem m_40_3 : Cond.methodLink RX3 44 yX3_askedFor ∈ wsL_law := ch_40 _ (List.mem_of_getElem? (i := 3) rfl)
theorem m_40_12 : Cond.static yX11_backOf ∈ wsL_law := ch_40 _ (List.mem_of_getElem? (i := 12) rfl)
theorem m_40_13 : Cond.code yX11_backOf cX11_backOf 2 (some .int) ∈ wsL_law := ch_40 _ (List.mem_of_getElem? (i := 13) rfl)
theorem m_40_14 : Cond.static yX11_paidFor ∈ wsL_law := ch_40 _ (List.mem_of_getElem? (i := 14) rfl)
theorem m_40_15 : Cond.code yX11_paidFor cX11_paidFor 2 (some .int) ∈ wsL_law := ch_40 _ (List.mem_of_getElem? (i := 15) rfl)
theorem m_41_4 : Cond.methodLink RX12 408 yX12_isAhead ∈ wsL_law := ch_41 _ (List.mem_of_getElem? (i := 4) rfl)
theorem m_41_5 : Cond.instanceMethod yX12_isAhead ∈ wsL_law := ch_41 _ (List.mem_of_getElem? (i := 5) rfl)
theorem m_41_6 : Cond.selects RX12 yX12_isAhead yX12_isAhead ∈ wsL_law := ch_41 _ (List.mem_of_getElem? (i := 6) rfl)
theorem m_41_7 : Cond.code yX12_isAhead cX12_isAhead 5 (some .boolean) ∈ wsL_law := ch_41 _ (List.mem_of_getElem? (i := 7) rfl)
theorem m_42_7 : Cond.methodLink RX12 418 yX12_refuse ∈ wsL_law := ch_42 _ (List.mem_of_getElem? (i := 7) rfl)
theorem m_42_8 : Cond.instanceMethod yX12_refuse ∈ wsL_law := ch_42 _ (List.mem_of_getElem? (i := 8) rfl)
theorem m_42_9 : Cond.selects RX12 yX12_refuse yX12_refuse ∈ wsL_law := ch_42 _ (List.mem_of_getElem? (i := 9) rfl)
theorem m_42_10 : Cond.code yX12_refuse cX12_refuse 1 (some .int) ∈ wsL_law := ch_42 _ (List.mem_of_getElem? (i := 10) rfl)
theorem m_43_13 : Cond.fieldLink RX12 421 "PaperBoysModel" "counts" "I" ∈ wsL_law := ch_43 _ (List.mem_of_getElem? (i := 13) rfl)
theorem m_43_22 : Cond.methodLink RX4 25 yX4_lastAsOf ∈ wsL_law := ch_43 _ (List.mem_of_getElem? (i := 22) rfl)
theorem m_43_23 : Cond.instanceMethod yX4_lastAsOf ∈ wsL_law := ch_43 _ (List.mem_of_getElem? (i := 23) rfl)
theorem m_44_0 : Cond.selects RX4 yX4_lastAsOf yX4_lastAsOf ∈ wsL_law := ch_44 _ (List.mem_of_getElem? (i := 0) rfl)
theorem m_44_1 : Cond.code yX4_lastAsOf cX4_lastAsOf 4 (some .int) ∈ wsL_law := ch_44 _ (List.mem_of_getElem? (i := 1) rfl)
theorem m_44_10 : Cond.methodLink RX12 424 yX12_countOf ∈ wsL_law := ch_44 _ (List.mem_of_getElem? (i := 10) rfl)
theorem m_44_11 : Cond.instanceMethod yX12_countOf ∈ wsL_law := ch_44 _ (List.mem_of_getElem? (i := 11) rfl)
theorem m_44_12 : Cond.selects RX12 yX12_countOf yX12_countOf ∈ wsL_law := ch_44 _ (List.mem_of_getElem? (i := 12) rfl)
theorem m_44_13 : Cond.code yX12_countOf cX12_countOf 7 (some .int) ∈ wsL_law := ch_44 _ (List.mem_of_getElem? (i := 13) rfl)
theorem m_44_14 : Cond.methodLink RX12 427 yX12_cameBack ∈ wsL_law := ch_44 _ (List.mem_of_getElem? (i := 14) rfl)
theorem m_44_15 : Cond.instanceMethod yX12_cameBack ∈ wsL_law := ch_44 _ (List.mem_of_getElem? (i := 15) rfl)
theorem m_44_16 : Cond.selects RX12 yX12_cameBack yX12_cameBack ∈ wsL_law := ch_44 _ (List.mem_of_getElem? (i := 16) rfl)
theorem m_44_17 : Cond.code yX12_cameBack cX12_cameBack 6 (some .int) ∈ wsL_law := ch_44 _ (List.mem_of_getElem? (i := 17) rfl)
theorem m_45_21 : Cond.methodLink RX12 431 yX12_isFirst ∈ wsL_law := ch_45 _ (List.mem_of_getElem? (i := 21) rfl)
theorem m_45_22 : Cond.instanceMethod yX12_isFirst ∈ wsL_law := ch_45 _ (List.mem_of_getElem? (i := 22) rfl)
theorem m_45_23 : Cond.selects RX12 yX12_isFirst yX12_isFirst ∈ wsL_law := ch_45 _ (List.mem_of_getElem? (i := 23) rfl)
theorem m_46_0 : Cond.code yX12_isFirst cX12_isFirst 3 (some .boolean) ∈ wsL_law := ch_46 _ (List.mem_of_getElem? (i := 0) rfl)
theorem m_46_19 : Cond.methodLink RX2 37 yX2_gainOf ∈ wsL_law := ch_46 _ (List.mem_of_getElem? (i := 19) rfl)
theorem m_46_20 : Cond.instanceMethod yX2_gainOf ∈ wsL_law := ch_46 _ (List.mem_of_getElem? (i := 20) rfl)
theorem m_46_21 : Cond.selects RX2 yX2_gainOf yX2_gainOf ∈ wsL_law := ch_46 _ (List.mem_of_getElem? (i := 21) rfl)
theorem m_46_22 : Cond.code yX2_gainOf cX2_gainOf 11 (some .long) ∈ wsL_law := ch_46 _ (List.mem_of_getElem? (i := 22) rfl)
theorem m_46_23 : Cond.methodLink RX2 45 Lib.Math.min.name ∈ wsL_law := ch_46 _ (List.mem_of_getElem? (i := 23) rfl)
theorem m_47_4 : Cond.fieldLink RX12 434 "PaperBoysModel" "expected" "J" ∈ wsL_law := ch_47 _ (List.mem_of_getElem? (i := 4) rfl)
theorem m_49_4 : Cond.fieldLink RX6 45 "PaperBoys$Tape" "bytes" "[I" ∈ wsL_law := ch_49 _ (List.mem_of_getElem? (i := 4) rfl)
theorem m_49_21 : Cond.methodLink RX6 69 yX6_isMightier ∈ wsL_law := ch_49 _ (List.mem_of_getElem? (i := 21) rfl)
theorem m_49_22 : Cond.instanceMethod yX6_isMightier ∈ wsL_law := ch_49 _ (List.mem_of_getElem? (i := 22) rfl)
theorem m_49_23 : Cond.selects RX6 yX6_isMightier yX6_isMightier ∈ wsL_law := ch_49 _ (List.mem_of_getElem? (i := 23) rfl)
theorem m_50_0 : Cond.code yX6_isMightier cX6_isMightier 6 (some .boolean) ∈ wsL_law := ch_50 _ (List.mem_of_getElem? (i := 0) rfl)
theorem m_50_16 : Cond.methodLink RX6 95 yX6_clashesWith ∈ wsL_law := ch_50 _ (List.mem_of_getElem? (i := 16) rfl)
theorem m_50_17 : Cond.instanceMethod yX6_clashesWith ∈ wsL_law := ch_50 _ (List.mem_of_getElem? (i := 17) rfl)
theorem m_50_18 : Cond.selects RX6 yX6_clashesWith yX6_clashesWith ∈ wsL_law := ch_50 _ (List.mem_of_getElem? (i := 18) rfl)
theorem m_50_19 : Cond.code yX6_clashesWith cX6_clashesWith 8 (some .long) ∈ wsL_law := ch_50 _ (List.mem_of_getElem? (i := 19) rfl)
theorem m_50_20 : Cond.methodLink RX6 50 yX6_wouldFight ∈ wsL_law := ch_50 _ (List.mem_of_getElem? (i := 20) rfl)
theorem m_50_21 : Cond.instanceMethod yX6_wouldFight ∈ wsL_law := ch_50 _ (List.mem_of_getElem? (i := 21) rfl)
theorem m_50_22 : Cond.selects RX6 yX6_wouldFight yX6_wouldFight ∈ wsL_law := ch_50 _ (List.mem_of_getElem? (i := 22) rfl)
theorem m_50_23 : Cond.code yX6_wouldFight cX6_wouldFight 6 (some .boolean) ∈ wsL_law := ch_50 _ (List.mem_of_getElem? (i := 23) rfl)
theorem m_51_20 : Cond.fieldLink RX12 459 "PaperBoysModel" "parties" "I" ∈ wsL_law := ch_51 _ (List.mem_of_getElem? (i := 20) rfl)
theorem m_51_21 : Cond.fieldLink RX12 462 "PaperBoysModel" "isParted" "Z" ∈ wsL_law := ch_51 _ (List.mem_of_getElem? (i := 21) rfl)
theorem m_55_15 : Cond.constant RX12 466 (100000) ∈ wsL_law := ch_55 _ (List.mem_of_getElem? (i := 15) rfl)
theorem m_55_16 : Cond.fieldLink RX12 474 "PaperBoysModel" "truckMany" "I" ∈ wsL_law := ch_55 _ (List.mem_of_getElem? (i := 16) rfl)
theorem m_55_17 : Cond.fieldLink RX12 477 "PaperBoysModel" "isLed" "Z" ∈ wsL_law := ch_55 _ (List.mem_of_getElem? (i := 17) rfl)
theorem m_56_19 : Cond.constant RX11 368 (100000) ∈ wsL_law := ch_56 _ (List.mem_of_getElem? (i := 19) rfl)
theorem m_57_9 : Cond.methodLink RX12 480 yX12_isSum ∈ wsL_law := ch_57 _ (List.mem_of_getElem? (i := 9) rfl)
theorem m_57_10 : Cond.static yX12_isSum ∈ wsL_law := ch_57 _ (List.mem_of_getElem? (i := 10) rfl)
theorem m_57_11 : Cond.code yX12_isSum cX12_isSum 1 (some .boolean) ∈ wsL_law := ch_57 _ (List.mem_of_getElem? (i := 11) rfl)
theorem dX10_addLine_0 : decode cX10_addLine 0 = .ok (.aload_n 0, 1) := by decide +kernel
theorem dX10_addLine_1 : decode cX10_addLine 1 = .ok (.getfield 15, 3) := by decide +kernel
theorem dX10_addLine_4 : decode cX10_addLine 4 = .ok (.bipush 16, 2) := by decide +kernel
theorem dX10_addLine_6 : decode cX10_addLine 6 = .ok (.if_icmp .ge 56, 3) := by decide +kernel
theorem dX10_addLine_9 : decode cX10_addLine 9 = .ok (.aload_n 0, 1) := by decide +kernel
theorem dX10_addLine_10 : decode cX10_addLine 10 = .ok (.getfield 21, 3) := by decide +kernel
theorem dX10_addLine_13 : decode cX10_addLine 13 = .ok (.aload_n 0, 1) := by decide +kernel
theorem dX10_addLine_14 : decode cX10_addLine 14 = .ok (.getfield 15, 3) := by decide +kernel
theorem dX10_addLine_17 : decode cX10_addLine 17 = .ok (.iload_n 1, 1) := by decide +kernel
theorem dX10_addLine_18 : decode cX10_addLine 18 = .ok (.iastore, 1) := by decide +kernel
theorem dX10_addLine_19 : decode cX10_addLine 19 = .ok (.aload_n 0, 1) := by decide +kernel
theorem dX10_addLine_20 : decode cX10_addLine 20 = .ok (.getfield 25, 3) := by decide +kernel
theorem dX10_addLine_23 : decode cX10_addLine 23 = .ok (.aload_n 0, 1) := by decide +kernel
theorem dX10_addLine_24 : decode cX10_addLine 24 = .ok (.getfield 15, 3) := by decide +kernel
theorem dX10_addLine_27 : decode cX10_addLine 27 = .ok (.iload_n 2, 1) := by decide +kernel
theorem dX10_addLine_28 : decode cX10_addLine 28 = .ok (.iastore, 1) := by decide +kernel
theorem dX10_addLine_29 : decode cX10_addLine 29 = .ok (.aload_n 0, 1) := by decide +kernel
theorem dX10_addLine_30 : decode cX10_addLine 30 = .ok (.getfield 28, 3) := by decide +kernel
theorem dX10_addLine_33 : decode cX10_addLine 33 = .ok (.aload_n 0, 1) := by decide +kernel
theorem dX10_addLine_34 : decode cX10_addLine 34 = .ok (.getfield 15, 3) := by decide +kernel
theorem dX10_addLine_37 : decode cX10_addLine 37 = .ok (.iload_n 3, 1) := by decide +kernel
theorem dX10_addLine_38 : decode cX10_addLine 38 = .ok (.iastore, 1) := by decide +kernel
theorem dX10_addLine_39 : decode cX10_addLine 39 = .ok (.aload_n 0, 1) := by decide +kernel
theorem dX10_addLine_40 : decode cX10_addLine 40 = .ok (.getfield 31, 3) := by decide +kernel
theorem dX10_addLine_43 : decode cX10_addLine 43 = .ok (.aload_n 0, 1) := by decide +kernel
theorem dX10_addLine_44 : decode cX10_addLine 44 = .ok (.getfield 15, 3) := by decide +kernel
theorem dX10_addLine_47 : decode cX10_addLine 47 = .ok (.aload_n 0, 1) := by decide +kernel
theorem dX10_addLine_48 : decode cX10_addLine 48 = .ok (.getfield 18, 3) := by decide +kernel
theorem dX10_addLine_51 : decode cX10_addLine 51 = .ok (.iastore, 1) := by decide +kernel
theorem dX10_addLine_52 : decode cX10_addLine 52 = .ok (.aload_n 0, 1) := by decide +kernel
theorem dX10_addLine_53 : decode cX10_addLine 53 = .ok (.dup, 1) := by decide +kernel
theorem dX10_addLine_54 : decode cX10_addLine 54 = .ok (.getfield 15, 3) := by decide +kernel
theorem dX10_addLine_57 : decode cX10_addLine 57 = .ok (.iconst 1, 1) := by decide +kernel
theorem dX10_addLine_58 : decode cX10_addLine 58 = .ok (.iadd, 1) := by decide +kernel
theorem dX10_addLine_59 : decode cX10_addLine 59 = .ok (.putfield 15, 3) := by decide +kernel
theorem dX10_addLine_62 : decode cX10_addLine 62 = .ok (.return_, 1) := by decide +kernel
theorem dX10_addStep_0 : decode cX10_addStep 0 = .ok (.aload_n 0, 1) := by decide +kernel
theorem dX10_addStep_1 : decode cX10_addStep 1 = .ok (.getfield 18, 3) := by decide +kernel
theorem dX10_addStep_4 : decode cX10_addStep 4 = .ok (.bipush 100, 2) := by decide +kernel
theorem dX10_addStep_6 : decode cX10_addStep 6 = .ok (.if_icmp .ge 33, 3) := by decide +kernel
theorem dX10_addStep_9 : decode cX10_addStep 9 = .ok (.aload_n 0, 1) := by decide +kernel
theorem dX10_addStep_10 : decode cX10_addStep 10 = .ok (.getfield 34, 3) := by decide +kernel
theorem dX10_addStep_13 : decode cX10_addStep 13 = .ok (.aload_n 0, 1) := by decide +kernel
theorem dX10_addStep_14 : decode cX10_addStep 14 = .ok (.getfield 18, 3) := by decide +kernel
theorem dX10_addStep_17 : decode cX10_addStep 17 = .ok (.iload_n 1, 1) := by decide +kernel
theorem dX10_addStep_18 : decode cX10_addStep 18 = .ok (.bipush 16, 2) := by decide +kernel
theorem dX10_addStep_20 : decode cX10_addStep 20 = .ok (.iload_n 2, 1) := by decide +kernel
theorem dX10_addStep_21 : decode cX10_addStep 21 = .ok (.imul, 1) := by decide +kernel
theorem dX10_addStep_22 : decode cX10_addStep 22 = .ok (.iadd, 1) := by decide +kernel
theorem dX10_addStep_23 : decode cX10_addStep 23 = .ok (.bipush 64, 2) := by decide +kernel
theorem dX10_addStep_25 : decode cX10_addStep 25 = .ok (.iload_n 3, 1) := by decide +kernel
theorem dX10_addStep_26 : decode cX10_addStep 26 = .ok (.imul, 1) := by decide +kernel
theorem dX10_addStep_27 : decode cX10_addStep 27 = .ok (.iadd, 1) := by decide +kernel
theorem dX10_addStep_28 : decode cX10_addStep 28 = .ok (.iastore, 1) := by decide +kernel
theorem dX10_addStep_29 : decode cX10_addStep 29 = .ok (.aload_n 0, 1) := by decide +kernel
theorem dX10_addStep_30 : decode cX10_addStep 30 = .ok (.dup, 1) := by decide +kernel
theorem dX10_addStep_31 : decode cX10_addStep 31 = .ok (.getfield 18, 3) := by decide +kernel
theorem dX10_addStep_34 : decode cX10_addStep 34 = .ok (.iconst 1, 1) := by decide +kernel
theorem dX10_addStep_35 : decode cX10_addStep 35 = .ok (.iadd, 1) := by decide +kernel
theorem dX10_addStep_36 : decode cX10_addStep 36 = .ok (.putfield 18, 3) := by decide +kernel
theorem dX10_addStep_39 : decode cX10_addStep 39 = .ok (.return_, 1) := by decide +kernel
theorem dX10_holds_0 : decode cX10_holds 0 = .ok (.iconst 1, 1) := by decide +kernel
theorem dX10_holds_1 : decode cX10_holds 1 = .ok (.istore_n 3, 1) := by decide +kernel
theorem dX10_holds_2 : decode cX10_holds 2 = .ok (.aload_n 0, 1) := by decide +kernel
theorem dX10_holds_3 : decode cX10_holds 3 = .ok (.getfield 28, 3) := by decide +kernel
theorem dX10_holds_6 : decode cX10_holds 6 = .ok (.iload_n 1, 1) := by decide +kernel
theorem dX10_holds_7 : decode cX10_holds 7 = .ok (.iaload, 1) := by decide +kernel
theorem dX10_holds_8 : decode cX10_holds 8 = .ok (.istore 4, 2) := by decide +kernel
theorem dX10_holds_10 : decode cX10_holds 10 = .ok (.iload 4, 2) := by decide +kernel
theorem dX10_holds_12 : decode cX10_holds 12 = .ok (.aload_n 0, 1) := by decide +kernel
theorem dX10_holds_13 : decode cX10_holds 13 = .ok (.getfield 31, 3) := by decide +kernel
theorem dX10_holds_16 : decode cX10_holds 16 = .ok (.iload_n 1, 1) := by decide +kernel
theorem dX10_holds_17 : decode cX10_holds 17 = .ok (.iaload, 1) := by decide +kernel
theorem dX10_holds_18 : decode cX10_holds 18 = .ok (.if_icmp .ge 104, 3) := by decide +kernel
theorem dX10_holds_21 : decode cX10_holds 21 = .ok (.aload_n 0, 1) := by decide +kernel
theorem dX10_holds_22 : decode cX10_holds 22 = .ok (.getfield 34, 3) := by decide +kernel
theorem dX10_holds_25 : decode cX10_holds 25 = .ok (.iload 4, 2) := by decide +kernel
theorem dX10_holds_27 : decode cX10_holds 27 = .ok (.iaload, 1) := by decide +kernel
theorem dX10_holds_28 : decode cX10_holds 28 = .ok (.bipush 16, 2) := by decide +kernel
theorem dX10_holds_30 : decode cX10_holds 30 = .ok (.irem, 1) := by decide +kernel
theorem dX10_holds_31 : decode cX10_holds 31 = .ok (.istore 5, 2) := by decide +kernel
theorem dX10_holds_33 : decode cX10_holds 33 = .ok (.iload_n 3, 1) := by decide +kernel
theorem dX10_holds_34 : decode cX10_holds 34 = .ok (.iconst 1, 1) := by decide +kernel
theorem dX10_holds_35 : decode cX10_holds 35 = .ok (.iand, 1) := by decide +kernel
theorem dX10_holds_36 : decode cX10_holds 36 = .ok (.istore 6, 2) := by decide +kernel
theorem dX10_holds_38 : decode cX10_holds 38 = .ok (.iload 5, 2) := by decide +kernel
theorem dX10_holds_40 : decode cX10_holds 40 = .ok (.bipush 12, 2) := by decide +kernel
theorem dX10_holds_42 : decode cX10_holds 42 = .ok (.if_icmp .ne 10, 3) := by decide +kernel
theorem dX10_holds_45 : decode cX10_holds 45 = .ok (.iload_n 3, 1) := by decide +kernel
theorem dX10_holds_46 : decode cX10_holds 46 = .ok (.iconst 1, 1) := by decide +kernel
theorem dX10_holds_47 : decode cX10_holds 47 = .ok (.ixor, 1) := by decide +kernel
theorem dX10_holds_48 : decode cX10_holds 48 = .ok (.istore_n 3, 1) := by decide +kernel
theorem dX10_holds_49 : decode cX10_holds 49 = .ok (.goto 67, 3) := by decide +kernel
theorem dX10_holds_52 : decode cX10_holds 52 = .ok (.iload 5, 2) := by decide +kernel
theorem dX10_holds_54 : decode cX10_holds 54 = .ok (.bipush 13, 2) := by decide +kernel
theorem dX10_holds_56 : decode cX10_holds 56 = .ok (.if_icmp .ne 16, 3) := by decide +kernel
theorem dX10_holds_59 : decode cX10_holds 59 = .ok (.iload_n 3, 1) := by decide +kernel
theorem dX10_holds_60 : decode cX10_holds 60 = .ok (.iconst 1, 1) := by decide +kernel
theorem dX10_holds_61 : decode cX10_holds 61 = .ok (.iushr, 1) := by decide +kernel
theorem dX10_holds_62 : decode cX10_holds 62 = .ok (.iload 6, 2) := by decide +kernel
theorem dX10_holds_64 : decode cX10_holds 64 = .ok (.bipush (-2), 2) := by decide +kernel
theorem dX10_holds_66 : decode cX10_holds 66 = .ok (.ior, 1) := by decide +kernel
theorem dX10_holds_67 : decode cX10_holds 67 = .ok (.iand, 1) := by decide +kernel
theorem dX10_holds_68 : decode cX10_holds 68 = .ok (.istore_n 3, 1) := by decide +kernel
theorem dX10_holds_69 : decode cX10_holds 69 = .ok (.goto 47, 3) := by decide +kernel
theorem dX10_holds_72 : decode cX10_holds 72 = .ok (.iload 5, 2) := by decide +kernel
theorem dX10_holds_74 : decode cX10_holds 74 = .ok (.bipush 14, 2) := by decide +kernel
theorem dX10_holds_76 : decode cX10_holds 76 = .ok (.if_icmp .ne 13, 3) := by decide +kernel
theorem dX10_holds_79 : decode cX10_holds 79 = .ok (.iload_n 3, 1) := by decide +kernel
theorem dX10_holds_80 : decode cX10_holds 80 = .ok (.iconst 1, 1) := by decide +kernel
theorem dX10_holds_81 : decode cX10_holds 81 = .ok (.iushr, 1) := by decide +kernel
theorem dX10_holds_82 : decode cX10_holds 82 = .ok (.iload 6, 2) := by decide +kernel
theorem dX10_holds_84 : decode cX10_holds 84 = .ok (.ior, 1) := by decide +kernel
theorem dX10_holds_85 : decode cX10_holds 85 = .ok (.istore_n 3, 1) := by decide +kernel
theorem dX10_holds_86 : decode cX10_holds 86 = .ok (.goto 30, 3) := by decide +kernel
theorem dX10_holds_89 : decode cX10_holds 89 = .ok (.iload_n 3, 1) := by decide +kernel
theorem dX10_holds_90 : decode cX10_holds 90 = .ok (.iconst 1, 1) := by decide +kernel
theorem dX10_holds_91 : decode cX10_holds 91 = .ok (.ishl, 1) := by decide +kernel
theorem dX10_holds_92 : decode cX10_holds 92 = .ok (.aload_n 0, 1) := by decide +kernel
theorem dX10_holds_93 : decode cX10_holds 93 = .ok (.getfield 34, 3) := by decide +kernel
theorem dX10_holds_96 : decode cX10_holds 96 = .ok (.iload 4, 2) := by decide +kernel
theorem dX10_holds_98 : decode cX10_holds 98 = .ok (.iaload, 1) := by decide +kernel
theorem dX10_holds_99 : decode cX10_holds 99 = .ok (.aload_n 2, 1) := by decide +kernel
theorem dX10_holds_100 : decode cX10_holds 100 = .ok (.iload 5, 2) := by decide +kernel
theorem dX10_holds_102 : decode cX10_holds 102 = .ok (.iaload, 1) := by decide +kernel
theorem dX10_holds_103 : decode cX10_holds 103 = .ok (.invokestatic 57, 3) := by decide +kernel
theorem dX10_holds_106 : decode cX10_holds 106 = .ok (.ifCond .eq 7, 3) := by decide +kernel
theorem dX10_holds_109 : decode cX10_holds 109 = .ok (.iconst 1, 1) := by decide +kernel
theorem dX10_holds_110 : decode cX10_holds 110 = .ok (.goto 4, 3) := by decide +kernel
theorem dX10_holds_113 : decode cX10_holds 113 = .ok (.iconst 0, 1) := by decide +kernel
theorem dX10_holds_114 : decode cX10_holds 114 = .ok (.ior, 1) := by decide +kernel
theorem dX10_holds_115 : decode cX10_holds 115 = .ok (.istore_n 3, 1) := by decide +kernel
theorem dX10_holds_116 : decode cX10_holds 116 = .ok (.iinc 4 1, 3) := by decide +kernel
theorem dX10_holds_119 : decode cX10_holds 119 = .ok (.goto (-109), 3) := by decide +kernel
theorem dX10_holds_122 : decode cX10_holds 122 = .ok (.iload_n 3, 1) := by decide +kernel
theorem dX10_holds_123 : decode cX10_holds 123 = .ok (.iconst 1, 1) := by decide +kernel
theorem dX10_holds_124 : decode cX10_holds 124 = .ok (.iand, 1) := by decide +kernel
theorem dX10_holds_125 : decode cX10_holds 125 = .ok (.iconst 1, 1) := by decide +kernel
theorem dX10_holds_126 : decode cX10_holds 126 = .ok (.if_icmp .ne 7, 3) := by decide +kernel
theorem dX10_holds_129 : decode cX10_holds 129 = .ok (.iconst 1, 1) := by decide +kernel
theorem dX10_holds_130 : decode cX10_holds 130 = .ok (.goto 4, 3) := by decide +kernel
theorem dX10_holds_133 : decode cX10_holds 133 = .ok (.iconst 0, 1) := by decide +kernel
theorem dX10_holds_134 : decode cX10_holds 134 = .ok (.ireturn, 1) := by decide +kernel
theorem dX10_isSo_0 : decode cX10_isSo 0 = .ok (.iload_n 0, 1) := by decide +kernel
theorem dX10_isSo_1 : decode cX10_isSo 1 = .ok (.bipush 64, 2) := by decide +kernel
theorem dX10_isSo_3 : decode cX10_isSo 3 = .ok (.idiv, 1) := by decide +kernel
theorem dX10_isSo_4 : decode cX10_isSo 4 = .ok (.istore_n 2, 1) := by decide +kernel
theorem dX10_isSo_5 : decode cX10_isSo 5 = .ok (.iload_n 0, 1) := by decide +kernel
theorem dX10_isSo_6 : decode cX10_isSo 6 = .ok (.bipush 16, 2) := by decide +kernel
theorem dX10_isSo_8 : decode cX10_isSo 8 = .ok (.idiv, 1) := by decide +kernel
theorem dX10_isSo_9 : decode cX10_isSo 9 = .ok (.iconst 4, 1) := by decide +kernel
theorem dX10_isSo_10 : decode cX10_isSo 10 = .ok (.irem, 1) := by decide +kernel
theorem dX10_isSo_11 : decode cX10_isSo 11 = .ok (.istore_n 3, 1) := by decide +kernel
theorem dX10_isSo_12 : decode cX10_isSo 12 = .ok (.iload_n 3, 1) := by decide +kernel
theorem dX10_isSo_13 : decode cX10_isSo 13 = .ok (.ifCond .ne 14, 3) := by decide +kernel
theorem dX10_isSo_16 : decode cX10_isSo 16 = .ok (.iload_n 1, 1) := by decide +kernel
theorem dX10_isSo_17 : decode cX10_isSo 17 = .ok (.iload_n 2, 1) := by decide +kernel
theorem dX10_isSo_18 : decode cX10_isSo 18 = .ok (.if_icmp .ge 7, 3) := by decide +kernel
theorem dX10_isSo_21 : decode cX10_isSo 21 = .ok (.iconst 1, 1) := by decide +kernel
theorem dX10_isSo_22 : decode cX10_isSo 22 = .ok (.goto 4, 3) := by decide +kernel
theorem dX10_isSo_25 : decode cX10_isSo 25 = .ok (.iconst 0, 1) := by decide +kernel
theorem dX10_isSo_26 : decode cX10_isSo 26 = .ok (.ireturn, 1) := by decide +kernel
theorem dX10_isSo_27 : decode cX10_isSo 27 = .ok (.iload_n 3, 1) := by decide +kernel
theorem dX10_isSo_28 : decode cX10_isSo 28 = .ok (.iconst 2, 1) := by decide +kernel
theorem dX10_isSo_29 : decode cX10_isSo 29 = .ok (.if_icmp .ne 16, 3) := by decide +kernel
theorem dX10_isSo_32 : decode cX10_isSo 32 = .ok (.iload_n 1, 1) := by decide +kernel
theorem dX10_isSo_33 : decode cX10_isSo 33 = .ok (.iload_n 2, 1) := by decide +kernel
theorem dX10_isSo_34 : decode cX10_isSo 34 = .ok (.if_icmp .le 7, 3) := by decide +kernel
theorem dX10_isSo_37 : decode cX10_isSo 37 = .ok (.iconst 1, 1) := by decide +kernel
theorem dX10_isSo_38 : decode cX10_isSo 38 = .ok (.goto 17, 3) := by decide +kernel
theorem dX10_isSo_41 : decode cX10_isSo 41 = .ok (.iconst 0, 1) := by decide +kernel
theorem dX10_isSo_42 : decode cX10_isSo 42 = .ok (.goto 13, 3) := by decide +kernel
theorem dX10_isSo_45 : decode cX10_isSo 45 = .ok (.iload_n 1, 1) := by decide +kernel
theorem dX10_isSo_46 : decode cX10_isSo 46 = .ok (.iload_n 2, 1) := by decide +kernel
theorem dX10_isSo_47 : decode cX10_isSo 47 = .ok (.if_icmp .ne 7, 3) := by decide +kernel
theorem dX10_isSo_50 : decode cX10_isSo 50 = .ok (.iconst 1, 1) := by decide +kernel
theorem dX10_isSo_51 : decode cX10_isSo 51 = .ok (.goto 4, 3) := by decide +kernel
theorem dX10_isSo_54 : decode cX10_isSo 54 = .ok (.iconst 0, 1) := by decide +kernel
theorem dX10_isSo_55 : decode cX10_isSo 55 = .ok (.ireturn, 1) := by decide +kernel
theorem dX10_lineFor_0 : decode cX10_lineFor 0 = .ok (.iconst 0, 1) := by decide +kernel
theorem dX10_lineFor_1 : decode cX10_lineFor 1 = .ok (.istore_n 3, 1) := by decide +kernel
theorem dX10_lineFor_2 : decode cX10_lineFor 2 = .ok (.iload_n 3, 1) := by decide +kernel
theorem dX10_lineFor_3 : decode cX10_lineFor 3 = .ok (.aload_n 0, 1) := by decide +kernel
theorem dX10_lineFor_4 : decode cX10_lineFor 4 = .ok (.getfield 15, 3) := by decide +kernel
theorem dX10_lineFor_7 : decode cX10_lineFor 7 = .ok (.if_icmp .ge 30, 3) := by decide +kernel
theorem dX10_lineFor_10 : decode cX10_lineFor 10 = .ok (.aload_n 0, 1) := by decide +kernel
theorem dX10_lineFor_11 : decode cX10_lineFor 11 = .ok (.getfield 21, 3) := by decide +kernel
theorem dX10_lineFor_14 : decode cX10_lineFor 14 = .ok (.iload_n 3, 1) := by decide +kernel
theorem dX10_lineFor_15 : decode cX10_lineFor 15 = .ok (.iaload, 1) := by decide +kernel
theorem dX10_lineFor_16 : decode cX10_lineFor 16 = .ok (.iload_n 1, 1) := by decide +kernel
theorem dX10_lineFor_17 : decode cX10_lineFor 17 = .ok (.if_icmp .ne 14, 3) := by decide +kernel
theorem dX10_lineFor_20 : decode cX10_lineFor 20 = .ok (.aload_n 0, 1) := by decide +kernel
theorem dX10_lineFor_21 : decode cX10_lineFor 21 = .ok (.iload_n 3, 1) := by decide +kernel
theorem dX10_lineFor_22 : decode cX10_lineFor 22 = .ok (.aload_n 2, 1) := by decide +kernel
theorem dX10_lineFor_23 : decode cX10_lineFor 23 = .ok (.invokevirtual 37, 3) := by decide +kernel
theorem dX10_lineFor_26 : decode cX10_lineFor 26 = .ok (.ifCond .eq 5, 3) := by decide +kernel
theorem dX10_lineFor_29 : decode cX10_lineFor 29 = .ok (.iload_n 3, 1) := by decide +kernel
theorem dX10_lineFor_30 : decode cX10_lineFor 30 = .ok (.ireturn, 1) := by decide +kernel
theorem dX10_lineFor_31 : decode cX10_lineFor 31 = .ok (.iinc 3 1, 3) := by decide +kernel
theorem dX10_lineFor_34 : decode cX10_lineFor 34 = .ok (.goto (-32), 3) := by decide +kernel
theorem dX10_lineFor_37 : decode cX10_lineFor 37 = .ok (.iconst (-1), 1) := by decide +kernel
theorem dX10_lineFor_38 : decode cX10_lineFor 38 = .ok (.ireturn, 1) := by decide +kernel
theorem dX11_backOf_0 : decode cX11_backOf 0 = .ok (.iload_n 0, 1) := by decide +kernel
theorem dX11_backOf_1 : decode cX11_backOf 1 = .ok (.iload_n 1, 1) := by decide +kernel
theorem dX11_backOf_2 : decode cX11_backOf 2 = .ok (.imul, 1) := by decide +kernel
theorem dX11_backOf_3 : decode cX11_backOf 3 = .ok (.bipush 100, 2) := by decide +kernel
theorem dX11_backOf_5 : decode cX11_backOf 5 = .ok (.idiv, 1) := by decide +kernel
theorem dX11_backOf_6 : decode cX11_backOf 6 = .ok (.ireturn, 1) := by decide +kernel
theorem dX11_costOf_0 : decode cX11_costOf 0 = .ok (.iload_n 0, 1) := by decide +kernel
theorem dX11_costOf_1 : decode cX11_costOf 1 = .ok (.iload_n 1, 1) := by decide +kernel
theorem dX11_costOf_2 : decode cX11_costOf 2 = .ok (.imul, 1) := by decide +kernel
theorem dX11_costOf_3 : decode cX11_costOf 3 = .ok (.bipush 100, 2) := by decide +kernel
theorem dX11_costOf_5 : decode cX11_costOf 5 = .ok (.iadd, 1) := by decide +kernel
theorem dX11_costOf_6 : decode cX11_costOf 6 = .ok (.iconst 1, 1) := by decide +kernel
theorem dX11_costOf_7 : decode cX11_costOf 7 = .ok (.isub, 1) := by decide +kernel
theorem dX11_costOf_8 : decode cX11_costOf 8 = .ok (.bipush 100, 2) := by decide +kernel
theorem dX11_costOf_10 : decode cX11_costOf 10 = .ok (.idiv, 1) := by decide +kernel
theorem dX11_costOf_11 : decode cX11_costOf 11 = .ok (.ireturn, 1) := by decide +kernel
theorem dX11_isBadge_0 : decode cX11_isBadge 0 = .ok (.iload_n 0, 1) := by decide +kernel
theorem dX11_isBadge_1 : decode cX11_isBadge 1 = .ok (.iconst (-1), 1) := by decide +kernel
theorem dX11_isBadge_2 : decode cX11_isBadge 2 = .ok (.if_icmp .eq 10, 3) := by decide +kernel
theorem dX11_isBadge_5 : decode cX11_isBadge 5 = .ok (.iload_n 0, 1) := by decide +kernel
theorem dX11_isBadge_6 : decode cX11_isBadge 6 = .ok (.invokestatic 159, 3) := by decide +kernel
theorem dX11_isBadge_9 : decode cX11_isBadge 9 = .ok (.ifCond .eq 7, 3) := by decide +kernel
theorem dX11_isBadge_12 : decode cX11_isBadge 12 = .ok (.iconst 1, 1) := by decide +kernel
theorem dX11_isBadge_13 : decode cX11_isBadge 13 = .ok (.goto 4, 3) := by decide +kernel
theorem dX11_isBadge_16 : decode cX11_isBadge 16 = .ok (.iconst 0, 1) := by decide +kernel
theorem dX11_isBadge_17 : decode cX11_isBadge 17 = .ok (.ireturn, 1) := by decide +kernel
theorem dX11_isCorner_0 : decode cX11_isCorner 0 = .ok (.iload_n 0, 1) := by decide +kernel
theorem dX11_isCorner_1 : decode cX11_isCorner 1 = .ok (.iconst 0, 1) := by decide +kernel
theorem dX11_isCorner_2 : decode cX11_isCorner 2 = .ok (.bipush 9, 2) := by decide +kernel
theorem dX11_isCorner_4 : decode cX11_isCorner 4 = .ok (.invokestatic 115, 3) := by decide +kernel
theorem dX11_isCorner_7 : decode cX11_isCorner 7 = .ok (.ireturn, 1) := by decide +kernel
theorem dX11_isDay_0 : decode cX11_isDay 0 = .ok (.iload_n 0, 1) := by decide +kernel
theorem dX11_isDay_1 : decode cX11_isDay 1 = .ok (.iconst 0, 1) := by decide +kernel
theorem dX11_isDay_2 : decode cX11_isDay 2 = .ok (.sipush 399, 3) := by decide +kernel
theorem dX11_isDay_5 : decode cX11_isDay 5 = .ok (.invokestatic 115, 3) := by decide +kernel
theorem dX11_isDay_8 : decode cX11_isDay 8 = .ok (.ireturn, 1) := by decide +kernel
theorem dX11_isHeadline_0 : decode cX11_isHeadline 0 = .ok (.iload_n 0, 1) := by decide +kernel
theorem dX11_isHeadline_1 : decode cX11_isHeadline 1 = .ok (.iconst 0, 1) := by decide +kernel
theorem dX11_isHeadline_2 : decode cX11_isHeadline 2 = .ok (.iconst 5, 1) := by decide +kernel
theorem dX11_isHeadline_3 : decode cX11_isHeadline 3 = .ok (.invokestatic 115, 3) := by decide +kernel
theorem dX11_isHeadline_6 : decode cX11_isHeadline 6 = .ok (.ireturn, 1) := by decide +kernel
theorem dX11_isOfStrike_0 : decode cX11_isOfStrike 0 = .ok (.iload_n 0, 1) := by decide +kernel
theorem dX11_isOfStrike_1 : decode cX11_isOfStrike 1 = .ok (.iconst 0, 1) := by decide +kernel
theorem dX11_isOfStrike_2 : decode cX11_isOfStrike 2 = .ok (.ldc_w 368, 3) := by decide +kernel
theorem dX11_isOfStrike_5 : decode cX11_isOfStrike 5 = .ok (.invokestatic 115, 3) := by decide +kernel
theorem dX11_isOfStrike_8 : decode cX11_isOfStrike 8 = .ok (.ireturn, 1) := by decide +kernel
theorem dX11_isPaper_0 : decode cX11_isPaper 0 = .ok (.iload_n 0, 1) := by decide +kernel
theorem dX11_isPaper_1 : decode cX11_isPaper 1 = .ok (.iconst 0, 1) := by decide +kernel
theorem dX11_isPaper_2 : decode cX11_isPaper 2 = .ok (.iconst 3, 1) := by decide +kernel
theorem dX11_isPaper_3 : decode cX11_isPaper 3 = .ok (.invokestatic 115, 3) := by decide +kernel
theorem dX11_isPaper_6 : decode cX11_isPaper 6 = .ok (.ireturn, 1) := by decide +kernel
theorem dX11_isSum_0 : decode cX11_isSum 0 = .ok (.iload_n 0, 1) := by decide +kernel
theorem dX11_isSum_1 : decode cX11_isSum 1 = .ok (.iconst 1, 1) := by decide +kernel
theorem dX11_isSum_2 : decode cX11_isSum 2 = .ok (.sipush 255, 3) := by decide +kernel
theorem dX11_isSum_5 : decode cX11_isSum 5 = .ok (.invokestatic 115, 3) := by decide +kernel
theorem dX11_isSum_8 : decode cX11_isSum 8 = .ok (.ireturn, 1) := by decide +kernel
theorem dX11_isWeather_0 : decode cX11_isWeather 0 = .ok (.iload_n 0, 1) := by decide +kernel
theorem dX11_isWeather_1 : decode cX11_isWeather 1 = .ok (.iconst 0, 1) := by decide +kernel
theorem dX11_isWeather_2 : decode cX11_isWeather 2 = .ok (.iconst 3, 1) := by decide +kernel
theorem dX11_isWeather_3 : decode cX11_isWeather 3 = .ok (.invokestatic 115, 3) := by decide +kernel
theorem dX11_isWeather_6 : decode cX11_isWeather 6 = .ok (.ireturn, 1) := by decide +kernel
theorem dX11_paidFor_0 : decode cX11_paidFor 0 = .ok (.iload_n 0, 1) := by decide +kernel
theorem dX11_paidFor_1 : decode cX11_paidFor 1 = .ok (.iload_n 1, 1) := by decide +kernel
theorem dX11_paidFor_2 : decode cX11_paidFor 2 = .ok (.imul, 1) := by decide +kernel
theorem dX11_paidFor_3 : decode cX11_paidFor 3 = .ok (.bipush 100, 2) := by decide +kernel
theorem dX11_paidFor_5 : decode cX11_paidFor 5 = .ok (.idiv, 1) := by decide +kernel
theorem dX11_paidFor_6 : decode cX11_paidFor 6 = .ok (.ireturn, 1) := by decide +kernel
theorem dX11_placeOf_0 : decode cX11_placeOf 0 = .ok (.iload_n 0, 1) := by decide +kernel
theorem dX11_placeOf_1 : decode cX11_placeOf 1 = .ok (.iconst 4, 1) := by decide +kernel
theorem dX11_placeOf_2 : decode cX11_placeOf 2 = .ok (.imul, 1) := by decide +kernel
theorem dX11_placeOf_3 : decode cX11_placeOf 3 = .ok (.iload_n 1, 1) := by decide +kernel
theorem dX11_placeOf_4 : decode cX11_placeOf 4 = .ok (.iadd, 1) := by decide +kernel
theorem dX11_placeOf_5 : decode cX11_placeOf 5 = .ok (.bipush 10, 2) := by decide +kernel
theorem dX11_placeOf_7 : decode cX11_placeOf 7 = .ok (.imul, 1) := by decide +kernel
theorem dX11_placeOf_8 : decode cX11_placeOf 8 = .ok (.iload_n 2, 1) := by decide +kernel
theorem dX11_placeOf_9 : decode cX11_placeOf 9 = .ok (.iadd, 1) := by decide +kernel
theorem dX11_placeOf_10 : decode cX11_placeOf 10 = .ok (.ireturn, 1) := by decide +kernel
theorem dX11_within_0 : decode cX11_within 0 = .ok (.iload_n 0, 1) := by decide +kernel
theorem dX11_within_1 : decode cX11_within 1 = .ok (.iload_n 1, 1) := by decide +kernel
theorem dX11_within_2 : decode cX11_within 2 = .ok (.if_icmp .lt 12, 3) := by decide +kernel
theorem dX11_within_5 : decode cX11_within 5 = .ok (.iload_n 0, 1) := by decide +kernel
theorem dX11_within_6 : decode cX11_within 6 = .ok (.iload_n 2, 1) := by decide +kernel
theorem dX11_within_7 : decode cX11_within 7 = .ok (.if_icmp .gt 7, 3) := by decide +kernel
theorem dX11_within_10 : decode cX11_within 10 = .ok (.iconst 1, 1) := by decide +kernel
theorem dX11_within_11 : decode cX11_within 11 = .ok (.goto 4, 3) := by decide +kernel
theorem dX11_within_14 : decode cX11_within 14 = .ok (.iconst 0, 1) := by decide +kernel
theorem dX11_within_15 : decode cX11_within 15 = .ok (.ireturn, 1) := by decide +kernel
theorem dX12_ask_0 : decode cX12_ask 0 = .ok (.aload_n 0, 1) := by decide +kernel
theorem dX12_ask_1 : decode cX12_ask 1 = .ok (.getfield 80, 3) := by decide +kernel
theorem dX12_ask_4 : decode cX12_ask 4 = .ok (.iconst 0, 1) := by decide +kernel
theorem dX12_ask_5 : decode cX12_ask 5 = .ok (.aload_n 0, 1) := by decide +kernel
theorem dX12_ask_6 : decode cX12_ask 6 = .ok (.getfield 25, 3) := by decide +kernel
theorem dX12_ask_9 : decode cX12_ask 9 = .ok (.iload_n 1, 1) := by decide +kernel
theorem dX12_ask_10 : decode cX12_ask 10 = .ok (.baload, 1) := by decide +kernel
theorem dX12_ask_11 : decode cX12_ask 11 = .ok (.ifCond .eq 7, 3) := by decide +kernel
theorem dX12_ask_14 : decode cX12_ask 14 = .ok (.iconst 1, 1) := by decide +kernel
theorem dX12_ask_15 : decode cX12_ask 15 = .ok (.goto 4, 3) := by decide +kernel
theorem dX12_ask_18 : decode cX12_ask 18 = .ok (.iconst 0, 1) := by decide +kernel
theorem dX12_ask_19 : decode cX12_ask 19 = .ok (.iastore, 1) := by decide +kernel
theorem dX12_ask_20 : decode cX12_ask 20 = .ok (.aload_n 0, 1) := by decide +kernel
theorem dX12_ask_21 : decode cX12_ask 21 = .ok (.getfield 80, 3) := by decide +kernel
theorem dX12_ask_24 : decode cX12_ask 24 = .ok (.iconst 1, 1) := by decide +kernel
theorem dX12_ask_25 : decode cX12_ask 25 = .ok (.iload 6, 2) := by decide +kernel
theorem dX12_ask_27 : decode cX12_ask 27 = .ok (.aload_n 0, 1) := by decide +kernel
theorem dX12_ask_28 : decode cX12_ask 28 = .ok (.getfield 16, 3) := by decide +kernel
theorem dX12_ask_31 : decode cX12_ask 31 = .ok (.iload_n 1, 1) := by decide +kernel
theorem dX12_ask_32 : decode cX12_ask 32 = .ok (.iaload, 1) := by decide +kernel
theorem dX12_ask_33 : decode cX12_ask 33 = .ok (.if_icmp .gt 7, 3) := by decide +kernel
theorem dX12_ask_36 : decode cX12_ask 36 = .ok (.iconst 1, 1) := by decide +kernel
theorem dX12_ask_37 : decode cX12_ask 37 = .ok (.goto 4, 3) := by decide +kernel
theorem dX12_ask_40 : decode cX12_ask 40 = .ok (.iconst 0, 1) := by decide +kernel
theorem dX12_ask_41 : decode cX12_ask 41 = .ok (.iastore, 1) := by decide +kernel
theorem dX12_ask_42 : decode cX12_ask 42 = .ok (.aload_n 0, 1) := by decide +kernel
theorem dX12_ask_43 : decode cX12_ask 43 = .ok (.getfield 80, 3) := by decide +kernel
theorem dX12_ask_46 : decode cX12_ask 46 = .ok (.iconst 2, 1) := by decide +kernel
theorem dX12_ask_47 : decode cX12_ask 47 = .ok (.aload_n 0, 1) := by decide +kernel
theorem dX12_ask_48 : decode cX12_ask 48 = .ok (.getfield 29, 3) := by decide +kernel
theorem dX12_ask_51 : decode cX12_ask 51 = .ok (.iload_n 3, 1) := by decide +kernel
theorem dX12_ask_52 : decode cX12_ask 52 = .ok (.iaload, 1) := by decide +kernel
theorem dX12_ask_53 : decode cX12_ask 53 = .ok (.iload_n 1, 1) := by decide +kernel
theorem dX12_ask_54 : decode cX12_ask 54 = .ok (.if_icmp .ne 7, 3) := by decide +kernel
theorem dX12_ask_57 : decode cX12_ask 57 = .ok (.iconst 1, 1) := by decide +kernel
theorem dX12_ask_58 : decode cX12_ask 58 = .ok (.goto 4, 3) := by decide +kernel
theorem dX12_ask_61 : decode cX12_ask 61 = .ok (.iconst 0, 1) := by decide +kernel
theorem dX12_ask_62 : decode cX12_ask 62 = .ok (.iastore, 1) := by decide +kernel
theorem dX12_ask_63 : decode cX12_ask 63 = .ok (.aload_n 0, 1) := by decide +kernel
theorem dX12_ask_64 : decode cX12_ask 64 = .ok (.getfield 80, 3) := by decide +kernel
theorem dX12_ask_67 : decode cX12_ask 67 = .ok (.iconst 3, 1) := by decide +kernel
theorem dX12_ask_68 : decode cX12_ask 68 = .ok (.aload_n 0, 1) := by decide +kernel
theorem dX12_ask_69 : decode cX12_ask 69 = .ok (.getfield 13, 3) := by decide +kernel
theorem dX12_ask_72 : decode cX12_ask 72 = .ok (.iload_n 1, 1) := by decide +kernel
theorem dX12_ask_73 : decode cX12_ask 73 = .ok (.iaload, 1) := by decide +kernel
theorem dX12_ask_74 : decode cX12_ask 74 = .ok (.iastore, 1) := by decide +kernel
theorem dX12_ask_75 : decode cX12_ask 75 = .ok (.aload_n 0, 1) := by decide +kernel
theorem dX12_ask_76 : decode cX12_ask 76 = .ok (.getfield 80, 3) := by decide +kernel
theorem dX12_ask_79 : decode cX12_ask 79 = .ok (.iconst 4, 1) := by decide +kernel
theorem dX12_ask_80 : decode cX12_ask 80 = .ok (.iload 5, 2) := by decide +kernel
theorem dX12_ask_82 : decode cX12_ask 82 = .ok (.iastore, 1) := by decide +kernel
theorem dX12_ask_83 : decode cX12_ask 83 = .ok (.aload_n 0, 1) := by decide +kernel
theorem dX12_ask_84 : decode cX12_ask 84 = .ok (.getfield 80, 3) := by decide +kernel
theorem dX12_ask_87 : decode cX12_ask 87 = .ok (.iconst 5, 1) := by decide +kernel
theorem dX12_ask_88 : decode cX12_ask 88 = .ok (.iload 6, 2) := by decide +kernel
theorem dX12_ask_90 : decode cX12_ask 90 = .ok (.bipush 7, 2) := by decide +kernel
theorem dX12_ask_92 : decode cX12_ask 92 = .ok (.irem, 1) := by decide +kernel
theorem dX12_ask_93 : decode cX12_ask 93 = .ok (.iastore, 1) := by decide +kernel
theorem dX12_ask_94 : decode cX12_ask 94 = .ok (.aload_n 0, 1) := by decide +kernel
theorem dX12_ask_95 : decode cX12_ask 95 = .ok (.getfield 80, 3) := by decide +kernel
theorem dX12_ask_98 : decode cX12_ask 98 = .ok (.bipush 6, 2) := by decide +kernel
theorem dX12_ask_100 : decode cX12_ask 100 = .ok (.iload 6, 2) := by decide +kernel
theorem dX12_ask_102 : decode cX12_ask 102 = .ok (.iastore, 1) := by decide +kernel
theorem dX12_ask_103 : decode cX12_ask 103 = .ok (.aload_n 0, 1) := by decide +kernel
theorem dX12_ask_104 : decode cX12_ask 104 = .ok (.getfield 80, 3) := by decide +kernel
theorem dX12_ask_107 : decode cX12_ask 107 = .ok (.bipush 7, 2) := by decide +kernel
theorem dX12_ask_109 : decode cX12_ask 109 = .ok (.iload_n 2, 1) := by decide +kernel
theorem dX12_ask_110 : decode cX12_ask 110 = .ok (.iastore, 1) := by decide +kernel
theorem dX12_ask_111 : decode cX12_ask 111 = .ok (.aload_n 0, 1) := by decide +kernel
theorem dX12_ask_112 : decode cX12_ask 112 = .ok (.getfield 80, 3) := by decide +kernel
theorem dX12_ask_115 : decode cX12_ask 115 = .ok (.bipush 8, 2) := by decide +kernel
theorem dX12_ask_117 : decode cX12_ask 117 = .ok (.iload_n 3, 1) := by decide +kernel
theorem dX12_ask_118 : decode cX12_ask 118 = .ok (.iastore, 1) := by decide +kernel
theorem dX12_ask_119 : decode cX12_ask 119 = .ok (.aload_n 0, 1) := by decide +kernel
theorem dX12_ask_120 : decode cX12_ask 120 = .ok (.getfield 80, 3) := by decide +kernel
theorem dX12_ask_123 : decode cX12_ask 123 = .ok (.bipush 9, 2) := by decide +kernel
theorem dX12_ask_125 : decode cX12_ask 125 = .ok (.iload 4, 2) := by decide +kernel
theorem dX12_ask_127 : decode cX12_ask 127 = .ok (.iastore, 1) := by decide +kernel
theorem dX12_ask_128 : decode cX12_ask 128 = .ok (.aload_n 0, 1) := by decide +kernel
theorem dX12_ask_129 : decode cX12_ask 129 = .ok (.getfield 80, 3) := by decide +kernel
theorem dX12_ask_132 : decode cX12_ask 132 = .ok (.bipush 10, 2) := by decide +kernel
theorem dX12_ask_134 : decode cX12_ask 134 = .ok (.aload_n 0, 1) := by decide +kernel
theorem dX12_ask_135 : decode cX12_ask 135 = .ok (.iload 6, 2) := by decide +kernel
theorem dX12_ask_137 : decode cX12_ask 137 = .ok (.invokevirtual 232, 3) := by decide +kernel
theorem dX12_ask_140 : decode cX12_ask 140 = .ok (.iastore, 1) := by decide +kernel
theorem dX12_ask_141 : decode cX12_ask 141 = .ok (.aload_n 0, 1) := by decide +kernel
theorem dX12_ask_142 : decode cX12_ask 142 = .ok (.getfield 80, 3) := by decide +kernel
theorem dX12_ask_145 : decode cX12_ask 145 = .ok (.bipush 11, 2) := by decide +kernel
theorem dX12_ask_147 : decode cX12_ask 147 = .ok (.aload_n 0, 1) := by decide +kernel
theorem dX12_ask_148 : decode cX12_ask 148 = .ok (.getfield 19, 3) := by decide +kernel
theorem dX12_ask_151 : decode cX12_ask 151 = .ok (.iload_n 1, 1) := by decide +kernel
theorem dX12_ask_152 : decode cX12_ask 152 = .ok (.iaload, 1) := by decide +kernel
theorem dX12_ask_153 : decode cX12_ask 153 = .ok (.iastore, 1) := by decide +kernel
theorem dX12_ask_154 : decode cX12_ask 154 = .ok (.return_, 1) := by decide +kernel
theorem dX12_asked_0 : decode cX12_asked 0 = .ok (.aload_n 0, 1) := by decide +kernel
theorem dX12_asked_1 : decode cX12_asked 1 = .ok (.iconst 0, 1) := by decide +kernel
theorem dX12_asked_2 : decode cX12_asked 2 = .ok (.putfield 198, 3) := by decide +kernel
theorem dX12_asked_5 : decode cX12_asked 5 = .ok (.iload_n 1, 1) := by decide +kernel
theorem dX12_asked_6 : decode cX12_asked 6 = .ok (.invokestatic 219, 3) := by decide +kernel
theorem dX12_asked_9 : decode cX12_asked 9 = .ok (.ifCond .eq 41, 3) := by decide +kernel
theorem dX12_asked_12 : decode cX12_asked 12 = .ok (.iload_n 2, 1) := by decide +kernel
theorem dX12_asked_13 : decode cX12_asked 13 = .ok (.invokestatic 236, 3) := by decide +kernel
theorem dX12_asked_16 : decode cX12_asked 16 = .ok (.ifCond .eq 34, 3) := by decide +kernel
theorem dX12_asked_19 : decode cX12_asked 19 = .ok (.iload_n 3, 1) := by decide +kernel
theorem dX12_asked_20 : decode cX12_asked 20 = .ok (.iconst 0, 1) := by decide +kernel
theorem dX12_asked_21 : decode cX12_asked 21 = .ok (.iconst 3, 1) := by decide +kernel
theorem dX12_asked_22 : decode cX12_asked 22 = .ok (.invokestatic 211, 3) := by decide +kernel
theorem dX12_asked_25 : decode cX12_asked 25 = .ok (.ifCond .eq 25, 3) := by decide +kernel
theorem dX12_asked_28 : decode cX12_asked 28 = .ok (.iload 4, 2) := by decide +kernel
theorem dX12_asked_30 : decode cX12_asked 30 = .ok (.iconst 0, 1) := by decide +kernel
theorem dX12_asked_31 : decode cX12_asked 31 = .ok (.iconst 5, 1) := by decide +kernel
theorem dX12_asked_32 : decode cX12_asked 32 = .ok (.invokestatic 211, 3) := by decide +kernel
theorem dX12_asked_35 : decode cX12_asked 35 = .ok (.ifCond .eq 15, 3) := by decide +kernel
theorem dX12_asked_38 : decode cX12_asked 38 = .ok (.aload_n 0, 1) := by decide +kernel
theorem dX12_asked_39 : decode cX12_asked 39 = .ok (.iload_n 1, 1) := by decide +kernel
theorem dX12_asked_40 : decode cX12_asked 40 = .ok (.iload_n 2, 1) := by decide +kernel
theorem dX12_asked_41 : decode cX12_asked 41 = .ok (.iload_n 3, 1) := by decide +kernel
theorem dX12_asked_42 : decode cX12_asked 42 = .ok (.iload 4, 2) := by decide +kernel
theorem dX12_asked_44 : decode cX12_asked 44 = .ok (.invokevirtual 242, 3) := by decide +kernel
theorem dX12_asked_47 : decode cX12_asked 47 = .ok (.goto 4, 3) := by decide +kernel
theorem dX12_asked_50 : decode cX12_asked 50 = .ok (.iconst (-1), 1) := by decide +kernel
theorem dX12_asked_51 : decode cX12_asked 51 = .ok (.ireturn, 1) := by decide +kernel
theorem dX12_askedOf_0 : decode cX12_askedOf 0 = .ok (.aload_n 0, 1) := by decide +kernel
theorem dX12_askedOf_1 : decode cX12_askedOf 1 = .ok (.getfield 38, 3) := by decide +kernel
theorem dX12_askedOf_4 : decode cX12_askedOf 4 = .ok (.iconst 4, 1) := by decide +kernel
theorem dX12_askedOf_5 : decode cX12_askedOf 5 = .ok (.iload_n 1, 1) := by decide +kernel
theorem dX12_askedOf_6 : decode cX12_askedOf 6 = .ok (.imul, 1) := by decide +kernel
theorem dX12_askedOf_7 : decode cX12_askedOf 7 = .ok (.iload_n 2, 1) := by decide +kernel
theorem dX12_askedOf_8 : decode cX12_askedOf 8 = .ok (.iadd, 1) := by decide +kernel
theorem dX12_askedOf_9 : decode cX12_askedOf 9 = .ok (.iaload, 1) := by decide +kernel
theorem dX12_askedOf_10 : decode cX12_askedOf 10 = .ok (.aload_n 0, 1) := by decide +kernel
theorem dX12_askedOf_11 : decode cX12_askedOf 11 = .ok (.getfield 41, 3) := by decide +kernel
theorem dX12_askedOf_14 : decode cX12_askedOf 14 = .ok (.iload_n 3, 1) := by decide +kernel
theorem dX12_askedOf_15 : decode cX12_askedOf 15 = .ok (.iaload, 1) := by decide +kernel
theorem dX12_askedOf_16 : decode cX12_askedOf 16 = .ok (.imul, 1) := by decide +kernel
theorem dX12_askedOf_17 : decode cX12_askedOf 17 = .ok (.bipush 100, 2) := by decide +kernel
theorem dX12_askedOf_19 : decode cX12_askedOf 19 = .ok (.idiv, 1) := by decide +kernel
theorem dX12_askedOf_20 : decode cX12_askedOf 20 = .ok (.aload_n 0, 1) := by decide +kernel
theorem dX12_askedOf_21 : decode cX12_askedOf 21 = .ok (.getfield 44, 3) := by decide +kernel
theorem dX12_askedOf_24 : decode cX12_askedOf 24 = .ok (.iload 4, 2) := by decide +kernel
theorem dX12_askedOf_26 : decode cX12_askedOf 26 = .ok (.iaload, 1) := by decide +kernel
theorem dX12_askedOf_27 : decode cX12_askedOf 27 = .ok (.imul, 1) := by decide +kernel
theorem dX12_askedOf_28 : decode cX12_askedOf 28 = .ok (.bipush 100, 2) := by decide +kernel
theorem dX12_askedOf_30 : decode cX12_askedOf 30 = .ok (.idiv, 1) := by decide +kernel
theorem dX12_askedOf_31 : decode cX12_askedOf 31 = .ok (.ireturn, 1) := by decide +kernel
theorem dX12_atom_0 : decode cX12_atom 0 = .ok (.aload_n 0, 1) := by decide +kernel
theorem dX12_atom_1 : decode cX12_atom 1 = .ok (.ldc2_w 287, 3) := by decide +kernel
theorem dX12_atom_4 : decode cX12_atom 4 = .ok (.bipush 115, 2) := by decide +kernel
theorem dX12_atom_6 : decode cX12_atom 6 = .ok (.bipush 99, 2) := by decide +kernel
theorem dX12_atom_8 : decode cX12_atom 8 = .ok (.bipush 104, 2) := by decide +kernel
theorem dX12_atom_10 : decode cX12_atom 10 = .ok (.bipush 111, 2) := by decide +kernel
theorem dX12_atom_12 : decode cX12_atom 12 = .ok (.bipush 111, 2) := by decide +kernel
theorem dX12_atom_14 : decode cX12_atom 14 = .ok (.invokestatic 297, 3) := by decide +kernel
theorem dX12_atom_17 : decode cX12_atom 17 = .ok (.lmul, 1) := by decide +kernel
theorem dX12_atom_18 : decode cX12_atom 18 = .ok (.ldc2_w 305, 3) := by decide +kernel
theorem dX12_atom_21 : decode cX12_atom 21 = .ok (.ladd, 1) := by decide +kernel
theorem dX12_atom_22 : decode cX12_atom 22 = .ok (.invokevirtual 301, 3) := by decide +kernel
theorem dX12_atom_25 : decode cX12_atom 25 = .ok (.ifCond .eq 5, 3) := by decide +kernel
theorem dX12_atom_28 : decode cX12_atom 28 = .ok (.iconst 0, 1) := by decide +kernel
theorem dX12_atom_29 : decode cX12_atom 29 = .ok (.ireturn, 1) := by decide +kernel
theorem dX12_atom_30 : decode cX12_atom 30 = .ok (.aload_n 0, 1) := by decide +kernel
theorem dX12_atom_31 : decode cX12_atom 31 = .ok (.bipush 98, 2) := by decide +kernel
theorem dX12_atom_33 : decode cX12_atom 33 = .ok (.bipush 97, 2) := by decide +kernel
theorem dX12_atom_35 : decode cX12_atom 35 = .ok (.bipush 100, 2) := by decide +kernel
theorem dX12_atom_37 : decode cX12_atom 37 = .ok (.bipush 103, 2) := by decide +kernel
theorem dX12_atom_39 : decode cX12_atom 39 = .ok (.bipush 101, 2) := by decide +kernel
theorem dX12_atom_41 : decode cX12_atom 41 = .ok (.invokestatic 297, 3) := by decide +kernel
theorem dX12_atom_44 : decode cX12_atom 44 = .ok (.invokevirtual 301, 3) := by decide +kernel
theorem dX12_atom_47 : decode cX12_atom 47 = .ok (.ifCond .eq 5, 3) := by decide +kernel
theorem dX12_atom_50 : decode cX12_atom 50 = .ok (.iconst 1, 1) := by decide +kernel
theorem dX12_atom_51 : decode cX12_atom 51 = .ok (.ireturn, 1) := by decide +kernel
theorem dX12_atom_52 : decode cX12_atom 52 = .ok (.aload_n 0, 1) := by decide +kernel
theorem dX12_atom_53 : decode cX12_atom 53 = .ok (.bipush 111, 2) := by decide +kernel
theorem dX12_atom_55 : decode cX12_atom 55 = .ok (.bipush 119, 2) := by decide +kernel
theorem dX12_atom_57 : decode cX12_atom 57 = .ok (.bipush 110, 2) := by decide +kernel
theorem dX12_atom_59 : decode cX12_atom 59 = .ok (.bipush 101, 2) := by decide +kernel
theorem dX12_atom_61 : decode cX12_atom 61 = .ok (.bipush 114, 2) := by decide +kernel
theorem dX12_atom_63 : decode cX12_atom 63 = .ok (.invokestatic 297, 3) := by decide +kernel
theorem dX12_atom_66 : decode cX12_atom 66 = .ok (.invokevirtual 301, 3) := by decide +kernel
theorem dX12_atom_69 : decode cX12_atom 69 = .ok (.ifCond .eq 5, 3) := by decide +kernel
theorem dX12_atom_72 : decode cX12_atom 72 = .ok (.iconst 2, 1) := by decide +kernel
theorem dX12_atom_73 : decode cX12_atom 73 = .ok (.ireturn, 1) := by decide +kernel
theorem dX12_atom_74 : decode cX12_atom 74 = .ok (.aload_n 0, 1) := by decide +kernel
theorem dX12_atom_75 : decode cX12_atom 75 = .ok (.bipush 97, 2) := by decide +kernel
theorem dX12_atom_77 : decode cX12_atom 77 = .ok (.bipush 103, 2) := by decide +kernel
theorem dX12_atom_79 : decode cX12_atom 79 = .ok (.bipush 101, 2) := by decide +kernel
theorem dX12_atom_81 : decode cX12_atom 81 = .ok (.iconst 0, 1) := by decide +kernel
theorem dX12_atom_82 : decode cX12_atom 82 = .ok (.iconst 0, 1) := by decide +kernel
theorem dX12_atom_83 : decode cX12_atom 83 = .ok (.invokestatic 297, 3) := by decide +kernel
theorem dX12_atom_86 : decode cX12_atom 86 = .ok (.invokevirtual 301, 3) := by decide +kernel
theorem dX12_atom_89 : decode cX12_atom 89 = .ok (.ifCond .eq 5, 3) := by decide +kernel
theorem dX12_atom_92 : decode cX12_atom 92 = .ok (.iconst 3, 1) := by decide +kernel
theorem dX12_atom_93 : decode cX12_atom 93 = .ok (.ireturn, 1) := by decide +kernel
theorem dX12_atom_94 : decode cX12_atom 94 = .ok (.aload_n 0, 1) := by decide +kernel
theorem dX12_atom_95 : decode cX12_atom 95 = .ok (.bipush 104, 2) := by decide +kernel
theorem dX12_atom_97 : decode cX12_atom 97 = .ok (.bipush 111, 2) := by decide +kernel
theorem dX12_atom_99 : decode cX12_atom 99 = .ok (.bipush 117, 2) := by decide +kernel
theorem dX12_atom_101 : decode cX12_atom 101 = .ok (.bipush 114, 2) := by decide +kernel
theorem dX12_atom_103 : decode cX12_atom 103 = .ok (.iconst 0, 1) := by decide +kernel
theorem dX12_atom_104 : decode cX12_atom 104 = .ok (.invokestatic 297, 3) := by decide +kernel
theorem dX12_atom_107 : decode cX12_atom 107 = .ok (.invokevirtual 301, 3) := by decide +kernel
theorem dX12_atom_110 : decode cX12_atom 110 = .ok (.ifCond .eq 5, 3) := by decide +kernel
theorem dX12_atom_113 : decode cX12_atom 113 = .ok (.iconst 4, 1) := by decide +kernel
theorem dX12_atom_114 : decode cX12_atom 114 = .ok (.ireturn, 1) := by decide +kernel
theorem dX12_atom_115 : decode cX12_atom 115 = .ok (.aload_n 0, 1) := by decide +kernel
theorem dX12_atom_116 : decode cX12_atom 116 = .ok (.bipush 119, 2) := by decide +kernel
theorem dX12_atom_118 : decode cX12_atom 118 = .ok (.bipush 101, 2) := by decide +kernel
theorem dX12_atom_120 : decode cX12_atom 120 = .ok (.bipush 101, 2) := by decide +kernel
theorem dX12_atom_122 : decode cX12_atom 122 = .ok (.bipush 107, 2) := by decide +kernel
theorem dX12_atom_124 : decode cX12_atom 124 = .ok (.iconst 0, 1) := by decide +kernel
theorem dX12_atom_125 : decode cX12_atom 125 = .ok (.invokestatic 297, 3) := by decide +kernel
theorem dX12_atom_128 : decode cX12_atom 128 = .ok (.invokevirtual 301, 3) := by decide +kernel
theorem dX12_atom_131 : decode cX12_atom 131 = .ok (.ifCond .eq 5, 3) := by decide +kernel
theorem dX12_atom_134 : decode cX12_atom 134 = .ok (.iconst 5, 1) := by decide +kernel
theorem dX12_atom_135 : decode cX12_atom 135 = .ok (.ireturn, 1) := by decide +kernel
theorem dX12_atom_136 : decode cX12_atom 136 = .ok (.aload_n 0, 1) := by decide +kernel
theorem dX12_atom_137 : decode cX12_atom 137 = .ok (.bipush 100, 2) := by decide +kernel
theorem dX12_atom_139 : decode cX12_atom 139 = .ok (.bipush 97, 2) := by decide +kernel
theorem dX12_atom_141 : decode cX12_atom 141 = .ok (.bipush 121, 2) := by decide +kernel
theorem dX12_atom_143 : decode cX12_atom 143 = .ok (.iconst 0, 1) := by decide +kernel
theorem dX12_atom_144 : decode cX12_atom 144 = .ok (.iconst 0, 1) := by decide +kernel
theorem dX12_atom_145 : decode cX12_atom 145 = .ok (.invokestatic 297, 3) := by decide +kernel
theorem dX12_atom_148 : decode cX12_atom 148 = .ok (.invokevirtual 301, 3) := by decide +kernel
theorem dX12_atom_151 : decode cX12_atom 151 = .ok (.ifCond .eq 6, 3) := by decide +kernel
theorem dX12_atom_154 : decode cX12_atom 154 = .ok (.bipush 6, 2) := by decide +kernel
theorem dX12_atom_156 : decode cX12_atom 156 = .ok (.ireturn, 1) := by decide +kernel
theorem dX12_atom_157 : decode cX12_atom 157 = .ok (.aload_n 0, 1) := by decide +kernel
theorem dX12_atom_158 : decode cX12_atom 158 = .ok (.bipush 112, 2) := by decide +kernel
theorem dX12_atom_160 : decode cX12_atom 160 = .ok (.bipush 97, 2) := by decide +kernel
theorem dX12_atom_162 : decode cX12_atom 162 = .ok (.bipush 112, 2) := by decide +kernel
theorem dX12_atom_164 : decode cX12_atom 164 = .ok (.bipush 101, 2) := by decide +kernel
theorem dX12_atom_166 : decode cX12_atom 166 = .ok (.bipush 114, 2) := by decide +kernel
theorem dX12_atom_168 : decode cX12_atom 168 = .ok (.invokestatic 297, 3) := by decide +kernel
theorem dX12_atom_171 : decode cX12_atom 171 = .ok (.invokevirtual 301, 3) := by decide +kernel
theorem dX12_atom_174 : decode cX12_atom 174 = .ok (.ifCond .eq 6, 3) := by decide +kernel
theorem dX12_atom_177 : decode cX12_atom 177 = .ok (.bipush 7, 2) := by decide +kernel
theorem dX12_atom_179 : decode cX12_atom 179 = .ok (.ireturn, 1) := by decide +kernel
theorem dX12_atom_180 : decode cX12_atom 180 = .ok (.aload_n 0, 1) := by decide +kernel
theorem dX12_atom_181 : decode cX12_atom 181 = .ok (.ldc2_w 287, 3) := by decide +kernel
theorem dX12_atom_184 : decode cX12_atom 184 = .ok (.bipush 99, 2) := by decide +kernel
theorem dX12_atom_186 : decode cX12_atom 186 = .ok (.bipush 111, 2) := by decide +kernel
theorem dX12_atom_188 : decode cX12_atom 188 = .ok (.bipush 114, 2) := by decide +kernel
theorem dX12_atom_190 : decode cX12_atom 190 = .ok (.bipush 110, 2) := by decide +kernel
theorem dX12_atom_192 : decode cX12_atom 192 = .ok (.bipush 101, 2) := by decide +kernel
theorem dX12_atom_194 : decode cX12_atom 194 = .ok (.invokestatic 297, 3) := by decide +kernel
theorem dX12_atom_197 : decode cX12_atom 197 = .ok (.lmul, 1) := by decide +kernel
theorem dX12_atom_198 : decode cX12_atom 198 = .ok (.ldc2_w 307, 3) := by decide +kernel
theorem dX12_atom_201 : decode cX12_atom 201 = .ok (.ladd, 1) := by decide +kernel
theorem dX12_atom_202 : decode cX12_atom 202 = .ok (.invokevirtual 301, 3) := by decide +kernel
theorem dX12_atom_205 : decode cX12_atom 205 = .ok (.ifCond .eq 6, 3) := by decide +kernel
theorem dX12_atom_208 : decode cX12_atom 208 = .ok (.bipush 8, 2) := by decide +kernel
theorem dX12_atom_210 : decode cX12_atom 210 = .ok (.ireturn, 1) := by decide +kernel
theorem dX12_atom_211 : decode cX12_atom 211 = .ok (.aload_n 0, 1) := by decide +kernel
theorem dX12_atom_212 : decode cX12_atom 212 = .ok (.ldc2_w 287, 3) := by decide +kernel
theorem dX12_atom_215 : decode cX12_atom 215 = .ok (.bipush 99, 2) := by decide +kernel
theorem dX12_atom_217 : decode cX12_atom 217 = .ok (.bipush 111, 2) := by decide +kernel
theorem dX12_atom_219 : decode cX12_atom 219 = .ok (.bipush 112, 2) := by decide +kernel
theorem dX12_atom_221 : decode cX12_atom 221 = .ok (.bipush 105, 2) := by decide +kernel
theorem dX12_atom_223 : decode cX12_atom 223 = .ok (.bipush 101, 2) := by decide +kernel
theorem dX12_atom_225 : decode cX12_atom 225 = .ok (.invokestatic 297, 3) := by decide +kernel
theorem dX12_atom_228 : decode cX12_atom 228 = .ok (.lmul, 1) := by decide +kernel
theorem dX12_atom_229 : decode cX12_atom 229 = .ok (.ldc2_w 309, 3) := by decide +kernel
theorem dX12_atom_232 : decode cX12_atom 232 = .ok (.ladd, 1) := by decide +kernel
theorem dX12_atom_233 : decode cX12_atom 233 = .ok (.invokevirtual 301, 3) := by decide +kernel
theorem dX12_atom_236 : decode cX12_atom 236 = .ok (.ifCond .eq 6, 3) := by decide +kernel
theorem dX12_atom_239 : decode cX12_atom 239 = .ok (.bipush 9, 2) := by decide +kernel
theorem dX12_atom_241 : decode cX12_atom 241 = .ok (.ireturn, 1) := by decide +kernel
theorem dX12_atom_242 : decode cX12_atom 242 = .ok (.aload_n 0, 1) := by decide +kernel
theorem dX12_atom_243 : decode cX12_atom 243 = .ok (.ldc2_w 287, 3) := by decide +kernel
theorem dX12_atom_246 : decode cX12_atom 246 = .ok (.ldc2_w 287, 3) := by decide +kernel
theorem dX12_atom_249 : decode cX12_atom 249 = .ok (.bipush 119, 2) := by decide +kernel
theorem dX12_atom_251 : decode cX12_atom 251 = .ok (.bipush 101, 2) := by decide +kernel
theorem dX12_atom_253 : decode cX12_atom 253 = .ok (.bipush 97, 2) := by decide +kernel
theorem dX12_atom_255 : decode cX12_atom 255 = .ok (.bipush 116, 2) := by decide +kernel
theorem dX12_atom_257 : decode cX12_atom 257 = .ok (.bipush 104, 2) := by decide +kernel
theorem dX12_atom_259 : decode cX12_atom 259 = .ok (.invokestatic 297, 3) := by decide +kernel
theorem dX12_atom_262 : decode cX12_atom 262 = .ok (.lmul, 1) := by decide +kernel
theorem dX12_atom_263 : decode cX12_atom 263 = .ok (.ldc2_w 311, 3) := by decide +kernel
theorem dX12_atom_266 : decode cX12_atom 266 = .ok (.ladd, 1) := by decide +kernel
theorem dX12_atom_267 : decode cX12_atom 267 = .ok (.lmul, 1) := by decide +kernel
theorem dX12_atom_268 : decode cX12_atom 268 = .ok (.ldc2_w 307, 3) := by decide +kernel
theorem dX12_atom_271 : decode cX12_atom 271 = .ok (.ladd, 1) := by decide +kernel
theorem dX12_atom_272 : decode cX12_atom 272 = .ok (.invokevirtual 301, 3) := by decide +kernel
theorem dX12_atom_275 : decode cX12_atom 275 = .ok (.ifCond .eq 6, 3) := by decide +kernel
theorem dX12_atom_278 : decode cX12_atom 278 = .ok (.bipush 10, 2) := by decide +kernel
theorem dX12_atom_280 : decode cX12_atom 280 = .ok (.ireturn, 1) := by decide +kernel
theorem dX12_atom_281 : decode cX12_atom 281 = .ok (.aload_n 0, 1) := by decide +kernel
theorem dX12_atom_282 : decode cX12_atom 282 = .ok (.bipush 102, 2) := by decide +kernel
theorem dX12_atom_284 : decode cX12_atom 284 = .ok (.bipush 105, 2) := by decide +kernel
theorem dX12_atom_286 : decode cX12_atom 286 = .ok (.bipush 115, 2) := by decide +kernel
theorem dX12_atom_288 : decode cX12_atom 288 = .ok (.bipush 116, 2) := by decide +kernel
theorem dX12_atom_290 : decode cX12_atom 290 = .ok (.bipush 115, 2) := by decide +kernel
theorem dX12_atom_292 : decode cX12_atom 292 = .ok (.invokestatic 297, 3) := by decide +kernel
theorem dX12_atom_295 : decode cX12_atom 295 = .ok (.invokevirtual 301, 3) := by decide +kernel
theorem dX12_atom_298 : decode cX12_atom 298 = .ok (.ifCond .eq 8, 3) := by decide +kernel
theorem dX12_atom_301 : decode cX12_atom 301 = .ok (.bipush 11, 2) := by decide +kernel
theorem dX12_atom_303 : decode cX12_atom 303 = .ok (.goto 4, 3) := by decide +kernel
theorem dX12_atom_306 : decode cX12_atom 306 = .ok (.iconst (-1), 1) := by decide +kernel
theorem dX12_atom_307 : decode cX12_atom 307 = .ok (.ireturn, 1) := by decide +kernel
theorem dX12_bad_0 : decode cX12_bad 0 = .ok (.aload_n 0, 1) := by decide +kernel
theorem dX12_bad_1 : decode cX12_bad 1 = .ok (.aload_n 0, 1) := by decide +kernel
theorem dX12_bad_2 : decode cX12_bad 2 = .ok (.getfield 262, 3) := by decide +kernel
theorem dX12_bad_5 : decode cX12_bad 5 = .ok (.iconst 1, 1) := by decide +kernel
theorem dX12_bad_6 : decode cX12_bad 6 = .ok (.if_icmp .ne 7, 3) := by decide +kernel
theorem dX12_bad_9 : decode cX12_bad 9 = .ok (.iconst 1, 1) := by decide +kernel
theorem dX12_bad_10 : decode cX12_bad 10 = .ok (.goto 4, 3) := by decide +kernel
theorem dX12_bad_13 : decode cX12_bad 13 = .ok (.iload_n 1, 1) := by decide +kernel
theorem dX12_bad_14 : decode cX12_bad 14 = .ok (.putfield 291, 3) := by decide +kernel
theorem dX12_bad_17 : decode cX12_bad 17 = .ok (.aload_n 0, 1) := by decide +kernel
theorem dX12_bad_18 : decode cX12_bad 18 = .ok (.aload_n 0, 1) := by decide +kernel
theorem dX12_bad_19 : decode cX12_bad 19 = .ok (.getfield 259, 3) := by decide +kernel
theorem dX12_bad_22 : decode cX12_bad 22 = .ok (.putfield 294, 3) := by decide +kernel
theorem dX12_bad_25 : decode cX12_bad 25 = .ok (.iconst 0, 1) := by decide +kernel
theorem dX12_bad_26 : decode cX12_bad 26 = .ok (.ireturn, 1) := by decide +kernel
theorem dX12_badge_0 : decode cX12_badge 0 = .ok (.aload_n 0, 1) := by decide +kernel
theorem dX12_badge_1 : decode cX12_badge 1 = .ok (.iconst 0, 1) := by decide +kernel
theorem dX12_badge_2 : decode cX12_badge 2 = .ok (.putfield 198, 3) := by decide +kernel
theorem dX12_badge_5 : decode cX12_badge 5 = .ok (.aload_n 0, 1) := by decide +kernel
theorem dX12_badge_6 : decode cX12_badge 6 = .ok (.iload_n 1, 1) := by decide +kernel
theorem dX12_badge_7 : decode cX12_badge 7 = .ok (.invokevirtual 215, 3) := by decide +kernel
theorem dX12_badge_10 : decode cX12_badge 10 = .ok (.ifCond .eq 14, 3) := by decide +kernel
theorem dX12_badge_13 : decode cX12_badge 13 = .ok (.iload_n 2, 1) := by decide +kernel
theorem dX12_badge_14 : decode cX12_badge 14 = .ok (.iconst (-1), 1) := by decide +kernel
theorem dX12_badge_15 : decode cX12_badge 15 = .ok (.sipush 399, 3) := by decide +kernel
theorem dX12_badge_18 : decode cX12_badge 18 = .ok (.invokestatic 211, 3) := by decide +kernel
theorem dX12_badge_21 : decode cX12_badge 21 = .ok (.ifCond .ne 5, 3) := by decide +kernel
theorem dX12_badge_24 : decode cX12_badge 24 = .ok (.iconst 0, 1) := by decide +kernel
theorem dX12_badge_25 : decode cX12_badge 25 = .ok (.ireturn, 1) := by decide +kernel
theorem dX12_badge_26 : decode cX12_badge 26 = .ok (.aload_n 0, 1) := by decide +kernel
theorem dX12_badge_27 : decode cX12_badge 27 = .ok (.getfield 16, 3) := by decide +kernel
theorem dX12_badge_30 : decode cX12_badge 30 = .ok (.iload_n 1, 1) := by decide +kernel
theorem dX12_badge_31 : decode cX12_badge 31 = .ok (.iload_n 2, 1) := by decide +kernel
theorem dX12_badge_32 : decode cX12_badge 32 = .ok (.iastore, 1) := by decide +kernel
theorem dX12_badge_33 : decode cX12_badge 33 = .ok (.iconst 1, 1) := by decide +kernel
theorem dX12_badge_34 : decode cX12_badge 34 = .ok (.ireturn, 1) := by decide +kernel
theorem dX12_best_0 : decode cX12_best 0 = .ok (.aload_n 0, 1) := by decide +kernel
theorem dX12_best_1 : decode cX12_best 1 = .ok (.iconst 0, 1) := by decide +kernel
theorem dX12_best_2 : decode cX12_best 2 = .ok (.putfield 198, 3) := by decide +kernel
theorem dX12_best_5 : decode cX12_best 5 = .ok (.aload_n 0, 1) := by decide +kernel
theorem dX12_best_6 : decode cX12_best 6 = .ok (.invokevirtual 222, 3) := by decide +kernel
theorem dX12_best_9 : decode cX12_best 9 = .ok (.istore 6, 2) := by decide +kernel
theorem dX12_best_11 : decode cX12_best 11 = .ok (.iload 6, 2) := by decide +kernel
theorem dX12_best_13 : decode cX12_best 13 = .ok (.bipush 10, 2) := by decide +kernel
theorem dX12_best_15 : decode cX12_best 15 = .ok (.if_icmp .ne 51, 3) := by decide +kernel
theorem dX12_best_18 : decode cX12_best 18 = .ok (.iload_n 1, 1) := by decide +kernel
theorem dX12_best_19 : decode cX12_best 19 = .ok (.invokestatic 219, 3) := by decide +kernel
theorem dX12_best_22 : decode cX12_best 22 = .ok (.ifCond .eq 44, 3) := by decide +kernel
theorem dX12_best_25 : decode cX12_best 25 = .ok (.iload_n 2, 1) := by decide +kernel
theorem dX12_best_26 : decode cX12_best 26 = .ok (.invokestatic 236, 3) := by decide +kernel
theorem dX12_best_29 : decode cX12_best 29 = .ok (.ifCond .eq 37, 3) := by decide +kernel
theorem dX12_best_32 : decode cX12_best 32 = .ok (.iload_n 3, 1) := by decide +kernel
theorem dX12_best_33 : decode cX12_best 33 = .ok (.iconst 0, 1) := by decide +kernel
theorem dX12_best_34 : decode cX12_best 34 = .ok (.sipush 1000, 3) := by decide +kernel
theorem dX12_best_37 : decode cX12_best 37 = .ok (.invokestatic 211, 3) := by decide +kernel
theorem dX12_best_40 : decode cX12_best 40 = .ok (.ifCond .eq 26, 3) := by decide +kernel
theorem dX12_best_43 : decode cX12_best 43 = .ok (.iload 4, 2) := by decide +kernel
theorem dX12_best_45 : decode cX12_best 45 = .ok (.iconst 0, 1) := by decide +kernel
theorem dX12_best_46 : decode cX12_best 46 = .ok (.sipush 1000, 3) := by decide +kernel
theorem dX12_best_49 : decode cX12_best 49 = .ok (.invokestatic 211, 3) := by decide +kernel
theorem dX12_best_52 : decode cX12_best 52 = .ok (.ifCond .eq 14, 3) := by decide +kernel
theorem dX12_best_55 : decode cX12_best 55 = .ok (.iload 5, 2) := by decide +kernel
theorem dX12_best_57 : decode cX12_best 57 = .ok (.iconst 0, 1) := by decide +kernel
theorem dX12_best_58 : decode cX12_best 58 = .ok (.bipush 100, 2) := by decide +kernel
theorem dX12_best_60 : decode cX12_best 60 = .ok (.invokestatic 211, 3) := by decide +kernel
theorem dX12_best_63 : decode cX12_best 63 = .ok (.ifCond .ne 5, 3) := by decide +kernel
theorem dX12_best_66 : decode cX12_best 66 = .ok (.iconst (-1), 1) := by decide +kernel
theorem dX12_best_67 : decode cX12_best 67 = .ok (.ireturn, 1) := by decide +kernel
theorem dX12_best_68 : decode cX12_best 68 = .ok (.iconst 0, 1) := by decide +kernel
theorem dX12_best_69 : decode cX12_best 69 = .ok (.istore 7, 2) := by decide +kernel
theorem dX12_best_71 : decode cX12_best 71 = .ok (.iload 7, 2) := by decide +kernel
theorem dX12_best_73 : decode cX12_best 73 = .ok (.iload 6, 2) := by decide +kernel
theorem dX12_best_75 : decode cX12_best 75 = .ok (.if_icmp .ge 23, 3) := by decide +kernel
theorem dX12_best_78 : decode cX12_best 78 = .ok (.aload_n 0, 1) := by decide +kernel
theorem dX12_best_79 : decode cX12_best 79 = .ok (.getfield 7, 3) := by decide +kernel
theorem dX12_best_82 : decode cX12_best 82 = .ok (.iload 7, 2) := by decide +kernel
theorem dX12_best_84 : decode cX12_best 84 = .ok (.iaload, 1) := by decide +kernel
theorem dX12_best_85 : decode cX12_best 85 = .ok (.bipush 20, 2) := by decide +kernel
theorem dX12_best_87 : decode cX12_best 87 = .ok (.if_icmp .le 5, 3) := by decide +kernel
theorem dX12_best_90 : decode cX12_best 90 = .ok (.iconst (-1), 1) := by decide +kernel
theorem dX12_best_91 : decode cX12_best 91 = .ok (.ireturn, 1) := by decide +kernel
theorem dX12_best_92 : decode cX12_best 92 = .ok (.iinc 7 1, 3) := by decide +kernel
theorem dX12_best_95 : decode cX12_best 95 = .ok (.goto (-24), 3) := by decide +kernel
theorem dX12_best_98 : decode cX12_best 98 = .ok (.iconst 0, 1) := by decide +kernel
theorem dX12_best_99 : decode cX12_best 99 = .ok (.istore 7, 2) := by decide +kernel
theorem dX12_best_101 : decode cX12_best 101 = .ok (.lconst 0, 1) := by decide +kernel
theorem dX12_best_102 : decode cX12_best 102 = .ok (.lstore 8, 2) := by decide +kernel
theorem dX12_best_104 : decode cX12_best 104 = .ok (.iconst 0, 1) := by decide +kernel
theorem dX12_best_105 : decode cX12_best 105 = .ok (.istore 10, 2) := by decide +kernel
theorem dX12_best_107 : decode cX12_best 107 = .ok (.iload 10, 2) := by decide +kernel
theorem dX12_best_109 : decode cX12_best 109 = .ok (.sipush 400, 3) := by decide +kernel
theorem dX12_best_112 : decode cX12_best 112 = .ok (.if_icmp .gt 157, 3) := by decide +kernel
theorem dX12_best_115 : decode cX12_best 115 = .ok (.lconst 0, 1) := by decide +kernel
theorem dX12_best_116 : decode cX12_best 116 = .ok (.lstore 11, 2) := by decide +kernel
theorem dX12_best_118 : decode cX12_best 118 = .ok (.iconst 0, 1) := by decide +kernel
theorem dX12_best_119 : decode cX12_best 119 = .ok (.istore 13, 2) := by decide +kernel
theorem dX12_best_121 : decode cX12_best 121 = .ok (.iload 13, 2) := by decide +kernel
theorem dX12_best_123 : decode cX12_best 123 = .ok (.iconst 4, 1) := by decide +kernel
theorem dX12_best_124 : decode cX12_best 124 = .ok (.if_icmp .ge 115, 3) := by decide +kernel
theorem dX12_best_127 : decode cX12_best 127 = .ok (.iconst 0, 1) := by decide +kernel
theorem dX12_best_128 : decode cX12_best 128 = .ok (.istore 14, 2) := by decide +kernel
theorem dX12_best_130 : decode cX12_best 130 = .ok (.iload 14, 2) := by decide +kernel
theorem dX12_best_132 : decode cX12_best 132 = .ok (.bipush 6, 2) := by decide +kernel
theorem dX12_best_134 : decode cX12_best 134 = .ok (.if_icmp .ge 99, 3) := by decide +kernel
theorem dX12_best_137 : decode cX12_best 137 = .ok (.aload_n 0, 1) := by decide +kernel
theorem dX12_best_138 : decode cX12_best 138 = .ok (.iload_n 1, 1) := by decide +kernel
theorem dX12_best_139 : decode cX12_best 139 = .ok (.iload_n 2, 1) := by decide +kernel
theorem dX12_best_140 : decode cX12_best 140 = .ok (.iload 13, 2) := by decide +kernel
theorem dX12_best_142 : decode cX12_best 142 = .ok (.iload 14, 2) := by decide +kernel
theorem dX12_best_144 : decode cX12_best 144 = .ok (.invokevirtual 242, 3) := by decide +kernel
theorem dX12_best_147 : decode cX12_best 147 = .ok (.istore 15, 2) := by decide +kernel
theorem dX12_best_149 : decode cX12_best 149 = .ok (.iload 10, 2) := by decide +kernel
theorem dX12_best_151 : decode cX12_best 151 = .ok (.iload 15, 2) := by decide +kernel
theorem dX12_best_153 : decode cX12_best 153 = .ok (.if_icmp .ge 8, 3) := by decide +kernel
theorem dX12_best_156 : decode cX12_best 156 = .ok (.iload 10, 2) := by decide +kernel
theorem dX12_best_158 : decode cX12_best 158 = .ok (.goto 5, 3) := by decide +kernel
theorem dX12_best_161 : decode cX12_best 161 = .ok (.iload 15, 2) := by decide +kernel
theorem dX12_best_163 : decode cX12_best 163 = .ok (.istore 16, 2) := by decide +kernel
theorem dX12_best_165 : decode cX12_best 165 = .ok (.iload 4, 2) := by decide +kernel
theorem dX12_best_167 : decode cX12_best 167 = .ok (.i2l, 1) := by decide +kernel
theorem dX12_best_168 : decode cX12_best 168 = .ok (.iload 16, 2) := by decide +kernel
theorem dX12_best_170 : decode cX12_best 170 = .ok (.i2l, 1) := by decide +kernel
theorem dX12_best_171 : decode cX12_best 171 = .ok (.lmul, 1) := by decide +kernel
theorem dX12_best_172 : decode cX12_best 172 = .ok (.iload 10, 2) := by decide +kernel
theorem dX12_best_174 : decode cX12_best 174 = .ok (.iload_n 3, 1) := by decide +kernel
theorem dX12_best_175 : decode cX12_best 175 = .ok (.invokestatic 399, 3) := by decide +kernel
theorem dX12_best_178 : decode cX12_best 178 = .ok (.i2l, 1) := by decide +kernel
theorem dX12_best_179 : decode cX12_best 179 = .ok (.lsub, 1) := by decide +kernel
theorem dX12_best_180 : decode cX12_best 180 = .ok (.iload 10, 2) := by decide +kernel
theorem dX12_best_182 : decode cX12_best 182 = .ok (.iload 16, 2) := by decide +kernel
theorem dX12_best_184 : decode cX12_best 184 = .ok (.isub, 1) := by decide +kernel
theorem dX12_best_185 : decode cX12_best 185 = .ok (.iload 5, 2) := by decide +kernel
theorem dX12_best_187 : decode cX12_best 187 = .ok (.imul, 1) := by decide +kernel
theorem dX12_best_188 : decode cX12_best 188 = .ok (.bipush 100, 2) := by decide +kernel
theorem dX12_best_190 : decode cX12_best 190 = .ok (.idiv, 1) := by decide +kernel
theorem dX12_best_191 : decode cX12_best 191 = .ok (.iload_n 3, 1) := by decide +kernel
theorem dX12_best_192 : decode cX12_best 192 = .ok (.imul, 1) := by decide +kernel
theorem dX12_best_193 : decode cX12_best 193 = .ok (.bipush 100, 2) := by decide +kernel
theorem dX12_best_195 : decode cX12_best 195 = .ok (.idiv, 1) := by decide +kernel
theorem dX12_best_196 : decode cX12_best 196 = .ok (.i2l, 1) := by decide +kernel
theorem dX12_best_197 : decode cX12_best 197 = .ok (.ladd, 1) := by decide +kernel
theorem dX12_best_198 : decode cX12_best 198 = .ok (.lstore 17, 2) := by decide +kernel
theorem dX12_best_200 : decode cX12_best 200 = .ok (.lload 11, 2) := by decide +kernel
theorem dX12_best_202 : decode cX12_best 202 = .ok (.lload 17, 2) := by decide +kernel
theorem dX12_best_204 : decode cX12_best 204 = .ok (.aload_n 0, 1) := by decide +kernel
theorem dX12_best_205 : decode cX12_best 205 = .ok (.getfield 7, 3) := by decide +kernel
theorem dX12_best_208 : decode cX12_best 208 = .ok (.iload 13, 2) := by decide +kernel
theorem dX12_best_210 : decode cX12_best 210 = .ok (.iaload, 1) := by decide +kernel
theorem dX12_best_211 : decode cX12_best 211 = .ok (.i2l, 1) := by decide +kernel
theorem dX12_best_212 : decode cX12_best 212 = .ok (.lmul, 1) := by decide +kernel
theorem dX12_best_213 : decode cX12_best 213 = .ok (.aload_n 0, 1) := by decide +kernel
theorem dX12_best_214 : decode cX12_best 214 = .ok (.getfield 7, 3) := by decide +kernel
theorem dX12_best_217 : decode cX12_best 217 = .ok (.iconst 4, 1) := by decide +kernel
theorem dX12_best_218 : decode cX12_best 218 = .ok (.iload 14, 2) := by decide +kernel
theorem dX12_best_220 : decode cX12_best 220 = .ok (.iadd, 1) := by decide +kernel
theorem dX12_best_221 : decode cX12_best 221 = .ok (.iaload, 1) := by decide +kernel
theorem dX12_best_222 : decode cX12_best 222 = .ok (.i2l, 1) := by decide +kernel
theorem dX12_best_223 : decode cX12_best 223 = .ok (.lmul, 1) := by decide +kernel
theorem dX12_best_224 : decode cX12_best 224 = .ok (.ladd, 1) := by decide +kernel
theorem dX12_best_225 : decode cX12_best 225 = .ok (.lstore 11, 2) := by decide +kernel
theorem dX12_best_227 : decode cX12_best 227 = .ok (.iinc 14 1, 3) := by decide +kernel
theorem dX12_best_230 : decode cX12_best 230 = .ok (.goto (-100), 3) := by decide +kernel
theorem dX12_best_233 : decode cX12_best 233 = .ok (.iinc 13 1, 3) := by decide +kernel
theorem dX12_best_236 : decode cX12_best 236 = .ok (.goto (-115), 3) := by decide +kernel
theorem dX12_best_239 : decode cX12_best 239 = .ok (.iload 10, 2) := by decide +kernel
theorem dX12_best_241 : decode cX12_best 241 = .ok (.ifCond .le 14, 3) := by decide +kernel
theorem dX12_best_244 : decode cX12_best 244 = .ok (.lload 11, 2) := by decide +kernel
theorem dX12_best_246 : decode cX12_best 246 = .ok (.lload 8, 2) := by decide +kernel
theorem dX12_best_248 : decode cX12_best 248 = .ok (.lcmp, 1) := by decide +kernel
theorem dX12_best_249 : decode cX12_best 249 = .ok (.ifCond .gt 6, 3) := by decide +kernel
theorem dX12_best_252 : decode cX12_best 252 = .ok (.goto 11, 3) := by decide +kernel
theorem dX12_best_255 : decode cX12_best 255 = .ok (.lload 11, 2) := by decide +kernel
theorem dX12_best_257 : decode cX12_best 257 = .ok (.lstore 8, 2) := by decide +kernel
theorem dX12_best_259 : decode cX12_best 259 = .ok (.iload 10, 2) := by decide +kernel
theorem dX12_best_261 : decode cX12_best 261 = .ok (.istore 7, 2) := by decide +kernel
theorem dX12_best_263 : decode cX12_best 263 = .ok (.iinc 10 1, 3) := by decide +kernel
theorem dX12_best_266 : decode cX12_best 266 = .ok (.goto (-159), 3) := by decide +kernel
theorem dX12_best_269 : decode cX12_best 269 = .ok (.aload_n 0, 1) := by decide +kernel
theorem dX12_best_270 : decode cX12_best 270 = .ok (.lload 8, 2) := by decide +kernel
theorem dX12_best_272 : decode cX12_best 272 = .ok (.putfield 434, 3) := by decide +kernel
theorem dX12_best_275 : decode cX12_best 275 = .ok (.iload 7, 2) := by decide +kernel
theorem dX12_best_277 : decode cX12_best 277 = .ok (.ireturn, 1) := by decide +kernel
theorem dX12_boy_0 : decode cX12_boy 0 = .ok (.aload_n 0, 1) := by decide +kernel
theorem dX12_boy_1 : decode cX12_boy 1 = .ok (.iconst 0, 1) := by decide +kernel
theorem dX12_boy_2 : decode cX12_boy 2 = .ok (.putfield 198, 3) := by decide +kernel
theorem dX12_boy_5 : decode cX12_boy 5 = .ok (.aload_n 0, 1) := by decide +kernel
theorem dX12_boy_6 : decode cX12_boy 6 = .ok (.getfield 208, 3) := by decide +kernel
theorem dX12_boy_9 : decode cX12_boy 9 = .ok (.bipush 40, 2) := by decide +kernel
theorem dX12_boy_11 : decode cX12_boy 11 = .ok (.if_icmp .eq 36, 3) := by decide +kernel
theorem dX12_boy_14 : decode cX12_boy 14 = .ok (.iload_n 1, 1) := by decide +kernel
theorem dX12_boy_15 : decode cX12_boy 15 = .ok (.bipush 6, 2) := by decide +kernel
theorem dX12_boy_17 : decode cX12_boy 17 = .ok (.bipush 18, 2) := by decide +kernel
theorem dX12_boy_19 : decode cX12_boy 19 = .ok (.invokestatic 211, 3) := by decide +kernel
theorem dX12_boy_22 : decode cX12_boy 22 = .ok (.ifCond .eq 25, 3) := by decide +kernel
theorem dX12_boy_25 : decode cX12_boy 25 = .ok (.iload_n 3, 1) := by decide +kernel
theorem dX12_boy_26 : decode cX12_boy 26 = .ok (.iconst (-1), 1) := by decide +kernel
theorem dX12_boy_27 : decode cX12_boy 27 = .ok (.sipush 399, 3) := by decide +kernel
theorem dX12_boy_30 : decode cX12_boy 30 = .ok (.invokestatic 211, 3) := by decide +kernel
theorem dX12_boy_33 : decode cX12_boy 33 = .ok (.ifCond .eq 14, 3) := by decide +kernel
theorem dX12_boy_36 : decode cX12_boy 36 = .ok (.iload 4, 2) := by decide +kernel
theorem dX12_boy_38 : decode cX12_boy 38 = .ok (.iconst 0, 1) := by decide +kernel
theorem dX12_boy_39 : decode cX12_boy 39 = .ok (.bipush 99, 2) := by decide +kernel
theorem dX12_boy_41 : decode cX12_boy 41 = .ok (.invokestatic 211, 3) := by decide +kernel
theorem dX12_boy_44 : decode cX12_boy 44 = .ok (.ifCond .ne 5, 3) := by decide +kernel
theorem dX12_boy_47 : decode cX12_boy 47 = .ok (.iconst (-1), 1) := by decide +kernel
theorem dX12_boy_48 : decode cX12_boy 48 = .ok (.ireturn, 1) := by decide +kernel
theorem dX12_boy_49 : decode cX12_boy 49 = .ok (.aload_n 0, 1) := by decide +kernel
theorem dX12_boy_50 : decode cX12_boy 50 = .ok (.getfield 13, 3) := by decide +kernel
theorem dX12_boy_53 : decode cX12_boy 53 = .ok (.aload_n 0, 1) := by decide +kernel
theorem dX12_boy_54 : decode cX12_boy 54 = .ok (.getfield 208, 3) := by decide +kernel
theorem dX12_boy_57 : decode cX12_boy 57 = .ok (.iload_n 1, 1) := by decide +kernel
theorem dX12_boy_58 : decode cX12_boy 58 = .ok (.iastore, 1) := by decide +kernel
theorem dX12_boy_59 : decode cX12_boy 59 = .ok (.aload_n 0, 1) := by decide +kernel
theorem dX12_boy_60 : decode cX12_boy 60 = .ok (.getfield 25, 3) := by decide +kernel
theorem dX12_boy_63 : decode cX12_boy 63 = .ok (.aload_n 0, 1) := by decide +kernel
theorem dX12_boy_64 : decode cX12_boy 64 = .ok (.getfield 208, 3) := by decide +kernel
theorem dX12_boy_67 : decode cX12_boy 67 = .ok (.iload_n 2, 1) := by decide +kernel
theorem dX12_boy_68 : decode cX12_boy 68 = .ok (.bastore, 1) := by decide +kernel
theorem dX12_boy_69 : decode cX12_boy 69 = .ok (.aload_n 0, 1) := by decide +kernel
theorem dX12_boy_70 : decode cX12_boy 70 = .ok (.getfield 16, 3) := by decide +kernel
theorem dX12_boy_73 : decode cX12_boy 73 = .ok (.aload_n 0, 1) := by decide +kernel
theorem dX12_boy_74 : decode cX12_boy 74 = .ok (.getfield 208, 3) := by decide +kernel
theorem dX12_boy_77 : decode cX12_boy 77 = .ok (.iload_n 3, 1) := by decide +kernel
theorem dX12_boy_78 : decode cX12_boy 78 = .ok (.iastore, 1) := by decide +kernel
theorem dX12_boy_79 : decode cX12_boy 79 = .ok (.aload_n 0, 1) := by decide +kernel
theorem dX12_boy_80 : decode cX12_boy 80 = .ok (.getfield 19, 3) := by decide +kernel
theorem dX12_boy_83 : decode cX12_boy 83 = .ok (.aload_n 0, 1) := by decide +kernel
theorem dX12_boy_84 : decode cX12_boy 84 = .ok (.getfield 208, 3) := by decide +kernel
theorem dX12_boy_87 : decode cX12_boy 87 = .ok (.iload 4, 2) := by decide +kernel
theorem dX12_boy_89 : decode cX12_boy 89 = .ok (.iastore, 1) := by decide +kernel
theorem dX12_boy_90 : decode cX12_boy 90 = .ok (.aload_n 0, 1) := by decide +kernel
theorem dX12_boy_91 : decode cX12_boy 91 = .ok (.dup, 1) := by decide +kernel
theorem dX12_boy_92 : decode cX12_boy 92 = .ok (.getfield 208, 3) := by decide +kernel
theorem dX12_boy_95 : decode cX12_boy 95 = .ok (.iconst 1, 1) := by decide +kernel
theorem dX12_boy_96 : decode cX12_boy 96 = .ok (.iadd, 1) := by decide +kernel
theorem dX12_boy_97 : decode cX12_boy 97 = .ok (.putfield 208, 3) := by decide +kernel
theorem dX12_boy_100 : decode cX12_boy 100 = .ok (.aload_n 0, 1) := by decide +kernel
theorem dX12_boy_101 : decode cX12_boy 101 = .ok (.getfield 208, 3) := by decide +kernel
theorem dX12_boy_104 : decode cX12_boy 104 = .ok (.iconst 1, 1) := by decide +kernel
theorem dX12_boy_105 : decode cX12_boy 105 = .ok (.isub, 1) := by decide +kernel
theorem dX12_boy_106 : decode cX12_boy 106 = .ok (.ireturn, 1) := by decide +kernel
theorem dX12_byteAt_0 : decode cX12_byteAt 0 = .ok (.iload_n 1, 1) := by decide +kernel
theorem dX12_byteAt_1 : decode cX12_byteAt 1 = .ok (.aload_n 0, 1) := by decide +kernel
theorem dX12_byteAt_2 : decode cX12_byteAt 2 = .ok (.getfield 253, 3) := by decide +kernel
theorem dX12_byteAt_5 : decode cX12_byteAt 5 = .ok (.if_icmp .ge 12, 3) := by decide +kernel
theorem dX12_byteAt_8 : decode cX12_byteAt 8 = .ok (.aload_n 0, 1) := by decide +kernel
theorem dX12_byteAt_9 : decode cX12_byteAt 9 = .ok (.getfield 7, 3) := by decide +kernel
theorem dX12_byteAt_12 : decode cX12_byteAt 12 = .ok (.iload_n 1, 1) := by decide +kernel
theorem dX12_byteAt_13 : decode cX12_byteAt 13 = .ok (.iaload, 1) := by decide +kernel
theorem dX12_byteAt_14 : decode cX12_byteAt 14 = .ok (.goto 4, 3) := by decide +kernel
theorem dX12_byteAt_17 : decode cX12_byteAt 17 = .ok (.iconst 0, 1) := by decide +kernel
theorem dX12_byteAt_18 : decode cX12_byteAt 18 = .ok (.ireturn, 1) := by decide +kernel
theorem dX12_cameBack_0 : decode cX12_cameBack 0 = .ok (.iconst 0, 1) := by decide +kernel
theorem dX12_cameBack_1 : decode cX12_cameBack 1 = .ok (.istore 4, 2) := by decide +kernel
theorem dX12_cameBack_3 : decode cX12_cameBack 3 = .ok (.iconst 0, 1) := by decide +kernel
theorem dX12_cameBack_4 : decode cX12_cameBack 4 = .ok (.istore 5, 2) := by decide +kernel
theorem dX12_cameBack_6 : decode cX12_cameBack 6 = .ok (.iload 5, 2) := by decide +kernel
theorem dX12_cameBack_8 : decode cX12_cameBack 8 = .ok (.aload_n 0, 1) := by decide +kernel
theorem dX12_cameBack_9 : decode cX12_cameBack 9 = .ok (.getfield 389, 3) := by decide +kernel
theorem dX12_cameBack_12 : decode cX12_cameBack 12 = .ok (.if_icmp .ge 54, 3) := by decide +kernel
theorem dX12_cameBack_15 : decode cX12_cameBack 15 = .ok (.aload_n 0, 1) := by decide +kernel
theorem dX12_cameBack_16 : decode cX12_cameBack 16 = .ok (.getfield 105, 3) := by decide +kernel
theorem dX12_cameBack_19 : decode cX12_cameBack 19 = .ok (.iload 5, 2) := by decide +kernel
theorem dX12_cameBack_21 : decode cX12_cameBack 21 = .ok (.iaload, 1) := by decide +kernel
theorem dX12_cameBack_22 : decode cX12_cameBack 22 = .ok (.iload_n 3, 1) := by decide +kernel
theorem dX12_cameBack_23 : decode cX12_cameBack 23 = .ok (.if_icmp .ne 37, 3) := by decide +kernel
theorem dX12_cameBack_26 : decode cX12_cameBack 26 = .ok (.aload_n 0, 1) := by decide +kernel
theorem dX12_cameBack_27 : decode cX12_cameBack 27 = .ok (.getfield 93, 3) := by decide +kernel
theorem dX12_cameBack_30 : decode cX12_cameBack 30 = .ok (.iload 5, 2) := by decide +kernel
theorem dX12_cameBack_32 : decode cX12_cameBack 32 = .ok (.iaload, 1) := by decide +kernel
theorem dX12_cameBack_33 : decode cX12_cameBack 33 = .ok (.iload_n 1, 1) := by decide +kernel
theorem dX12_cameBack_34 : decode cX12_cameBack 34 = .ok (.if_icmp .ne 26, 3) := by decide +kernel
theorem dX12_cameBack_37 : decode cX12_cameBack 37 = .ok (.aload_n 0, 1) := by decide +kernel
theorem dX12_cameBack_38 : decode cX12_cameBack 38 = .ok (.getfield 96, 3) := by decide +kernel
theorem dX12_cameBack_41 : decode cX12_cameBack 41 = .ok (.iload 5, 2) := by decide +kernel
theorem dX12_cameBack_43 : decode cX12_cameBack 43 = .ok (.iaload, 1) := by decide +kernel
theorem dX12_cameBack_44 : decode cX12_cameBack 44 = .ok (.iload_n 2, 1) := by decide +kernel
theorem dX12_cameBack_45 : decode cX12_cameBack 45 = .ok (.if_icmp .ne 15, 3) := by decide +kernel
theorem dX12_cameBack_48 : decode cX12_cameBack 48 = .ok (.iload 4, 2) := by decide +kernel
theorem dX12_cameBack_50 : decode cX12_cameBack 50 = .ok (.aload_n 0, 1) := by decide +kernel
theorem dX12_cameBack_51 : decode cX12_cameBack 51 = .ok (.getfield 114, 3) := by decide +kernel
theorem dX12_cameBack_54 : decode cX12_cameBack 54 = .ok (.iload 5, 2) := by decide +kernel
theorem dX12_cameBack_56 : decode cX12_cameBack 56 = .ok (.iaload, 1) := by decide +kernel
theorem dX12_cameBack_57 : decode cX12_cameBack 57 = .ok (.iadd, 1) := by decide +kernel
theorem dX12_cameBack_58 : decode cX12_cameBack 58 = .ok (.istore 4, 2) := by decide +kernel
theorem dX12_cameBack_60 : decode cX12_cameBack 60 = .ok (.iinc 5 1, 3) := by decide +kernel
theorem dX12_cameBack_63 : decode cX12_cameBack 63 = .ok (.goto (-57), 3) := by decide +kernel
theorem dX12_cameBack_66 : decode cX12_cameBack 66 = .ok (.iload 4, 2) := by decide +kernel
theorem dX12_cameBack_68 : decode cX12_cameBack 68 = .ok (.ireturn, 1) := by decide +kernel
theorem dX12_coin_0 : decode cX12_coin 0 = .ok (.aload_n 0, 1) := by decide +kernel
theorem dX12_coin_1 : decode cX12_coin 1 = .ok (.iload_n 1, 1) := by decide +kernel
theorem dX12_coin_2 : decode cX12_coin 2 = .ok (.invokevirtual 215, 3) := by decide +kernel
theorem dX12_coin_5 : decode cX12_coin 5 = .ok (.ifCond .ne 8, 3) := by decide +kernel
theorem dX12_coin_8 : decode cX12_coin 8 = .ok (.aload_n 0, 1) := by decide +kernel
theorem dX12_coin_9 : decode cX12_coin 9 = .ok (.invokevirtual 418, 3) := by decide +kernel
theorem dX12_coin_12 : decode cX12_coin 12 = .ok (.ireturn, 1) := by decide +kernel
theorem dX12_coin_13 : decode cX12_coin 13 = .ok (.aload_n 0, 1) := by decide +kernel
theorem dX12_coin_14 : decode cX12_coin 14 = .ok (.iconst 0, 1) := by decide +kernel
theorem dX12_coin_15 : decode cX12_coin 15 = .ok (.putfield 198, 3) := by decide +kernel
theorem dX12_coin_18 : decode cX12_coin 18 = .ok (.aload_n 0, 1) := by decide +kernel
theorem dX12_coin_19 : decode cX12_coin 19 = .ok (.getfield 22, 3) := by decide +kernel
theorem dX12_coin_22 : decode cX12_coin 22 = .ok (.iload_n 1, 1) := by decide +kernel
theorem dX12_coin_23 : decode cX12_coin 23 = .ok (.iaload, 1) := by decide +kernel
theorem dX12_coin_24 : decode cX12_coin 24 = .ok (.ireturn, 1) := by decide +kernel
theorem dX12_come_0 : decode cX12_come 0 = .ok (.bipush 24, 2) := by decide +kernel
theorem dX12_come_2 : decode cX12_come 2 = .ok (.istore_n 2, 1) := by decide +kernel
theorem dX12_come_3 : decode cX12_come 3 = .ok (.iload_n 2, 1) := by decide +kernel
theorem dX12_come_4 : decode cX12_come 4 = .ok (.ifCond .lt 35, 3) := by decide +kernel
theorem dX12_come_7 : decode cX12_come 7 = .ok (.aload_n 0, 1) := by decide +kernel
theorem dX12_come_8 : decode cX12_come 8 = .ok (.getfield 7, 3) := by decide +kernel
theorem dX12_come_11 : decode cX12_come 11 = .ok (.aload_n 0, 1) := by decide +kernel
theorem dX12_come_12 : decode cX12_come 12 = .ok (.getfield 201, 3) := by decide +kernel
theorem dX12_come_15 : decode cX12_come 15 = .ok (.iload_n 1, 1) := by decide +kernel
theorem dX12_come_16 : decode cX12_come 16 = .ok (.iload_n 2, 1) := by decide +kernel
theorem dX12_come_17 : decode cX12_come 17 = .ok (.iushr, 1) := by decide +kernel
theorem dX12_come_18 : decode cX12_come 18 = .ok (.sipush 255, 3) := by decide +kernel
theorem dX12_come_21 : decode cX12_come 21 = .ok (.iand, 1) := by decide +kernel
theorem dX12_come_22 : decode cX12_come 22 = .ok (.iastore, 1) := by decide +kernel
theorem dX12_come_23 : decode cX12_come 23 = .ok (.aload_n 0, 1) := by decide +kernel
theorem dX12_come_24 : decode cX12_come 24 = .ok (.dup, 1) := by decide +kernel
theorem dX12_come_25 : decode cX12_come 25 = .ok (.getfield 201, 3) := by decide +kernel
theorem dX12_come_28 : decode cX12_come 28 = .ok (.iconst 1, 1) := by decide +kernel
theorem dX12_come_29 : decode cX12_come 29 = .ok (.iadd, 1) := by decide +kernel
theorem dX12_come_30 : decode cX12_come 30 = .ok (.putfield 201, 3) := by decide +kernel
theorem dX12_come_33 : decode cX12_come 33 = .ok (.iinc 2 (-8), 3) := by decide +kernel
theorem dX12_come_36 : decode cX12_come 36 = .ok (.goto (-33), 3) := by decide +kernel
theorem dX12_come_39 : decode cX12_come 39 = .ok (.return_, 1) := by decide +kernel
theorem dX12_cost_0 : decode cX12_cost 0 = .ok (.iload_n 0, 1) := by decide +kernel
theorem dX12_cost_1 : decode cX12_cost 1 = .ok (.iload_n 1, 1) := by decide +kernel
theorem dX12_cost_2 : decode cX12_cost 2 = .ok (.imul, 1) := by decide +kernel
theorem dX12_cost_3 : decode cX12_cost 3 = .ok (.bipush 99, 2) := by decide +kernel
theorem dX12_cost_5 : decode cX12_cost 5 = .ok (.iadd, 1) := by decide +kernel
theorem dX12_cost_6 : decode cX12_cost 6 = .ok (.bipush 100, 2) := by decide +kernel
theorem dX12_cost_8 : decode cX12_cost 8 = .ok (.idiv, 1) := by decide +kernel
theorem dX12_cost_9 : decode cX12_cost 9 = .ok (.ireturn, 1) := by decide +kernel
theorem dX12_count_0 : decode cX12_count 0 = .ok (.aload_n 0, 1) := by decide +kernel
theorem dX12_count_1 : decode cX12_count 1 = .ok (.iconst 0, 1) := by decide +kernel
theorem dX12_count_2 : decode cX12_count 2 = .ok (.putfield 198, 3) := by decide +kernel
theorem dX12_count_5 : decode cX12_count 5 = .ok (.iload_n 1, 1) := by decide +kernel
theorem dX12_count_6 : decode cX12_count 6 = .ok (.tableswitch 68 0 5 #[38, 43, 48, 53, 58, 63], 38) := by decide +kernel
theorem dX12_count_44 : decode cX12_count 44 = .ok (.aload_n 0, 1) := by decide +kernel
theorem dX12_count_45 : decode cX12_count 45 = .ok (.getfield 239, 3) := by decide +kernel
theorem dX12_count_48 : decode cX12_count 48 = .ok (.ireturn, 1) := by decide +kernel
theorem dX12_count_49 : decode cX12_count 49 = .ok (.aload_n 0, 1) := by decide +kernel
theorem dX12_count_50 : decode cX12_count 50 = .ok (.getfield 208, 3) := by decide +kernel
theorem dX12_count_53 : decode cX12_count 53 = .ok (.ireturn, 1) := by decide +kernel
theorem dX12_count_54 : decode cX12_count 54 = .ok (.aload_n 0, 1) := by decide +kernel
theorem dX12_count_55 : decode cX12_count 55 = .ok (.getfield 389, 3) := by decide +kernel
theorem dX12_count_58 : decode cX12_count 58 = .ok (.ireturn, 1) := by decide +kernel
theorem dX12_count_59 : decode cX12_count 59 = .ok (.aload_n 0, 1) := by decide +kernel
theorem dX12_count_60 : decode cX12_count 60 = .ok (.getfield 373, 3) := by decide +kernel
theorem dX12_count_63 : decode cX12_count 63 = .ok (.ireturn, 1) := by decide +kernel
theorem dX12_count_64 : decode cX12_count 64 = .ok (.aload_n 0, 1) := by decide +kernel
theorem dX12_count_65 : decode cX12_count 65 = .ok (.getfield 421, 3) := by decide +kernel
theorem dX12_count_68 : decode cX12_count 68 = .ok (.ireturn, 1) := by decide +kernel
theorem dX12_count_69 : decode cX12_count 69 = .ok (.aload_n 0, 1) := by decide +kernel
theorem dX12_count_70 : decode cX12_count 70 = .ok (.getfield 201, 3) := by decide +kernel
theorem dX12_count_73 : decode cX12_count 73 = .ok (.ireturn, 1) := by decide +kernel
theorem dX12_count_74 : decode cX12_count 74 = .ok (.iconst (-1), 1) := by decide +kernel
theorem dX12_count_75 : decode cX12_count 75 = .ok (.ireturn, 1) := by decide +kernel
theorem dX12_countOf_0 : decode cX12_countOf 0 = .ok (.iconst (-1), 1) := by decide +kernel
theorem dX12_countOf_1 : decode cX12_countOf 1 = .ok (.istore 5, 2) := by decide +kernel
theorem dX12_countOf_3 : decode cX12_countOf 3 = .ok (.iconst 0, 1) := by decide +kernel
theorem dX12_countOf_4 : decode cX12_countOf 4 = .ok (.istore 6, 2) := by decide +kernel
theorem dX12_countOf_6 : decode cX12_countOf 6 = .ok (.iload 6, 2) := by decide +kernel
theorem dX12_countOf_8 : decode cX12_countOf 8 = .ok (.aload_n 0, 1) := by decide +kernel
theorem dX12_countOf_9 : decode cX12_countOf 9 = .ok (.getfield 421, 3) := by decide +kernel
theorem dX12_countOf_12 : decode cX12_countOf 12 = .ok (.if_icmp .ge 58, 3) := by decide +kernel
theorem dX12_countOf_15 : decode cX12_countOf 15 = .ok (.aload_n 0, 1) := by decide +kernel
theorem dX12_countOf_16 : decode cX12_countOf 16 = .ok (.getfield 147, 3) := by decide +kernel
theorem dX12_countOf_19 : decode cX12_countOf 19 = .ok (.iload 6, 2) := by decide +kernel
theorem dX12_countOf_21 : decode cX12_countOf 21 = .ok (.iaload, 1) := by decide +kernel
theorem dX12_countOf_22 : decode cX12_countOf 22 = .ok (.iload 4, 2) := by decide +kernel
theorem dX12_countOf_24 : decode cX12_countOf 24 = .ok (.if_icmp .gt 40, 3) := by decide +kernel
theorem dX12_countOf_27 : decode cX12_countOf 27 = .ok (.aload_n 0, 1) := by decide +kernel
theorem dX12_countOf_28 : decode cX12_countOf 28 = .ok (.getfield 135, 3) := by decide +kernel
theorem dX12_countOf_31 : decode cX12_countOf 31 = .ok (.iload 6, 2) := by decide +kernel
theorem dX12_countOf_33 : decode cX12_countOf 33 = .ok (.iaload, 1) := by decide +kernel
theorem dX12_countOf_34 : decode cX12_countOf 34 = .ok (.iload_n 1, 1) := by decide +kernel
theorem dX12_countOf_35 : decode cX12_countOf 35 = .ok (.if_icmp .ne 29, 3) := by decide +kernel
theorem dX12_countOf_38 : decode cX12_countOf 38 = .ok (.aload_n 0, 1) := by decide +kernel
theorem dX12_countOf_39 : decode cX12_countOf 39 = .ok (.getfield 138, 3) := by decide +kernel
theorem dX12_countOf_42 : decode cX12_countOf 42 = .ok (.iload 6, 2) := by decide +kernel
theorem dX12_countOf_44 : decode cX12_countOf 44 = .ok (.iaload, 1) := by decide +kernel
theorem dX12_countOf_45 : decode cX12_countOf 45 = .ok (.iload_n 2, 1) := by decide +kernel
theorem dX12_countOf_46 : decode cX12_countOf 46 = .ok (.if_icmp .ne 18, 3) := by decide +kernel
theorem dX12_countOf_49 : decode cX12_countOf 49 = .ok (.aload_n 0, 1) := by decide +kernel
theorem dX12_countOf_50 : decode cX12_countOf 50 = .ok (.getfield 141, 3) := by decide +kernel
theorem dX12_countOf_53 : decode cX12_countOf 53 = .ok (.iload 6, 2) := by decide +kernel
theorem dX12_countOf_55 : decode cX12_countOf 55 = .ok (.iaload, 1) := by decide +kernel
theorem dX12_countOf_56 : decode cX12_countOf 56 = .ok (.iload_n 3, 1) := by decide +kernel
theorem dX12_countOf_57 : decode cX12_countOf 57 = .ok (.if_icmp .ne 7, 3) := by decide +kernel
theorem dX12_countOf_60 : decode cX12_countOf 60 = .ok (.iload 6, 2) := by decide +kernel
theorem dX12_countOf_62 : decode cX12_countOf 62 = .ok (.istore 5, 2) := by decide +kernel
theorem dX12_countOf_64 : decode cX12_countOf 64 = .ok (.iinc 6 1, 3) := by decide +kernel
theorem dX12_countOf_67 : decode cX12_countOf 67 = .ok (.goto (-61), 3) := by decide +kernel
theorem dX12_countOf_70 : decode cX12_countOf 70 = .ok (.iload 5, 2) := by decide +kernel
theorem dX12_countOf_72 : decode cX12_countOf 72 = .ok (.ireturn, 1) := by decide +kernel
theorem dX12_counted_0 : decode cX12_counted 0 = .ok (.aload_n 0, 1) := by decide +kernel
theorem dX12_counted_1 : decode cX12_counted 1 = .ok (.iconst 0, 1) := by decide +kernel
theorem dX12_counted_2 : decode cX12_counted 2 = .ok (.putfield 198, 3) := by decide +kernel
theorem dX12_counted_5 : decode cX12_counted 5 = .ok (.aload_n 0, 1) := by decide +kernel
theorem dX12_counted_6 : decode cX12_counted 6 = .ok (.getfield 421, 3) := by decide +kernel
theorem dX12_counted_9 : decode cX12_counted 9 = .ok (.bipush 60, 2) := by decide +kernel
theorem dX12_counted_11 : decode cX12_counted 11 = .ok (.if_icmp .eq 43, 3) := by decide +kernel
theorem dX12_counted_14 : decode cX12_counted 14 = .ok (.iload_n 1, 1) := by decide +kernel
theorem dX12_counted_15 : decode cX12_counted 15 = .ok (.invokestatic 236, 3) := by decide +kernel
theorem dX12_counted_18 : decode cX12_counted 18 = .ok (.ifCond .eq 36, 3) := by decide +kernel
theorem dX12_counted_21 : decode cX12_counted 21 = .ok (.iload_n 2, 1) := by decide +kernel
theorem dX12_counted_22 : decode cX12_counted 22 = .ok (.invokestatic 219, 3) := by decide +kernel
theorem dX12_counted_25 : decode cX12_counted 25 = .ok (.ifCond .eq 29, 3) := by decide +kernel
theorem dX12_counted_28 : decode cX12_counted 28 = .ok (.iload_n 3, 1) := by decide +kernel
theorem dX12_counted_29 : decode cX12_counted 29 = .ok (.iconst 0, 1) := by decide +kernel
theorem dX12_counted_30 : decode cX12_counted 30 = .ok (.aload_n 0, 1) := by decide +kernel
theorem dX12_counted_31 : decode cX12_counted 31 = .ok (.getfield 239, 3) := by decide +kernel
theorem dX12_counted_34 : decode cX12_counted 34 = .ok (.iconst 1, 1) := by decide +kernel
theorem dX12_counted_35 : decode cX12_counted 35 = .ok (.isub, 1) := by decide +kernel
theorem dX12_counted_36 : decode cX12_counted 36 = .ok (.invokestatic 211, 3) := by decide +kernel
theorem dX12_counted_39 : decode cX12_counted 39 = .ok (.ifCond .eq 15, 3) := by decide +kernel
theorem dX12_counted_42 : decode cX12_counted 42 = .ok (.iload 4, 2) := by decide +kernel
theorem dX12_counted_44 : decode cX12_counted 44 = .ok (.iconst 0, 1) := by decide +kernel
theorem dX12_counted_45 : decode cX12_counted 45 = .ok (.sipush 10000, 3) := by decide +kernel
theorem dX12_counted_48 : decode cX12_counted 48 = .ok (.invokestatic 211, 3) := by decide +kernel
theorem dX12_counted_51 : decode cX12_counted 51 = .ok (.ifCond .ne 5, 3) := by decide +kernel
theorem dX12_counted_54 : decode cX12_counted 54 = .ok (.iconst (-1), 1) := by decide +kernel
theorem dX12_counted_55 : decode cX12_counted 55 = .ok (.ireturn, 1) := by decide +kernel
theorem dX12_counted_56 : decode cX12_counted 56 = .ok (.aload_n 0, 1) := by decide +kernel
theorem dX12_counted_57 : decode cX12_counted 57 = .ok (.getfield 135, 3) := by decide +kernel
theorem dX12_counted_60 : decode cX12_counted 60 = .ok (.aload_n 0, 1) := by decide +kernel
theorem dX12_counted_61 : decode cX12_counted 61 = .ok (.getfield 421, 3) := by decide +kernel
theorem dX12_counted_64 : decode cX12_counted 64 = .ok (.iload_n 1, 1) := by decide +kernel
theorem dX12_counted_65 : decode cX12_counted 65 = .ok (.iastore, 1) := by decide +kernel
theorem dX12_counted_66 : decode cX12_counted 66 = .ok (.aload_n 0, 1) := by decide +kernel
theorem dX12_counted_67 : decode cX12_counted 67 = .ok (.getfield 138, 3) := by decide +kernel
theorem dX12_counted_70 : decode cX12_counted 70 = .ok (.aload_n 0, 1) := by decide +kernel
theorem dX12_counted_71 : decode cX12_counted 71 = .ok (.getfield 421, 3) := by decide +kernel
theorem dX12_counted_74 : decode cX12_counted 74 = .ok (.iload_n 2, 1) := by decide +kernel
theorem dX12_counted_75 : decode cX12_counted 75 = .ok (.iastore, 1) := by decide +kernel
theorem dX12_counted_76 : decode cX12_counted 76 = .ok (.aload_n 0, 1) := by decide +kernel
theorem dX12_counted_77 : decode cX12_counted 77 = .ok (.getfield 141, 3) := by decide +kernel
theorem dX12_counted_80 : decode cX12_counted 80 = .ok (.aload_n 0, 1) := by decide +kernel
theorem dX12_counted_81 : decode cX12_counted 81 = .ok (.getfield 421, 3) := by decide +kernel
theorem dX12_counted_84 : decode cX12_counted 84 = .ok (.iload_n 3, 1) := by decide +kernel
theorem dX12_counted_85 : decode cX12_counted 85 = .ok (.iastore, 1) := by decide +kernel
theorem dX12_counted_86 : decode cX12_counted 86 = .ok (.aload_n 0, 1) := by decide +kernel
theorem dX12_counted_87 : decode cX12_counted 87 = .ok (.getfield 144, 3) := by decide +kernel
theorem dX12_counted_90 : decode cX12_counted 90 = .ok (.aload_n 0, 1) := by decide +kernel
theorem dX12_counted_91 : decode cX12_counted 91 = .ok (.getfield 421, 3) := by decide +kernel
theorem dX12_counted_94 : decode cX12_counted 94 = .ok (.iload 4, 2) := by decide +kernel
theorem dX12_counted_96 : decode cX12_counted 96 = .ok (.iastore, 1) := by decide +kernel
theorem dX12_counted_97 : decode cX12_counted 97 = .ok (.aload_n 0, 1) := by decide +kernel
theorem dX12_counted_98 : decode cX12_counted 98 = .ok (.getfield 147, 3) := by decide +kernel
theorem dX12_counted_101 : decode cX12_counted 101 = .ok (.aload_n 0, 1) := by decide +kernel
theorem dX12_counted_102 : decode cX12_counted 102 = .ok (.getfield 421, 3) := by decide +kernel
theorem dX12_counted_105 : decode cX12_counted 105 = .ok (.aload_n 0, 1) := by decide +kernel
theorem dX12_counted_106 : decode cX12_counted 106 = .ok (.getfield 239, 3) := by decide +kernel
theorem dX12_counted_109 : decode cX12_counted 109 = .ok (.iastore, 1) := by decide +kernel
theorem dX12_counted_110 : decode cX12_counted 110 = .ok (.aload_n 0, 1) := by decide +kernel
theorem dX12_counted_111 : decode cX12_counted 111 = .ok (.dup, 1) := by decide +kernel
theorem dX12_counted_112 : decode cX12_counted 112 = .ok (.getfield 421, 3) := by decide +kernel
theorem dX12_counted_115 : decode cX12_counted 115 = .ok (.iconst 1, 1) := by decide +kernel
theorem dX12_counted_116 : decode cX12_counted 116 = .ok (.iadd, 1) := by decide +kernel
theorem dX12_counted_117 : decode cX12_counted 117 = .ok (.putfield 421, 3) := by decide +kernel
theorem dX12_counted_120 : decode cX12_counted 120 = .ok (.aload_n 0, 1) := by decide +kernel
theorem dX12_counted_121 : decode cX12_counted 121 = .ok (.getfield 421, 3) := by decide +kernel
theorem dX12_counted_124 : decode cX12_counted 124 = .ok (.iconst 1, 1) := by decide +kernel
theorem dX12_counted_125 : decode cX12_counted 125 = .ok (.isub, 1) := by decide +kernel
theorem dX12_counted_126 : decode cX12_counted 126 = .ok (.ireturn, 1) := by decide +kernel
theorem dX12_expected_0 : decode cX12_expected 0 = .ok (.aload_n 0, 1) := by decide +kernel
theorem dX12_expected_1 : decode cX12_expected 1 = .ok (.iconst 0, 1) := by decide +kernel
theorem dX12_expected_2 : decode cX12_expected 2 = .ok (.putfield 198, 3) := by decide +kernel
theorem dX12_expected_5 : decode cX12_expected 5 = .ok (.aload_n 0, 1) := by decide +kernel
theorem dX12_expected_6 : decode cX12_expected 6 = .ok (.getfield 434, 3) := by decide +kernel
theorem dX12_expected_9 : decode cX12_expected 9 = .ok (.lreturn, 1) := by decide +kernel
theorem dX12_falseCounts_0 : decode cX12_falseCounts 0 = .ok (.aload_n 0, 1) := by decide +kernel
theorem dX12_falseCounts_1 : decode cX12_falseCounts 1 = .ok (.iconst 0, 1) := by decide +kernel
theorem dX12_falseCounts_2 : decode cX12_falseCounts 2 = .ok (.putfield 198, 3) := by decide +kernel
theorem dX12_falseCounts_5 : decode cX12_falseCounts 5 = .ok (.iconst 0, 1) := by decide +kernel
theorem dX12_falseCounts_6 : decode cX12_falseCounts 6 = .ok (.istore_n 2, 1) := by decide +kernel
theorem dX12_falseCounts_7 : decode cX12_falseCounts 7 = .ok (.iconst 0, 1) := by decide +kernel
theorem dX12_falseCounts_8 : decode cX12_falseCounts 8 = .ok (.istore_n 3, 1) := by decide +kernel
theorem dX12_falseCounts_9 : decode cX12_falseCounts 9 = .ok (.iload_n 3, 1) := by decide +kernel
theorem dX12_falseCounts_10 : decode cX12_falseCounts 10 = .ok (.aload_n 0, 1) := by decide +kernel
theorem dX12_falseCounts_11 : decode cX12_falseCounts 11 = .ok (.getfield 421, 3) := by decide +kernel
theorem dX12_falseCounts_14 : decode cX12_falseCounts 14 = .ok (.if_icmp .ge 70, 3) := by decide +kernel
theorem dX12_falseCounts_17 : decode cX12_falseCounts 17 = .ok (.aload_n 0, 1) := by decide +kernel
theorem dX12_falseCounts_18 : decode cX12_falseCounts 18 = .ok (.getfield 135, 3) := by decide +kernel
theorem dX12_falseCounts_21 : decode cX12_falseCounts 21 = .ok (.iload_n 3, 1) := by decide +kernel
theorem dX12_falseCounts_22 : decode cX12_falseCounts 22 = .ok (.iaload, 1) := by decide +kernel
theorem dX12_falseCounts_23 : decode cX12_falseCounts 23 = .ok (.istore 4, 2) := by decide +kernel
theorem dX12_falseCounts_25 : decode cX12_falseCounts 25 = .ok (.aload_n 0, 1) := by decide +kernel
theorem dX12_falseCounts_26 : decode cX12_falseCounts 26 = .ok (.getfield 138, 3) := by decide +kernel
theorem dX12_falseCounts_29 : decode cX12_falseCounts 29 = .ok (.iload_n 3, 1) := by decide +kernel
theorem dX12_falseCounts_30 : decode cX12_falseCounts 30 = .ok (.iaload, 1) := by decide +kernel
theorem dX12_falseCounts_31 : decode cX12_falseCounts 31 = .ok (.istore 5, 2) := by decide +kernel
theorem dX12_falseCounts_33 : decode cX12_falseCounts 33 = .ok (.aload_n 0, 1) := by decide +kernel
theorem dX12_falseCounts_34 : decode cX12_falseCounts 34 = .ok (.getfield 141, 3) := by decide +kernel
theorem dX12_falseCounts_37 : decode cX12_falseCounts 37 = .ok (.iload_n 3, 1) := by decide +kernel
theorem dX12_falseCounts_38 : decode cX12_falseCounts 38 = .ok (.iaload, 1) := by decide +kernel
theorem dX12_falseCounts_39 : decode cX12_falseCounts 39 = .ok (.istore 6, 2) := by decide +kernel
theorem dX12_falseCounts_41 : decode cX12_falseCounts 41 = .ok (.aload_n 0, 1) := by decide +kernel
theorem dX12_falseCounts_42 : decode cX12_falseCounts 42 = .ok (.iload 4, 2) := by decide +kernel
theorem dX12_falseCounts_44 : decode cX12_falseCounts 44 = .ok (.iload 5, 2) := by decide +kernel
theorem dX12_falseCounts_46 : decode cX12_falseCounts 46 = .ok (.iload 6, 2) := by decide +kernel
theorem dX12_falseCounts_48 : decode cX12_falseCounts 48 = .ok (.iload_n 1, 1) := by decide +kernel
theorem dX12_falseCounts_49 : decode cX12_falseCounts 49 = .ok (.invokevirtual 424, 3) := by decide +kernel
theorem dX12_falseCounts_52 : decode cX12_falseCounts 52 = .ok (.iload_n 3, 1) := by decide +kernel
theorem dX12_falseCounts_53 : decode cX12_falseCounts 53 = .ok (.if_icmp .ne 25, 3) := by decide +kernel
theorem dX12_falseCounts_56 : decode cX12_falseCounts 56 = .ok (.aload_n 0, 1) := by decide +kernel
theorem dX12_falseCounts_57 : decode cX12_falseCounts 57 = .ok (.getfield 144, 3) := by decide +kernel
theorem dX12_falseCounts_60 : decode cX12_falseCounts 60 = .ok (.iload_n 3, 1) := by decide +kernel
theorem dX12_falseCounts_61 : decode cX12_falseCounts 61 = .ok (.iaload, 1) := by decide +kernel
theorem dX12_falseCounts_62 : decode cX12_falseCounts 62 = .ok (.aload_n 0, 1) := by decide +kernel
theorem dX12_falseCounts_63 : decode cX12_falseCounts 63 = .ok (.iload 4, 2) := by decide +kernel
theorem dX12_falseCounts_65 : decode cX12_falseCounts 65 = .ok (.iload 5, 2) := by decide +kernel
theorem dX12_falseCounts_67 : decode cX12_falseCounts 67 = .ok (.iload 6, 2) := by decide +kernel
theorem dX12_falseCounts_69 : decode cX12_falseCounts 69 = .ok (.invokevirtual 427, 3) := by decide +kernel
theorem dX12_falseCounts_72 : decode cX12_falseCounts 72 = .ok (.if_icmp .le 6, 3) := by decide +kernel
theorem dX12_falseCounts_75 : decode cX12_falseCounts 75 = .ok (.iinc 2 1, 3) := by decide +kernel
theorem dX12_falseCounts_78 : decode cX12_falseCounts 78 = .ok (.iinc 3 1, 3) := by decide +kernel
theorem dX12_falseCounts_81 : decode cX12_falseCounts 81 = .ok (.goto (-72), 3) := by decide +kernel
theorem dX12_falseCounts_84 : decode cX12_falseCounts 84 = .ok (.iload_n 2, 1) := by decide +kernel
theorem dX12_falseCounts_85 : decode cX12_falseCounts 85 = .ok (.ireturn, 1) := by decide +kernel
theorem dX12_fault_0 : decode cX12_fault 0 = .ok (.aload_n 0, 1) := by decide +kernel
theorem dX12_fault_1 : decode cX12_fault 1 = .ok (.iconst 0, 1) := by decide +kernel
theorem dX12_fault_2 : decode cX12_fault 2 = .ok (.putfield 198, 3) := by decide +kernel
theorem dX12_fault_5 : decode cX12_fault 5 = .ok (.aload_n 0, 1) := by decide +kernel
theorem dX12_fault_6 : decode cX12_fault 6 = .ok (.getfield 291, 3) := by decide +kernel
theorem dX12_fault_9 : decode cX12_fault 9 = .ok (.ireturn, 1) := by decide +kernel
theorem dX12_firstAt_0 : decode cX12_firstAt 0 = .ok (.iconst (-1), 1) := by decide +kernel
theorem dX12_firstAt_1 : decode cX12_firstAt 1 = .ok (.istore_n 3, 1) := by decide +kernel
theorem dX12_firstAt_2 : decode cX12_firstAt 2 = .ok (.iconst 0, 1) := by decide +kernel
theorem dX12_firstAt_3 : decode cX12_firstAt 3 = .ok (.istore 4, 2) := by decide +kernel
theorem dX12_firstAt_5 : decode cX12_firstAt 5 = .ok (.iload 4, 2) := by decide +kernel
theorem dX12_firstAt_7 : decode cX12_firstAt 7 = .ok (.aload_n 0, 1) := by decide +kernel
theorem dX12_firstAt_8 : decode cX12_firstAt 8 = .ok (.getfield 389, 3) := by decide +kernel
theorem dX12_firstAt_11 : decode cX12_firstAt 11 = .ok (.if_icmp .ge 59, 3) := by decide +kernel
theorem dX12_firstAt_14 : decode cX12_firstAt 14 = .ok (.aload_n 0, 1) := by decide +kernel
theorem dX12_firstAt_15 : decode cX12_firstAt 15 = .ok (.getfield 129, 3) := by decide +kernel
theorem dX12_firstAt_18 : decode cX12_firstAt 18 = .ok (.iload 4, 2) := by decide +kernel
theorem dX12_firstAt_20 : decode cX12_firstAt 20 = .ok (.baload, 1) := by decide +kernel
theorem dX12_firstAt_21 : decode cX12_firstAt 21 = .ok (.ifCond .ne 43, 3) := by decide +kernel
theorem dX12_firstAt_24 : decode cX12_firstAt 24 = .ok (.aload_n 0, 1) := by decide +kernel
theorem dX12_firstAt_25 : decode cX12_firstAt 25 = .ok (.getfield 96, 3) := by decide +kernel
theorem dX12_firstAt_28 : decode cX12_firstAt 28 = .ok (.iload 4, 2) := by decide +kernel
theorem dX12_firstAt_30 : decode cX12_firstAt 30 = .ok (.iaload, 1) := by decide +kernel
theorem dX12_firstAt_31 : decode cX12_firstAt 31 = .ok (.iload_n 1, 1) := by decide +kernel
theorem dX12_firstAt_32 : decode cX12_firstAt 32 = .ok (.if_icmp .ne 32, 3) := by decide +kernel
theorem dX12_firstAt_35 : decode cX12_firstAt 35 = .ok (.aload_n 0, 1) := by decide +kernel
theorem dX12_firstAt_36 : decode cX12_firstAt 36 = .ok (.getfield 93, 3) := by decide +kernel
theorem dX12_firstAt_39 : decode cX12_firstAt 39 = .ok (.iload 4, 2) := by decide +kernel
theorem dX12_firstAt_41 : decode cX12_firstAt 41 = .ok (.iaload, 1) := by decide +kernel
theorem dX12_firstAt_42 : decode cX12_firstAt 42 = .ok (.iload_n 2, 1) := by decide +kernel
theorem dX12_firstAt_43 : decode cX12_firstAt 43 = .ok (.if_icmp .ne 21, 3) := by decide +kernel
theorem dX12_firstAt_46 : decode cX12_firstAt 46 = .ok (.iload_n 3, 1) := by decide +kernel
theorem dX12_firstAt_47 : decode cX12_firstAt 47 = .ok (.iconst (-1), 1) := by decide +kernel
theorem dX12_firstAt_48 : decode cX12_firstAt 48 = .ok (.if_icmp .eq 13, 3) := by decide +kernel
theorem dX12_firstAt_51 : decode cX12_firstAt 51 = .ok (.aload_n 0, 1) := by decide +kernel
theorem dX12_firstAt_52 : decode cX12_firstAt 52 = .ok (.iload 4, 2) := by decide +kernel
theorem dX12_firstAt_54 : decode cX12_firstAt 54 = .ok (.iload_n 3, 1) := by decide +kernel
theorem dX12_firstAt_55 : decode cX12_firstAt 55 = .ok (.invokevirtual 408, 3) := by decide +kernel
theorem dX12_firstAt_58 : decode cX12_firstAt 58 = .ok (.ifCond .eq 6, 3) := by decide +kernel
theorem dX12_firstAt_61 : decode cX12_firstAt 61 = .ok (.iload 4, 2) := by decide +kernel
theorem dX12_firstAt_63 : decode cX12_firstAt 63 = .ok (.istore_n 3, 1) := by decide +kernel
theorem dX12_firstAt_64 : decode cX12_firstAt 64 = .ok (.iinc 4 1, 3) := by decide +kernel
theorem dX12_firstAt_67 : decode cX12_firstAt 67 = .ok (.goto (-62), 3) := by decide +kernel
theorem dX12_firstAt_70 : decode cX12_firstAt 70 = .ok (.iload_n 3, 1) := by decide +kernel
theorem dX12_firstAt_71 : decode cX12_firstAt 71 = .ok (.ireturn, 1) := by decide +kernel
theorem dX12_go_0 : decode cX12_go 0 = .ok (.aload_n 0, 1) := by decide +kernel
theorem dX12_go_1 : decode cX12_go 1 = .ok (.getfield 256, 3) := by decide +kernel
theorem dX12_go_4 : decode cX12_go 4 = .ok (.aload_n 0, 1) := by decide +kernel
theorem dX12_go_5 : decode cX12_go 5 = .ok (.getfield 253, 3) := by decide +kernel
theorem dX12_go_8 : decode cX12_go 8 = .ok (.if_icmp .ge 44, 3) := by decide +kernel
theorem dX12_go_11 : decode cX12_go 11 = .ok (.aload_n 0, 1) := by decide +kernel
theorem dX12_go_12 : decode cX12_go 12 = .ok (.getfield 7, 3) := by decide +kernel
theorem dX12_go_15 : decode cX12_go 15 = .ok (.aload_n 0, 1) := by decide +kernel
theorem dX12_go_16 : decode cX12_go 16 = .ok (.getfield 256, 3) := by decide +kernel
theorem dX12_go_19 : decode cX12_go 19 = .ok (.iaload, 1) := by decide +kernel
theorem dX12_go_20 : decode cX12_go 20 = .ok (.bipush 32, 2) := by decide +kernel
theorem dX12_go_22 : decode cX12_go 22 = .ok (.if_icmp .eq 17, 3) := by decide +kernel
theorem dX12_go_25 : decode cX12_go 25 = .ok (.aload_n 0, 1) := by decide +kernel
theorem dX12_go_26 : decode cX12_go 26 = .ok (.getfield 7, 3) := by decide +kernel
theorem dX12_go_29 : decode cX12_go 29 = .ok (.aload_n 0, 1) := by decide +kernel
theorem dX12_go_30 : decode cX12_go 30 = .ok (.getfield 256, 3) := by decide +kernel
theorem dX12_go_33 : decode cX12_go 33 = .ok (.iaload, 1) := by decide +kernel
theorem dX12_go_34 : decode cX12_go 34 = .ok (.bipush 10, 2) := by decide +kernel
theorem dX12_go_36 : decode cX12_go 36 = .ok (.if_icmp .ne 16, 3) := by decide +kernel
theorem dX12_go_39 : decode cX12_go 39 = .ok (.aload_n 0, 1) := by decide +kernel
theorem dX12_go_40 : decode cX12_go 40 = .ok (.dup, 1) := by decide +kernel
theorem dX12_go_41 : decode cX12_go 41 = .ok (.getfield 256, 3) := by decide +kernel
theorem dX12_go_44 : decode cX12_go 44 = .ok (.iconst 1, 1) := by decide +kernel
theorem dX12_go_45 : decode cX12_go 45 = .ok (.iadd, 1) := by decide +kernel
theorem dX12_go_46 : decode cX12_go 46 = .ok (.putfield 256, 3) := by decide +kernel
theorem dX12_go_49 : decode cX12_go 49 = .ok (.goto (-49), 3) := by decide +kernel
theorem dX12_go_52 : decode cX12_go 52 = .ok (.aload_n 0, 1) := by decide +kernel
theorem dX12_go_53 : decode cX12_go 53 = .ok (.aload_n 0, 1) := by decide +kernel
theorem dX12_go_54 : decode cX12_go 54 = .ok (.getfield 256, 3) := by decide +kernel
theorem dX12_go_57 : decode cX12_go 57 = .ok (.putfield 259, 3) := by decide +kernel
theorem dX12_go_60 : decode cX12_go 60 = .ok (.aload_n 0, 1) := by decide +kernel
theorem dX12_go_61 : decode cX12_go 61 = .ok (.getfield 253, 3) := by decide +kernel
theorem dX12_go_64 : decode cX12_go 64 = .ok (.sipush 300, 3) := by decide +kernel
theorem dX12_go_67 : decode cX12_go 67 = .ok (.if_icmp .le 26, 3) := by decide +kernel
theorem dX12_go_70 : decode cX12_go 70 = .ok (.aload_n 0, 1) := by decide +kernel
theorem dX12_go_71 : decode cX12_go 71 = .ok (.getfield 259, 3) := by decide +kernel
theorem dX12_go_74 : decode cX12_go 74 = .ok (.sipush 300, 3) := by decide +kernel
theorem dX12_go_77 : decode cX12_go 77 = .ok (.if_icmp .lt 16, 3) := by decide +kernel
theorem dX12_go_80 : decode cX12_go 80 = .ok (.aload_n 0, 1) := by decide +kernel
theorem dX12_go_81 : decode cX12_go 81 = .ok (.sipush 300, 3) := by decide +kernel
theorem dX12_go_84 : decode cX12_go 84 = .ok (.putfield 259, 3) := by decide +kernel
theorem dX12_go_87 : decode cX12_go 87 = .ok (.aload_n 0, 1) := by decide +kernel
theorem dX12_go_88 : decode cX12_go 88 = .ok (.iconst 1, 1) := by decide +kernel
theorem dX12_go_89 : decode cX12_go 89 = .ok (.putfield 262, 3) := by decide +kernel
theorem dX12_go_92 : decode cX12_go 92 = .ok (.return_, 1) := by decide +kernel
theorem dX12_go_93 : decode cX12_go 93 = .ok (.aload_n 0, 1) := by decide +kernel
theorem dX12_go_94 : decode cX12_go 94 = .ok (.getfield 256, 3) := by decide +kernel
theorem dX12_go_97 : decode cX12_go 97 = .ok (.aload_n 0, 1) := by decide +kernel
theorem dX12_go_98 : decode cX12_go 98 = .ok (.getfield 253, 3) := by decide +kernel
theorem dX12_go_101 : decode cX12_go 101 = .ok (.if_icmp .lt 9, 3) := by decide +kernel
theorem dX12_go_104 : decode cX12_go 104 = .ok (.aload_n 0, 1) := by decide +kernel
theorem dX12_go_105 : decode cX12_go 105 = .ok (.iconst 0, 1) := by decide +kernel
theorem dX12_go_106 : decode cX12_go 106 = .ok (.putfield 262, 3) := by decide +kernel
theorem dX12_go_109 : decode cX12_go 109 = .ok (.return_, 1) := by decide +kernel
theorem dX12_go_110 : decode cX12_go 110 = .ok (.aload_n 0, 1) := by decide +kernel
theorem dX12_go_111 : decode cX12_go 111 = .ok (.getfield 7, 3) := by decide +kernel
theorem dX12_go_114 : decode cX12_go 114 = .ok (.aload_n 0, 1) := by decide +kernel
theorem dX12_go_115 : decode cX12_go 115 = .ok (.getfield 256, 3) := by decide +kernel
theorem dX12_go_118 : decode cX12_go 118 = .ok (.iaload, 1) := by decide +kernel
theorem dX12_go_119 : decode cX12_go 119 = .ok (.istore_n 1, 1) := by decide +kernel
theorem dX12_go_120 : decode cX12_go 120 = .ok (.iload_n 1, 1) := by decide +kernel
theorem dX12_go_121 : decode cX12_go 121 = .ok (.invokestatic 265, 3) := by decide +kernel
theorem dX12_go_124 : decode cX12_go 124 = .ok (.ifCond .ne 42, 3) := by decide +kernel
theorem dX12_go_127 : decode cX12_go 127 = .ok (.iload_n 1, 1) := by decide +kernel
theorem dX12_go_128 : decode cX12_go 128 = .ok (.invokestatic 268, 3) := by decide +kernel
theorem dX12_go_131 : decode cX12_go 131 = .ok (.ifCond .ne 35, 3) := by decide +kernel
theorem dX12_go_134 : decode cX12_go 134 = .ok (.aload_n 0, 1) := by decide +kernel
theorem dX12_go_135 : decode cX12_go 135 = .ok (.iload_n 1, 1) := by decide +kernel
theorem dX12_go_136 : decode cX12_go 136 = .ok (.invokestatic 271, 3) := by decide +kernel
theorem dX12_go_139 : decode cX12_go 139 = .ok (.ifCond .eq 7, 3) := by decide +kernel
theorem dX12_go_142 : decode cX12_go 142 = .ok (.iconst 4, 1) := by decide +kernel
theorem dX12_go_143 : decode cX12_go 143 = .ok (.goto 4, 3) := by decide +kernel
theorem dX12_go_146 : decode cX12_go 146 = .ok (.iconst 1, 1) := by decide +kernel
theorem dX12_go_147 : decode cX12_go 147 = .ok (.putfield 262, 3) := by decide +kernel
theorem dX12_go_150 : decode cX12_go 150 = .ok (.aload_n 0, 1) := by decide +kernel
theorem dX12_go_151 : decode cX12_go 151 = .ok (.iload_n 1, 1) := by decide +kernel
theorem dX12_go_152 : decode cX12_go 152 = .ok (.putfield 274, 3) := by decide +kernel
theorem dX12_go_155 : decode cX12_go 155 = .ok (.aload_n 0, 1) := by decide +kernel
theorem dX12_go_156 : decode cX12_go 156 = .ok (.dup, 1) := by decide +kernel
theorem dX12_go_157 : decode cX12_go 157 = .ok (.getfield 256, 3) := by decide +kernel
theorem dX12_go_160 : decode cX12_go 160 = .ok (.iconst 1, 1) := by decide +kernel
theorem dX12_go_161 : decode cX12_go 161 = .ok (.iadd, 1) := by decide +kernel
theorem dX12_go_162 : decode cX12_go 162 = .ok (.putfield 256, 3) := by decide +kernel
theorem dX12_go_165 : decode cX12_go 165 = .ok (.return_, 1) := by decide +kernel
theorem dX12_go_166 : decode cX12_go 166 = .ok (.iload_n 1, 1) := by decide +kernel
theorem dX12_go_167 : decode cX12_go 167 = .ok (.invokestatic 265, 3) := by decide +kernel
theorem dX12_go_170 : decode cX12_go 170 = .ok (.istore_n 2, 1) := by decide +kernel
theorem dX12_go_171 : decode cX12_go 171 = .ok (.iconst 1, 1) := by decide +kernel
theorem dX12_go_172 : decode cX12_go 172 = .ok (.istore_n 3, 1) := by decide +kernel
theorem dX12_go_173 : decode cX12_go 173 = .ok (.aload_n 0, 1) := by decide +kernel
theorem dX12_go_174 : decode cX12_go 174 = .ok (.lconst 0, 1) := by decide +kernel
theorem dX12_go_175 : decode cX12_go 175 = .ok (.putfield 277, 3) := by decide +kernel
theorem dX12_go_178 : decode cX12_go 178 = .ok (.aload_n 0, 1) := by decide +kernel
theorem dX12_go_179 : decode cX12_go 179 = .ok (.iconst 0, 1) := by decide +kernel
theorem dX12_go_180 : decode cX12_go 180 = .ok (.putfield 281, 3) := by decide +kernel
theorem dX12_go_183 : decode cX12_go 183 = .ok (.aload_n 0, 1) := by decide +kernel
theorem dX12_go_184 : decode cX12_go 184 = .ok (.aload_n 0, 1) := by decide +kernel
theorem dX12_go_185 : decode cX12_go 185 = .ok (.getfield 256, 3) := by decide +kernel
theorem dX12_go_188 : decode cX12_go 188 = .ok (.invokevirtual 284, 3) := by decide +kernel
theorem dX12_go_191 : decode cX12_go 191 = .ok (.invokestatic 265, 3) := by decide +kernel
theorem dX12_go_194 : decode cX12_go 194 = .ok (.ifCond .ne 17, 3) := by decide +kernel
theorem dX12_go_197 : decode cX12_go 197 = .ok (.aload_n 0, 1) := by decide +kernel
theorem dX12_go_198 : decode cX12_go 198 = .ok (.aload_n 0, 1) := by decide +kernel
theorem dX12_go_199 : decode cX12_go 199 = .ok (.getfield 256, 3) := by decide +kernel
theorem dX12_go_202 : decode cX12_go 202 = .ok (.invokevirtual 284, 3) := by decide +kernel
theorem dX12_go_205 : decode cX12_go 205 = .ok (.invokestatic 268, 3) := by decide +kernel
theorem dX12_go_208 : decode cX12_go 208 = .ok (.ifCond .eq 110, 3) := by decide +kernel
theorem dX12_go_211 : decode cX12_go 211 = .ok (.aload_n 0, 1) := by decide +kernel
theorem dX12_go_212 : decode cX12_go 212 = .ok (.getfield 7, 3) := by decide +kernel
theorem dX12_go_215 : decode cX12_go 215 = .ok (.aload_n 0, 1) := by decide +kernel
theorem dX12_go_216 : decode cX12_go 216 = .ok (.getfield 256, 3) := by decide +kernel
theorem dX12_go_219 : decode cX12_go 219 = .ok (.iaload, 1) := by decide +kernel
theorem dX12_go_220 : decode cX12_go 220 = .ok (.istore 4, 2) := by decide +kernel
theorem dX12_go_222 : decode cX12_go 222 = .ok (.iload_n 3, 1) := by decide +kernel
theorem dX12_go_223 : decode cX12_go 223 = .ok (.ifCond .eq 16, 3) := by decide +kernel
theorem dX12_go_226 : decode cX12_go 226 = .ok (.iload 4, 2) := by decide +kernel
theorem dX12_go_228 : decode cX12_go 228 = .ok (.invokestatic 265, 3) := by decide +kernel
theorem dX12_go_231 : decode cX12_go 231 = .ok (.iload_n 2, 1) := by decide +kernel
theorem dX12_go_232 : decode cX12_go 232 = .ok (.if_icmp .ne 7, 3) := by decide +kernel
theorem dX12_go_235 : decode cX12_go 235 = .ok (.iconst 1, 1) := by decide +kernel
theorem dX12_go_236 : decode cX12_go 236 = .ok (.goto 4, 3) := by decide +kernel
theorem dX12_go_239 : decode cX12_go 239 = .ok (.iconst 0, 1) := by decide +kernel
theorem dX12_go_240 : decode cX12_go 240 = .ok (.istore_n 3, 1) := by decide +kernel
theorem dX12_go_241 : decode cX12_go 241 = .ok (.aload_n 0, 1) := by decide +kernel
theorem dX12_go_242 : decode cX12_go 242 = .ok (.getfield 256, 3) := by decide +kernel
theorem dX12_go_245 : decode cX12_go 245 = .ok (.aload_n 0, 1) := by decide +kernel
theorem dX12_go_246 : decode cX12_go 246 = .ok (.getfield 259, 3) := by decide +kernel
theorem dX12_go_249 : decode cX12_go 249 = .ok (.isub, 1) := by decide +kernel
theorem dX12_go_250 : decode cX12_go 250 = .ok (.bipush 8, 2) := by decide +kernel
theorem dX12_go_252 : decode cX12_go 252 = .ok (.if_icmp .ge 23, 3) := by decide +kernel
theorem dX12_go_255 : decode cX12_go 255 = .ok (.aload_n 0, 1) := by decide +kernel
theorem dX12_go_256 : decode cX12_go 256 = .ok (.ldc2_w 287, 3) := by decide +kernel
theorem dX12_go_259 : decode cX12_go 259 = .ok (.aload_n 0, 1) := by decide +kernel
theorem dX12_go_260 : decode cX12_go 260 = .ok (.getfield 277, 3) := by decide +kernel
theorem dX12_go_263 : decode cX12_go 263 = .ok (.lmul, 1) := by decide +kernel
theorem dX12_go_264 : decode cX12_go 264 = .ok (.iload 4, 2) := by decide +kernel
theorem dX12_go_266 : decode cX12_go 266 = .ok (.i2l, 1) := by decide +kernel
theorem dX12_go_267 : decode cX12_go 267 = .ok (.ladd, 1) := by decide +kernel
theorem dX12_go_268 : decode cX12_go 268 = .ok (.ldc2_w 289, 3) := by decide +kernel
theorem dX12_go_271 : decode cX12_go 271 = .ok (.lsub, 1) := by decide +kernel
theorem dX12_go_272 : decode cX12_go 272 = .ok (.putfield 277, 3) := by decide +kernel
theorem dX12_go_275 : decode cX12_go 275 = .ok (.aload_n 0, 1) := by decide +kernel
theorem dX12_go_276 : decode cX12_go 276 = .ok (.getfield 256, 3) := by decide +kernel
theorem dX12_go_279 : decode cX12_go 279 = .ok (.aload_n 0, 1) := by decide +kernel
theorem dX12_go_280 : decode cX12_go 280 = .ok (.getfield 259, 3) := by decide +kernel
theorem dX12_go_283 : decode cX12_go 283 = .ok (.isub, 1) := by decide +kernel
theorem dX12_go_284 : decode cX12_go 284 = .ok (.iconst 4, 1) := by decide +kernel
theorem dX12_go_285 : decode cX12_go 285 = .ok (.if_icmp .ge 20, 3) := by decide +kernel
theorem dX12_go_288 : decode cX12_go 288 = .ok (.aload_n 0, 1) := by decide +kernel
theorem dX12_go_289 : decode cX12_go 289 = .ok (.bipush 10, 2) := by decide +kernel
theorem dX12_go_291 : decode cX12_go 291 = .ok (.aload_n 0, 1) := by decide +kernel
theorem dX12_go_292 : decode cX12_go 292 = .ok (.getfield 281, 3) := by decide +kernel
theorem dX12_go_295 : decode cX12_go 295 = .ok (.imul, 1) := by decide +kernel
theorem dX12_go_296 : decode cX12_go 296 = .ok (.iload 4, 2) := by decide +kernel
theorem dX12_go_298 : decode cX12_go 298 = .ok (.iadd, 1) := by decide +kernel
theorem dX12_go_299 : decode cX12_go 299 = .ok (.bipush 48, 2) := by decide +kernel
theorem dX12_go_301 : decode cX12_go 301 = .ok (.isub, 1) := by decide +kernel
theorem dX12_go_302 : decode cX12_go 302 = .ok (.putfield 281, 3) := by decide +kernel
theorem dX12_go_305 : decode cX12_go 305 = .ok (.aload_n 0, 1) := by decide +kernel
theorem dX12_go_306 : decode cX12_go 306 = .ok (.dup, 1) := by decide +kernel
theorem dX12_go_307 : decode cX12_go 307 = .ok (.getfield 256, 3) := by decide +kernel
theorem dX12_go_310 : decode cX12_go 310 = .ok (.iconst 1, 1) := by decide +kernel
theorem dX12_go_311 : decode cX12_go 311 = .ok (.iadd, 1) := by decide +kernel
theorem dX12_go_312 : decode cX12_go 312 = .ok (.putfield 256, 3) := by decide +kernel
theorem dX12_go_315 : decode cX12_go 315 = .ok (.goto (-132), 3) := by decide +kernel
theorem dX12_go_318 : decode cX12_go 318 = .ok (.aload_n 0, 1) := by decide +kernel
theorem dX12_go_319 : decode cX12_go 319 = .ok (.iload_n 3, 1) := by decide +kernel
theorem dX12_go_320 : decode cX12_go 320 = .ok (.ifCond .eq 25, 3) := by decide +kernel
theorem dX12_go_323 : decode cX12_go 323 = .ok (.aload_n 0, 1) := by decide +kernel
theorem dX12_go_324 : decode cX12_go 324 = .ok (.getfield 256, 3) := by decide +kernel
theorem dX12_go_327 : decode cX12_go 327 = .ok (.aload_n 0, 1) := by decide +kernel
theorem dX12_go_328 : decode cX12_go 328 = .ok (.getfield 259, 3) := by decide +kernel
theorem dX12_go_331 : decode cX12_go 331 = .ok (.isub, 1) := by decide +kernel
theorem dX12_go_332 : decode cX12_go 332 = .ok (.iload_n 2, 1) := by decide +kernel
theorem dX12_go_333 : decode cX12_go 333 = .ok (.ifCond .eq 8, 3) := by decide +kernel
theorem dX12_go_336 : decode cX12_go 336 = .ok (.bipush 8, 2) := by decide +kernel
theorem dX12_go_338 : decode cX12_go 338 = .ok (.goto 4, 3) := by decide +kernel
theorem dX12_go_341 : decode cX12_go 341 = .ok (.iconst 4, 1) := by decide +kernel
theorem dX12_go_342 : decode cX12_go 342 = .ok (.if_icmp .le 7, 3) := by decide +kernel
theorem dX12_go_345 : decode cX12_go 345 = .ok (.iconst 1, 1) := by decide +kernel
theorem dX12_go_346 : decode cX12_go 346 = .ok (.goto 12, 3) := by decide +kernel
theorem dX12_go_349 : decode cX12_go 349 = .ok (.iload_n 2, 1) := by decide +kernel
theorem dX12_go_350 : decode cX12_go 350 = .ok (.ifCond .eq 7, 3) := by decide +kernel
theorem dX12_go_353 : decode cX12_go 353 = .ok (.iconst 2, 1) := by decide +kernel
theorem dX12_go_354 : decode cX12_go 354 = .ok (.goto 4, 3) := by decide +kernel
theorem dX12_go_357 : decode cX12_go 357 = .ok (.iconst 3, 1) := by decide +kernel
theorem dX12_go_358 : decode cX12_go 358 = .ok (.putfield 262, 3) := by decide +kernel
theorem dX12_go_361 : decode cX12_go 361 = .ok (.return_, 1) := by decide +kernel
theorem dX12_headline_0 : decode cX12_headline 0 = .ok (.aload_n 0, 1) := by decide +kernel
theorem dX12_headline_1 : decode cX12_headline 1 = .ok (.iconst 0, 1) := by decide +kernel
theorem dX12_headline_2 : decode cX12_headline 2 = .ok (.putfield 198, 3) := by decide +kernel
theorem dX12_headline_5 : decode cX12_headline 5 = .ok (.iload_n 1, 1) := by decide +kernel
theorem dX12_headline_6 : decode cX12_headline 6 = .ok (.invokestatic 236, 3) := by decide +kernel
theorem dX12_headline_9 : decode cX12_headline 9 = .ok (.ifCond .eq 26, 3) := by decide +kernel
theorem dX12_headline_12 : decode cX12_headline 12 = .ok (.iload_n 2, 1) := by decide +kernel
theorem dX12_headline_13 : decode cX12_headline 13 = .ok (.aload_n 0, 1) := by decide +kernel
theorem dX12_headline_14 : decode cX12_headline 14 = .ok (.getfield 239, 3) := by decide +kernel
theorem dX12_headline_17 : decode cX12_headline 17 = .ok (.sipush 399, 3) := by decide +kernel
theorem dX12_headline_20 : decode cX12_headline 20 = .ok (.invokestatic 211, 3) := by decide +kernel
theorem dX12_headline_23 : decode cX12_headline 23 = .ok (.ifCond .eq 12, 3) := by decide +kernel
theorem dX12_headline_26 : decode cX12_headline 26 = .ok (.iload_n 3, 1) := by decide +kernel
theorem dX12_headline_27 : decode cX12_headline 27 = .ok (.iconst 0, 1) := by decide +kernel
theorem dX12_headline_28 : decode cX12_headline 28 = .ok (.iconst 5, 1) := by decide +kernel
theorem dX12_headline_29 : decode cX12_headline 29 = .ok (.invokestatic 211, 3) := by decide +kernel
theorem dX12_headline_32 : decode cX12_headline 32 = .ok (.ifCond .ne 5, 3) := by decide +kernel
theorem dX12_headline_35 : decode cX12_headline 35 = .ok (.iconst 0, 1) := by decide +kernel
theorem dX12_headline_36 : decode cX12_headline 36 = .ok (.ireturn, 1) := by decide +kernel
theorem dX12_headline_37 : decode cX12_headline 37 = .ok (.aload_n 0, 1) := by decide +kernel
theorem dX12_headline_38 : decode cX12_headline 38 = .ok (.getfield 35, 3) := by decide +kernel
theorem dX12_headline_41 : decode cX12_headline 41 = .ok (.sipush 400, 3) := by decide +kernel
theorem dX12_headline_44 : decode cX12_headline 44 = .ok (.iload_n 1, 1) := by decide +kernel
theorem dX12_headline_45 : decode cX12_headline 45 = .ok (.imul, 1) := by decide +kernel
theorem dX12_headline_46 : decode cX12_headline 46 = .ok (.iload_n 2, 1) := by decide +kernel
theorem dX12_headline_47 : decode cX12_headline 47 = .ok (.iadd, 1) := by decide +kernel
theorem dX12_headline_48 : decode cX12_headline 48 = .ok (.iload_n 3, 1) := by decide +kernel
theorem dX12_headline_49 : decode cX12_headline 49 = .ok (.iastore, 1) := by decide +kernel
theorem dX12_headline_50 : decode cX12_headline 50 = .ok (.iconst 1, 1) := by decide +kernel
theorem dX12_headline_51 : decode cX12_headline 51 = .ok (.ireturn, 1) := by decide +kernel
theorem dX12_isAhead_0 : decode cX12_isAhead 0 = .ok (.aload_n 0, 1) := by decide +kernel
theorem dX12_isAhead_1 : decode cX12_isAhead 1 = .ok (.getfield 102, 3) := by decide +kernel
theorem dX12_isAhead_4 : decode cX12_isAhead 4 = .ok (.iload_n 1, 1) := by decide +kernel
theorem dX12_isAhead_5 : decode cX12_isAhead 5 = .ok (.iaload, 1) := by decide +kernel
theorem dX12_isAhead_6 : decode cX12_isAhead 6 = .ok (.aload_n 0, 1) := by decide +kernel
theorem dX12_isAhead_7 : decode cX12_isAhead 7 = .ok (.getfield 102, 3) := by decide +kernel
theorem dX12_isAhead_10 : decode cX12_isAhead 10 = .ok (.iload_n 2, 1) := by decide +kernel
theorem dX12_isAhead_11 : decode cX12_isAhead 11 = .ok (.iaload, 1) := by decide +kernel
theorem dX12_isAhead_12 : decode cX12_isAhead 12 = .ok (.if_icmp .eq 24, 3) := by decide +kernel
theorem dX12_isAhead_15 : decode cX12_isAhead 15 = .ok (.aload_n 0, 1) := by decide +kernel
theorem dX12_isAhead_16 : decode cX12_isAhead 16 = .ok (.getfield 102, 3) := by decide +kernel
theorem dX12_isAhead_19 : decode cX12_isAhead 19 = .ok (.iload_n 1, 1) := by decide +kernel
theorem dX12_isAhead_20 : decode cX12_isAhead 20 = .ok (.iaload, 1) := by decide +kernel
theorem dX12_isAhead_21 : decode cX12_isAhead 21 = .ok (.aload_n 0, 1) := by decide +kernel
theorem dX12_isAhead_22 : decode cX12_isAhead 22 = .ok (.getfield 102, 3) := by decide +kernel
theorem dX12_isAhead_25 : decode cX12_isAhead 25 = .ok (.iload_n 2, 1) := by decide +kernel
theorem dX12_isAhead_26 : decode cX12_isAhead 26 = .ok (.iaload, 1) := by decide +kernel
theorem dX12_isAhead_27 : decode cX12_isAhead 27 = .ok (.if_icmp .ge 7, 3) := by decide +kernel
theorem dX12_isAhead_30 : decode cX12_isAhead 30 = .ok (.iconst 1, 1) := by decide +kernel
theorem dX12_isAhead_31 : decode cX12_isAhead 31 = .ok (.goto 4, 3) := by decide +kernel
theorem dX12_isAhead_34 : decode cX12_isAhead 34 = .ok (.iconst 0, 1) := by decide +kernel
theorem dX12_isAhead_35 : decode cX12_isAhead 35 = .ok (.ireturn, 1) := by decide +kernel
theorem dX12_isAhead_36 : decode cX12_isAhead 36 = .ok (.aload_n 0, 1) := by decide +kernel
theorem dX12_isAhead_37 : decode cX12_isAhead 37 = .ok (.getfield 29, 3) := by decide +kernel
theorem dX12_isAhead_40 : decode cX12_isAhead 40 = .ok (.aload_n 0, 1) := by decide +kernel
theorem dX12_isAhead_41 : decode cX12_isAhead 41 = .ok (.getfield 96, 3) := by decide +kernel
theorem dX12_isAhead_44 : decode cX12_isAhead 44 = .ok (.iload_n 1, 1) := by decide +kernel
theorem dX12_isAhead_45 : decode cX12_isAhead 45 = .ok (.iaload, 1) := by decide +kernel
theorem dX12_isAhead_46 : decode cX12_isAhead 46 = .ok (.iaload, 1) := by decide +kernel
theorem dX12_isAhead_47 : decode cX12_isAhead 47 = .ok (.aload_n 0, 1) := by decide +kernel
theorem dX12_isAhead_48 : decode cX12_isAhead 48 = .ok (.getfield 90, 3) := by decide +kernel
theorem dX12_isAhead_51 : decode cX12_isAhead 51 = .ok (.iload_n 1, 1) := by decide +kernel
theorem dX12_isAhead_52 : decode cX12_isAhead 52 = .ok (.iaload, 1) := by decide +kernel
theorem dX12_isAhead_53 : decode cX12_isAhead 53 = .ok (.if_icmp .ne 7, 3) := by decide +kernel
theorem dX12_isAhead_56 : decode cX12_isAhead 56 = .ok (.iconst 1, 1) := by decide +kernel
theorem dX12_isAhead_57 : decode cX12_isAhead 57 = .ok (.goto 4, 3) := by decide +kernel
theorem dX12_isAhead_60 : decode cX12_isAhead 60 = .ok (.iconst 0, 1) := by decide +kernel
theorem dX12_isAhead_61 : decode cX12_isAhead 61 = .ok (.istore_n 3, 1) := by decide +kernel
theorem dX12_isAhead_62 : decode cX12_isAhead 62 = .ok (.aload_n 0, 1) := by decide +kernel
theorem dX12_isAhead_63 : decode cX12_isAhead 63 = .ok (.getfield 29, 3) := by decide +kernel
theorem dX12_isAhead_66 : decode cX12_isAhead 66 = .ok (.aload_n 0, 1) := by decide +kernel
theorem dX12_isAhead_67 : decode cX12_isAhead 67 = .ok (.getfield 96, 3) := by decide +kernel
theorem dX12_isAhead_70 : decode cX12_isAhead 70 = .ok (.iload_n 2, 1) := by decide +kernel
theorem dX12_isAhead_71 : decode cX12_isAhead 71 = .ok (.iaload, 1) := by decide +kernel
theorem dX12_isAhead_72 : decode cX12_isAhead 72 = .ok (.iaload, 1) := by decide +kernel
theorem dX12_isAhead_73 : decode cX12_isAhead 73 = .ok (.aload_n 0, 1) := by decide +kernel
theorem dX12_isAhead_74 : decode cX12_isAhead 74 = .ok (.getfield 90, 3) := by decide +kernel
theorem dX12_isAhead_77 : decode cX12_isAhead 77 = .ok (.iload_n 2, 1) := by decide +kernel
theorem dX12_isAhead_78 : decode cX12_isAhead 78 = .ok (.iaload, 1) := by decide +kernel
theorem dX12_isAhead_79 : decode cX12_isAhead 79 = .ok (.if_icmp .ne 7, 3) := by decide +kernel
theorem dX12_isAhead_82 : decode cX12_isAhead 82 = .ok (.iconst 1, 1) := by decide +kernel
theorem dX12_isAhead_83 : decode cX12_isAhead 83 = .ok (.goto 4, 3) := by decide +kernel
theorem dX12_isAhead_86 : decode cX12_isAhead 86 = .ok (.iconst 0, 1) := by decide +kernel
theorem dX12_isAhead_87 : decode cX12_isAhead 87 = .ok (.istore 4, 2) := by decide +kernel
theorem dX12_isAhead_89 : decode cX12_isAhead 89 = .ok (.iload_n 3, 1) := by decide +kernel
theorem dX12_isAhead_90 : decode cX12_isAhead 90 = .ok (.iload 4, 2) := by decide +kernel
theorem dX12_isAhead_92 : decode cX12_isAhead 92 = .ok (.if_icmp .eq 5, 3) := by decide +kernel
theorem dX12_isAhead_95 : decode cX12_isAhead 95 = .ok (.iload_n 3, 1) := by decide +kernel
theorem dX12_isAhead_96 : decode cX12_isAhead 96 = .ok (.ireturn, 1) := by decide +kernel
theorem dX12_isAhead_97 : decode cX12_isAhead 97 = .ok (.aload_n 0, 1) := by decide +kernel
theorem dX12_isAhead_98 : decode cX12_isAhead 98 = .ok (.getfield 19, 3) := by decide +kernel
theorem dX12_isAhead_101 : decode cX12_isAhead 101 = .ok (.aload_n 0, 1) := by decide +kernel
theorem dX12_isAhead_102 : decode cX12_isAhead 102 = .ok (.getfield 90, 3) := by decide +kernel
theorem dX12_isAhead_105 : decode cX12_isAhead 105 = .ok (.iload_n 1, 1) := by decide +kernel
theorem dX12_isAhead_106 : decode cX12_isAhead 106 = .ok (.iaload, 1) := by decide +kernel
theorem dX12_isAhead_107 : decode cX12_isAhead 107 = .ok (.iaload, 1) := by decide +kernel
theorem dX12_isAhead_108 : decode cX12_isAhead 108 = .ok (.aload_n 0, 1) := by decide +kernel
theorem dX12_isAhead_109 : decode cX12_isAhead 109 = .ok (.getfield 19, 3) := by decide +kernel
theorem dX12_isAhead_112 : decode cX12_isAhead 112 = .ok (.aload_n 0, 1) := by decide +kernel
theorem dX12_isAhead_113 : decode cX12_isAhead 113 = .ok (.getfield 90, 3) := by decide +kernel
theorem dX12_isAhead_116 : decode cX12_isAhead 116 = .ok (.iload_n 2, 1) := by decide +kernel
theorem dX12_isAhead_117 : decode cX12_isAhead 117 = .ok (.iaload, 1) := by decide +kernel
theorem dX12_isAhead_118 : decode cX12_isAhead 118 = .ok (.iaload, 1) := by decide +kernel
theorem dX12_isAhead_119 : decode cX12_isAhead 119 = .ok (.if_icmp .eq 36, 3) := by decide +kernel
theorem dX12_isAhead_122 : decode cX12_isAhead 122 = .ok (.aload_n 0, 1) := by decide +kernel
theorem dX12_isAhead_123 : decode cX12_isAhead 123 = .ok (.getfield 19, 3) := by decide +kernel
theorem dX12_isAhead_126 : decode cX12_isAhead 126 = .ok (.aload_n 0, 1) := by decide +kernel
theorem dX12_isAhead_127 : decode cX12_isAhead 127 = .ok (.getfield 90, 3) := by decide +kernel
theorem dX12_isAhead_130 : decode cX12_isAhead 130 = .ok (.iload_n 1, 1) := by decide +kernel
theorem dX12_isAhead_131 : decode cX12_isAhead 131 = .ok (.iaload, 1) := by decide +kernel
theorem dX12_isAhead_132 : decode cX12_isAhead 132 = .ok (.iaload, 1) := by decide +kernel
theorem dX12_isAhead_133 : decode cX12_isAhead 133 = .ok (.aload_n 0, 1) := by decide +kernel
theorem dX12_isAhead_134 : decode cX12_isAhead 134 = .ok (.getfield 19, 3) := by decide +kernel
theorem dX12_isAhead_137 : decode cX12_isAhead 137 = .ok (.aload_n 0, 1) := by decide +kernel
theorem dX12_isAhead_138 : decode cX12_isAhead 138 = .ok (.getfield 90, 3) := by decide +kernel
theorem dX12_isAhead_141 : decode cX12_isAhead 141 = .ok (.iload_n 2, 1) := by decide +kernel
theorem dX12_isAhead_142 : decode cX12_isAhead 142 = .ok (.iaload, 1) := by decide +kernel
theorem dX12_isAhead_143 : decode cX12_isAhead 143 = .ok (.iaload, 1) := by decide +kernel
theorem dX12_isAhead_144 : decode cX12_isAhead 144 = .ok (.if_icmp .le 7, 3) := by decide +kernel
theorem dX12_isAhead_147 : decode cX12_isAhead 147 = .ok (.iconst 1, 1) := by decide +kernel
theorem dX12_isAhead_148 : decode cX12_isAhead 148 = .ok (.goto 17, 3) := by decide +kernel
theorem dX12_isAhead_151 : decode cX12_isAhead 151 = .ok (.iconst 0, 1) := by decide +kernel
theorem dX12_isAhead_152 : decode cX12_isAhead 152 = .ok (.goto 13, 3) := by decide +kernel
theorem dX12_isAhead_155 : decode cX12_isAhead 155 = .ok (.iload_n 1, 1) := by decide +kernel
theorem dX12_isAhead_156 : decode cX12_isAhead 156 = .ok (.iload_n 2, 1) := by decide +kernel
theorem dX12_isAhead_157 : decode cX12_isAhead 157 = .ok (.if_icmp .ge 7, 3) := by decide +kernel
theorem dX12_isAhead_160 : decode cX12_isAhead 160 = .ok (.iconst 1, 1) := by decide +kernel
theorem dX12_isAhead_161 : decode cX12_isAhead 161 = .ok (.goto 4, 3) := by decide +kernel
theorem dX12_isAhead_164 : decode cX12_isAhead 164 = .ok (.iconst 0, 1) := by decide +kernel
theorem dX12_isAhead_165 : decode cX12_isAhead 165 = .ok (.ireturn, 1) := by decide +kernel
theorem dX12_isBought_0 : decode cX12_isBought 0 = .ok (.iconst 0, 1) := by decide +kernel
theorem dX12_isBought_1 : decode cX12_isBought 1 = .ok (.istore_n 2, 1) := by decide +kernel
theorem dX12_isBought_2 : decode cX12_isBought 2 = .ok (.iload_n 2, 1) := by decide +kernel
theorem dX12_isBought_3 : decode cX12_isBought 3 = .ok (.aload_n 0, 1) := by decide +kernel
theorem dX12_isBought_4 : decode cX12_isBought 4 = .ok (.getfield 389, 3) := by decide +kernel
theorem dX12_isBought_7 : decode cX12_isBought 7 = .ok (.if_icmp .ge 21, 3) := by decide +kernel
theorem dX12_isBought_10 : decode cX12_isBought 10 = .ok (.aload_n 0, 1) := by decide +kernel
theorem dX12_isBought_11 : decode cX12_isBought 11 = .ok (.getfield 105, 3) := by decide +kernel
theorem dX12_isBought_14 : decode cX12_isBought 14 = .ok (.iload_n 2, 1) := by decide +kernel
theorem dX12_isBought_15 : decode cX12_isBought 15 = .ok (.iaload, 1) := by decide +kernel
theorem dX12_isBought_16 : decode cX12_isBought 16 = .ok (.iload_n 1, 1) := by decide +kernel
theorem dX12_isBought_17 : decode cX12_isBought 17 = .ok (.if_icmp .ne 5, 3) := by decide +kernel
theorem dX12_isBought_20 : decode cX12_isBought 20 = .ok (.iconst 1, 1) := by decide +kernel
theorem dX12_isBought_21 : decode cX12_isBought 21 = .ok (.ireturn, 1) := by decide +kernel
theorem dX12_isBought_22 : decode cX12_isBought 22 = .ok (.iinc 2 1, 3) := by decide +kernel
theorem dX12_isBought_25 : decode cX12_isBought 25 = .ok (.goto (-23), 3) := by decide +kernel
theorem dX12_isBought_28 : decode cX12_isBought 28 = .ok (.iconst 0, 1) := by decide +kernel
theorem dX12_isBought_29 : decode cX12_isBought 29 = .ok (.ireturn, 1) := by decide +kernel
theorem dX12_isBoy_0 : decode cX12_isBoy 0 = .ok (.iload_n 1, 1) := by decide +kernel
theorem dX12_isBoy_1 : decode cX12_isBoy 1 = .ok (.ifCond .lt 15, 3) := by decide +kernel
theorem dX12_isBoy_4 : decode cX12_isBoy 4 = .ok (.iload_n 1, 1) := by decide +kernel
theorem dX12_isBoy_5 : decode cX12_isBoy 5 = .ok (.aload_n 0, 1) := by decide +kernel
theorem dX12_isBoy_6 : decode cX12_isBoy 6 = .ok (.getfield 208, 3) := by decide +kernel
theorem dX12_isBoy_9 : decode cX12_isBoy 9 = .ok (.if_icmp .ge 7, 3) := by decide +kernel
theorem dX12_isBoy_12 : decode cX12_isBoy 12 = .ok (.iconst 1, 1) := by decide +kernel
theorem dX12_isBoy_13 : decode cX12_isBoy 13 = .ok (.goto 4, 3) := by decide +kernel
theorem dX12_isBoy_16 : decode cX12_isBoy 16 = .ok (.iconst 0, 1) := by decide +kernel
theorem dX12_isBoy_17 : decode cX12_isBoy 17 = .ok (.ireturn, 1) := by decide +kernel
theorem dX12_isCorner_0 : decode cX12_isCorner 0 = .ok (.iload_n 0, 1) := by decide +kernel
theorem dX12_isCorner_1 : decode cX12_isCorner 1 = .ok (.ifCond .lt 13, 3) := by decide +kernel
theorem dX12_isCorner_4 : decode cX12_isCorner 4 = .ok (.iload_n 0, 1) := by decide +kernel
theorem dX12_isCorner_5 : decode cX12_isCorner 5 = .ok (.bipush 10, 2) := by decide +kernel
theorem dX12_isCorner_7 : decode cX12_isCorner 7 = .ok (.if_icmp .ge 7, 3) := by decide +kernel
theorem dX12_isCorner_10 : decode cX12_isCorner 10 = .ok (.iconst 1, 1) := by decide +kernel
theorem dX12_isCorner_11 : decode cX12_isCorner 11 = .ok (.goto 4, 3) := by decide +kernel
theorem dX12_isCorner_14 : decode cX12_isCorner 14 = .ok (.iconst 0, 1) := by decide +kernel
theorem dX12_isCorner_15 : decode cX12_isCorner 15 = .ok (.ireturn, 1) := by decide +kernel
theorem dX12_isDay_0 : decode cX12_isDay 0 = .ok (.iload_n 0, 1) := by decide +kernel
theorem dX12_isDay_1 : decode cX12_isDay 1 = .ok (.ifCond .lt 14, 3) := by decide +kernel
theorem dX12_isDay_4 : decode cX12_isDay 4 = .ok (.iload_n 0, 1) := by decide +kernel
theorem dX12_isDay_5 : decode cX12_isDay 5 = .ok (.sipush 400, 3) := by decide +kernel
theorem dX12_isDay_8 : decode cX12_isDay 8 = .ok (.if_icmp .ge 7, 3) := by decide +kernel
theorem dX12_isDay_11 : decode cX12_isDay 11 = .ok (.iconst 1, 1) := by decide +kernel
theorem dX12_isDay_12 : decode cX12_isDay 12 = .ok (.goto 4, 3) := by decide +kernel
theorem dX12_isDay_15 : decode cX12_isDay 15 = .ok (.iconst 0, 1) := by decide +kernel
theorem dX12_isDay_16 : decode cX12_isDay 16 = .ok (.ireturn, 1) := by decide +kernel
theorem dX12_isDigit_0 : decode cX12_isDigit 0 = .ok (.iload_n 0, 1) := by decide +kernel
theorem dX12_isDigit_1 : decode cX12_isDigit 1 = .ok (.bipush 48, 2) := by decide +kernel
theorem dX12_isDigit_3 : decode cX12_isDigit 3 = .ok (.if_icmp .lt 13, 3) := by decide +kernel
theorem dX12_isDigit_6 : decode cX12_isDigit 6 = .ok (.iload_n 0, 1) := by decide +kernel
theorem dX12_isDigit_7 : decode cX12_isDigit 7 = .ok (.bipush 57, 2) := by decide +kernel
theorem dX12_isDigit_9 : decode cX12_isDigit 9 = .ok (.if_icmp .gt 7, 3) := by decide +kernel
theorem dX12_isDigit_12 : decode cX12_isDigit 12 = .ok (.iconst 1, 1) := by decide +kernel
theorem dX12_isDigit_13 : decode cX12_isDigit 13 = .ok (.goto 4, 3) := by decide +kernel
theorem dX12_isDigit_16 : decode cX12_isDigit 16 = .ok (.iconst 0, 1) := by decide +kernel
theorem dX12_isDigit_17 : decode cX12_isDigit 17 = .ok (.ireturn, 1) := by decide +kernel
theorem dX12_isFirst_0 : decode cX12_isFirst 0 = .ok (.iconst 0, 1) := by decide +kernel
theorem dX12_isFirst_1 : decode cX12_isFirst 1 = .ok (.istore_n 2, 1) := by decide +kernel
theorem dX12_isFirst_2 : decode cX12_isFirst 2 = .ok (.iload_n 2, 1) := by decide +kernel
theorem dX12_isFirst_3 : decode cX12_isFirst 3 = .ok (.iload_n 1, 1) := by decide +kernel
theorem dX12_isFirst_4 : decode cX12_isFirst 4 = .ok (.if_icmp .ge 56, 3) := by decide +kernel
theorem dX12_isFirst_7 : decode cX12_isFirst 7 = .ok (.aload_n 0, 1) := by decide +kernel
theorem dX12_isFirst_8 : decode cX12_isFirst 8 = .ok (.getfield 105, 3) := by decide +kernel
theorem dX12_isFirst_11 : decode cX12_isFirst 11 = .ok (.iload_n 2, 1) := by decide +kernel
theorem dX12_isFirst_12 : decode cX12_isFirst 12 = .ok (.iaload, 1) := by decide +kernel
theorem dX12_isFirst_13 : decode cX12_isFirst 13 = .ok (.aload_n 0, 1) := by decide +kernel
theorem dX12_isFirst_14 : decode cX12_isFirst 14 = .ok (.getfield 105, 3) := by decide +kernel
theorem dX12_isFirst_17 : decode cX12_isFirst 17 = .ok (.iload_n 1, 1) := by decide +kernel
theorem dX12_isFirst_18 : decode cX12_isFirst 18 = .ok (.iaload, 1) := by decide +kernel
theorem dX12_isFirst_19 : decode cX12_isFirst 19 = .ok (.if_icmp .ne 35, 3) := by decide +kernel
theorem dX12_isFirst_22 : decode cX12_isFirst 22 = .ok (.aload_n 0, 1) := by decide +kernel
theorem dX12_isFirst_23 : decode cX12_isFirst 23 = .ok (.getfield 93, 3) := by decide +kernel
theorem dX12_isFirst_26 : decode cX12_isFirst 26 = .ok (.iload_n 2, 1) := by decide +kernel
theorem dX12_isFirst_27 : decode cX12_isFirst 27 = .ok (.iaload, 1) := by decide +kernel
theorem dX12_isFirst_28 : decode cX12_isFirst 28 = .ok (.aload_n 0, 1) := by decide +kernel
theorem dX12_isFirst_29 : decode cX12_isFirst 29 = .ok (.getfield 93, 3) := by decide +kernel
theorem dX12_isFirst_32 : decode cX12_isFirst 32 = .ok (.iload_n 1, 1) := by decide +kernel
theorem dX12_isFirst_33 : decode cX12_isFirst 33 = .ok (.iaload, 1) := by decide +kernel
theorem dX12_isFirst_34 : decode cX12_isFirst 34 = .ok (.if_icmp .ne 20, 3) := by decide +kernel
theorem dX12_isFirst_37 : decode cX12_isFirst 37 = .ok (.aload_n 0, 1) := by decide +kernel
theorem dX12_isFirst_38 : decode cX12_isFirst 38 = .ok (.getfield 96, 3) := by decide +kernel
theorem dX12_isFirst_41 : decode cX12_isFirst 41 = .ok (.iload_n 2, 1) := by decide +kernel
theorem dX12_isFirst_42 : decode cX12_isFirst 42 = .ok (.iaload, 1) := by decide +kernel
theorem dX12_isFirst_43 : decode cX12_isFirst 43 = .ok (.aload_n 0, 1) := by decide +kernel
theorem dX12_isFirst_44 : decode cX12_isFirst 44 = .ok (.getfield 96, 3) := by decide +kernel
theorem dX12_isFirst_47 : decode cX12_isFirst 47 = .ok (.iload_n 1, 1) := by decide +kernel
theorem dX12_isFirst_48 : decode cX12_isFirst 48 = .ok (.iaload, 1) := by decide +kernel
theorem dX12_isFirst_49 : decode cX12_isFirst 49 = .ok (.if_icmp .ne 5, 3) := by decide +kernel
theorem dX12_isFirst_52 : decode cX12_isFirst 52 = .ok (.iconst 0, 1) := by decide +kernel
theorem dX12_isFirst_53 : decode cX12_isFirst 53 = .ok (.ireturn, 1) := by decide +kernel
theorem dX12_isFirst_54 : decode cX12_isFirst 54 = .ok (.iinc 2 1, 3) := by decide +kernel
theorem dX12_isFirst_57 : decode cX12_isFirst 57 = .ok (.goto (-55), 3) := by decide +kernel
theorem dX12_isFirst_60 : decode cX12_isFirst 60 = .ok (.iconst 1, 1) := by decide +kernel
theorem dX12_isFirst_61 : decode cX12_isFirst 61 = .ok (.ireturn, 1) := by decide +kernel
theorem dX12_isIn_0 : decode cX12_isIn 0 = .ok (.iload_n 0, 1) := by decide +kernel
theorem dX12_isIn_1 : decode cX12_isIn 1 = .ok (.iload_n 1, 1) := by decide +kernel
theorem dX12_isIn_2 : decode cX12_isIn 2 = .ok (.if_icmp .lt 12, 3) := by decide +kernel
theorem dX12_isIn_5 : decode cX12_isIn 5 = .ok (.iload_n 0, 1) := by decide +kernel
theorem dX12_isIn_6 : decode cX12_isIn 6 = .ok (.iload_n 2, 1) := by decide +kernel
theorem dX12_isIn_7 : decode cX12_isIn 7 = .ok (.if_icmp .gt 7, 3) := by decide +kernel
theorem dX12_isIn_10 : decode cX12_isIn 10 = .ok (.iconst 1, 1) := by decide +kernel
theorem dX12_isIn_11 : decode cX12_isIn 11 = .ok (.goto 4, 3) := by decide +kernel
theorem dX12_isIn_14 : decode cX12_isIn 14 = .ok (.iconst 0, 1) := by decide +kernel
theorem dX12_isIn_15 : decode cX12_isIn 15 = .ok (.ireturn, 1) := by decide +kernel
theorem dX12_isKey_0 : decode cX12_isKey 0 = .ok (.aload_n 0, 1) := by decide +kernel
theorem dX12_isKey_1 : decode cX12_isKey 1 = .ok (.getfield 262, 3) := by decide +kernel
theorem dX12_isKey_4 : decode cX12_isKey 4 = .ok (.iconst 2, 1) := by decide +kernel
theorem dX12_isKey_5 : decode cX12_isKey 5 = .ok (.if_icmp .ne 16, 3) := by decide +kernel
theorem dX12_isKey_8 : decode cX12_isKey 8 = .ok (.aload_n 0, 1) := by decide +kernel
theorem dX12_isKey_9 : decode cX12_isKey 9 = .ok (.getfield 277, 3) := by decide +kernel
theorem dX12_isKey_12 : decode cX12_isKey 12 = .ok (.lload_n 1, 1) := by decide +kernel
theorem dX12_isKey_13 : decode cX12_isKey 13 = .ok (.lcmp, 1) := by decide +kernel
theorem dX12_isKey_14 : decode cX12_isKey 14 = .ok (.ifCond .ne 7, 3) := by decide +kernel
theorem dX12_isKey_17 : decode cX12_isKey 17 = .ok (.iconst 1, 1) := by decide +kernel
theorem dX12_isKey_18 : decode cX12_isKey 18 = .ok (.goto 4, 3) := by decide +kernel
theorem dX12_isKey_21 : decode cX12_isKey 21 = .ok (.iconst 0, 1) := by decide +kernel
theorem dX12_isKey_22 : decode cX12_isKey 22 = .ok (.ireturn, 1) := by decide +kernel
theorem dX12_isLetter_0 : decode cX12_isLetter 0 = .ok (.iload_n 0, 1) := by decide +kernel
theorem dX12_isLetter_1 : decode cX12_isLetter 1 = .ok (.bipush 97, 2) := by decide +kernel
theorem dX12_isLetter_3 : decode cX12_isLetter 3 = .ok (.if_icmp .lt 13, 3) := by decide +kernel
theorem dX12_isLetter_6 : decode cX12_isLetter 6 = .ok (.iload_n 0, 1) := by decide +kernel
theorem dX12_isLetter_7 : decode cX12_isLetter 7 = .ok (.bipush 122, 2) := by decide +kernel
theorem dX12_isLetter_9 : decode cX12_isLetter 9 = .ok (.if_icmp .gt 7, 3) := by decide +kernel
theorem dX12_isLetter_12 : decode cX12_isLetter 12 = .ok (.iconst 1, 1) := by decide +kernel
theorem dX12_isLetter_13 : decode cX12_isLetter 13 = .ok (.goto 4, 3) := by decide +kernel
theorem dX12_isLetter_16 : decode cX12_isLetter 16 = .ok (.iconst 0, 1) := by decide +kernel
theorem dX12_isLetter_17 : decode cX12_isLetter 17 = .ok (.ireturn, 1) := by decide +kernel
theorem dX12_isMark_0 : decode cX12_isMark 0 = .ok (.iload_n 0, 1) := by decide +kernel
theorem dX12_isMark_1 : decode cX12_isMark 1 = .ok (.bipush 59, 2) := by decide +kernel
theorem dX12_isMark_3 : decode cX12_isMark 3 = .ok (.if_icmp .eq 33, 3) := by decide +kernel
theorem dX12_isMark_6 : decode cX12_isMark 6 = .ok (.iload_n 0, 1) := by decide +kernel
theorem dX12_isMark_7 : decode cX12_isMark 7 = .ok (.bipush 40, 2) := by decide +kernel
theorem dX12_isMark_9 : decode cX12_isMark 9 = .ok (.if_icmp .eq 27, 3) := by decide +kernel
theorem dX12_isMark_12 : decode cX12_isMark 12 = .ok (.iload_n 0, 1) := by decide +kernel
theorem dX12_isMark_13 : decode cX12_isMark 13 = .ok (.bipush 41, 2) := by decide +kernel
theorem dX12_isMark_15 : decode cX12_isMark 15 = .ok (.if_icmp .eq 21, 3) := by decide +kernel
theorem dX12_isMark_18 : decode cX12_isMark 18 = .ok (.iload_n 0, 1) := by decide +kernel
theorem dX12_isMark_19 : decode cX12_isMark 19 = .ok (.bipush 60, 2) := by decide +kernel
theorem dX12_isMark_21 : decode cX12_isMark 21 = .ok (.if_icmp .eq 15, 3) := by decide +kernel
theorem dX12_isMark_24 : decode cX12_isMark 24 = .ok (.iload_n 0, 1) := by decide +kernel
theorem dX12_isMark_25 : decode cX12_isMark 25 = .ok (.bipush 61, 2) := by decide +kernel
theorem dX12_isMark_27 : decode cX12_isMark 27 = .ok (.if_icmp .eq 9, 3) := by decide +kernel
theorem dX12_isMark_30 : decode cX12_isMark 30 = .ok (.iload_n 0, 1) := by decide +kernel
theorem dX12_isMark_31 : decode cX12_isMark 31 = .ok (.bipush 62, 2) := by decide +kernel
theorem dX12_isMark_33 : decode cX12_isMark 33 = .ok (.if_icmp .ne 7, 3) := by decide +kernel
theorem dX12_isMark_36 : decode cX12_isMark 36 = .ok (.iconst 1, 1) := by decide +kernel
theorem dX12_isMark_37 : decode cX12_isMark 37 = .ok (.goto 4, 3) := by decide +kernel
theorem dX12_isMark_40 : decode cX12_isMark 40 = .ok (.iconst 0, 1) := by decide +kernel
theorem dX12_isMark_41 : decode cX12_isMark 41 = .ok (.ireturn, 1) := by decide +kernel
theorem dX12_isNot_0 : decode cX12_isNot 0 = .ok (.aload_n 0, 1) := by decide +kernel
theorem dX12_isNot_1 : decode cX12_isNot 1 = .ok (.bipush 110, 2) := by decide +kernel
theorem dX12_isNot_3 : decode cX12_isNot 3 = .ok (.bipush 111, 2) := by decide +kernel
theorem dX12_isNot_5 : decode cX12_isNot 5 = .ok (.bipush 116, 2) := by decide +kernel
theorem dX12_isNot_7 : decode cX12_isNot 7 = .ok (.iconst 0, 1) := by decide +kernel
theorem dX12_isNot_8 : decode cX12_isNot 8 = .ok (.iconst 0, 1) := by decide +kernel
theorem dX12_isNot_9 : decode cX12_isNot 9 = .ok (.invokestatic 297, 3) := by decide +kernel
theorem dX12_isNot_12 : decode cX12_isNot 12 = .ok (.invokevirtual 301, 3) := by decide +kernel
theorem dX12_isNot_15 : decode cX12_isNot 15 = .ok (.ireturn, 1) := by decide +kernel
theorem dX12_isPaper_0 : decode cX12_isPaper 0 = .ok (.iload_n 0, 1) := by decide +kernel
theorem dX12_isPaper_1 : decode cX12_isPaper 1 = .ok (.ifCond .lt 12, 3) := by decide +kernel
theorem dX12_isPaper_4 : decode cX12_isPaper 4 = .ok (.iload_n 0, 1) := by decide +kernel
theorem dX12_isPaper_5 : decode cX12_isPaper 5 = .ok (.iconst 4, 1) := by decide +kernel
theorem dX12_isPaper_6 : decode cX12_isPaper 6 = .ok (.if_icmp .ge 7, 3) := by decide +kernel
theorem dX12_isPaper_9 : decode cX12_isPaper 9 = .ok (.iconst 1, 1) := by decide +kernel
theorem dX12_isPaper_10 : decode cX12_isPaper 10 = .ok (.goto 4, 3) := by decide +kernel
theorem dX12_isPaper_13 : decode cX12_isPaper 13 = .ok (.iconst 0, 1) := by decide +kernel
theorem dX12_isPaper_14 : decode cX12_isPaper 14 = .ok (.ireturn, 1) := by decide +kernel
theorem dX12_isSign_0 : decode cX12_isSign 0 = .ok (.aload_n 0, 1) := by decide +kernel
theorem dX12_isSign_1 : decode cX12_isSign 1 = .ok (.getfield 262, 3) := by decide +kernel
theorem dX12_isSign_4 : decode cX12_isSign 4 = .ok (.iconst 4, 1) := by decide +kernel
theorem dX12_isSign_5 : decode cX12_isSign 5 = .ok (.if_icmp .ne 15, 3) := by decide +kernel
theorem dX12_isSign_8 : decode cX12_isSign 8 = .ok (.aload_n 0, 1) := by decide +kernel
theorem dX12_isSign_9 : decode cX12_isSign 9 = .ok (.getfield 274, 3) := by decide +kernel
theorem dX12_isSign_12 : decode cX12_isSign 12 = .ok (.iload_n 1, 1) := by decide +kernel
theorem dX12_isSign_13 : decode cX12_isSign 13 = .ok (.if_icmp .ne 7, 3) := by decide +kernel
theorem dX12_isSign_16 : decode cX12_isSign 16 = .ok (.iconst 1, 1) := by decide +kernel
theorem dX12_isSign_17 : decode cX12_isSign 17 = .ok (.goto 4, 3) := by decide +kernel
theorem dX12_isSign_20 : decode cX12_isSign 20 = .ok (.iconst 0, 1) := by decide +kernel
theorem dX12_isSign_21 : decode cX12_isSign 21 = .ok (.ireturn, 1) := by decide +kernel
theorem dX12_isSum_0 : decode cX12_isSum 0 = .ok (.iload_n 0, 1) := by decide +kernel
theorem dX12_isSum_1 : decode cX12_isSum 1 = .ok (.ifCond .lt 14, 3) := by decide +kernel
theorem dX12_isSum_4 : decode cX12_isSum 4 = .ok (.iload_n 0, 1) := by decide +kernel
theorem dX12_isSum_5 : decode cX12_isSum 5 = .ok (.ldc_w 466, 3) := by decide +kernel
theorem dX12_isSum_8 : decode cX12_isSum 8 = .ok (.if_icmp .gt 7, 3) := by decide +kernel
theorem dX12_isSum_11 : decode cX12_isSum 11 = .ok (.iconst 1, 1) := by decide +kernel
theorem dX12_isSum_12 : decode cX12_isSum 12 = .ok (.goto 4, 3) := by decide +kernel
theorem dX12_isSum_15 : decode cX12_isSum 15 = .ok (.iconst 0, 1) := by decide +kernel
theorem dX12_isSum_16 : decode cX12_isSum 16 = .ok (.ireturn, 1) := by decide +kernel
theorem dX12_layWays_0 : decode cX12_layWays 0 = .ok (.aload_n 0, 1) := by decide +kernel
theorem dX12_layWays_1 : decode cX12_layWays 1 = .ok (.getfield 246, 3) := by decide +kernel
theorem dX12_layWays_4 : decode cX12_layWays 4 = .ok (.ifCond .eq 4, 3) := by decide +kernel
theorem dX12_layWays_7 : decode cX12_layWays 7 = .ok (.return_, 1) := by decide +kernel
theorem dX12_layWays_8 : decode cX12_layWays 8 = .ok (.aload_n 0, 1) := by decide +kernel
theorem dX12_layWays_9 : decode cX12_layWays 9 = .ok (.iconst 1, 1) := by decide +kernel
theorem dX12_layWays_10 : decode cX12_layWays 10 = .ok (.putfield 246, 3) := by decide +kernel
theorem dX12_layWays_13 : decode cX12_layWays 13 = .ok (.iconst 0, 1) := by decide +kernel
theorem dX12_layWays_14 : decode cX12_layWays 14 = .ok (.istore_n 1, 1) := by decide +kernel
theorem dX12_layWays_15 : decode cX12_layWays 15 = .ok (.iload_n 1, 1) := by decide +kernel
theorem dX12_layWays_16 : decode cX12_layWays 16 = .ok (.bipush 100, 2) := by decide +kernel
theorem dX12_layWays_18 : decode cX12_layWays 18 = .ok (.if_icmp .ge 28, 3) := by decide +kernel
theorem dX12_layWays_21 : decode cX12_layWays 21 = .ok (.aload_n 0, 1) := by decide +kernel
theorem dX12_layWays_22 : decode cX12_layWays 22 = .ok (.getfield 47, 3) := by decide +kernel
theorem dX12_layWays_25 : decode cX12_layWays 25 = .ok (.iload_n 1, 1) := by decide +kernel
theorem dX12_layWays_26 : decode cX12_layWays 26 = .ok (.iload_n 1, 1) := by decide +kernel
theorem dX12_layWays_27 : decode cX12_layWays 27 = .ok (.bipush 11, 2) := by decide +kernel
theorem dX12_layWays_29 : decode cX12_layWays 29 = .ok (.irem, 1) := by decide +kernel
theorem dX12_layWays_30 : decode cX12_layWays 30 = .ok (.ifCond .ne 7, 3) := by decide +kernel
theorem dX12_layWays_33 : decode cX12_layWays 33 = .ok (.iconst 0, 1) := by decide +kernel
theorem dX12_layWays_34 : decode cX12_layWays 34 = .ok (.goto 5, 3) := by decide +kernel
theorem dX12_layWays_37 : decode cX12_layWays 37 = .ok (.bipush 10, 2) := by decide +kernel
theorem dX12_layWays_39 : decode cX12_layWays 39 = .ok (.iastore, 1) := by decide +kernel
theorem dX12_layWays_40 : decode cX12_layWays 40 = .ok (.iinc 1 1, 3) := by decide +kernel
theorem dX12_layWays_43 : decode cX12_layWays 43 = .ok (.goto (-28), 3) := by decide +kernel
theorem dX12_layWays_46 : decode cX12_layWays 46 = .ok (.return_, 1) := by decide +kernel
theorem dX12_minutes_0 : decode cX12_minutes 0 = .ok (.aload_n 0, 1) := by decide +kernel
theorem dX12_minutes_1 : decode cX12_minutes 1 = .ok (.iconst 0, 1) := by decide +kernel
theorem dX12_minutes_2 : decode cX12_minutes 2 = .ok (.putfield 198, 3) := by decide +kernel
theorem dX12_minutes_5 : decode cX12_minutes 5 = .ok (.iload_n 1, 1) := by decide +kernel
theorem dX12_minutes_6 : decode cX12_minutes 6 = .ok (.invokestatic 219, 3) := by decide +kernel
theorem dX12_minutes_9 : decode cX12_minutes 9 = .ok (.ifCond .eq 26, 3) := by decide +kernel
theorem dX12_minutes_12 : decode cX12_minutes 12 = .ok (.iload_n 2, 1) := by decide +kernel
theorem dX12_minutes_13 : decode cX12_minutes 13 = .ok (.invokestatic 219, 3) := by decide +kernel
theorem dX12_minutes_16 : decode cX12_minutes 16 = .ok (.ifCond .eq 19, 3) := by decide +kernel
theorem dX12_minutes_19 : decode cX12_minutes 19 = .ok (.iload_n 1, 1) := by decide +kernel
theorem dX12_minutes_20 : decode cX12_minutes 20 = .ok (.iload_n 2, 1) := by decide +kernel
theorem dX12_minutes_21 : decode cX12_minutes 21 = .ok (.if_icmp .eq 14, 3) := by decide +kernel
theorem dX12_minutes_24 : decode cX12_minutes 24 = .ok (.iload_n 3, 1) := by decide +kernel
theorem dX12_minutes_25 : decode cX12_minutes 25 = .ok (.iconst 1, 1) := by decide +kernel
theorem dX12_minutes_26 : decode cX12_minutes 26 = .ok (.sipush 200, 3) := by decide +kernel
theorem dX12_minutes_29 : decode cX12_minutes 29 = .ok (.invokestatic 211, 3) := by decide +kernel
theorem dX12_minutes_32 : decode cX12_minutes 32 = .ok (.ifCond .ne 5, 3) := by decide +kernel
theorem dX12_minutes_35 : decode cX12_minutes 35 = .ok (.iconst 0, 1) := by decide +kernel
theorem dX12_minutes_36 : decode cX12_minutes 36 = .ok (.ireturn, 1) := by decide +kernel
theorem dX12_minutes_37 : decode cX12_minutes 37 = .ok (.aload_n 0, 1) := by decide +kernel
theorem dX12_minutes_38 : decode cX12_minutes 38 = .ok (.invokevirtual 250, 3) := by decide +kernel
theorem dX12_minutes_41 : decode cX12_minutes 41 = .ok (.aload_n 0, 1) := by decide +kernel
theorem dX12_minutes_42 : decode cX12_minutes 42 = .ok (.getfield 47, 3) := by decide +kernel
theorem dX12_minutes_45 : decode cX12_minutes 45 = .ok (.bipush 10, 2) := by decide +kernel
theorem dX12_minutes_47 : decode cX12_minutes 47 = .ok (.iload_n 1, 1) := by decide +kernel
theorem dX12_minutes_48 : decode cX12_minutes 48 = .ok (.imul, 1) := by decide +kernel
theorem dX12_minutes_49 : decode cX12_minutes 49 = .ok (.iload_n 2, 1) := by decide +kernel
theorem dX12_minutes_50 : decode cX12_minutes 50 = .ok (.iadd, 1) := by decide +kernel
theorem dX12_minutes_51 : decode cX12_minutes 51 = .ok (.iload_n 3, 1) := by decide +kernel
theorem dX12_minutes_52 : decode cX12_minutes 52 = .ok (.iastore, 1) := by decide +kernel
theorem dX12_minutes_53 : decode cX12_minutes 53 = .ok (.aload_n 0, 1) := by decide +kernel
theorem dX12_minutes_54 : decode cX12_minutes 54 = .ok (.getfield 47, 3) := by decide +kernel
theorem dX12_minutes_57 : decode cX12_minutes 57 = .ok (.bipush 10, 2) := by decide +kernel
theorem dX12_minutes_59 : decode cX12_minutes 59 = .ok (.iload_n 2, 1) := by decide +kernel
theorem dX12_minutes_60 : decode cX12_minutes 60 = .ok (.imul, 1) := by decide +kernel
theorem dX12_minutes_61 : decode cX12_minutes 61 = .ok (.iload_n 1, 1) := by decide +kernel
theorem dX12_minutes_62 : decode cX12_minutes 62 = .ok (.iadd, 1) := by decide +kernel
theorem dX12_minutes_63 : decode cX12_minutes 63 = .ok (.iload_n 3, 1) := by decide +kernel
theorem dX12_minutes_64 : decode cX12_minutes 64 = .ok (.iastore, 1) := by decide +kernel
theorem dX12_minutes_65 : decode cX12_minutes 65 = .ok (.iconst 1, 1) := by decide +kernel
theorem dX12_minutes_66 : decode cX12_minutes 66 = .ok (.ireturn, 1) := by decide +kernel
theorem dX12_of_0 : decode cX12_of 0 = .ok (.iload_n 1, 1) := by decide +kernel
theorem dX12_of_1 : decode cX12_of 1 = .ok (.iconst 0, 1) := by decide +kernel
theorem dX12_of_2 : decode cX12_of 2 = .ok (.aload_n 0, 1) := by decide +kernel
theorem dX12_of_3 : decode cX12_of 3 = .ok (.getfield 389, 3) := by decide +kernel
theorem dX12_of_6 : decode cX12_of 6 = .ok (.iconst 1, 1) := by decide +kernel
theorem dX12_of_7 : decode cX12_of 7 = .ok (.isub, 1) := by decide +kernel
theorem dX12_of_8 : decode cX12_of 8 = .ok (.invokestatic 211, 3) := by decide +kernel
theorem dX12_of_11 : decode cX12_of 11 = .ok (.ifCond .eq 12, 3) := by decide +kernel
theorem dX12_of_14 : decode cX12_of 14 = .ok (.iload_n 2, 1) := by decide +kernel
theorem dX12_of_15 : decode cX12_of 15 = .ok (.iconst 0, 1) := by decide +kernel
theorem dX12_of_16 : decode cX12_of 16 = .ok (.iconst 4, 1) := by decide +kernel
theorem dX12_of_17 : decode cX12_of 17 = .ok (.invokestatic 211, 3) := by decide +kernel
theorem dX12_of_20 : decode cX12_of 20 = .ok (.ifCond .ne 8, 3) := by decide +kernel
theorem dX12_of_23 : decode cX12_of 23 = .ok (.aload_n 0, 1) := by decide +kernel
theorem dX12_of_24 : decode cX12_of 24 = .ok (.invokevirtual 418, 3) := by decide +kernel
theorem dX12_of_27 : decode cX12_of 27 = .ok (.ireturn, 1) := by decide +kernel
theorem dX12_of_28 : decode cX12_of 28 = .ok (.aload_n 0, 1) := by decide +kernel
theorem dX12_of_29 : decode cX12_of 29 = .ok (.iconst 0, 1) := by decide +kernel
theorem dX12_of_30 : decode cX12_of 30 = .ok (.putfield 198, 3) := by decide +kernel
theorem dX12_of_33 : decode cX12_of 33 = .ok (.iload_n 2, 1) := by decide +kernel
theorem dX12_of_34 : decode cX12_of 34 = .ok (.tableswitch 58 0 3 #[30, 37, 44, 51], 30) := by decide +kernel
theorem dX12_of_64 : decode cX12_of 64 = .ok (.aload_n 0, 1) := by decide +kernel
theorem dX12_of_65 : decode cX12_of 65 = .ok (.getfield 105, 3) := by decide +kernel
theorem dX12_of_68 : decode cX12_of 68 = .ok (.iload_n 1, 1) := by decide +kernel
theorem dX12_of_69 : decode cX12_of 69 = .ok (.iaload, 1) := by decide +kernel
theorem dX12_of_70 : decode cX12_of 70 = .ok (.ireturn, 1) := by decide +kernel
theorem dX12_of_71 : decode cX12_of 71 = .ok (.aload_n 0, 1) := by decide +kernel
theorem dX12_of_72 : decode cX12_of 72 = .ok (.getfield 111, 3) := by decide +kernel
theorem dX12_of_75 : decode cX12_of 75 = .ok (.iload_n 1, 1) := by decide +kernel
theorem dX12_of_76 : decode cX12_of 76 = .ok (.iaload, 1) := by decide +kernel
theorem dX12_of_77 : decode cX12_of 77 = .ok (.ireturn, 1) := by decide +kernel
theorem dX12_of_78 : decode cX12_of 78 = .ok (.aload_n 0, 1) := by decide +kernel
theorem dX12_of_79 : decode cX12_of 79 = .ok (.getfield 114, 3) := by decide +kernel
theorem dX12_of_82 : decode cX12_of 82 = .ok (.iload_n 1, 1) := by decide +kernel
theorem dX12_of_83 : decode cX12_of 83 = .ok (.iaload, 1) := by decide +kernel
theorem dX12_of_84 : decode cX12_of 84 = .ok (.ireturn, 1) := by decide +kernel
theorem dX12_of_85 : decode cX12_of 85 = .ok (.aload_n 0, 1) := by decide +kernel
theorem dX12_of_86 : decode cX12_of 86 = .ok (.getfield 117, 3) := by decide +kernel
theorem dX12_of_89 : decode cX12_of 89 = .ok (.iload_n 1, 1) := by decide +kernel
theorem dX12_of_90 : decode cX12_of 90 = .ok (.iaload, 1) := by decide +kernel
theorem dX12_of_91 : decode cX12_of 91 = .ok (.ireturn, 1) := by decide +kernel
theorem dX12_of_92 : decode cX12_of 92 = .ok (.aload_n 0, 1) := by decide +kernel
theorem dX12_of_93 : decode cX12_of 93 = .ok (.getfield 108, 3) := by decide +kernel
theorem dX12_of_96 : decode cX12_of 96 = .ok (.iload_n 1, 1) := by decide +kernel
theorem dX12_of_97 : decode cX12_of 97 = .ok (.iaload, 1) := by decide +kernel
theorem dX12_of_98 : decode cX12_of 98 = .ok (.ireturn, 1) := by decide +kernel
theorem dX12_owner_0 : decode cX12_owner 0 = .ok (.aload_n 0, 1) := by decide +kernel
theorem dX12_owner_1 : decode cX12_owner 1 = .ok (.iconst 0, 1) := by decide +kernel
theorem dX12_owner_2 : decode cX12_owner 2 = .ok (.putfield 198, 3) := by decide +kernel
theorem dX12_owner_5 : decode cX12_owner 5 = .ok (.iload_n 1, 1) := by decide +kernel
theorem dX12_owner_6 : decode cX12_owner 6 = .ok (.invokestatic 219, 3) := by decide +kernel
theorem dX12_owner_9 : decode cX12_owner 9 = .ok (.ifCond .eq 16, 3) := by decide +kernel
theorem dX12_owner_12 : decode cX12_owner 12 = .ok (.iload_n 2, 1) := by decide +kernel
theorem dX12_owner_13 : decode cX12_owner 13 = .ok (.iconst (-1), 1) := by decide +kernel
theorem dX12_owner_14 : decode cX12_owner 14 = .ok (.if_icmp .eq 13, 3) := by decide +kernel
theorem dX12_owner_17 : decode cX12_owner 17 = .ok (.aload_n 0, 1) := by decide +kernel
theorem dX12_owner_18 : decode cX12_owner 18 = .ok (.iload_n 2, 1) := by decide +kernel
theorem dX12_owner_19 : decode cX12_owner 19 = .ok (.invokevirtual 215, 3) := by decide +kernel
theorem dX12_owner_22 : decode cX12_owner 22 = .ok (.ifCond .ne 5, 3) := by decide +kernel
theorem dX12_owner_25 : decode cX12_owner 25 = .ok (.iconst 0, 1) := by decide +kernel
theorem dX12_owner_26 : decode cX12_owner 26 = .ok (.ireturn, 1) := by decide +kernel
theorem dX12_owner_27 : decode cX12_owner 27 = .ok (.aload_n 0, 1) := by decide +kernel
theorem dX12_owner_28 : decode cX12_owner 28 = .ok (.getfield 29, 3) := by decide +kernel
theorem dX12_owner_31 : decode cX12_owner 31 = .ok (.iload_n 1, 1) := by decide +kernel
theorem dX12_owner_32 : decode cX12_owner 32 = .ok (.iload_n 2, 1) := by decide +kernel
theorem dX12_owner_33 : decode cX12_owner 33 = .ok (.iastore, 1) := by decide +kernel
theorem dX12_owner_34 : decode cX12_owner 34 = .ok (.iconst 1, 1) := by decide +kernel
theorem dX12_owner_35 : decode cX12_owner 35 = .ok (.ireturn, 1) := by decide +kernel
theorem dX12_partedAt_0 : decode cX12_partedAt 0 = .ok (.aload_n 0, 1) := by decide +kernel
theorem dX12_partedAt_1 : decode cX12_partedAt 1 = .ok (.iconst 0, 1) := by decide +kernel
theorem dX12_partedAt_2 : decode cX12_partedAt 2 = .ok (.putfield 198, 3) := by decide +kernel
theorem dX12_partedAt_5 : decode cX12_partedAt 5 = .ok (.aload_n 0, 1) := by decide +kernel
theorem dX12_partedAt_6 : decode cX12_partedAt 6 = .ok (.getfield 462, 3) := by decide +kernel
theorem dX12_partedAt_9 : decode cX12_partedAt 9 = .ok (.ifCond .eq 24, 3) := by decide +kernel
theorem dX12_partedAt_12 : decode cX12_partedAt 12 = .ok (.iload_n 1, 1) := by decide +kernel
theorem dX12_partedAt_13 : decode cX12_partedAt 13 = .ok (.ifCond .lt 20, 3) := by decide +kernel
theorem dX12_partedAt_16 : decode cX12_partedAt 16 = .ok (.iload_n 1, 1) := by decide +kernel
theorem dX12_partedAt_17 : decode cX12_partedAt 17 = .ok (.aload_n 0, 1) := by decide +kernel
theorem dX12_partedAt_18 : decode cX12_partedAt 18 = .ok (.getfield 459, 3) := by decide +kernel
theorem dX12_partedAt_21 : decode cX12_partedAt 21 = .ok (.if_icmp .ge 12, 3) := by decide +kernel
theorem dX12_partedAt_24 : decode cX12_partedAt 24 = .ok (.aload_n 0, 1) := by decide +kernel
theorem dX12_partedAt_25 : decode cX12_partedAt 25 = .ok (.getfield 159, 3) := by decide +kernel
theorem dX12_partedAt_28 : decode cX12_partedAt 28 = .ok (.iload_n 1, 1) := by decide +kernel
theorem dX12_partedAt_29 : decode cX12_partedAt 29 = .ok (.iaload, 1) := by decide +kernel
theorem dX12_partedAt_30 : decode cX12_partedAt 30 = .ok (.goto 4, 3) := by decide +kernel
theorem dX12_partedAt_33 : decode cX12_partedAt 33 = .ok (.iconst (-1), 1) := by decide +kernel
theorem dX12_partedAt_34 : decode cX12_partedAt 34 = .ok (.ireturn, 1) := by decide +kernel
theorem dX12_refuse_0 : decode cX12_refuse 0 = .ok (.aload_n 0, 1) := by decide +kernel
theorem dX12_refuse_1 : decode cX12_refuse 1 = .ok (.iconst 1, 1) := by decide +kernel
theorem dX12_refuse_2 : decode cX12_refuse 2 = .ok (.putfield 198, 3) := by decide +kernel
theorem dX12_refuse_5 : decode cX12_refuse 5 = .ok (.iconst 0, 1) := by decide +kernel
theorem dX12_refuse_6 : decode cX12_refuse 6 = .ok (.ireturn, 1) := by decide +kernel
theorem dX12_shortOf_0 : decode cX12_shortOf 0 = .ok (.aload_n 0, 1) := by decide +kernel
theorem dX12_shortOf_1 : decode cX12_shortOf 1 = .ok (.iconst 0, 1) := by decide +kernel
theorem dX12_shortOf_2 : decode cX12_shortOf 2 = .ok (.putfield 198, 3) := by decide +kernel
theorem dX12_shortOf_5 : decode cX12_shortOf 5 = .ok (.iconst 0, 1) := by decide +kernel
theorem dX12_shortOf_6 : decode cX12_shortOf 6 = .ok (.istore_n 2, 1) := by decide +kernel
theorem dX12_shortOf_7 : decode cX12_shortOf 7 = .ok (.iconst 0, 1) := by decide +kernel
theorem dX12_shortOf_8 : decode cX12_shortOf 8 = .ok (.istore_n 3, 1) := by decide +kernel
theorem dX12_shortOf_9 : decode cX12_shortOf 9 = .ok (.iload_n 3, 1) := by decide +kernel
theorem dX12_shortOf_10 : decode cX12_shortOf 10 = .ok (.aload_n 0, 1) := by decide +kernel
theorem dX12_shortOf_11 : decode cX12_shortOf 11 = .ok (.getfield 389, 3) := by decide +kernel
theorem dX12_shortOf_14 : decode cX12_shortOf 14 = .ok (.if_icmp .ge 112, 3) := by decide +kernel
theorem dX12_shortOf_17 : decode cX12_shortOf 17 = .ok (.aload_n 0, 1) := by decide +kernel
theorem dX12_shortOf_18 : decode cX12_shortOf 18 = .ok (.getfield 93, 3) := by decide +kernel
theorem dX12_shortOf_21 : decode cX12_shortOf 21 = .ok (.iload_n 3, 1) := by decide +kernel
theorem dX12_shortOf_22 : decode cX12_shortOf 22 = .ok (.iaload, 1) := by decide +kernel
theorem dX12_shortOf_23 : decode cX12_shortOf 23 = .ok (.istore 4, 2) := by decide +kernel
theorem dX12_shortOf_25 : decode cX12_shortOf 25 = .ok (.aload_n 0, 1) := by decide +kernel
theorem dX12_shortOf_26 : decode cX12_shortOf 26 = .ok (.getfield 96, 3) := by decide +kernel
theorem dX12_shortOf_29 : decode cX12_shortOf 29 = .ok (.iload_n 3, 1) := by decide +kernel
theorem dX12_shortOf_30 : decode cX12_shortOf 30 = .ok (.iaload, 1) := by decide +kernel
theorem dX12_shortOf_31 : decode cX12_shortOf 31 = .ok (.istore 5, 2) := by decide +kernel
theorem dX12_shortOf_33 : decode cX12_shortOf 33 = .ok (.aload_n 0, 1) := by decide +kernel
theorem dX12_shortOf_34 : decode cX12_shortOf 34 = .ok (.getfield 105, 3) := by decide +kernel
theorem dX12_shortOf_37 : decode cX12_shortOf 37 = .ok (.iload_n 3, 1) := by decide +kernel
theorem dX12_shortOf_38 : decode cX12_shortOf 38 = .ok (.iaload, 1) := by decide +kernel
theorem dX12_shortOf_39 : decode cX12_shortOf 39 = .ok (.istore 6, 2) := by decide +kernel
theorem dX12_shortOf_41 : decode cX12_shortOf 41 = .ok (.iload 6, 2) := by decide +kernel
theorem dX12_shortOf_43 : decode cX12_shortOf 43 = .ok (.aload_n 0, 1) := by decide +kernel
theorem dX12_shortOf_44 : decode cX12_shortOf 44 = .ok (.getfield 239, 3) := by decide +kernel
theorem dX12_shortOf_47 : decode cX12_shortOf 47 = .ok (.if_icmp .ge 73, 3) := by decide +kernel
theorem dX12_shortOf_50 : decode cX12_shortOf 50 = .ok (.iload 6, 2) := by decide +kernel
theorem dX12_shortOf_52 : decode cX12_shortOf 52 = .ok (.iload_n 1, 1) := by decide +kernel
theorem dX12_shortOf_53 : decode cX12_shortOf 53 = .ok (.if_icmp .gt 67, 3) := by decide +kernel
theorem dX12_shortOf_56 : decode cX12_shortOf 56 = .ok (.aload_n 0, 1) := by decide +kernel
theorem dX12_shortOf_57 : decode cX12_shortOf 57 = .ok (.iload_n 3, 1) := by decide +kernel
theorem dX12_shortOf_58 : decode cX12_shortOf 58 = .ok (.invokevirtual 431, 3) := by decide +kernel
theorem dX12_shortOf_61 : decode cX12_shortOf 61 = .ok (.ifCond .ne 6, 3) := by decide +kernel
theorem dX12_shortOf_64 : decode cX12_shortOf 64 = .ok (.goto 56, 3) := by decide +kernel
theorem dX12_shortOf_67 : decode cX12_shortOf 67 = .ok (.aload_n 0, 1) := by decide +kernel
theorem dX12_shortOf_68 : decode cX12_shortOf 68 = .ok (.iload 4, 2) := by decide +kernel
theorem dX12_shortOf_70 : decode cX12_shortOf 70 = .ok (.iload 5, 2) := by decide +kernel
theorem dX12_shortOf_72 : decode cX12_shortOf 72 = .ok (.iload 6, 2) := by decide +kernel
theorem dX12_shortOf_74 : decode cX12_shortOf 74 = .ok (.iload_n 1, 1) := by decide +kernel
theorem dX12_shortOf_75 : decode cX12_shortOf 75 = .ok (.invokevirtual 424, 3) := by decide +kernel
theorem dX12_shortOf_78 : decode cX12_shortOf 78 = .ok (.istore 7, 2) := by decide +kernel
theorem dX12_shortOf_80 : decode cX12_shortOf 80 = .ok (.aload_n 0, 1) := by decide +kernel
theorem dX12_shortOf_81 : decode cX12_shortOf 81 = .ok (.iload 4, 2) := by decide +kernel
theorem dX12_shortOf_83 : decode cX12_shortOf 83 = .ok (.iload 5, 2) := by decide +kernel
theorem dX12_shortOf_85 : decode cX12_shortOf 85 = .ok (.iload 6, 2) := by decide +kernel
theorem dX12_shortOf_87 : decode cX12_shortOf 87 = .ok (.invokevirtual 427, 3) := by decide +kernel
theorem dX12_shortOf_90 : decode cX12_shortOf 90 = .ok (.iload 7, 2) := by decide +kernel
theorem dX12_shortOf_92 : decode cX12_shortOf 92 = .ok (.iconst (-1), 1) := by decide +kernel
theorem dX12_shortOf_93 : decode cX12_shortOf 93 = .ok (.if_icmp .ne 7, 3) := by decide +kernel
theorem dX12_shortOf_96 : decode cX12_shortOf 96 = .ok (.iconst 0, 1) := by decide +kernel
theorem dX12_shortOf_97 : decode cX12_shortOf 97 = .ok (.goto 10, 3) := by decide +kernel
theorem dX12_shortOf_100 : decode cX12_shortOf 100 = .ok (.aload_n 0, 1) := by decide +kernel
theorem dX12_shortOf_101 : decode cX12_shortOf 101 = .ok (.getfield 144, 3) := by decide +kernel
theorem dX12_shortOf_104 : decode cX12_shortOf 104 = .ok (.iload 7, 2) := by decide +kernel
theorem dX12_shortOf_106 : decode cX12_shortOf 106 = .ok (.iaload, 1) := by decide +kernel
theorem dX12_shortOf_107 : decode cX12_shortOf 107 = .ok (.isub, 1) := by decide +kernel
theorem dX12_shortOf_108 : decode cX12_shortOf 108 = .ok (.istore 8, 2) := by decide +kernel
theorem dX12_shortOf_110 : decode cX12_shortOf 110 = .ok (.iload 8, 2) := by decide +kernel
theorem dX12_shortOf_112 : decode cX12_shortOf 112 = .ok (.ifCond .le 8, 3) := by decide +kernel
theorem dX12_shortOf_115 : decode cX12_shortOf 115 = .ok (.iload_n 2, 1) := by decide +kernel
theorem dX12_shortOf_116 : decode cX12_shortOf 116 = .ok (.iload 8, 2) := by decide +kernel
theorem dX12_shortOf_118 : decode cX12_shortOf 118 = .ok (.iadd, 1) := by decide +kernel
theorem dX12_shortOf_119 : decode cX12_shortOf 119 = .ok (.istore_n 2, 1) := by decide +kernel
theorem dX12_shortOf_120 : decode cX12_shortOf 120 = .ok (.iinc 3 1, 3) := by decide +kernel
theorem dX12_shortOf_123 : decode cX12_shortOf 123 = .ok (.goto (-114), 3) := by decide +kernel
theorem dX12_shortOf_126 : decode cX12_shortOf 126 = .ok (.iload_n 2, 1) := by decide +kernel
theorem dX12_shortOf_127 : decode cX12_shortOf 127 = .ok (.ireturn, 1) := by decide +kernel
theorem dX12_sky_0 : decode cX12_sky 0 = .ok (.aload_n 0, 1) := by decide +kernel
theorem dX12_sky_1 : decode cX12_sky 1 = .ok (.iconst 0, 1) := by decide +kernel
theorem dX12_sky_2 : decode cX12_sky 2 = .ok (.putfield 198, 3) := by decide +kernel
theorem dX12_sky_5 : decode cX12_sky 5 = .ok (.iload_n 1, 1) := by decide +kernel
theorem dX12_sky_6 : decode cX12_sky 6 = .ok (.invokestatic 229, 3) := by decide +kernel
theorem dX12_sky_9 : decode cX12_sky 9 = .ok (.ifCond .eq 11, 3) := by decide +kernel
theorem dX12_sky_12 : decode cX12_sky 12 = .ok (.aload_n 0, 1) := by decide +kernel
theorem dX12_sky_13 : decode cX12_sky 13 = .ok (.iload_n 1, 1) := by decide +kernel
theorem dX12_sky_14 : decode cX12_sky 14 = .ok (.invokevirtual 232, 3) := by decide +kernel
theorem dX12_sky_17 : decode cX12_sky 17 = .ok (.goto 4, 3) := by decide +kernel
theorem dX12_sky_20 : decode cX12_sky 20 = .ok (.iconst (-1), 1) := by decide +kernel
theorem dX12_sky_21 : decode cX12_sky 21 = .ok (.ireturn, 1) := by decide +kernel
theorem dX12_skyOf_0 : decode cX12_skyOf 0 = .ok (.aload_n 0, 1) := by decide +kernel
theorem dX12_skyOf_1 : decode cX12_skyOf 1 = .ok (.getfield 226, 3) := by decide +kernel
theorem dX12_skyOf_4 : decode cX12_skyOf 4 = .ok (.ifCond .ne 7, 3) := by decide +kernel
theorem dX12_skyOf_7 : decode cX12_skyOf 7 = .ok (.iconst 0, 1) := by decide +kernel
theorem dX12_skyOf_8 : decode cX12_skyOf 8 = .ok (.goto 21, 3) := by decide +kernel
theorem dX12_skyOf_11 : decode cX12_skyOf 11 = .ok (.iload_n 1, 1) := by decide +kernel
theorem dX12_skyOf_12 : decode cX12_skyOf 12 = .ok (.aload_n 0, 1) := by decide +kernel
theorem dX12_skyOf_13 : decode cX12_skyOf 13 = .ok (.getfield 226, 3) := by decide +kernel
theorem dX12_skyOf_16 : decode cX12_skyOf 16 = .ok (.if_icmp .ge 12, 3) := by decide +kernel
theorem dX12_skyOf_19 : decode cX12_skyOf 19 = .ok (.aload_n 0, 1) := by decide +kernel
theorem dX12_skyOf_20 : decode cX12_skyOf 20 = .ok (.getfield 32, 3) := by decide +kernel
theorem dX12_skyOf_23 : decode cX12_skyOf 23 = .ok (.iload_n 1, 1) := by decide +kernel
theorem dX12_skyOf_24 : decode cX12_skyOf 24 = .ok (.iaload, 1) := by decide +kernel
theorem dX12_skyOf_25 : decode cX12_skyOf 25 = .ok (.goto 4, 3) := by decide +kernel
theorem dX12_skyOf_28 : decode cX12_skyOf 28 = .ok (.iconst 3, 1) := by decide +kernel
theorem dX12_skyOf_29 : decode cX12_skyOf 29 = .ok (.ireturn, 1) := by decide +kernel
theorem dX12_sortAtHand_0 : decode cX12_sortAtHand 0 = .ok (.aload_n 0, 1) := by decide +kernel
theorem dX12_sortAtHand_1 : decode cX12_sortAtHand 1 = .ok (.bipush 112, 2) := by decide +kernel
theorem dX12_sortAtHand_3 : decode cX12_sortAtHand 3 = .ok (.bipush 114, 2) := by decide +kernel
theorem dX12_sortAtHand_5 : decode cX12_sortAtHand 5 = .ok (.bipush 105, 2) := by decide +kernel
theorem dX12_sortAtHand_7 : decode cX12_sortAtHand 7 = .ok (.bipush 99, 2) := by decide +kernel
theorem dX12_sortAtHand_9 : decode cX12_sortAtHand 9 = .ok (.bipush 101, 2) := by decide +kernel
theorem dX12_sortAtHand_11 : decode cX12_sortAtHand 11 = .ok (.invokestatic 297, 3) := by decide +kernel
theorem dX12_sortAtHand_14 : decode cX12_sortAtHand 14 = .ok (.invokevirtual 301, 3) := by decide +kernel
theorem dX12_sortAtHand_17 : decode cX12_sortAtHand 17 = .ok (.ifCond .eq 5, 3) := by decide +kernel
theorem dX12_sortAtHand_20 : decode cX12_sortAtHand 20 = .ok (.iconst 0, 1) := by decide +kernel
theorem dX12_sortAtHand_21 : decode cX12_sortAtHand 21 = .ok (.ireturn, 1) := by decide +kernel
theorem dX12_sortAtHand_22 : decode cX12_sortAtHand 22 = .ok (.aload_n 0, 1) := by decide +kernel
theorem dX12_sortAtHand_23 : decode cX12_sortAtHand 23 = .ok (.bipush 99, 2) := by decide +kernel
theorem dX12_sortAtHand_25 : decode cX12_sortAtHand 25 = .ok (.bipush 114, 2) := by decide +kernel
theorem dX12_sortAtHand_27 : decode cX12_sortAtHand 27 = .ok (.bipush 121, 2) := by decide +kernel
theorem dX12_sortAtHand_29 : decode cX12_sortAtHand 29 = .ok (.iconst 0, 1) := by decide +kernel
theorem dX12_sortAtHand_30 : decode cX12_sortAtHand 30 = .ok (.iconst 0, 1) := by decide +kernel
theorem dX12_sortAtHand_31 : decode cX12_sortAtHand 31 = .ok (.invokestatic 297, 3) := by decide +kernel
theorem dX12_sortAtHand_34 : decode cX12_sortAtHand 34 = .ok (.invokevirtual 301, 3) := by decide +kernel
theorem dX12_sortAtHand_37 : decode cX12_sortAtHand 37 = .ok (.ifCond .eq 5, 3) := by decide +kernel
theorem dX12_sortAtHand_40 : decode cX12_sortAtHand 40 = .ok (.iconst 1, 1) := by decide +kernel
theorem dX12_sortAtHand_41 : decode cX12_sortAtHand 41 = .ok (.ireturn, 1) := by decide +kernel
theorem dX12_sortAtHand_42 : decode cX12_sortAtHand 42 = .ok (.aload_n 0, 1) := by decide +kernel
theorem dX12_sortAtHand_43 : decode cX12_sortAtHand 43 = .ok (.bipush 98, 2) := by decide +kernel
theorem dX12_sortAtHand_45 : decode cX12_sortAtHand 45 = .ok (.bipush 97, 2) := by decide +kernel
theorem dX12_sortAtHand_47 : decode cX12_sortAtHand 47 = .ok (.bipush 99, 2) := by decide +kernel
theorem dX12_sortAtHand_49 : decode cX12_sortAtHand 49 = .ok (.bipush 107, 2) := by decide +kernel
theorem dX12_sortAtHand_51 : decode cX12_sortAtHand 51 = .ok (.iconst 0, 1) := by decide +kernel
theorem dX12_sortAtHand_52 : decode cX12_sortAtHand 52 = .ok (.invokestatic 297, 3) := by decide +kernel
theorem dX12_sortAtHand_55 : decode cX12_sortAtHand 55 = .ok (.invokevirtual 301, 3) := by decide +kernel
theorem dX12_sortAtHand_58 : decode cX12_sortAtHand 58 = .ok (.ifCond .eq 5, 3) := by decide +kernel
theorem dX12_sortAtHand_61 : decode cX12_sortAtHand 61 = .ok (.iconst 2, 1) := by decide +kernel
theorem dX12_sortAtHand_62 : decode cX12_sortAtHand 62 = .ok (.ireturn, 1) := by decide +kernel
theorem dX12_sortAtHand_63 : decode cX12_sortAtHand 63 = .ok (.aload_n 0, 1) := by decide +kernel
theorem dX12_sortAtHand_64 : decode cX12_sortAtHand 64 = .ok (.bipush 109, 2) := by decide +kernel
theorem dX12_sortAtHand_66 : decode cX12_sortAtHand 66 = .ok (.bipush 111, 2) := by decide +kernel
theorem dX12_sortAtHand_68 : decode cX12_sortAtHand 68 = .ok (.bipush 115, 2) := by decide +kernel
theorem dX12_sortAtHand_70 : decode cX12_sortAtHand 70 = .ok (.bipush 116, 2) := by decide +kernel
theorem dX12_sortAtHand_72 : decode cX12_sortAtHand 72 = .ok (.iconst 0, 1) := by decide +kernel
theorem dX12_sortAtHand_73 : decode cX12_sortAtHand 73 = .ok (.invokestatic 297, 3) := by decide +kernel
theorem dX12_sortAtHand_76 : decode cX12_sortAtHand 76 = .ok (.invokevirtual 301, 3) := by decide +kernel
theorem dX12_sortAtHand_79 : decode cX12_sortAtHand 79 = .ok (.ifCond .eq 5, 3) := by decide +kernel
theorem dX12_sortAtHand_82 : decode cX12_sortAtHand 82 = .ok (.iconst 3, 1) := by decide +kernel
theorem dX12_sortAtHand_83 : decode cX12_sortAtHand 83 = .ok (.ireturn, 1) := by decide +kernel
theorem dX12_sortAtHand_84 : decode cX12_sortAtHand 84 = .ok (.aload_n 0, 1) := by decide +kernel
theorem dX12_sortAtHand_85 : decode cX12_sortAtHand 85 = .ok (.bipush 115, 2) := by decide +kernel
theorem dX12_sortAtHand_87 : decode cX12_sortAtHand 87 = .ok (.bipush 101, 2) := by decide +kernel
theorem dX12_sortAtHand_89 : decode cX12_sortAtHand 89 = .ok (.bipush 108, 2) := by decide +kernel
theorem dX12_sortAtHand_91 : decode cX12_sortAtHand 91 = .ok (.bipush 108, 2) := by decide +kernel
theorem dX12_sortAtHand_93 : decode cX12_sortAtHand 93 = .ok (.iconst 0, 1) := by decide +kernel
theorem dX12_sortAtHand_94 : decode cX12_sortAtHand 94 = .ok (.invokestatic 297, 3) := by decide +kernel
theorem dX12_sortAtHand_97 : decode cX12_sortAtHand 97 = .ok (.invokevirtual 301, 3) := by decide +kernel
theorem dX12_sortAtHand_100 : decode cX12_sortAtHand 100 = .ok (.ifCond .eq 5, 3) := by decide +kernel
theorem dX12_sortAtHand_103 : decode cX12_sortAtHand 103 = .ok (.iconst 4, 1) := by decide +kernel
theorem dX12_sortAtHand_104 : decode cX12_sortAtHand 104 = .ok (.ireturn, 1) := by decide +kernel
theorem dX12_sortAtHand_105 : decode cX12_sortAtHand 105 = .ok (.aload_n 0, 1) := by decide +kernel
theorem dX12_sortAtHand_106 : decode cX12_sortAtHand 106 = .ok (.bipush 111, 2) := by decide +kernel
theorem dX12_sortAtHand_108 : decode cX12_sortAtHand 108 = .ok (.bipush 119, 2) := by decide +kernel
theorem dX12_sortAtHand_110 : decode cX12_sortAtHand 110 = .ok (.bipush 101, 2) := by decide +kernel
theorem dX12_sortAtHand_112 : decode cX12_sortAtHand 112 = .ok (.iconst 0, 1) := by decide +kernel
theorem dX12_sortAtHand_113 : decode cX12_sortAtHand 113 = .ok (.iconst 0, 1) := by decide +kernel
theorem dX12_sortAtHand_114 : decode cX12_sortAtHand 114 = .ok (.invokestatic 297, 3) := by decide +kernel
theorem dX12_sortAtHand_117 : decode cX12_sortAtHand 117 = .ok (.invokevirtual 301, 3) := by decide +kernel
theorem dX12_sortAtHand_120 : decode cX12_sortAtHand 120 = .ok (.ifCond .eq 7, 3) := by decide +kernel
theorem dX12_sortAtHand_123 : decode cX12_sortAtHand 123 = .ok (.iconst 5, 1) := by decide +kernel
theorem dX12_sortAtHand_124 : decode cX12_sortAtHand 124 = .ok (.goto 4, 3) := by decide +kernel
theorem dX12_sortAtHand_127 : decode cX12_sortAtHand 127 = .ok (.iconst (-1), 1) := by decide +kernel
theorem dX12_sortAtHand_128 : decode cX12_sortAtHand 128 = .ok (.ireturn, 1) := by decide +kernel
theorem dX12_spelt_0 : decode cX12_spelt 0 = .ok (.ldc2_w 287, 3) := by decide +kernel
theorem dX12_spelt_3 : decode cX12_spelt 3 = .ok (.iload_n 0, 1) := by decide +kernel
theorem dX12_spelt_4 : decode cX12_spelt 4 = .ok (.i2l, 1) := by decide +kernel
theorem dX12_spelt_5 : decode cX12_spelt 5 = .ok (.ldc2_w 289, 3) := by decide +kernel
theorem dX12_spelt_8 : decode cX12_spelt 8 = .ok (.lsub, 1) := by decide +kernel
theorem dX12_spelt_9 : decode cX12_spelt 9 = .ok (.lmul, 1) := by decide +kernel
theorem dX12_spelt_10 : decode cX12_spelt 10 = .ok (.iload_n 1, 1) := by decide +kernel
theorem dX12_spelt_11 : decode cX12_spelt 11 = .ok (.i2l, 1) := by decide +kernel
theorem dX12_spelt_12 : decode cX12_spelt 12 = .ok (.ladd, 1) := by decide +kernel
theorem dX12_spelt_13 : decode cX12_spelt 13 = .ok (.ldc2_w 289, 3) := by decide +kernel
theorem dX12_spelt_16 : decode cX12_spelt 16 = .ok (.lsub, 1) := by decide +kernel
theorem dX12_spelt_17 : decode cX12_spelt 17 = .ok (.lstore 5, 2) := by decide +kernel
theorem dX12_spelt_19 : decode cX12_spelt 19 = .ok (.iload_n 2, 1) := by decide +kernel
theorem dX12_spelt_20 : decode cX12_spelt 20 = .ok (.ifCond .le 18, 3) := by decide +kernel
theorem dX12_spelt_23 : decode cX12_spelt 23 = .ok (.ldc2_w 287, 3) := by decide +kernel
theorem dX12_spelt_26 : decode cX12_spelt 26 = .ok (.lload 5, 2) := by decide +kernel
theorem dX12_spelt_28 : decode cX12_spelt 28 = .ok (.lmul, 1) := by decide +kernel
theorem dX12_spelt_29 : decode cX12_spelt 29 = .ok (.iload_n 2, 1) := by decide +kernel
theorem dX12_spelt_30 : decode cX12_spelt 30 = .ok (.i2l, 1) := by decide +kernel
theorem dX12_spelt_31 : decode cX12_spelt 31 = .ok (.ladd, 1) := by decide +kernel
theorem dX12_spelt_32 : decode cX12_spelt 32 = .ok (.ldc2_w 289, 3) := by decide +kernel
theorem dX12_spelt_35 : decode cX12_spelt 35 = .ok (.lsub, 1) := by decide +kernel
theorem dX12_spelt_36 : decode cX12_spelt 36 = .ok (.lstore 5, 2) := by decide +kernel
theorem dX12_spelt_38 : decode cX12_spelt 38 = .ok (.iload_n 3, 1) := by decide +kernel
theorem dX12_spelt_39 : decode cX12_spelt 39 = .ok (.ifCond .le 18, 3) := by decide +kernel
theorem dX12_spelt_42 : decode cX12_spelt 42 = .ok (.ldc2_w 287, 3) := by decide +kernel
theorem dX12_spelt_45 : decode cX12_spelt 45 = .ok (.lload 5, 2) := by decide +kernel
theorem dX12_spelt_47 : decode cX12_spelt 47 = .ok (.lmul, 1) := by decide +kernel
theorem dX12_spelt_48 : decode cX12_spelt 48 = .ok (.iload_n 3, 1) := by decide +kernel
theorem dX12_spelt_49 : decode cX12_spelt 49 = .ok (.i2l, 1) := by decide +kernel
theorem dX12_spelt_50 : decode cX12_spelt 50 = .ok (.ladd, 1) := by decide +kernel
theorem dX12_spelt_51 : decode cX12_spelt 51 = .ok (.ldc2_w 289, 3) := by decide +kernel
theorem dX12_spelt_54 : decode cX12_spelt 54 = .ok (.lsub, 1) := by decide +kernel
theorem dX12_spelt_55 : decode cX12_spelt 55 = .ok (.lstore 5, 2) := by decide +kernel
theorem dX12_spelt_57 : decode cX12_spelt 57 = .ok (.iload 4, 2) := by decide +kernel
theorem dX12_spelt_59 : decode cX12_spelt 59 = .ok (.ifCond .le 20, 3) := by decide +kernel
theorem dX12_spelt_62 : decode cX12_spelt 62 = .ok (.ldc2_w 287, 3) := by decide +kernel
theorem dX12_spelt_65 : decode cX12_spelt 65 = .ok (.lload 5, 2) := by decide +kernel
theorem dX12_spelt_67 : decode cX12_spelt 67 = .ok (.lmul, 1) := by decide +kernel
theorem dX12_spelt_68 : decode cX12_spelt 68 = .ok (.iload 4, 2) := by decide +kernel
theorem dX12_spelt_70 : decode cX12_spelt 70 = .ok (.i2l, 1) := by decide +kernel
theorem dX12_spelt_71 : decode cX12_spelt 71 = .ok (.ladd, 1) := by decide +kernel
theorem dX12_spelt_72 : decode cX12_spelt 72 = .ok (.ldc2_w 289, 3) := by decide +kernel
theorem dX12_spelt_75 : decode cX12_spelt 75 = .ok (.lsub, 1) := by decide +kernel
theorem dX12_spelt_76 : decode cX12_spelt 76 = .ok (.goto 5, 3) := by decide +kernel
theorem dX12_spelt_79 : decode cX12_spelt 79 = .ok (.lload 5, 2) := by decide +kernel
theorem dX12_spelt_81 : decode cX12_spelt 81 = .ok (.lreturn, 1) := by decide +kernel
theorem dX12_strike_0 : decode cX12_strike 0 = .ok (.aload_n 0, 1) := by decide +kernel
theorem dX12_strike_1 : decode cX12_strike 1 = .ok (.iconst 0, 1) := by decide +kernel
theorem dX12_strike_2 : decode cX12_strike 2 = .ok (.putfield 198, 3) := by decide +kernel
theorem dX12_strike_5 : decode cX12_strike 5 = .ok (.aload_n 0, 1) := by decide +kernel
theorem dX12_strike_6 : decode cX12_strike 6 = .ok (.invokevirtual 222, 3) := by decide +kernel
theorem dX12_strike_9 : decode cX12_strike 9 = .ok (.istore 6, 2) := by decide +kernel
theorem dX12_strike_11 : decode cX12_strike 11 = .ok (.iload 6, 2) := by decide +kernel
theorem dX12_strike_13 : decode cX12_strike 13 = .ok (.iconst 2, 1) := by decide +kernel
theorem dX12_strike_14 : decode cX12_strike 14 = .ok (.irem, 1) := by decide +kernel
theorem dX12_strike_15 : decode cX12_strike 15 = .ok (.ifCond .ne 53, 3) := by decide +kernel
theorem dX12_strike_18 : decode cX12_strike 18 = .ok (.iload 6, 2) := by decide +kernel
theorem dX12_strike_20 : decode cX12_strike 20 = .ok (.iconst 2, 1) := by decide +kernel
theorem dX12_strike_21 : decode cX12_strike 21 = .ok (.idiv, 1) := by decide +kernel
theorem dX12_strike_22 : decode cX12_strike 22 = .ok (.iconst 1, 1) := by decide +kernel
theorem dX12_strike_23 : decode cX12_strike 23 = .ok (.bipush 50, 2) := by decide +kernel
theorem dX12_strike_25 : decode cX12_strike 25 = .ok (.invokestatic 211, 3) := by decide +kernel
theorem dX12_strike_28 : decode cX12_strike 28 = .ok (.ifCond .eq 40, 3) := by decide +kernel
theorem dX12_strike_31 : decode cX12_strike 31 = .ok (.iload_n 1, 1) := by decide +kernel
theorem dX12_strike_32 : decode cX12_strike 32 = .ok (.invokestatic 480, 3) := by decide +kernel
theorem dX12_strike_35 : decode cX12_strike 35 = .ok (.ifCond .eq 33, 3) := by decide +kernel
theorem dX12_strike_38 : decode cX12_strike 38 = .ok (.iload_n 2, 1) := by decide +kernel
theorem dX12_strike_39 : decode cX12_strike 39 = .ok (.invokestatic 480, 3) := by decide +kernel
theorem dX12_strike_42 : decode cX12_strike 42 = .ok (.ifCond .eq 26, 3) := by decide +kernel
theorem dX12_strike_45 : decode cX12_strike 45 = .ok (.iload_n 3, 1) := by decide +kernel
theorem dX12_strike_46 : decode cX12_strike 46 = .ok (.invokestatic 480, 3) := by decide +kernel
theorem dX12_strike_49 : decode cX12_strike 49 = .ok (.ifCond .eq 19, 3) := by decide +kernel
theorem dX12_strike_52 : decode cX12_strike 52 = .ok (.iload 4, 2) := by decide +kernel
theorem dX12_strike_54 : decode cX12_strike 54 = .ok (.invokestatic 480, 3) := by decide +kernel
theorem dX12_strike_57 : decode cX12_strike 57 = .ok (.ifCond .eq 11, 3) := by decide +kernel
theorem dX12_strike_60 : decode cX12_strike 60 = .ok (.iload 5, 2) := by decide +kernel
theorem dX12_strike_62 : decode cX12_strike 62 = .ok (.invokestatic 480, 3) := by decide +kernel
theorem dX12_strike_65 : decode cX12_strike 65 = .ok (.ifCond .ne 5, 3) := by decide +kernel
theorem dX12_strike_68 : decode cX12_strike 68 = .ok (.iconst (-1), 1) := by decide +kernel
theorem dX12_strike_69 : decode cX12_strike 69 = .ok (.ireturn, 1) := by decide +kernel
theorem dX12_strike_70 : decode cX12_strike 70 = .ok (.iload_n 1, 1) := by decide +kernel
theorem dX12_strike_71 : decode cX12_strike 71 = .ok (.istore 7, 2) := by decide +kernel
theorem dX12_strike_73 : decode cX12_strike 73 = .ok (.iload 4, 2) := by decide +kernel
theorem dX12_strike_75 : decode cX12_strike 75 = .ok (.istore 8, 2) := by decide +kernel
theorem dX12_strike_77 : decode cX12_strike 77 = .ok (.iconst 0, 1) := by decide +kernel
theorem dX12_strike_78 : decode cX12_strike 78 = .ok (.istore 9, 2) := by decide +kernel
theorem dX12_strike_80 : decode cX12_strike 80 = .ok (.iload 9, 2) := by decide +kernel
theorem dX12_strike_82 : decode cX12_strike 82 = .ok (.iload 6, 2) := by decide +kernel
theorem dX12_strike_84 : decode cX12_strike 84 = .ok (.iconst 2, 1) := by decide +kernel
theorem dX12_strike_85 : decode cX12_strike 85 = .ok (.idiv, 1) := by decide +kernel
theorem dX12_strike_86 : decode cX12_strike 86 = .ok (.if_icmp .ge 118, 3) := by decide +kernel
theorem dX12_strike_89 : decode cX12_strike 89 = .ok (.iload 7, 2) := by decide +kernel
theorem dX12_strike_91 : decode cX12_strike 91 = .ok (.iload_n 2, 1) := by decide +kernel
theorem dX12_strike_92 : decode cX12_strike 92 = .ok (.iload 9, 2) := by decide +kernel
theorem dX12_strike_94 : decode cX12_strike 94 = .ok (.iload_n 3, 1) := by decide +kernel
theorem dX12_strike_95 : decode cX12_strike 95 = .ok (.imul, 1) := by decide +kernel
theorem dX12_strike_96 : decode cX12_strike 96 = .ok (.iadd, 1) := by decide +kernel
theorem dX12_strike_97 : decode cX12_strike 97 = .ok (.isub, 1) := by decide +kernel
theorem dX12_strike_98 : decode cX12_strike 98 = .ok (.istore 7, 2) := by decide +kernel
theorem dX12_strike_100 : decode cX12_strike 100 = .ok (.iload 8, 2) := by decide +kernel
theorem dX12_strike_102 : decode cX12_strike 102 = .ok (.iload 5, 2) := by decide +kernel
theorem dX12_strike_104 : decode cX12_strike 104 = .ok (.isub, 1) := by decide +kernel
theorem dX12_strike_105 : decode cX12_strike 105 = .ok (.istore 8, 2) := by decide +kernel
theorem dX12_strike_107 : decode cX12_strike 107 = .ok (.aload_n 0, 1) := by decide +kernel
theorem dX12_strike_108 : decode cX12_strike 108 = .ok (.getfield 7, 3) := by decide +kernel
theorem dX12_strike_111 : decode cX12_strike 111 = .ok (.iconst 2, 1) := by decide +kernel
theorem dX12_strike_112 : decode cX12_strike 112 = .ok (.iload 9, 2) := by decide +kernel
theorem dX12_strike_114 : decode cX12_strike 114 = .ok (.imul, 1) := by decide +kernel
theorem dX12_strike_115 : decode cX12_strike 115 = .ok (.iaload, 1) := by decide +kernel
theorem dX12_strike_116 : decode cX12_strike 116 = .ok (.istore 10, 2) := by decide +kernel
theorem dX12_strike_118 : decode cX12_strike 118 = .ok (.aload_n 0, 1) := by decide +kernel
theorem dX12_strike_119 : decode cX12_strike 119 = .ok (.getfield 7, 3) := by decide +kernel
theorem dX12_strike_122 : decode cX12_strike 122 = .ok (.iconst 2, 1) := by decide +kernel
theorem dX12_strike_123 : decode cX12_strike 123 = .ok (.iload 9, 2) := by decide +kernel
theorem dX12_strike_125 : decode cX12_strike 125 = .ok (.imul, 1) := by decide +kernel
theorem dX12_strike_126 : decode cX12_strike 126 = .ok (.iconst 1, 1) := by decide +kernel
theorem dX12_strike_127 : decode cX12_strike 127 = .ok (.iadd, 1) := by decide +kernel
theorem dX12_strike_128 : decode cX12_strike 128 = .ok (.iaload, 1) := by decide +kernel
theorem dX12_strike_129 : decode cX12_strike 129 = .ok (.istore 11, 2) := by decide +kernel
theorem dX12_strike_131 : decode cX12_strike 131 = .ok (.iload 11, 2) := by decide +kernel
theorem dX12_strike_133 : decode cX12_strike 133 = .ok (.iload 10, 2) := by decide +kernel
theorem dX12_strike_135 : decode cX12_strike 135 = .ok (.if_icmp .gt 7, 3) := by decide +kernel
theorem dX12_strike_138 : decode cX12_strike 138 = .ok (.iconst 0, 1) := by decide +kernel
theorem dX12_strike_139 : decode cX12_strike 139 = .ok (.goto 22, 3) := by decide +kernel
theorem dX12_strike_142 : decode cX12_strike 142 = .ok (.iload 7, 2) := by decide +kernel
theorem dX12_strike_144 : decode cX12_strike 144 = .ok (.ifCond .ge 7, 3) := by decide +kernel
theorem dX12_strike_147 : decode cX12_strike 147 = .ok (.iconst 1, 1) := by decide +kernel
theorem dX12_strike_148 : decode cX12_strike 148 = .ok (.goto 13, 3) := by decide +kernel
theorem dX12_strike_151 : decode cX12_strike 151 = .ok (.iload 8, 2) := by decide +kernel
theorem dX12_strike_153 : decode cX12_strike 153 = .ok (.ifCond .ge 7, 3) := by decide +kernel
theorem dX12_strike_156 : decode cX12_strike 156 = .ok (.iconst 2, 1) := by decide +kernel
theorem dX12_strike_157 : decode cX12_strike 157 = .ok (.goto 4, 3) := by decide +kernel
theorem dX12_strike_160 : decode cX12_strike 160 = .ok (.iconst (-1), 1) := by decide +kernel
theorem dX12_strike_161 : decode cX12_strike 161 = .ok (.istore 12, 2) := by decide +kernel
theorem dX12_strike_163 : decode cX12_strike 163 = .ok (.iload 12, 2) := by decide +kernel
theorem dX12_strike_165 : decode cX12_strike 165 = .ok (.iconst (-1), 1) := by decide +kernel
theorem dX12_strike_166 : decode cX12_strike 166 = .ok (.if_icmp .ne 6, 3) := by decide +kernel
theorem dX12_strike_169 : decode cX12_strike 169 = .ok (.goto 29, 3) := by decide +kernel
theorem dX12_strike_172 : decode cX12_strike 172 = .ok (.aload_n 0, 1) := by decide +kernel
theorem dX12_strike_173 : decode cX12_strike 173 = .ok (.iload 12, 2) := by decide +kernel
theorem dX12_strike_175 : decode cX12_strike 175 = .ok (.putfield 192, 3) := by decide +kernel
theorem dX12_strike_178 : decode cX12_strike 178 = .ok (.aload_n 0, 1) := by decide +kernel
theorem dX12_strike_179 : decode cX12_strike 179 = .ok (.iload 12, 2) := by decide +kernel
theorem dX12_strike_181 : decode cX12_strike 181 = .ok (.iconst 2, 1) := by decide +kernel
theorem dX12_strike_182 : decode cX12_strike 182 = .ok (.if_icmp .ne 8, 3) := by decide +kernel
theorem dX12_strike_185 : decode cX12_strike 185 = .ok (.iload 10, 2) := by decide +kernel
theorem dX12_strike_187 : decode cX12_strike 187 = .ok (.goto 5, 3) := by decide +kernel
theorem dX12_strike_190 : decode cX12_strike 190 = .ok (.iload 11, 2) := by decide +kernel
theorem dX12_strike_192 : decode cX12_strike 192 = .ok (.putfield 195, 3) := by decide +kernel
theorem dX12_strike_195 : decode cX12_strike 195 = .ok (.iload 9, 2) := by decide +kernel
theorem dX12_strike_197 : decode cX12_strike 197 = .ok (.ireturn, 1) := by decide +kernel
theorem dX12_strike_198 : decode cX12_strike 198 = .ok (.iinc 9 1, 3) := by decide +kernel
theorem dX12_strike_201 : decode cX12_strike 201 = .ok (.goto (-121), 3) := by decide +kernel
theorem dX12_strike_204 : decode cX12_strike 204 = .ok (.iconst (-1), 1) := by decide +kernel
theorem dX12_strike_205 : decode cX12_strike 205 = .ok (.ireturn, 1) := by decide +kernel
theorem dX12_struck_0 : decode cX12_struck 0 = .ok (.aload_n 0, 1) := by decide +kernel
theorem dX12_struck_1 : decode cX12_struck 1 = .ok (.iconst 0, 1) := by decide +kernel
theorem dX12_struck_2 : decode cX12_struck 2 = .ok (.putfield 198, 3) := by decide +kernel
theorem dX12_struck_5 : decode cX12_struck 5 = .ok (.iload_n 1, 1) := by decide +kernel
theorem dX12_struck_6 : decode cX12_struck 6 = .ok (.ifCond .ne 10, 3) := by decide +kernel
theorem dX12_struck_9 : decode cX12_struck 9 = .ok (.aload_n 0, 1) := by decide +kernel
theorem dX12_struck_10 : decode cX12_struck 10 = .ok (.getfield 192, 3) := by decide +kernel
theorem dX12_struck_13 : decode cX12_struck 13 = .ok (.goto 16, 3) := by decide +kernel
theorem dX12_struck_16 : decode cX12_struck 16 = .ok (.iload_n 1, 1) := by decide +kernel
theorem dX12_struck_17 : decode cX12_struck 17 = .ok (.iconst 1, 1) := by decide +kernel
theorem dX12_struck_18 : decode cX12_struck 18 = .ok (.if_icmp .ne 10, 3) := by decide +kernel
theorem dX12_struck_21 : decode cX12_struck 21 = .ok (.aload_n 0, 1) := by decide +kernel
theorem dX12_struck_22 : decode cX12_struck 22 = .ok (.getfield 195, 3) := by decide +kernel
theorem dX12_struck_25 : decode cX12_struck 25 = .ok (.goto 4, 3) := by decide +kernel
theorem dX12_struck_28 : decode cX12_struck 28 = .ok (.iconst (-1), 1) := by decide +kernel
theorem dX12_struck_29 : decode cX12_struck 29 = .ok (.ireturn, 1) := by decide +kernel
theorem dX12_table_0 : decode cX12_table 0 = .ok (.aload_n 0, 1) := by decide +kernel
theorem dX12_table_1 : decode cX12_table 1 = .ok (.iconst 0, 1) := by decide +kernel
theorem dX12_table_2 : decode cX12_table 2 = .ok (.putfield 198, 3) := by decide +kernel
theorem dX12_table_5 : decode cX12_table 5 = .ok (.iload_n 1, 1) := by decide +kernel
theorem dX12_table_6 : decode cX12_table 6 = .ok (.iconst 0, 1) := by decide +kernel
theorem dX12_table_7 : decode cX12_table 7 = .ok (.iconst 1, 1) := by decide +kernel
theorem dX12_table_8 : decode cX12_table 8 = .ok (.invokestatic 211, 3) := by decide +kernel
theorem dX12_table_11 : decode cX12_table 11 = .ok (.ifCond .eq 34, 3) := by decide +kernel
theorem dX12_table_14 : decode cX12_table 14 = .ok (.iload_n 2, 1) := by decide +kernel
theorem dX12_table_15 : decode cX12_table 15 = .ok (.iconst 0, 1) := by decide +kernel
theorem dX12_table_16 : decode cX12_table 16 = .ok (.iload_n 1, 1) := by decide +kernel
theorem dX12_table_17 : decode cX12_table 17 = .ok (.ifCond .ne 7, 3) := by decide +kernel
theorem dX12_table_20 : decode cX12_table 20 = .ok (.iconst 4, 1) := by decide +kernel
theorem dX12_table_21 : decode cX12_table 21 = .ok (.goto 5, 3) := by decide +kernel
theorem dX12_table_24 : decode cX12_table 24 = .ok (.bipush 6, 2) := by decide +kernel
theorem dX12_table_26 : decode cX12_table 26 = .ok (.iconst 1, 1) := by decide +kernel
theorem dX12_table_27 : decode cX12_table 27 = .ok (.isub, 1) := by decide +kernel
theorem dX12_table_28 : decode cX12_table 28 = .ok (.invokestatic 211, 3) := by decide +kernel
theorem dX12_table_31 : decode cX12_table 31 = .ok (.ifCond .eq 14, 3) := by decide +kernel
theorem dX12_table_34 : decode cX12_table 34 = .ok (.iload_n 3, 1) := by decide +kernel
theorem dX12_table_35 : decode cX12_table 35 = .ok (.iconst 0, 1) := by decide +kernel
theorem dX12_table_36 : decode cX12_table 36 = .ok (.sipush 300, 3) := by decide +kernel
theorem dX12_table_39 : decode cX12_table 39 = .ok (.invokestatic 211, 3) := by decide +kernel
theorem dX12_table_42 : decode cX12_table 42 = .ok (.ifCond .ne 5, 3) := by decide +kernel
theorem dX12_table_45 : decode cX12_table 45 = .ok (.iconst 0, 1) := by decide +kernel
theorem dX12_table_46 : decode cX12_table 46 = .ok (.ireturn, 1) := by decide +kernel
theorem dX12_table_47 : decode cX12_table 47 = .ok (.iload_n 1, 1) := by decide +kernel
theorem dX12_table_48 : decode cX12_table 48 = .ok (.ifCond .ne 13, 3) := by decide +kernel
theorem dX12_table_51 : decode cX12_table 51 = .ok (.aload_n 0, 1) := by decide +kernel
theorem dX12_table_52 : decode cX12_table 52 = .ok (.getfield 41, 3) := by decide +kernel
theorem dX12_table_55 : decode cX12_table 55 = .ok (.iload_n 2, 1) := by decide +kernel
theorem dX12_table_56 : decode cX12_table 56 = .ok (.iload_n 3, 1) := by decide +kernel
theorem dX12_table_57 : decode cX12_table 57 = .ok (.iastore, 1) := by decide +kernel
theorem dX12_table_58 : decode cX12_table 58 = .ok (.goto 10, 3) := by decide +kernel
theorem dX12_table_61 : decode cX12_table 61 = .ok (.aload_n 0, 1) := by decide +kernel
theorem dX12_table_62 : decode cX12_table 62 = .ok (.getfield 44, 3) := by decide +kernel
theorem dX12_table_65 : decode cX12_table 65 = .ok (.iload_n 2, 1) := by decide +kernel
theorem dX12_table_66 : decode cX12_table 66 = .ok (.iload_n 3, 1) := by decide +kernel
theorem dX12_table_67 : decode cX12_table 67 = .ok (.iastore, 1) := by decide +kernel
theorem dX12_table_68 : decode cX12_table 68 = .ok (.iconst 1, 1) := by decide +kernel
theorem dX12_table_69 : decode cX12_table 69 = .ok (.ireturn, 1) := by decide +kernel
theorem dX12_take_0 : decode cX12_take 0 = .ok (.aload_n 0, 1) := by decide +kernel
theorem dX12_take_1 : decode cX12_take 1 = .ok (.getfield 201, 3) := by decide +kernel
theorem dX12_take_4 : decode cX12_take 4 = .ok (.istore_n 1, 1) := by decide +kernel
theorem dX12_take_5 : decode cX12_take 5 = .ok (.aload_n 0, 1) := by decide +kernel
theorem dX12_take_6 : decode cX12_take 6 = .ok (.iconst 0, 1) := by decide +kernel
theorem dX12_take_7 : decode cX12_take 7 = .ok (.putfield 201, 3) := by decide +kernel
theorem dX12_take_10 : decode cX12_take 10 = .ok (.iload_n 1, 1) := by decide +kernel
theorem dX12_take_11 : decode cX12_take 11 = .ok (.ireturn, 1) := by decide +kernel
theorem dX12_termsFor_0 : decode cX12_termsFor 0 = .ok (.iconst (-1), 1) := by decide +kernel
theorem dX12_termsFor_1 : decode cX12_termsFor 1 = .ok (.istore_n 2, 1) := by decide +kernel
theorem dX12_termsFor_2 : decode cX12_termsFor 2 = .ok (.iconst 0, 1) := by decide +kernel
theorem dX12_termsFor_3 : decode cX12_termsFor 3 = .ok (.istore_n 3, 1) := by decide +kernel
theorem dX12_termsFor_4 : decode cX12_termsFor 4 = .ok (.iload_n 3, 1) := by decide +kernel
theorem dX12_termsFor_5 : decode cX12_termsFor 5 = .ok (.aload_n 0, 1) := by decide +kernel
theorem dX12_termsFor_6 : decode cX12_termsFor 6 = .ok (.getfield 373, 3) := by decide +kernel
theorem dX12_termsFor_9 : decode cX12_termsFor 9 = .ok (.if_icmp .ge 41, 3) := by decide +kernel
theorem dX12_termsFor_12 : decode cX12_termsFor 12 = .ok (.aload_n 0, 1) := by decide +kernel
theorem dX12_termsFor_13 : decode cX12_termsFor 13 = .ok (.getfield 53, 3) := by decide +kernel
theorem dX12_termsFor_16 : decode cX12_termsFor 16 = .ok (.iload_n 3, 1) := by decide +kernel
theorem dX12_termsFor_17 : decode cX12_termsFor 17 = .ok (.iaload, 1) := by decide +kernel
theorem dX12_termsFor_18 : decode cX12_termsFor 18 = .ok (.iload_n 1, 1) := by decide +kernel
theorem dX12_termsFor_19 : decode cX12_termsFor 19 = .ok (.if_icmp .gt 25, 3) := by decide +kernel
theorem dX12_termsFor_22 : decode cX12_termsFor 22 = .ok (.iload_n 2, 1) := by decide +kernel
theorem dX12_termsFor_23 : decode cX12_termsFor 23 = .ok (.iconst (-1), 1) := by decide +kernel
theorem dX12_termsFor_24 : decode cX12_termsFor 24 = .ok (.if_icmp .eq 18, 3) := by decide +kernel
theorem dX12_termsFor_27 : decode cX12_termsFor 27 = .ok (.aload_n 0, 1) := by decide +kernel
theorem dX12_termsFor_28 : decode cX12_termsFor 28 = .ok (.getfield 53, 3) := by decide +kernel
theorem dX12_termsFor_31 : decode cX12_termsFor 31 = .ok (.iload_n 3, 1) := by decide +kernel
theorem dX12_termsFor_32 : decode cX12_termsFor 32 = .ok (.iaload, 1) := by decide +kernel
theorem dX12_termsFor_33 : decode cX12_termsFor 33 = .ok (.aload_n 0, 1) := by decide +kernel
theorem dX12_termsFor_34 : decode cX12_termsFor 34 = .ok (.getfield 53, 3) := by decide +kernel
theorem dX12_termsFor_37 : decode cX12_termsFor 37 = .ok (.iload_n 2, 1) := by decide +kernel
theorem dX12_termsFor_38 : decode cX12_termsFor 38 = .ok (.iaload, 1) := by decide +kernel
theorem dX12_termsFor_39 : decode cX12_termsFor 39 = .ok (.if_icmp .lt 5, 3) := by decide +kernel
theorem dX12_termsFor_42 : decode cX12_termsFor 42 = .ok (.iload_n 3, 1) := by decide +kernel
theorem dX12_termsFor_43 : decode cX12_termsFor 43 = .ok (.istore_n 2, 1) := by decide +kernel
theorem dX12_termsFor_44 : decode cX12_termsFor 44 = .ok (.iinc 3 1, 3) := by decide +kernel
theorem dX12_termsFor_47 : decode cX12_termsFor 47 = .ok (.goto (-43), 3) := by decide +kernel
theorem dX12_termsFor_50 : decode cX12_termsFor 50 = .ok (.iload_n 2, 1) := by decide +kernel
theorem dX12_termsFor_51 : decode cX12_termsFor 51 = .ok (.ireturn, 1) := by decide +kernel
theorem dX12_triedEaten_0 : decode cX12_triedEaten 0 = .ok (.aload_n 0, 1) := by decide +kernel
theorem dX12_triedEaten_1 : decode cX12_triedEaten 1 = .ok (.iconst 0, 1) := by decide +kernel
theorem dX12_triedEaten_2 : decode cX12_triedEaten 2 = .ok (.putfield 198, 3) := by decide +kernel
theorem dX12_triedEaten_5 : decode cX12_triedEaten 5 = .ok (.aload_n 0, 1) := by decide +kernel
theorem dX12_triedEaten_6 : decode cX12_triedEaten 6 = .ok (.getfield 150, 3) := by decide +kernel
theorem dX12_triedEaten_9 : decode cX12_triedEaten 9 = .ok (.ireturn, 1) := by decide +kernel
theorem dX12_truckAt_0 : decode cX12_truckAt 0 = .ok (.aload_n 0, 1) := by decide +kernel
theorem dX12_truckAt_1 : decode cX12_truckAt 1 = .ok (.iconst 0, 1) := by decide +kernel
theorem dX12_truckAt_2 : decode cX12_truckAt 2 = .ok (.putfield 198, 3) := by decide +kernel
theorem dX12_truckAt_5 : decode cX12_truckAt 5 = .ok (.aload_n 0, 1) := by decide +kernel
theorem dX12_truckAt_6 : decode cX12_truckAt 6 = .ok (.getfield 477, 3) := by decide +kernel
theorem dX12_truckAt_9 : decode cX12_truckAt 9 = .ok (.ifCond .eq 24, 3) := by decide +kernel
theorem dX12_truckAt_12 : decode cX12_truckAt 12 = .ok (.iload_n 1, 1) := by decide +kernel
theorem dX12_truckAt_13 : decode cX12_truckAt 13 = .ok (.ifCond .lt 20, 3) := by decide +kernel
theorem dX12_truckAt_16 : decode cX12_truckAt 16 = .ok (.iload_n 1, 1) := by decide +kernel
theorem dX12_truckAt_17 : decode cX12_truckAt 17 = .ok (.aload_n 0, 1) := by decide +kernel
theorem dX12_truckAt_18 : decode cX12_truckAt 18 = .ok (.getfield 474, 3) := by decide +kernel
theorem dX12_truckAt_21 : decode cX12_truckAt 21 = .ok (.if_icmp .ge 12, 3) := by decide +kernel
theorem dX12_truckAt_24 : decode cX12_truckAt 24 = .ok (.aload_n 0, 1) := by decide +kernel
theorem dX12_truckAt_25 : decode cX12_truckAt 25 = .ok (.getfield 183, 3) := by decide +kernel
theorem dX12_truckAt_28 : decode cX12_truckAt 28 = .ok (.iload_n 1, 1) := by decide +kernel
theorem dX12_truckAt_29 : decode cX12_truckAt 29 = .ok (.iaload, 1) := by decide +kernel
theorem dX12_truckAt_30 : decode cX12_truckAt 30 = .ok (.goto 4, 3) := by decide +kernel
theorem dX12_truckAt_33 : decode cX12_truckAt 33 = .ok (.iconst (-1), 1) := by decide +kernel
theorem dX12_truckAt_34 : decode cX12_truckAt 34 = .ok (.ireturn, 1) := by decide +kernel
theorem dX12_usual_0 : decode cX12_usual 0 = .ok (.iload_n 0, 1) := by decide +kernel
theorem dX12_usual_1 : decode cX12_usual 1 = .ok (.tableswitch 48 0 4 #[35, 38, 40, 42, 46], 35) := by decide +kernel
theorem dX12_usual_36 : decode cX12_usual 36 = .ok (.bipush 60, 2) := by decide +kernel
theorem dX12_usual_38 : decode cX12_usual 38 = .ok (.ireturn, 1) := by decide +kernel
theorem dX12_usual_39 : decode cX12_usual 39 = .ok (.iconst 1, 1) := by decide +kernel
theorem dX12_usual_40 : decode cX12_usual 40 = .ok (.ireturn, 1) := by decide +kernel
theorem dX12_usual_41 : decode cX12_usual 41 = .ok (.iconst 0, 1) := by decide +kernel
theorem dX12_usual_42 : decode cX12_usual 42 = .ok (.ireturn, 1) := by decide +kernel
theorem dX12_usual_43 : decode cX12_usual 43 = .ok (.sipush 200, 3) := by decide +kernel
theorem dX12_usual_46 : decode cX12_usual 46 = .ok (.ireturn, 1) := by decide +kernel
theorem dX12_usual_47 : decode cX12_usual 47 = .ok (.iconst 1, 1) := by decide +kernel
theorem dX12_usual_48 : decode cX12_usual 48 = .ok (.ireturn, 1) := by decide +kernel
theorem dX12_usual_49 : decode cX12_usual 49 = .ok (.bipush 100, 2) := by decide +kernel
theorem dX12_usual_51 : decode cX12_usual 51 = .ok (.ireturn, 1) := by decide +kernel
theorem dX12_want_0 : decode cX12_want 0 = .ok (.aload_n 0, 1) := by decide +kernel
theorem dX12_want_1 : decode cX12_want 1 = .ok (.iconst 0, 1) := by decide +kernel
theorem dX12_want_2 : decode cX12_want 2 = .ok (.putfield 198, 3) := by decide +kernel
theorem dX12_want_5 : decode cX12_want 5 = .ok (.iload_n 1, 1) := by decide +kernel
theorem dX12_want_6 : decode cX12_want 6 = .ok (.invokestatic 219, 3) := by decide +kernel
theorem dX12_want_9 : decode cX12_want 9 = .ok (.ifCond .eq 21, 3) := by decide +kernel
theorem dX12_want_12 : decode cX12_want 12 = .ok (.iload_n 2, 1) := by decide +kernel
theorem dX12_want_13 : decode cX12_want 13 = .ok (.invokestatic 236, 3) := by decide +kernel
theorem dX12_want_16 : decode cX12_want 16 = .ok (.ifCond .eq 14, 3) := by decide +kernel
theorem dX12_want_19 : decode cX12_want 19 = .ok (.iload_n 3, 1) := by decide +kernel
theorem dX12_want_20 : decode cX12_want 20 = .ok (.iconst 0, 1) := by decide +kernel
theorem dX12_want_21 : decode cX12_want 21 = .ok (.sipush 400, 3) := by decide +kernel
theorem dX12_want_24 : decode cX12_want 24 = .ok (.invokestatic 211, 3) := by decide +kernel
theorem dX12_want_27 : decode cX12_want 27 = .ok (.ifCond .ne 5, 3) := by decide +kernel
theorem dX12_want_30 : decode cX12_want 30 = .ok (.iconst 0, 1) := by decide +kernel
theorem dX12_want_31 : decode cX12_want 31 = .ok (.ireturn, 1) := by decide +kernel
theorem dX12_want_32 : decode cX12_want 32 = .ok (.aload_n 0, 1) := by decide +kernel
theorem dX12_want_33 : decode cX12_want 33 = .ok (.getfield 38, 3) := by decide +kernel
theorem dX12_want_36 : decode cX12_want 36 = .ok (.iconst 4, 1) := by decide +kernel
theorem dX12_want_37 : decode cX12_want 37 = .ok (.iload_n 1, 1) := by decide +kernel
theorem dX12_want_38 : decode cX12_want 38 = .ok (.imul, 1) := by decide +kernel
theorem dX12_want_39 : decode cX12_want 39 = .ok (.iload_n 2, 1) := by decide +kernel
theorem dX12_want_40 : decode cX12_want 40 = .ok (.iadd, 1) := by decide +kernel
theorem dX12_want_41 : decode cX12_want 41 = .ok (.iload_n 3, 1) := by decide +kernel
theorem dX12_want_42 : decode cX12_want 42 = .ok (.iastore, 1) := by decide +kernel
theorem dX12_want_43 : decode cX12_want 43 = .ok (.iconst 1, 1) := by decide +kernel
theorem dX12_want_44 : decode cX12_want 44 = .ok (.ireturn, 1) := by decide +kernel
theorem dX12_weather_0 : decode cX12_weather 0 = .ok (.aload_n 0, 1) := by decide +kernel
theorem dX12_weather_1 : decode cX12_weather 1 = .ok (.iconst 0, 1) := by decide +kernel
theorem dX12_weather_2 : decode cX12_weather 2 = .ok (.putfield 198, 3) := by decide +kernel
theorem dX12_weather_5 : decode cX12_weather 5 = .ok (.aload_n 0, 1) := by decide +kernel
theorem dX12_weather_6 : decode cX12_weather 6 = .ok (.invokevirtual 222, 3) := by decide +kernel
theorem dX12_weather_9 : decode cX12_weather 9 = .ok (.istore_n 1, 1) := by decide +kernel
theorem dX12_weather_10 : decode cX12_weather 10 = .ok (.iload_n 1, 1) := by decide +kernel
theorem dX12_weather_11 : decode cX12_weather 11 = .ok (.iconst 1, 1) := by decide +kernel
theorem dX12_weather_12 : decode cX12_weather 12 = .ok (.sipush 400, 3) := by decide +kernel
theorem dX12_weather_15 : decode cX12_weather 15 = .ok (.invokestatic 211, 3) := by decide +kernel
theorem dX12_weather_18 : decode cX12_weather 18 = .ok (.ifCond .ne 5, 3) := by decide +kernel
theorem dX12_weather_21 : decode cX12_weather 21 = .ok (.iconst 0, 1) := by decide +kernel
theorem dX12_weather_22 : decode cX12_weather 22 = .ok (.ireturn, 1) := by decide +kernel
theorem dX12_weather_23 : decode cX12_weather 23 = .ok (.iconst 0, 1) := by decide +kernel
theorem dX12_weather_24 : decode cX12_weather 24 = .ok (.istore_n 2, 1) := by decide +kernel
theorem dX12_weather_25 : decode cX12_weather 25 = .ok (.iload_n 2, 1) := by decide +kernel
theorem dX12_weather_26 : decode cX12_weather 26 = .ok (.iload_n 1, 1) := by decide +kernel
theorem dX12_weather_27 : decode cX12_weather 27 = .ok (.if_icmp .ge 33, 3) := by decide +kernel
theorem dX12_weather_30 : decode cX12_weather 30 = .ok (.aload_n 0, 1) := by decide +kernel
theorem dX12_weather_31 : decode cX12_weather 31 = .ok (.getfield 7, 3) := by decide +kernel
theorem dX12_weather_34 : decode cX12_weather 34 = .ok (.iload_n 2, 1) := by decide +kernel
theorem dX12_weather_35 : decode cX12_weather 35 = .ok (.iaload, 1) := by decide +kernel
theorem dX12_weather_36 : decode cX12_weather 36 = .ok (.iconst 4, 1) := by decide +kernel
theorem dX12_weather_37 : decode cX12_weather 37 = .ok (.if_icmp .lt 17, 3) := by decide +kernel
theorem dX12_weather_40 : decode cX12_weather 40 = .ok (.aload_n 0, 1) := by decide +kernel
theorem dX12_weather_41 : decode cX12_weather 41 = .ok (.getfield 7, 3) := by decide +kernel
theorem dX12_weather_44 : decode cX12_weather 44 = .ok (.iload_n 2, 1) := by decide +kernel
theorem dX12_weather_45 : decode cX12_weather 45 = .ok (.iaload, 1) := by decide +kernel
theorem dX12_weather_46 : decode cX12_weather 46 = .ok (.sipush 255, 3) := by decide +kernel
theorem dX12_weather_49 : decode cX12_weather 49 = .ok (.if_icmp .eq 5, 3) := by decide +kernel
theorem dX12_weather_52 : decode cX12_weather 52 = .ok (.iconst 0, 1) := by decide +kernel
theorem dX12_weather_53 : decode cX12_weather 53 = .ok (.ireturn, 1) := by decide +kernel
theorem dX12_weather_54 : decode cX12_weather 54 = .ok (.iinc 2 1, 3) := by decide +kernel
theorem dX12_weather_57 : decode cX12_weather 57 = .ok (.goto (-32), 3) := by decide +kernel
theorem dX12_weather_60 : decode cX12_weather 60 = .ok (.iconst 0, 1) := by decide +kernel
theorem dX12_weather_61 : decode cX12_weather 61 = .ok (.istore_n 2, 1) := by decide +kernel
theorem dX12_weather_62 : decode cX12_weather 62 = .ok (.iload_n 2, 1) := by decide +kernel
theorem dX12_weather_63 : decode cX12_weather 63 = .ok (.iload_n 1, 1) := by decide +kernel
theorem dX12_weather_64 : decode cX12_weather 64 = .ok (.if_icmp .ge 50, 3) := by decide +kernel
theorem dX12_weather_67 : decode cX12_weather 67 = .ok (.aload_n 0, 1) := by decide +kernel
theorem dX12_weather_68 : decode cX12_weather 68 = .ok (.getfield 32, 3) := by decide +kernel
theorem dX12_weather_71 : decode cX12_weather 71 = .ok (.iload_n 2, 1) := by decide +kernel
theorem dX12_weather_72 : decode cX12_weather 72 = .ok (.aload_n 0, 1) := by decide +kernel
theorem dX12_weather_73 : decode cX12_weather 73 = .ok (.getfield 7, 3) := by decide +kernel
theorem dX12_weather_76 : decode cX12_weather 76 = .ok (.iload_n 2, 1) := by decide +kernel
theorem dX12_weather_77 : decode cX12_weather 77 = .ok (.iaload, 1) := by decide +kernel
theorem dX12_weather_78 : decode cX12_weather 78 = .ok (.iconst 4, 1) := by decide +kernel
theorem dX12_weather_79 : decode cX12_weather 79 = .ok (.if_icmp .ge 12, 3) := by decide +kernel
theorem dX12_weather_82 : decode cX12_weather 82 = .ok (.aload_n 0, 1) := by decide +kernel
theorem dX12_weather_83 : decode cX12_weather 83 = .ok (.getfield 7, 3) := by decide +kernel
theorem dX12_weather_86 : decode cX12_weather 86 = .ok (.iload_n 2, 1) := by decide +kernel
theorem dX12_weather_87 : decode cX12_weather 87 = .ok (.iaload, 1) := by decide +kernel
theorem dX12_weather_88 : decode cX12_weather 88 = .ok (.goto 19, 3) := by decide +kernel
theorem dX12_weather_91 : decode cX12_weather 91 = .ok (.iload_n 2, 1) := by decide +kernel
theorem dX12_weather_92 : decode cX12_weather 92 = .ok (.ifCond .ne 7, 3) := by decide +kernel
theorem dX12_weather_95 : decode cX12_weather 95 = .ok (.iconst 0, 1) := by decide +kernel
theorem dX12_weather_96 : decode cX12_weather 96 = .ok (.goto 11, 3) := by decide +kernel
theorem dX12_weather_99 : decode cX12_weather 99 = .ok (.aload_n 0, 1) := by decide +kernel
theorem dX12_weather_100 : decode cX12_weather 100 = .ok (.getfield 32, 3) := by decide +kernel
theorem dX12_weather_103 : decode cX12_weather 103 = .ok (.iload_n 2, 1) := by decide +kernel
theorem dX12_weather_104 : decode cX12_weather 104 = .ok (.iconst 1, 1) := by decide +kernel
theorem dX12_weather_105 : decode cX12_weather 105 = .ok (.isub, 1) := by decide +kernel
theorem dX12_weather_106 : decode cX12_weather 106 = .ok (.iaload, 1) := by decide +kernel
theorem dX12_weather_107 : decode cX12_weather 107 = .ok (.iastore, 1) := by decide +kernel
theorem dX12_weather_108 : decode cX12_weather 108 = .ok (.iinc 2 1, 3) := by decide +kernel
theorem dX12_weather_111 : decode cX12_weather 111 = .ok (.goto (-49), 3) := by decide +kernel
theorem dX12_weather_114 : decode cX12_weather 114 = .ok (.aload_n 0, 1) := by decide +kernel
theorem dX12_weather_115 : decode cX12_weather 115 = .ok (.iload_n 1, 1) := by decide +kernel
theorem dX12_weather_116 : decode cX12_weather 116 = .ok (.putfield 226, 3) := by decide +kernel
theorem dX12_weather_119 : decode cX12_weather 119 = .ok (.iconst 1, 1) := by decide +kernel
theorem dX12_weather_120 : decode cX12_weather 120 = .ok (.ireturn, 1) := by decide +kernel
theorem dX12_why_0 : decode cX12_why 0 = .ok (.aload_n 0, 1) := by decide +kernel
theorem dX12_why_1 : decode cX12_why 1 = .ok (.iconst 0, 1) := by decide +kernel
theorem dX12_why_2 : decode cX12_why 2 = .ok (.putfield 198, 3) := by decide +kernel
theorem dX12_why_5 : decode cX12_why 5 = .ok (.aload_n 0, 1) := by decide +kernel
theorem dX12_why_6 : decode cX12_why 6 = .ok (.getfield 120, 3) := by decide +kernel
theorem dX12_why_9 : decode cX12_why 9 = .ok (.ireturn, 1) := by decide +kernel
theorem dX2_choose_0 : decode cX2_choose 0 = .ok (.iconst 0, 1) := by decide +kernel
theorem dX2_choose_1 : decode cX2_choose 1 = .ok (.istore 4, 2) := by decide +kernel
theorem dX2_choose_3 : decode cX2_choose 3 = .ok (.aload_n 0, 1) := by decide +kernel
theorem dX2_choose_4 : decode cX2_choose 4 = .ok (.aload_n 0, 1) := by decide +kernel
theorem dX2_choose_5 : decode cX2_choose 5 = .ok (.iconst 0, 1) := by decide +kernel
theorem dX2_choose_6 : decode cX2_choose 6 = .ok (.iload_n 1, 1) := by decide +kernel
theorem dX2_choose_7 : decode cX2_choose 7 = .ok (.iload_n 2, 1) := by decide +kernel
theorem dX2_choose_8 : decode cX2_choose 8 = .ok (.iload_n 3, 1) := by decide +kernel
theorem dX2_choose_9 : decode cX2_choose 9 = .ok (.invokevirtual 37, 3) := by decide +kernel
theorem dX2_choose_12 : decode cX2_choose 12 = .ok (.putfield 22, 3) := by decide +kernel
theorem dX2_choose_15 : decode cX2_choose 15 = .ok (.iconst 1, 1) := by decide +kernel
theorem dX2_choose_16 : decode cX2_choose 16 = .ok (.istore 5, 2) := by decide +kernel
theorem dX2_choose_18 : decode cX2_choose 18 = .ok (.iload 5, 2) := by decide +kernel
theorem dX2_choose_20 : decode cX2_choose 20 = .ok (.sipush 400, 3) := by decide +kernel
theorem dX2_choose_23 : decode cX2_choose 23 = .ok (.if_icmp .gt 40, 3) := by decide +kernel
theorem dX2_choose_26 : decode cX2_choose 26 = .ok (.aload_n 0, 1) := by decide +kernel
theorem dX2_choose_27 : decode cX2_choose 27 = .ok (.iload 5, 2) := by decide +kernel
theorem dX2_choose_29 : decode cX2_choose 29 = .ok (.iload_n 1, 1) := by decide +kernel
theorem dX2_choose_30 : decode cX2_choose 30 = .ok (.iload_n 2, 1) := by decide +kernel
theorem dX2_choose_31 : decode cX2_choose 31 = .ok (.iload_n 3, 1) := by decide +kernel
theorem dX2_choose_32 : decode cX2_choose 32 = .ok (.invokevirtual 37, 3) := by decide +kernel
theorem dX2_choose_35 : decode cX2_choose 35 = .ok (.lstore 6, 2) := by decide +kernel
theorem dX2_choose_37 : decode cX2_choose 37 = .ok (.lload 6, 2) := by decide +kernel
theorem dX2_choose_39 : decode cX2_choose 39 = .ok (.aload_n 0, 1) := by decide +kernel
theorem dX2_choose_40 : decode cX2_choose 40 = .ok (.getfield 22, 3) := by decide +kernel
theorem dX2_choose_43 : decode cX2_choose 43 = .ok (.lcmp, 1) := by decide +kernel
theorem dX2_choose_44 : decode cX2_choose 44 = .ok (.ifCond .le 13, 3) := by decide +kernel
theorem dX2_choose_47 : decode cX2_choose 47 = .ok (.aload_n 0, 1) := by decide +kernel
theorem dX2_choose_48 : decode cX2_choose 48 = .ok (.lload 6, 2) := by decide +kernel
theorem dX2_choose_50 : decode cX2_choose 50 = .ok (.putfield 22, 3) := by decide +kernel
theorem dX2_choose_53 : decode cX2_choose 53 = .ok (.iload 5, 2) := by decide +kernel
theorem dX2_choose_55 : decode cX2_choose 55 = .ok (.istore 4, 2) := by decide +kernel
theorem dX2_choose_57 : decode cX2_choose 57 = .ok (.iinc 5 1, 3) := by decide +kernel
theorem dX2_choose_60 : decode cX2_choose 60 = .ok (.goto (-42), 3) := by decide +kernel
theorem dX2_choose_63 : decode cX2_choose 63 = .ok (.iload 4, 2) := by decide +kernel
theorem dX2_choose_65 : decode cX2_choose 65 = .ok (.ireturn, 1) := by decide +kernel
theorem dX2_gainOf_0 : decode cX2_gainOf 0 = .ok (.lconst 0, 1) := by decide +kernel
theorem dX2_gainOf_1 : decode cX2_gainOf 1 = .ok (.lstore 5, 2) := by decide +kernel
theorem dX2_gainOf_3 : decode cX2_gainOf 3 = .ok (.iload_n 1, 1) := by decide +kernel
theorem dX2_gainOf_4 : decode cX2_gainOf 4 = .ok (.iload_n 2, 1) := by decide +kernel
theorem dX2_gainOf_5 : decode cX2_gainOf 5 = .ok (.invokestatic 41, 3) := by decide +kernel
theorem dX2_gainOf_8 : decode cX2_gainOf 8 = .ok (.istore 7, 2) := by decide +kernel
theorem dX2_gainOf_10 : decode cX2_gainOf 10 = .ok (.iconst 0, 1) := by decide +kernel
theorem dX2_gainOf_11 : decode cX2_gainOf 11 = .ok (.istore 8, 2) := by decide +kernel
theorem dX2_gainOf_13 : decode cX2_gainOf 13 = .ok (.iload 8, 2) := by decide +kernel
theorem dX2_gainOf_15 : decode cX2_gainOf 15 = .ok (.aload_n 0, 1) := by decide +kernel
theorem dX2_gainOf_16 : decode cX2_gainOf 16 = .ok (.getfield 18, 3) := by decide +kernel
theorem dX2_gainOf_19 : decode cX2_gainOf 19 = .ok (.if_icmp .ge 62, 3) := by decide +kernel
theorem dX2_gainOf_22 : decode cX2_gainOf 22 = .ok (.iload_n 1, 1) := by decide +kernel
theorem dX2_gainOf_23 : decode cX2_gainOf 23 = .ok (.aload_n 0, 1) := by decide +kernel
theorem dX2_gainOf_24 : decode cX2_gainOf 24 = .ok (.getfield 9, 3) := by decide +kernel
theorem dX2_gainOf_27 : decode cX2_gainOf 27 = .ok (.iload 8, 2) := by decide +kernel
theorem dX2_gainOf_29 : decode cX2_gainOf 29 = .ok (.iaload, 1) := by decide +kernel
theorem dX2_gainOf_30 : decode cX2_gainOf 30 = .ok (.invokestatic 45, 3) := by decide +kernel
theorem dX2_gainOf_33 : decode cX2_gainOf 33 = .ok (.istore 9, 2) := by decide +kernel
theorem dX2_gainOf_35 : decode cX2_gainOf 35 = .ok (.iload_n 3, 1) := by decide +kernel
theorem dX2_gainOf_36 : decode cX2_gainOf 36 = .ok (.iload 9, 2) := by decide +kernel
theorem dX2_gainOf_38 : decode cX2_gainOf 38 = .ok (.imul, 1) := by decide +kernel
theorem dX2_gainOf_39 : decode cX2_gainOf 39 = .ok (.iload 7, 2) := by decide +kernel
theorem dX2_gainOf_41 : decode cX2_gainOf 41 = .ok (.isub, 1) := by decide +kernel
theorem dX2_gainOf_42 : decode cX2_gainOf 42 = .ok (.iload_n 1, 1) := by decide +kernel
theorem dX2_gainOf_43 : decode cX2_gainOf 43 = .ok (.iload 9, 2) := by decide +kernel
theorem dX2_gainOf_45 : decode cX2_gainOf 45 = .ok (.isub, 1) := by decide +kernel
theorem dX2_gainOf_46 : decode cX2_gainOf 46 = .ok (.iload 4, 2) := by decide +kernel
theorem dX2_gainOf_48 : decode cX2_gainOf 48 = .ok (.invokestatic 50, 3) := by decide +kernel
theorem dX2_gainOf_51 : decode cX2_gainOf 51 = .ok (.iload_n 2, 1) := by decide +kernel
theorem dX2_gainOf_52 : decode cX2_gainOf 52 = .ok (.invokestatic 53, 3) := by decide +kernel
theorem dX2_gainOf_55 : decode cX2_gainOf 55 = .ok (.iadd, 1) := by decide +kernel
theorem dX2_gainOf_56 : decode cX2_gainOf 56 = .ok (.istore 10, 2) := by decide +kernel
theorem dX2_gainOf_58 : decode cX2_gainOf 58 = .ok (.lload 5, 2) := by decide +kernel
theorem dX2_gainOf_60 : decode cX2_gainOf 60 = .ok (.iload 10, 2) := by decide +kernel
theorem dX2_gainOf_62 : decode cX2_gainOf 62 = .ok (.i2l, 1) := by decide +kernel
theorem dX2_gainOf_63 : decode cX2_gainOf 63 = .ok (.aload_n 0, 1) := by decide +kernel
theorem dX2_gainOf_64 : decode cX2_gainOf 64 = .ok (.getfield 15, 3) := by decide +kernel
theorem dX2_gainOf_67 : decode cX2_gainOf 67 = .ok (.iload 8, 2) := by decide +kernel
theorem dX2_gainOf_69 : decode cX2_gainOf 69 = .ok (.iaload, 1) := by decide +kernel
theorem dX2_gainOf_70 : decode cX2_gainOf 70 = .ok (.i2l, 1) := by decide +kernel
theorem dX2_gainOf_71 : decode cX2_gainOf 71 = .ok (.lmul, 1) := by decide +kernel
theorem dX2_gainOf_72 : decode cX2_gainOf 72 = .ok (.ladd, 1) := by decide +kernel
theorem dX2_gainOf_73 : decode cX2_gainOf 73 = .ok (.lstore 5, 2) := by decide +kernel
theorem dX2_gainOf_75 : decode cX2_gainOf 75 = .ok (.iinc 8 1, 3) := by decide +kernel
theorem dX2_gainOf_78 : decode cX2_gainOf 78 = .ok (.goto (-65), 3) := by decide +kernel
theorem dX2_gainOf_81 : decode cX2_gainOf 81 = .ok (.lload 5, 2) := by decide +kernel
theorem dX2_gainOf_83 : decode cX2_gainOf 83 = .ok (.lreturn, 1) := by decide +kernel
theorem dX3_askedFor_0 : decode cX3_askedFor 0 = .ok (.aload_n 0, 1) := by decide +kernel
theorem dX3_askedFor_1 : decode cX3_askedFor 1 = .ok (.getfield 26, 3) := by decide +kernel
theorem dX3_askedFor_4 : decode cX3_askedFor 4 = .ok (.iload_n 1, 1) := by decide +kernel
theorem dX3_askedFor_5 : decode cX3_askedFor 5 = .ok (.aaload, 1) := by decide +kernel
theorem dX3_askedFor_6 : decode cX3_askedFor 6 = .ok (.iload_n 2, 1) := by decide +kernel
theorem dX3_askedFor_7 : decode cX3_askedFor 7 = .ok (.iaload, 1) := by decide +kernel
theorem dX3_askedFor_8 : decode cX3_askedFor 8 = .ok (.aload_n 0, 1) := by decide +kernel
theorem dX3_askedFor_9 : decode cX3_askedFor 9 = .ok (.getfield 20, 3) := by decide +kernel
theorem dX3_askedFor_12 : decode cX3_askedFor 12 = .ok (.iload_n 3, 1) := by decide +kernel
theorem dX3_askedFor_13 : decode cX3_askedFor 13 = .ok (.iaload, 1) := by decide +kernel
theorem dX3_askedFor_14 : decode cX3_askedFor 14 = .ok (.imul, 1) := by decide +kernel
theorem dX3_askedFor_15 : decode cX3_askedFor 15 = .ok (.bipush 100, 2) := by decide +kernel
theorem dX3_askedFor_17 : decode cX3_askedFor 17 = .ok (.idiv, 1) := by decide +kernel
theorem dX3_askedFor_18 : decode cX3_askedFor 18 = .ok (.istore 5, 2) := by decide +kernel
theorem dX3_askedFor_20 : decode cX3_askedFor 20 = .ok (.iload 5, 2) := by decide +kernel
theorem dX3_askedFor_22 : decode cX3_askedFor 22 = .ok (.aload_n 0, 1) := by decide +kernel
theorem dX3_askedFor_23 : decode cX3_askedFor 23 = .ok (.getfield 23, 3) := by decide +kernel
theorem dX3_askedFor_26 : decode cX3_askedFor 26 = .ok (.iload 4, 2) := by decide +kernel
theorem dX3_askedFor_28 : decode cX3_askedFor 28 = .ok (.iaload, 1) := by decide +kernel
theorem dX3_askedFor_29 : decode cX3_askedFor 29 = .ok (.imul, 1) := by decide +kernel
theorem dX3_askedFor_30 : decode cX3_askedFor 30 = .ok (.bipush 100, 2) := by decide +kernel
theorem dX3_askedFor_32 : decode cX3_askedFor 32 = .ok (.idiv, 1) := by decide +kernel
theorem dX3_askedFor_33 : decode cX3_askedFor 33 = .ok (.ireturn, 1) := by decide +kernel
theorem dX3_askedOn_0 : decode cX3_askedOn 0 = .ok (.aload_n 0, 1) := by decide +kernel
theorem dX3_askedOn_1 : decode cX3_askedOn 1 = .ok (.iload_n 2, 1) := by decide +kernel
theorem dX3_askedOn_2 : decode cX3_askedOn 2 = .ok (.iload_n 3, 1) := by decide +kernel
theorem dX3_askedOn_3 : decode cX3_askedOn 3 = .ok (.aload_n 0, 1) := by decide +kernel
theorem dX3_askedOn_4 : decode cX3_askedOn 4 = .ok (.getfield 9, 3) := by decide +kernel
theorem dX3_askedOn_7 : decode cX3_askedOn 7 = .ok (.iload_n 1, 1) := by decide +kernel
theorem dX3_askedOn_8 : decode cX3_askedOn 8 = .ok (.iaload, 1) := by decide +kernel
theorem dX3_askedOn_9 : decode cX3_askedOn 9 = .ok (.aload_n 0, 1) := by decide +kernel
theorem dX3_askedOn_10 : decode cX3_askedOn 10 = .ok (.getfield 17, 3) := by decide +kernel
theorem dX3_askedOn_13 : decode cX3_askedOn 13 = .ok (.iload_n 3, 1) := by decide +kernel
theorem dX3_askedOn_14 : decode cX3_askedOn 14 = .ok (.aaload, 1) := by decide +kernel
theorem dX3_askedOn_15 : decode cX3_askedOn 15 = .ok (.iload_n 1, 1) := by decide +kernel
theorem dX3_askedOn_16 : decode cX3_askedOn 16 = .ok (.iaload, 1) := by decide +kernel
theorem dX3_askedOn_17 : decode cX3_askedOn 17 = .ok (.invokevirtual 44, 3) := by decide +kernel
theorem dX3_askedOn_20 : decode cX3_askedOn 20 = .ok (.ireturn, 1) := by decide +kernel
theorem dX3_setSky_0 : decode cX3_setSky 0 = .ok (.iconst 0, 1) := by decide +kernel
theorem dX3_setSky_1 : decode cX3_setSky 1 = .ok (.istore_n 2, 1) := by decide +kernel
theorem dX3_setSky_2 : decode cX3_setSky 2 = .ok (.iconst 0, 1) := by decide +kernel
theorem dX3_setSky_3 : decode cX3_setSky 3 = .ok (.istore_n 3, 1) := by decide +kernel
theorem dX3_setSky_4 : decode cX3_setSky 4 = .ok (.iload_n 3, 1) := by decide +kernel
theorem dX3_setSky_5 : decode cX3_setSky 5 = .ok (.sipush 400, 3) := by decide +kernel
theorem dX3_setSky_8 : decode cX3_setSky 8 = .ok (.if_icmp .ge 56, 3) := by decide +kernel
theorem dX3_setSky_11 : decode cX3_setSky 11 = .ok (.iload_n 3, 1) := by decide +kernel
theorem dX3_setSky_12 : decode cX3_setSky 12 = .ok (.aload_n 1, 1) := by decide +kernel
theorem dX3_setSky_13 : decode cX3_setSky 13 = .ok (.getfield 35, 3) := by decide +kernel
theorem dX3_setSky_16 : decode cX3_setSky 16 = .ok (.if_icmp .ge 12, 3) := by decide +kernel
theorem dX3_setSky_19 : decode cX3_setSky 19 = .ok (.aload_n 1, 1) := by decide +kernel
theorem dX3_setSky_20 : decode cX3_setSky 20 = .ok (.getfield 41, 3) := by decide +kernel
theorem dX3_setSky_23 : decode cX3_setSky 23 = .ok (.iload_n 3, 1) := by decide +kernel
theorem dX3_setSky_24 : decode cX3_setSky 24 = .ok (.iaload, 1) := by decide +kernel
theorem dX3_setSky_25 : decode cX3_setSky 25 = .ok (.goto 4, 3) := by decide +kernel
theorem dX3_setSky_28 : decode cX3_setSky 28 = .ok (.iconst 3, 1) := by decide +kernel
theorem dX3_setSky_29 : decode cX3_setSky 29 = .ok (.istore 4, 2) := by decide +kernel
theorem dX3_setSky_31 : decode cX3_setSky 31 = .ok (.aload_n 0, 1) := by decide +kernel
theorem dX3_setSky_32 : decode cX3_setSky 32 = .ok (.getfield 9, 3) := by decide +kernel
theorem dX3_setSky_35 : decode cX3_setSky 35 = .ok (.iload_n 3, 1) := by decide +kernel
theorem dX3_setSky_36 : decode cX3_setSky 36 = .ok (.iload 4, 2) := by decide +kernel
theorem dX3_setSky_38 : decode cX3_setSky 38 = .ok (.sipush 255, 3) := by decide +kernel
theorem dX3_setSky_41 : decode cX3_setSky 41 = .ok (.if_icmp .ne 7, 3) := by decide +kernel
theorem dX3_setSky_44 : decode cX3_setSky 44 = .ok (.iload_n 2, 1) := by decide +kernel
theorem dX3_setSky_45 : decode cX3_setSky 45 = .ok (.goto 5, 3) := by decide +kernel
theorem dX3_setSky_48 : decode cX3_setSky 48 = .ok (.iload 4, 2) := by decide +kernel
theorem dX3_setSky_50 : decode cX3_setSky 50 = .ok (.iastore, 1) := by decide +kernel
theorem dX3_setSky_51 : decode cX3_setSky 51 = .ok (.aload_n 0, 1) := by decide +kernel
theorem dX3_setSky_52 : decode cX3_setSky 52 = .ok (.getfield 9, 3) := by decide +kernel
theorem dX3_setSky_55 : decode cX3_setSky 55 = .ok (.iload_n 3, 1) := by decide +kernel
theorem dX3_setSky_56 : decode cX3_setSky 56 = .ok (.iaload, 1) := by decide +kernel
theorem dX3_setSky_57 : decode cX3_setSky 57 = .ok (.istore_n 2, 1) := by decide +kernel
theorem dX3_setSky_58 : decode cX3_setSky 58 = .ok (.iinc 3 1, 3) := by decide +kernel
theorem dX3_setSky_61 : decode cX3_setSky 61 = .ok (.goto (-57), 3) := by decide +kernel
theorem dX3_setSky_64 : decode cX3_setSky 64 = .ok (.return_, 1) := by decide +kernel
theorem dX4_add_0 : decode cX4_add 0 = .ok (.aload_n 0, 1) := by decide +kernel
theorem dX4_add_1 : decode cX4_add 1 = .ok (.getfield 21, 3) := by decide +kernel
theorem dX4_add_4 : decode cX4_add 4 = .ok (.bipush 60, 2) := by decide +kernel
theorem dX4_add_6 : decode cX4_add 6 = .ok (.if_icmp .ge 43, 3) := by decide +kernel
theorem dX4_add_9 : decode cX4_add 9 = .ok (.aload_n 0, 1) := by decide +kernel
theorem dX4_add_10 : decode cX4_add 10 = .ok (.getfield 9, 3) := by decide +kernel
theorem dX4_add_13 : decode cX4_add 13 = .ok (.aload_n 0, 1) := by decide +kernel
theorem dX4_add_14 : decode cX4_add 14 = .ok (.getfield 21, 3) := by decide +kernel
theorem dX4_add_17 : decode cX4_add 17 = .ok (.iload_n 1, 1) := by decide +kernel
theorem dX4_add_18 : decode cX4_add 18 = .ok (.iastore, 1) := by decide +kernel
theorem dX4_add_19 : decode cX4_add 19 = .ok (.aload_n 0, 1) := by decide +kernel
theorem dX4_add_20 : decode cX4_add 20 = .ok (.getfield 15, 3) := by decide +kernel
theorem dX4_add_23 : decode cX4_add 23 = .ok (.aload_n 0, 1) := by decide +kernel
theorem dX4_add_24 : decode cX4_add 24 = .ok (.getfield 21, 3) := by decide +kernel
theorem dX4_add_27 : decode cX4_add 27 = .ok (.iload_n 2, 1) := by decide +kernel
theorem dX4_add_28 : decode cX4_add 28 = .ok (.iastore, 1) := by decide +kernel
theorem dX4_add_29 : decode cX4_add 29 = .ok (.aload_n 0, 1) := by decide +kernel
theorem dX4_add_30 : decode cX4_add 30 = .ok (.getfield 18, 3) := by decide +kernel
theorem dX4_add_33 : decode cX4_add 33 = .ok (.aload_n 0, 1) := by decide +kernel
theorem dX4_add_34 : decode cX4_add 34 = .ok (.getfield 21, 3) := by decide +kernel
theorem dX4_add_37 : decode cX4_add 37 = .ok (.iload_n 3, 1) := by decide +kernel
theorem dX4_add_38 : decode cX4_add 38 = .ok (.iastore, 1) := by decide +kernel
theorem dX4_add_39 : decode cX4_add 39 = .ok (.aload_n 0, 1) := by decide +kernel
theorem dX4_add_40 : decode cX4_add 40 = .ok (.dup, 1) := by decide +kernel
theorem dX4_add_41 : decode cX4_add 41 = .ok (.getfield 21, 3) := by decide +kernel
theorem dX4_add_44 : decode cX4_add 44 = .ok (.iconst 1, 1) := by decide +kernel
theorem dX4_add_45 : decode cX4_add 45 = .ok (.iadd, 1) := by decide +kernel
theorem dX4_add_46 : decode cX4_add 46 = .ok (.putfield 21, 3) := by decide +kernel
theorem dX4_add_49 : decode cX4_add 49 = .ok (.return_, 1) := by decide +kernel
theorem dX4_countedAsOf_0 : decode cX4_countedAsOf 0 = .ok (.aload_n 0, 1) := by decide +kernel
theorem dX4_countedAsOf_1 : decode cX4_countedAsOf 1 = .ok (.iload_n 1, 1) := by decide +kernel
theorem dX4_countedAsOf_2 : decode cX4_countedAsOf 2 = .ok (.iload_n 2, 1) := by decide +kernel
theorem dX4_countedAsOf_3 : decode cX4_countedAsOf 3 = .ok (.invokevirtual 25, 3) := by decide +kernel
theorem dX4_countedAsOf_6 : decode cX4_countedAsOf 6 = .ok (.istore_n 3, 1) := by decide +kernel
theorem dX4_countedAsOf_7 : decode cX4_countedAsOf 7 = .ok (.iload_n 3, 1) := by decide +kernel
theorem dX4_countedAsOf_8 : decode cX4_countedAsOf 8 = .ok (.iconst (-1), 1) := by decide +kernel
theorem dX4_countedAsOf_9 : decode cX4_countedAsOf 9 = .ok (.if_icmp .ne 7, 3) := by decide +kernel
theorem dX4_countedAsOf_12 : decode cX4_countedAsOf 12 = .ok (.iconst 0, 1) := by decide +kernel
theorem dX4_countedAsOf_13 : decode cX4_countedAsOf 13 = .ok (.goto 9, 3) := by decide +kernel
theorem dX4_countedAsOf_16 : decode cX4_countedAsOf 16 = .ok (.aload_n 0, 1) := by decide +kernel
theorem dX4_countedAsOf_17 : decode cX4_countedAsOf 17 = .ok (.getfield 15, 3) := by decide +kernel
theorem dX4_countedAsOf_20 : decode cX4_countedAsOf 20 = .ok (.iload_n 3, 1) := by decide +kernel
theorem dX4_countedAsOf_21 : decode cX4_countedAsOf 21 = .ok (.iaload, 1) := by decide +kernel
theorem dX4_countedAsOf_22 : decode cX4_countedAsOf 22 = .ok (.ireturn, 1) := by decide +kernel
theorem dX4_lastAsOf_0 : decode cX4_lastAsOf 0 = .ok (.aload_n 0, 1) := by decide +kernel
theorem dX4_lastAsOf_1 : decode cX4_lastAsOf 1 = .ok (.getfield 21, 3) := by decide +kernel
theorem dX4_lastAsOf_4 : decode cX4_lastAsOf 4 = .ok (.iconst 1, 1) := by decide +kernel
theorem dX4_lastAsOf_5 : decode cX4_lastAsOf 5 = .ok (.isub, 1) := by decide +kernel
theorem dX4_lastAsOf_6 : decode cX4_lastAsOf 6 = .ok (.istore_n 3, 1) := by decide +kernel
theorem dX4_lastAsOf_7 : decode cX4_lastAsOf 7 = .ok (.iload_n 3, 1) := by decide +kernel
theorem dX4_lastAsOf_8 : decode cX4_lastAsOf 8 = .ok (.ifCond .lt 31, 3) := by decide +kernel
theorem dX4_lastAsOf_11 : decode cX4_lastAsOf 11 = .ok (.aload_n 0, 1) := by decide +kernel
theorem dX4_lastAsOf_12 : decode cX4_lastAsOf 12 = .ok (.getfield 18, 3) := by decide +kernel
theorem dX4_lastAsOf_15 : decode cX4_lastAsOf 15 = .ok (.iload_n 3, 1) := by decide +kernel
theorem dX4_lastAsOf_16 : decode cX4_lastAsOf 16 = .ok (.iaload, 1) := by decide +kernel
theorem dX4_lastAsOf_17 : decode cX4_lastAsOf 17 = .ok (.iload_n 1, 1) := by decide +kernel
theorem dX4_lastAsOf_18 : decode cX4_lastAsOf 18 = .ok (.if_icmp .gt 15, 3) := by decide +kernel
theorem dX4_lastAsOf_21 : decode cX4_lastAsOf 21 = .ok (.aload_n 0, 1) := by decide +kernel
theorem dX4_lastAsOf_22 : decode cX4_lastAsOf 22 = .ok (.getfield 9, 3) := by decide +kernel
theorem dX4_lastAsOf_25 : decode cX4_lastAsOf 25 = .ok (.iload_n 3, 1) := by decide +kernel
theorem dX4_lastAsOf_26 : decode cX4_lastAsOf 26 = .ok (.iaload, 1) := by decide +kernel
theorem dX4_lastAsOf_27 : decode cX4_lastAsOf 27 = .ok (.iload_n 2, 1) := by decide +kernel
theorem dX4_lastAsOf_28 : decode cX4_lastAsOf 28 = .ok (.if_icmp .ne 5, 3) := by decide +kernel
theorem dX4_lastAsOf_31 : decode cX4_lastAsOf 31 = .ok (.iload_n 3, 1) := by decide +kernel
theorem dX4_lastAsOf_32 : decode cX4_lastAsOf 32 = .ok (.ireturn, 1) := by decide +kernel
theorem dX4_lastAsOf_33 : decode cX4_lastAsOf 33 = .ok (.iinc 3 (-1), 3) := by decide +kernel
theorem dX4_lastAsOf_36 : decode cX4_lastAsOf 36 = .ok (.goto (-29), 3) := by decide +kernel
theorem dX4_lastAsOf_39 : decode cX4_lastAsOf 39 = .ok (.iconst (-1), 1) := by decide +kernel
theorem dX4_lastAsOf_40 : decode cX4_lastAsOf 40 = .ok (.ireturn, 1) := by decide +kernel
theorem dX6_ask_0 : decode cX6_ask 0 = .ok (.aload_n 0, 1) := by decide +kernel
theorem dX6_ask_1 : decode cX6_ask 1 = .ok (.getfield 25, 3) := by decide +kernel
theorem dX6_ask_4 : decode cX6_ask 4 = .ok (.iload_n 2, 1) := by decide +kernel
theorem dX6_ask_5 : decode cX6_ask 5 = .ok (.iaload, 1) := by decide +kernel
theorem dX6_ask_6 : decode cX6_ask 6 = .ok (.istore_n 3, 1) := by decide +kernel
theorem dX6_ask_7 : decode cX6_ask 7 = .ok (.iload_n 3, 1) := by decide +kernel
theorem dX6_ask_8 : decode cX6_ask 8 = .ok (.iconst (-1), 1) := by decide +kernel
theorem dX6_ask_9 : decode cX6_ask 9 = .ok (.if_icmp .eq 13, 3) := by decide +kernel
theorem dX6_ask_12 : decode cX6_ask 12 = .ok (.aload_n 0, 1) := by decide +kernel
theorem dX6_ask_13 : decode cX6_ask 13 = .ok (.iload_n 1, 1) := by decide +kernel
theorem dX6_ask_14 : decode cX6_ask 14 = .ok (.iload_n 3, 1) := by decide +kernel
theorem dX6_ask_15 : decode cX6_ask 15 = .ok (.iload_n 2, 1) := by decide +kernel
theorem dX6_ask_16 : decode cX6_ask 16 = .ok (.invokevirtual 69, 3) := by decide +kernel
theorem dX6_ask_19 : decode cX6_ask 19 = .ok (.ifCond .eq 44, 3) := by decide +kernel
theorem dX6_ask_22 : decode cX6_ask 22 = .ok (.aload_n 0, 1) := by decide +kernel
theorem dX6_ask_23 : decode cX6_ask 23 = .ok (.getfield 25, 3) := by decide +kernel
theorem dX6_ask_26 : decode cX6_ask 26 = .ok (.iload_n 2, 1) := by decide +kernel
theorem dX6_ask_27 : decode cX6_ask 27 = .ok (.iload_n 1, 1) := by decide +kernel
theorem dX6_ask_28 : decode cX6_ask 28 = .ok (.iastore, 1) := by decide +kernel
theorem dX6_ask_29 : decode cX6_ask 29 = .ok (.aload_n 0, 1) := by decide +kernel
theorem dX6_ask_30 : decode cX6_ask 30 = .ok (.getfield 22, 3) := by decide +kernel
theorem dX6_ask_33 : decode cX6_ask 33 = .ok (.iload_n 1, 1) := by decide +kernel
theorem dX6_ask_34 : decode cX6_ask 34 = .ok (.iload_n 2, 1) := by decide +kernel
theorem dX6_ask_35 : decode cX6_ask 35 = .ok (.iastore, 1) := by decide +kernel
theorem dX6_ask_36 : decode cX6_ask 36 = .ok (.iload_n 3, 1) := by decide +kernel
theorem dX6_ask_37 : decode cX6_ask 37 = .ok (.iconst (-1), 1) := by decide +kernel
theorem dX6_ask_38 : decode cX6_ask 38 = .ok (.if_icmp .eq 37, 3) := by decide +kernel
theorem dX6_ask_41 : decode cX6_ask 41 = .ok (.aload_n 0, 1) := by decide +kernel
theorem dX6_ask_42 : decode cX6_ask 42 = .ok (.getfield 22, 3) := by decide +kernel
theorem dX6_ask_45 : decode cX6_ask 45 = .ok (.iload_n 3, 1) := by decide +kernel
theorem dX6_ask_46 : decode cX6_ask 46 = .ok (.iconst (-1), 1) := by decide +kernel
theorem dX6_ask_47 : decode cX6_ask 47 = .ok (.iastore, 1) := by decide +kernel
theorem dX6_ask_48 : decode cX6_ask 48 = .ok (.aload_n 0, 1) := by decide +kernel
theorem dX6_ask_49 : decode cX6_ask 49 = .ok (.getfield 34, 3) := by decide +kernel
theorem dX6_ask_52 : decode cX6_ask 52 = .ok (.iload_n 3, 1) := by decide +kernel
theorem dX6_ask_53 : decode cX6_ask 53 = .ok (.bipush 8, 2) := by decide +kernel
theorem dX6_ask_55 : decode cX6_ask 55 = .ok (.imul, 1) := by decide +kernel
theorem dX6_ask_56 : decode cX6_ask 56 = .ok (.iload_n 2, 1) := by decide +kernel
theorem dX6_ask_57 : decode cX6_ask 57 = .ok (.iadd, 1) := by decide +kernel
theorem dX6_ask_58 : decode cX6_ask 58 = .ok (.iconst 1, 1) := by decide +kernel
theorem dX6_ask_59 : decode cX6_ask 59 = .ok (.bastore, 1) := by decide +kernel
theorem dX6_ask_60 : decode cX6_ask 60 = .ok (.goto 15, 3) := by decide +kernel
theorem dX6_ask_63 : decode cX6_ask 63 = .ok (.aload_n 0, 1) := by decide +kernel
theorem dX6_ask_64 : decode cX6_ask 64 = .ok (.getfield 34, 3) := by decide +kernel
theorem dX6_ask_67 : decode cX6_ask 67 = .ok (.iload_n 1, 1) := by decide +kernel
theorem dX6_ask_68 : decode cX6_ask 68 = .ok (.bipush 8, 2) := by decide +kernel
theorem dX6_ask_70 : decode cX6_ask 70 = .ok (.imul, 1) := by decide +kernel
theorem dX6_ask_71 : decode cX6_ask 71 = .ok (.iload_n 2, 1) := by decide +kernel
theorem dX6_ask_72 : decode cX6_ask 72 = .ok (.iadd, 1) := by decide +kernel
theorem dX6_ask_73 : decode cX6_ask 73 = .ok (.iconst 1, 1) := by decide +kernel
theorem dX6_ask_74 : decode cX6_ask 74 = .ok (.bastore, 1) := by decide +kernel
theorem dX6_ask_75 : decode cX6_ask 75 = .ok (.return_, 1) := by decide +kernel
theorem dX6_boyWithout_0 : decode cX6_boyWithout 0 = .ok (.iconst 0, 1) := by decide +kernel
theorem dX6_boyWithout_1 : decode cX6_boyWithout 1 = .ok (.istore_n 1, 1) := by decide +kernel
theorem dX6_boyWithout_2 : decode cX6_boyWithout 2 = .ok (.iload_n 1, 1) := by decide +kernel
theorem dX6_boyWithout_3 : decode cX6_boyWithout 3 = .ok (.aload_n 0, 1) := by decide +kernel
theorem dX6_boyWithout_4 : decode cX6_boyWithout 4 = .ok (.getfield 9, 3) := by decide +kernel
theorem dX6_boyWithout_7 : decode cX6_boyWithout 7 = .ok (.if_icmp .ge 21, 3) := by decide +kernel
theorem dX6_boyWithout_10 : decode cX6_boyWithout 10 = .ok (.aload_n 0, 1) := by decide +kernel
theorem dX6_boyWithout_11 : decode cX6_boyWithout 11 = .ok (.getfield 22, 3) := by decide +kernel
theorem dX6_boyWithout_14 : decode cX6_boyWithout 14 = .ok (.iload_n 1, 1) := by decide +kernel
theorem dX6_boyWithout_15 : decode cX6_boyWithout 15 = .ok (.iaload, 1) := by decide +kernel
theorem dX6_boyWithout_16 : decode cX6_boyWithout 16 = .ok (.iconst (-1), 1) := by decide +kernel
theorem dX6_boyWithout_17 : decode cX6_boyWithout 17 = .ok (.if_icmp .ne 5, 3) := by decide +kernel
theorem dX6_boyWithout_20 : decode cX6_boyWithout 20 = .ok (.iload_n 1, 1) := by decide +kernel
theorem dX6_boyWithout_21 : decode cX6_boyWithout 21 = .ok (.ireturn, 1) := by decide +kernel
theorem dX6_boyWithout_22 : decode cX6_boyWithout 22 = .ok (.iinc 1 1, 3) := by decide +kernel
theorem dX6_boyWithout_25 : decode cX6_boyWithout 25 = .ok (.goto (-23), 3) := by decide +kernel
theorem dX6_boyWithout_28 : decode cX6_boyWithout 28 = .ok (.iconst (-1), 1) := by decide +kernel
theorem dX6_boyWithout_29 : decode cX6_boyWithout 29 = .ok (.ireturn, 1) := by decide +kernel
theorem dX6_clashesWith_0 : decode cX6_clashesWith 0 = .ok (.lconst 0, 1) := by decide +kernel
theorem dX6_clashesWith_1 : decode cX6_clashesWith 1 = .ok (.lstore 5, 2) := by decide +kernel
theorem dX6_clashesWith_3 : decode cX6_clashesWith 3 = .ok (.iconst 0, 1) := by decide +kernel
theorem dX6_clashesWith_4 : decode cX6_clashesWith 4 = .ok (.istore 7, 2) := by decide +kernel
theorem dX6_clashesWith_6 : decode cX6_clashesWith 6 = .ok (.iload 7, 2) := by decide +kernel
theorem dX6_clashesWith_8 : decode cX6_clashesWith 8 = .ok (.aload_n 0, 1) := by decide +kernel
theorem dX6_clashesWith_9 : decode cX6_clashesWith 9 = .ok (.getfield 9, 3) := by decide +kernel
theorem dX6_clashesWith_12 : decode cX6_clashesWith 12 = .ok (.if_icmp .ge 62, 3) := by decide +kernel
theorem dX6_clashesWith_15 : decode cX6_clashesWith 15 = .ok (.iload_n 3, 1) := by decide +kernel
theorem dX6_clashesWith_16 : decode cX6_clashesWith 16 = .ok (.iload_n 1, 1) := by decide +kernel
theorem dX6_clashesWith_17 : decode cX6_clashesWith 17 = .ok (.if_icmp .eq 57, 3) := by decide +kernel
theorem dX6_clashesWith_20 : decode cX6_clashesWith 20 = .ok (.iload 7, 2) := by decide +kernel
theorem dX6_clashesWith_22 : decode cX6_clashesWith 22 = .ok (.iload_n 2, 1) := by decide +kernel
theorem dX6_clashesWith_23 : decode cX6_clashesWith 23 = .ok (.if_icmp .eq 31, 3) := by decide +kernel
theorem dX6_clashesWith_26 : decode cX6_clashesWith 26 = .ok (.aload_n 0, 1) := by decide +kernel
theorem dX6_clashesWith_27 : decode cX6_clashesWith 27 = .ok (.iload_n 1, 1) := by decide +kernel
theorem dX6_clashesWith_28 : decode cX6_clashesWith 28 = .ok (.iload_n 2, 1) := by decide +kernel
theorem dX6_clashesWith_29 : decode cX6_clashesWith 29 = .ok (.iload_n 3, 1) := by decide +kernel
theorem dX6_clashesWith_30 : decode cX6_clashesWith 30 = .ok (.iload 7, 2) := by decide +kernel
theorem dX6_clashesWith_32 : decode cX6_clashesWith 32 = .ok (.iload 4, 2) := by decide +kernel
theorem dX6_clashesWith_34 : decode cX6_clashesWith 34 = .ok (.invokevirtual 50, 3) := by decide +kernel
theorem dX6_clashesWith_37 : decode cX6_clashesWith 37 = .ok (.ifCond .ne 17, 3) := by decide +kernel
theorem dX6_clashesWith_40 : decode cX6_clashesWith 40 = .ok (.aload_n 0, 1) := by decide +kernel
theorem dX6_clashesWith_41 : decode cX6_clashesWith 41 = .ok (.iload_n 3, 1) := by decide +kernel
theorem dX6_clashesWith_42 : decode cX6_clashesWith 42 = .ok (.iload 7, 2) := by decide +kernel
theorem dX6_clashesWith_44 : decode cX6_clashesWith 44 = .ok (.iload_n 1, 1) := by decide +kernel
theorem dX6_clashesWith_45 : decode cX6_clashesWith 45 = .ok (.iload_n 2, 1) := by decide +kernel
theorem dX6_clashesWith_46 : decode cX6_clashesWith 46 = .ok (.iload 4, 2) := by decide +kernel
theorem dX6_clashesWith_48 : decode cX6_clashesWith 48 = .ok (.invokevirtual 50, 3) := by decide +kernel
theorem dX6_clashesWith_51 : decode cX6_clashesWith 51 = .ok (.ifCond .eq 17, 3) := by decide +kernel
theorem dX6_clashesWith_54 : decode cX6_clashesWith 54 = .ok (.lload 5, 2) := by decide +kernel
theorem dX6_clashesWith_56 : decode cX6_clashesWith 56 = .ok (.lconst 1, 1) := by decide +kernel
theorem dX6_clashesWith_57 : decode cX6_clashesWith 57 = .ok (.iload_n 3, 1) := by decide +kernel
theorem dX6_clashesWith_58 : decode cX6_clashesWith 58 = .ok (.bipush 8, 2) := by decide +kernel
theorem dX6_clashesWith_60 : decode cX6_clashesWith 60 = .ok (.imul, 1) := by decide +kernel
theorem dX6_clashesWith_61 : decode cX6_clashesWith 61 = .ok (.iload 7, 2) := by decide +kernel
theorem dX6_clashesWith_63 : decode cX6_clashesWith 63 = .ok (.iadd, 1) := by decide +kernel
theorem dX6_clashesWith_64 : decode cX6_clashesWith 64 = .ok (.lshl, 1) := by decide +kernel
theorem dX6_clashesWith_65 : decode cX6_clashesWith 65 = .ok (.lor, 1) := by decide +kernel
theorem dX6_clashesWith_66 : decode cX6_clashesWith 66 = .ok (.lstore 5, 2) := by decide +kernel
theorem dX6_clashesWith_68 : decode cX6_clashesWith 68 = .ok (.iinc 7 1, 3) := by decide +kernel
theorem dX6_clashesWith_71 : decode cX6_clashesWith 71 = .ok (.goto (-65), 3) := by decide +kernel
theorem dX6_clashesWith_74 : decode cX6_clashesWith 74 = .ok (.lload 5, 2) := by decide +kernel
theorem dX6_clashesWith_76 : decode cX6_clashesWith 76 = .ok (.lreturn, 1) := by decide +kernel
theorem dX6_dearestOf_0 : decode cX6_dearestOf 0 = .ok (.iconst (-1), 1) := by decide +kernel
theorem dX6_dearestOf_1 : decode cX6_dearestOf 1 = .ok (.istore_n 2, 1) := by decide +kernel
theorem dX6_dearestOf_2 : decode cX6_dearestOf 2 = .ok (.iconst 0, 1) := by decide +kernel
theorem dX6_dearestOf_3 : decode cX6_dearestOf 3 = .ok (.istore_n 3, 1) := by decide +kernel
theorem dX6_dearestOf_4 : decode cX6_dearestOf 4 = .ok (.iload_n 3, 1) := by decide +kernel
theorem dX6_dearestOf_5 : decode cX6_dearestOf 5 = .ok (.aload_n 0, 1) := by decide +kernel
theorem dX6_dearestOf_6 : decode cX6_dearestOf 6 = .ok (.getfield 9, 3) := by decide +kernel
theorem dX6_dearestOf_9 : decode cX6_dearestOf 9 = .ok (.if_icmp .ge 55, 3) := by decide +kernel
theorem dX6_dearestOf_12 : decode cX6_dearestOf 12 = .ok (.iload_n 1, 1) := by decide +kernel
theorem dX6_dearestOf_13 : decode cX6_dearestOf 13 = .ok (.bipush 8, 2) := by decide +kernel
theorem dX6_dearestOf_15 : decode cX6_dearestOf 15 = .ok (.imul, 1) := by decide +kernel
theorem dX6_dearestOf_16 : decode cX6_dearestOf 16 = .ok (.iload_n 3, 1) := by decide +kernel
theorem dX6_dearestOf_17 : decode cX6_dearestOf 17 = .ok (.iadd, 1) := by decide +kernel
theorem dX6_dearestOf_18 : decode cX6_dearestOf 18 = .ok (.istore 4, 2) := by decide +kernel
theorem dX6_dearestOf_20 : decode cX6_dearestOf 20 = .ok (.aload_n 0, 1) := by decide +kernel
theorem dX6_dearestOf_21 : decode cX6_dearestOf 21 = .ok (.getfield 34, 3) := by decide +kernel
theorem dX6_dearestOf_24 : decode cX6_dearestOf 24 = .ok (.iload 4, 2) := by decide +kernel
theorem dX6_dearestOf_26 : decode cX6_dearestOf 26 = .ok (.baload, 1) := by decide +kernel
theorem dX6_dearestOf_27 : decode cX6_dearestOf 27 = .ok (.ifCond .ne 31, 3) := by decide +kernel
theorem dX6_dearestOf_30 : decode cX6_dearestOf 30 = .ok (.iload_n 2, 1) := by decide +kernel
theorem dX6_dearestOf_31 : decode cX6_dearestOf 31 = .ok (.iconst (-1), 1) := by decide +kernel
theorem dX6_dearestOf_32 : decode cX6_dearestOf 32 = .ok (.if_icmp .eq 24, 3) := by decide +kernel
theorem dX6_dearestOf_35 : decode cX6_dearestOf 35 = .ok (.aload_n 0, 1) := by decide +kernel
theorem dX6_dearestOf_36 : decode cX6_dearestOf 36 = .ok (.getfield 15, 3) := by decide +kernel
theorem dX6_dearestOf_39 : decode cX6_dearestOf 39 = .ok (.iload 4, 2) := by decide +kernel
theorem dX6_dearestOf_41 : decode cX6_dearestOf 41 = .ok (.iaload, 1) := by decide +kernel
theorem dX6_dearestOf_42 : decode cX6_dearestOf 42 = .ok (.aload_n 0, 1) := by decide +kernel
theorem dX6_dearestOf_43 : decode cX6_dearestOf 43 = .ok (.getfield 15, 3) := by decide +kernel
theorem dX6_dearestOf_46 : decode cX6_dearestOf 46 = .ok (.iload_n 1, 1) := by decide +kernel
theorem dX6_dearestOf_47 : decode cX6_dearestOf 47 = .ok (.bipush 8, 2) := by decide +kernel
theorem dX6_dearestOf_49 : decode cX6_dearestOf 49 = .ok (.imul, 1) := by decide +kernel
theorem dX6_dearestOf_50 : decode cX6_dearestOf 50 = .ok (.iload_n 2, 1) := by decide +kernel
theorem dX6_dearestOf_51 : decode cX6_dearestOf 51 = .ok (.iadd, 1) := by decide +kernel
theorem dX6_dearestOf_52 : decode cX6_dearestOf 52 = .ok (.iaload, 1) := by decide +kernel
theorem dX6_dearestOf_53 : decode cX6_dearestOf 53 = .ok (.if_icmp .le 5, 3) := by decide +kernel
theorem dX6_dearestOf_56 : decode cX6_dearestOf 56 = .ok (.iload_n 3, 1) := by decide +kernel
theorem dX6_dearestOf_57 : decode cX6_dearestOf 57 = .ok (.istore_n 2, 1) := by decide +kernel
theorem dX6_dearestOf_58 : decode cX6_dearestOf 58 = .ok (.iinc 3 1, 3) := by decide +kernel
theorem dX6_dearestOf_61 : decode cX6_dearestOf 61 = .ok (.goto (-57), 3) := by decide +kernel
theorem dX6_dearestOf_64 : decode cX6_dearestOf 64 = .ok (.iload_n 2, 1) := by decide +kernel
theorem dX6_dearestOf_65 : decode cX6_dearestOf 65 = .ok (.ireturn, 1) := by decide +kernel
theorem dX6_findClashes_0 : decode cX6_findClashes 0 = .ok (.iconst 0, 1) := by decide +kernel
theorem dX6_findClashes_1 : decode cX6_findClashes 1 = .ok (.istore_n 2, 1) := by decide +kernel
theorem dX6_findClashes_2 : decode cX6_findClashes 2 = .ok (.iload_n 2, 1) := by decide +kernel
theorem dX6_findClashes_3 : decode cX6_findClashes 3 = .ok (.aload_n 0, 1) := by decide +kernel
theorem dX6_findClashes_4 : decode cX6_findClashes 4 = .ok (.getfield 9, 3) := by decide +kernel
theorem dX6_findClashes_7 : decode cX6_findClashes 7 = .ok (.if_icmp .ge 73, 3) := by decide +kernel
theorem dX6_findClashes_10 : decode cX6_findClashes 10 = .ok (.iconst 0, 1) := by decide +kernel
theorem dX6_findClashes_11 : decode cX6_findClashes 11 = .ok (.istore_n 3, 1) := by decide +kernel
theorem dX6_findClashes_12 : decode cX6_findClashes 12 = .ok (.iload_n 3, 1) := by decide +kernel
theorem dX6_findClashes_13 : decode cX6_findClashes 13 = .ok (.aload_n 0, 1) := by decide +kernel
theorem dX6_findClashes_14 : decode cX6_findClashes 14 = .ok (.getfield 9, 3) := by decide +kernel
theorem dX6_findClashes_17 : decode cX6_findClashes 17 = .ok (.if_icmp .ge 57, 3) := by decide +kernel
theorem dX6_findClashes_20 : decode cX6_findClashes 20 = .ok (.lconst 0, 1) := by decide +kernel
theorem dX6_findClashes_21 : decode cX6_findClashes 21 = .ok (.lstore 4, 2) := by decide +kernel
theorem dX6_findClashes_23 : decode cX6_findClashes 23 = .ok (.iconst 0, 1) := by decide +kernel
theorem dX6_findClashes_24 : decode cX6_findClashes 24 = .ok (.istore 6, 2) := by decide +kernel
theorem dX6_findClashes_26 : decode cX6_findClashes 26 = .ok (.iload 6, 2) := by decide +kernel
theorem dX6_findClashes_28 : decode cX6_findClashes 28 = .ok (.aload_n 0, 1) := by decide +kernel
theorem dX6_findClashes_29 : decode cX6_findClashes 29 = .ok (.getfield 9, 3) := by decide +kernel
theorem dX6_findClashes_32 : decode cX6_findClashes 32 = .ok (.if_icmp .ge 23, 3) := by decide +kernel
theorem dX6_findClashes_35 : decode cX6_findClashes 35 = .ok (.lload 4, 2) := by decide +kernel
theorem dX6_findClashes_37 : decode cX6_findClashes 37 = .ok (.aload_n 0, 1) := by decide +kernel
theorem dX6_findClashes_38 : decode cX6_findClashes 38 = .ok (.iload_n 2, 1) := by decide +kernel
theorem dX6_findClashes_39 : decode cX6_findClashes 39 = .ok (.iload_n 3, 1) := by decide +kernel
theorem dX6_findClashes_40 : decode cX6_findClashes 40 = .ok (.iload 6, 2) := by decide +kernel
theorem dX6_findClashes_42 : decode cX6_findClashes 42 = .ok (.iload_n 1, 1) := by decide +kernel
theorem dX6_findClashes_43 : decode cX6_findClashes 43 = .ok (.invokevirtual 95, 3) := by decide +kernel
theorem dX6_findClashes_46 : decode cX6_findClashes 46 = .ok (.lor, 1) := by decide +kernel
theorem dX6_findClashes_47 : decode cX6_findClashes 47 = .ok (.lstore 4, 2) := by decide +kernel
theorem dX6_findClashes_49 : decode cX6_findClashes 49 = .ok (.iinc 6 1, 3) := by decide +kernel
theorem dX6_findClashes_52 : decode cX6_findClashes 52 = .ok (.goto (-26), 3) := by decide +kernel
theorem dX6_findClashes_55 : decode cX6_findClashes 55 = .ok (.aload_n 0, 1) := by decide +kernel
theorem dX6_findClashes_56 : decode cX6_findClashes 56 = .ok (.getfield 38, 3) := by decide +kernel
theorem dX6_findClashes_59 : decode cX6_findClashes 59 = .ok (.iload_n 2, 1) := by decide +kernel
theorem dX6_findClashes_60 : decode cX6_findClashes 60 = .ok (.bipush 8, 2) := by decide +kernel
theorem dX6_findClashes_62 : decode cX6_findClashes 62 = .ok (.imul, 1) := by decide +kernel
theorem dX6_findClashes_63 : decode cX6_findClashes 63 = .ok (.iload_n 3, 1) := by decide +kernel
theorem dX6_findClashes_64 : decode cX6_findClashes 64 = .ok (.iadd, 1) := by decide +kernel
theorem dX6_findClashes_65 : decode cX6_findClashes 65 = .ok (.lload 4, 2) := by decide +kernel
theorem dX6_findClashes_67 : decode cX6_findClashes 67 = .ok (.lastore, 1) := by decide +kernel
theorem dX6_findClashes_68 : decode cX6_findClashes 68 = .ok (.iinc 3 1, 3) := by decide +kernel
theorem dX6_findClashes_71 : decode cX6_findClashes 71 = .ok (.goto (-59), 3) := by decide +kernel
theorem dX6_findClashes_74 : decode cX6_findClashes 74 = .ok (.iinc 2 1, 3) := by decide +kernel
theorem dX6_findClashes_77 : decode cX6_findClashes 77 = .ok (.goto (-75), 3) := by decide +kernel
theorem dX6_findClashes_80 : decode cX6_findClashes 80 = .ok (.return_, 1) := by decide +kernel
theorem dX6_gained_0 : decode cX6_gained 0 = .ok (.iconst 0, 1) := by decide +kernel
theorem dX6_gained_1 : decode cX6_gained 1 = .ok (.istore_n 1, 1) := by decide +kernel
theorem dX6_gained_2 : decode cX6_gained 2 = .ok (.iconst 0, 1) := by decide +kernel
theorem dX6_gained_3 : decode cX6_gained 3 = .ok (.istore_n 2, 1) := by decide +kernel
theorem dX6_gained_4 : decode cX6_gained 4 = .ok (.iload_n 2, 1) := by decide +kernel
theorem dX6_gained_5 : decode cX6_gained 5 = .ok (.aload_n 0, 1) := by decide +kernel
theorem dX6_gained_6 : decode cX6_gained 6 = .ok (.getfield 9, 3) := by decide +kernel
theorem dX6_gained_9 : decode cX6_gained 9 = .ok (.if_icmp .ge 38, 3) := by decide +kernel
theorem dX6_gained_12 : decode cX6_gained 12 = .ok (.aload_n 0, 1) := by decide +kernel
theorem dX6_gained_13 : decode cX6_gained 13 = .ok (.getfield 22, 3) := by decide +kernel
theorem dX6_gained_16 : decode cX6_gained 16 = .ok (.iload_n 2, 1) := by decide +kernel
theorem dX6_gained_17 : decode cX6_gained 17 = .ok (.iaload, 1) := by decide +kernel
theorem dX6_gained_18 : decode cX6_gained 18 = .ok (.iconst (-1), 1) := by decide +kernel
theorem dX6_gained_19 : decode cX6_gained 19 = .ok (.if_icmp .eq 22, 3) := by decide +kernel
theorem dX6_gained_22 : decode cX6_gained 22 = .ok (.iload_n 1, 1) := by decide +kernel
theorem dX6_gained_23 : decode cX6_gained 23 = .ok (.aload_n 0, 1) := by decide +kernel
theorem dX6_gained_24 : decode cX6_gained 24 = .ok (.getfield 15, 3) := by decide +kernel
theorem dX6_gained_27 : decode cX6_gained 27 = .ok (.iload_n 2, 1) := by decide +kernel
theorem dX6_gained_28 : decode cX6_gained 28 = .ok (.bipush 8, 2) := by decide +kernel
theorem dX6_gained_30 : decode cX6_gained 30 = .ok (.imul, 1) := by decide +kernel
theorem dX6_gained_31 : decode cX6_gained 31 = .ok (.aload_n 0, 1) := by decide +kernel
theorem dX6_gained_32 : decode cX6_gained 32 = .ok (.getfield 22, 3) := by decide +kernel
theorem dX6_gained_35 : decode cX6_gained 35 = .ok (.iload_n 2, 1) := by decide +kernel
theorem dX6_gained_36 : decode cX6_gained 36 = .ok (.iaload, 1) := by decide +kernel
theorem dX6_gained_37 : decode cX6_gained 37 = .ok (.iadd, 1) := by decide +kernel
theorem dX6_gained_38 : decode cX6_gained 38 = .ok (.iaload, 1) := by decide +kernel
theorem dX6_gained_39 : decode cX6_gained 39 = .ok (.iadd, 1) := by decide +kernel
theorem dX6_gained_40 : decode cX6_gained 40 = .ok (.istore_n 1, 1) := by decide +kernel
theorem dX6_gained_41 : decode cX6_gained 41 = .ok (.iinc 2 1, 3) := by decide +kernel
theorem dX6_gained_44 : decode cX6_gained 44 = .ok (.goto (-40), 3) := by decide +kernel
theorem dX6_gained_47 : decode cX6_gained 47 = .ok (.iload_n 1, 1) := by decide +kernel
theorem dX6_gained_48 : decode cX6_gained 48 = .ok (.ireturn, 1) := by decide +kernel
theorem dX6_isMightier_0 : decode cX6_isMightier 0 = .ok (.aload_n 0, 1) := by decide +kernel
theorem dX6_isMightier_1 : decode cX6_isMightier 1 = .ok (.getfield 19, 3) := by decide +kernel
theorem dX6_isMightier_4 : decode cX6_isMightier 4 = .ok (.iload_n 1, 1) := by decide +kernel
theorem dX6_isMightier_5 : decode cX6_isMightier 5 = .ok (.bipush 8, 2) := by decide +kernel
theorem dX6_isMightier_7 : decode cX6_isMightier 7 = .ok (.imul, 1) := by decide +kernel
theorem dX6_isMightier_8 : decode cX6_isMightier 8 = .ok (.iload_n 3, 1) := by decide +kernel
theorem dX6_isMightier_9 : decode cX6_isMightier 9 = .ok (.iadd, 1) := by decide +kernel
theorem dX6_isMightier_10 : decode cX6_isMightier 10 = .ok (.iaload, 1) := by decide +kernel
theorem dX6_isMightier_11 : decode cX6_isMightier 11 = .ok (.istore 4, 2) := by decide +kernel
theorem dX6_isMightier_13 : decode cX6_isMightier 13 = .ok (.aload_n 0, 1) := by decide +kernel
theorem dX6_isMightier_14 : decode cX6_isMightier 14 = .ok (.getfield 19, 3) := by decide +kernel
theorem dX6_isMightier_17 : decode cX6_isMightier 17 = .ok (.iload_n 2, 1) := by decide +kernel
theorem dX6_isMightier_18 : decode cX6_isMightier 18 = .ok (.bipush 8, 2) := by decide +kernel
theorem dX6_isMightier_20 : decode cX6_isMightier 20 = .ok (.imul, 1) := by decide +kernel
theorem dX6_isMightier_21 : decode cX6_isMightier 21 = .ok (.iload_n 3, 1) := by decide +kernel
theorem dX6_isMightier_22 : decode cX6_isMightier 22 = .ok (.iadd, 1) := by decide +kernel
theorem dX6_isMightier_23 : decode cX6_isMightier 23 = .ok (.iaload, 1) := by decide +kernel
theorem dX6_isMightier_24 : decode cX6_isMightier 24 = .ok (.istore 5, 2) := by decide +kernel
theorem dX6_isMightier_26 : decode cX6_isMightier 26 = .ok (.iload 4, 2) := by decide +kernel
theorem dX6_isMightier_28 : decode cX6_isMightier 28 = .ok (.iload 5, 2) := by decide +kernel
theorem dX6_isMightier_30 : decode cX6_isMightier 30 = .ok (.if_icmp .gt 15, 3) := by decide +kernel
theorem dX6_isMightier_33 : decode cX6_isMightier 33 = .ok (.iload 4, 2) := by decide +kernel
theorem dX6_isMightier_35 : decode cX6_isMightier 35 = .ok (.iload 5, 2) := by decide +kernel
theorem dX6_isMightier_37 : decode cX6_isMightier 37 = .ok (.if_icmp .ne 12, 3) := by decide +kernel
theorem dX6_isMightier_40 : decode cX6_isMightier 40 = .ok (.iload_n 1, 1) := by decide +kernel
theorem dX6_isMightier_41 : decode cX6_isMightier 41 = .ok (.iload_n 2, 1) := by decide +kernel
theorem dX6_isMightier_42 : decode cX6_isMightier 42 = .ok (.if_icmp .ge 7, 3) := by decide +kernel
theorem dX6_isMightier_45 : decode cX6_isMightier 45 = .ok (.iconst 1, 1) := by decide +kernel
theorem dX6_isMightier_46 : decode cX6_isMightier 46 = .ok (.goto 4, 3) := by decide +kernel
theorem dX6_isMightier_49 : decode cX6_isMightier 49 = .ok (.iconst 0, 1) := by decide +kernel
theorem dX6_isMightier_50 : decode cX6_isMightier 50 = .ok (.ireturn, 1) := by decide +kernel
theorem dX6_learn_0 : decode cX6_learn 0 = .ok (.aload_n 0, 1) := by decide +kernel
theorem dX6_learn_1 : decode cX6_learn 1 = .ok (.iload_n 1, 1) := by decide +kernel
theorem dX6_learn_2 : decode cX6_learn 2 = .ok (.putfield 9, 3) := by decide +kernel
theorem dX6_learn_5 : decode cX6_learn 5 = .ok (.iconst 0, 1) := by decide +kernel
theorem dX6_learn_6 : decode cX6_learn 6 = .ok (.istore_n 3, 1) := by decide +kernel
theorem dX6_learn_7 : decode cX6_learn 7 = .ok (.iload_n 3, 1) := by decide +kernel
theorem dX6_learn_8 : decode cX6_learn 8 = .ok (.aload_n 0, 1) := by decide +kernel
theorem dX6_learn_9 : decode cX6_learn 9 = .ok (.getfield 9, 3) := by decide +kernel
theorem dX6_learn_12 : decode cX6_learn 12 = .ok (.if_icmp .ge 86, 3) := by decide +kernel
theorem dX6_learn_15 : decode cX6_learn 15 = .ok (.iconst 0, 1) := by decide +kernel
theorem dX6_learn_16 : decode cX6_learn 16 = .ok (.istore 4, 2) := by decide +kernel
theorem dX6_learn_18 : decode cX6_learn 18 = .ok (.iload 4, 2) := by decide +kernel
theorem dX6_learn_20 : decode cX6_learn 20 = .ok (.aload_n 0, 1) := by decide +kernel
theorem dX6_learn_21 : decode cX6_learn 21 = .ok (.getfield 9, 3) := by decide +kernel
theorem dX6_learn_24 : decode cX6_learn 24 = .ok (.if_icmp .ge 68, 3) := by decide +kernel
theorem dX6_learn_27 : decode cX6_learn 27 = .ok (.iload_n 3, 1) := by decide +kernel
theorem dX6_learn_28 : decode cX6_learn 28 = .ok (.aload_n 0, 1) := by decide +kernel
theorem dX6_learn_29 : decode cX6_learn 29 = .ok (.getfield 9, 3) := by decide +kernel
theorem dX6_learn_32 : decode cX6_learn 32 = .ok (.imul, 1) := by decide +kernel
theorem dX6_learn_33 : decode cX6_learn 33 = .ok (.iload 4, 2) := by decide +kernel
theorem dX6_learn_35 : decode cX6_learn 35 = .ok (.iadd, 1) := by decide +kernel
theorem dX6_learn_36 : decode cX6_learn 36 = .ok (.istore 5, 2) := by decide +kernel
theorem dX6_learn_38 : decode cX6_learn 38 = .ok (.aload_n 0, 1) := by decide +kernel
theorem dX6_learn_39 : decode cX6_learn 39 = .ok (.getfield 15, 3) := by decide +kernel
theorem dX6_learn_42 : decode cX6_learn 42 = .ok (.iload_n 3, 1) := by decide +kernel
theorem dX6_learn_43 : decode cX6_learn 43 = .ok (.bipush 8, 2) := by decide +kernel
theorem dX6_learn_45 : decode cX6_learn 45 = .ok (.imul, 1) := by decide +kernel
theorem dX6_learn_46 : decode cX6_learn 46 = .ok (.iload 4, 2) := by decide +kernel
theorem dX6_learn_48 : decode cX6_learn 48 = .ok (.iadd, 1) := by decide +kernel
theorem dX6_learn_49 : decode cX6_learn 49 = .ok (.aload_n 2, 1) := by decide +kernel
theorem dX6_learn_50 : decode cX6_learn 50 = .ok (.getfield 45, 3) := by decide +kernel
theorem dX6_learn_53 : decode cX6_learn 53 = .ok (.iload 5, 2) := by decide +kernel
theorem dX6_learn_55 : decode cX6_learn 55 = .ok (.iaload, 1) := by decide +kernel
theorem dX6_learn_56 : decode cX6_learn 56 = .ok (.iastore, 1) := by decide +kernel
theorem dX6_learn_57 : decode cX6_learn 57 = .ok (.aload_n 0, 1) := by decide +kernel
theorem dX6_learn_58 : decode cX6_learn 58 = .ok (.getfield 19, 3) := by decide +kernel
theorem dX6_learn_61 : decode cX6_learn 61 = .ok (.iload_n 3, 1) := by decide +kernel
theorem dX6_learn_62 : decode cX6_learn 62 = .ok (.bipush 8, 2) := by decide +kernel
theorem dX6_learn_64 : decode cX6_learn 64 = .ok (.imul, 1) := by decide +kernel
theorem dX6_learn_65 : decode cX6_learn 65 = .ok (.iload 4, 2) := by decide +kernel
theorem dX6_learn_67 : decode cX6_learn 67 = .ok (.iadd, 1) := by decide +kernel
theorem dX6_learn_68 : decode cX6_learn 68 = .ok (.aload_n 2, 1) := by decide +kernel
theorem dX6_learn_69 : decode cX6_learn 69 = .ok (.getfield 45, 3) := by decide +kernel
theorem dX6_learn_72 : decode cX6_learn 72 = .ok (.aload_n 0, 1) := by decide +kernel
theorem dX6_learn_73 : decode cX6_learn 73 = .ok (.getfield 9, 3) := by decide +kernel
theorem dX6_learn_76 : decode cX6_learn 76 = .ok (.aload_n 0, 1) := by decide +kernel
theorem dX6_learn_77 : decode cX6_learn 77 = .ok (.getfield 9, 3) := by decide +kernel
theorem dX6_learn_80 : decode cX6_learn 80 = .ok (.imul, 1) := by decide +kernel
theorem dX6_learn_81 : decode cX6_learn 81 = .ok (.iload 5, 2) := by decide +kernel
theorem dX6_learn_83 : decode cX6_learn 83 = .ok (.iadd, 1) := by decide +kernel
theorem dX6_learn_84 : decode cX6_learn 84 = .ok (.iaload, 1) := by decide +kernel
theorem dX6_learn_85 : decode cX6_learn 85 = .ok (.iastore, 1) := by decide +kernel
theorem dX6_learn_86 : decode cX6_learn 86 = .ok (.iinc 4 1, 3) := by decide +kernel
theorem dX6_learn_89 : decode cX6_learn 89 = .ok (.goto (-71), 3) := by decide +kernel
theorem dX6_learn_92 : decode cX6_learn 92 = .ok (.iinc 3 1, 3) := by decide +kernel
theorem dX6_learn_95 : decode cX6_learn 95 = .ok (.goto (-88), 3) := by decide +kernel
theorem dX6_learn_98 : decode cX6_learn 98 = .ok (.return_, 1) := by decide +kernel
theorem dX6_wouldFight_0 : decode cX6_wouldFight 0 = .ok (.aload_n 0, 1) := by decide +kernel
theorem dX6_wouldFight_1 : decode cX6_wouldFight 1 = .ok (.getfield 15, 3) := by decide +kernel
theorem dX6_wouldFight_4 : decode cX6_wouldFight 4 = .ok (.iload_n 1, 1) := by decide +kernel
theorem dX6_wouldFight_5 : decode cX6_wouldFight 5 = .ok (.bipush 8, 2) := by decide +kernel
theorem dX6_wouldFight_7 : decode cX6_wouldFight 7 = .ok (.imul, 1) := by decide +kernel
theorem dX6_wouldFight_8 : decode cX6_wouldFight 8 = .ok (.iload 4, 2) := by decide +kernel
theorem dX6_wouldFight_10 : decode cX6_wouldFight 10 = .ok (.iadd, 1) := by decide +kernel
theorem dX6_wouldFight_11 : decode cX6_wouldFight 11 = .ok (.iaload, 1) := by decide +kernel
theorem dX6_wouldFight_12 : decode cX6_wouldFight 12 = .ok (.aload_n 0, 1) := by decide +kernel
theorem dX6_wouldFight_13 : decode cX6_wouldFight 13 = .ok (.getfield 15, 3) := by decide +kernel
theorem dX6_wouldFight_16 : decode cX6_wouldFight 16 = .ok (.iload_n 1, 1) := by decide +kernel
theorem dX6_wouldFight_17 : decode cX6_wouldFight 17 = .ok (.bipush 8, 2) := by decide +kernel
theorem dX6_wouldFight_19 : decode cX6_wouldFight 19 = .ok (.imul, 1) := by decide +kernel
theorem dX6_wouldFight_20 : decode cX6_wouldFight 20 = .ok (.iload_n 2, 1) := by decide +kernel
theorem dX6_wouldFight_21 : decode cX6_wouldFight 21 = .ok (.iadd, 1) := by decide +kernel
theorem dX6_wouldFight_22 : decode cX6_wouldFight 22 = .ok (.iaload, 1) := by decide +kernel
theorem dX6_wouldFight_23 : decode cX6_wouldFight 23 = .ok (.isub, 1) := by decide +kernel
theorem dX6_wouldFight_24 : decode cX6_wouldFight 24 = .ok (.iload 5, 2) := by decide +kernel
theorem dX6_wouldFight_26 : decode cX6_wouldFight 26 = .ok (.if_icmp .lt 34, 3) := by decide +kernel
theorem dX6_wouldFight_29 : decode cX6_wouldFight 29 = .ok (.aload_n 0, 1) := by decide +kernel
theorem dX6_wouldFight_30 : decode cX6_wouldFight 30 = .ok (.getfield 19, 3) := by decide +kernel
theorem dX6_wouldFight_33 : decode cX6_wouldFight 33 = .ok (.iload_n 1, 1) := by decide +kernel
theorem dX6_wouldFight_34 : decode cX6_wouldFight 34 = .ok (.bipush 8, 2) := by decide +kernel
theorem dX6_wouldFight_36 : decode cX6_wouldFight 36 = .ok (.imul, 1) := by decide +kernel
theorem dX6_wouldFight_37 : decode cX6_wouldFight 37 = .ok (.iload 4, 2) := by decide +kernel
theorem dX6_wouldFight_39 : decode cX6_wouldFight 39 = .ok (.iadd, 1) := by decide +kernel
theorem dX6_wouldFight_40 : decode cX6_wouldFight 40 = .ok (.iaload, 1) := by decide +kernel
theorem dX6_wouldFight_41 : decode cX6_wouldFight 41 = .ok (.aload_n 0, 1) := by decide +kernel
theorem dX6_wouldFight_42 : decode cX6_wouldFight 42 = .ok (.getfield 19, 3) := by decide +kernel
theorem dX6_wouldFight_45 : decode cX6_wouldFight 45 = .ok (.iload_n 3, 1) := by decide +kernel
theorem dX6_wouldFight_46 : decode cX6_wouldFight 46 = .ok (.bipush 8, 2) := by decide +kernel
theorem dX6_wouldFight_48 : decode cX6_wouldFight 48 = .ok (.imul, 1) := by decide +kernel
theorem dX6_wouldFight_49 : decode cX6_wouldFight 49 = .ok (.iload 4, 2) := by decide +kernel
theorem dX6_wouldFight_51 : decode cX6_wouldFight 51 = .ok (.iadd, 1) := by decide +kernel
theorem dX6_wouldFight_52 : decode cX6_wouldFight 52 = .ok (.iaload, 1) := by decide +kernel
theorem dX6_wouldFight_53 : decode cX6_wouldFight 53 = .ok (.if_icmp .le 7, 3) := by decide +kernel
theorem dX6_wouldFight_56 : decode cX6_wouldFight 56 = .ok (.iconst 1, 1) := by decide +kernel
theorem dX6_wouldFight_57 : decode cX6_wouldFight 57 = .ok (.goto 4, 3) := by decide +kernel
theorem dX6_wouldFight_60 : decode cX6_wouldFight 60 = .ok (.iconst 0, 1) := by decide +kernel
theorem dX6_wouldFight_61 : decode cX6_wouldFight 61 = .ok (.ireturn, 1) := by decide +kernel
theorem dX7_expect_0 : decode cX7_expect 0 = .ok (.aload_n 0, 1) := by decide +kernel
theorem dX7_expect_1 : decode cX7_expect 1 = .ok (.invokevirtual 47, 3) := by decide +kernel
theorem dX7_expect_4 : decode cX7_expect 4 = .ok (.iload_n 1, 1) := by decide +kernel
theorem dX7_expect_5 : decode cX7_expect 5 = .ok (.if_icmp .ne 16, 3) := by decide +kernel
theorem dX7_expect_8 : decode cX7_expect 8 = .ok (.aload_n 0, 1) := by decide +kernel
theorem dX7_expect_9 : decode cX7_expect 9 = .ok (.dup, 1) := by decide +kernel
theorem dX7_expect_10 : decode cX7_expect 10 = .ok (.getfield 18, 3) := by decide +kernel
theorem dX7_expect_13 : decode cX7_expect 13 = .ok (.iconst 1, 1) := by decide +kernel
theorem dX7_expect_14 : decode cX7_expect 14 = .ok (.iadd, 1) := by decide +kernel
theorem dX7_expect_15 : decode cX7_expect 15 = .ok (.putfield 18, 3) := by decide +kernel
theorem dX7_expect_18 : decode cX7_expect 18 = .ok (.goto 8, 3) := by decide +kernel
theorem dX7_expect_21 : decode cX7_expect 21 = .ok (.aload_n 0, 1) := by decide +kernel
theorem dX7_expect_22 : decode cX7_expect 22 = .ok (.iconst 1, 1) := by decide +kernel
theorem dX7_expect_23 : decode cX7_expect 23 = .ok (.invokevirtual 60, 3) := by decide +kernel
theorem dX7_expect_26 : decode cX7_expect 26 = .ok (.return_, 1) := by decide +kernel
theorem dX7_isDigit_0 : decode cX7_isDigit 0 = .ok (.iload_n 0, 1) := by decide +kernel
theorem dX7_isDigit_1 : decode cX7_isDigit 1 = .ok (.bipush 48, 2) := by decide +kernel
theorem dX7_isDigit_3 : decode cX7_isDigit 3 = .ok (.if_icmp .lt 13, 3) := by decide +kernel
theorem dX7_isDigit_6 : decode cX7_isDigit 6 = .ok (.iload_n 0, 1) := by decide +kernel
theorem dX7_isDigit_7 : decode cX7_isDigit 7 = .ok (.bipush 57, 2) := by decide +kernel
theorem dX7_isDigit_9 : decode cX7_isDigit 9 = .ok (.if_icmp .gt 7, 3) := by decide +kernel
theorem dX7_isDigit_12 : decode cX7_isDigit 12 = .ok (.iconst 1, 1) := by decide +kernel
theorem dX7_isDigit_13 : decode cX7_isDigit 13 = .ok (.goto 4, 3) := by decide +kernel
theorem dX7_isDigit_16 : decode cX7_isDigit 16 = .ok (.iconst 0, 1) := by decide +kernel
theorem dX7_isDigit_17 : decode cX7_isDigit 17 = .ok (.ireturn, 1) := by decide +kernel
theorem dX7_isLetter_0 : decode cX7_isLetter 0 = .ok (.iload_n 0, 1) := by decide +kernel
theorem dX7_isLetter_1 : decode cX7_isLetter 1 = .ok (.bipush 97, 2) := by decide +kernel
theorem dX7_isLetter_3 : decode cX7_isLetter 3 = .ok (.if_icmp .lt 13, 3) := by decide +kernel
theorem dX7_isLetter_6 : decode cX7_isLetter 6 = .ok (.iload_n 0, 1) := by decide +kernel
theorem dX7_isLetter_7 : decode cX7_isLetter 7 = .ok (.bipush 122, 2) := by decide +kernel
theorem dX7_isLetter_9 : decode cX7_isLetter 9 = .ok (.if_icmp .gt 7, 3) := by decide +kernel
theorem dX7_isLetter_12 : decode cX7_isLetter 12 = .ok (.iconst 1, 1) := by decide +kernel
theorem dX7_isLetter_13 : decode cX7_isLetter 13 = .ok (.goto 4, 3) := by decide +kernel
theorem dX7_isLetter_16 : decode cX7_isLetter 16 = .ok (.iconst 0, 1) := by decide +kernel
theorem dX7_isLetter_17 : decode cX7_isLetter 17 = .ok (.ireturn, 1) := by decide +kernel
theorem dX7_isOfName_0 : decode cX7_isOfName 0 = .ok (.iload_n 0, 1) := by decide +kernel
theorem dX7_isOfName_1 : decode cX7_isOfName 1 = .ok (.invokestatic 89, 3) := by decide +kernel
theorem dX7_isOfName_4 : decode cX7_isOfName 4 = .ok (.ifCond .ne 10, 3) := by decide +kernel
theorem dX7_isOfName_7 : decode cX7_isOfName 7 = .ok (.iload_n 0, 1) := by decide +kernel
theorem dX7_isOfName_8 : decode cX7_isOfName 8 = .ok (.invokestatic 92, 3) := by decide +kernel
theorem dX7_isOfName_11 : decode cX7_isOfName 11 = .ok (.ifCond .eq 7, 3) := by decide +kernel
theorem dX7_isOfName_14 : decode cX7_isOfName 14 = .ok (.iconst 1, 1) := by decide +kernel
theorem dX7_isOfName_15 : decode cX7_isOfName 15 = .ok (.goto 4, 3) := by decide +kernel
theorem dX7_isOfName_18 : decode cX7_isOfName 18 = .ok (.iconst 0, 1) := by decide +kernel
theorem dX7_isOfName_19 : decode cX7_isOfName 19 = .ok (.ireturn, 1) := by decide +kernel
theorem dX7_markToken_0 : decode cX7_markToken 0 = .ok (.iload_n 0, 1) := by decide +kernel
theorem dX7_markToken_1 : decode cX7_markToken 1 = .ok (.lookupswitch 76 #[(40, 62), (41, 65), (59, 59), (60, 68), (61, 68), (62, 68)], 59) := by decide +kernel
theorem dX7_markToken_60 : decode cX7_markToken 60 = .ok (.bipush 24, 2) := by decide +kernel
theorem dX7_markToken_62 : decode cX7_markToken 62 = .ok (.ireturn, 1) := by decide +kernel
theorem dX7_markToken_63 : decode cX7_markToken 63 = .ok (.bipush 25, 2) := by decide +kernel
theorem dX7_markToken_65 : decode cX7_markToken 65 = .ok (.ireturn, 1) := by decide +kernel
theorem dX7_markToken_66 : decode cX7_markToken 66 = .ok (.bipush 26, 2) := by decide +kernel
theorem dX7_markToken_68 : decode cX7_markToken 68 = .ok (.ireturn, 1) := by decide +kernel
theorem dX7_markToken_69 : decode cX7_markToken 69 = .ok (.bipush 27, 2) := by decide +kernel
theorem dX7_markToken_71 : decode cX7_markToken 71 = .ok (.iload_n 0, 1) := by decide +kernel
theorem dX7_markToken_72 : decode cX7_markToken 72 = .ok (.iadd, 1) := by decide +kernel
theorem dX7_markToken_73 : decode cX7_markToken 73 = .ok (.bipush 60, 2) := by decide +kernel
theorem dX7_markToken_75 : decode cX7_markToken 75 = .ok (.isub, 1) := by decide +kernel
theorem dX7_markToken_76 : decode cX7_markToken 76 = .ok (.ireturn, 1) := by decide +kernel
theorem dX7_markToken_77 : decode cX7_markToken 77 = .ok (.bipush 22, 2) := by decide +kernel
theorem dX7_markToken_79 : decode cX7_markToken 79 = .ok (.ireturn, 1) := by decide +kernel
theorem dX7_nameEnd_0 : decode cX7_nameEnd 0 = .ok (.iload_n 1, 1) := by decide +kernel
theorem dX7_nameEnd_1 : decode cX7_nameEnd 1 = .ok (.istore_n 2, 1) := by decide +kernel
theorem dX7_nameEnd_2 : decode cX7_nameEnd 2 = .ok (.iload_n 2, 1) := by decide +kernel
theorem dX7_nameEnd_3 : decode cX7_nameEnd 3 = .ok (.aload_n 0, 1) := by decide +kernel
theorem dX7_nameEnd_4 : decode cX7_nameEnd 4 = .ok (.getfield 55, 3) := by decide +kernel
theorem dX7_nameEnd_7 : decode cX7_nameEnd 7 = .ok (.if_icmp .ge 21, 3) := by decide +kernel
theorem dX7_nameEnd_10 : decode cX7_nameEnd 10 = .ok (.aload_n 0, 1) := by decide +kernel
theorem dX7_nameEnd_11 : decode cX7_nameEnd 11 = .ok (.getfield 70, 3) := by decide +kernel
theorem dX7_nameEnd_14 : decode cX7_nameEnd 14 = .ok (.iload_n 2, 1) := by decide +kernel
theorem dX7_nameEnd_15 : decode cX7_nameEnd 15 = .ok (.iaload, 1) := by decide +kernel
theorem dX7_nameEnd_16 : decode cX7_nameEnd 16 = .ok (.invokestatic 73, 3) := by decide +kernel
theorem dX7_nameEnd_19 : decode cX7_nameEnd 19 = .ok (.ifCond .eq 9, 3) := by decide +kernel
theorem dX7_nameEnd_22 : decode cX7_nameEnd 22 = .ok (.iinc 2 1, 3) := by decide +kernel
theorem dX7_nameEnd_25 : decode cX7_nameEnd 25 = .ok (.goto (-23), 3) := by decide +kernel
theorem dX7_nameEnd_28 : decode cX7_nameEnd 28 = .ok (.iload_n 2, 1) := by decide +kernel
theorem dX7_nameEnd_29 : decode cX7_nameEnd 29 = .ok (.ireturn, 1) := by decide +kernel
theorem dX7_now_0 : decode cX7_now 0 = .ok (.aload_n 0, 1) := by decide +kernel
theorem dX7_now_1 : decode cX7_now 1 = .ok (.getfield 18, 3) := by decide +kernel
theorem dX7_now_4 : decode cX7_now 4 = .ok (.aload_n 0, 1) := by decide +kernel
theorem dX7_now_5 : decode cX7_now 5 = .ok (.getfield 9, 3) := by decide +kernel
theorem dX7_now_8 : decode cX7_now 8 = .ok (.arraylength, 1) := by decide +kernel
theorem dX7_now_9 : decode cX7_now 9 = .ok (.if_icmp .ge 15, 3) := by decide +kernel
theorem dX7_now_12 : decode cX7_now 12 = .ok (.aload_n 0, 1) := by decide +kernel
theorem dX7_now_13 : decode cX7_now 13 = .ok (.getfield 9, 3) := by decide +kernel
theorem dX7_now_16 : decode cX7_now 16 = .ok (.aload_n 0, 1) := by decide +kernel
theorem dX7_now_17 : decode cX7_now 17 = .ok (.getfield 18, 3) := by decide +kernel
theorem dX7_now_20 : decode cX7_now 20 = .ok (.iaload, 1) := by decide +kernel
theorem dX7_now_21 : decode cX7_now 21 = .ok (.goto 5, 3) := by decide +kernel
theorem dX7_now_24 : decode cX7_now 24 = .ok (.bipush 23, 2) := by decide +kernel
theorem dX7_now_26 : decode cX7_now 26 = .ok (.ireturn, 1) := by decide +kernel
theorem dX7_tell_0 : decode cX7_tell 0 = .ok (.aload_n 0, 1) := by decide +kernel
theorem dX7_tell_1 : decode cX7_tell 1 = .ok (.getfield 29, 3) := by decide +kernel
theorem dX7_tell_4 : decode cX7_tell 4 = .ok (.ifCond .ne 39, 3) := by decide +kernel
theorem dX7_tell_7 : decode cX7_tell 7 = .ok (.aload_n 0, 1) := by decide +kernel
theorem dX7_tell_8 : decode cX7_tell 8 = .ok (.iload_n 1, 1) := by decide +kernel
theorem dX7_tell_9 : decode cX7_tell 9 = .ok (.putfield 29, 3) := by decide +kernel
theorem dX7_tell_12 : decode cX7_tell 12 = .ok (.aload_n 0, 1) := by decide +kernel
theorem dX7_tell_13 : decode cX7_tell 13 = .ok (.aload_n 0, 1) := by decide +kernel
theorem dX7_tell_14 : decode cX7_tell 14 = .ok (.getfield 18, 3) := by decide +kernel
theorem dX7_tell_17 : decode cX7_tell 17 = .ok (.aload_n 0, 1) := by decide +kernel
theorem dX7_tell_18 : decode cX7_tell 18 = .ok (.getfield 15, 3) := by decide +kernel
theorem dX7_tell_21 : decode cX7_tell 21 = .ok (.arraylength, 1) := by decide +kernel
theorem dX7_tell_22 : decode cX7_tell 22 = .ok (.if_icmp .ge 15, 3) := by decide +kernel
theorem dX7_tell_25 : decode cX7_tell 25 = .ok (.aload_n 0, 1) := by decide +kernel
theorem dX7_tell_26 : decode cX7_tell 26 = .ok (.getfield 15, 3) := by decide +kernel
theorem dX7_tell_29 : decode cX7_tell 29 = .ok (.aload_n 0, 1) := by decide +kernel
theorem dX7_tell_30 : decode cX7_tell 30 = .ok (.getfield 18, 3) := by decide +kernel
theorem dX7_tell_33 : decode cX7_tell 33 = .ok (.iaload, 1) := by decide +kernel
theorem dX7_tell_34 : decode cX7_tell 34 = .ok (.goto 6, 3) := by decide +kernel
theorem dX7_tell_37 : decode cX7_tell 37 = .ok (.sipush 300, 3) := by decide +kernel
theorem dX7_tell_40 : decode cX7_tell 40 = .ok (.putfield 32, 3) := by decide +kernel
theorem dX7_tell_43 : decode cX7_tell 43 = .ok (.return_, 1) := by decide +kernel
theorem dX9_isWeather_0 : decode cX9_isWeather 0 = .ok (.iconst 0, 1) := by decide +kernel
theorem dX9_isWeather_1 : decode cX9_isWeather 1 = .ok (.istore_n 1, 1) := by decide +kernel
theorem dX9_isWeather_2 : decode cX9_isWeather 2 = .ok (.iload_n 1, 1) := by decide +kernel
theorem dX9_isWeather_3 : decode cX9_isWeather 3 = .ok (.aload_n 0, 1) := by decide +kernel
theorem dX9_isWeather_4 : decode cX9_isWeather 4 = .ok (.getfield 15, 3) := by decide +kernel
theorem dX9_isWeather_7 : decode cX9_isWeather 7 = .ok (.if_icmp .ge 33, 3) := by decide +kernel
theorem dX9_isWeather_10 : decode cX9_isWeather 10 = .ok (.aload_n 0, 1) := by decide +kernel
theorem dX9_isWeather_11 : decode cX9_isWeather 11 = .ok (.getfield 9, 3) := by decide +kernel
theorem dX9_isWeather_14 : decode cX9_isWeather 14 = .ok (.iload_n 1, 1) := by decide +kernel
theorem dX9_isWeather_15 : decode cX9_isWeather 15 = .ok (.iaload, 1) := by decide +kernel
theorem dX9_isWeather_16 : decode cX9_isWeather 16 = .ok (.iconst 4, 1) := by decide +kernel
theorem dX9_isWeather_17 : decode cX9_isWeather 17 = .ok (.if_icmp .lt 17, 3) := by decide +kernel
theorem dX9_isWeather_20 : decode cX9_isWeather 20 = .ok (.aload_n 0, 1) := by decide +kernel
theorem dX9_isWeather_21 : decode cX9_isWeather 21 = .ok (.getfield 9, 3) := by decide +kernel
theorem dX9_isWeather_24 : decode cX9_isWeather 24 = .ok (.iload_n 1, 1) := by decide +kernel
theorem dX9_isWeather_25 : decode cX9_isWeather 25 = .ok (.iaload, 1) := by decide +kernel
theorem dX9_isWeather_26 : decode cX9_isWeather 26 = .ok (.sipush 255, 3) := by decide +kernel
theorem dX9_isWeather_29 : decode cX9_isWeather 29 = .ok (.if_icmp .eq 5, 3) := by decide +kernel
theorem dX9_isWeather_32 : decode cX9_isWeather 32 = .ok (.iconst 0, 1) := by decide +kernel
theorem dX9_isWeather_33 : decode cX9_isWeather 33 = .ok (.ireturn, 1) := by decide +kernel
theorem dX9_isWeather_34 : decode cX9_isWeather 34 = .ok (.iinc 1 1, 3) := by decide +kernel
theorem dX9_isWeather_37 : decode cX9_isWeather 37 = .ok (.goto (-35), 3) := by decide +kernel
theorem dX9_isWeather_40 : decode cX9_isWeather 40 = .ok (.iconst 1, 1) := by decide +kernel
theorem dX9_isWeather_41 : decode cX9_isWeather 41 = .ok (.ireturn, 1) := by decide +kernel
theorem dX9_noneAbove_0 : decode cX9_noneAbove 0 = .ok (.iconst 0, 1) := by decide +kernel
theorem dX9_noneAbove_1 : decode cX9_noneAbove 1 = .ok (.istore_n 2, 1) := by decide +kernel
theorem dX9_noneAbove_2 : decode cX9_noneAbove 2 = .ok (.iload_n 2, 1) := by decide +kernel
theorem dX9_noneAbove_3 : decode cX9_noneAbove 3 = .ok (.aload_n 0, 1) := by decide +kernel
theorem dX9_noneAbove_4 : decode cX9_noneAbove 4 = .ok (.getfield 15, 3) := by decide +kernel
theorem dX9_noneAbove_7 : decode cX9_noneAbove 7 = .ok (.if_icmp .ge 21, 3) := by decide +kernel
theorem dX9_noneAbove_10 : decode cX9_noneAbove 10 = .ok (.aload_n 0, 1) := by decide +kernel
theorem dX9_noneAbove_11 : decode cX9_noneAbove 11 = .ok (.getfield 9, 3) := by decide +kernel
theorem dX9_noneAbove_14 : decode cX9_noneAbove 14 = .ok (.iload_n 2, 1) := by decide +kernel
theorem dX9_noneAbove_15 : decode cX9_noneAbove 15 = .ok (.iaload, 1) := by decide +kernel
theorem dX9_noneAbove_16 : decode cX9_noneAbove 16 = .ok (.iload_n 1, 1) := by decide +kernel
theorem dX9_noneAbove_17 : decode cX9_noneAbove 17 = .ok (.if_icmp .le 5, 3) := by decide +kernel
theorem dX9_noneAbove_20 : decode cX9_noneAbove 20 = .ok (.iconst 0, 1) := by decide +kernel
theorem dX9_noneAbove_21 : decode cX9_noneAbove 21 = .ok (.ireturn, 1) := by decide +kernel
theorem dX9_noneAbove_22 : decode cX9_noneAbove 22 = .ok (.iinc 2 1, 3) := by decide +kernel
theorem dX9_noneAbove_25 : decode cX9_noneAbove 25 = .ok (.goto (-23), 3) := by decide +kernel
theorem dX9_noneAbove_28 : decode cX9_noneAbove 28 = .ok (.iconst 1, 1) := by decide +kernel
theorem dX9_noneAbove_29 : decode cX9_noneAbove 29 = .ok (.ireturn, 1) := by decide +kernel
theorem dX9_pairAt_0 : decode cX9_pairAt 0 = .ok (.iconst 2, 1) := by decide +kernel
theorem dX9_pairAt_1 : decode cX9_pairAt 1 = .ok (.iload_n 1, 1) := by decide +kernel
theorem dX9_pairAt_2 : decode cX9_pairAt 2 = .ok (.imul, 1) := by decide +kernel
theorem dX9_pairAt_3 : decode cX9_pairAt 3 = .ok (.istore_n 2, 1) := by decide +kernel
theorem dX9_pairAt_4 : decode cX9_pairAt 4 = .ok (.iload_n 2, 1) := by decide +kernel
theorem dX9_pairAt_5 : decode cX9_pairAt 5 = .ok (.ifCond .lt 35, 3) := by decide +kernel
theorem dX9_pairAt_8 : decode cX9_pairAt 8 = .ok (.iload_n 2, 1) := by decide +kernel
theorem dX9_pairAt_9 : decode cX9_pairAt 9 = .ok (.iconst 1, 1) := by decide +kernel
theorem dX9_pairAt_10 : decode cX9_pairAt 10 = .ok (.iadd, 1) := by decide +kernel
theorem dX9_pairAt_11 : decode cX9_pairAt 11 = .ok (.aload_n 0, 1) := by decide +kernel
theorem dX9_pairAt_12 : decode cX9_pairAt 12 = .ok (.getfield 15, 3) := by decide +kernel
theorem dX9_pairAt_15 : decode cX9_pairAt 15 = .ok (.if_icmp .ge 25, 3) := by decide +kernel
theorem dX9_pairAt_18 : decode cX9_pairAt 18 = .ok (.aload_n 0, 1) := by decide +kernel
theorem dX9_pairAt_19 : decode cX9_pairAt 19 = .ok (.getfield 9, 3) := by decide +kernel
theorem dX9_pairAt_22 : decode cX9_pairAt 22 = .ok (.iload_n 2, 1) := by decide +kernel
theorem dX9_pairAt_23 : decode cX9_pairAt 23 = .ok (.iaload, 1) := by decide +kernel
theorem dX9_pairAt_24 : decode cX9_pairAt 24 = .ok (.sipush 256, 3) := by decide +kernel
theorem dX9_pairAt_27 : decode cX9_pairAt 27 = .ok (.imul, 1) := by decide +kernel
theorem dX9_pairAt_28 : decode cX9_pairAt 28 = .ok (.aload_n 0, 1) := by decide +kernel
theorem dX9_pairAt_29 : decode cX9_pairAt 29 = .ok (.getfield 9, 3) := by decide +kernel
theorem dX9_pairAt_32 : decode cX9_pairAt 32 = .ok (.iload_n 2, 1) := by decide +kernel
theorem dX9_pairAt_33 : decode cX9_pairAt 33 = .ok (.iconst 1, 1) := by decide +kernel
theorem dX9_pairAt_34 : decode cX9_pairAt 34 = .ok (.iadd, 1) := by decide +kernel
theorem dX9_pairAt_35 : decode cX9_pairAt 35 = .ok (.iaload, 1) := by decide +kernel
theorem dX9_pairAt_36 : decode cX9_pairAt 36 = .ok (.iadd, 1) := by decide +kernel
theorem dX9_pairAt_37 : decode cX9_pairAt 37 = .ok (.goto 4, 3) := by decide +kernel
theorem dX9_pairAt_40 : decode cX9_pairAt 40 = .ok (.iconst 0, 1) := by decide +kernel
theorem dX9_pairAt_41 : decode cX9_pairAt 41 = .ok (.ireturn, 1) := by decide +kernel
theorem dX9_put_0 : decode cX9_put 0 = .ok (.bipush 24, 2) := by decide +kernel
theorem dX9_put_2 : decode cX9_put 2 = .ok (.istore_n 2, 1) := by decide +kernel
theorem dX9_put_3 : decode cX9_put 3 = .ok (.iload_n 2, 1) := by decide +kernel
theorem dX9_put_4 : decode cX9_put 4 = .ok (.ifCond .lt 47, 3) := by decide +kernel
theorem dX9_put_7 : decode cX9_put 7 = .ok (.aload_n 0, 1) := by decide +kernel
theorem dX9_put_8 : decode cX9_put 8 = .ok (.getfield 15, 3) := by decide +kernel
theorem dX9_put_11 : decode cX9_put 11 = .ok (.aload_n 0, 1) := by decide +kernel
theorem dX9_put_12 : decode cX9_put 12 = .ok (.getfield 9, 3) := by decide +kernel
theorem dX9_put_15 : decode cX9_put 15 = .ok (.arraylength, 1) := by decide +kernel
theorem dX9_put_16 : decode cX9_put 16 = .ok (.if_icmp .ge 35, 3) := by decide +kernel
theorem dX9_put_19 : decode cX9_put 19 = .ok (.aload_n 0, 1) := by decide +kernel
theorem dX9_put_20 : decode cX9_put 20 = .ok (.getfield 9, 3) := by decide +kernel
theorem dX9_put_23 : decode cX9_put 23 = .ok (.aload_n 0, 1) := by decide +kernel
theorem dX9_put_24 : decode cX9_put 24 = .ok (.getfield 15, 3) := by decide +kernel
theorem dX9_put_27 : decode cX9_put 27 = .ok (.iload_n 1, 1) := by decide +kernel
theorem dX9_put_28 : decode cX9_put 28 = .ok (.iload_n 2, 1) := by decide +kernel
theorem dX9_put_29 : decode cX9_put 29 = .ok (.iushr, 1) := by decide +kernel
theorem dX9_put_30 : decode cX9_put 30 = .ok (.sipush 255, 3) := by decide +kernel
theorem dX9_put_33 : decode cX9_put 33 = .ok (.iand, 1) := by decide +kernel
theorem dX9_put_34 : decode cX9_put 34 = .ok (.iastore, 1) := by decide +kernel
theorem dX9_put_35 : decode cX9_put 35 = .ok (.aload_n 0, 1) := by decide +kernel
theorem dX9_put_36 : decode cX9_put 36 = .ok (.dup, 1) := by decide +kernel
theorem dX9_put_37 : decode cX9_put 37 = .ok (.getfield 15, 3) := by decide +kernel
theorem dX9_put_40 : decode cX9_put 40 = .ok (.iconst 1, 1) := by decide +kernel
theorem dX9_put_41 : decode cX9_put 41 = .ok (.iadd, 1) := by decide +kernel
theorem dX9_put_42 : decode cX9_put 42 = .ok (.putfield 15, 3) := by decide +kernel
theorem dX9_put_45 : decode cX9_put 45 = .ok (.iinc 2 (-8), 3) := by decide +kernel
theorem dX9_put_48 : decode cX9_put 48 = .ok (.goto (-45), 3) := by decide +kernel
theorem dX9_put_51 : decode cX9_put 51 = .ok (.return_, 1) := by decide +kernel
