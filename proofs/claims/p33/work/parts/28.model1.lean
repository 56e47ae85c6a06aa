theorem m_1_5 : Cond.initialized RX12 ∈ wsL_law := ch_1 _ (List.mem_of_getElem? (i := 5) rfl)
theorem m_8_3 : Cond.fieldLink RX12 13 "PaperBoysModel" "age" "[I" ∈ wsL_law := ch_8 _ (List.mem_of_getElem? (i := 3) rfl)
theorem m_8_4 : Cond.fieldLink RX12 16 "PaperBoysModel" "badge" "[I" ∈ wsL_law := ch_8 _ (List.mem_of_getElem? (i := 4) rfl)
theorem m_8_5 : Cond.fieldLink RX12 19 "PaperBoysModel" "fists" "[I" ∈ wsL_law := ch_8 _ (List.mem_of_getElem? (i := 5) rfl)
theorem m_8_6 : Cond.fieldLink RX12 22 "PaperBoysModel" "coin" "[I" ∈ wsL_law := ch_8 _ (List.mem_of_getElem? (i := 6) rfl)
theorem m_8_7 : Cond.fieldLink RX12 25 "PaperBoysModel" "school" "[Z" ∈ wsL_law := ch_8 _ (List.mem_of_getElem? (i := 7) rfl)
theorem m_8_8 : Cond.fieldLink RX12 29 "PaperBoysModel" "ownerOf" "[I" ∈ wsL_law := ch_8 _ (List.mem_of_getElem? (i := 8) rfl)
theorem m_8_9 : Cond.fieldLink RX12 32 "PaperBoysModel" "skies" "[I" ∈ wsL_law := ch_8 _ (List.mem_of_getElem? (i := 9) rfl)
theorem m_8_10 : Cond.fieldLink RX12 35 "PaperBoysModel" "heads" "[I" ∈ wsL_law := ch_8 _ (List.mem_of_getElem? (i := 10) rfl)
theorem m_8_11 : Cond.fieldLink RX12 38 "PaperBoysModel" "wants" "[I" ∈ wsL_law := ch_8 _ (List.mem_of_getElem? (i := 11) rfl)
theorem m_8_12 : Cond.fieldLink RX12 41 "PaperBoysModel" "wet" "[I" ∈ wsL_law := ch_8 _ (List.mem_of_getElem? (i := 12) rfl)
theorem m_8_13 : Cond.fieldLink RX12 44 "PaperBoysModel" "loud" "[I" ∈ wsL_law := ch_8 _ (List.mem_of_getElem? (i := 13) rfl)
theorem m_8_14 : Cond.fieldLink RX12 47 "PaperBoysModel" "way" "[I" ∈ wsL_law := ch_8 _ (List.mem_of_getElem? (i := 14) rfl)
theorem m_8_16 : Cond.fieldLink RX12 53 "PaperBoysModel" "fromDay" "[I" ∈ wsL_law := ch_8 _ (List.mem_of_getElem? (i := 16) rfl)
theorem m_9_1 : Cond.fieldLink RX12 80 "PaperBoysModel" "fact" "[I" ∈ wsL_law := ch_9 _ (List.mem_of_getElem? (i := 1) rfl)
theorem m_9_4 : Cond.fieldLink RX12 90 "PaperBoysModel" "boyOf" "[I" ∈ wsL_law := ch_9 _ (List.mem_of_getElem? (i := 4) rfl)
theorem m_9_5 : Cond.fieldLink RX12 93 "PaperBoysModel" "paperOf" "[I" ∈ wsL_law := ch_9 _ (List.mem_of_getElem? (i := 5) rfl)
theorem m_9_6 : Cond.fieldLink RX12 96 "PaperBoysModel" "cornerOf" "[I" ∈ wsL_law := ch_9 _ (List.mem_of_getElem? (i := 6) rfl)
theorem m_9_8 : Cond.fieldLink RX12 102 "PaperBoysModel" "hourOf" "[I" ∈ wsL_law := ch_9 _ (List.mem_of_getElem? (i := 8) rfl)
theorem m_9_9 : Cond.fieldLink RX12 105 "PaperBoysModel" "dayOf" "[I" ∈ wsL_law := ch_9 _ (List.mem_of_getElem? (i := 9) rfl)
theorem m_9_10 : Cond.fieldLink RX12 108 "PaperBoysModel" "costOf" "[I" ∈ wsL_law := ch_9 _ (List.mem_of_getElem? (i := 10) rfl)
theorem m_9_11 : Cond.fieldLink RX12 111 "PaperBoysModel" "sold" "[I" ∈ wsL_law := ch_9 _ (List.mem_of_getElem? (i := 11) rfl)
theorem m_9_12 : Cond.fieldLink RX12 114 "PaperBoysModel" "backOf" "[I" ∈ wsL_law := ch_9 _ (List.mem_of_getElem? (i := 12) rfl)
theorem m_9_13 : Cond.fieldLink RX12 117 "PaperBoysModel" "eaten" "[I" ∈ wsL_law := ch_9 _ (List.mem_of_getElem? (i := 13) rfl)
theorem m_9_14 : Cond.fieldLink RX12 120 "PaperBoysModel" "why" "I" ∈ wsL_law := ch_9 _ (List.mem_of_getElem? (i := 14) rfl)
theorem m_9_17 : Cond.fieldLink RX12 129 "PaperBoysModel" "isCried" "[Z" ∈ wsL_law := ch_9 _ (List.mem_of_getElem? (i := 17) rfl)
theorem m_9_19 : Cond.fieldLink RX12 135 "PaperBoysModel" "countPaper" "[I" ∈ wsL_law := ch_9 _ (List.mem_of_getElem? (i := 19) rfl)
theorem m_9_20 : Cond.fieldLink RX12 138 "PaperBoysModel" "countCorner" "[I" ∈ wsL_law := ch_9 _ (List.mem_of_getElem? (i := 20) rfl)
theorem m_9_21 : Cond.fieldLink RX12 141 "PaperBoysModel" "countDay" "[I" ∈ wsL_law := ch_9 _ (List.mem_of_getElem? (i := 21) rfl)
theorem m_9_22 : Cond.fieldLink RX12 144 "PaperBoysModel" "countCopies" "[I" ∈ wsL_law := ch_9 _ (List.mem_of_getElem? (i := 22) rfl)
theorem m_9_23 : Cond.fieldLink RX12 147 "PaperBoysModel" "countTold" "[I" ∈ wsL_law := ch_9 _ (List.mem_of_getElem? (i := 23) rfl)
theorem m_10_0 : Cond.fieldLink RX12 150 "PaperBoysModel" "triedEaten" "I" ∈ wsL_law := ch_10 _ (List.mem_of_getElem? (i := 0) rfl)
theorem m_10_3 : Cond.fieldLink RX12 159 "PaperBoysModel" "has" "[I" ∈ wsL_law := ch_10 _ (List.mem_of_getElem? (i := 3) rfl)
theorem m_10_11 : Cond.fieldLink RX12 183 "PaperBoysModel" "truckWay" "[I" ∈ wsL_law := ch_10 _ (List.mem_of_getElem? (i := 11) rfl)
theorem m_10_14 : Cond.fieldLink RX12 192 "PaperBoysModel" "struckHow" "I" ∈ wsL_law := ch_10 _ (List.mem_of_getElem? (i := 14) rfl)
theorem m_10_15 : Cond.fieldLink RX12 195 "PaperBoysModel" "struckPrice" "I" ∈ wsL_law := ch_10 _ (List.mem_of_getElem? (i := 15) rfl)
theorem m_15_11 : Cond.fieldLink RX12 208 "PaperBoysModel" "boys" "I" ∈ wsL_law := ch_15 _ (List.mem_of_getElem? (i := 11) rfl)
theorem m_15_12 : Cond.methodLink RX12 211 yX12_isIn ∈ wsL_law := ch_15 _ (List.mem_of_getElem? (i := 12) rfl)
theorem m_15_13 : Cond.static yX12_isIn ∈ wsL_law := ch_15 _ (List.mem_of_getElem? (i := 13) rfl)
theorem m_15_14 : Cond.code yX12_isIn cX12_isIn 3 (some .boolean) ∈ wsL_law := ch_15 _ (List.mem_of_getElem? (i := 14) rfl)
theorem m_16_22 : Cond.methodLink RX12 215 yX12_isBoy ∈ wsL_law := ch_16 _ (List.mem_of_getElem? (i := 22) rfl)
theorem m_16_23 : Cond.instanceMethod yX12_isBoy ∈ wsL_law := ch_16 _ (List.mem_of_getElem? (i := 23) rfl)
theorem m_17_0 : Cond.selects RX12 yX12_isBoy yX12_isBoy ∈ wsL_law := ch_17 _ (List.mem_of_getElem? (i := 0) rfl)
theorem m_17_1 : Cond.code yX12_isBoy cX12_isBoy 2 (some .boolean) ∈ wsL_law := ch_17 _ (List.mem_of_getElem? (i := 1) rfl)
theorem m_17_14 : Cond.methodLink RX12 219 yX12_isCorner ∈ wsL_law := ch_17 _ (List.mem_of_getElem? (i := 14) rfl)
theorem m_17_15 : Cond.static yX12_isCorner ∈ wsL_law := ch_17 _ (List.mem_of_getElem? (i := 15) rfl)
theorem m_17_16 : Cond.code yX12_isCorner cX12_isCorner 1 (some .boolean) ∈ wsL_law := ch_17 _ (List.mem_of_getElem? (i := 16) rfl)
theorem m_18_11 : Cond.fieldLink RX12 226 "PaperBoysModel" "skyMany" "I" ∈ wsL_law := ch_18 _ (List.mem_of_getElem? (i := 11) rfl)
theorem m_18_12 : Cond.methodLink RX12 222 yX12_take ∈ wsL_law := ch_18 _ (List.mem_of_getElem? (i := 12) rfl)
theorem m_18_13 : Cond.instanceMethod yX12_take ∈ wsL_law := ch_18 _ (List.mem_of_getElem? (i := 13) rfl)
theorem m_18_14 : Cond.selects RX12 yX12_take yX12_take ∈ wsL_law := ch_18 _ (List.mem_of_getElem? (i := 14) rfl)
theorem m_18_15 : Cond.code yX12_take cX12_take 2 (some .int) ∈ wsL_law := ch_18 _ (List.mem_of_getElem? (i := 15) rfl)
theorem m_19_1 : Cond.methodLink RX12 229 yX12_isDay ∈ wsL_law := ch_19 _ (List.mem_of_getElem? (i := 1) rfl)
theorem m_19_2 : Cond.static yX12_isDay ∈ wsL_law := ch_19 _ (List.mem_of_getElem? (i := 2) rfl)
theorem m_19_3 : Cond.code yX12_isDay cX12_isDay 1 (some .boolean) ∈ wsL_law := ch_19 _ (List.mem_of_getElem? (i := 3) rfl)
theorem m_19_4 : Cond.methodLink RX12 232 yX12_skyOf ∈ wsL_law := ch_19 _ (List.mem_of_getElem? (i := 4) rfl)
theorem m_19_5 : Cond.instanceMethod yX12_skyOf ∈ wsL_law := ch_19 _ (List.mem_of_getElem? (i := 5) rfl)
theorem m_19_6 : Cond.selects RX12 yX12_skyOf yX12_skyOf ∈ wsL_law := ch_19 _ (List.mem_of_getElem? (i := 6) rfl)
theorem m_19_7 : Cond.code yX12_skyOf cX12_skyOf 2 (some .int) ∈ wsL_law := ch_19 _ (List.mem_of_getElem? (i := 7) rfl)
theorem m_19_23 : Cond.fieldLink RX12 239 "PaperBoysModel" "today" "I" ∈ wsL_law := ch_19 _ (List.mem_of_getElem? (i := 23) rfl)
theorem m_20_0 : Cond.methodLink RX12 236 yX12_isPaper ∈ wsL_law := ch_20 _ (List.mem_of_getElem? (i := 0) rfl)
theorem m_20_1 : Cond.static yX12_isPaper ∈ wsL_law := ch_20 _ (List.mem_of_getElem? (i := 1) rfl)
theorem m_20_2 : Cond.code yX12_isPaper cX12_isPaper 1 (some .boolean) ∈ wsL_law := ch_20 _ (List.mem_of_getElem? (i := 2) rfl)
theorem m_21_13 : Cond.methodLink RX12 242 yX12_askedOf ∈ wsL_law := ch_21 _ (List.mem_of_getElem? (i := 13) rfl)
theorem m_21_14 : Cond.instanceMethod yX12_askedOf ∈ wsL_law := ch_21 _ (List.mem_of_getElem? (i := 14) rfl)
theorem m_21_15 : Cond.selects RX12 yX12_askedOf yX12_askedOf ∈ wsL_law := ch_21 _ (List.mem_of_getElem? (i := 15) rfl)
theorem m_21_16 : Cond.code yX12_askedOf cX12_askedOf 5 (some .int) ∈ wsL_law := ch_21 _ (List.mem_of_getElem? (i := 16) rfl)
theorem m_22_2 : Cond.methodLink RX12 250 yX12_layWays ∈ wsL_law := ch_22 _ (List.mem_of_getElem? (i := 2) rfl)
theorem m_22_3 : Cond.instanceMethod yX12_layWays ∈ wsL_law := ch_22 _ (List.mem_of_getElem? (i := 3) rfl)
theorem m_22_4 : Cond.selects RX12 yX12_layWays yX12_layWays ∈ wsL_law := ch_22 _ (List.mem_of_getElem? (i := 4) rfl)
theorem m_22_5 : Cond.code yX12_layWays cX12_layWays 2 none ∈ wsL_law := ch_22 _ (List.mem_of_getElem? (i := 5) rfl)
theorem m_22_6 : Cond.fieldLink RX12 246 "PaperBoysModel" "isLaid" "Z" ∈ wsL_law := ch_22 _ (List.mem_of_getElem? (i := 6) rfl)
theorem m_28_7 : Cond.fieldLink RX12 373 "PaperBoysModel" "terms" "I" ∈ wsL_law := ch_28 _ (List.mem_of_getElem? (i := 7) rfl)
theorem m_28_8 : Cond.fieldLink RX12 294 "PaperBoysModel" "place" "I" ∈ wsL_law := ch_28 _ (List.mem_of_getElem? (i := 8) rfl)
theorem m_28_15 : Cond.fieldLink RX12 253 "PaperBoysModel" "size" "I" ∈ wsL_law := ch_28 _ (List.mem_of_getElem? (i := 15) rfl)
theorem m_28_16 : Cond.fieldLink RX12 291 "PaperBoysModel" "fault" "I" ∈ wsL_law := ch_28 _ (List.mem_of_getElem? (i := 16) rfl)
theorem m_28_20 : Cond.fieldLink RX12 256 "PaperBoysModel" "to" "I" ∈ wsL_law := ch_28 _ (List.mem_of_getElem? (i := 20) rfl)
theorem m_28_21 : Cond.fieldLink RX12 262 "PaperBoysModel" "kind" "I" ∈ wsL_law := ch_28 _ (List.mem_of_getElem? (i := 21) rfl)
theorem m_29_2 : Cond.fieldLink RX12 259 "PaperBoysModel" "from" "I" ∈ wsL_law := ch_29 _ (List.mem_of_getElem? (i := 2) rfl)
theorem m_29_3 : Cond.fieldLink RX12 274 "PaperBoysModel" "sign" "I" ∈ wsL_law := ch_29 _ (List.mem_of_getElem? (i := 3) rfl)
theorem m_29_4 : Cond.fieldLink RX12 277 "PaperBoysModel" "word" "J" ∈ wsL_law := ch_29 _ (List.mem_of_getElem? (i := 4) rfl)
theorem m_29_5 : Cond.fieldLink RX12 281 "PaperBoysModel" "number" "I" ∈ wsL_law := ch_29 _ (List.mem_of_getElem? (i := 5) rfl)
theorem m_29_8 : Cond.methodLink RX12 265 yX12_isLetter ∈ wsL_law := ch_29 _ (List.mem_of_getElem? (i := 8) rfl)
theorem m_29_9 : Cond.static yX12_isLetter ∈ wsL_law := ch_29 _ (List.mem_of_getElem? (i := 9) rfl)
theorem m_29_10 : Cond.code yX12_isLetter cX12_isLetter 1 (some .boolean) ∈ wsL_law := ch_29 _ (List.mem_of_getElem? (i := 10) rfl)
theorem m_29_11 : Cond.methodLink RX12 268 yX12_isDigit ∈ wsL_law := ch_29 _ (List.mem_of_getElem? (i := 11) rfl)
theorem m_29_12 : Cond.static yX12_isDigit ∈ wsL_law := ch_29 _ (List.mem_of_getElem? (i := 12) rfl)
theorem m_29_13 : Cond.code yX12_isDigit cX12_isDigit 1 (some .boolean) ∈ wsL_law := ch_29 _ (List.mem_of_getElem? (i := 13) rfl)
theorem m_29_14 : Cond.methodLink RX12 271 yX12_isMark ∈ wsL_law := ch_29 _ (List.mem_of_getElem? (i := 14) rfl)
theorem m_29_15 : Cond.static yX12_isMark ∈ wsL_law := ch_29 _ (List.mem_of_getElem? (i := 15) rfl)
theorem m_29_16 : Cond.code yX12_isMark cX12_isMark 1 (some .boolean) ∈ wsL_law := ch_29 _ (List.mem_of_getElem? (i := 16) rfl)
theorem m_29_17 : Cond.methodLink RX12 284 yX12_byteAt ∈ wsL_law := ch_29 _ (List.mem_of_getElem? (i := 17) rfl)
theorem m_29_18 : Cond.instanceMethod yX12_byteAt ∈ wsL_law := ch_29 _ (List.mem_of_getElem? (i := 18) rfl)
theorem m_29_19 : Cond.selects RX12 yX12_byteAt yX12_byteAt ∈ wsL_law := ch_29 _ (List.mem_of_getElem? (i := 19) rfl)
theorem m_29_20 : Cond.code yX12_byteAt cX12_byteAt 2 (some .int) ∈ wsL_law := ch_29 _ (List.mem_of_getElem? (i := 20) rfl)
theorem m_30_5 : Cond.methodLink RX12 297 yX12_spelt ∈ wsL_law := ch_30 _ (List.mem_of_getElem? (i := 5) rfl)
theorem m_30_6 : Cond.static yX12_spelt ∈ wsL_law := ch_30 _ (List.mem_of_getElem? (i := 6) rfl)
theorem m_30_7 : Cond.code yX12_spelt cX12_spelt 7 (some .long) ∈ wsL_law := ch_30 _ (List.mem_of_getElem? (i := 7) rfl)
theorem m_30_8 : Cond.methodLink RX12 301 yX12_isKey ∈ wsL_law := ch_30 _ (List.mem_of_getElem? (i := 8) rfl)
theorem m_30_9 : Cond.instanceMethod yX12_isKey ∈ wsL_law := ch_30 _ (List.mem_of_getElem? (i := 9) rfl)
theorem m_30_10 : Cond.selects RX12 yX12_isKey yX12_isKey ∈ wsL_law := ch_30 _ (List.mem_of_getElem? (i := 10) rfl)
theorem m_30_11 : Cond.code yX12_isKey cX12_isKey 3 (some .boolean) ∈ wsL_law := ch_30 _ (List.mem_of_getElem? (i := 11) rfl)
theorem m_31_9 : Cond.constantLong RX12 305 (12) ∈ wsL_law := ch_31 _ (List.mem_of_getElem? (i := 9) rfl)
theorem m_31_10 : Cond.constantLong RX12 307 (18) ∈ wsL_law := ch_31 _ (List.mem_of_getElem? (i := 10) rfl)
theorem m_31_11 : Cond.constantLong RX12 309 (19) ∈ wsL_law := ch_31 _ (List.mem_of_getElem? (i := 11) rfl)
theorem m_31_12 : Cond.constantLong RX12 311 (5) ∈ wsL_law := ch_31 _ (List.mem_of_getElem? (i := 12) rfl)
theorem m_36_5 : Cond.fieldLink RX12 389 "PaperBoysModel" "bundles" "I" ∈ wsL_law := ch_36 _ (List.mem_of_getElem? (i := 5) rfl)
theorem m_37_1 : Cond.methodLink RX12 399 yX12_cost ∈ wsL_law := ch_37 _ (List.mem_of_getElem? (i := 1) rfl)
theorem m_37_2 : Cond.static yX12_cost ∈ wsL_law := ch_37 _ (List.mem_of_getElem? (i := 2) rfl)
theorem m_37_3 : Cond.code yX12_cost cX12_cost 2 (some .int) ∈ wsL_law := ch_37 _ (List.mem_of_getElem? (i := 3) rfl)
theorem m_41_4 : Cond.methodLink RX12 408 yX12_isAhead ∈ wsL_law := ch_41 _ (List.mem_of_getElem? (i := 4) rfl)
theorem m_41_5 : Cond.instanceMethod yX12_isAhead ∈ wsL_law := ch_41 _ (List.mem_of_getElem? (i := 5) rfl)
theorem m_41_6 : Cond.selects RX12 yX12_isAhead yX12_isAhead ∈ wsL_law := ch_41 _ (List.mem_of_getElem? (i := 6) rfl)
theorem m_41_7 : Cond.code yX12_isAhead cX12_isAhead 5 (some .boolean) ∈ wsL_law := ch_41 _ (List.mem_of_getElem? (i := 7) rfl)
theorem m_42_7 : Cond.methodLink RX12 418 yX12_refuse ∈ wsL_law := ch_42 _ (List.mem_of_getElem? (i := 7) rfl)
theorem m_42_8 : Cond.instanceMethod yX12_refuse ∈ wsL_law := ch_42 _ (List.mem_of_getElem? (i := 8) rfl)
theorem m_42_9 : Cond.selects RX12 yX12_refuse yX12_refuse ∈ wsL_law := ch_42 _ (List.mem_of_getElem? (i := 9) rfl)
theorem m_42_10 : Cond.code yX12_refuse cX12_refuse 1 (some .int) ∈ wsL_law := ch_42 _ (List.mem_of_getElem? (i := 10) rfl)
theorem m_43_13 : Cond.fieldLink RX12 421 "PaperBoysModel" "counts" "I" ∈ wsL_law := ch_43 _ (List.mem_of_getElem? (i := 13) rfl)
theorem m_44_10 : Cond.methodLink RX12 424 yX12_countOf ∈ wsL_law := ch_44 _ (List.mem_of_getElem? (i := 10) rfl)
theorem m_44_11 : Cond.instanceMethod yX12_countOf ∈ wsL_law := ch_44 _ (List.mem_of_getElem? (i := 11) rfl)
theorem m_44_12 : Cond.selects RX12 yX12_countOf yX12_countOf ∈ wsL_law := ch_44 _ (List.mem_of_getElem? (i := 12) rfl)
theorem m_44_13 : Cond.code yX12_countOf cX12_countOf 7 (some .int) ∈ wsL_law := ch_44 _ (List.mem_of_getElem? (i := 13) rfl)
theorem m_44_14 : Cond.methodLink RX12 427 yX12_cameBack ∈ wsL_law := ch_44 _ (List.mem_of_getElem? (i := 14) rfl)
theorem m_44_15 : Cond.instanceMethod yX12_cameBack ∈ wsL_law := ch_44 _ (List.mem_of_getElem? (i := 15) rfl)
theorem m_44_16 : Cond.selects RX12 yX12_cameBack yX12_cameBack ∈ wsL_law := ch_44 _ (List.mem_of_getElem? (i := 16) rfl)
theorem m_44_17 : Cond.code yX12_cameBack cX12_cameBack 6 (some .int) ∈ wsL_law := ch_44 _ (List.mem_of_getElem? (i := 17) rfl)
theorem m_45_21 : Cond.methodLink RX12 431 yX12_isFirst ∈ wsL_law := ch_45 _ (List.mem_of_getElem? (i := 21) rfl)
theorem m_45_22 : Cond.instanceMethod yX12_isFirst ∈ wsL_law := ch_45 _ (List.mem_of_getElem? (i := 22) rfl)
theorem m_45_23 : Cond.selects RX12 yX12_isFirst yX12_isFirst ∈ wsL_law := ch_45 _ (List.mem_of_getElem? (i := 23) rfl)
theorem m_46_0 : Cond.code yX12_isFirst cX12_isFirst 3 (some .boolean) ∈ wsL_law := ch_46 _ (List.mem_of_getElem? (i := 0) rfl)
theorem m_47_4 : Cond.fieldLink RX12 434 "PaperBoysModel" "expected" "J" ∈ wsL_law := ch_47 _ (List.mem_of_getElem? (i := 4) rfl)
theorem m_51_20 : Cond.fieldLink RX12 459 "PaperBoysModel" "parties" "I" ∈ wsL_law := ch_51 _ (List.mem_of_getElem? (i := 20) rfl)
theorem m_51_21 : Cond.fieldLink RX12 462 "PaperBoysModel" "isParted" "Z" ∈ wsL_law := ch_51 _ (List.mem_of_getElem? (i := 21) rfl)
theorem m_55_16 : Cond.fieldLink RX12 474 "PaperBoysModel" "truckMany" "I" ∈ wsL_law := ch_55 _ (List.mem_of_getElem? (i := 16) rfl)
theorem m_55_17 : Cond.fieldLink RX12 477 "PaperBoysModel" "isLed" "Z" ∈ wsL_law := ch_55 _ (List.mem_of_getElem? (i := 17) rfl)
theorem m_57_9 : Cond.methodLink RX12 480 yX12_isSum ∈ wsL_law := ch_57 _ (List.mem_of_getElem? (i := 9) rfl)
theorem m_57_10 : Cond.static yX12_isSum ∈ wsL_law := ch_57 _ (List.mem_of_getElem? (i := 10) rfl)
theorem m_57_11 : Cond.code yX12_isSum cX12_isSum 1 (some .boolean) ∈ wsL_law := ch_57 _ (List.mem_of_getElem? (i := 11) rfl)
theorem kd28_0 : (decode cX12_ask 0 = .ok (.aload_n 0, 1)) ∧ (decode cX12_ask 1 = .ok (.getfield 80, 3)) ∧ (decode cX12_ask 4 = .ok (.iconst 0, 1)) ∧ (decode cX12_ask 5 = .ok (.aload_n 0, 1)) ∧ (decode cX12_ask 6 = .ok (.getfield 25, 3)) ∧ (decode cX12_ask 9 = .ok (.iload_n 1, 1)) ∧ (decode cX12_ask 10 = .ok (.baload, 1)) ∧ (decode cX12_ask 11 = .ok (.ifCond .eq 7, 3)) ∧ (decode cX12_ask 14 = .ok (.iconst 1, 1)) ∧ (decode cX12_ask 15 = .ok (.goto 4, 3)) ∧ (decode cX12_ask 18 = .ok (.iconst 0, 1)) ∧ (decode cX12_ask 19 = .ok (.iastore, 1)) := by decide +kernel
theorem kd28_1 : (decode cX12_ask 20 = .ok (.aload_n 0, 1)) ∧ (decode cX12_ask 21 = .ok (.getfield 80, 3)) ∧ (decode cX12_ask 24 = .ok (.iconst 1, 1)) ∧ (decode cX12_ask 25 = .ok (.iload 6, 2)) ∧ (decode cX12_ask 27 = .ok (.aload_n 0, 1)) ∧ (decode cX12_ask 28 = .ok (.getfield 16, 3)) ∧ (decode cX12_ask 31 = .ok (.iload_n 1, 1)) ∧ (decode cX12_ask 32 = .ok (.iaload, 1)) ∧ (decode cX12_ask 33 = .ok (.if_icmp .gt 7, 3)) ∧ (decode cX12_ask 36 = .ok (.iconst 1, 1)) ∧ (decode cX12_ask 37 = .ok (.goto 4, 3)) ∧ (decode cX12_ask 40 = .ok (.iconst 0, 1)) := by decide +kernel
theorem kd28_2 : (decode cX12_ask 41 = .ok (.iastore, 1)) ∧ (decode cX12_ask 42 = .ok (.aload_n 0, 1)) ∧ (decode cX12_ask 43 = .ok (.getfield 80, 3)) ∧ (decode cX12_ask 46 = .ok (.iconst 2, 1)) ∧ (decode cX12_ask 47 = .ok (.aload_n 0, 1)) ∧ (decode cX12_ask 48 = .ok (.getfield 29, 3)) ∧ (decode cX12_ask 51 = .ok (.iload_n 3, 1)) ∧ (decode cX12_ask 52 = .ok (.iaload, 1)) ∧ (decode cX12_ask 53 = .ok (.iload_n 1, 1)) ∧ (decode cX12_ask 54 = .ok (.if_icmp .ne 7, 3)) ∧ (decode cX12_ask 57 = .ok (.iconst 1, 1)) ∧ (decode cX12_ask 58 = .ok (.goto 4, 3)) := by decide +kernel
theorem kd28_3 : (decode cX12_ask 61 = .ok (.iconst 0, 1)) ∧ (decode cX12_ask 62 = .ok (.iastore, 1)) ∧ (decode cX12_ask 63 = .ok (.aload_n 0, 1)) ∧ (decode cX12_ask 64 = .ok (.getfield 80, 3)) ∧ (decode cX12_ask 67 = .ok (.iconst 3, 1)) ∧ (decode cX12_ask 68 = .ok (.aload_n 0, 1)) ∧ (decode cX12_ask 69 = .ok (.getfield 13, 3)) ∧ (decode cX12_ask 72 = .ok (.iload_n 1, 1)) ∧ (decode cX12_ask 73 = .ok (.iaload, 1)) ∧ (decode cX12_ask 74 = .ok (.iastore, 1)) ∧ (decode cX12_ask 75 = .ok (.aload_n 0, 1)) ∧ (decode cX12_ask 76 = .ok (.getfield 80, 3)) := by decide +kernel
theorem kd28_4 : (decode cX12_ask 79 = .ok (.iconst 4, 1)) ∧ (decode cX12_ask 80 = .ok (.iload 5, 2)) ∧ (decode cX12_ask 82 = .ok (.iastore, 1)) ∧ (decode cX12_ask 83 = .ok (.aload_n 0, 1)) ∧ (decode cX12_ask 84 = .ok (.getfield 80, 3)) ∧ (decode cX12_ask 87 = .ok (.iconst 5, 1)) ∧ (decode cX12_ask 88 = .ok (.iload 6, 2)) ∧ (decode cX12_ask 90 = .ok (.bipush 7, 2)) ∧ (decode cX12_ask 92 = .ok (.irem, 1)) ∧ (decode cX12_ask 93 = .ok (.iastore, 1)) ∧ (decode cX12_ask 94 = .ok (.aload_n 0, 1)) ∧ (decode cX12_ask 95 = .ok (.getfield 80, 3)) := by decide +kernel
theorem kd28_5 : (decode cX12_ask 98 = .ok (.bipush 6, 2)) ∧ (decode cX12_ask 100 = .ok (.iload 6, 2)) ∧ (decode cX12_ask 102 = .ok (.iastore, 1)) ∧ (decode cX12_ask 103 = .ok (.aload_n 0, 1)) ∧ (decode cX12_ask 104 = .ok (.getfield 80, 3)) ∧ (decode cX12_ask 107 = .ok (.bipush 7, 2)) ∧ (decode cX12_ask 109 = .ok (.iload_n 2, 1)) ∧ (decode cX12_ask 110 = .ok (.iastore, 1)) ∧ (decode cX12_ask 111 = .ok (.aload_n 0, 1)) ∧ (decode cX12_ask 112 = .ok (.getfield 80, 3)) ∧ (decode cX12_ask 115 = .ok (.bipush 8, 2)) ∧ (decode cX12_ask 117 = .ok (.iload_n 3, 1)) := by decide +kernel
theorem kd28_6 : (decode cX12_ask 118 = .ok (.iastore, 1)) ∧ (decode cX12_ask 119 = .ok (.aload_n 0, 1)) ∧ (decode cX12_ask 120 = .ok (.getfield 80, 3)) ∧ (decode cX12_ask 123 = .ok (.bipush 9, 2)) ∧ (decode cX12_ask 125 = .ok (.iload 4, 2)) ∧ (decode cX12_ask 127 = .ok (.iastore, 1)) ∧ (decode cX12_ask 128 = .ok (.aload_n 0, 1)) ∧ (decode cX12_ask 129 = .ok (.getfield 80, 3)) ∧ (decode cX12_ask 132 = .ok (.bipush 10, 2)) ∧ (decode cX12_ask 134 = .ok (.aload_n 0, 1)) ∧ (decode cX12_ask 135 = .ok (.iload 6, 2)) ∧ (decode cX12_ask 137 = .ok (.invokevirtual 232, 3)) := by decide +kernel
theorem kd28_7 : (decode cX12_ask 140 = .ok (.iastore, 1)) ∧ (decode cX12_ask 141 = .ok (.aload_n 0, 1)) ∧ (decode cX12_ask 142 = .ok (.getfield 80, 3)) ∧ (decode cX12_ask 145 = .ok (.bipush 11, 2)) ∧ (decode cX12_ask 147 = .ok (.aload_n 0, 1)) ∧ (decode cX12_ask 148 = .ok (.getfield 19, 3)) ∧ (decode cX12_ask 151 = .ok (.iload_n 1, 1)) ∧ (decode cX12_ask 152 = .ok (.iaload, 1)) ∧ (decode cX12_ask 153 = .ok (.iastore, 1)) ∧ (decode cX12_ask 154 = .ok (.return_, 1)) ∧ (decode cX12_asked 0 = .ok (.aload_n 0, 1)) ∧ (decode cX12_asked 1 = .ok (.iconst 0, 1)) := by decide +kernel
theorem kd28_8 : (decode cX12_asked 2 = .ok (.putfield 198, 3)) ∧ (decode cX12_asked 5 = .ok (.iload_n 1, 1)) ∧ (decode cX12_asked 6 = .ok (.invokestatic 219, 3)) ∧ (decode cX12_asked 9 = .ok (.ifCond .eq 41, 3)) ∧ (decode cX12_asked 12 = .ok (.iload_n 2, 1)) ∧ (decode cX12_asked 13 = .ok (.invokestatic 236, 3)) ∧ (decode cX12_asked 16 = .ok (.ifCond .eq 34, 3)) ∧ (decode cX12_asked 19 = .ok (.iload_n 3, 1)) ∧ (decode cX12_asked 20 = .ok (.iconst 0, 1)) ∧ (decode cX12_asked 21 = .ok (.iconst 3, 1)) ∧ (decode cX12_asked 22 = .ok (.invokestatic 211, 3)) ∧ (decode cX12_asked 25 = .ok (.ifCond .eq 25, 3)) := by decide +kernel
theorem kd28_9 : (decode cX12_asked 28 = .ok (.iload 4, 2)) ∧ (decode cX12_asked 30 = .ok (.iconst 0, 1)) ∧ (decode cX12_asked 31 = .ok (.iconst 5, 1)) ∧ (decode cX12_asked 32 = .ok (.invokestatic 211, 3)) ∧ (decode cX12_asked 35 = .ok (.ifCond .eq 15, 3)) ∧ (decode cX12_asked 38 = .ok (.aload_n 0, 1)) ∧ (decode cX12_asked 39 = .ok (.iload_n 1, 1)) ∧ (decode cX12_asked 40 = .ok (.iload_n 2, 1)) ∧ (decode cX12_asked 41 = .ok (.iload_n 3, 1)) ∧ (decode cX12_asked 42 = .ok (.iload 4, 2)) ∧ (decode cX12_asked 44 = .ok (.invokevirtual 242, 3)) ∧ (decode cX12_asked 47 = .ok (.goto 4, 3)) := by decide +kernel
theorem kd28_10 : (decode cX12_asked 50 = .ok (.iconst (-1), 1)) ∧ (decode cX12_asked 51 = .ok (.ireturn, 1)) ∧ (decode cX12_askedOf 0 = .ok (.aload_n 0, 1)) ∧ (decode cX12_askedOf 1 = .ok (.getfield 38, 3)) ∧ (decode cX12_askedOf 4 = .ok (.iconst 4, 1)) ∧ (decode cX12_askedOf 5 = .ok (.iload_n 1, 1)) ∧ (decode cX12_askedOf 6 = .ok (.imul, 1)) ∧ (decode cX12_askedOf 7 = .ok (.iload_n 2, 1)) ∧ (decode cX12_askedOf 8 = .ok (.iadd, 1)) ∧ (decode cX12_askedOf 9 = .ok (.iaload, 1)) ∧ (decode cX12_askedOf 10 = .ok (.aload_n 0, 1)) ∧ (decode cX12_askedOf 11 = .ok (.getfield 41, 3)) := by decide +kernel
theorem kd28_11 : (decode cX12_askedOf 14 = .ok (.iload_n 3, 1)) ∧ (decode cX12_askedOf 15 = .ok (.iaload, 1)) ∧ (decode cX12_askedOf 16 = .ok (.imul, 1)) ∧ (decode cX12_askedOf 17 = .ok (.bipush 100, 2)) ∧ (decode cX12_askedOf 19 = .ok (.idiv, 1)) ∧ (decode cX12_askedOf 20 = .ok (.aload_n 0, 1)) ∧ (decode cX12_askedOf 21 = .ok (.getfield 44, 3)) ∧ (decode cX12_askedOf 24 = .ok (.iload 4, 2)) ∧ (decode cX12_askedOf 26 = .ok (.iaload, 1)) ∧ (decode cX12_askedOf 27 = .ok (.imul, 1)) ∧ (decode cX12_askedOf 28 = .ok (.bipush 100, 2)) ∧ (decode cX12_askedOf 30 = .ok (.idiv, 1)) := by decide +kernel
theorem kd28_12 : (decode cX12_askedOf 31 = .ok (.ireturn, 1)) ∧ (decode cX12_atom 0 = .ok (.aload_n 0, 1)) ∧ (decode cX12_atom 1 = .ok (.ldc2_w 287, 3)) ∧ (decode cX12_atom 4 = .ok (.bipush 115, 2)) ∧ (decode cX12_atom 6 = .ok (.bipush 99, 2)) ∧ (decode cX12_atom 8 = .ok (.bipush 104, 2)) ∧ (decode cX12_atom 10 = .ok (.bipush 111, 2)) ∧ (decode cX12_atom 12 = .ok (.bipush 111, 2)) ∧ (decode cX12_atom 14 = .ok (.invokestatic 297, 3)) ∧ (decode cX12_atom 17 = .ok (.lmul, 1)) ∧ (decode cX12_atom 18 = .ok (.ldc2_w 305, 3)) ∧ (decode cX12_atom 21 = .ok (.ladd, 1)) := by decide +kernel
theorem kd28_13 : (decode cX12_atom 22 = .ok (.invokevirtual 301, 3)) ∧ (decode cX12_atom 25 = .ok (.ifCond .eq 5, 3)) ∧ (decode cX12_atom 28 = .ok (.iconst 0, 1)) ∧ (decode cX12_atom 29 = .ok (.ireturn, 1)) ∧ (decode cX12_atom 30 = .ok (.aload_n 0, 1)) ∧ (decode cX12_atom 31 = .ok (.bipush 98, 2)) ∧ (decode cX12_atom 33 = .ok (.bipush 97, 2)) ∧ (decode cX12_atom 35 = .ok (.bipush 100, 2)) ∧ (decode cX12_atom 37 = .ok (.bipush 103, 2)) ∧ (decode cX12_atom 39 = .ok (.bipush 101, 2)) ∧ (decode cX12_atom 41 = .ok (.invokestatic 297, 3)) ∧ (decode cX12_atom 44 = .ok (.invokevirtual 301, 3)) := by decide +kernel
theorem kd28_14 : (decode cX12_atom 47 = .ok (.ifCond .eq 5, 3)) ∧ (decode cX12_atom 50 = .ok (.iconst 1, 1)) ∧ (decode cX12_atom 51 = .ok (.ireturn, 1)) ∧ (decode cX12_atom 52 = .ok (.aload_n 0, 1)) ∧ (decode cX12_atom 53 = .ok (.bipush 111, 2)) ∧ (decode cX12_atom 55 = .ok (.bipush 119, 2)) ∧ (decode cX12_atom 57 = .ok (.bipush 110, 2)) ∧ (decode cX12_atom 59 = .ok (.bipush 101, 2)) ∧ (decode cX12_atom 61 = .ok (.bipush 114, 2)) ∧ (decode cX12_atom 63 = .ok (.invokestatic 297, 3)) ∧ (decode cX12_atom 66 = .ok (.invokevirtual 301, 3)) ∧ (decode cX12_atom 69 = .ok (.ifCond .eq 5, 3)) := by decide +kernel
theorem kd28_15 : (decode cX12_atom 72 = .ok (.iconst 2, 1)) ∧ (decode cX12_atom 73 = .ok (.ireturn, 1)) ∧ (decode cX12_atom 74 = .ok (.aload_n 0, 1)) ∧ (decode cX12_atom 75 = .ok (.bipush 97, 2)) ∧ (decode cX12_atom 77 = .ok (.bipush 103, 2)) ∧ (decode cX12_atom 79 = .ok (.bipush 101, 2)) ∧ (decode cX12_atom 81 = .ok (.iconst 0, 1)) ∧ (decode cX12_atom 82 = .ok (.iconst 0, 1)) ∧ (decode cX12_atom 83 = .ok (.invokestatic 297, 3)) ∧ (decode cX12_atom 86 = .ok (.invokevirtual 301, 3)) ∧ (decode cX12_atom 89 = .ok (.ifCond .eq 5, 3)) ∧ (decode cX12_atom 92 = .ok (.iconst 3, 1)) := by decide +kernel
theorem kd28_16 : (decode cX12_atom 93 = .ok (.ireturn, 1)) ∧ (decode cX12_atom 94 = .ok (.aload_n 0, 1)) ∧ (decode cX12_atom 95 = .ok (.bipush 104, 2)) ∧ (decode cX12_atom 97 = .ok (.bipush 111, 2)) ∧ (decode cX12_atom 99 = .ok (.bipush 117, 2)) ∧ (decode cX12_atom 101 = .ok (.bipush 114, 2)) ∧ (decode cX12_atom 103 = .ok (.iconst 0, 1)) ∧ (decode cX12_atom 104 = .ok (.invokestatic 297, 3)) ∧ (decode cX12_atom 107 = .ok (.invokevirtual 301, 3)) ∧ (decode cX12_atom 110 = .ok (.ifCond .eq 5, 3)) ∧ (decode cX12_atom 113 = .ok (.iconst 4, 1)) ∧ (decode cX12_atom 114 = .ok (.ireturn, 1)) := by decide +kernel
theorem kd28_17 : (decode cX12_atom 115 = .ok (.aload_n 0, 1)) ∧ (decode cX12_atom 116 = .ok (.bipush 119, 2)) ∧ (decode cX12_atom 118 = .ok (.bipush 101, 2)) ∧ (decode cX12_atom 120 = .ok (.bipush 101, 2)) ∧ (decode cX12_atom 122 = .ok (.bipush 107, 2)) ∧ (decode cX12_atom 124 = .ok (.iconst 0, 1)) ∧ (decode cX12_atom 125 = .ok (.invokestatic 297, 3)) ∧ (decode cX12_atom 128 = .ok (.invokevirtual 301, 3)) ∧ (decode cX12_atom 131 = .ok (.ifCond .eq 5, 3)) ∧ (decode cX12_atom 134 = .ok (.iconst 5, 1)) ∧ (decode cX12_atom 135 = .ok (.ireturn, 1)) ∧ (decode cX12_atom 136 = .ok (.aload_n 0, 1)) := by decide +kernel
theorem kd28_18 : (decode cX12_atom 137 = .ok (.bipush 100, 2)) ∧ (decode cX12_atom 139 = .ok (.bipush 97, 2)) ∧ (decode cX12_atom 141 = .ok (.bipush 121, 2)) ∧ (decode cX12_atom 143 = .ok (.iconst 0, 1)) ∧ (decode cX12_atom 144 = .ok (.iconst 0, 1)) ∧ (decode cX12_atom 145 = .ok (.invokestatic 297, 3)) ∧ (decode cX12_atom 148 = .ok (.invokevirtual 301, 3)) ∧ (decode cX12_atom 151 = .ok (.ifCond .eq 6, 3)) ∧ (decode cX12_atom 154 = .ok (.bipush 6, 2)) ∧ (decode cX12_atom 156 = .ok (.ireturn, 1)) ∧ (decode cX12_atom 157 = .ok (.aload_n 0, 1)) ∧ (decode cX12_atom 158 = .ok (.bipush 112, 2)) := by decide +kernel
theorem kd28_19 : (decode cX12_atom 160 = .ok (.bipush 97, 2)) ∧ (decode cX12_atom 162 = .ok (.bipush 112, 2)) ∧ (decode cX12_atom 164 = .ok (.bipush 101, 2)) ∧ (decode cX12_atom 166 = .ok (.bipush 114, 2)) ∧ (decode cX12_atom 168 = .ok (.invokestatic 297, 3)) ∧ (decode cX12_atom 171 = .ok (.invokevirtual 301, 3)) ∧ (decode cX12_atom 174 = .ok (.ifCond .eq 6, 3)) ∧ (decode cX12_atom 177 = .ok (.bipush 7, 2)) ∧ (decode cX12_atom 179 = .ok (.ireturn, 1)) ∧ (decode cX12_atom 180 = .ok (.aload_n 0, 1)) ∧ (decode cX12_atom 181 = .ok (.ldc2_w 287, 3)) ∧ (decode cX12_atom 184 = .ok (.bipush 99, 2)) := by decide +kernel
theorem kd28_20 : (decode cX12_atom 186 = .ok (.bipush 111, 2)) ∧ (decode cX12_atom 188 = .ok (.bipush 114, 2)) ∧ (decode cX12_atom 190 = .ok (.bipush 110, 2)) ∧ (decode cX12_atom 192 = .ok (.bipush 101, 2)) ∧ (decode cX12_atom 194 = .ok (.invokestatic 297, 3)) ∧ (decode cX12_atom 197 = .ok (.lmul, 1)) ∧ (decode cX12_atom 198 = .ok (.ldc2_w 307, 3)) ∧ (decode cX12_atom 201 = .ok (.ladd, 1)) ∧ (decode cX12_atom 202 = .ok (.invokevirtual 301, 3)) ∧ (decode cX12_atom 205 = .ok (.ifCond .eq 6, 3)) ∧ (decode cX12_atom 208 = .ok (.bipush 8, 2)) ∧ (decode cX12_atom 210 = .ok (.ireturn, 1)) := by decide +kernel
theorem kd28_21 : (decode cX12_atom 211 = .ok (.aload_n 0, 1)) ∧ (decode cX12_atom 212 = .ok (.ldc2_w 287, 3)) ∧ (decode cX12_atom 215 = .ok (.bipush 99, 2)) ∧ (decode cX12_atom 217 = .ok (.bipush 111, 2)) ∧ (decode cX12_atom 219 = .ok (.bipush 112, 2)) ∧ (decode cX12_atom 221 = .ok (.bipush 105, 2)) ∧ (decode cX12_atom 223 = .ok (.bipush 101, 2)) ∧ (decode cX12_atom 225 = .ok (.invokestatic 297, 3)) ∧ (decode cX12_atom 228 = .ok (.lmul, 1)) ∧ (decode cX12_atom 229 = .ok (.ldc2_w 309, 3)) ∧ (decode cX12_atom 232 = .ok (.ladd, 1)) ∧ (decode cX12_atom 233 = .ok (.invokevirtual 301, 3)) := by decide +kernel
theorem kd28_22 : (decode cX12_atom 236 = .ok (.ifCond .eq 6, 3)) ∧ (decode cX12_atom 239 = .ok (.bipush 9, 2)) ∧ (decode cX12_atom 241 = .ok (.ireturn, 1)) ∧ (decode cX12_atom 242 = .ok (.aload_n 0, 1)) ∧ (decode cX12_atom 243 = .ok (.ldc2_w 287, 3)) ∧ (decode cX12_atom 246 = .ok (.ldc2_w 287, 3)) ∧ (decode cX12_atom 249 = .ok (.bipush 119, 2)) ∧ (decode cX12_atom 251 = .ok (.bipush 101, 2)) ∧ (decode cX12_atom 253 = .ok (.bipush 97, 2)) ∧ (decode cX12_atom 255 = .ok (.bipush 116, 2)) ∧ (decode cX12_atom 257 = .ok (.bipush 104, 2)) ∧ (decode cX12_atom 259 = .ok (.invokestatic 297, 3)) := by decide +kernel
theorem kd28_23 : (decode cX12_atom 262 = .ok (.lmul, 1)) ∧ (decode cX12_atom 263 = .ok (.ldc2_w 311, 3)) ∧ (decode cX12_atom 266 = .ok (.ladd, 1)) ∧ (decode cX12_atom 267 = .ok (.lmul, 1)) ∧ (decode cX12_atom 268 = .ok (.ldc2_w 307, 3)) ∧ (decode cX12_atom 271 = .ok (.ladd, 1)) ∧ (decode cX12_atom 272 = .ok (.invokevirtual 301, 3)) ∧ (decode cX12_atom 275 = .ok (.ifCond .eq 6, 3)) ∧ (decode cX12_atom 278 = .ok (.bipush 10, 2)) ∧ (decode cX12_atom 280 = .ok (.ireturn, 1)) ∧ (decode cX12_atom 281 = .ok (.aload_n 0, 1)) ∧ (decode cX12_atom 282 = .ok (.bipush 102, 2)) := by decide +kernel
theorem kd28_24 : (decode cX12_atom 284 = .ok (.bipush 105, 2)) ∧ (decode cX12_atom 286 = .ok (.bipush 115, 2)) ∧ (decode cX12_atom 288 = .ok (.bipush 116, 2)) ∧ (decode cX12_atom 290 = .ok (.bipush 115, 2)) ∧ (decode cX12_atom 292 = .ok (.invokestatic 297, 3)) ∧ (decode cX12_atom 295 = .ok (.invokevirtual 301, 3)) ∧ (decode cX12_atom 298 = .ok (.ifCond .eq 8, 3)) ∧ (decode cX12_atom 301 = .ok (.bipush 11, 2)) ∧ (decode cX12_atom 303 = .ok (.goto 4, 3)) ∧ (decode cX12_atom 306 = .ok (.iconst (-1), 1)) ∧ (decode cX12_atom 307 = .ok (.ireturn, 1)) ∧ (decode cX12_bad 0 = .ok (.aload_n 0, 1)) := by decide +kernel
theorem kd28_25 : (decode cX12_bad 1 = .ok (.aload_n 0, 1)) ∧ (decode cX12_bad 2 = .ok (.getfield 262, 3)) ∧ (decode cX12_bad 5 = .ok (.iconst 1, 1)) ∧ (decode cX12_bad 6 = .ok (.if_icmp .ne 7, 3)) ∧ (decode cX12_bad 9 = .ok (.iconst 1, 1)) ∧ (decode cX12_bad 10 = .ok (.goto 4, 3)) ∧ (decode cX12_bad 13 = .ok (.iload_n 1, 1)) ∧ (decode cX12_bad 14 = .ok (.putfield 291, 3)) ∧ (decode cX12_bad 17 = .ok (.aload_n 0, 1)) ∧ (decode cX12_bad 18 = .ok (.aload_n 0, 1)) ∧ (decode cX12_bad 19 = .ok (.getfield 259, 3)) ∧ (decode cX12_bad 22 = .ok (.putfield 294, 3)) := by decide +kernel
theorem kd28_26 : (decode cX12_bad 25 = .ok (.iconst 0, 1)) ∧ (decode cX12_bad 26 = .ok (.ireturn, 1)) ∧ (decode cX12_badge 0 = .ok (.aload_n 0, 1)) ∧ (decode cX12_badge 1 = .ok (.iconst 0, 1)) ∧ (decode cX12_badge 2 = .ok (.putfield 198, 3)) ∧ (decode cX12_badge 5 = .ok (.aload_n 0, 1)) ∧ (decode cX12_badge 6 = .ok (.iload_n 1, 1)) ∧ (decode cX12_badge 7 = .ok (.invokevirtual 215, 3)) ∧ (decode cX12_badge 10 = .ok (.ifCond .eq 14, 3)) ∧ (decode cX12_badge 13 = .ok (.iload_n 2, 1)) ∧ (decode cX12_badge 14 = .ok (.iconst (-1), 1)) ∧ (decode cX12_badge 15 = .ok (.sipush 399, 3)) := by decide +kernel
theorem kd28_27 : (decode cX12_badge 18 = .ok (.invokestatic 211, 3)) ∧ (decode cX12_badge 21 = .ok (.ifCond .ne 5, 3)) ∧ (decode cX12_badge 24 = .ok (.iconst 0, 1)) ∧ (decode cX12_badge 25 = .ok (.ireturn, 1)) ∧ (decode cX12_badge 26 = .ok (.aload_n 0, 1)) ∧ (decode cX12_badge 27 = .ok (.getfield 16, 3)) ∧ (decode cX12_badge 30 = .ok (.iload_n 1, 1)) ∧ (decode cX12_badge 31 = .ok (.iload_n 2, 1)) ∧ (decode cX12_badge 32 = .ok (.iastore, 1)) ∧ (decode cX12_badge 33 = .ok (.iconst 1, 1)) ∧ (decode cX12_badge 34 = .ok (.ireturn, 1)) ∧ (decode cX12_best 0 = .ok (.aload_n 0, 1)) := by decide +kernel
theorem kd28_28 : (decode cX12_best 1 = .ok (.iconst 0, 1)) ∧ (decode cX12_best 2 = .ok (.putfield 198, 3)) ∧ (decode cX12_best 5 = .ok (.aload_n 0, 1)) ∧ (decode cX12_best 6 = .ok (.invokevirtual 222, 3)) ∧ (decode cX12_best 9 = .ok (.istore 6, 2)) ∧ (decode cX12_best 11 = .ok (.iload 6, 2)) ∧ (decode cX12_best 13 = .ok (.bipush 10, 2)) ∧ (decode cX12_best 15 = .ok (.if_icmp .ne 51, 3)) ∧ (decode cX12_best 18 = .ok (.iload_n 1, 1)) ∧ (decode cX12_best 19 = .ok (.invokestatic 219, 3)) ∧ (decode cX12_best 22 = .ok (.ifCond .eq 44, 3)) ∧ (decode cX12_best 25 = .ok (.iload_n 2, 1)) := by decide +kernel
theorem kd28_29 : (decode cX12_best 26 = .ok (.invokestatic 236, 3)) ∧ (decode cX12_best 29 = .ok (.ifCond .eq 37, 3)) ∧ (decode cX12_best 32 = .ok (.iload_n 3, 1)) ∧ (decode cX12_best 33 = .ok (.iconst 0, 1)) ∧ (decode cX12_best 34 = .ok (.sipush 1000, 3)) ∧ (decode cX12_best 37 = .ok (.invokestatic 211, 3)) ∧ (decode cX12_best 40 = .ok (.ifCond .eq 26, 3)) ∧ (decode cX12_best 43 = .ok (.iload 4, 2)) ∧ (decode cX12_best 45 = .ok (.iconst 0, 1)) ∧ (decode cX12_best 46 = .ok (.sipush 1000, 3)) ∧ (decode cX12_best 49 = .ok (.invokestatic 211, 3)) ∧ (decode cX12_best 52 = .ok (.ifCond .eq 14, 3)) := by decide +kernel
theorem kd28_30 : (decode cX12_best 55 = .ok (.iload 5, 2)) ∧ (decode cX12_best 57 = .ok (.iconst 0, 1)) ∧ (decode cX12_best 58 = .ok (.bipush 100, 2)) ∧ (decode cX12_best 60 = .ok (.invokestatic 211, 3)) ∧ (decode cX12_best 63 = .ok (.ifCond .ne 5, 3)) ∧ (decode cX12_best 66 = .ok (.iconst (-1), 1)) ∧ (decode cX12_best 67 = .ok (.ireturn, 1)) ∧ (decode cX12_best 68 = .ok (.iconst 0, 1)) ∧ (decode cX12_best 69 = .ok (.istore 7, 2)) ∧ (decode cX12_best 71 = .ok (.iload 7, 2)) ∧ (decode cX12_best 73 = .ok (.iload 6, 2)) ∧ (decode cX12_best 75 = .ok (.if_icmp .ge 23, 3)) := by decide +kernel
theorem kd28_31 : (decode cX12_best 78 = .ok (.aload_n 0, 1)) ∧ (decode cX12_best 79 = .ok (.getfield 7, 3)) ∧ (decode cX12_best 82 = .ok (.iload 7, 2)) ∧ (decode cX12_best 84 = .ok (.iaload, 1)) ∧ (decode cX12_best 85 = .ok (.bipush 20, 2)) ∧ (decode cX12_best 87 = .ok (.if_icmp .le 5, 3)) ∧ (decode cX12_best 90 = .ok (.iconst (-1), 1)) ∧ (decode cX12_best 91 = .ok (.ireturn, 1)) ∧ (decode cX12_best 92 = .ok (.iinc 7 1, 3)) ∧ (decode cX12_best 95 = .ok (.goto (-24), 3)) ∧ (decode cX12_best 98 = .ok (.iconst 0, 1)) ∧ (decode cX12_best 99 = .ok (.istore 7, 2)) := by decide +kernel
theorem kd28_32 : (decode cX12_best 101 = .ok (.lconst 0, 1)) ∧ (decode cX12_best 102 = .ok (.lstore 8, 2)) ∧ (decode cX12_best 104 = .ok (.iconst 0, 1)) ∧ (decode cX12_best 105 = .ok (.istore 10, 2)) ∧ (decode cX12_best 107 = .ok (.iload 10, 2)) ∧ (decode cX12_best 109 = .ok (.sipush 400, 3)) ∧ (decode cX12_best 112 = .ok (.if_icmp .gt 157, 3)) ∧ (decode cX12_best 115 = .ok (.lconst 0, 1)) ∧ (decode cX12_best 116 = .ok (.lstore 11, 2)) ∧ (decode cX12_best 118 = .ok (.iconst 0, 1)) ∧ (decode cX12_best 119 = .ok (.istore 13, 2)) ∧ (decode cX12_best 121 = .ok (.iload 13, 2)) := by decide +kernel
theorem kd28_33 : (decode cX12_best 123 = .ok (.iconst 4, 1)) ∧ (decode cX12_best 124 = .ok (.if_icmp .ge 115, 3)) ∧ (decode cX12_best 127 = .ok (.iconst 0, 1)) ∧ (decode cX12_best 128 = .ok (.istore 14, 2)) ∧ (decode cX12_best 130 = .ok (.iload 14, 2)) ∧ (decode cX12_best 132 = .ok (.bipush 6, 2)) ∧ (decode cX12_best 134 = .ok (.if_icmp .ge 99, 3)) ∧ (decode cX12_best 137 = .ok (.aload_n 0, 1)) ∧ (decode cX12_best 138 = .ok (.iload_n 1, 1)) ∧ (decode cX12_best 139 = .ok (.iload_n 2, 1)) ∧ (decode cX12_best 140 = .ok (.iload 13, 2)) ∧ (decode cX12_best 142 = .ok (.iload 14, 2)) := by decide +kernel
theorem kd28_34 : (decode cX12_best 144 = .ok (.invokevirtual 242, 3)) ∧ (decode cX12_best 147 = .ok (.istore 15, 2)) ∧ (decode cX12_best 149 = .ok (.iload 10, 2)) ∧ (decode cX12_best 151 = .ok (.iload 15, 2)) ∧ (decode cX12_best 153 = .ok (.if_icmp .ge 8, 3)) ∧ (decode cX12_best 156 = .ok (.iload 10, 2)) ∧ (decode cX12_best 158 = .ok (.goto 5, 3)) ∧ (decode cX12_best 161 = .ok (.iload 15, 2)) ∧ (decode cX12_best 163 = .ok (.istore 16, 2)) ∧ (decode cX12_best 165 = .ok (.iload 4, 2)) ∧ (decode cX12_best 167 = .ok (.i2l, 1)) ∧ (decode cX12_best 168 = .ok (.iload 16, 2)) := by decide +kernel
theorem kd28_35 : (decode cX12_best 170 = .ok (.i2l, 1)) ∧ (decode cX12_best 171 = .ok (.lmul, 1)) ∧ (decode cX12_best 172 = .ok (.iload 10, 2)) ∧ (decode cX12_best 174 = .ok (.iload_n 3, 1)) ∧ (decode cX12_best 175 = .ok (.invokestatic 399, 3)) ∧ (decode cX12_best 178 = .ok (.i2l, 1)) ∧ (decode cX12_best 179 = .ok (.lsub, 1)) ∧ (decode cX12_best 180 = .ok (.iload 10, 2)) ∧ (decode cX12_best 182 = .ok (.iload 16, 2)) ∧ (decode cX12_best 184 = .ok (.isub, 1)) ∧ (decode cX12_best 185 = .ok (.iload 5, 2)) ∧ (decode cX12_best 187 = .ok (.imul, 1)) := by decide +kernel
theorem kd28_36 : (decode cX12_best 188 = .ok (.bipush 100, 2)) ∧ (decode cX12_best 190 = .ok (.idiv, 1)) ∧ (decode cX12_best 191 = .ok (.iload_n 3, 1)) ∧ (decode cX12_best 192 = .ok (.imul, 1)) ∧ (decode cX12_best 193 = .ok (.bipush 100, 2)) ∧ (decode cX12_best 195 = .ok (.idiv, 1)) ∧ (decode cX12_best 196 = .ok (.i2l, 1)) ∧ (decode cX12_best 197 = .ok (.ladd, 1)) ∧ (decode cX12_best 198 = .ok (.lstore 17, 2)) ∧ (decode cX12_best 200 = .ok (.lload 11, 2)) ∧ (decode cX12_best 202 = .ok (.lload 17, 2)) ∧ (decode cX12_best 204 = .ok (.aload_n 0, 1)) := by decide +kernel
theorem kd28_37 : (decode cX12_best 205 = .ok (.getfield 7, 3)) ∧ (decode cX12_best 208 = .ok (.iload 13, 2)) ∧ (decode cX12_best 210 = .ok (.iaload, 1)) ∧ (decode cX12_best 211 = .ok (.i2l, 1)) ∧ (decode cX12_best 212 = .ok (.lmul, 1)) ∧ (decode cX12_best 213 = .ok (.aload_n 0, 1)) ∧ (decode cX12_best 214 = .ok (.getfield 7, 3)) ∧ (decode cX12_best 217 = .ok (.iconst 4, 1)) ∧ (decode cX12_best 218 = .ok (.iload 14, 2)) ∧ (decode cX12_best 220 = .ok (.iadd, 1)) ∧ (decode cX12_best 221 = .ok (.iaload, 1)) ∧ (decode cX12_best 222 = .ok (.i2l, 1)) := by decide +kernel
theorem kd28_38 : (decode cX12_best 223 = .ok (.lmul, 1)) ∧ (decode cX12_best 224 = .ok (.ladd, 1)) ∧ (decode cX12_best 225 = .ok (.lstore 11, 2)) ∧ (decode cX12_best 227 = .ok (.iinc 14 1, 3)) ∧ (decode cX12_best 230 = .ok (.goto (-100), 3)) ∧ (decode cX12_best 233 = .ok (.iinc 13 1, 3)) ∧ (decode cX12_best 236 = .ok (.goto (-115), 3)) ∧ (decode cX12_best 239 = .ok (.iload 10, 2)) ∧ (decode cX12_best 241 = .ok (.ifCond .le 14, 3)) ∧ (decode cX12_best 244 = .ok (.lload 11, 2)) ∧ (decode cX12_best 246 = .ok (.lload 8, 2)) ∧ (decode cX12_best 248 = .ok (.lcmp, 1)) := by decide +kernel
theorem kd28_39 : (decode cX12_best 249 = .ok (.ifCond .gt 6, 3)) ∧ (decode cX12_best 252 = .ok (.goto 11, 3)) ∧ (decode cX12_best 255 = .ok (.lload 11, 2)) ∧ (decode cX12_best 257 = .ok (.lstore 8, 2)) ∧ (decode cX12_best 259 = .ok (.iload 10, 2)) ∧ (decode cX12_best 261 = .ok (.istore 7, 2)) ∧ (decode cX12_best 263 = .ok (.iinc 10 1, 3)) ∧ (decode cX12_best 266 = .ok (.goto (-159), 3)) ∧ (decode cX12_best 269 = .ok (.aload_n 0, 1)) ∧ (decode cX12_best 270 = .ok (.lload 8, 2)) ∧ (decode cX12_best 272 = .ok (.putfield 434, 3)) ∧ (decode cX12_best 275 = .ok (.iload 7, 2)) := by decide +kernel
theorem kd28_40 : (decode cX12_best 277 = .ok (.ireturn, 1)) ∧ (decode cX12_boy 0 = .ok (.aload_n 0, 1)) ∧ (decode cX12_boy 1 = .ok (.iconst 0, 1)) ∧ (decode cX12_boy 2 = .ok (.putfield 198, 3)) ∧ (decode cX12_boy 5 = .ok (.aload_n 0, 1)) ∧ (decode cX12_boy 6 = .ok (.getfield 208, 3)) ∧ (decode cX12_boy 9 = .ok (.bipush 40, 2)) ∧ (decode cX12_boy 11 = .ok (.if_icmp .eq 36, 3)) ∧ (decode cX12_boy 14 = .ok (.iload_n 1, 1)) ∧ (decode cX12_boy 15 = .ok (.bipush 6, 2)) ∧ (decode cX12_boy 17 = .ok (.bipush 18, 2)) ∧ (decode cX12_boy 19 = .ok (.invokestatic 211, 3)) := by decide +kernel
theorem kd28_41 : (decode cX12_boy 22 = .ok (.ifCond .eq 25, 3)) ∧ (decode cX12_boy 25 = .ok (.iload_n 3, 1)) ∧ (decode cX12_boy 26 = .ok (.iconst (-1), 1)) ∧ (decode cX12_boy 27 = .ok (.sipush 399, 3)) ∧ (decode cX12_boy 30 = .ok (.invokestatic 211, 3)) ∧ (decode cX12_boy 33 = .ok (.ifCond .eq 14, 3)) ∧ (decode cX12_boy 36 = .ok (.iload 4, 2)) ∧ (decode cX12_boy 38 = .ok (.iconst 0, 1)) ∧ (decode cX12_boy 39 = .ok (.bipush 99, 2)) ∧ (decode cX12_boy 41 = .ok (.invokestatic 211, 3)) ∧ (decode cX12_boy 44 = .ok (.ifCond .ne 5, 3)) ∧ (decode cX12_boy 47 = .ok (.iconst (-1), 1)) := by decide +kernel
theorem kd28_42 : (decode cX12_boy 48 = .ok (.ireturn, 1)) ∧ (decode cX12_boy 49 = .ok (.aload_n 0, 1)) ∧ (decode cX12_boy 50 = .ok (.getfield 13, 3)) ∧ (decode cX12_boy 53 = .ok (.aload_n 0, 1)) ∧ (decode cX12_boy 54 = .ok (.getfield 208, 3)) ∧ (decode cX12_boy 57 = .ok (.iload_n 1, 1)) ∧ (decode cX12_boy 58 = .ok (.iastore, 1)) ∧ (decode cX12_boy 59 = .ok (.aload_n 0, 1)) ∧ (decode cX12_boy 60 = .ok (.getfield 25, 3)) ∧ (decode cX12_boy 63 = .ok (.aload_n 0, 1)) ∧ (decode cX12_boy 64 = .ok (.getfield 208, 3)) ∧ (decode cX12_boy 67 = .ok (.iload_n 2, 1)) := by decide +kernel
theorem kd28_43 : (decode cX12_boy 68 = .ok (.bastore, 1)) ∧ (decode cX12_boy 69 = .ok (.aload_n 0, 1)) ∧ (decode cX12_boy 70 = .ok (.getfield 16, 3)) ∧ (decode cX12_boy 73 = .ok (.aload_n 0, 1)) ∧ (decode cX12_boy 74 = .ok (.getfield 208, 3)) ∧ (decode cX12_boy 77 = .ok (.iload_n 3, 1)) ∧ (decode cX12_boy 78 = .ok (.iastore, 1)) ∧ (decode cX12_boy 79 = .ok (.aload_n 0, 1)) ∧ (decode cX12_boy 80 = .ok (.getfield 19, 3)) ∧ (decode cX12_boy 83 = .ok (.aload_n 0, 1)) ∧ (decode cX12_boy 84 = .ok (.getfield 208, 3)) ∧ (decode cX12_boy 87 = .ok (.iload 4, 2)) := by decide +kernel
theorem kd28_44 : (decode cX12_boy 89 = .ok (.iastore, 1)) ∧ (decode cX12_boy 90 = .ok (.aload_n 0, 1)) ∧ (decode cX12_boy 91 = .ok (.dup, 1)) ∧ (decode cX12_boy 92 = .ok (.getfield 208, 3)) ∧ (decode cX12_boy 95 = .ok (.iconst 1, 1)) ∧ (decode cX12_boy 96 = .ok (.iadd, 1)) ∧ (decode cX12_boy 97 = .ok (.putfield 208, 3)) ∧ (decode cX12_boy 100 = .ok (.aload_n 0, 1)) ∧ (decode cX12_boy 101 = .ok (.getfield 208, 3)) ∧ (decode cX12_boy 104 = .ok (.iconst 1, 1)) ∧ (decode cX12_boy 105 = .ok (.isub, 1)) ∧ (decode cX12_boy 106 = .ok (.ireturn, 1)) := by decide +kernel
theorem kd28_45 : (decode cX12_byteAt 0 = .ok (.iload_n 1, 1)) ∧ (decode cX12_byteAt 1 = .ok (.aload_n 0, 1)) ∧ (decode cX12_byteAt 2 = .ok (.getfield 253, 3)) ∧ (decode cX12_byteAt 5 = .ok (.if_icmp .ge 12, 3)) ∧ (decode cX12_byteAt 8 = .ok (.aload_n 0, 1)) ∧ (decode cX12_byteAt 9 = .ok (.getfield 7, 3)) ∧ (decode cX12_byteAt 12 = .ok (.iload_n 1, 1)) ∧ (decode cX12_byteAt 13 = .ok (.iaload, 1)) ∧ (decode cX12_byteAt 14 = .ok (.goto 4, 3)) ∧ (decode cX12_byteAt 17 = .ok (.iconst 0, 1)) ∧ (decode cX12_byteAt 18 = .ok (.ireturn, 1)) ∧ (decode cX12_cameBack 0 = .ok (.iconst 0, 1)) := by decide +kernel
theorem kd28_46 : (decode cX12_cameBack 1 = .ok (.istore 4, 2)) ∧ (decode cX12_cameBack 3 = .ok (.iconst 0, 1)) ∧ (decode cX12_cameBack 4 = .ok (.istore 5, 2)) ∧ (decode cX12_cameBack 6 = .ok (.iload 5, 2)) ∧ (decode cX12_cameBack 8 = .ok (.aload_n 0, 1)) ∧ (decode cX12_cameBack 9 = .ok (.getfield 389, 3)) ∧ (decode cX12_cameBack 12 = .ok (.if_icmp .ge 54, 3)) ∧ (decode cX12_cameBack 15 = .ok (.aload_n 0, 1)) ∧ (decode cX12_cameBack 16 = .ok (.getfield 105, 3)) ∧ (decode cX12_cameBack 19 = .ok (.iload 5, 2)) ∧ (decode cX12_cameBack 21 = .ok (.iaload, 1)) ∧ (decode cX12_cameBack 22 = .ok (.iload_n 3, 1)) := by decide +kernel
theorem kd28_47 : (decode cX12_cameBack 23 = .ok (.if_icmp .ne 37, 3)) ∧ (decode cX12_cameBack 26 = .ok (.aload_n 0, 1)) ∧ (decode cX12_cameBack 27 = .ok (.getfield 93, 3)) ∧ (decode cX12_cameBack 30 = .ok (.iload 5, 2)) ∧ (decode cX12_cameBack 32 = .ok (.iaload, 1)) ∧ (decode cX12_cameBack 33 = .ok (.iload_n 1, 1)) ∧ (decode cX12_cameBack 34 = .ok (.if_icmp .ne 26, 3)) ∧ (decode cX12_cameBack 37 = .ok (.aload_n 0, 1)) ∧ (decode cX12_cameBack 38 = .ok (.getfield 96, 3)) ∧ (decode cX12_cameBack 41 = .ok (.iload 5, 2)) ∧ (decode cX12_cameBack 43 = .ok (.iaload, 1)) ∧ (decode cX12_cameBack 44 = .ok (.iload_n 2, 1)) := by decide +kernel
theorem kd28_48 : (decode cX12_cameBack 45 = .ok (.if_icmp .ne 15, 3)) ∧ (decode cX12_cameBack 48 = .ok (.iload 4, 2)) ∧ (decode cX12_cameBack 50 = .ok (.aload_n 0, 1)) ∧ (decode cX12_cameBack 51 = .ok (.getfield 114, 3)) ∧ (decode cX12_cameBack 54 = .ok (.iload 5, 2)) ∧ (decode cX12_cameBack 56 = .ok (.iaload, 1)) ∧ (decode cX12_cameBack 57 = .ok (.iadd, 1)) ∧ (decode cX12_cameBack 58 = .ok (.istore 4, 2)) ∧ (decode cX12_cameBack 60 = .ok (.iinc 5 1, 3)) ∧ (decode cX12_cameBack 63 = .ok (.goto (-57), 3)) ∧ (decode cX12_cameBack 66 = .ok (.iload 4, 2)) ∧ (decode cX12_cameBack 68 = .ok (.ireturn, 1)) := by decide +kernel
theorem kd28_49 : (decode cX12_coin 0 = .ok (.aload_n 0, 1)) ∧ (decode cX12_coin 1 = .ok (.iload_n 1, 1)) ∧ (decode cX12_coin 2 = .ok (.invokevirtual 215, 3)) ∧ (decode cX12_coin 5 = .ok (.ifCond .ne 8, 3)) ∧ (decode cX12_coin 8 = .ok (.aload_n 0, 1)) ∧ (decode cX12_coin 9 = .ok (.invokevirtual 418, 3)) ∧ (decode cX12_coin 12 = .ok (.ireturn, 1)) ∧ (decode cX12_coin 13 = .ok (.aload_n 0, 1)) ∧ (decode cX12_coin 14 = .ok (.iconst 0, 1)) ∧ (decode cX12_coin 15 = .ok (.putfield 198, 3)) ∧ (decode cX12_coin 18 = .ok (.aload_n 0, 1)) ∧ (decode cX12_coin 19 = .ok (.getfield 22, 3)) := by decide +kernel
theorem kd28_50 : (decode cX12_coin 22 = .ok (.iload_n 1, 1)) ∧ (decode cX12_coin 23 = .ok (.iaload, 1)) ∧ (decode cX12_coin 24 = .ok (.ireturn, 1)) ∧ (decode cX12_count 0 = .ok (.aload_n 0, 1)) ∧ (decode cX12_count 1 = .ok (.iconst 0, 1)) ∧ (decode cX12_count 2 = .ok (.putfield 198, 3)) ∧ (decode cX12_count 5 = .ok (.iload_n 1, 1)) ∧ (decode cX12_count 6 = .ok (.tableswitch 68 0 5 #[38, 43, 48, 53, 58, 63], 38)) ∧ (decode cX12_count 44 = .ok (.aload_n 0, 1)) ∧ (decode cX12_count 45 = .ok (.getfield 239, 3)) ∧ (decode cX12_count 48 = .ok (.ireturn, 1)) ∧ (decode cX12_count 49 = .ok (.aload_n 0, 1)) := by decide +kernel
theorem kd28_51 : (decode cX12_count 50 = .ok (.getfield 208, 3)) ∧ (decode cX12_count 53 = .ok (.ireturn, 1)) ∧ (decode cX12_count 54 = .ok (.aload_n 0, 1)) ∧ (decode cX12_count 55 = .ok (.getfield 389, 3)) ∧ (decode cX12_count 58 = .ok (.ireturn, 1)) ∧ (decode cX12_count 59 = .ok (.aload_n 0, 1)) ∧ (decode cX12_count 60 = .ok (.getfield 373, 3)) ∧ (decode cX12_count 63 = .ok (.ireturn, 1)) ∧ (decode cX12_count 64 = .ok (.aload_n 0, 1)) ∧ (decode cX12_count 65 = .ok (.getfield 421, 3)) ∧ (decode cX12_count 68 = .ok (.ireturn, 1)) ∧ (decode cX12_count 69 = .ok (.aload_n 0, 1)) := by decide +kernel
theorem kd28_52 : (decode cX12_count 70 = .ok (.getfield 201, 3)) ∧ (decode cX12_count 73 = .ok (.ireturn, 1)) ∧ (decode cX12_count 74 = .ok (.iconst (-1), 1)) ∧ (decode cX12_count 75 = .ok (.ireturn, 1)) ∧ (decode cX12_countOf 0 = .ok (.iconst (-1), 1)) ∧ (decode cX12_countOf 1 = .ok (.istore 5, 2)) ∧ (decode cX12_countOf 3 = .ok (.iconst 0, 1)) ∧ (decode cX12_countOf 4 = .ok (.istore 6, 2)) ∧ (decode cX12_countOf 6 = .ok (.iload 6, 2)) ∧ (decode cX12_countOf 8 = .ok (.aload_n 0, 1)) ∧ (decode cX12_countOf 9 = .ok (.getfield 421, 3)) ∧ (decode cX12_countOf 12 = .ok (.if_icmp .ge 58, 3)) := by decide +kernel
theorem kd28_53 : (decode cX12_countOf 15 = .ok (.aload_n 0, 1)) ∧ (decode cX12_countOf 16 = .ok (.getfield 147, 3)) ∧ (decode cX12_countOf 19 = .ok (.iload 6, 2)) ∧ (decode cX12_countOf 21 = .ok (.iaload, 1)) ∧ (decode cX12_countOf 22 = .ok (.iload 4, 2)) ∧ (decode cX12_countOf 24 = .ok (.if_icmp .gt 40, 3)) ∧ (decode cX12_countOf 27 = .ok (.aload_n 0, 1)) ∧ (decode cX12_countOf 28 = .ok (.getfield 135, 3)) ∧ (decode cX12_countOf 31 = .ok (.iload 6, 2)) ∧ (decode cX12_countOf 33 = .ok (.iaload, 1)) ∧ (decode cX12_countOf 34 = .ok (.iload_n 1, 1)) ∧ (decode cX12_countOf 35 = .ok (.if_icmp .ne 29, 3)) := by decide +kernel
theorem kd28_54 : (decode cX12_countOf 38 = .ok (.aload_n 0, 1)) ∧ (decode cX12_countOf 39 = .ok (.getfield 138, 3)) ∧ (decode cX12_countOf 42 = .ok (.iload 6, 2)) ∧ (decode cX12_countOf 44 = .ok (.iaload, 1)) ∧ (decode cX12_countOf 45 = .ok (.iload_n 2, 1)) ∧ (decode cX12_countOf 46 = .ok (.if_icmp .ne 18, 3)) ∧ (decode cX12_countOf 49 = .ok (.aload_n 0, 1)) ∧ (decode cX12_countOf 50 = .ok (.getfield 141, 3)) ∧ (decode cX12_countOf 53 = .ok (.iload 6, 2)) ∧ (decode cX12_countOf 55 = .ok (.iaload, 1)) ∧ (decode cX12_countOf 56 = .ok (.iload_n 3, 1)) ∧ (decode cX12_countOf 57 = .ok (.if_icmp .ne 7, 3)) := by decide +kernel
theorem kd28_55 : (decode cX12_countOf 60 = .ok (.iload 6, 2)) ∧ (decode cX12_countOf 62 = .ok (.istore 5, 2)) ∧ (decode cX12_countOf 64 = .ok (.iinc 6 1, 3)) ∧ (decode cX12_countOf 67 = .ok (.goto (-61), 3)) ∧ (decode cX12_countOf 70 = .ok (.iload 5, 2)) ∧ (decode cX12_countOf 72 = .ok (.ireturn, 1)) ∧ (decode cX12_counted 0 = .ok (.aload_n 0, 1)) ∧ (decode cX12_counted 1 = .ok (.iconst 0, 1)) ∧ (decode cX12_counted 2 = .ok (.putfield 198, 3)) ∧ (decode cX12_counted 5 = .ok (.aload_n 0, 1)) ∧ (decode cX12_counted 6 = .ok (.getfield 421, 3)) ∧ (decode cX12_counted 9 = .ok (.bipush 60, 2)) := by decide +kernel
theorem kd28_56 : (decode cX12_counted 11 = .ok (.if_icmp .eq 43, 3)) ∧ (decode cX12_counted 14 = .ok (.iload_n 1, 1)) ∧ (decode cX12_counted 15 = .ok (.invokestatic 236, 3)) ∧ (decode cX12_counted 18 = .ok (.ifCond .eq 36, 3)) ∧ (decode cX12_counted 21 = .ok (.iload_n 2, 1)) ∧ (decode cX12_counted 22 = .ok (.invokestatic 219, 3)) ∧ (decode cX12_counted 25 = .ok (.ifCond .eq 29, 3)) ∧ (decode cX12_counted 28 = .ok (.iload_n 3, 1)) ∧ (decode cX12_counted 29 = .ok (.iconst 0, 1)) ∧ (decode cX12_counted 30 = .ok (.aload_n 0, 1)) ∧ (decode cX12_counted 31 = .ok (.getfield 239, 3)) ∧ (decode cX12_counted 34 = .ok (.iconst 1, 1)) := by decide +kernel
theorem kd28_57 : (decode cX12_counted 35 = .ok (.isub, 1)) ∧ (decode cX12_counted 36 = .ok (.invokestatic 211, 3)) ∧ (decode cX12_counted 39 = .ok (.ifCond .eq 15, 3)) ∧ (decode cX12_counted 42 = .ok (.iload 4, 2)) ∧ (decode cX12_counted 44 = .ok (.iconst 0, 1)) ∧ (decode cX12_counted 45 = .ok (.sipush 10000, 3)) ∧ (decode cX12_counted 48 = .ok (.invokestatic 211, 3)) ∧ (decode cX12_counted 51 = .ok (.ifCond .ne 5, 3)) ∧ (decode cX12_counted 54 = .ok (.iconst (-1), 1)) ∧ (decode cX12_counted 55 = .ok (.ireturn, 1)) ∧ (decode cX12_counted 56 = .ok (.aload_n 0, 1)) ∧ (decode cX12_counted 57 = .ok (.getfield 135, 3)) := by decide +kernel
theorem kd28_58 : (decode cX12_counted 60 = .ok (.aload_n 0, 1)) ∧ (decode cX12_counted 61 = .ok (.getfield 421, 3)) ∧ (decode cX12_counted 64 = .ok (.iload_n 1, 1)) ∧ (decode cX12_counted 65 = .ok (.iastore, 1)) ∧ (decode cX12_counted 66 = .ok (.aload_n 0, 1)) ∧ (decode cX12_counted 67 = .ok (.getfield 138, 3)) ∧ (decode cX12_counted 70 = .ok (.aload_n 0, 1)) ∧ (decode cX12_counted 71 = .ok (.getfield 421, 3)) ∧ (decode cX12_counted 74 = .ok (.iload_n 2, 1)) ∧ (decode cX12_counted 75 = .ok (.iastore, 1)) ∧ (decode cX12_counted 76 = .ok (.aload_n 0, 1)) ∧ (decode cX12_counted 77 = .ok (.getfield 141, 3)) := by decide +kernel
theorem kd28_59 : (decode cX12_counted 80 = .ok (.aload_n 0, 1)) ∧ (decode cX12_counted 81 = .ok (.getfield 421, 3)) ∧ (decode cX12_counted 84 = .ok (.iload_n 3, 1)) ∧ (decode cX12_counted 85 = .ok (.iastore, 1)) ∧ (decode cX12_counted 86 = .ok (.aload_n 0, 1)) ∧ (decode cX12_counted 87 = .ok (.getfield 144, 3)) ∧ (decode cX12_counted 90 = .ok (.aload_n 0, 1)) ∧ (decode cX12_counted 91 = .ok (.getfield 421, 3)) ∧ (decode cX12_counted 94 = .ok (.iload 4, 2)) ∧ (decode cX12_counted 96 = .ok (.iastore, 1)) ∧ (decode cX12_counted 97 = .ok (.aload_n 0, 1)) ∧ (decode cX12_counted 98 = .ok (.getfield 147, 3)) := by decide +kernel
theorem kd28_60 : (decode cX12_counted 101 = .ok (.aload_n 0, 1)) ∧ (decode cX12_counted 102 = .ok (.getfield 421, 3)) ∧ (decode cX12_counted 105 = .ok (.aload_n 0, 1)) ∧ (decode cX12_counted 106 = .ok (.getfield 239, 3)) ∧ (decode cX12_counted 109 = .ok (.iastore, 1)) ∧ (decode cX12_counted 110 = .ok (.aload_n 0, 1)) ∧ (decode cX12_counted 111 = .ok (.dup, 1)) ∧ (decode cX12_counted 112 = .ok (.getfield 421, 3)) ∧ (decode cX12_counted 115 = .ok (.iconst 1, 1)) ∧ (decode cX12_counted 116 = .ok (.iadd, 1)) ∧ (decode cX12_counted 117 = .ok (.putfield 421, 3)) ∧ (decode cX12_counted 120 = .ok (.aload_n 0, 1)) := by decide +kernel
theorem kd28_61 : (decode cX12_counted 121 = .ok (.getfield 421, 3)) ∧ (decode cX12_counted 124 = .ok (.iconst 1, 1)) ∧ (decode cX12_counted 125 = .ok (.isub, 1)) ∧ (decode cX12_counted 126 = .ok (.ireturn, 1)) ∧ (decode cX12_expected 0 = .ok (.aload_n 0, 1)) ∧ (decode cX12_expected 1 = .ok (.iconst 0, 1)) ∧ (decode cX12_expected 2 = .ok (.putfield 198, 3)) ∧ (decode cX12_expected 5 = .ok (.aload_n 0, 1)) ∧ (decode cX12_expected 6 = .ok (.getfield 434, 3)) ∧ (decode cX12_expected 9 = .ok (.lreturn, 1)) ∧ (decode cX12_falseCounts 0 = .ok (.aload_n 0, 1)) ∧ (decode cX12_falseCounts 1 = .ok (.iconst 0, 1)) := by decide +kernel
theorem kd28_62 : (decode cX12_falseCounts 2 = .ok (.putfield 198, 3)) ∧ (decode cX12_falseCounts 5 = .ok (.iconst 0, 1)) ∧ (decode cX12_falseCounts 6 = .ok (.istore_n 2, 1)) ∧ (decode cX12_falseCounts 7 = .ok (.iconst 0, 1)) ∧ (decode cX12_falseCounts 8 = .ok (.istore_n 3, 1)) ∧ (decode cX12_falseCounts 9 = .ok (.iload_n 3, 1)) ∧ (decode cX12_falseCounts 10 = .ok (.aload_n 0, 1)) ∧ (decode cX12_falseCounts 11 = .ok (.getfield 421, 3)) ∧ (decode cX12_falseCounts 14 = .ok (.if_icmp .ge 70, 3)) ∧ (decode cX12_falseCounts 17 = .ok (.aload_n 0, 1)) ∧ (decode cX12_falseCounts 18 = .ok (.getfield 135, 3)) ∧ (decode cX12_falseCounts 21 = .ok (.iload_n 3, 1)) := by decide +kernel
theorem kd28_63 : (decode cX12_falseCounts 22 = .ok (.iaload, 1)) ∧ (decode cX12_falseCounts 23 = .ok (.istore 4, 2)) ∧ (decode cX12_falseCounts 25 = .ok (.aload_n 0, 1)) ∧ (decode cX12_falseCounts 26 = .ok (.getfield 138, 3)) ∧ (decode cX12_falseCounts 29 = .ok (.iload_n 3, 1)) ∧ (decode cX12_falseCounts 30 = .ok (.iaload, 1)) ∧ (decode cX12_falseCounts 31 = .ok (.istore 5, 2)) ∧ (decode cX12_falseCounts 33 = .ok (.aload_n 0, 1)) ∧ (decode cX12_falseCounts 34 = .ok (.getfield 141, 3)) ∧ (decode cX12_falseCounts 37 = .ok (.iload_n 3, 1)) ∧ (decode cX12_falseCounts 38 = .ok (.iaload, 1)) ∧ (decode cX12_falseCounts 39 = .ok (.istore 6, 2)) := by decide +kernel
theorem kd28_64 : (decode cX12_falseCounts 41 = .ok (.aload_n 0, 1)) ∧ (decode cX12_falseCounts 42 = .ok (.iload 4, 2)) ∧ (decode cX12_falseCounts 44 = .ok (.iload 5, 2)) ∧ (decode cX12_falseCounts 46 = .ok (.iload 6, 2)) ∧ (decode cX12_falseCounts 48 = .ok (.iload_n 1, 1)) ∧ (decode cX12_falseCounts 49 = .ok (.invokevirtual 424, 3)) ∧ (decode cX12_falseCounts 52 = .ok (.iload_n 3, 1)) ∧ (decode cX12_falseCounts 53 = .ok (.if_icmp .ne 25, 3)) ∧ (decode cX12_falseCounts 56 = .ok (.aload_n 0, 1)) ∧ (decode cX12_falseCounts 57 = .ok (.getfield 144, 3)) ∧ (decode cX12_falseCounts 60 = .ok (.iload_n 3, 1)) ∧ (decode cX12_falseCounts 61 = .ok (.iaload, 1)) := by decide +kernel
theorem kd28_65 : (decode cX12_falseCounts 62 = .ok (.aload_n 0, 1)) ∧ (decode cX12_falseCounts 63 = .ok (.iload 4, 2)) ∧ (decode cX12_falseCounts 65 = .ok (.iload 5, 2)) ∧ (decode cX12_falseCounts 67 = .ok (.iload 6, 2)) ∧ (decode cX12_falseCounts 69 = .ok (.invokevirtual 427, 3)) ∧ (decode cX12_falseCounts 72 = .ok (.if_icmp .le 6, 3)) ∧ (decode cX12_falseCounts 75 = .ok (.iinc 2 1, 3)) ∧ (decode cX12_falseCounts 78 = .ok (.iinc 3 1, 3)) ∧ (decode cX12_falseCounts 81 = .ok (.goto (-72), 3)) ∧ (decode cX12_falseCounts 84 = .ok (.iload_n 2, 1)) ∧ (decode cX12_falseCounts 85 = .ok (.ireturn, 1)) ∧ (decode cX12_fault 0 = .ok (.aload_n 0, 1)) := by decide +kernel
theorem kd28_66 : (decode cX12_fault 1 = .ok (.iconst 0, 1)) ∧ (decode cX12_fault 2 = .ok (.putfield 198, 3)) ∧ (decode cX12_fault 5 = .ok (.aload_n 0, 1)) ∧ (decode cX12_fault 6 = .ok (.getfield 291, 3)) ∧ (decode cX12_fault 9 = .ok (.ireturn, 1)) ∧ (decode cX12_firstAt 0 = .ok (.iconst (-1), 1)) ∧ (decode cX12_firstAt 1 = .ok (.istore_n 3, 1)) ∧ (decode cX12_firstAt 2 = .ok (.iconst 0, 1)) ∧ (decode cX12_firstAt 3 = .ok (.istore 4, 2)) ∧ (decode cX12_firstAt 5 = .ok (.iload 4, 2)) ∧ (decode cX12_firstAt 7 = .ok (.aload_n 0, 1)) ∧ (decode cX12_firstAt 8 = .ok (.getfield 389, 3)) := by decide +kernel
theorem kd28_67 : (decode cX12_firstAt 11 = .ok (.if_icmp .ge 59, 3)) ∧ (decode cX12_firstAt 14 = .ok (.aload_n 0, 1)) ∧ (decode cX12_firstAt 15 = .ok (.getfield 129, 3)) ∧ (decode cX12_firstAt 18 = .ok (.iload 4, 2)) ∧ (decode cX12_firstAt 20 = .ok (.baload, 1)) ∧ (decode cX12_firstAt 21 = .ok (.ifCond .ne 43, 3)) ∧ (decode cX12_firstAt 24 = .ok (.aload_n 0, 1)) ∧ (decode cX12_firstAt 25 = .ok (.getfield 96, 3)) ∧ (decode cX12_firstAt 28 = .ok (.iload 4, 2)) ∧ (decode cX12_firstAt 30 = .ok (.iaload, 1)) ∧ (decode cX12_firstAt 31 = .ok (.iload_n 1, 1)) ∧ (decode cX12_firstAt 32 = .ok (.if_icmp .ne 32, 3)) := by decide +kernel
theorem kd28_68 : (decode cX12_firstAt 35 = .ok (.aload_n 0, 1)) ∧ (decode cX12_firstAt 36 = .ok (.getfield 93, 3)) ∧ (decode cX12_firstAt 39 = .ok (.iload 4, 2)) ∧ (decode cX12_firstAt 41 = .ok (.iaload, 1)) ∧ (decode cX12_firstAt 42 = .ok (.iload_n 2, 1)) ∧ (decode cX12_firstAt 43 = .ok (.if_icmp .ne 21, 3)) ∧ (decode cX12_firstAt 46 = .ok (.iload_n 3, 1)) ∧ (decode cX12_firstAt 47 = .ok (.iconst (-1), 1)) ∧ (decode cX12_firstAt 48 = .ok (.if_icmp .eq 13, 3)) ∧ (decode cX12_firstAt 51 = .ok (.aload_n 0, 1)) ∧ (decode cX12_firstAt 52 = .ok (.iload 4, 2)) ∧ (decode cX12_firstAt 54 = .ok (.iload_n 3, 1)) := by decide +kernel
theorem kd28_69 : (decode cX12_firstAt 55 = .ok (.invokevirtual 408, 3)) ∧ (decode cX12_firstAt 58 = .ok (.ifCond .eq 6, 3)) ∧ (decode cX12_firstAt 61 = .ok (.iload 4, 2)) ∧ (decode cX12_firstAt 63 = .ok (.istore_n 3, 1)) ∧ (decode cX12_firstAt 64 = .ok (.iinc 4 1, 3)) ∧ (decode cX12_firstAt 67 = .ok (.goto (-62), 3)) ∧ (decode cX12_firstAt 70 = .ok (.iload_n 3, 1)) ∧ (decode cX12_firstAt 71 = .ok (.ireturn, 1)) ∧ (decode cX12_go 0 = .ok (.aload_n 0, 1)) ∧ (decode cX12_go 1 = .ok (.getfield 256, 3)) ∧ (decode cX12_go 4 = .ok (.aload_n 0, 1)) ∧ (decode cX12_go 5 = .ok (.getfield 253, 3)) := by decide +kernel
theorem kd28_70 : (decode cX12_go 8 = .ok (.if_icmp .ge 44, 3)) ∧ (decode cX12_go 11 = .ok (.aload_n 0, 1)) ∧ (decode cX12_go 12 = .ok (.getfield 7, 3)) ∧ (decode cX12_go 15 = .ok (.aload_n 0, 1)) ∧ (decode cX12_go 16 = .ok (.getfield 256, 3)) ∧ (decode cX12_go 19 = .ok (.iaload, 1)) ∧ (decode cX12_go 20 = .ok (.bipush 32, 2)) ∧ (decode cX12_go 22 = .ok (.if_icmp .eq 17, 3)) ∧ (decode cX12_go 25 = .ok (.aload_n 0, 1)) ∧ (decode cX12_go 26 = .ok (.getfield 7, 3)) ∧ (decode cX12_go 29 = .ok (.aload_n 0, 1)) ∧ (decode cX12_go 30 = .ok (.getfield 256, 3)) := by decide +kernel
theorem kd28_71 : (decode cX12_go 33 = .ok (.iaload, 1)) ∧ (decode cX12_go 34 = .ok (.bipush 10, 2)) ∧ (decode cX12_go 36 = .ok (.if_icmp .ne 16, 3)) ∧ (decode cX12_go 39 = .ok (.aload_n 0, 1)) ∧ (decode cX12_go 40 = .ok (.dup, 1)) ∧ (decode cX12_go 41 = .ok (.getfield 256, 3)) ∧ (decode cX12_go 44 = .ok (.iconst 1, 1)) ∧ (decode cX12_go 45 = .ok (.iadd, 1)) ∧ (decode cX12_go 46 = .ok (.putfield 256, 3)) ∧ (decode cX12_go 49 = .ok (.goto (-49), 3)) ∧ (decode cX12_go 52 = .ok (.aload_n 0, 1)) ∧ (decode cX12_go 53 = .ok (.aload_n 0, 1)) := by decide +kernel
theorem kd28_72 : (decode cX12_go 54 = .ok (.getfield 256, 3)) ∧ (decode cX12_go 57 = .ok (.putfield 259, 3)) ∧ (decode cX12_go 60 = .ok (.aload_n 0, 1)) ∧ (decode cX12_go 61 = .ok (.getfield 253, 3)) ∧ (decode cX12_go 64 = .ok (.sipush 300, 3)) ∧ (decode cX12_go 67 = .ok (.if_icmp .le 26, 3)) ∧ (decode cX12_go 70 = .ok (.aload_n 0, 1)) ∧ (decode cX12_go 71 = .ok (.getfield 259, 3)) ∧ (decode cX12_go 74 = .ok (.sipush 300, 3)) ∧ (decode cX12_go 77 = .ok (.if_icmp .lt 16, 3)) ∧ (decode cX12_go 80 = .ok (.aload_n 0, 1)) ∧ (decode cX12_go 81 = .ok (.sipush 300, 3)) := by decide +kernel
theorem kd28_73 : (decode cX12_go 84 = .ok (.putfield 259, 3)) ∧ (decode cX12_go 87 = .ok (.aload_n 0, 1)) ∧ (decode cX12_go 88 = .ok (.iconst 1, 1)) ∧ (decode cX12_go 89 = .ok (.putfield 262, 3)) ∧ (decode cX12_go 92 = .ok (.return_, 1)) ∧ (decode cX12_go 93 = .ok (.aload_n 0, 1)) ∧ (decode cX12_go 94 = .ok (.getfield 256, 3)) ∧ (decode cX12_go 97 = .ok (.aload_n 0, 1)) ∧ (decode cX12_go 98 = .ok (.getfield 253, 3)) ∧ (decode cX12_go 101 = .ok (.if_icmp .lt 9, 3)) ∧ (decode cX12_go 104 = .ok (.aload_n 0, 1)) ∧ (decode cX12_go 105 = .ok (.iconst 0, 1)) := by decide +kernel
theorem kd28_74 : (decode cX12_go 106 = .ok (.putfield 262, 3)) ∧ (decode cX12_go 109 = .ok (.return_, 1)) ∧ (decode cX12_go 110 = .ok (.aload_n 0, 1)) ∧ (decode cX12_go 111 = .ok (.getfield 7, 3)) ∧ (decode cX12_go 114 = .ok (.aload_n 0, 1)) ∧ (decode cX12_go 115 = .ok (.getfield 256, 3)) ∧ (decode cX12_go 118 = .ok (.iaload, 1)) ∧ (decode cX12_go 119 = .ok (.istore_n 1, 1)) ∧ (decode cX12_go 120 = .ok (.iload_n 1, 1)) ∧ (decode cX12_go 121 = .ok (.invokestatic 265, 3)) ∧ (decode cX12_go 124 = .ok (.ifCond .ne 42, 3)) ∧ (decode cX12_go 127 = .ok (.iload_n 1, 1)) := by decide +kernel
theorem kd28_75 : (decode cX12_go 128 = .ok (.invokestatic 268, 3)) ∧ (decode cX12_go 131 = .ok (.ifCond .ne 35, 3)) ∧ (decode cX12_go 134 = .ok (.aload_n 0, 1)) ∧ (decode cX12_go 135 = .ok (.iload_n 1, 1)) ∧ (decode cX12_go 136 = .ok (.invokestatic 271, 3)) ∧ (decode cX12_go 139 = .ok (.ifCond .eq 7, 3)) ∧ (decode cX12_go 142 = .ok (.iconst 4, 1)) ∧ (decode cX12_go 143 = .ok (.goto 4, 3)) ∧ (decode cX12_go 146 = .ok (.iconst 1, 1)) ∧ (decode cX12_go 147 = .ok (.putfield 262, 3)) ∧ (decode cX12_go 150 = .ok (.aload_n 0, 1)) ∧ (decode cX12_go 151 = .ok (.iload_n 1, 1)) := by decide +kernel
theorem kd28_76 : (decode cX12_go 152 = .ok (.putfield 274, 3)) ∧ (decode cX12_go 155 = .ok (.aload_n 0, 1)) ∧ (decode cX12_go 156 = .ok (.dup, 1)) ∧ (decode cX12_go 157 = .ok (.getfield 256, 3)) ∧ (decode cX12_go 160 = .ok (.iconst 1, 1)) ∧ (decode cX12_go 161 = .ok (.iadd, 1)) ∧ (decode cX12_go 162 = .ok (.putfield 256, 3)) ∧ (decode cX12_go 165 = .ok (.return_, 1)) ∧ (decode cX12_go 166 = .ok (.iload_n 1, 1)) ∧ (decode cX12_go 167 = .ok (.invokestatic 265, 3)) ∧ (decode cX12_go 170 = .ok (.istore_n 2, 1)) ∧ (decode cX12_go 171 = .ok (.iconst 1, 1)) := by decide +kernel
theorem kd28_77 : (decode cX12_go 172 = .ok (.istore_n 3, 1)) ∧ (decode cX12_go 173 = .ok (.aload_n 0, 1)) ∧ (decode cX12_go 174 = .ok (.lconst 0, 1)) ∧ (decode cX12_go 175 = .ok (.putfield 277, 3)) ∧ (decode cX12_go 178 = .ok (.aload_n 0, 1)) ∧ (decode cX12_go 179 = .ok (.iconst 0, 1)) ∧ (decode cX12_go 180 = .ok (.putfield 281, 3)) ∧ (decode cX12_go 183 = .ok (.aload_n 0, 1)) ∧ (decode cX12_go 184 = .ok (.aload_n 0, 1)) ∧ (decode cX12_go 185 = .ok (.getfield 256, 3)) ∧ (decode cX12_go 188 = .ok (.invokevirtual 284, 3)) ∧ (decode cX12_go 191 = .ok (.invokestatic 265, 3)) := by decide +kernel
theorem kd28_78 : (decode cX12_go 194 = .ok (.ifCond .ne 17, 3)) ∧ (decode cX12_go 197 = .ok (.aload_n 0, 1)) ∧ (decode cX12_go 198 = .ok (.aload_n 0, 1)) ∧ (decode cX12_go 199 = .ok (.getfield 256, 3)) ∧ (decode cX12_go 202 = .ok (.invokevirtual 284, 3)) ∧ (decode cX12_go 205 = .ok (.invokestatic 268, 3)) ∧ (decode cX12_go 208 = .ok (.ifCond .eq 110, 3)) ∧ (decode cX12_go 211 = .ok (.aload_n 0, 1)) ∧ (decode cX12_go 212 = .ok (.getfield 7, 3)) ∧ (decode cX12_go 215 = .ok (.aload_n 0, 1)) ∧ (decode cX12_go 216 = .ok (.getfield 256, 3)) ∧ (decode cX12_go 219 = .ok (.iaload, 1)) := by decide +kernel
theorem kd28_79 : (decode cX12_go 220 = .ok (.istore 4, 2)) ∧ (decode cX12_go 222 = .ok (.iload_n 3, 1)) ∧ (decode cX12_go 223 = .ok (.ifCond .eq 16, 3)) ∧ (decode cX12_go 226 = .ok (.iload 4, 2)) ∧ (decode cX12_go 228 = .ok (.invokestatic 265, 3)) ∧ (decode cX12_go 231 = .ok (.iload_n 2, 1)) ∧ (decode cX12_go 232 = .ok (.if_icmp .ne 7, 3)) ∧ (decode cX12_go 235 = .ok (.iconst 1, 1)) ∧ (decode cX12_go 236 = .ok (.goto 4, 3)) ∧ (decode cX12_go 239 = .ok (.iconst 0, 1)) ∧ (decode cX12_go 240 = .ok (.istore_n 3, 1)) ∧ (decode cX12_go 241 = .ok (.aload_n 0, 1)) := by decide +kernel
theorem kd28_80 : (decode cX12_go 242 = .ok (.getfield 256, 3)) ∧ (decode cX12_go 245 = .ok (.aload_n 0, 1)) ∧ (decode cX12_go 246 = .ok (.getfield 259, 3)) ∧ (decode cX12_go 249 = .ok (.isub, 1)) ∧ (decode cX12_go 250 = .ok (.bipush 8, 2)) ∧ (decode cX12_go 252 = .ok (.if_icmp .ge 23, 3)) ∧ (decode cX12_go 255 = .ok (.aload_n 0, 1)) ∧ (decode cX12_go 256 = .ok (.ldc2_w 287, 3)) ∧ (decode cX12_go 259 = .ok (.aload_n 0, 1)) ∧ (decode cX12_go 260 = .ok (.getfield 277, 3)) ∧ (decode cX12_go 263 = .ok (.lmul, 1)) ∧ (decode cX12_go 264 = .ok (.iload 4, 2)) := by decide +kernel
theorem kd28_81 : (decode cX12_go 266 = .ok (.i2l, 1)) ∧ (decode cX12_go 267 = .ok (.ladd, 1)) ∧ (decode cX12_go 268 = .ok (.ldc2_w 289, 3)) ∧ (decode cX12_go 271 = .ok (.lsub, 1)) ∧ (decode cX12_go 272 = .ok (.putfield 277, 3)) ∧ (decode cX12_go 275 = .ok (.aload_n 0, 1)) ∧ (decode cX12_go 276 = .ok (.getfield 256, 3)) ∧ (decode cX12_go 279 = .ok (.aload_n 0, 1)) ∧ (decode cX12_go 280 = .ok (.getfield 259, 3)) ∧ (decode cX12_go 283 = .ok (.isub, 1)) ∧ (decode cX12_go 284 = .ok (.iconst 4, 1)) ∧ (decode cX12_go 285 = .ok (.if_icmp .ge 20, 3)) := by decide +kernel
theorem kd28_82 : (decode cX12_go 288 = .ok (.aload_n 0, 1)) ∧ (decode cX12_go 289 = .ok (.bipush 10, 2)) ∧ (decode cX12_go 291 = .ok (.aload_n 0, 1)) ∧ (decode cX12_go 292 = .ok (.getfield 281, 3)) ∧ (decode cX12_go 295 = .ok (.imul, 1)) ∧ (decode cX12_go 296 = .ok (.iload 4, 2)) ∧ (decode cX12_go 298 = .ok (.iadd, 1)) ∧ (decode cX12_go 299 = .ok (.bipush 48, 2)) ∧ (decode cX12_go 301 = .ok (.isub, 1)) ∧ (decode cX12_go 302 = .ok (.putfield 281, 3)) ∧ (decode cX12_go 305 = .ok (.aload_n 0, 1)) ∧ (decode cX12_go 306 = .ok (.dup, 1)) := by decide +kernel
theorem kd28_83 : (decode cX12_go 307 = .ok (.getfield 256, 3)) ∧ (decode cX12_go 310 = .ok (.iconst 1, 1)) ∧ (decode cX12_go 311 = .ok (.iadd, 1)) ∧ (decode cX12_go 312 = .ok (.putfield 256, 3)) ∧ (decode cX12_go 315 = .ok (.goto (-132), 3)) ∧ (decode cX12_go 318 = .ok (.aload_n 0, 1)) ∧ (decode cX12_go 319 = .ok (.iload_n 3, 1)) ∧ (decode cX12_go 320 = .ok (.ifCond .eq 25, 3)) ∧ (decode cX12_go 323 = .ok (.aload_n 0, 1)) ∧ (decode cX12_go 324 = .ok (.getfield 256, 3)) ∧ (decode cX12_go 327 = .ok (.aload_n 0, 1)) ∧ (decode cX12_go 328 = .ok (.getfield 259, 3)) := by decide +kernel
theorem kd28_84 : (decode cX12_go 331 = .ok (.isub, 1)) ∧ (decode cX12_go 332 = .ok (.iload_n 2, 1)) ∧ (decode cX12_go 333 = .ok (.ifCond .eq 8, 3)) ∧ (decode cX12_go 336 = .ok (.bipush 8, 2)) ∧ (decode cX12_go 338 = .ok (.goto 4, 3)) ∧ (decode cX12_go 341 = .ok (.iconst 4, 1)) ∧ (decode cX12_go 342 = .ok (.if_icmp .le 7, 3)) ∧ (decode cX12_go 345 = .ok (.iconst 1, 1)) ∧ (decode cX12_go 346 = .ok (.goto 12, 3)) ∧ (decode cX12_go 349 = .ok (.iload_n 2, 1)) ∧ (decode cX12_go 350 = .ok (.ifCond .eq 7, 3)) ∧ (decode cX12_go 353 = .ok (.iconst 2, 1)) := by decide +kernel
theorem kd28_85 : (decode cX12_go 354 = .ok (.goto 4, 3)) ∧ (decode cX12_go 357 = .ok (.iconst 3, 1)) ∧ (decode cX12_go 358 = .ok (.putfield 262, 3)) ∧ (decode cX12_go 361 = .ok (.return_, 1)) ∧ (decode cX12_headline 0 = .ok (.aload_n 0, 1)) ∧ (decode cX12_headline 1 = .ok (.iconst 0, 1)) ∧ (decode cX12_headline 2 = .ok (.putfield 198, 3)) ∧ (decode cX12_headline 5 = .ok (.iload_n 1, 1)) ∧ (decode cX12_headline 6 = .ok (.invokestatic 236, 3)) ∧ (decode cX12_headline 9 = .ok (.ifCond .eq 26, 3)) ∧ (decode cX12_headline 12 = .ok (.iload_n 2, 1)) ∧ (decode cX12_headline 13 = .ok (.aload_n 0, 1)) := by decide +kernel
theorem kd28_86 : (decode cX12_headline 14 = .ok (.getfield 239, 3)) ∧ (decode cX12_headline 17 = .ok (.sipush 399, 3)) ∧ (decode cX12_headline 20 = .ok (.invokestatic 211, 3)) ∧ (decode cX12_headline 23 = .ok (.ifCond .eq 12, 3)) ∧ (decode cX12_headline 26 = .ok (.iload_n 3, 1)) ∧ (decode cX12_headline 27 = .ok (.iconst 0, 1)) ∧ (decode cX12_headline 28 = .ok (.iconst 5, 1)) ∧ (decode cX12_headline 29 = .ok (.invokestatic 211, 3)) ∧ (decode cX12_headline 32 = .ok (.ifCond .ne 5, 3)) ∧ (decode cX12_headline 35 = .ok (.iconst 0, 1)) ∧ (decode cX12_headline 36 = .ok (.ireturn, 1)) ∧ (decode cX12_headline 37 = .ok (.aload_n 0, 1)) := by decide +kernel
theorem kd28_87 : (decode cX12_headline 38 = .ok (.getfield 35, 3)) ∧ (decode cX12_headline 41 = .ok (.sipush 400, 3)) ∧ (decode cX12_headline 44 = .ok (.iload_n 1, 1)) ∧ (decode cX12_headline 45 = .ok (.imul, 1)) ∧ (decode cX12_headline 46 = .ok (.iload_n 2, 1)) ∧ (decode cX12_headline 47 = .ok (.iadd, 1)) ∧ (decode cX12_headline 48 = .ok (.iload_n 3, 1)) ∧ (decode cX12_headline 49 = .ok (.iastore, 1)) ∧ (decode cX12_headline 50 = .ok (.iconst 1, 1)) ∧ (decode cX12_headline 51 = .ok (.ireturn, 1)) ∧ (decode cX12_isAhead 0 = .ok (.aload_n 0, 1)) ∧ (decode cX12_isAhead 1 = .ok (.getfield 102, 3)) := by decide +kernel
theorem kd28_88 : (decode cX12_isAhead 4 = .ok (.iload_n 1, 1)) ∧ (decode cX12_isAhead 5 = .ok (.iaload, 1)) ∧ (decode cX12_isAhead 6 = .ok (.aload_n 0, 1)) ∧ (decode cX12_isAhead 7 = .ok (.getfield 102, 3)) ∧ (decode cX12_isAhead 10 = .ok (.iload_n 2, 1)) ∧ (decode cX12_isAhead 11 = .ok (.iaload, 1)) ∧ (decode cX12_isAhead 12 = .ok (.if_icmp .eq 24, 3)) ∧ (decode cX12_isAhead 15 = .ok (.aload_n 0, 1)) ∧ (decode cX12_isAhead 16 = .ok (.getfield 102, 3)) ∧ (decode cX12_isAhead 19 = .ok (.iload_n 1, 1)) ∧ (decode cX12_isAhead 20 = .ok (.iaload, 1)) ∧ (decode cX12_isAhead 21 = .ok (.aload_n 0, 1)) := by decide +kernel
theorem kd28_89 : (decode cX12_isAhead 22 = .ok (.getfield 102, 3)) ∧ (decode cX12_isAhead 25 = .ok (.iload_n 2, 1)) ∧ (decode cX12_isAhead 26 = .ok (.iaload, 1)) ∧ (decode cX12_isAhead 27 = .ok (.if_icmp .ge 7, 3)) ∧ (decode cX12_isAhead 30 = .ok (.iconst 1, 1)) ∧ (decode cX12_isAhead 31 = .ok (.goto 4, 3)) ∧ (decode cX12_isAhead 34 = .ok (.iconst 0, 1)) ∧ (decode cX12_isAhead 35 = .ok (.ireturn, 1)) ∧ (decode cX12_isAhead 36 = .ok (.aload_n 0, 1)) ∧ (decode cX12_isAhead 37 = .ok (.getfield 29, 3)) ∧ (decode cX12_isAhead 40 = .ok (.aload_n 0, 1)) ∧ (decode cX12_isAhead 41 = .ok (.getfield 96, 3)) := by decide +kernel
theorem kd28_90 : (decode cX12_isAhead 44 = .ok (.iload_n 1, 1)) ∧ (decode cX12_isAhead 45 = .ok (.iaload, 1)) ∧ (decode cX12_isAhead 46 = .ok (.iaload, 1)) ∧ (decode cX12_isAhead 47 = .ok (.aload_n 0, 1)) ∧ (decode cX12_isAhead 48 = .ok (.getfield 90, 3)) ∧ (decode cX12_isAhead 51 = .ok (.iload_n 1, 1)) ∧ (decode cX12_isAhead 52 = .ok (.iaload, 1)) ∧ (decode cX12_isAhead 53 = .ok (.if_icmp .ne 7, 3)) ∧ (decode cX12_isAhead 56 = .ok (.iconst 1, 1)) ∧ (decode cX12_isAhead 57 = .ok (.goto 4, 3)) ∧ (decode cX12_isAhead 60 = .ok (.iconst 0, 1)) ∧ (decode cX12_isAhead 61 = .ok (.istore_n 3, 1)) := by decide +kernel
theorem kd28_91 : (decode cX12_isAhead 62 = .ok (.aload_n 0, 1)) ∧ (decode cX12_isAhead 63 = .ok (.getfield 29, 3)) ∧ (decode cX12_isAhead 66 = .ok (.aload_n 0, 1)) ∧ (decode cX12_isAhead 67 = .ok (.getfield 96, 3)) ∧ (decode cX12_isAhead 70 = .ok (.iload_n 2, 1)) ∧ (decode cX12_isAhead 71 = .ok (.iaload, 1)) ∧ (decode cX12_isAhead 72 = .ok (.iaload, 1)) ∧ (decode cX12_isAhead 73 = .ok (.aload_n 0, 1)) ∧ (decode cX12_isAhead 74 = .ok (.getfield 90, 3)) ∧ (decode cX12_isAhead 77 = .ok (.iload_n 2, 1)) ∧ (decode cX12_isAhead 78 = .ok (.iaload, 1)) ∧ (decode cX12_isAhead 79 = .ok (.if_icmp .ne 7, 3)) := by decide +kernel
theorem kd28_92 : (decode cX12_isAhead 82 = .ok (.iconst 1, 1)) ∧ (decode cX12_isAhead 83 = .ok (.goto 4, 3)) ∧ (decode cX12_isAhead 86 = .ok (.iconst 0, 1)) ∧ (decode cX12_isAhead 87 = .ok (.istore 4, 2)) ∧ (decode cX12_isAhead 89 = .ok (.iload_n 3, 1)) ∧ (decode cX12_isAhead 90 = .ok (.iload 4, 2)) ∧ (decode cX12_isAhead 92 = .ok (.if_icmp .eq 5, 3)) ∧ (decode cX12_isAhead 95 = .ok (.iload_n 3, 1)) ∧ (decode cX12_isAhead 96 = .ok (.ireturn, 1)) ∧ (decode cX12_isAhead 97 = .ok (.aload_n 0, 1)) ∧ (decode cX12_isAhead 98 = .ok (.getfield 19, 3)) ∧ (decode cX12_isAhead 101 = .ok (.aload_n 0, 1)) := by decide +kernel
theorem kd28_93 : (decode cX12_isAhead 102 = .ok (.getfield 90, 3)) ∧ (decode cX12_isAhead 105 = .ok (.iload_n 1, 1)) ∧ (decode cX12_isAhead 106 = .ok (.iaload, 1)) ∧ (decode cX12_isAhead 107 = .ok (.iaload, 1)) ∧ (decode cX12_isAhead 108 = .ok (.aload_n 0, 1)) ∧ (decode cX12_isAhead 109 = .ok (.getfield 19, 3)) ∧ (decode cX12_isAhead 112 = .ok (.aload_n 0, 1)) ∧ (decode cX12_isAhead 113 = .ok (.getfield 90, 3)) ∧ (decode cX12_isAhead 116 = .ok (.iload_n 2, 1)) ∧ (decode cX12_isAhead 117 = .ok (.iaload, 1)) ∧ (decode cX12_isAhead 118 = .ok (.iaload, 1)) ∧ (decode cX12_isAhead 119 = .ok (.if_icmp .eq 36, 3)) := by decide +kernel
theorem kd28_94 : (decode cX12_isAhead 122 = .ok (.aload_n 0, 1)) ∧ (decode cX12_isAhead 123 = .ok (.getfield 19, 3)) ∧ (decode cX12_isAhead 126 = .ok (.aload_n 0, 1)) ∧ (decode cX12_isAhead 127 = .ok (.getfield 90, 3)) ∧ (decode cX12_isAhead 130 = .ok (.iload_n 1, 1)) ∧ (decode cX12_isAhead 131 = .ok (.iaload, 1)) ∧ (decode cX12_isAhead 132 = .ok (.iaload, 1)) ∧ (decode cX12_isAhead 133 = .ok (.aload_n 0, 1)) ∧ (decode cX12_isAhead 134 = .ok (.getfield 19, 3)) ∧ (decode cX12_isAhead 137 = .ok (.aload_n 0, 1)) ∧ (decode cX12_isAhead 138 = .ok (.getfield 90, 3)) ∧ (decode cX12_isAhead 141 = .ok (.iload_n 2, 1)) := by decide +kernel
theorem kd28_95 : (decode cX12_isAhead 142 = .ok (.iaload, 1)) ∧ (decode cX12_isAhead 143 = .ok (.iaload, 1)) ∧ (decode cX12_isAhead 144 = .ok (.if_icmp .le 7, 3)) ∧ (decode cX12_isAhead 147 = .ok (.iconst 1, 1)) ∧ (decode cX12_isAhead 148 = .ok (.goto 17, 3)) ∧ (decode cX12_isAhead 151 = .ok (.iconst 0, 1)) ∧ (decode cX12_isAhead 152 = .ok (.goto 13, 3)) ∧ (decode cX12_isAhead 155 = .ok (.iload_n 1, 1)) ∧ (decode cX12_isAhead 156 = .ok (.iload_n 2, 1)) ∧ (decode cX12_isAhead 157 = .ok (.if_icmp .ge 7, 3)) ∧ (decode cX12_isAhead 160 = .ok (.iconst 1, 1)) ∧ (decode cX12_isAhead 161 = .ok (.goto 4, 3)) := by decide +kernel
theorem kd28_96 : (decode cX12_isAhead 164 = .ok (.iconst 0, 1)) ∧ (decode cX12_isAhead 165 = .ok (.ireturn, 1)) ∧ (decode cX12_isBought 0 = .ok (.iconst 0, 1)) ∧ (decode cX12_isBought 1 = .ok (.istore_n 2, 1)) ∧ (decode cX12_isBought 2 = .ok (.iload_n 2, 1)) ∧ (decode cX12_isBought 3 = .ok (.aload_n 0, 1)) ∧ (decode cX12_isBought 4 = .ok (.getfield 389, 3)) ∧ (decode cX12_isBought 7 = .ok (.if_icmp .ge 21, 3)) ∧ (decode cX12_isBought 10 = .ok (.aload_n 0, 1)) ∧ (decode cX12_isBought 11 = .ok (.getfield 105, 3)) ∧ (decode cX12_isBought 14 = .ok (.iload_n 2, 1)) ∧ (decode cX12_isBought 15 = .ok (.iaload, 1)) := by decide +kernel
theorem kd28_97 : (decode cX12_isBought 16 = .ok (.iload_n 1, 1)) ∧ (decode cX12_isBought 17 = .ok (.if_icmp .ne 5, 3)) ∧ (decode cX12_isBought 20 = .ok (.iconst 1, 1)) ∧ (decode cX12_isBought 21 = .ok (.ireturn, 1)) ∧ (decode cX12_isBought 22 = .ok (.iinc 2 1, 3)) ∧ (decode cX12_isBought 25 = .ok (.goto (-23), 3)) ∧ (decode cX12_isBought 28 = .ok (.iconst 0, 1)) ∧ (decode cX12_isBought 29 = .ok (.ireturn, 1)) ∧ (decode cX12_isBoy 0 = .ok (.iload_n 1, 1)) ∧ (decode cX12_isBoy 1 = .ok (.ifCond .lt 15, 3)) ∧ (decode cX12_isBoy 4 = .ok (.iload_n 1, 1)) ∧ (decode cX12_isBoy 5 = .ok (.aload_n 0, 1)) := by decide +kernel
theorem kd28_98 : (decode cX12_isBoy 6 = .ok (.getfield 208, 3)) ∧ (decode cX12_isBoy 9 = .ok (.if_icmp .ge 7, 3)) ∧ (decode cX12_isBoy 12 = .ok (.iconst 1, 1)) ∧ (decode cX12_isBoy 13 = .ok (.goto 4, 3)) ∧ (decode cX12_isBoy 16 = .ok (.iconst 0, 1)) ∧ (decode cX12_isBoy 17 = .ok (.ireturn, 1)) ∧ (decode cX12_isFirst 0 = .ok (.iconst 0, 1)) ∧ (decode cX12_isFirst 1 = .ok (.istore_n 2, 1)) ∧ (decode cX12_isFirst 2 = .ok (.iload_n 2, 1)) ∧ (decode cX12_isFirst 3 = .ok (.iload_n 1, 1)) ∧ (decode cX12_isFirst 4 = .ok (.if_icmp .ge 56, 3)) ∧ (decode cX12_isFirst 7 = .ok (.aload_n 0, 1)) := by decide +kernel
theorem kd28_99 : (decode cX12_isFirst 8 = .ok (.getfield 105, 3)) ∧ (decode cX12_isFirst 11 = .ok (.iload_n 2, 1)) ∧ (decode cX12_isFirst 12 = .ok (.iaload, 1)) ∧ (decode cX12_isFirst 13 = .ok (.aload_n 0, 1)) ∧ (decode cX12_isFirst 14 = .ok (.getfield 105, 3)) ∧ (decode cX12_isFirst 17 = .ok (.iload_n 1, 1)) ∧ (decode cX12_isFirst 18 = .ok (.iaload, 1)) ∧ (decode cX12_isFirst 19 = .ok (.if_icmp .ne 35, 3)) ∧ (decode cX12_isFirst 22 = .ok (.aload_n 0, 1)) ∧ (decode cX12_isFirst 23 = .ok (.getfield 93, 3)) ∧ (decode cX12_isFirst 26 = .ok (.iload_n 2, 1)) ∧ (decode cX12_isFirst 27 = .ok (.iaload, 1)) := by decide +kernel
theorem kd28_100 : (decode cX12_isFirst 28 = .ok (.aload_n 0, 1)) ∧ (decode cX12_isFirst 29 = .ok (.getfield 93, 3)) ∧ (decode cX12_isFirst 32 = .ok (.iload_n 1, 1)) ∧ (decode cX12_isFirst 33 = .ok (.iaload, 1)) ∧ (decode cX12_isFirst 34 = .ok (.if_icmp .ne 20, 3)) ∧ (decode cX12_isFirst 37 = .ok (.aload_n 0, 1)) ∧ (decode cX12_isFirst 38 = .ok (.getfield 96, 3)) ∧ (decode cX12_isFirst 41 = .ok (.iload_n 2, 1)) ∧ (decode cX12_isFirst 42 = .ok (.iaload, 1)) ∧ (decode cX12_isFirst 43 = .ok (.aload_n 0, 1)) ∧ (decode cX12_isFirst 44 = .ok (.getfield 96, 3)) ∧ (decode cX12_isFirst 47 = .ok (.iload_n 1, 1)) := by decide +kernel
theorem kd28_101 : (decode cX12_isFirst 48 = .ok (.iaload, 1)) ∧ (decode cX12_isFirst 49 = .ok (.if_icmp .ne 5, 3)) ∧ (decode cX12_isFirst 52 = .ok (.iconst 0, 1)) ∧ (decode cX12_isFirst 53 = .ok (.ireturn, 1)) ∧ (decode cX12_isFirst 54 = .ok (.iinc 2 1, 3)) ∧ (decode cX12_isFirst 57 = .ok (.goto (-55), 3)) ∧ (decode cX12_isFirst 60 = .ok (.iconst 1, 1)) ∧ (decode cX12_isFirst 61 = .ok (.ireturn, 1)) ∧ (decode cX12_isKey 0 = .ok (.aload_n 0, 1)) ∧ (decode cX12_isKey 1 = .ok (.getfield 262, 3)) ∧ (decode cX12_isKey 4 = .ok (.iconst 2, 1)) ∧ (decode cX12_isKey 5 = .ok (.if_icmp .ne 16, 3)) := by decide +kernel
theorem kd28_102 : (decode cX12_isKey 8 = .ok (.aload_n 0, 1)) ∧ (decode cX12_isKey 9 = .ok (.getfield 277, 3)) ∧ (decode cX12_isKey 12 = .ok (.lload_n 1, 1)) ∧ (decode cX12_isKey 13 = .ok (.lcmp, 1)) ∧ (decode cX12_isKey 14 = .ok (.ifCond .ne 7, 3)) ∧ (decode cX12_isKey 17 = .ok (.iconst 1, 1)) ∧ (decode cX12_isKey 18 = .ok (.goto 4, 3)) ∧ (decode cX12_isKey 21 = .ok (.iconst 0, 1)) ∧ (decode cX12_isKey 22 = .ok (.ireturn, 1)) ∧ (decode cX12_isNot 0 = .ok (.aload_n 0, 1)) ∧ (decode cX12_isNot 1 = .ok (.bipush 110, 2)) ∧ (decode cX12_isNot 3 = .ok (.bipush 111, 2)) := by decide +kernel
theorem kd28_103 : (decode cX12_isNot 5 = .ok (.bipush 116, 2)) ∧ (decode cX12_isNot 7 = .ok (.iconst 0, 1)) ∧ (decode cX12_isNot 8 = .ok (.iconst 0, 1)) ∧ (decode cX12_isNot 9 = .ok (.invokestatic 297, 3)) ∧ (decode cX12_isNot 12 = .ok (.invokevirtual 301, 3)) ∧ (decode cX12_isNot 15 = .ok (.ireturn, 1)) ∧ (decode cX12_isSign 0 = .ok (.aload_n 0, 1)) ∧ (decode cX12_isSign 1 = .ok (.getfield 262, 3)) ∧ (decode cX12_isSign 4 = .ok (.iconst 4, 1)) ∧ (decode cX12_isSign 5 = .ok (.if_icmp .ne 15, 3)) ∧ (decode cX12_isSign 8 = .ok (.aload_n 0, 1)) ∧ (decode cX12_isSign 9 = .ok (.getfield 274, 3)) := by decide +kernel
theorem kd28_104 : (decode cX12_isSign 12 = .ok (.iload_n 1, 1)) ∧ (decode cX12_isSign 13 = .ok (.if_icmp .ne 7, 3)) ∧ (decode cX12_isSign 16 = .ok (.iconst 1, 1)) ∧ (decode cX12_isSign 17 = .ok (.goto 4, 3)) ∧ (decode cX12_isSign 20 = .ok (.iconst 0, 1)) ∧ (decode cX12_isSign 21 = .ok (.ireturn, 1)) ∧ (decode cX12_layWays 0 = .ok (.aload_n 0, 1)) ∧ (decode cX12_layWays 1 = .ok (.getfield 246, 3)) ∧ (decode cX12_layWays 4 = .ok (.ifCond .eq 4, 3)) ∧ (decode cX12_layWays 7 = .ok (.return_, 1)) ∧ (decode cX12_layWays 8 = .ok (.aload_n 0, 1)) ∧ (decode cX12_layWays 9 = .ok (.iconst 1, 1)) := by decide +kernel
theorem kd28_105 : (decode cX12_layWays 10 = .ok (.putfield 246, 3)) ∧ (decode cX12_layWays 13 = .ok (.iconst 0, 1)) ∧ (decode cX12_layWays 14 = .ok (.istore_n 1, 1)) ∧ (decode cX12_layWays 15 = .ok (.iload_n 1, 1)) ∧ (decode cX12_layWays 16 = .ok (.bipush 100, 2)) ∧ (decode cX12_layWays 18 = .ok (.if_icmp .ge 28, 3)) ∧ (decode cX12_layWays 21 = .ok (.aload_n 0, 1)) ∧ (decode cX12_layWays 22 = .ok (.getfield 47, 3)) ∧ (decode cX12_layWays 25 = .ok (.iload_n 1, 1)) ∧ (decode cX12_layWays 26 = .ok (.iload_n 1, 1)) ∧ (decode cX12_layWays 27 = .ok (.bipush 11, 2)) ∧ (decode cX12_layWays 29 = .ok (.irem, 1)) := by decide +kernel
theorem kd28_106 : (decode cX12_layWays 30 = .ok (.ifCond .ne 7, 3)) ∧ (decode cX12_layWays 33 = .ok (.iconst 0, 1)) ∧ (decode cX12_layWays 34 = .ok (.goto 5, 3)) ∧ (decode cX12_layWays 37 = .ok (.bipush 10, 2)) ∧ (decode cX12_layWays 39 = .ok (.iastore, 1)) ∧ (decode cX12_layWays 40 = .ok (.iinc 1 1, 3)) ∧ (decode cX12_layWays 43 = .ok (.goto (-28), 3)) ∧ (decode cX12_layWays 46 = .ok (.return_, 1)) ∧ (decode cX12_minutes 0 = .ok (.aload_n 0, 1)) ∧ (decode cX12_minutes 1 = .ok (.iconst 0, 1)) ∧ (decode cX12_minutes 2 = .ok (.putfield 198, 3)) ∧ (decode cX12_minutes 5 = .ok (.iload_n 1, 1)) := by decide +kernel
theorem kd28_107 : (decode cX12_minutes 6 = .ok (.invokestatic 219, 3)) ∧ (decode cX12_minutes 9 = .ok (.ifCond .eq 26, 3)) ∧ (decode cX12_minutes 12 = .ok (.iload_n 2, 1)) ∧ (decode cX12_minutes 13 = .ok (.invokestatic 219, 3)) ∧ (decode cX12_minutes 16 = .ok (.ifCond .eq 19, 3)) ∧ (decode cX12_minutes 19 = .ok (.iload_n 1, 1)) ∧ (decode cX12_minutes 20 = .ok (.iload_n 2, 1)) ∧ (decode cX12_minutes 21 = .ok (.if_icmp .eq 14, 3)) ∧ (decode cX12_minutes 24 = .ok (.iload_n 3, 1)) ∧ (decode cX12_minutes 25 = .ok (.iconst 1, 1)) ∧ (decode cX12_minutes 26 = .ok (.sipush 200, 3)) ∧ (decode cX12_minutes 29 = .ok (.invokestatic 211, 3)) := by decide +kernel
theorem kd28_108 : (decode cX12_minutes 32 = .ok (.ifCond .ne 5, 3)) ∧ (decode cX12_minutes 35 = .ok (.iconst 0, 1)) ∧ (decode cX12_minutes 36 = .ok (.ireturn, 1)) ∧ (decode cX12_minutes 37 = .ok (.aload_n 0, 1)) ∧ (decode cX12_minutes 38 = .ok (.invokevirtual 250, 3)) ∧ (decode cX12_minutes 41 = .ok (.aload_n 0, 1)) ∧ (decode cX12_minutes 42 = .ok (.getfield 47, 3)) ∧ (decode cX12_minutes 45 = .ok (.bipush 10, 2)) ∧ (decode cX12_minutes 47 = .ok (.iload_n 1, 1)) ∧ (decode cX12_minutes 48 = .ok (.imul, 1)) ∧ (decode cX12_minutes 49 = .ok (.iload_n 2, 1)) ∧ (decode cX12_minutes 50 = .ok (.iadd, 1)) := by decide +kernel
theorem kd28_109 : (decode cX12_minutes 51 = .ok (.iload_n 3, 1)) ∧ (decode cX12_minutes 52 = .ok (.iastore, 1)) ∧ (decode cX12_minutes 53 = .ok (.aload_n 0, 1)) ∧ (decode cX12_minutes 54 = .ok (.getfield 47, 3)) ∧ (decode cX12_minutes 57 = .ok (.bipush 10, 2)) ∧ (decode cX12_minutes 59 = .ok (.iload_n 2, 1)) ∧ (decode cX12_minutes 60 = .ok (.imul, 1)) ∧ (decode cX12_minutes 61 = .ok (.iload_n 1, 1)) ∧ (decode cX12_minutes 62 = .ok (.iadd, 1)) ∧ (decode cX12_minutes 63 = .ok (.iload_n 3, 1)) ∧ (decode cX12_minutes 64 = .ok (.iastore, 1)) ∧ (decode cX12_minutes 65 = .ok (.iconst 1, 1)) := by decide +kernel
theorem kd28_110 : (decode cX12_minutes 66 = .ok (.ireturn, 1)) ∧ (decode cX12_of 0 = .ok (.iload_n 1, 1)) ∧ (decode cX12_of 1 = .ok (.iconst 0, 1)) ∧ (decode cX12_of 2 = .ok (.aload_n 0, 1)) ∧ (decode cX12_of 3 = .ok (.getfield 389, 3)) ∧ (decode cX12_of 6 = .ok (.iconst 1, 1)) ∧ (decode cX12_of 7 = .ok (.isub, 1)) ∧ (decode cX12_of 8 = .ok (.invokestatic 211, 3)) ∧ (decode cX12_of 11 = .ok (.ifCond .eq 12, 3)) ∧ (decode cX12_of 14 = .ok (.iload_n 2, 1)) ∧ (decode cX12_of 15 = .ok (.iconst 0, 1)) ∧ (decode cX12_of 16 = .ok (.iconst 4, 1)) := by decide +kernel
theorem kd28_111 : (decode cX12_of 17 = .ok (.invokestatic 211, 3)) ∧ (decode cX12_of 20 = .ok (.ifCond .ne 8, 3)) ∧ (decode cX12_of 23 = .ok (.aload_n 0, 1)) ∧ (decode cX12_of 24 = .ok (.invokevirtual 418, 3)) ∧ (decode cX12_of 27 = .ok (.ireturn, 1)) ∧ (decode cX12_of 28 = .ok (.aload_n 0, 1)) ∧ (decode cX12_of 29 = .ok (.iconst 0, 1)) ∧ (decode cX12_of 30 = .ok (.putfield 198, 3)) ∧ (decode cX12_of 33 = .ok (.iload_n 2, 1)) ∧ (decode cX12_of 34 = .ok (.tableswitch 58 0 3 #[30, 37, 44, 51], 30)) ∧ (decode cX12_of 64 = .ok (.aload_n 0, 1)) ∧ (decode cX12_of 65 = .ok (.getfield 105, 3)) := by decide +kernel
theorem kd28_112 : (decode cX12_of 68 = .ok (.iload_n 1, 1)) ∧ (decode cX12_of 69 = .ok (.iaload, 1)) ∧ (decode cX12_of 70 = .ok (.ireturn, 1)) ∧ (decode cX12_of 71 = .ok (.aload_n 0, 1)) ∧ (decode cX12_of 72 = .ok (.getfield 111, 3)) ∧ (decode cX12_of 75 = .ok (.iload_n 1, 1)) ∧ (decode cX12_of 76 = .ok (.iaload, 1)) ∧ (decode cX12_of 77 = .ok (.ireturn, 1)) ∧ (decode cX12_of 78 = .ok (.aload_n 0, 1)) ∧ (decode cX12_of 79 = .ok (.getfield 114, 3)) ∧ (decode cX12_of 82 = .ok (.iload_n 1, 1)) ∧ (decode cX12_of 83 = .ok (.iaload, 1)) := by decide +kernel
theorem kd28_113 : (decode cX12_of 84 = .ok (.ireturn, 1)) ∧ (decode cX12_of 85 = .ok (.aload_n 0, 1)) ∧ (decode cX12_of 86 = .ok (.getfield 117, 3)) ∧ (decode cX12_of 89 = .ok (.iload_n 1, 1)) ∧ (decode cX12_of 90 = .ok (.iaload, 1)) ∧ (decode cX12_of 91 = .ok (.ireturn, 1)) ∧ (decode cX12_of 92 = .ok (.aload_n 0, 1)) ∧ (decode cX12_of 93 = .ok (.getfield 108, 3)) ∧ (decode cX12_of 96 = .ok (.iload_n 1, 1)) ∧ (decode cX12_of 97 = .ok (.iaload, 1)) ∧ (decode cX12_of 98 = .ok (.ireturn, 1)) ∧ (decode cX12_owner 0 = .ok (.aload_n 0, 1)) := by decide +kernel
theorem kd28_114 : (decode cX12_owner 1 = .ok (.iconst 0, 1)) ∧ (decode cX12_owner 2 = .ok (.putfield 198, 3)) ∧ (decode cX12_owner 5 = .ok (.iload_n 1, 1)) ∧ (decode cX12_owner 6 = .ok (.invokestatic 219, 3)) ∧ (decode cX12_owner 9 = .ok (.ifCond .eq 16, 3)) ∧ (decode cX12_owner 12 = .ok (.iload_n 2, 1)) ∧ (decode cX12_owner 13 = .ok (.iconst (-1), 1)) ∧ (decode cX12_owner 14 = .ok (.if_icmp .eq 13, 3)) ∧ (decode cX12_owner 17 = .ok (.aload_n 0, 1)) ∧ (decode cX12_owner 18 = .ok (.iload_n 2, 1)) ∧ (decode cX12_owner 19 = .ok (.invokevirtual 215, 3)) ∧ (decode cX12_owner 22 = .ok (.ifCond .ne 5, 3)) := by decide +kernel
theorem kd28_115 : (decode cX12_owner 25 = .ok (.iconst 0, 1)) ∧ (decode cX12_owner 26 = .ok (.ireturn, 1)) ∧ (decode cX12_owner 27 = .ok (.aload_n 0, 1)) ∧ (decode cX12_owner 28 = .ok (.getfield 29, 3)) ∧ (decode cX12_owner 31 = .ok (.iload_n 1, 1)) ∧ (decode cX12_owner 32 = .ok (.iload_n 2, 1)) ∧ (decode cX12_owner 33 = .ok (.iastore, 1)) ∧ (decode cX12_owner 34 = .ok (.iconst 1, 1)) ∧ (decode cX12_owner 35 = .ok (.ireturn, 1)) ∧ (decode cX12_partedAt 0 = .ok (.aload_n 0, 1)) ∧ (decode cX12_partedAt 1 = .ok (.iconst 0, 1)) ∧ (decode cX12_partedAt 2 = .ok (.putfield 198, 3)) := by decide +kernel
theorem kd28_116 : (decode cX12_partedAt 5 = .ok (.aload_n 0, 1)) ∧ (decode cX12_partedAt 6 = .ok (.getfield 462, 3)) ∧ (decode cX12_partedAt 9 = .ok (.ifCond .eq 24, 3)) ∧ (decode cX12_partedAt 12 = .ok (.iload_n 1, 1)) ∧ (decode cX12_partedAt 13 = .ok (.ifCond .lt 20, 3)) ∧ (decode cX12_partedAt 16 = .ok (.iload_n 1, 1)) ∧ (decode cX12_partedAt 17 = .ok (.aload_n 0, 1)) ∧ (decode cX12_partedAt 18 = .ok (.getfield 459, 3)) ∧ (decode cX12_partedAt 21 = .ok (.if_icmp .ge 12, 3)) ∧ (decode cX12_partedAt 24 = .ok (.aload_n 0, 1)) ∧ (decode cX12_partedAt 25 = .ok (.getfield 159, 3)) ∧ (decode cX12_partedAt 28 = .ok (.iload_n 1, 1)) := by decide +kernel
theorem kd28_117 : (decode cX12_partedAt 29 = .ok (.iaload, 1)) ∧ (decode cX12_partedAt 30 = .ok (.goto 4, 3)) ∧ (decode cX12_partedAt 33 = .ok (.iconst (-1), 1)) ∧ (decode cX12_partedAt 34 = .ok (.ireturn, 1)) ∧ (decode cX12_shortOf 0 = .ok (.aload_n 0, 1)) ∧ (decode cX12_shortOf 1 = .ok (.iconst 0, 1)) ∧ (decode cX12_shortOf 2 = .ok (.putfield 198, 3)) ∧ (decode cX12_shortOf 5 = .ok (.iconst 0, 1)) ∧ (decode cX12_shortOf 6 = .ok (.istore_n 2, 1)) ∧ (decode cX12_shortOf 7 = .ok (.iconst 0, 1)) ∧ (decode cX12_shortOf 8 = .ok (.istore_n 3, 1)) ∧ (decode cX12_shortOf 9 = .ok (.iload_n 3, 1)) := by decide +kernel
theorem kd28_118 : (decode cX12_shortOf 10 = .ok (.aload_n 0, 1)) ∧ (decode cX12_shortOf 11 = .ok (.getfield 389, 3)) ∧ (decode cX12_shortOf 14 = .ok (.if_icmp .ge 112, 3)) ∧ (decode cX12_shortOf 17 = .ok (.aload_n 0, 1)) ∧ (decode cX12_shortOf 18 = .ok (.getfield 93, 3)) ∧ (decode cX12_shortOf 21 = .ok (.iload_n 3, 1)) ∧ (decode cX12_shortOf 22 = .ok (.iaload, 1)) ∧ (decode cX12_shortOf 23 = .ok (.istore 4, 2)) ∧ (decode cX12_shortOf 25 = .ok (.aload_n 0, 1)) ∧ (decode cX12_shortOf 26 = .ok (.getfield 96, 3)) ∧ (decode cX12_shortOf 29 = .ok (.iload_n 3, 1)) ∧ (decode cX12_shortOf 30 = .ok (.iaload, 1)) := by decide +kernel
theorem kd28_119 : (decode cX12_shortOf 31 = .ok (.istore 5, 2)) ∧ (decode cX12_shortOf 33 = .ok (.aload_n 0, 1)) ∧ (decode cX12_shortOf 34 = .ok (.getfield 105, 3)) ∧ (decode cX12_shortOf 37 = .ok (.iload_n 3, 1)) ∧ (decode cX12_shortOf 38 = .ok (.iaload, 1)) ∧ (decode cX12_shortOf 39 = .ok (.istore 6, 2)) ∧ (decode cX12_shortOf 41 = .ok (.iload 6, 2)) ∧ (decode cX12_shortOf 43 = .ok (.aload_n 0, 1)) ∧ (decode cX12_shortOf 44 = .ok (.getfield 239, 3)) ∧ (decode cX12_shortOf 47 = .ok (.if_icmp .ge 73, 3)) ∧ (decode cX12_shortOf 50 = .ok (.iload 6, 2)) ∧ (decode cX12_shortOf 52 = .ok (.iload_n 1, 1)) := by decide +kernel
theorem kd28_120 : (decode cX12_shortOf 53 = .ok (.if_icmp .gt 67, 3)) ∧ (decode cX12_shortOf 56 = .ok (.aload_n 0, 1)) ∧ (decode cX12_shortOf 57 = .ok (.iload_n 3, 1)) ∧ (decode cX12_shortOf 58 = .ok (.invokevirtual 431, 3)) ∧ (decode cX12_shortOf 61 = .ok (.ifCond .ne 6, 3)) ∧ (decode cX12_shortOf 64 = .ok (.goto 56, 3)) ∧ (decode cX12_shortOf 67 = .ok (.aload_n 0, 1)) ∧ (decode cX12_shortOf 68 = .ok (.iload 4, 2)) ∧ (decode cX12_shortOf 70 = .ok (.iload 5, 2)) ∧ (decode cX12_shortOf 72 = .ok (.iload 6, 2)) ∧ (decode cX12_shortOf 74 = .ok (.iload_n 1, 1)) ∧ (decode cX12_shortOf 75 = .ok (.invokevirtual 424, 3)) := by decide +kernel
theorem kd28_121 : (decode cX12_shortOf 78 = .ok (.istore 7, 2)) ∧ (decode cX12_shortOf 80 = .ok (.aload_n 0, 1)) ∧ (decode cX12_shortOf 81 = .ok (.iload 4, 2)) ∧ (decode cX12_shortOf 83 = .ok (.iload 5, 2)) ∧ (decode cX12_shortOf 85 = .ok (.iload 6, 2)) ∧ (decode cX12_shortOf 87 = .ok (.invokevirtual 427, 3)) ∧ (decode cX12_shortOf 90 = .ok (.iload 7, 2)) ∧ (decode cX12_shortOf 92 = .ok (.iconst (-1), 1)) ∧ (decode cX12_shortOf 93 = .ok (.if_icmp .ne 7, 3)) ∧ (decode cX12_shortOf 96 = .ok (.iconst 0, 1)) ∧ (decode cX12_shortOf 97 = .ok (.goto 10, 3)) ∧ (decode cX12_shortOf 100 = .ok (.aload_n 0, 1)) := by decide +kernel
theorem kd28_122 : (decode cX12_shortOf 101 = .ok (.getfield 144, 3)) ∧ (decode cX12_shortOf 104 = .ok (.iload 7, 2)) ∧ (decode cX12_shortOf 106 = .ok (.iaload, 1)) ∧ (decode cX12_shortOf 107 = .ok (.isub, 1)) ∧ (decode cX12_shortOf 108 = .ok (.istore 8, 2)) ∧ (decode cX12_shortOf 110 = .ok (.iload 8, 2)) ∧ (decode cX12_shortOf 112 = .ok (.ifCond .le 8, 3)) ∧ (decode cX12_shortOf 115 = .ok (.iload_n 2, 1)) ∧ (decode cX12_shortOf 116 = .ok (.iload 8, 2)) ∧ (decode cX12_shortOf 118 = .ok (.iadd, 1)) ∧ (decode cX12_shortOf 119 = .ok (.istore_n 2, 1)) ∧ (decode cX12_shortOf 120 = .ok (.iinc 3 1, 3)) := by decide +kernel
theorem kd28_123 : (decode cX12_shortOf 123 = .ok (.goto (-114), 3)) ∧ (decode cX12_shortOf 126 = .ok (.iload_n 2, 1)) ∧ (decode cX12_shortOf 127 = .ok (.ireturn, 1)) ∧ (decode cX12_sky 0 = .ok (.aload_n 0, 1)) ∧ (decode cX12_sky 1 = .ok (.iconst 0, 1)) ∧ (decode cX12_sky 2 = .ok (.putfield 198, 3)) ∧ (decode cX12_sky 5 = .ok (.iload_n 1, 1)) ∧ (decode cX12_sky 6 = .ok (.invokestatic 229, 3)) ∧ (decode cX12_sky 9 = .ok (.ifCond .eq 11, 3)) ∧ (decode cX12_sky 12 = .ok (.aload_n 0, 1)) ∧ (decode cX12_sky 13 = .ok (.iload_n 1, 1)) ∧ (decode cX12_sky 14 = .ok (.invokevirtual 232, 3)) := by decide +kernel
theorem kd28_124 : (decode cX12_sky 17 = .ok (.goto 4, 3)) ∧ (decode cX12_sky 20 = .ok (.iconst (-1), 1)) ∧ (decode cX12_sky 21 = .ok (.ireturn, 1)) ∧ (decode cX12_skyOf 0 = .ok (.aload_n 0, 1)) ∧ (decode cX12_skyOf 1 = .ok (.getfield 226, 3)) ∧ (decode cX12_skyOf 4 = .ok (.ifCond .ne 7, 3)) ∧ (decode cX12_skyOf 7 = .ok (.iconst 0, 1)) ∧ (decode cX12_skyOf 8 = .ok (.goto 21, 3)) ∧ (decode cX12_skyOf 11 = .ok (.iload_n 1, 1)) ∧ (decode cX12_skyOf 12 = .ok (.aload_n 0, 1)) ∧ (decode cX12_skyOf 13 = .ok (.getfield 226, 3)) ∧ (decode cX12_skyOf 16 = .ok (.if_icmp .ge 12, 3)) := by decide +kernel
theorem kd28_125 : (decode cX12_skyOf 19 = .ok (.aload_n 0, 1)) ∧ (decode cX12_skyOf 20 = .ok (.getfield 32, 3)) ∧ (decode cX12_skyOf 23 = .ok (.iload_n 1, 1)) ∧ (decode cX12_skyOf 24 = .ok (.iaload, 1)) ∧ (decode cX12_skyOf 25 = .ok (.goto 4, 3)) ∧ (decode cX12_skyOf 28 = .ok (.iconst 3, 1)) ∧ (decode cX12_skyOf 29 = .ok (.ireturn, 1)) ∧ (decode cX12_sortAtHand 0 = .ok (.aload_n 0, 1)) ∧ (decode cX12_sortAtHand 1 = .ok (.bipush 112, 2)) ∧ (decode cX12_sortAtHand 3 = .ok (.bipush 114, 2)) ∧ (decode cX12_sortAtHand 5 = .ok (.bipush 105, 2)) ∧ (decode cX12_sortAtHand 7 = .ok (.bipush 99, 2)) := by decide +kernel
theorem kd28_126 : (decode cX12_sortAtHand 9 = .ok (.bipush 101, 2)) ∧ (decode cX12_sortAtHand 11 = .ok (.invokestatic 297, 3)) ∧ (decode cX12_sortAtHand 14 = .ok (.invokevirtual 301, 3)) ∧ (decode cX12_sortAtHand 17 = .ok (.ifCond .eq 5, 3)) ∧ (decode cX12_sortAtHand 20 = .ok (.iconst 0, 1)) ∧ (decode cX12_sortAtHand 21 = .ok (.ireturn, 1)) ∧ (decode cX12_sortAtHand 22 = .ok (.aload_n 0, 1)) ∧ (decode cX12_sortAtHand 23 = .ok (.bipush 99, 2)) ∧ (decode cX12_sortAtHand 25 = .ok (.bipush 114, 2)) ∧ (decode cX12_sortAtHand 27 = .ok (.bipush 121, 2)) ∧ (decode cX12_sortAtHand 29 = .ok (.iconst 0, 1)) ∧ (decode cX12_sortAtHand 30 = .ok (.iconst 0, 1)) := by decide +kernel
theorem kd28_127 : (decode cX12_sortAtHand 31 = .ok (.invokestatic 297, 3)) ∧ (decode cX12_sortAtHand 34 = .ok (.invokevirtual 301, 3)) ∧ (decode cX12_sortAtHand 37 = .ok (.ifCond .eq 5, 3)) ∧ (decode cX12_sortAtHand 40 = .ok (.iconst 1, 1)) ∧ (decode cX12_sortAtHand 41 = .ok (.ireturn, 1)) ∧ (decode cX12_sortAtHand 42 = .ok (.aload_n 0, 1)) ∧ (decode cX12_sortAtHand 43 = .ok (.bipush 98, 2)) ∧ (decode cX12_sortAtHand 45 = .ok (.bipush 97, 2)) ∧ (decode cX12_sortAtHand 47 = .ok (.bipush 99, 2)) ∧ (decode cX12_sortAtHand 49 = .ok (.bipush 107, 2)) ∧ (decode cX12_sortAtHand 51 = .ok (.iconst 0, 1)) ∧ (decode cX12_sortAtHand 52 = .ok (.invokestatic 297, 3)) := by decide +kernel
theorem kd28_128 : (decode cX12_sortAtHand 55 = .ok (.invokevirtual 301, 3)) ∧ (decode cX12_sortAtHand 58 = .ok (.ifCond .eq 5, 3)) ∧ (decode cX12_sortAtHand 61 = .ok (.iconst 2, 1)) ∧ (decode cX12_sortAtHand 62 = .ok (.ireturn, 1)) ∧ (decode cX12_sortAtHand 63 = .ok (.aload_n 0, 1)) ∧ (decode cX12_sortAtHand 64 = .ok (.bipush 109, 2)) ∧ (decode cX12_sortAtHand 66 = .ok (.bipush 111, 2)) ∧ (decode cX12_sortAtHand 68 = .ok (.bipush 115, 2)) ∧ (decode cX12_sortAtHand 70 = .ok (.bipush 116, 2)) ∧ (decode cX12_sortAtHand 72 = .ok (.iconst 0, 1)) ∧ (decode cX12_sortAtHand 73 = .ok (.invokestatic 297, 3)) ∧ (decode cX12_sortAtHand 76 = .ok (.invokevirtual 301, 3)) := by decide +kernel
theorem kd28_129 : (decode cX12_sortAtHand 79 = .ok (.ifCond .eq 5, 3)) ∧ (decode cX12_sortAtHand 82 = .ok (.iconst 3, 1)) ∧ (decode cX12_sortAtHand 83 = .ok (.ireturn, 1)) ∧ (decode cX12_sortAtHand 84 = .ok (.aload_n 0, 1)) ∧ (decode cX12_sortAtHand 85 = .ok (.bipush 115, 2)) ∧ (decode cX12_sortAtHand 87 = .ok (.bipush 101, 2)) ∧ (decode cX12_sortAtHand 89 = .ok (.bipush 108, 2)) ∧ (decode cX12_sortAtHand 91 = .ok (.bipush 108, 2)) ∧ (decode cX12_sortAtHand 93 = .ok (.iconst 0, 1)) ∧ (decode cX12_sortAtHand 94 = .ok (.invokestatic 297, 3)) ∧ (decode cX12_sortAtHand 97 = .ok (.invokevirtual 301, 3)) ∧ (decode cX12_sortAtHand 100 = .ok (.ifCond .eq 5, 3)) := by decide +kernel
theorem kd28_130 : (decode cX12_sortAtHand 103 = .ok (.iconst 4, 1)) ∧ (decode cX12_sortAtHand 104 = .ok (.ireturn, 1)) ∧ (decode cX12_sortAtHand 105 = .ok (.aload_n 0, 1)) ∧ (decode cX12_sortAtHand 106 = .ok (.bipush 111, 2)) ∧ (decode cX12_sortAtHand 108 = .ok (.bipush 119, 2)) ∧ (decode cX12_sortAtHand 110 = .ok (.bipush 101, 2)) ∧ (decode cX12_sortAtHand 112 = .ok (.iconst 0, 1)) ∧ (decode cX12_sortAtHand 113 = .ok (.iconst 0, 1)) ∧ (decode cX12_sortAtHand 114 = .ok (.invokestatic 297, 3)) ∧ (decode cX12_sortAtHand 117 = .ok (.invokevirtual 301, 3)) ∧ (decode cX12_sortAtHand 120 = .ok (.ifCond .eq 7, 3)) ∧ (decode cX12_sortAtHand 123 = .ok (.iconst 5, 1)) := by decide +kernel
theorem kd28_131 : (decode cX12_sortAtHand 124 = .ok (.goto 4, 3)) ∧ (decode cX12_sortAtHand 127 = .ok (.iconst (-1), 1)) ∧ (decode cX12_sortAtHand 128 = .ok (.ireturn, 1)) ∧ (decode cX12_strike 0 = .ok (.aload_n 0, 1)) ∧ (decode cX12_strike 1 = .ok (.iconst 0, 1)) ∧ (decode cX12_strike 2 = .ok (.putfield 198, 3)) ∧ (decode cX12_strike 5 = .ok (.aload_n 0, 1)) ∧ (decode cX12_strike 6 = .ok (.invokevirtual 222, 3)) ∧ (decode cX12_strike 9 = .ok (.istore 6, 2)) ∧ (decode cX12_strike 11 = .ok (.iload 6, 2)) ∧ (decode cX12_strike 13 = .ok (.iconst 2, 1)) ∧ (decode cX12_strike 14 = .ok (.irem, 1)) := by decide +kernel
theorem kd28_132 : (decode cX12_strike 15 = .ok (.ifCond .ne 53, 3)) ∧ (decode cX12_strike 18 = .ok (.iload 6, 2)) ∧ (decode cX12_strike 20 = .ok (.iconst 2, 1)) ∧ (decode cX12_strike 21 = .ok (.idiv, 1)) ∧ (decode cX12_strike 22 = .ok (.iconst 1, 1)) ∧ (decode cX12_strike 23 = .ok (.bipush 50, 2)) ∧ (decode cX12_strike 25 = .ok (.invokestatic 211, 3)) ∧ (decode cX12_strike 28 = .ok (.ifCond .eq 40, 3)) ∧ (decode cX12_strike 31 = .ok (.iload_n 1, 1)) ∧ (decode cX12_strike 32 = .ok (.invokestatic 480, 3)) ∧ (decode cX12_strike 35 = .ok (.ifCond .eq 33, 3)) ∧ (decode cX12_strike 38 = .ok (.iload_n 2, 1)) := by decide +kernel
theorem kd28_133 : (decode cX12_strike 39 = .ok (.invokestatic 480, 3)) ∧ (decode cX12_strike 42 = .ok (.ifCond .eq 26, 3)) ∧ (decode cX12_strike 45 = .ok (.iload_n 3, 1)) ∧ (decode cX12_strike 46 = .ok (.invokestatic 480, 3)) ∧ (decode cX12_strike 49 = .ok (.ifCond .eq 19, 3)) ∧ (decode cX12_strike 52 = .ok (.iload 4, 2)) ∧ (decode cX12_strike 54 = .ok (.invokestatic 480, 3)) ∧ (decode cX12_strike 57 = .ok (.ifCond .eq 11, 3)) ∧ (decode cX12_strike 60 = .ok (.iload 5, 2)) ∧ (decode cX12_strike 62 = .ok (.invokestatic 480, 3)) ∧ (decode cX12_strike 65 = .ok (.ifCond .ne 5, 3)) ∧ (decode cX12_strike 68 = .ok (.iconst (-1), 1)) := by decide +kernel
theorem kd28_134 : (decode cX12_strike 69 = .ok (.ireturn, 1)) ∧ (decode cX12_strike 70 = .ok (.iload_n 1, 1)) ∧ (decode cX12_strike 71 = .ok (.istore 7, 2)) ∧ (decode cX12_strike 73 = .ok (.iload 4, 2)) ∧ (decode cX12_strike 75 = .ok (.istore 8, 2)) ∧ (decode cX12_strike 77 = .ok (.iconst 0, 1)) ∧ (decode cX12_strike 78 = .ok (.istore 9, 2)) ∧ (decode cX12_strike 80 = .ok (.iload 9, 2)) ∧ (decode cX12_strike 82 = .ok (.iload 6, 2)) ∧ (decode cX12_strike 84 = .ok (.iconst 2, 1)) ∧ (decode cX12_strike 85 = .ok (.idiv, 1)) ∧ (decode cX12_strike 86 = .ok (.if_icmp .ge 118, 3)) := by decide +kernel
theorem kd28_135 : (decode cX12_strike 89 = .ok (.iload 7, 2)) ∧ (decode cX12_strike 91 = .ok (.iload_n 2, 1)) ∧ (decode cX12_strike 92 = .ok (.iload 9, 2)) ∧ (decode cX12_strike 94 = .ok (.iload_n 3, 1)) ∧ (decode cX12_strike 95 = .ok (.imul, 1)) ∧ (decode cX12_strike 96 = .ok (.iadd, 1)) ∧ (decode cX12_strike 97 = .ok (.isub, 1)) ∧ (decode cX12_strike 98 = .ok (.istore 7, 2)) ∧ (decode cX12_strike 100 = .ok (.iload 8, 2)) ∧ (decode cX12_strike 102 = .ok (.iload 5, 2)) ∧ (decode cX12_strike 104 = .ok (.isub, 1)) ∧ (decode cX12_strike 105 = .ok (.istore 8, 2)) := by decide +kernel
theorem kd28_136 : (decode cX12_strike 107 = .ok (.aload_n 0, 1)) ∧ (decode cX12_strike 108 = .ok (.getfield 7, 3)) ∧ (decode cX12_strike 111 = .ok (.iconst 2, 1)) ∧ (decode cX12_strike 112 = .ok (.iload 9, 2)) ∧ (decode cX12_strike 114 = .ok (.imul, 1)) ∧ (decode cX12_strike 115 = .ok (.iaload, 1)) ∧ (decode cX12_strike 116 = .ok (.istore 10, 2)) ∧ (decode cX12_strike 118 = .ok (.aload_n 0, 1)) ∧ (decode cX12_strike 119 = .ok (.getfield 7, 3)) ∧ (decode cX12_strike 122 = .ok (.iconst 2, 1)) ∧ (decode cX12_strike 123 = .ok (.iload 9, 2)) ∧ (decode cX12_strike 125 = .ok (.imul, 1)) := by decide +kernel
theorem kd28_137 : (decode cX12_strike 126 = .ok (.iconst 1, 1)) ∧ (decode cX12_strike 127 = .ok (.iadd, 1)) ∧ (decode cX12_strike 128 = .ok (.iaload, 1)) ∧ (decode cX12_strike 129 = .ok (.istore 11, 2)) ∧ (decode cX12_strike 131 = .ok (.iload 11, 2)) ∧ (decode cX12_strike 133 = .ok (.iload 10, 2)) ∧ (decode cX12_strike 135 = .ok (.if_icmp .gt 7, 3)) ∧ (decode cX12_strike 138 = .ok (.iconst 0, 1)) ∧ (decode cX12_strike 139 = .ok (.goto 22, 3)) ∧ (decode cX12_strike 142 = .ok (.iload 7, 2)) ∧ (decode cX12_strike 144 = .ok (.ifCond .ge 7, 3)) ∧ (decode cX12_strike 147 = .ok (.iconst 1, 1)) := by decide +kernel
theorem kd28_138 : (decode cX12_strike 148 = .ok (.goto 13, 3)) ∧ (decode cX12_strike 151 = .ok (.iload 8, 2)) ∧ (decode cX12_strike 153 = .ok (.ifCond .ge 7, 3)) ∧ (decode cX12_strike 156 = .ok (.iconst 2, 1)) ∧ (decode cX12_strike 157 = .ok (.goto 4, 3)) ∧ (decode cX12_strike 160 = .ok (.iconst (-1), 1)) ∧ (decode cX12_strike 161 = .ok (.istore 12, 2)) ∧ (decode cX12_strike 163 = .ok (.iload 12, 2)) ∧ (decode cX12_strike 165 = .ok (.iconst (-1), 1)) ∧ (decode cX12_strike 166 = .ok (.if_icmp .ne 6, 3)) ∧ (decode cX12_strike 169 = .ok (.goto 29, 3)) ∧ (decode cX12_strike 172 = .ok (.aload_n 0, 1)) := by decide +kernel
theorem kd28_139 : (decode cX12_strike 173 = .ok (.iload 12, 2)) ∧ (decode cX12_strike 175 = .ok (.putfield 192, 3)) ∧ (decode cX12_strike 178 = .ok (.aload_n 0, 1)) ∧ (decode cX12_strike 179 = .ok (.iload 12, 2)) ∧ (decode cX12_strike 181 = .ok (.iconst 2, 1)) ∧ (decode cX12_strike 182 = .ok (.if_icmp .ne 8, 3)) ∧ (decode cX12_strike 185 = .ok (.iload 10, 2)) ∧ (decode cX12_strike 187 = .ok (.goto 5, 3)) ∧ (decode cX12_strike 190 = .ok (.iload 11, 2)) ∧ (decode cX12_strike 192 = .ok (.putfield 195, 3)) ∧ (decode cX12_strike 195 = .ok (.iload 9, 2)) ∧ (decode cX12_strike 197 = .ok (.ireturn, 1)) := by decide +kernel
theorem kd28_140 : (decode cX12_strike 198 = .ok (.iinc 9 1, 3)) ∧ (decode cX12_strike 201 = .ok (.goto (-121), 3)) ∧ (decode cX12_strike 204 = .ok (.iconst (-1), 1)) ∧ (decode cX12_strike 205 = .ok (.ireturn, 1)) ∧ (decode cX12_struck 0 = .ok (.aload_n 0, 1)) ∧ (decode cX12_struck 1 = .ok (.iconst 0, 1)) ∧ (decode cX12_struck 2 = .ok (.putfield 198, 3)) ∧ (decode cX12_struck 5 = .ok (.iload_n 1, 1)) ∧ (decode cX12_struck 6 = .ok (.ifCond .ne 10, 3)) ∧ (decode cX12_struck 9 = .ok (.aload_n 0, 1)) ∧ (decode cX12_struck 10 = .ok (.getfield 192, 3)) ∧ (decode cX12_struck 13 = .ok (.goto 16, 3)) := by decide +kernel
theorem kd28_141 : (decode cX12_struck 16 = .ok (.iload_n 1, 1)) ∧ (decode cX12_struck 17 = .ok (.iconst 1, 1)) ∧ (decode cX12_struck 18 = .ok (.if_icmp .ne 10, 3)) ∧ (decode cX12_struck 21 = .ok (.aload_n 0, 1)) ∧ (decode cX12_struck 22 = .ok (.getfield 195, 3)) ∧ (decode cX12_struck 25 = .ok (.goto 4, 3)) ∧ (decode cX12_struck 28 = .ok (.iconst (-1), 1)) ∧ (decode cX12_struck 29 = .ok (.ireturn, 1)) ∧ (decode cX12_table 0 = .ok (.aload_n 0, 1)) ∧ (decode cX12_table 1 = .ok (.iconst 0, 1)) ∧ (decode cX12_table 2 = .ok (.putfield 198, 3)) ∧ (decode cX12_table 5 = .ok (.iload_n 1, 1)) := by decide +kernel
theorem kd28_142 : (decode cX12_table 6 = .ok (.iconst 0, 1)) ∧ (decode cX12_table 7 = .ok (.iconst 1, 1)) ∧ (decode cX12_table 8 = .ok (.invokestatic 211, 3)) ∧ (decode cX12_table 11 = .ok (.ifCond .eq 34, 3)) ∧ (decode cX12_table 14 = .ok (.iload_n 2, 1)) ∧ (decode cX12_table 15 = .ok (.iconst 0, 1)) ∧ (decode cX12_table 16 = .ok (.iload_n 1, 1)) ∧ (decode cX12_table 17 = .ok (.ifCond .ne 7, 3)) ∧ (decode cX12_table 20 = .ok (.iconst 4, 1)) ∧ (decode cX12_table 21 = .ok (.goto 5, 3)) ∧ (decode cX12_table 24 = .ok (.bipush 6, 2)) ∧ (decode cX12_table 26 = .ok (.iconst 1, 1)) := by decide +kernel
theorem kd28_143 : (decode cX12_table 27 = .ok (.isub, 1)) ∧ (decode cX12_table 28 = .ok (.invokestatic 211, 3)) ∧ (decode cX12_table 31 = .ok (.ifCond .eq 14, 3)) ∧ (decode cX12_table 34 = .ok (.iload_n 3, 1)) ∧ (decode cX12_table 35 = .ok (.iconst 0, 1)) ∧ (decode cX12_table 36 = .ok (.sipush 300, 3)) ∧ (decode cX12_table 39 = .ok (.invokestatic 211, 3)) ∧ (decode cX12_table 42 = .ok (.ifCond .ne 5, 3)) ∧ (decode cX12_table 45 = .ok (.iconst 0, 1)) ∧ (decode cX12_table 46 = .ok (.ireturn, 1)) ∧ (decode cX12_table 47 = .ok (.iload_n 1, 1)) ∧ (decode cX12_table 48 = .ok (.ifCond .ne 13, 3)) := by decide +kernel
theorem kd28_144 : (decode cX12_table 51 = .ok (.aload_n 0, 1)) ∧ (decode cX12_table 52 = .ok (.getfield 41, 3)) ∧ (decode cX12_table 55 = .ok (.iload_n 2, 1)) ∧ (decode cX12_table 56 = .ok (.iload_n 3, 1)) ∧ (decode cX12_table 57 = .ok (.iastore, 1)) ∧ (decode cX12_table 58 = .ok (.goto 10, 3)) ∧ (decode cX12_table 61 = .ok (.aload_n 0, 1)) ∧ (decode cX12_table 62 = .ok (.getfield 44, 3)) ∧ (decode cX12_table 65 = .ok (.iload_n 2, 1)) ∧ (decode cX12_table 66 = .ok (.iload_n 3, 1)) ∧ (decode cX12_table 67 = .ok (.iastore, 1)) ∧ (decode cX12_table 68 = .ok (.iconst 1, 1)) := by decide +kernel
theorem kd28_145 : (decode cX12_table 69 = .ok (.ireturn, 1)) ∧ (decode cX12_termsFor 0 = .ok (.iconst (-1), 1)) ∧ (decode cX12_termsFor 1 = .ok (.istore_n 2, 1)) ∧ (decode cX12_termsFor 2 = .ok (.iconst 0, 1)) ∧ (decode cX12_termsFor 3 = .ok (.istore_n 3, 1)) ∧ (decode cX12_termsFor 4 = .ok (.iload_n 3, 1)) ∧ (decode cX12_termsFor 5 = .ok (.aload_n 0, 1)) ∧ (decode cX12_termsFor 6 = .ok (.getfield 373, 3)) ∧ (decode cX12_termsFor 9 = .ok (.if_icmp .ge 41, 3)) ∧ (decode cX12_termsFor 12 = .ok (.aload_n 0, 1)) ∧ (decode cX12_termsFor 13 = .ok (.getfield 53, 3)) ∧ (decode cX12_termsFor 16 = .ok (.iload_n 3, 1)) := by decide +kernel
theorem kd28_146 : (decode cX12_termsFor 17 = .ok (.iaload, 1)) ∧ (decode cX12_termsFor 18 = .ok (.iload_n 1, 1)) ∧ (decode cX12_termsFor 19 = .ok (.if_icmp .gt 25, 3)) ∧ (decode cX12_termsFor 22 = .ok (.iload_n 2, 1)) ∧ (decode cX12_termsFor 23 = .ok (.iconst (-1), 1)) ∧ (decode cX12_termsFor 24 = .ok (.if_icmp .eq 18, 3)) ∧ (decode cX12_termsFor 27 = .ok (.aload_n 0, 1)) ∧ (decode cX12_termsFor 28 = .ok (.getfield 53, 3)) ∧ (decode cX12_termsFor 31 = .ok (.iload_n 3, 1)) ∧ (decode cX12_termsFor 32 = .ok (.iaload, 1)) ∧ (decode cX12_termsFor 33 = .ok (.aload_n 0, 1)) ∧ (decode cX12_termsFor 34 = .ok (.getfield 53, 3)) := by decide +kernel
theorem kd28_147 : (decode cX12_termsFor 37 = .ok (.iload_n 2, 1)) ∧ (decode cX12_termsFor 38 = .ok (.iaload, 1)) ∧ (decode cX12_termsFor 39 = .ok (.if_icmp .lt 5, 3)) ∧ (decode cX12_termsFor 42 = .ok (.iload_n 3, 1)) ∧ (decode cX12_termsFor 43 = .ok (.istore_n 2, 1)) ∧ (decode cX12_termsFor 44 = .ok (.iinc 3 1, 3)) ∧ (decode cX12_termsFor 47 = .ok (.goto (-43), 3)) ∧ (decode cX12_termsFor 50 = .ok (.iload_n 2, 1)) ∧ (decode cX12_termsFor 51 = .ok (.ireturn, 1)) ∧ (decode cX12_triedEaten 0 = .ok (.aload_n 0, 1)) ∧ (decode cX12_triedEaten 1 = .ok (.iconst 0, 1)) ∧ (decode cX12_triedEaten 2 = .ok (.putfield 198, 3)) := by decide +kernel
theorem kd28_148 : (decode cX12_triedEaten 5 = .ok (.aload_n 0, 1)) ∧ (decode cX12_triedEaten 6 = .ok (.getfield 150, 3)) ∧ (decode cX12_triedEaten 9 = .ok (.ireturn, 1)) ∧ (decode cX12_truckAt 0 = .ok (.aload_n 0, 1)) ∧ (decode cX12_truckAt 1 = .ok (.iconst 0, 1)) ∧ (decode cX12_truckAt 2 = .ok (.putfield 198, 3)) ∧ (decode cX12_truckAt 5 = .ok (.aload_n 0, 1)) ∧ (decode cX12_truckAt 6 = .ok (.getfield 477, 3)) ∧ (decode cX12_truckAt 9 = .ok (.ifCond .eq 24, 3)) ∧ (decode cX12_truckAt 12 = .ok (.iload_n 1, 1)) ∧ (decode cX12_truckAt 13 = .ok (.ifCond .lt 20, 3)) ∧ (decode cX12_truckAt 16 = .ok (.iload_n 1, 1)) := by decide +kernel
theorem kd28_149 : (decode cX12_truckAt 17 = .ok (.aload_n 0, 1)) ∧ (decode cX12_truckAt 18 = .ok (.getfield 474, 3)) ∧ (decode cX12_truckAt 21 = .ok (.if_icmp .ge 12, 3)) ∧ (decode cX12_truckAt 24 = .ok (.aload_n 0, 1)) ∧ (decode cX12_truckAt 25 = .ok (.getfield 183, 3)) ∧ (decode cX12_truckAt 28 = .ok (.iload_n 1, 1)) ∧ (decode cX12_truckAt 29 = .ok (.iaload, 1)) ∧ (decode cX12_truckAt 30 = .ok (.goto 4, 3)) ∧ (decode cX12_truckAt 33 = .ok (.iconst (-1), 1)) ∧ (decode cX12_truckAt 34 = .ok (.ireturn, 1)) ∧ (decode cX12_want 0 = .ok (.aload_n 0, 1)) ∧ (decode cX12_want 1 = .ok (.iconst 0, 1)) := by decide +kernel
theorem kd28_150 : (decode cX12_want 2 = .ok (.putfield 198, 3)) ∧ (decode cX12_want 5 = .ok (.iload_n 1, 1)) ∧ (decode cX12_want 6 = .ok (.invokestatic 219, 3)) ∧ (decode cX12_want 9 = .ok (.ifCond .eq 21, 3)) ∧ (decode cX12_want 12 = .ok (.iload_n 2, 1)) ∧ (decode cX12_want 13 = .ok (.invokestatic 236, 3)) ∧ (decode cX12_want 16 = .ok (.ifCond .eq 14, 3)) ∧ (decode cX12_want 19 = .ok (.iload_n 3, 1)) ∧ (decode cX12_want 20 = .ok (.iconst 0, 1)) ∧ (decode cX12_want 21 = .ok (.sipush 400, 3)) ∧ (decode cX12_want 24 = .ok (.invokestatic 211, 3)) ∧ (decode cX12_want 27 = .ok (.ifCond .ne 5, 3)) := by decide +kernel
theorem kd28_151 : (decode cX12_want 30 = .ok (.iconst 0, 1)) ∧ (decode cX12_want 31 = .ok (.ireturn, 1)) ∧ (decode cX12_want 32 = .ok (.aload_n 0, 1)) ∧ (decode cX12_want 33 = .ok (.getfield 38, 3)) ∧ (decode cX12_want 36 = .ok (.iconst 4, 1)) ∧ (decode cX12_want 37 = .ok (.iload_n 1, 1)) ∧ (decode cX12_want 38 = .ok (.imul, 1)) ∧ (decode cX12_want 39 = .ok (.iload_n 2, 1)) ∧ (decode cX12_want 40 = .ok (.iadd, 1)) ∧ (decode cX12_want 41 = .ok (.iload_n 3, 1)) ∧ (decode cX12_want 42 = .ok (.iastore, 1)) ∧ (decode cX12_want 43 = .ok (.iconst 1, 1)) := by decide +kernel
theorem kd28_152 : (decode cX12_want 44 = .ok (.ireturn, 1)) ∧ (decode cX12_weather 0 = .ok (.aload_n 0, 1)) ∧ (decode cX12_weather 1 = .ok (.iconst 0, 1)) ∧ (decode cX12_weather 2 = .ok (.putfield 198, 3)) ∧ (decode cX12_weather 5 = .ok (.aload_n 0, 1)) ∧ (decode cX12_weather 6 = .ok (.invokevirtual 222, 3)) ∧ (decode cX12_weather 9 = .ok (.istore_n 1, 1)) ∧ (decode cX12_weather 10 = .ok (.iload_n 1, 1)) ∧ (decode cX12_weather 11 = .ok (.iconst 1, 1)) ∧ (decode cX12_weather 12 = .ok (.sipush 400, 3)) ∧ (decode cX12_weather 15 = .ok (.invokestatic 211, 3)) ∧ (decode cX12_weather 18 = .ok (.ifCond .ne 5, 3)) := by decide +kernel
theorem kd28_153 : (decode cX12_weather 21 = .ok (.iconst 0, 1)) ∧ (decode cX12_weather 22 = .ok (.ireturn, 1)) ∧ (decode cX12_weather 23 = .ok (.iconst 0, 1)) ∧ (decode cX12_weather 24 = .ok (.istore_n 2, 1)) ∧ (decode cX12_weather 25 = .ok (.iload_n 2, 1)) ∧ (decode cX12_weather 26 = .ok (.iload_n 1, 1)) ∧ (decode cX12_weather 27 = .ok (.if_icmp .ge 33, 3)) ∧ (decode cX12_weather 30 = .ok (.aload_n 0, 1)) ∧ (decode cX12_weather 31 = .ok (.getfield 7, 3)) ∧ (decode cX12_weather 34 = .ok (.iload_n 2, 1)) ∧ (decode cX12_weather 35 = .ok (.iaload, 1)) ∧ (decode cX12_weather 36 = .ok (.iconst 4, 1)) := by decide +kernel
theorem kd28_154 : (decode cX12_weather 37 = .ok (.if_icmp .lt 17, 3)) ∧ (decode cX12_weather 40 = .ok (.aload_n 0, 1)) ∧ (decode cX12_weather 41 = .ok (.getfield 7, 3)) ∧ (decode cX12_weather 44 = .ok (.iload_n 2, 1)) ∧ (decode cX12_weather 45 = .ok (.iaload, 1)) ∧ (decode cX12_weather 46 = .ok (.sipush 255, 3)) ∧ (decode cX12_weather 49 = .ok (.if_icmp .eq 5, 3)) ∧ (decode cX12_weather 52 = .ok (.iconst 0, 1)) ∧ (decode cX12_weather 53 = .ok (.ireturn, 1)) ∧ (decode cX12_weather 54 = .ok (.iinc 2 1, 3)) ∧ (decode cX12_weather 57 = .ok (.goto (-32), 3)) ∧ (decode cX12_weather 60 = .ok (.iconst 0, 1)) := by decide +kernel
theorem kd28_155 : (decode cX12_weather 61 = .ok (.istore_n 2, 1)) ∧ (decode cX12_weather 62 = .ok (.iload_n 2, 1)) ∧ (decode cX12_weather 63 = .ok (.iload_n 1, 1)) ∧ (decode cX12_weather 64 = .ok (.if_icmp .ge 50, 3)) ∧ (decode cX12_weather 67 = .ok (.aload_n 0, 1)) ∧ (decode cX12_weather 68 = .ok (.getfield 32, 3)) ∧ (decode cX12_weather 71 = .ok (.iload_n 2, 1)) ∧ (decode cX12_weather 72 = .ok (.aload_n 0, 1)) ∧ (decode cX12_weather 73 = .ok (.getfield 7, 3)) ∧ (decode cX12_weather 76 = .ok (.iload_n 2, 1)) ∧ (decode cX12_weather 77 = .ok (.iaload, 1)) ∧ (decode cX12_weather 78 = .ok (.iconst 4, 1)) := by decide +kernel
theorem kd28_156 : (decode cX12_weather 79 = .ok (.if_icmp .ge 12, 3)) ∧ (decode cX12_weather 82 = .ok (.aload_n 0, 1)) ∧ (decode cX12_weather 83 = .ok (.getfield 7, 3)) ∧ (decode cX12_weather 86 = .ok (.iload_n 2, 1)) ∧ (decode cX12_weather 87 = .ok (.iaload, 1)) ∧ (decode cX12_weather 88 = .ok (.goto 19, 3)) ∧ (decode cX12_weather 91 = .ok (.iload_n 2, 1)) ∧ (decode cX12_weather 92 = .ok (.ifCond .ne 7, 3)) ∧ (decode cX12_weather 95 = .ok (.iconst 0, 1)) ∧ (decode cX12_weather 96 = .ok (.goto 11, 3)) ∧ (decode cX12_weather 99 = .ok (.aload_n 0, 1)) ∧ (decode cX12_weather 100 = .ok (.getfield 32, 3)) := by decide +kernel
theorem kd28_157 : (decode cX12_weather 103 = .ok (.iload_n 2, 1)) ∧ (decode cX12_weather 104 = .ok (.iconst 1, 1)) ∧ (decode cX12_weather 105 = .ok (.isub, 1)) ∧ (decode cX12_weather 106 = .ok (.iaload, 1)) ∧ (decode cX12_weather 107 = .ok (.iastore, 1)) ∧ (decode cX12_weather 108 = .ok (.iinc 2 1, 3)) ∧ (decode cX12_weather 111 = .ok (.goto (-49), 3)) ∧ (decode cX12_weather 114 = .ok (.aload_n 0, 1)) ∧ (decode cX12_weather 115 = .ok (.iload_n 1, 1)) ∧ (decode cX12_weather 116 = .ok (.putfield 226, 3)) ∧ (decode cX12_weather 119 = .ok (.iconst 1, 1)) ∧ (decode cX12_weather 120 = .ok (.ireturn, 1)) := by decide +kernel
theorem kd28_158 : (decode cX12_why 0 = .ok (.aload_n 0, 1)) ∧ (decode cX12_why 1 = .ok (.iconst 0, 1)) ∧ (decode cX12_why 2 = .ok (.putfield 198, 3)) ∧ (decode cX12_why 5 = .ok (.aload_n 0, 1)) ∧ (decode cX12_why 6 = .ok (.getfield 120, 3)) ∧ (decode cX12_why 9 = .ok (.ireturn, 1)) := by decide +kernel
theorem fl_X12_102_13 : xF RX12 102 13 52 (.array .int) true := ⟨by decide, RX12, TX12, 91, tyX12, "PaperBoysModel", rfl, inlX12, tyX12_ok, nmX12, by decide, rfl, rfl, m_9_8, Or.inl rfl⟩
theorem fl_X12_105_13 : xF RX12 105 13 53 (.array .int) true := ⟨by decide, RX12, TX12, 91, tyX12, "PaperBoysModel", rfl, inlX12, tyX12_ok, nmX12, by decide, rfl, rfl, m_9_9, Or.inl rfl⟩
theorem fl_X12_108_13 : xF RX12 108 13 54 (.array .int) true := ⟨by decide, RX12, TX12, 91, tyX12, "PaperBoysModel", rfl, inlX12, tyX12_ok, nmX12, by decide, rfl, rfl, m_9_10, Or.inl rfl⟩
theorem fl_X12_111_13 : xF RX12 111 13 55 (.array .int) true := ⟨by decide, RX12, TX12, 91, tyX12, "PaperBoysModel", rfl, inlX12, tyX12_ok, nmX12, by decide, rfl, rfl, m_9_11, Or.inl rfl⟩
theorem fl_X12_114_13 : xF RX12 114 13 56 (.array .int) true := ⟨by decide, RX12, TX12, 91, tyX12, "PaperBoysModel", rfl, inlX12, tyX12_ok, nmX12, by decide, rfl, rfl, m_9_12, Or.inl rfl⟩
theorem fl_X12_117_13 : xF RX12 117 13 57 (.array .int) true := ⟨by decide, RX12, TX12, 91, tyX12, "PaperBoysModel", rfl, inlX12, tyX12_ok, nmX12, by decide, rfl, rfl, m_9_13, Or.inl rfl⟩
theorem fl_X12_120_13 : xF RX12 120 13 59 .int false := ⟨by decide, RX12, TX12, 91, tyX12, "PaperBoysModel", rfl, inlX12, tyX12_ok, nmX12, by decide, rfl, rfl, m_9_14, Or.inl rfl⟩
theorem fl_X12_129_13 : xF RX12 129 13 62 (.array .boolean) true := ⟨by decide, RX12, TX12, 91, tyX12, "PaperBoysModel", rfl, inlX12, tyX12_ok, nmX12, by decide, rfl, rfl, m_9_17, Or.inl rfl⟩
theorem fl_X12_135_13 : xF RX12 135 13 64 (.array .int) true := ⟨by decide, RX12, TX12, 91, tyX12, "PaperBoysModel", rfl, inlX12, tyX12_ok, nmX12, by decide, rfl, rfl, m_9_19, Or.inl rfl⟩
theorem fl_X12_138_13 : xF RX12 138 13 65 (.array .int) true := ⟨by decide, RX12, TX12, 91, tyX12, "PaperBoysModel", rfl, inlX12, tyX12_ok, nmX12, by decide, rfl, rfl, m_9_20, Or.inl rfl⟩
theorem fl_X12_13_13 : xF RX12 13 13 4 (.array .int) true := ⟨by decide, RX12, TX12, 91, tyX12, "PaperBoysModel", rfl, inlX12, tyX12_ok, nmX12, by decide, rfl, rfl, m_8_3, Or.inl rfl⟩
theorem fl_X12_141_13 : xF RX12 141 13 66 (.array .int) true := ⟨by decide, RX12, TX12, 91, tyX12, "PaperBoysModel", rfl, inlX12, tyX12_ok, nmX12, by decide, rfl, rfl, m_9_21, Or.inl rfl⟩
theorem fl_X12_144_13 : xF RX12 144 13 67 (.array .int) true := ⟨by decide, RX12, TX12, 91, tyX12, "PaperBoysModel", rfl, inlX12, tyX12_ok, nmX12, by decide, rfl, rfl, m_9_22, Or.inl rfl⟩
theorem fl_X12_147_13 : xF RX12 147 13 68 (.array .int) true := ⟨by decide, RX12, TX12, 91, tyX12, "PaperBoysModel", rfl, inlX12, tyX12_ok, nmX12, by decide, rfl, rfl, m_9_23, Or.inl rfl⟩
theorem fl_X12_150_13 : xF RX12 150 13 71 .int false := ⟨by decide, RX12, TX12, 91, tyX12, "PaperBoysModel", rfl, inlX12, tyX12_ok, nmX12, by decide, rfl, rfl, m_10_0, Or.inl rfl⟩
theorem fl_X12_159_13 : xF RX12 159 13 74 (.array .int) true := ⟨by decide, RX12, TX12, 91, tyX12, "PaperBoysModel", rfl, inlX12, tyX12_ok, nmX12, by decide, rfl, rfl, m_10_3, Or.inl rfl⟩
theorem fl_X12_16_13 : xF RX12 16 13 5 (.array .int) true := ⟨by decide, RX12, TX12, 91, tyX12, "PaperBoysModel", rfl, inlX12, tyX12_ok, nmX12, by decide, rfl, rfl, m_8_4, Or.inl rfl⟩
theorem fl_X12_183_13 : xF RX12 183 13 84 (.array .int) true := ⟨by decide, RX12, TX12, 91, tyX12, "PaperBoysModel", rfl, inlX12, tyX12_ok, nmX12, by decide, rfl, rfl, m_10_11, Or.inl rfl⟩
theorem fl_X12_192_13 : xF RX12 192 13 89 .int false := ⟨by decide, RX12, TX12, 91, tyX12, "PaperBoysModel", rfl, inlX12, tyX12_ok, nmX12, by decide, rfl, rfl, m_10_14, Or.inl rfl⟩
theorem fl_X12_195_13 : xF RX12 195 13 90 .int false := ⟨by decide, RX12, TX12, 91, tyX12, "PaperBoysModel", rfl, inlX12, tyX12_ok, nmX12, by decide, rfl, rfl, m_10_15, Or.inl rfl⟩
theorem fl_X12_19_13 : xF RX12 19 13 6 (.array .int) true := ⟨by decide, RX12, TX12, 91, tyX12, "PaperBoysModel", rfl, inlX12, tyX12_ok, nmX12, by decide, rfl, rfl, m_8_5, Or.inl rfl⟩
theorem fl_X12_208_13 : xF RX12 208 13 16 .int false := ⟨by decide, RX12, TX12, 91, tyX12, "PaperBoysModel", rfl, inlX12, tyX12_ok, nmX12, by decide, rfl, rfl, m_15_11, Or.inl rfl⟩
theorem fl_X12_226_13 : xF RX12 226 13 17 .int false := ⟨by decide, RX12, TX12, 91, tyX12, "PaperBoysModel", rfl, inlX12, tyX12_ok, nmX12, by decide, rfl, rfl, m_18_11, Or.inl rfl⟩
theorem fl_X12_22_13 : xF RX12 22 13 7 (.array .int) true := ⟨by decide, RX12, TX12, 91, tyX12, "PaperBoysModel", rfl, inlX12, tyX12_ok, nmX12, by decide, rfl, rfl, m_8_6, Or.inl rfl⟩
theorem fl_X12_239_13 : xF RX12 239 13 3 .int false := ⟨by decide, RX12, TX12, 91, tyX12, "PaperBoysModel", rfl, inlX12, tyX12_ok, nmX12, by decide, rfl, rfl, m_19_23, Or.inl rfl⟩
theorem fl_X12_246_13 : xF RX12 246 13 18 .boolean false := ⟨by decide, RX12, TX12, 91, tyX12, "PaperBoysModel", rfl, inlX12, tyX12_ok, nmX12, by decide, rfl, rfl, m_22_6, Or.inl rfl⟩
theorem fl_X12_253_13 : xF RX12 253 13 19 .int false := ⟨by decide, RX12, TX12, 91, tyX12, "PaperBoysModel", rfl, inlX12, tyX12_ok, nmX12, by decide, rfl, rfl, m_28_15, Or.inl rfl⟩
theorem fl_X12_256_13 : xF RX12 256 13 20 .int false := ⟨by decide, RX12, TX12, 91, tyX12, "PaperBoysModel", rfl, inlX12, tyX12_ok, nmX12, by decide, rfl, rfl, m_28_20, Or.inl rfl⟩
theorem fl_X12_259_13 : xF RX12 259 13 21 .int false := ⟨by decide, RX12, TX12, 91, tyX12, "PaperBoysModel", rfl, inlX12, tyX12_ok, nmX12, by decide, rfl, rfl, m_29_2, Or.inl rfl⟩
theorem fl_X12_25_13 : xF RX12 25 13 8 (.array .boolean) true := ⟨by decide, RX12, TX12, 91, tyX12, "PaperBoysModel", rfl, inlX12, tyX12_ok, nmX12, by decide, rfl, rfl, m_8_7, Or.inl rfl⟩
theorem fl_X12_262_13 : xF RX12 262 13 22 .int false := ⟨by decide, RX12, TX12, 91, tyX12, "PaperBoysModel", rfl, inlX12, tyX12_ok, nmX12, by decide, rfl, rfl, m_28_21, Or.inl rfl⟩
theorem fl_X12_274_13 : xF RX12 274 13 24 .int false := ⟨by decide, RX12, TX12, 91, tyX12, "PaperBoysModel", rfl, inlX12, tyX12_ok, nmX12, by decide, rfl, rfl, m_29_3, Or.inl rfl⟩
theorem fl_X12_277_13 : xF RX12 277 13 28 .long false := ⟨by decide, RX12, TX12, 91, tyX12, "PaperBoysModel", rfl, inlX12, tyX12_ok, nmX12, by decide, rfl, rfl, m_29_4, Or.inl rfl⟩
theorem fl_X12_281_13 : xF RX12 281 13 23 .int false := ⟨by decide, RX12, TX12, 91, tyX12, "PaperBoysModel", rfl, inlX12, tyX12_ok, nmX12, by decide, rfl, rfl, m_29_5, Or.inl rfl⟩
theorem fl_X12_291_13 : xF RX12 291 13 25 .int false := ⟨by decide, RX12, TX12, 91, tyX12, "PaperBoysModel", rfl, inlX12, tyX12_ok, nmX12, by decide, rfl, rfl, m_28_16, Or.inl rfl⟩
theorem fl_X12_294_13 : xF RX12 294 13 26 .int false := ⟨by decide, RX12, TX12, 91, tyX12, "PaperBoysModel", rfl, inlX12, tyX12_ok, nmX12, by decide, rfl, rfl, m_28_8, Or.inl rfl⟩
theorem fl_X12_29_13 : xF RX12 29 13 9 (.array .int) true := ⟨by decide, RX12, TX12, 91, tyX12, "PaperBoysModel", rfl, inlX12, tyX12_ok, nmX12, by decide, rfl, rfl, m_8_8, Or.inl rfl⟩
theorem fl_X12_32_13 : xF RX12 32 13 10 (.array .int) true := ⟨by decide, RX12, TX12, 91, tyX12, "PaperBoysModel", rfl, inlX12, tyX12_ok, nmX12, by decide, rfl, rfl, m_8_9, Or.inl rfl⟩
theorem fl_X12_35_13 : xF RX12 35 13 11 (.array .int) true := ⟨by decide, RX12, TX12, 91, tyX12, "PaperBoysModel", rfl, inlX12, tyX12_ok, nmX12, by decide, rfl, rfl, m_8_10, Or.inl rfl⟩
theorem fl_X12_373_13 : xF RX12 373 13 39 .int false := ⟨by decide, RX12, TX12, 91, tyX12, "PaperBoysModel", rfl, inlX12, tyX12_ok, nmX12, by decide, rfl, rfl, m_28_7, Or.inl rfl⟩
theorem fl_X12_389_13 : xF RX12 389 13 58 .int false := ⟨by decide, RX12, TX12, 91, tyX12, "PaperBoysModel", rfl, inlX12, tyX12_ok, nmX12, by decide, rfl, rfl, m_36_5, Or.inl rfl⟩
theorem fl_X12_38_13 : xF RX12 38 13 12 (.array .int) true := ⟨by decide, RX12, TX12, 91, tyX12, "PaperBoysModel", rfl, inlX12, tyX12_ok, nmX12, by decide, rfl, rfl, m_8_11, Or.inl rfl⟩
theorem fl_X12_41_13 : xF RX12 41 13 13 (.array .int) true := ⟨by decide, RX12, TX12, 91, tyX12, "PaperBoysModel", rfl, inlX12, tyX12_ok, nmX12, by decide, rfl, rfl, m_8_12, Or.inl rfl⟩
theorem fl_X12_421_13 : xF RX12 421 13 69 .int false := ⟨by decide, RX12, TX12, 91, tyX12, "PaperBoysModel", rfl, inlX12, tyX12_ok, nmX12, by decide, rfl, rfl, m_43_13, Or.inl rfl⟩
theorem fl_X12_434_13 : xF RX12 434 13 70 .long false := ⟨by decide, RX12, TX12, 91, tyX12, "PaperBoysModel", rfl, inlX12, tyX12_ok, nmX12, by decide, rfl, rfl, m_47_4, Or.inl rfl⟩
theorem fl_X12_44_13 : xF RX12 44 13 14 (.array .int) true := ⟨by decide, RX12, TX12, 91, tyX12, "PaperBoysModel", rfl, inlX12, tyX12_ok, nmX12, by decide, rfl, rfl, m_8_13, Or.inl rfl⟩
theorem fl_X12_459_13 : xF RX12 459 13 78 .int false := ⟨by decide, RX12, TX12, 91, tyX12, "PaperBoysModel", rfl, inlX12, tyX12_ok, nmX12, by decide, rfl, rfl, m_51_20, Or.inl rfl⟩
theorem fl_X12_462_13 : xF RX12 462 13 79 .boolean false := ⟨by decide, RX12, TX12, 91, tyX12, "PaperBoysModel", rfl, inlX12, tyX12_ok, nmX12, by decide, rfl, rfl, m_51_21, Or.inl rfl⟩
theorem fl_X12_474_13 : xF RX12 474 13 87 .int false := ⟨by decide, RX12, TX12, 91, tyX12, "PaperBoysModel", rfl, inlX12, tyX12_ok, nmX12, by decide, rfl, rfl, m_55_16, Or.inl rfl⟩
theorem fl_X12_477_13 : xF RX12 477 13 88 .boolean false := ⟨by decide, RX12, TX12, 91, tyX12, "PaperBoysModel", rfl, inlX12, tyX12_ok, nmX12, by decide, rfl, rfl, m_55_17, Or.inl rfl⟩
theorem fl_X12_47_13 : xF RX12 47 13 15 (.array .int) true := ⟨by decide, RX12, TX12, 91, tyX12, "PaperBoysModel", rfl, inlX12, tyX12_ok, nmX12, by decide, rfl, rfl, m_8_14, Or.inl rfl⟩
theorem fl_X12_53_13 : xF RX12 53 13 30 (.array .int) true := ⟨by decide, RX12, TX12, 91, tyX12, "PaperBoysModel", rfl, inlX12, tyX12_ok, nmX12, by decide, rfl, rfl, m_8_16, Or.inl rfl⟩
theorem fl_X12_80_13 : xF RX12 80 13 45 (.array .int) true := ⟨by decide, RX12, TX12, 91, tyX12, "PaperBoysModel", rfl, inlX12, tyX12_ok, nmX12, by decide, rfl, rfl, m_9_1, Or.inl rfl⟩
theorem fl_X12_90_13 : xF RX12 90 13 48 (.array .int) true := ⟨by decide, RX12, TX12, 91, tyX12, "PaperBoysModel", rfl, inlX12, tyX12_ok, nmX12, by decide, rfl, rfl, m_9_4, Or.inl rfl⟩
theorem fl_X12_93_13 : xF RX12 93 13 49 (.array .int) true := ⟨by decide, RX12, TX12, 91, tyX12, "PaperBoysModel", rfl, inlX12, tyX12_ok, nmX12, by decide, rfl, rfl, m_9_5, Or.inl rfl⟩
theorem fl_X12_96_13 : xF RX12 96 13 50 (.array .int) true := ⟨by decide, RX12, TX12, 91, tyX12, "PaperBoysModel", rfl, inlX12, tyX12_ok, nmX12, by decide, rfl, rfl, m_9_6, Or.inl rfl⟩
theorem lk_X12_211 : xLS RX12 211 yX12_isIn cX12_isIn 3 (some .boolean) 3 := ⟨m_15_12, m_15_13, m_1_5, m_15_14, by decide +kernel⟩
theorem lk_X12_215 : xLV RX12 215 yX12_isBoy cX12_isBoy 2 (some .boolean) 1 := ⟨m_16_22, m_16_23, m_17_0, m_1_5, m_17_1, by decide +kernel⟩
theorem lk_X12_219 : xLS RX12 219 yX12_isCorner cX12_isCorner 1 (some .boolean) 1 := ⟨m_17_14, m_17_15, m_1_5, m_17_16, by decide +kernel⟩
theorem lk_X12_222 : xLV RX12 222 yX12_take cX12_take 2 (some .int) 0 := ⟨m_18_12, m_18_13, m_18_14, m_1_5, m_18_15, by decide +kernel⟩
theorem lk_X12_229 : xLS RX12 229 yX12_isDay cX12_isDay 1 (some .boolean) 1 := ⟨m_19_1, m_19_2, m_1_5, m_19_3, by decide +kernel⟩
theorem lk_X12_232 : xLV RX12 232 yX12_skyOf cX12_skyOf 2 (some .int) 1 := ⟨m_19_4, m_19_5, m_19_6, m_1_5, m_19_7, by decide +kernel⟩
theorem lk_X12_236 : xLS RX12 236 yX12_isPaper cX12_isPaper 1 (some .boolean) 1 := ⟨m_20_0, m_20_1, m_1_5, m_20_2, by decide +kernel⟩
theorem lk_X12_242 : xLV RX12 242 yX12_askedOf cX12_askedOf 5 (some .int) 4 := ⟨m_21_13, m_21_14, m_21_15, m_1_5, m_21_16, by decide +kernel⟩
theorem lk_X12_250 : xLV RX12 250 yX12_layWays cX12_layWays 2 none 0 := ⟨m_22_2, m_22_3, m_22_4, m_1_5, m_22_5, by decide +kernel⟩
theorem lk_X12_265 : xLS RX12 265 yX12_isLetter cX12_isLetter 1 (some .boolean) 1 := ⟨m_29_8, m_29_9, m_1_5, m_29_10, by decide +kernel⟩
theorem lk_X12_268 : xLS RX12 268 yX12_isDigit cX12_isDigit 1 (some .boolean) 1 := ⟨m_29_11, m_29_12, m_1_5, m_29_13, by decide +kernel⟩
theorem lk_X12_271 : xLS RX12 271 yX12_isMark cX12_isMark 1 (some .boolean) 1 := ⟨m_29_14, m_29_15, m_1_5, m_29_16, by decide +kernel⟩
theorem lk_X12_284 : xLV RX12 284 yX12_byteAt cX12_byteAt 2 (some .int) 1 := ⟨m_29_17, m_29_18, m_29_19, m_1_5, m_29_20, by decide +kernel⟩
theorem lk_X12_297 : xLS RX12 297 yX12_spelt cX12_spelt 7 (some .long) 5 := ⟨m_30_5, m_30_6, m_1_5, m_30_7, by decide +kernel⟩
theorem lk_X12_301 : xLV RX12 301 yX12_isKey cX12_isKey 3 (some .boolean) 1 := ⟨m_30_8, m_30_9, m_30_10, m_1_5, m_30_11, by decide +kernel⟩
theorem lk_X12_399 : xLS RX12 399 yX12_cost cX12_cost 2 (some .int) 2 := ⟨m_37_1, m_37_2, m_1_5, m_37_3, by decide +kernel⟩
theorem lk_X12_408 : xLV RX12 408 yX12_isAhead cX12_isAhead 5 (some .boolean) 2 := ⟨m_41_4, m_41_5, m_41_6, m_1_5, m_41_7, by decide +kernel⟩
theorem lk_X12_418 : xLV RX12 418 yX12_refuse cX12_refuse 1 (some .int) 0 := ⟨m_42_7, m_42_8, m_42_9, m_1_5, m_42_10, by decide +kernel⟩
theorem lk_X12_424 : xLV RX12 424 yX12_countOf cX12_countOf 7 (some .int) 4 := ⟨m_44_10, m_44_11, m_44_12, m_1_5, m_44_13, by decide +kernel⟩
theorem lk_X12_427 : xLV RX12 427 yX12_cameBack cX12_cameBack 6 (some .int) 3 := ⟨m_44_14, m_44_15, m_44_16, m_1_5, m_44_17, by decide +kernel⟩
theorem lk_X12_431 : xLV RX12 431 yX12_isFirst cX12_isFirst 3 (some .boolean) 1 := ⟨m_45_21, m_45_22, m_45_23, m_1_5, m_46_0, by decide +kernel⟩
theorem lk_X12_480 : xLS RX12 480 yX12_isSum cX12_isSum 1 (some .boolean) 1 := ⟨m_57_9, m_57_10, m_1_5, m_57_11, by decide +kernel⟩
set_option maxHeartbeats 4000000 in
set_option maxRecDepth 100000 in
theorem c_X12_byteAt (l : Launch) (D : va_G) (kA : Nat → ClassId) (b0 : Nat) (t0 : Nat → Nat) (S : xT) (g : xG) (a0 : Nat) (x1 : Int) (hs_a0 : S a0 = some (13, 0)) (hx1 : 0 ≤ x1 ∧ x1 ≤ 420) : xMt l yX12_byteAt cX12_byteAt 2 (some .int) 0 0 0 0 D kA b0 t0 [] [.ref a0, .int (iI x1)] S g (fun (r : Option Value) (S1 : xT) (g1 : xG) => S = S1 ∧ g = g1 ∧ ∃ z : Int, r = some (.int (iI z)) ∧ 0 ≤ z ∧ z ≤ 255 ∧ (z = 0 ∨ x1 ≤ 419)) := by
  refine xEnterI (by decide) (by simp [lg_sl, Value.category]) [(0, .ref a0), (1, .int (iI x1))] rfl ?_
  intro K E hK hret _ _ _
  refine X_iloadn hK (i := 1) 1 kd28_45.1 rfl rfl ?_
  refine X_aloadn hK (i := 0) 0 kd28_45.2.1 rfl rfl ?_
  refine X_geti hK fl_X12_253_13 hs_a0 sl_13_19 kd28_45.2.2.1 (fun z1 ez1 lz1 uz1 => ?_)
  refine X_icmp_ge hK 17 (by omega) (by omega) kd28_45.2.2.2.1 (by decide) (fun c2 => ?_) (fun c2 => ?_)
  · refine X_iconst hK kd28_45.2.2.2.2.2.2.2.2.2.1 ?_
    exact hret _ _ _ _ _ _ _ kd28_45.2.2.2.2.2.2.2.2.2.2.1 ⟨rfl, rfl, 0, rfl, (by omega), (by omega), (by omega)⟩ (Nat.le_refl _) (Nat.le_refl _)
  · refine X_aloadn hK (i := 0) 0 kd28_45.2.2.2.2.1 rfl rfl ?_
    refine X_getr hK 14100 420 fl_X12_7_13 hs_a0 sl_13_1 kd28_45.2.2.2.2.2.1 (fun b3 eb3 hs_b3 => ?_)
    refine X_iloadn hK (i := 1) 1 kd28_45.2.2.2.2.2.2.1 rfl rfl ?_
    refine X_iald hK hs_b3 (by decide) sl_14100 (by omega) (by omega) kd28_45.2.2.2.2.2.2.2.1 (fun z4 ez4 lz4 uz4 => ?_)
    refine X_goto hK 18 kd28_45.2.2.2.2.2.2.2.2.1 (by decide) ?_
    exact hret _ _ _ _ _ _ _ kd28_45.2.2.2.2.2.2.2.2.2.2.1 ⟨rfl, rfl, z4, rfl, (by omega), (by omega), (by omega)⟩ (Nat.le_refl _) (Nat.le_refl _)

set_option maxHeartbeats 4000000 in
set_option maxRecDepth 100000 in
theorem c_X12_table (l : Launch) (D : va_G) (kA : Nat → ClassId) (b0 : Nat) (t0 : Nat → Nat) (S : xT) (g : xG) (a0 : Nat) (x1 : Int) (x2 : Int) (x3 : Int) (wt : Nat) (ld : Nat) (hs_a0 : S a0 = some (13, 0)) (hx1 : (-2147483648) ≤ x1 ∧ x1 ≤ 2147483647) (hx2 : (-2147483648) ≤ x2 ∧ x2 ≤ 2147483647) (hx3 : (-2147483648) ≤ x3 ∧ x3 ≤ 2147483647) (ewt : g a0 13 = .ref wt) (hs_wt : S wt = some (15000, 4)) (eld : g a0 14 = .ref ld) (hs_ld : S ld = some (15100, 6)) : xMt l yX12_table cX12_table 4 (some .boolean) 1 0 0 22 D kA b0 t0 [(13, 0), (15100, 0), (15000, 0)] [.ref a0, .int (iI x1), .int (iI x2), .int (iI x3)] S g (fun (r : Option Value) (S1 : xT) (g1 : xG) => S = S1 ∧ ∃ z : Int, r = some (.int (iI z)) ∧ 0 ≤ z ∧ z ≤ 1 ∧ ((z = 1 ↔ 0 ≤ x3 ∧ x3 ≤ 300 ∧ ((x1 = 0 ∧ 0 ≤ x2 ∧ x2 ≤ 3) ∨ (x1 = 1 ∧ 0 ≤ x2 ∧ x2 ≤ 5)))) ∧ (xTb (xv g1 wt) (xv g wt) (xv g1 ld) (xv g ld) z x1 x2 x3)) := by
  refine xEnterZ (by decide) (by simp [lg_sl, Value.category]) [(0, .ref a0), (1, .int (iI x1)), (2, .int (iI x2)), (3, .int (iI x3))] rfl ?_
  intro K E hK hret _ _ _
  refine X_aloadn hK (i := 0) 0 kd28_141.2.2.2.2.2.2.2.2.1 rfl rfl ?_
  refine X_iconst hK kd28_141.2.2.2.2.2.2.2.2.2.1 ?_
  refine X_puti hK fl_X12_198_13 hs_a0 (by decide) sl_13_0 (by omega) (by omega) kd28_141.2.2.2.2.2.2.2.2.2.2.1 (fun g1 hg1 => ?_)
  refine X_iloadn hK (i := 1) 1 kd28_141.2.2.2.2.2.2.2.2.2.2.2 rfl rfl ?_
  refine X_iconst hK kd28_142.1 ?_
  refine X_iconst hK kd28_142.2.1 ?_
  refine X_callS hK [.int (iI x1), .int (iI 0), .int (iI 1)] [] lk_X12_211 (c_X12_isIn _ _ _ _ _ S g1 x1 0 1 (by omega) (by omega) (by omega)) kd28_142.2.2.1 rfl rfl (by simp [Value.category]) (by decide) (by decide) (by decide) (by decide) (fun r2 S4 g3 pr2 qr2 hg3 => ?_)
  obtain ⟨rfl, rfl, z5, rfl, lz5, uz5, k6⟩ := pr2
  refine X_st [.int (iI z5)] rfl ?_
  refine X_if_eq hK 45 (by omega) kd28_142.2.2.2.1 (by decide) (fun c7 => ?_) (fun c7 => ?_)
  · refine X_iconst hK kd28_143.2.2.2.2.2.2.2.2.1 ?_
    exact hret _ _ _ _ _ _ _ kd28_143.2.2.2.2.2.2.2.2.2.1 (by omega) (by omega) ⟨rfl, 0, rfl, (by omega), (by omega), (by omega), (Or.inr (Or.inr ⟨by omega, (xv_a hg1 (xne hs_wt hs_a0 (by decide))), (xv_a hg1 (xne hs_ld hs_a0 (by decide)))⟩))⟩ (Nat.le_refl _) (Nat.le_refl _)
  · refine X_iloadn hK (i := 2) 2 kd28_142.2.2.2.2.1 rfl rfl ?_
    refine X_iconst hK kd28_142.2.2.2.2.2.1 ?_
    refine X_iloadn hK (i := 1) 1 kd28_142.2.2.2.2.2.2.1 rfl rfl ?_
    refine X_if_ne hK 24 (by omega) kd28_142.2.2.2.2.2.2.2.1 (by decide) (fun c8 => ?_) (fun c8 => ?_)
    · refine X_bipush hK kd28_142.2.2.2.2.2.2.2.2.2.2.1 (by decide) ?_
      refine X_iconst hK kd28_142.2.2.2.2.2.2.2.2.2.2.2 ?_
      refine X_isub hK kd28_143.1 ?_
      refine X_callS hK [.int (iI x2), .int (iI 0), .int (iI (6 - 1))] [] lk_X12_211 (c_X12_isIn _ _ _ _ _ S g1 x2 0 (6 - 1) (by omega) (by omega) (by omega)) kd28_143.2.1 rfl rfl (by simp [Value.category]) (by decide) (by decide) (by decide) (by decide) (fun r9 S11 g10 pr9 qr9 hg10 => ?_)
      obtain ⟨rfl, rfl, z12, rfl, lz12, uz12, k13⟩ := pr9
      refine X_st [.int (iI z12)] rfl ?_
      refine X_if_eq hK 45 (by omega) kd28_143.2.2.1 (by decide) (fun c14 => ?_) (fun c14 => ?_)
      · refine X_iconst hK kd28_143.2.2.2.2.2.2.2.2.1 ?_
        exact hret _ _ _ _ _ _ _ kd28_143.2.2.2.2.2.2.2.2.2.1 (by omega) (by omega) ⟨rfl, 0, rfl, (by omega), (by omega), (by omega), (Or.inr (Or.inr ⟨by omega, (xv_a hg1 (xne hs_wt hs_a0 (by decide))), (xv_a hg1 (xne hs_ld hs_a0 (by decide)))⟩))⟩ (Nat.le_refl _) (Nat.le_refl _)
      · refine X_iloadn hK (i := 3) 3 kd28_143.2.2.2.1 rfl rfl ?_
        refine X_iconst hK kd28_143.2.2.2.2.1 ?_
        refine X_sipush hK kd28_143.2.2.2.2.2.1 (by decide) ?_
        refine X_callS hK [.int (iI x3), .int (iI 0), .int (iI 300)] [] lk_X12_211 (c_X12_isIn _ _ _ _ _ S g1 x3 0 300 (by omega) (by omega) (by omega)) kd28_143.2.2.2.2.2.2.1 rfl rfl (by simp [Value.category]) (by decide) (by decide) (by decide) (by decide) (fun r15 S17 g16 pr15 qr15 hg16 => ?_)
        obtain ⟨rfl, rfl, z18, rfl, lz18, uz18, k19⟩ := pr15
        refine X_st [.int (iI z18)] rfl ?_
        refine X_if_ne hK 47 (by omega) kd28_143.2.2.2.2.2.2.2.1 (by decide) (fun c20 => ?_) (fun c20 => ?_)
        · refine X_iloadn hK (i := 1) 1 kd28_143.2.2.2.2.2.2.2.2.2.2.1 rfl rfl ?_
          refine X_if_ne hK 61 (by omega) kd28_143.2.2.2.2.2.2.2.2.2.2.2 (by decide) (fun c21 => ?_) (fun c21 => False.elim (by omega))
          refine X_aloadn hK (i := 0) 0 kd28_144.2.2.2.2.2.2.1 rfl rfl ?_
          refine X_getK hK fl_X12_44_13 hs_a0 ((xs_k hg1 (by decide)).trans eld) kd28_144.2.2.2.2.2.2.2.1 ?_
          refine X_iloadn hK (i := 2) 2 kd28_144.2.2.2.2.2.2.2.2.1 rfl rfl ?_
          refine X_iloadn hK (i := 3) 3 kd28_144.2.2.2.2.2.2.2.2.2.1 rfl rfl ?_
          refine X_iast hK hs_ld (by decide) (by decide) sl_15100 (by omega) (by omega) (by omega) (by omega) kd28_144.2.2.2.2.2.2.2.2.2.2.1 (fun g22 hg22 => ?_)
          refine X_iconst hK kd28_144.2.2.2.2.2.2.2.2.2.2.2 ?_
          exact hret _ _ _ _ _ _ _ kd28_145.1 (by omega) (by omega) ⟨rfl, 1, rfl, (by omega), (by omega), (by omega), (Or.inr (Or.inl ⟨rfl, by omega, (Eq.trans (xv_a hg22 (xne hs_wt hs_ld (by decide))) (xv_a hg1 (xne hs_wt hs_a0 (by decide)))), (by rw [← (xv_a hg1 (xne hs_ld hs_a0 (by decide)))]; exact (xUp.of hg22 (by omega) (by omega)))⟩))⟩ (Nat.le_refl _) (Nat.le_refl _)
        · refine X_iconst hK kd28_143.2.2.2.2.2.2.2.2.1 ?_
          exact hret _ _ _ _ _ _ _ kd28_143.2.2.2.2.2.2.2.2.2.1 (by omega) (by omega) ⟨rfl, 0, rfl, (by omega), (by omega), (by omega), (Or.inr (Or.inr ⟨by omega, (xv_a hg1 (xne hs_wt hs_a0 (by decide))), (xv_a hg1 (xne hs_ld hs_a0 (by decide)))⟩))⟩ (Nat.le_refl _) (Nat.le_refl _)
    · refine X_iconst hK kd28_142.2.2.2.2.2.2.2.2.1 ?_
      refine X_goto hK 26 kd28_142.2.2.2.2.2.2.2.2.2.1 (by decide) ?_
      refine X_iconst hK kd28_142.2.2.2.2.2.2.2.2.2.2.2 ?_
      refine X_isub hK kd28_143.1 ?_
      refine X_callS hK [.int (iI x2), .int (iI 0), .int (iI (4 - 1))] [] lk_X12_211 (c_X12_isIn _ _ _ _ _ S g1 x2 0 (4 - 1) (by omega) (by omega) (by omega)) kd28_143.2.1 rfl rfl (by simp [Value.category]) (by decide) (by decide) (by decide) (by decide) (fun r23 S25 g24 pr23 qr23 hg24 => ?_)
      obtain ⟨rfl, rfl, z26, rfl, lz26, uz26, k27⟩ := pr23
      refine X_st [.int (iI z26)] rfl ?_
      refine X_if_eq hK 45 (by omega) kd28_143.2.2.1 (by decide) (fun c28 => ?_) (fun c28 => ?_)
      · refine X_iconst hK kd28_143.2.2.2.2.2.2.2.2.1 ?_
        exact hret _ _ _ _ _ _ _ kd28_143.2.2.2.2.2.2.2.2.2.1 (by omega) (by omega) ⟨rfl, 0, rfl, (by omega), (by omega), (by omega), (Or.inr (Or.inr ⟨by omega, (xv_a hg1 (xne hs_wt hs_a0 (by decide))), (xv_a hg1 (xne hs_ld hs_a0 (by decide)))⟩))⟩ (Nat.le_refl _) (Nat.le_refl _)
      · refine X_iloadn hK (i := 3) 3 kd28_143.2.2.2.1 rfl rfl ?_
        refine X_iconst hK kd28_143.2.2.2.2.1 ?_
        refine X_sipush hK kd28_143.2.2.2.2.2.1 (by decide) ?_
        refine X_callS hK [.int (iI x3), .int (iI 0), .int (iI 300)] [] lk_X12_211 (c_X12_isIn _ _ _ _ _ S g1 x3 0 300 (by omega) (by omega) (by omega)) kd28_143.2.2.2.2.2.2.1 rfl rfl (by simp [Value.category]) (by decide) (by decide) (by decide) (by decide) (fun r29 S31 g30 pr29 qr29 hg30 => ?_)
        obtain ⟨rfl, rfl, z32, rfl, lz32, uz32, k33⟩ := pr29
        refine X_st [.int (iI z32)] rfl ?_
        refine X_if_ne hK 47 (by omega) kd28_143.2.2.2.2.2.2.2.1 (by decide) (fun c34 => ?_) (fun c34 => ?_)
        · refine X_iloadn hK (i := 1) 1 kd28_143.2.2.2.2.2.2.2.2.2.2.1 rfl rfl ?_
          refine X_if_ne hK 61 (by omega) kd28_143.2.2.2.2.2.2.2.2.2.2.2 (by decide) (fun c35 => False.elim (by omega)) (fun c35 => ?_)
          refine X_aloadn hK (i := 0) 0 kd28_144.1 rfl rfl ?_
          refine X_getK hK fl_X12_41_13 hs_a0 ((xs_k hg1 (by decide)).trans ewt) kd28_144.2.1 ?_
          refine X_iloadn hK (i := 2) 2 kd28_144.2.2.1 rfl rfl ?_
          refine X_iloadn hK (i := 3) 3 kd28_144.2.2.2.1 rfl rfl ?_
          refine X_iast hK hs_wt (by decide) (by decide) sl_15000 (by omega) (by omega) (by omega) (by omega) kd28_144.2.2.2.2.1 (fun g36 hg36 => ?_)
          refine X_goto hK 68 kd28_144.2.2.2.2.2.1 (by decide) ?_
          refine X_iconst hK kd28_144.2.2.2.2.2.2.2.2.2.2.2 ?_
          exact hret _ _ _ _ _ _ _ kd28_145.1 (by omega) (by omega) ⟨rfl, 1, rfl, (by omega), (by omega), (by omega), (Or.inl ⟨rfl, by omega, (by rw [← (xv_a hg1 (xne hs_wt hs_a0 (by decide)))]; exact (xUp.of hg36 (by omega) (by omega))), (Eq.trans (xv_a hg36 (xne hs_ld hs_wt (by decide))) (xv_a hg1 (xne hs_ld hs_a0 (by decide))))⟩)⟩ (Nat.le_refl _) (Nat.le_refl _)
        · refine X_iconst hK kd28_143.2.2.2.2.2.2.2.2.1 ?_
          exact hret _ _ _ _ _ _ _ kd28_143.2.2.2.2.2.2.2.2.2.1 (by omega) (by omega) ⟨rfl, 0, rfl, (by omega), (by omega), (by omega), (Or.inr (Or.inr ⟨by omega, (xv_a hg1 (xne hs_wt hs_a0 (by decide))), (xv_a hg1 (xne hs_ld hs_a0 (by decide)))⟩))⟩ (Nat.le_refl _) (Nat.le_refl _)

set_option maxHeartbeats 4000000 in
set_option maxRecDepth 100000 in
theorem c_X12_go (l : Launch) (D : va_G) (kA : Nat → ClassId) (b0 : Nat) (t0 : Nat → Nat) (S : xT) (g : xG) (a0 : Nat) (hs_a0 : S a0 = some (13, 0)) : xMt l yX12_go cX12_go 5 none 1 0 0 21 D kA b0 t0 [(13, 20), (13, 21), (13, 28), (13, 23), (13, 22), (13, 24)] [.ref a0] S g (fun (r : Option Value) (S1 : xT) (g1 : xG) => S = S1 ∧ r = none) := by
  refine xEnterV (by decide) (by simp [lg_sl, Value.category]) [(0, .ref a0)] rfl ?_
  intro K E hK hret _ _ _
  refine X_know hs_a0 (by decide) sl_13_20 (fun z1 ez1 lz1 uz1 => ?_)
  have P31006 : ∀ (nP31006 : Nat) (g24805 : xG) (_ : xM [(13, 20)] S g g24805) (q24806 : Int) (_ : 0 ≤ q24806) (_ : q24806 ≤ 420) (_ : g24805 a0 20 = .int (iI q24806)) (_ : 420 - q24806 < (nP31006 : Int)), X K E 0 [(0, .ref a0)] [] S g24805 0 0 := by
    intro nP31006
    induction nP31006 with
    | zero => intro g24805 hg24805 q24806 lq24806 uq24806 eq24806 mP31006; exact False.elim (by omega)
    | succ nP31006 ihP31006 =>
      intro g24805 hg24805 q24806 lq24806 uq24806 eq24806 mP31006
      refine X_aloadn hK (i := 0) 0 kd28_69.2.2.2.2.2.2.2.2.1 rfl rfl ?_
      refine X_getK hK fl_X12_256_13 hs_a0 eq24806 kd28_69.2.2.2.2.2.2.2.2.2.1 ?_
      refine X_aloadn hK (i := 0) 0 kd28_69.2.2.2.2.2.2.2.2.2.2.1 rfl rfl ?_
      refine X_geti hK fl_X12_253_13 hs_a0 sl_13_19 kd28_69.2.2.2.2.2.2.2.2.2.2.2 (fun z31007 ez31007 lz31007 uz31007 => ?_)
      have J31015 : X K E 52 [(0, .ref a0)] [] S g24805 0 0 := by
        refine X_aloadn hK (i := 0) 0 kd28_71.2.2.2.2.2.2.2.2.2.2.1 rfl rfl ?_
        refine X_aloadn hK (i := 0) 0 kd28_71.2.2.2.2.2.2.2.2.2.2.2 rfl rfl ?_
        refine X_getK hK fl_X12_256_13 hs_a0 eq24806 kd28_72.1 ?_
        refine X_puti hK fl_X12_259_13 hs_a0 (by decide) sl_13_21 (by omega) (by omega) kd28_72.2.1 (fun g31016 hg31016 => ?_)
        refine X_aloadn hK (i := 0) 0 kd28_72.2.2.1 rfl rfl ?_
        refine X_getK hK fl_X12_253_13 hs_a0 ((xs_k hg31016 (by decide)).trans ez31007) kd28_72.2.2.2.1 ?_
        refine X_sipush hK kd28_72.2.2.2.2.1 (by decide) ?_
        refine X_icmp_le hK 93 (by omega) (by omega) kd28_72.2.2.2.2.2.1 (by decide) (fun c31017 => ?_) (fun c31017 => ?_)
        · refine X_aloadn hK (i := 0) 0 kd28_73.2.2.2.2.2.1 rfl rfl ?_
          refine X_getK hK fl_X12_256_13 hs_a0 ((xs_k hg31016 (by decide)).trans eq24806) kd28_73.2.2.2.2.2.2.1 ?_
          refine X_aloadn hK (i := 0) 0 kd28_73.2.2.2.2.2.2.2.1 rfl rfl ?_
          refine X_getK hK fl_X12_253_13 hs_a0 ((xs_k hg31016 (by decide)).trans ez31007) kd28_73.2.2.2.2.2.2.2.2.1 ?_
          refine X_icmp_lt hK 110 (by omega) (by omega) kd28_73.2.2.2.2.2.2.2.2.2.1 (by decide) (fun c31018 => ?_) (fun c31018 => ?_)
          · refine X_aloadn hK (i := 0) 0 kd28_74.2.2.1 rfl rfl ?_
            refine X_getr hK 14100 420 fl_X12_7_13 hs_a0 sl_13_1 kd28_74.2.2.2.1 (fun b31019 eb31019 hs_b31019 => ?_)
            refine X_aloadn hK (i := 0) 0 kd28_74.2.2.2.2.1 rfl rfl ?_
            refine X_getK hK fl_X12_256_13 hs_a0 ((xs_k hg31016 (by decide)).trans eq24806) kd28_74.2.2.2.2.2.1 ?_
            refine X_iald hK hs_b31019 (by decide) sl_14100 (by omega) (by omega) kd28_74.2.2.2.2.2.2.1 (fun z31020 ez31020 lz31020 uz31020 => ?_)
            refine X_istoren hK (i := 1) [(1, .int (iI z31020)), (0, .ref a0)] kd28_74.2.2.2.2.2.2.2.1 rfl (by decide) rfl ?_
            refine X_iloadn hK (i := 1) 0 kd28_74.2.2.2.2.2.2.2.2.1 rfl rfl ?_
            refine X_callS hK [.int (iI z31020)] [] lk_X12_265 (c_X12_isLetter _ _ _ _ _ S g31016 z31020 (by omega)) kd28_74.2.2.2.2.2.2.2.2.2.1 rfl rfl (by simp [Value.category]) (by decide) (by decide) (by decide) (by decide) (fun r31021 S31023 g31022 pr31021 qr31021 hg31022 => ?_)
            obtain ⟨rfl, rfl, z31024, rfl, lz31024, uz31024, k31025⟩ := pr31021
            refine X_st [.int (iI z31024)] rfl ?_
            refine X_if_ne hK 166 (by omega) kd28_74.2.2.2.2.2.2.2.2.2.2.1 (by decide) (fun c31026 => ?_) (fun c31026 => ?_)
            · refine X_iloadn hK (i := 1) 0 kd28_76.2.2.2.2.2.2.2.2.1 rfl rfl ?_
              refine X_callS hK [.int (iI z31020)] [] lk_X12_265 (c_X12_isLetter _ _ _ _ _ S g31016 z31020 (by omega)) kd28_76.2.2.2.2.2.2.2.2.2.1 rfl rfl (by simp [Value.category]) (by decide) (by decide) (by decide) (by decide) (fun r31027 S31029 g31028 pr31027 qr31027 hg31028 => ?_)
              obtain ⟨rfl, rfl, z31030, rfl, lz31030, uz31030, k31031⟩ := pr31027
              refine X_st [.int (iI z31030)] rfl ?_
              refine X_istoren hK (i := 2) [(2, .int (iI z31030)), (1, .int (iI z31020)), (0, .ref a0)] kd28_76.2.2.2.2.2.2.2.2.2.2.1 rfl (by decide) rfl ?_
              refine X_iconst hK kd28_76.2.2.2.2.2.2.2.2.2.2.2 ?_
              refine X_istoren hK (i := 3) [(3, .int (iI 1)), (2, .int (iI z31030)), (1, .int (iI z31020)), (0, .ref a0)] kd28_77.1 rfl (by decide) rfl ?_
              refine X_aloadn hK (i := 0) 3 kd28_77.2.1 rfl rfl ?_
              refine X_lconst hK kd28_77.2.2.1 (fun y31032 => ?_)
              refine X_putl hK fl_X12_277_13 hs_a0 (by decide) sl_13_28 kd28_77.2.2.2.1 (fun g31033 hg31033 => ?_)
              refine X_aloadn hK (i := 0) 3 kd28_77.2.2.2.2.1 rfl rfl ?_
              refine X_iconst hK kd28_77.2.2.2.2.2.1 ?_
              refine X_puti hK fl_X12_281_13 hs_a0 (by decide) sl_13_23 (by omega) (by omega) kd28_77.2.2.2.2.2.2.1 (fun g31034 hg31034 => ?_)
              have P32330 : ∀ (nP32330 : Nat) (g32100 : xG) (_ : xM [(13, 20), (13, 23), (13, 28)] S g31034 g32100) (z32099 : Int) (_ : 0 ≤ z32099) (_ : z32099 ≤ 1) (q32101 : Int) (_ : 0 ≤ q32101) (_ : q32101 ≤ 420) (_ : g32100 a0 20 = .int (iI q32101)) (_ : 420 - q32101 < (nP32330 : Int)), X K E 183 [(3, .int (iI z32099)), (2, .int (iI z31030)), (1, .int (iI z31020)), (0, .ref a0)] [] S g32100 0 0 := by
                intro nP32330
                induction nP32330 with
                | zero => intro g32100 hg32100 z32099 lz32099 uz32099 q32101 lq32101 uq32101 eq32101 mP32330; exact False.elim (by omega)
                | succ nP32330 ihP32330 =>
                  intro g32100 hg32100 z32099 lz32099 uz32099 q32101 lq32101 uq32101 eq32101 mP32330
                  refine X_aloadn hK (i := 0) 3 kd28_77.2.2.2.2.2.2.2.1 rfl rfl ?_
                  refine X_aloadn hK (i := 0) 3 kd28_77.2.2.2.2.2.2.2.2.1 rfl rfl ?_
                  refine X_getK hK fl_X12_256_13 hs_a0 eq32101 kd28_77.2.2.2.2.2.2.2.2.2.1 ?_
                  refine X_callV hK [.int (iI q32101)] [] lk_X12_284 (c_X12_byteAt _ _ _ _ _ S g32100 a0 q32101 hs_a0 (by omega)) hs_a0 ⟨by decide, rfl⟩ kd28_77.2.2.2.2.2.2.2.2.2.2.1 rfl rfl (by simp [Value.category]) (by decide) (by decide) (by decide) (by decide) (fun r32331 S32333 g32332 pr32331 qr32331 hg32332 => ?_)
                  obtain ⟨rfl, rfl, z32334, rfl, lz32334, uz32334, k32335⟩ := pr32331
                  refine X_st [.int (iI z32334)] rfl ?_
                  refine X_callS hK [.int (iI z32334)] [] lk_X12_265 (c_X12_isLetter _ _ _ _ _ S g32100 z32334 (by omega)) kd28_77.2.2.2.2.2.2.2.2.2.2.2 rfl rfl (by simp [Value.category]) (by decide) (by decide) (by decide) (by decide) (fun r32336 S32338 g32337 pr32336 qr32336 hg32337 => ?_)
                  obtain ⟨rfl, rfl, z32339, rfl, lz32339, uz32339, k32340⟩ := pr32336
                  refine X_st [.int (iI z32339)] rfl ?_
                  refine X_if_ne hK 211 (by omega) kd28_78.1 (by decide) (fun c32341 => ?_) (fun c32341 => ?_)
                  · refine X_aloadn hK (i := 0) 3 kd28_78.2.2.2.2.2.2.2.1 rfl rfl ?_
                    refine X_getK hK fl_X12_7_13 hs_a0 ((hg32100 a0 13 0 1 hs_a0 (by decide)).trans ((xs_k hg31034 (by decide)).trans ((xs_k hg31033 (by decide)).trans eb31019))) kd28_78.2.2.2.2.2.2.2.2.1 ?_
                    refine X_aloadn hK (i := 0) 3 kd28_78.2.2.2.2.2.2.2.2.2.1 rfl rfl ?_
                    refine X_getK hK fl_X12_256_13 hs_a0 eq32101 kd28_78.2.2.2.2.2.2.2.2.2.2.1 ?_
                    refine X_iald hK hs_b31019 (by decide) sl_14100 (by omega) (by omega) kd28_78.2.2.2.2.2.2.2.2.2.2.2 (fun z32391 ez32391 lz32391 uz32391 => ?_)
                    refine X_istore hK (i := 4) [(4, .int (iI z32391)), (3, .int (iI z32099)), (2, .int (iI z31030)), (1, .int (iI z31020)), (0, .ref a0)] kd28_79.1 (by decide) rfl ?_
                    refine X_iloadn hK (i := 3) 1 kd28_79.2.1 rfl rfl ?_
                    have J32400 : ∀ (z32399 : Int) (lz32399 : 0 ≤ z32399) (uz32399 : z32399 ≤ 1), X K E 240 [(4, .int (iI z32391)), (3, .int (iI z32099)), (2, .int (iI z31030)), (1, .int (iI z31020)), (0, .ref a0)] [.int (iI z32399)] S g32100 0 0 := by
                      intro z32399 lz32399 uz32399
                      refine X_istoren hK (i := 3) [(3, .int (iI z32399)), (4, .int (iI z32391)), (2, .int (iI z31030)), (1, .int (iI z31020)), (0, .ref a0)] kd28_79.2.2.2.2.2.2.2.2.2.2.1 rfl (by decide) rfl ?_
                      refine X_aloadn hK (i := 0) 4 kd28_79.2.2.2.2.2.2.2.2.2.2.2 rfl rfl ?_
                      refine X_getK hK fl_X12_256_13 hs_a0 eq32101 kd28_80.1 ?_
                      refine X_aloadn hK (i := 0) 4 kd28_80.2.1 rfl rfl ?_
                      refine X_getK hK fl_X12_259_13 hs_a0 ((hg32100 a0 13 0 21 hs_a0 (by decide)).trans ((xs_k hg31034 (by decide)).trans ((xs_k hg31033 (by decide)).trans (xs_s hg31016)))) kd28_80.2.2.1 ?_
                      refine X_isub hK kd28_80.2.2.2.1 ?_
                      refine X_bipush hK kd28_80.2.2.2.2.1 (by decide) ?_
                      have J32410 : ∀ (g32411 : xG) (hg32411 : xM [(13, 28)] S g32100 g32411), X K E 275 [(3, .int (iI z32399)), (4, .int (iI z32391)), (2, .int (iI z31030)), (1, .int (iI z31020)), (0, .ref a0)] [] S g32411 0 0 := by
                        intro g32411 hg32411
                        refine X_aloadn hK (i := 0) 4 kd28_81.2.2.2.2.2.1 rfl rfl ?_
                        refine X_getK hK fl_X12_256_13 hs_a0 ((hg32411 a0 13 0 20 hs_a0 (by decide)).trans eq32101) kd28_81.2.2.2.2.2.2.1 ?_
                        refine X_aloadn hK (i := 0) 4 kd28_81.2.2.2.2.2.2.2.1 rfl rfl ?_
                        refine X_getK hK fl_X12_259_13 hs_a0 ((hg32411 a0 13 0 21 hs_a0 (by decide)).trans ((hg32100 a0 13 0 21 hs_a0 (by decide)).trans ((xs_k hg31034 (by decide)).trans ((xs_k hg31033 (by decide)).trans (xs_s hg31016))))) kd28_81.2.2.2.2.2.2.2.2.1 ?_
                        refine X_isub hK kd28_81.2.2.2.2.2.2.2.2.2.1 ?_
                        refine X_iconst hK kd28_81.2.2.2.2.2.2.2.2.2.2.1 ?_
                        have J32418 : ∀ (g32419 : xG) (hg32419 : xM [(13, 23)] S g32411 g32419), X K E 305 [(3, .int (iI z32399)), (4, .int (iI z32391)), (2, .int (iI z31030)), (1, .int (iI z31020)), (0, .ref a0)] [] S g32419 0 0 := by
                          intro g32419 hg32419
                          refine X_aloadn hK (i := 0) 4 kd28_82.2.2.2.2.2.2.2.2.2.2.1 rfl rfl ?_
                          refine X_dup hK kd28_82.2.2.2.2.2.2.2.2.2.2.2 rfl ?_
                          refine X_getK hK fl_X12_256_13 hs_a0 ((hg32419 a0 13 0 20 hs_a0 (by decide)).trans ((hg32411 a0 13 0 20 hs_a0 (by decide)).trans eq32101)) kd28_83.1 ?_
                          refine X_iconst hK kd28_83.2.1 ?_
                          refine X_iadd hK kd28_83.2.2.1 ?_
                          refine X_puti hK fl_X12_256_13 hs_a0 (by decide) sl_13_20 (by omega) (by omega) kd28_83.2.2.2.1 (fun g32420 hg32420 => ?_)
                          refine X_goto hK 183 kd28_83.2.2.2.2.1 (by decide) ?_
                          refine X_lv [(3, .int (iI z32399)), (2, .int (iI z31030)), (1, .int (iI z31020)), (0, .ref a0)] [0, 2, 3, 4] rfl ?_
                          exact ihP32330  g32420 (xM_up (xM.tr (xM.tr (xM.tr xM.rf xLe.rf hg32100 (by decide)) xLe.rf hg32411 (by decide)) xLe.rf hg32419 (by decide)) hg32420 hs_a0 (by decide) (by decide)) z32399 (by omega) (by omega) (q32101 + 1) (by omega) (by omega) (xs_s hg32420) (by omega)
                        refine X_icmp_ge hK 305 (by omega) (by omega) kd28_81.2.2.2.2.2.2.2.2.2.2.2 (by decide) (fun c32412 => ?_) (fun c32412 => ?_)
                        · exact J32418 g32411 xM.rf
                        · refine X_aloadn hK (i := 0) 4 kd28_82.1 rfl rfl ?_
                          refine X_bipush hK kd28_82.2.1 (by decide) ?_
                          refine X_aloadn hK (i := 0) 4 kd28_82.2.2.1 rfl rfl ?_
                          refine X_geti hK fl_X12_281_13 hs_a0 sl_13_23 kd28_82.2.2.2.1 (fun z32421 ez32421 lz32421 uz32421 => ?_)
                          refine X_imul hK kd28_82.2.2.2.2.1 ?_
                          refine X_norm (fun z32422 ez32422 lz32422 uz32422 => ?_)
                          refine X_iload hK (i := 4) 1 kd28_82.2.2.2.2.2.1 rfl ?_
                          refine X_iadd hK kd28_82.2.2.2.2.2.2.1 ?_
                          refine X_norm (fun z32423 ez32423 lz32423 uz32423 => ?_)
                          refine X_bipush hK kd28_82.2.2.2.2.2.2.2.1 (by decide) ?_
                          refine X_isub hK kd28_82.2.2.2.2.2.2.2.2.1 ?_
                          refine X_norm (fun z32424 ez32424 lz32424 uz32424 => ?_)
                          refine X_puti hK fl_X12_281_13 hs_a0 (by decide) sl_13_23 (by omega) (by omega) kd28_82.2.2.2.2.2.2.2.2.2.1 (fun g32425 hg32425 => ?_)
                          exact J32418 g32425 (xM_up xM.rf hg32425 hs_a0 (by decide) (by decide))
                      refine X_icmp_ge hK 275 (by omega) (by omega) kd28_80.2.2.2.2.2.1 (by decide) (fun c32401 => ?_) (fun c32401 => ?_)
                      · exact J32410 g32100 xM.rf
                      · refine X_aloadn hK (i := 0) 4 kd28_80.2.2.2.2.2.2.1 rfl rfl ?_
                        refine X_ldc2 hK kd28_80.2.2.2.2.2.2.2.1 m_29_6 (fun y32426 => ?_)
                        refine X_aloadn hK (i := 0) 4 kd28_80.2.2.2.2.2.2.2.2.1 rfl rfl ?_
                        refine X_getl hK fl_X12_277_13 hs_a0 sl_13_28 kd28_80.2.2.2.2.2.2.2.2.2.1 (fun y32427 ey32427 => ?_)
                        refine X_lmul hK kd28_80.2.2.2.2.2.2.2.2.2.2.1 (fun y32428 => ?_)
                        refine X_iload hK (i := 4) 1 kd28_80.2.2.2.2.2.2.2.2.2.2.2 rfl ?_
                        refine X_i2l hK kd28_81.1 (fun y32429 => ?_)
                        refine X_ladd hK kd28_81.2.1 (fun y32430 => ?_)
                        refine X_ldc2 hK kd28_81.2.2.1 m_29_7 (fun y32431 => ?_)
                        refine X_lsub hK kd28_81.2.2.2.1 (fun y32432 => ?_)
                        refine X_putl hK fl_X12_277_13 hs_a0 (by decide) sl_13_28 kd28_81.2.2.2.2.1 (fun g32433 hg32433 => ?_)
                        exact J32410 g32433 (xM_up xM.rf hg32433 hs_a0 (by decide) (by decide))
                    refine X_if_eq hK 239 (by omega) kd28_79.2.2.1 (by decide) (fun c32392 => ?_) (fun c32392 => ?_)
                    · refine X_iconst hK kd28_79.2.2.2.2.2.2.2.2.2.1 ?_
                      exact J32400 0 (by omega) (by omega)
                    · refine X_iload hK (i := 4) 0 kd28_79.2.2.2.1 rfl ?_
                      refine X_callS hK [.int (iI z32391)] [] lk_X12_265 (c_X12_isLetter _ _ _ _ _ S g32100 z32391 (by omega)) kd28_79.2.2.2.2.1 rfl rfl (by simp [Value.category]) (by decide) (by decide) (by decide) (by decide) (fun r32434 S32436 g32435 pr32434 qr32434 hg32435 => ?_)
                      obtain ⟨rfl, rfl, z32437, rfl, lz32437, uz32437, k32438⟩ := pr32434
                      refine X_st [.int (iI z32437)] rfl ?_
                      refine X_iloadn hK (i := 2) 2 kd28_79.2.2.2.2.2.1 rfl rfl ?_
                      refine X_icmp_ne hK 239 (by omega) (by omega) kd28_79.2.2.2.2.2.2.1 (by decide) (fun c32439 => ?_) (fun c32439 => ?_)
                      · refine X_iconst hK kd28_79.2.2.2.2.2.2.2.2.2.1 ?_
                        exact J32400 0 (by omega) (by omega)
                      · refine X_iconst hK kd28_79.2.2.2.2.2.2.2.1 ?_
                        refine X_goto hK 240 kd28_79.2.2.2.2.2.2.2.2.1 (by decide) ?_
                        exact J32400 1 (by omega) (by omega)
                  · refine X_aloadn hK (i := 0) 3 kd28_78.2.1 rfl rfl ?_
                    refine X_aloadn hK (i := 0) 3 kd28_78.2.2.1 rfl rfl ?_
                    refine X_getK hK fl_X12_256_13 hs_a0 eq32101 kd28_78.2.2.2.1 ?_
                    refine X_callV hK [.int (iI q32101)] [] lk_X12_284 (c_X12_byteAt _ _ _ _ _ S g32100 a0 q32101 hs_a0 (by omega)) hs_a0 ⟨by decide, rfl⟩ kd28_78.2.2.2.2.1 rfl rfl (by simp [Value.category]) (by decide) (by decide) (by decide) (by decide) (fun r32440 S32442 g32441 pr32440 qr32440 hg32441 => ?_)
                    obtain ⟨rfl, rfl, z32443, rfl, lz32443, uz32443, k32444⟩ := pr32440
                    refine X_st [.int (iI z32443)] rfl ?_
                    refine X_callS hK [.int (iI z32443)] [] lk_X12_268 (c_X12_isDigit _ _ _ _ _ S g32100 z32443 (by omega)) kd28_78.2.2.2.2.2.1 rfl rfl (by simp [Value.category]) (by decide) (by decide) (by decide) (by decide) (fun r32445 S32447 g32446 pr32445 qr32445 hg32446 => ?_)
                    obtain ⟨rfl, rfl, z32448, rfl, lz32448, uz32448, k32449⟩ := pr32445
                    refine X_st [.int (iI z32448)] rfl ?_
                    refine X_if_eq hK 318 (by omega) kd28_78.2.2.2.2.2.2.1 (by decide) (fun c32450 => ?_) (fun c32450 => ?_)
                    · refine X_aloadn hK (i := 0) 3 kd28_83.2.2.2.2.2.1 rfl rfl ?_
                      refine X_iloadn hK (i := 3) 0 kd28_83.2.2.2.2.2.2.1 rfl rfl ?_
                      refine X_if_eq hK 345 (by omega) kd28_83.2.2.2.2.2.2.2.1 (by decide) (fun c32500 => ?_) (fun c32500 => ?_)
                      · refine X_iconst hK kd28_84.2.2.2.2.2.2.2.1 ?_
                        refine X_goto hK 358 kd28_84.2.2.2.2.2.2.2.2.1 (by decide) ?_
                        refine X_puti hK fl_X12_262_13 hs_a0 (by decide) sl_13_22 (by omega) (by omega) kd28_85.2.2.1 (fun g32501 hg32501 => ?_)
                        exact hret _ _ _ _ _ _ kd28_85.2.2.2.1 ⟨rfl, rfl⟩ (Nat.le_refl _) (Nat.le_refl _)
                      · refine X_aloadn hK (i := 0) 3 kd28_83.2.2.2.2.2.2.2.2.1 rfl rfl ?_
                        refine X_getK hK fl_X12_256_13 hs_a0 eq32101 kd28_83.2.2.2.2.2.2.2.2.2.1 ?_
                        refine X_aloadn hK (i := 0) 3 kd28_83.2.2.2.2.2.2.2.2.2.2.1 rfl rfl ?_
                        refine X_getK hK fl_X12_259_13 hs_a0 ((hg32100 a0 13 0 21 hs_a0 (by decide)).trans ((xs_k hg31034 (by decide)).trans ((xs_k hg31033 (by decide)).trans (xs_s hg31016)))) kd28_83.2.2.2.2.2.2.2.2.2.2.2 ?_
                        refine X_isub hK kd28_84.1 ?_
                        refine X_iloadn hK (i := 2) 1 kd28_84.2.1 rfl rfl ?_
                        have J32504 : ∀ (z32503 : Int) (lz32503 : 4 ≤ z32503) (uz32503 : z32503 ≤ 8), X K E 342 [(3, .int (iI z32099)), (2, .int (iI z31030)), (1, .int (iI z31020)), (0, .ref a0)] [.int (iI z32503), .int (iI (q32101 - q24806)), .ref a0] S g32100 0 0 := by
                          intro z32503 lz32503 uz32503
                          refine X_icmp_le hK 349 (by omega) (by omega) kd28_84.2.2.2.2.2.2.1 (by decide) (fun c32505 => ?_) (fun c32505 => ?_)
                          · refine X_iloadn hK (i := 2) 1 kd28_84.2.2.2.2.2.2.2.2.2.1 rfl rfl ?_
                            refine X_if_eq hK 357 (by omega) kd28_84.2.2.2.2.2.2.2.2.2.2.1 (by decide) (fun c32506 => ?_) (fun c32506 => ?_)
                            · refine X_iconst hK kd28_85.2.1 ?_
                              refine X_puti hK fl_X12_262_13 hs_a0 (by decide) sl_13_22 (by omega) (by omega) kd28_85.2.2.1 (fun g32507 hg32507 => ?_)
                              exact hret _ _ _ _ _ _ kd28_85.2.2.2.1 ⟨rfl, rfl⟩ (Nat.le_refl _) (Nat.le_refl _)
                            · refine X_iconst hK kd28_84.2.2.2.2.2.2.2.2.2.2.2 ?_
                              refine X_goto hK 358 kd28_85.1 (by decide) ?_
                              refine X_puti hK fl_X12_262_13 hs_a0 (by decide) sl_13_22 (by omega) (by omega) kd28_85.2.2.1 (fun g32508 hg32508 => ?_)
                              exact hret _ _ _ _ _ _ kd28_85.2.2.2.1 ⟨rfl, rfl⟩ (Nat.le_refl _) (Nat.le_refl _)
                          · refine X_iconst hK kd28_84.2.2.2.2.2.2.2.1 ?_
                            refine X_goto hK 358 kd28_84.2.2.2.2.2.2.2.2.1 (by decide) ?_
                            refine X_puti hK fl_X12_262_13 hs_a0 (by decide) sl_13_22 (by omega) (by omega) kd28_85.2.2.1 (fun g32509 hg32509 => ?_)
                            exact hret _ _ _ _ _ _ kd28_85.2.2.2.1 ⟨rfl, rfl⟩ (Nat.le_refl _) (Nat.le_refl _)
                        refine X_if_eq hK 341 (by omega) kd28_84.2.2.1 (by decide) (fun c32502 => ?_) (fun c32502 => ?_)
                        · refine X_iconst hK kd28_84.2.2.2.2.2.1 ?_
                          exact J32504 4 (by omega) (by omega)
                        · refine X_bipush hK kd28_84.2.2.2.1 (by decide) ?_
                          refine X_goto hK 342 kd28_84.2.2.2.2.1 (by decide) ?_
                          exact J32504 8 (by omega) (by omega)
                    · refine X_aloadn hK (i := 0) 3 kd28_78.2.2.2.2.2.2.2.1 rfl rfl ?_
                      refine X_getK hK fl_X12_7_13 hs_a0 ((hg32100 a0 13 0 1 hs_a0 (by decide)).trans ((xs_k hg31034 (by decide)).trans ((xs_k hg31033 (by decide)).trans eb31019))) kd28_78.2.2.2.2.2.2.2.2.1 ?_
                      refine X_aloadn hK (i := 0) 3 kd28_78.2.2.2.2.2.2.2.2.2.1 rfl rfl ?_
                      refine X_getK hK fl_X12_256_13 hs_a0 eq32101 kd28_78.2.2.2.2.2.2.2.2.2.2.1 ?_
                      refine X_iald hK hs_b31019 (by decide) sl_14100 (by omega) (by omega) kd28_78.2.2.2.2.2.2.2.2.2.2.2 (fun z32510 ez32510 lz32510 uz32510 => ?_)
                      refine X_istore hK (i := 4) [(4, .int (iI z32510)), (3, .int (iI z32099)), (2, .int (iI z31030)), (1, .int (iI z31020)), (0, .ref a0)] kd28_79.1 (by decide) rfl ?_
                      refine X_iloadn hK (i := 3) 1 kd28_79.2.1 rfl rfl ?_
                      have J32519 : ∀ (z32518 : Int) (lz32518 : 0 ≤ z32518) (uz32518 : z32518 ≤ 1), X K E 240 [(4, .int (iI z32510)), (3, .int (iI z32099)), (2, .int (iI z31030)), (1, .int (iI z31020)), (0, .ref a0)] [.int (iI z32518)] S g32100 0 0 := by
                        intro z32518 lz32518 uz32518
                        refine X_istoren hK (i := 3) [(3, .int (iI z32518)), (4, .int (iI z32510)), (2, .int (iI z31030)), (1, .int (iI z31020)), (0, .ref a0)] kd28_79.2.2.2.2.2.2.2.2.2.2.1 rfl (by decide) rfl ?_
                        refine X_aloadn hK (i := 0) 4 kd28_79.2.2.2.2.2.2.2.2.2.2.2 rfl rfl ?_
                        refine X_getK hK fl_X12_256_13 hs_a0 eq32101 kd28_80.1 ?_
                        refine X_aloadn hK (i := 0) 4 kd28_80.2.1 rfl rfl ?_
                        refine X_getK hK fl_X12_259_13 hs_a0 ((hg32100 a0 13 0 21 hs_a0 (by decide)).trans ((xs_k hg31034 (by decide)).trans ((xs_k hg31033 (by decide)).trans (xs_s hg31016)))) kd28_80.2.2.1 ?_
                        refine X_isub hK kd28_80.2.2.2.1 ?_
                        refine X_bipush hK kd28_80.2.2.2.2.1 (by decide) ?_
                        have J32529 : ∀ (g32530 : xG) (hg32530 : xM [(13, 28)] S g32100 g32530), X K E 275 [(3, .int (iI z32518)), (4, .int (iI z32510)), (2, .int (iI z31030)), (1, .int (iI z31020)), (0, .ref a0)] [] S g32530 0 0 := by
                          intro g32530 hg32530
                          refine X_aloadn hK (i := 0) 4 kd28_81.2.2.2.2.2.1 rfl rfl ?_
                          refine X_getK hK fl_X12_256_13 hs_a0 ((hg32530 a0 13 0 20 hs_a0 (by decide)).trans eq32101) kd28_81.2.2.2.2.2.2.1 ?_
                          refine X_aloadn hK (i := 0) 4 kd28_81.2.2.2.2.2.2.2.1 rfl rfl ?_
                          refine X_getK hK fl_X12_259_13 hs_a0 ((hg32530 a0 13 0 21 hs_a0 (by decide)).trans ((hg32100 a0 13 0 21 hs_a0 (by decide)).trans ((xs_k hg31034 (by decide)).trans ((xs_k hg31033 (by decide)).trans (xs_s hg31016))))) kd28_81.2.2.2.2.2.2.2.2.1 ?_
                          refine X_isub hK kd28_81.2.2.2.2.2.2.2.2.2.1 ?_
                          refine X_iconst hK kd28_81.2.2.2.2.2.2.2.2.2.2.1 ?_
                          have J32537 : ∀ (g32538 : xG) (hg32538 : xM [(13, 23)] S g32530 g32538), X K E 305 [(3, .int (iI z32518)), (4, .int (iI z32510)), (2, .int (iI z31030)), (1, .int (iI z31020)), (0, .ref a0)] [] S g32538 0 0 := by
                            intro g32538 hg32538
                            refine X_aloadn hK (i := 0) 4 kd28_82.2.2.2.2.2.2.2.2.2.2.1 rfl rfl ?_
                            refine X_dup hK kd28_82.2.2.2.2.2.2.2.2.2.2.2 rfl ?_
                            refine X_getK hK fl_X12_256_13 hs_a0 ((hg32538 a0 13 0 20 hs_a0 (by decide)).trans ((hg32530 a0 13 0 20 hs_a0 (by decide)).trans eq32101)) kd28_83.1 ?_
                            refine X_iconst hK kd28_83.2.1 ?_
                            refine X_iadd hK kd28_83.2.2.1 ?_
                            refine X_puti hK fl_X12_256_13 hs_a0 (by decide) sl_13_20 (by omega) (by omega) kd28_83.2.2.2.1 (fun g32539 hg32539 => ?_)
                            refine X_goto hK 183 kd28_83.2.2.2.2.1 (by decide) ?_
                            refine X_lv [(3, .int (iI z32518)), (2, .int (iI z31030)), (1, .int (iI z31020)), (0, .ref a0)] [0, 2, 3, 4] rfl ?_
                            exact ihP32330  g32539 (xM_up (xM.tr (xM.tr (xM.tr xM.rf xLe.rf hg32100 (by decide)) xLe.rf hg32530 (by decide)) xLe.rf hg32538 (by decide)) hg32539 hs_a0 (by decide) (by decide)) z32518 (by omega) (by omega) (q32101 + 1) (by omega) (by omega) (xs_s hg32539) (by omega)
                          refine X_icmp_ge hK 305 (by omega) (by omega) kd28_81.2.2.2.2.2.2.2.2.2.2.2 (by decide) (fun c32531 => ?_) (fun c32531 => ?_)
                          · exact J32537 g32530 xM.rf
                          · refine X_aloadn hK (i := 0) 4 kd28_82.1 rfl rfl ?_
                            refine X_bipush hK kd28_82.2.1 (by decide) ?_
                            refine X_aloadn hK (i := 0) 4 kd28_82.2.2.1 rfl rfl ?_
                            refine X_geti hK fl_X12_281_13 hs_a0 sl_13_23 kd28_82.2.2.2.1 (fun z32540 ez32540 lz32540 uz32540 => ?_)
                            refine X_imul hK kd28_82.2.2.2.2.1 ?_
                            refine X_norm (fun z32541 ez32541 lz32541 uz32541 => ?_)
                            refine X_iload hK (i := 4) 1 kd28_82.2.2.2.2.2.1 rfl ?_
                            refine X_iadd hK kd28_82.2.2.2.2.2.2.1 ?_
                            refine X_norm (fun z32542 ez32542 lz32542 uz32542 => ?_)
                            refine X_bipush hK kd28_82.2.2.2.2.2.2.2.1 (by decide) ?_
                            refine X_isub hK kd28_82.2.2.2.2.2.2.2.2.1 ?_
                            refine X_norm (fun z32543 ez32543 lz32543 uz32543 => ?_)
                            refine X_puti hK fl_X12_281_13 hs_a0 (by decide) sl_13_23 (by omega) (by omega) kd28_82.2.2.2.2.2.2.2.2.2.1 (fun g32544 hg32544 => ?_)
                            exact J32537 g32544 (xM_up xM.rf hg32544 hs_a0 (by decide) (by decide))
                        refine X_icmp_ge hK 275 (by omega) (by omega) kd28_80.2.2.2.2.2.1 (by decide) (fun c32520 => ?_) (fun c32520 => ?_)
                        · exact J32529 g32100 xM.rf
                        · refine X_aloadn hK (i := 0) 4 kd28_80.2.2.2.2.2.2.1 rfl rfl ?_
                          refine X_ldc2 hK kd28_80.2.2.2.2.2.2.2.1 m_29_6 (fun y32545 => ?_)
                          refine X_aloadn hK (i := 0) 4 kd28_80.2.2.2.2.2.2.2.2.1 rfl rfl ?_
                          refine X_getl hK fl_X12_277_13 hs_a0 sl_13_28 kd28_80.2.2.2.2.2.2.2.2.2.1 (fun y32546 ey32546 => ?_)
                          refine X_lmul hK kd28_80.2.2.2.2.2.2.2.2.2.2.1 (fun y32547 => ?_)
                          refine X_iload hK (i := 4) 1 kd28_80.2.2.2.2.2.2.2.2.2.2.2 rfl ?_
                          refine X_i2l hK kd28_81.1 (fun y32548 => ?_)
                          refine X_ladd hK kd28_81.2.1 (fun y32549 => ?_)
                          refine X_ldc2 hK kd28_81.2.2.1 m_29_7 (fun y32550 => ?_)
                          refine X_lsub hK kd28_81.2.2.2.1 (fun y32551 => ?_)
                          refine X_putl hK fl_X12_277_13 hs_a0 (by decide) sl_13_28 kd28_81.2.2.2.2.1 (fun g32552 hg32552 => ?_)
                          exact J32529 g32552 (xM_up xM.rf hg32552 hs_a0 (by decide) (by decide))
                      refine X_if_eq hK 239 (by omega) kd28_79.2.2.1 (by decide) (fun c32511 => ?_) (fun c32511 => ?_)
                      · refine X_iconst hK kd28_79.2.2.2.2.2.2.2.2.2.1 ?_
                        exact J32519 0 (by omega) (by omega)
                      · refine X_iload hK (i := 4) 0 kd28_79.2.2.2.1 rfl ?_
                        refine X_callS hK [.int (iI z32510)] [] lk_X12_265 (c_X12_isLetter _ _ _ _ _ S g32100 z32510 (by omega)) kd28_79.2.2.2.2.1 rfl rfl (by simp [Value.category]) (by decide) (by decide) (by decide) (by decide) (fun r32553 S32555 g32554 pr32553 qr32553 hg32554 => ?_)
                        obtain ⟨rfl, rfl, z32556, rfl, lz32556, uz32556, k32557⟩ := pr32553
                        refine X_st [.int (iI z32556)] rfl ?_
                        refine X_iloadn hK (i := 2) 2 kd28_79.2.2.2.2.2.1 rfl rfl ?_
                        refine X_icmp_ne hK 239 (by omega) (by omega) kd28_79.2.2.2.2.2.2.1 (by decide) (fun c32558 => ?_) (fun c32558 => ?_)
                        · refine X_iconst hK kd28_79.2.2.2.2.2.2.2.2.2.1 ?_
                          exact J32519 0 (by omega) (by omega)
                        · refine X_iconst hK kd28_79.2.2.2.2.2.2.2.1 ?_
                          refine X_goto hK 240 kd28_79.2.2.2.2.2.2.2.2.1 (by decide) ?_
                          exact J32519 1 (by omega) (by omega)
              exact P32330 ((420 - q24806 : Int).toNat + 1) g31034 xM.rf 1 (by omega) (by omega) q24806 (by omega) (by omega) ((xs_k hg31034 (by decide)).trans ((xs_k hg31033 (by decide)).trans ((xs_k hg31016 (by decide)).trans eq24806))) (by omega)
            · refine X_iloadn hK (i := 1) 0 kd28_74.2.2.2.2.2.2.2.2.2.2.2 rfl rfl ?_
              refine X_callS hK [.int (iI z31020)] [] lk_X12_268 (c_X12_isDigit _ _ _ _ _ S g31016 z31020 (by omega)) kd28_75.1 rfl rfl (by simp [Value.category]) (by decide) (by decide) (by decide) (by decide) (fun r32559 S32561 g32560 pr32559 qr32559 hg32560 => ?_)
              obtain ⟨rfl, rfl, z32562, rfl, lz32562, uz32562, k32563⟩ := pr32559
              refine X_st [.int (iI z32562)] rfl ?_
              refine X_if_ne hK 166 (by omega) kd28_75.2.1 (by decide) (fun c32564 => ?_) (fun c32564 => ?_)
              · refine X_iloadn hK (i := 1) 0 kd28_76.2.2.2.2.2.2.2.2.1 rfl rfl ?_
                refine X_callS hK [.int (iI z31020)] [] lk_X12_265 (c_X12_isLetter _ _ _ _ _ S g31016 z31020 (by omega)) kd28_76.2.2.2.2.2.2.2.2.2.1 rfl rfl (by simp [Value.category]) (by decide) (by decide) (by decide) (by decide) (fun r32565 S32567 g32566 pr32565 qr32565 hg32566 => ?_)
                obtain ⟨rfl, rfl, z32568, rfl, lz32568, uz32568, k32569⟩ := pr32565
                refine X_st [.int (iI z32568)] rfl ?_
                refine X_istoren hK (i := 2) [(2, .int (iI z32568)), (1, .int (iI z31020)), (0, .ref a0)] kd28_76.2.2.2.2.2.2.2.2.2.2.1 rfl (by decide) rfl ?_
                refine X_iconst hK kd28_76.2.2.2.2.2.2.2.2.2.2.2 ?_
                refine X_istoren hK (i := 3) [(3, .int (iI 1)), (2, .int (iI z32568)), (1, .int (iI z31020)), (0, .ref a0)] kd28_77.1 rfl (by decide) rfl ?_
                refine X_aloadn hK (i := 0) 3 kd28_77.2.1 rfl rfl ?_
                refine X_lconst hK kd28_77.2.2.1 (fun y32570 => ?_)
                refine X_putl hK fl_X12_277_13 hs_a0 (by decide) sl_13_28 kd28_77.2.2.2.1 (fun g32571 hg32571 => ?_)
                refine X_aloadn hK (i := 0) 3 kd28_77.2.2.2.2.1 rfl rfl ?_
                refine X_iconst hK kd28_77.2.2.2.2.2.1 ?_
                refine X_puti hK fl_X12_281_13 hs_a0 (by decide) sl_13_23 (by omega) (by omega) kd28_77.2.2.2.2.2.2.1 (fun g32572 hg32572 => ?_)
                have P33868 : ∀ (nP33868 : Nat) (g33638 : xG) (_ : xM [(13, 20), (13, 23), (13, 28)] S g32572 g33638) (z33637 : Int) (_ : 0 ≤ z33637) (_ : z33637 ≤ 1) (q33639 : Int) (_ : 0 ≤ q33639) (_ : q33639 ≤ 420) (_ : g33638 a0 20 = .int (iI q33639)) (_ : 420 - q33639 < (nP33868 : Int)), X K E 183 [(3, .int (iI z33637)), (2, .int (iI z32568)), (1, .int (iI z31020)), (0, .ref a0)] [] S g33638 0 0 := by
                  intro nP33868
                  induction nP33868 with
                  | zero => intro g33638 hg33638 z33637 lz33637 uz33637 q33639 lq33639 uq33639 eq33639 mP33868; exact False.elim (by omega)
                  | succ nP33868 ihP33868 =>
                    intro g33638 hg33638 z33637 lz33637 uz33637 q33639 lq33639 uq33639 eq33639 mP33868
                    refine X_aloadn hK (i := 0) 3 kd28_77.2.2.2.2.2.2.2.1 rfl rfl ?_
                    refine X_aloadn hK (i := 0) 3 kd28_77.2.2.2.2.2.2.2.2.1 rfl rfl ?_
                    refine X_getK hK fl_X12_256_13 hs_a0 eq33639 kd28_77.2.2.2.2.2.2.2.2.2.1 ?_
                    refine X_callV hK [.int (iI q33639)] [] lk_X12_284 (c_X12_byteAt _ _ _ _ _ S g33638 a0 q33639 hs_a0 (by omega)) hs_a0 ⟨by decide, rfl⟩ kd28_77.2.2.2.2.2.2.2.2.2.2.1 rfl rfl (by simp [Value.category]) (by decide) (by decide) (by decide) (by decide) (fun r33869 S33871 g33870 pr33869 qr33869 hg33870 => ?_)
                    obtain ⟨rfl, rfl, z33872, rfl, lz33872, uz33872, k33873⟩ := pr33869
                    refine X_st [.int (iI z33872)] rfl ?_
                    refine X_callS hK [.int (iI z33872)] [] lk_X12_265 (c_X12_isLetter _ _ _ _ _ S g33638 z33872 (by omega)) kd28_77.2.2.2.2.2.2.2.2.2.2.2 rfl rfl (by simp [Value.category]) (by decide) (by decide) (by decide) (by decide) (fun r33874 S33876 g33875 pr33874 qr33874 hg33875 => ?_)
                    obtain ⟨rfl, rfl, z33877, rfl, lz33877, uz33877, k33878⟩ := pr33874
                    refine X_st [.int (iI z33877)] rfl ?_
                    refine X_if_ne hK 211 (by omega) kd28_78.1 (by decide) (fun c33879 => ?_) (fun c33879 => ?_)
                    · refine X_aloadn hK (i := 0) 3 kd28_78.2.2.2.2.2.2.2.1 rfl rfl ?_
                      refine X_getK hK fl_X12_7_13 hs_a0 ((hg33638 a0 13 0 1 hs_a0 (by decide)).trans ((xs_k hg32572 (by decide)).trans ((xs_k hg32571 (by decide)).trans eb31019))) kd28_78.2.2.2.2.2.2.2.2.1 ?_
                      refine X_aloadn hK (i := 0) 3 kd28_78.2.2.2.2.2.2.2.2.2.1 rfl rfl ?_
                      refine X_getK hK fl_X12_256_13 hs_a0 eq33639 kd28_78.2.2.2.2.2.2.2.2.2.2.1 ?_
                      refine X_iald hK hs_b31019 (by decide) sl_14100 (by omega) (by omega) kd28_78.2.2.2.2.2.2.2.2.2.2.2 (fun z33929 ez33929 lz33929 uz33929 => ?_)
                      refine X_istore hK (i := 4) [(4, .int (iI z33929)), (3, .int (iI z33637)), (2, .int (iI z32568)), (1, .int (iI z31020)), (0, .ref a0)] kd28_79.1 (by decide) rfl ?_
                      refine X_iloadn hK (i := 3) 1 kd28_79.2.1 rfl rfl ?_
                      have J33938 : ∀ (z33937 : Int) (lz33937 : 0 ≤ z33937) (uz33937 : z33937 ≤ 1), X K E 240 [(4, .int (iI z33929)), (3, .int (iI z33637)), (2, .int (iI z32568)), (1, .int (iI z31020)), (0, .ref a0)] [.int (iI z33937)] S g33638 0 0 := by
                        intro z33937 lz33937 uz33937
                        refine X_istoren hK (i := 3) [(3, .int (iI z33937)), (4, .int (iI z33929)), (2, .int (iI z32568)), (1, .int (iI z31020)), (0, .ref a0)] kd28_79.2.2.2.2.2.2.2.2.2.2.1 rfl (by decide) rfl ?_
                        refine X_aloadn hK (i := 0) 4 kd28_79.2.2.2.2.2.2.2.2.2.2.2 rfl rfl ?_
                        refine X_getK hK fl_X12_256_13 hs_a0 eq33639 kd28_80.1 ?_
                        refine X_aloadn hK (i := 0) 4 kd28_80.2.1 rfl rfl ?_
                        refine X_getK hK fl_X12_259_13 hs_a0 ((hg33638 a0 13 0 21 hs_a0 (by decide)).trans ((xs_k hg32572 (by decide)).trans ((xs_k hg32571 (by decide)).trans (xs_s hg31016)))) kd28_80.2.2.1 ?_
                        refine X_isub hK kd28_80.2.2.2.1 ?_
                        refine X_bipush hK kd28_80.2.2.2.2.1 (by decide) ?_
                        have J33948 : ∀ (g33949 : xG) (hg33949 : xM [(13, 28)] S g33638 g33949), X K E 275 [(3, .int (iI z33937)), (4, .int (iI z33929)), (2, .int (iI z32568)), (1, .int (iI z31020)), (0, .ref a0)] [] S g33949 0 0 := by
                          intro g33949 hg33949
                          refine X_aloadn hK (i := 0) 4 kd28_81.2.2.2.2.2.1 rfl rfl ?_
                          refine X_getK hK fl_X12_256_13 hs_a0 ((hg33949 a0 13 0 20 hs_a0 (by decide)).trans eq33639) kd28_81.2.2.2.2.2.2.1 ?_
                          refine X_aloadn hK (i := 0) 4 kd28_81.2.2.2.2.2.2.2.1 rfl rfl ?_
                          refine X_getK hK fl_X12_259_13 hs_a0 ((hg33949 a0 13 0 21 hs_a0 (by decide)).trans ((hg33638 a0 13 0 21 hs_a0 (by decide)).trans ((xs_k hg32572 (by decide)).trans ((xs_k hg32571 (by decide)).trans (xs_s hg31016))))) kd28_81.2.2.2.2.2.2.2.2.1 ?_
                          refine X_isub hK kd28_81.2.2.2.2.2.2.2.2.2.1 ?_
                          refine X_iconst hK kd28_81.2.2.2.2.2.2.2.2.2.2.1 ?_
                          have J33956 : ∀ (g33957 : xG) (hg33957 : xM [(13, 23)] S g33949 g33957), X K E 305 [(3, .int (iI z33937)), (4, .int (iI z33929)), (2, .int (iI z32568)), (1, .int (iI z31020)), (0, .ref a0)] [] S g33957 0 0 := by
                            intro g33957 hg33957
                            refine X_aloadn hK (i := 0) 4 kd28_82.2.2.2.2.2.2.2.2.2.2.1 rfl rfl ?_
                            refine X_dup hK kd28_82.2.2.2.2.2.2.2.2.2.2.2 rfl ?_
                            refine X_getK hK fl_X12_256_13 hs_a0 ((hg33957 a0 13 0 20 hs_a0 (by decide)).trans ((hg33949 a0 13 0 20 hs_a0 (by decide)).trans eq33639)) kd28_83.1 ?_
                            refine X_iconst hK kd28_83.2.1 ?_
                            refine X_iadd hK kd28_83.2.2.1 ?_
                            refine X_puti hK fl_X12_256_13 hs_a0 (by decide) sl_13_20 (by omega) (by omega) kd28_83.2.2.2.1 (fun g33958 hg33958 => ?_)
                            refine X_goto hK 183 kd28_83.2.2.2.2.1 (by decide) ?_
                            refine X_lv [(3, .int (iI z33937)), (2, .int (iI z32568)), (1, .int (iI z31020)), (0, .ref a0)] [0, 2, 3, 4] rfl ?_
                            exact ihP33868  g33958 (xM_up (xM.tr (xM.tr (xM.tr xM.rf xLe.rf hg33638 (by decide)) xLe.rf hg33949 (by decide)) xLe.rf hg33957 (by decide)) hg33958 hs_a0 (by decide) (by decide)) z33937 (by omega) (by omega) (q33639 + 1) (by omega) (by omega) (xs_s hg33958) (by omega)
                          refine X_icmp_ge hK 305 (by omega) (by omega) kd28_81.2.2.2.2.2.2.2.2.2.2.2 (by decide) (fun c33950 => ?_) (fun c33950 => ?_)
                          · exact J33956 g33949 xM.rf
                          · refine X_aloadn hK (i := 0) 4 kd28_82.1 rfl rfl ?_
                            refine X_bipush hK kd28_82.2.1 (by decide) ?_
                            refine X_aloadn hK (i := 0) 4 kd28_82.2.2.1 rfl rfl ?_
                            refine X_geti hK fl_X12_281_13 hs_a0 sl_13_23 kd28_82.2.2.2.1 (fun z33959 ez33959 lz33959 uz33959 => ?_)
                            refine X_imul hK kd28_82.2.2.2.2.1 ?_
                            refine X_norm (fun z33960 ez33960 lz33960 uz33960 => ?_)
                            refine X_iload hK (i := 4) 1 kd28_82.2.2.2.2.2.1 rfl ?_
                            refine X_iadd hK kd28_82.2.2.2.2.2.2.1 ?_
                            refine X_norm (fun z33961 ez33961 lz33961 uz33961 => ?_)
                            refine X_bipush hK kd28_82.2.2.2.2.2.2.2.1 (by decide) ?_
                            refine X_isub hK kd28_82.2.2.2.2.2.2.2.2.1 ?_
                            refine X_norm (fun z33962 ez33962 lz33962 uz33962 => ?_)
                            refine X_puti hK fl_X12_281_13 hs_a0 (by decide) sl_13_23 (by omega) (by omega) kd28_82.2.2.2.2.2.2.2.2.2.1 (fun g33963 hg33963 => ?_)
                            exact J33956 g33963 (xM_up xM.rf hg33963 hs_a0 (by decide) (by decide))
                        refine X_icmp_ge hK 275 (by omega) (by omega) kd28_80.2.2.2.2.2.1 (by decide) (fun c33939 => ?_) (fun c33939 => ?_)
                        · exact J33948 g33638 xM.rf
                        · refine X_aloadn hK (i := 0) 4 kd28_80.2.2.2.2.2.2.1 rfl rfl ?_
                          refine X_ldc2 hK kd28_80.2.2.2.2.2.2.2.1 m_29_6 (fun y33964 => ?_)
                          refine X_aloadn hK (i := 0) 4 kd28_80.2.2.2.2.2.2.2.2.1 rfl rfl ?_
                          refine X_getl hK fl_X12_277_13 hs_a0 sl_13_28 kd28_80.2.2.2.2.2.2.2.2.2.1 (fun y33965 ey33965 => ?_)
                          refine X_lmul hK kd28_80.2.2.2.2.2.2.2.2.2.2.1 (fun y33966 => ?_)
                          refine X_iload hK (i := 4) 1 kd28_80.2.2.2.2.2.2.2.2.2.2.2 rfl ?_
                          refine X_i2l hK kd28_81.1 (fun y33967 => ?_)
                          refine X_ladd hK kd28_81.2.1 (fun y33968 => ?_)
                          refine X_ldc2 hK kd28_81.2.2.1 m_29_7 (fun y33969 => ?_)
                          refine X_lsub hK kd28_81.2.2.2.1 (fun y33970 => ?_)
                          refine X_putl hK fl_X12_277_13 hs_a0 (by decide) sl_13_28 kd28_81.2.2.2.2.1 (fun g33971 hg33971 => ?_)
                          exact J33948 g33971 (xM_up xM.rf hg33971 hs_a0 (by decide) (by decide))
                      refine X_if_eq hK 239 (by omega) kd28_79.2.2.1 (by decide) (fun c33930 => ?_) (fun c33930 => ?_)
                      · refine X_iconst hK kd28_79.2.2.2.2.2.2.2.2.2.1 ?_
                        exact J33938 0 (by omega) (by omega)
                      · refine X_iload hK (i := 4) 0 kd28_79.2.2.2.1 rfl ?_
                        refine X_callS hK [.int (iI z33929)] [] lk_X12_265 (c_X12_isLetter _ _ _ _ _ S g33638 z33929 (by omega)) kd28_79.2.2.2.2.1 rfl rfl (by simp [Value.category]) (by decide) (by decide) (by decide) (by decide) (fun r33972 S33974 g33973 pr33972 qr33972 hg33973 => ?_)
                        obtain ⟨rfl, rfl, z33975, rfl, lz33975, uz33975, k33976⟩ := pr33972
                        refine X_st [.int (iI z33975)] rfl ?_
                        refine X_iloadn hK (i := 2) 2 kd28_79.2.2.2.2.2.1 rfl rfl ?_
                        refine X_icmp_ne hK 239 (by omega) (by omega) kd28_79.2.2.2.2.2.2.1 (by decide) (fun c33977 => ?_) (fun c33977 => ?_)
                        · refine X_iconst hK kd28_79.2.2.2.2.2.2.2.2.2.1 ?_
                          exact J33938 0 (by omega) (by omega)
                        · refine X_iconst hK kd28_79.2.2.2.2.2.2.2.1 ?_
                          refine X_goto hK 240 kd28_79.2.2.2.2.2.2.2.2.1 (by decide) ?_
                          exact J33938 1 (by omega) (by omega)
                    · refine X_aloadn hK (i := 0) 3 kd28_78.2.1 rfl rfl ?_
                      refine X_aloadn hK (i := 0) 3 kd28_78.2.2.1 rfl rfl ?_
                      refine X_getK hK fl_X12_256_13 hs_a0 eq33639 kd28_78.2.2.2.1 ?_
                      refine X_callV hK [.int (iI q33639)] [] lk_X12_284 (c_X12_byteAt _ _ _ _ _ S g33638 a0 q33639 hs_a0 (by omega)) hs_a0 ⟨by decide, rfl⟩ kd28_78.2.2.2.2.1 rfl rfl (by simp [Value.category]) (by decide) (by decide) (by decide) (by decide) (fun r33978 S33980 g33979 pr33978 qr33978 hg33979 => ?_)
                      obtain ⟨rfl, rfl, z33981, rfl, lz33981, uz33981, k33982⟩ := pr33978
                      refine X_st [.int (iI z33981)] rfl ?_
                      refine X_callS hK [.int (iI z33981)] [] lk_X12_268 (c_X12_isDigit _ _ _ _ _ S g33638 z33981 (by omega)) kd28_78.2.2.2.2.2.1 rfl rfl (by simp [Value.category]) (by decide) (by decide) (by decide) (by decide) (fun r33983 S33985 g33984 pr33983 qr33983 hg33984 => ?_)
                      obtain ⟨rfl, rfl, z33986, rfl, lz33986, uz33986, k33987⟩ := pr33983
                      refine X_st [.int (iI z33986)] rfl ?_
                      refine X_if_eq hK 318 (by omega) kd28_78.2.2.2.2.2.2.1 (by decide) (fun c33988 => ?_) (fun c33988 => ?_)
                      · refine X_aloadn hK (i := 0) 3 kd28_83.2.2.2.2.2.1 rfl rfl ?_
                        refine X_iloadn hK (i := 3) 0 kd28_83.2.2.2.2.2.2.1 rfl rfl ?_
                        refine X_if_eq hK 345 (by omega) kd28_83.2.2.2.2.2.2.2.1 (by decide) (fun c34038 => ?_) (fun c34038 => ?_)
                        · refine X_iconst hK kd28_84.2.2.2.2.2.2.2.1 ?_
                          refine X_goto hK 358 kd28_84.2.2.2.2.2.2.2.2.1 (by decide) ?_
                          refine X_puti hK fl_X12_262_13 hs_a0 (by decide) sl_13_22 (by omega) (by omega) kd28_85.2.2.1 (fun g34039 hg34039 => ?_)
                          exact hret _ _ _ _ _ _ kd28_85.2.2.2.1 ⟨rfl, rfl⟩ (Nat.le_refl _) (Nat.le_refl _)
                        · refine X_aloadn hK (i := 0) 3 kd28_83.2.2.2.2.2.2.2.2.1 rfl rfl ?_
                          refine X_getK hK fl_X12_256_13 hs_a0 eq33639 kd28_83.2.2.2.2.2.2.2.2.2.1 ?_
                          refine X_aloadn hK (i := 0) 3 kd28_83.2.2.2.2.2.2.2.2.2.2.1 rfl rfl ?_
                          refine X_getK hK fl_X12_259_13 hs_a0 ((hg33638 a0 13 0 21 hs_a0 (by decide)).trans ((xs_k hg32572 (by decide)).trans ((xs_k hg32571 (by decide)).trans (xs_s hg31016)))) kd28_83.2.2.2.2.2.2.2.2.2.2.2 ?_
                          refine X_isub hK kd28_84.1 ?_
                          refine X_iloadn hK (i := 2) 1 kd28_84.2.1 rfl rfl ?_
                          have J34042 : ∀ (z34041 : Int) (lz34041 : 4 ≤ z34041) (uz34041 : z34041 ≤ 8), X K E 342 [(3, .int (iI z33637)), (2, .int (iI z32568)), (1, .int (iI z31020)), (0, .ref a0)] [.int (iI z34041), .int (iI (q33639 - q24806)), .ref a0] S g33638 0 0 := by
                            intro z34041 lz34041 uz34041
                            refine X_icmp_le hK 349 (by omega) (by omega) kd28_84.2.2.2.2.2.2.1 (by decide) (fun c34043 => ?_) (fun c34043 => ?_)
                            · refine X_iloadn hK (i := 2) 1 kd28_84.2.2.2.2.2.2.2.2.2.1 rfl rfl ?_
                              refine X_if_eq hK 357 (by omega) kd28_84.2.2.2.2.2.2.2.2.2.2.1 (by decide) (fun c34044 => ?_) (fun c34044 => ?_)
                              · refine X_iconst hK kd28_85.2.1 ?_
                                refine X_puti hK fl_X12_262_13 hs_a0 (by decide) sl_13_22 (by omega) (by omega) kd28_85.2.2.1 (fun g34045 hg34045 => ?_)
                                exact hret _ _ _ _ _ _ kd28_85.2.2.2.1 ⟨rfl, rfl⟩ (Nat.le_refl _) (Nat.le_refl _)
                              · refine X_iconst hK kd28_84.2.2.2.2.2.2.2.2.2.2.2 ?_
                                refine X_goto hK 358 kd28_85.1 (by decide) ?_
                                refine X_puti hK fl_X12_262_13 hs_a0 (by decide) sl_13_22 (by omega) (by omega) kd28_85.2.2.1 (fun g34046 hg34046 => ?_)
                                exact hret _ _ _ _ _ _ kd28_85.2.2.2.1 ⟨rfl, rfl⟩ (Nat.le_refl _) (Nat.le_refl _)
                            · refine X_iconst hK kd28_84.2.2.2.2.2.2.2.1 ?_
                              refine X_goto hK 358 kd28_84.2.2.2.2.2.2.2.2.1 (by decide) ?_
                              refine X_puti hK fl_X12_262_13 hs_a0 (by decide) sl_13_22 (by omega) (by omega) kd28_85.2.2.1 (fun g34047 hg34047 => ?_)
                              exact hret _ _ _ _ _ _ kd28_85.2.2.2.1 ⟨rfl, rfl⟩ (Nat.le_refl _) (Nat.le_refl _)
                          refine X_if_eq hK 341 (by omega) kd28_84.2.2.1 (by decide) (fun c34040 => ?_) (fun c34040 => ?_)
                          · refine X_iconst hK kd28_84.2.2.2.2.2.1 ?_
                            exact J34042 4 (by omega) (by omega)
                          · refine X_bipush hK kd28_84.2.2.2.1 (by decide) ?_
                            refine X_goto hK 342 kd28_84.2.2.2.2.1 (by decide) ?_
                            exact J34042 8 (by omega) (by omega)
                      · refine X_aloadn hK (i := 0) 3 kd28_78.2.2.2.2.2.2.2.1 rfl rfl ?_
                        refine X_getK hK fl_X12_7_13 hs_a0 ((hg33638 a0 13 0 1 hs_a0 (by decide)).trans ((xs_k hg32572 (by decide)).trans ((xs_k hg32571 (by decide)).trans eb31019))) kd28_78.2.2.2.2.2.2.2.2.1 ?_
                        refine X_aloadn hK (i := 0) 3 kd28_78.2.2.2.2.2.2.2.2.2.1 rfl rfl ?_
                        refine X_getK hK fl_X12_256_13 hs_a0 eq33639 kd28_78.2.2.2.2.2.2.2.2.2.2.1 ?_
                        refine X_iald hK hs_b31019 (by decide) sl_14100 (by omega) (by omega) kd28_78.2.2.2.2.2.2.2.2.2.2.2 (fun z34048 ez34048 lz34048 uz34048 => ?_)
                        refine X_istore hK (i := 4) [(4, .int (iI z34048)), (3, .int (iI z33637)), (2, .int (iI z32568)), (1, .int (iI z31020)), (0, .ref a0)] kd28_79.1 (by decide) rfl ?_
                        refine X_iloadn hK (i := 3) 1 kd28_79.2.1 rfl rfl ?_
                        have J34057 : ∀ (z34056 : Int) (lz34056 : 0 ≤ z34056) (uz34056 : z34056 ≤ 1), X K E 240 [(4, .int (iI z34048)), (3, .int (iI z33637)), (2, .int (iI z32568)), (1, .int (iI z31020)), (0, .ref a0)] [.int (iI z34056)] S g33638 0 0 := by
                          intro z34056 lz34056 uz34056
                          refine X_istoren hK (i := 3) [(3, .int (iI z34056)), (4, .int (iI z34048)), (2, .int (iI z32568)), (1, .int (iI z31020)), (0, .ref a0)] kd28_79.2.2.2.2.2.2.2.2.2.2.1 rfl (by decide) rfl ?_
                          refine X_aloadn hK (i := 0) 4 kd28_79.2.2.2.2.2.2.2.2.2.2.2 rfl rfl ?_
                          refine X_getK hK fl_X12_256_13 hs_a0 eq33639 kd28_80.1 ?_
                          refine X_aloadn hK (i := 0) 4 kd28_80.2.1 rfl rfl ?_
                          refine X_getK hK fl_X12_259_13 hs_a0 ((hg33638 a0 13 0 21 hs_a0 (by decide)).trans ((xs_k hg32572 (by decide)).trans ((xs_k hg32571 (by decide)).trans (xs_s hg31016)))) kd28_80.2.2.1 ?_
                          refine X_isub hK kd28_80.2.2.2.1 ?_
                          refine X_bipush hK kd28_80.2.2.2.2.1 (by decide) ?_
                          have J34067 : ∀ (g34068 : xG) (hg34068 : xM [(13, 28)] S g33638 g34068), X K E 275 [(3, .int (iI z34056)), (4, .int (iI z34048)), (2, .int (iI z32568)), (1, .int (iI z31020)), (0, .ref a0)] [] S g34068 0 0 := by
                            intro g34068 hg34068
                            refine X_aloadn hK (i := 0) 4 kd28_81.2.2.2.2.2.1 rfl rfl ?_
                            refine X_getK hK fl_X12_256_13 hs_a0 ((hg34068 a0 13 0 20 hs_a0 (by decide)).trans eq33639) kd28_81.2.2.2.2.2.2.1 ?_
                            refine X_aloadn hK (i := 0) 4 kd28_81.2.2.2.2.2.2.2.1 rfl rfl ?_
                            refine X_getK hK fl_X12_259_13 hs_a0 ((hg34068 a0 13 0 21 hs_a0 (by decide)).trans ((hg33638 a0 13 0 21 hs_a0 (by decide)).trans ((xs_k hg32572 (by decide)).trans ((xs_k hg32571 (by decide)).trans (xs_s hg31016))))) kd28_81.2.2.2.2.2.2.2.2.1 ?_
                            refine X_isub hK kd28_81.2.2.2.2.2.2.2.2.2.1 ?_
                            refine X_iconst hK kd28_81.2.2.2.2.2.2.2.2.2.2.1 ?_
                            have J34075 : ∀ (g34076 : xG) (hg34076 : xM [(13, 23)] S g34068 g34076), X K E 305 [(3, .int (iI z34056)), (4, .int (iI z34048)), (2, .int (iI z32568)), (1, .int (iI z31020)), (0, .ref a0)] [] S g34076 0 0 := by
                              intro g34076 hg34076
                              refine X_aloadn hK (i := 0) 4 kd28_82.2.2.2.2.2.2.2.2.2.2.1 rfl rfl ?_
                              refine X_dup hK kd28_82.2.2.2.2.2.2.2.2.2.2.2 rfl ?_
                              refine X_getK hK fl_X12_256_13 hs_a0 ((hg34076 a0 13 0 20 hs_a0 (by decide)).trans ((hg34068 a0 13 0 20 hs_a0 (by decide)).trans eq33639)) kd28_83.1 ?_
                              refine X_iconst hK kd28_83.2.1 ?_
                              refine X_iadd hK kd28_83.2.2.1 ?_
                              refine X_puti hK fl_X12_256_13 hs_a0 (by decide) sl_13_20 (by omega) (by omega) kd28_83.2.2.2.1 (fun g34077 hg34077 => ?_)
                              refine X_goto hK 183 kd28_83.2.2.2.2.1 (by decide) ?_
                              refine X_lv [(3, .int (iI z34056)), (2, .int (iI z32568)), (1, .int (iI z31020)), (0, .ref a0)] [0, 2, 3, 4] rfl ?_
                              exact ihP33868  g34077 (xM_up (xM.tr (xM.tr (xM.tr xM.rf xLe.rf hg33638 (by decide)) xLe.rf hg34068 (by decide)) xLe.rf hg34076 (by decide)) hg34077 hs_a0 (by decide) (by decide)) z34056 (by omega) (by omega) (q33639 + 1) (by omega) (by omega) (xs_s hg34077) (by omega)
                            refine X_icmp_ge hK 305 (by omega) (by omega) kd28_81.2.2.2.2.2.2.2.2.2.2.2 (by decide) (fun c34069 => ?_) (fun c34069 => ?_)
                            · exact J34075 g34068 xM.rf
                            · refine X_aloadn hK (i := 0) 4 kd28_82.1 rfl rfl ?_
                              refine X_bipush hK kd28_82.2.1 (by decide) ?_
                              refine X_aloadn hK (i := 0) 4 kd28_82.2.2.1 rfl rfl ?_
                              refine X_geti hK fl_X12_281_13 hs_a0 sl_13_23 kd28_82.2.2.2.1 (fun z34078 ez34078 lz34078 uz34078 => ?_)
                              refine X_imul hK kd28_82.2.2.2.2.1 ?_
                              refine X_norm (fun z34079 ez34079 lz34079 uz34079 => ?_)
                              refine X_iload hK (i := 4) 1 kd28_82.2.2.2.2.2.1 rfl ?_
                              refine X_iadd hK kd28_82.2.2.2.2.2.2.1 ?_
                              refine X_norm (fun z34080 ez34080 lz34080 uz34080 => ?_)
                              refine X_bipush hK kd28_82.2.2.2.2.2.2.2.1 (by decide) ?_
                              refine X_isub hK kd28_82.2.2.2.2.2.2.2.2.1 ?_
                              refine X_norm (fun z34081 ez34081 lz34081 uz34081 => ?_)
                              refine X_puti hK fl_X12_281_13 hs_a0 (by decide) sl_13_23 (by omega) (by omega) kd28_82.2.2.2.2.2.2.2.2.2.1 (fun g34082 hg34082 => ?_)
                              exact J34075 g34082 (xM_up xM.rf hg34082 hs_a0 (by decide) (by decide))
                          refine X_icmp_ge hK 275 (by omega) (by omega) kd28_80.2.2.2.2.2.1 (by decide) (fun c34058 => ?_) (fun c34058 => ?_)
                          · exact J34067 g33638 xM.rf
                          · refine X_aloadn hK (i := 0) 4 kd28_80.2.2.2.2.2.2.1 rfl rfl ?_
                            refine X_ldc2 hK kd28_80.2.2.2.2.2.2.2.1 m_29_6 (fun y34083 => ?_)
                            refine X_aloadn hK (i := 0) 4 kd28_80.2.2.2.2.2.2.2.2.1 rfl rfl ?_
                            refine X_getl hK fl_X12_277_13 hs_a0 sl_13_28 kd28_80.2.2.2.2.2.2.2.2.2.1 (fun y34084 ey34084 => ?_)
                            refine X_lmul hK kd28_80.2.2.2.2.2.2.2.2.2.2.1 (fun y34085 => ?_)
                            refine X_iload hK (i := 4) 1 kd28_80.2.2.2.2.2.2.2.2.2.2.2 rfl ?_
                            refine X_i2l hK kd28_81.1 (fun y34086 => ?_)
                            refine X_ladd hK kd28_81.2.1 (fun y34087 => ?_)
                            refine X_ldc2 hK kd28_81.2.2.1 m_29_7 (fun y34088 => ?_)
                            refine X_lsub hK kd28_81.2.2.2.1 (fun y34089 => ?_)
                            refine X_putl hK fl_X12_277_13 hs_a0 (by decide) sl_13_28 kd28_81.2.2.2.2.1 (fun g34090 hg34090 => ?_)
                            exact J34067 g34090 (xM_up xM.rf hg34090 hs_a0 (by decide) (by decide))
                        refine X_if_eq hK 239 (by omega) kd28_79.2.2.1 (by decide) (fun c34049 => ?_) (fun c34049 => ?_)
                        · refine X_iconst hK kd28_79.2.2.2.2.2.2.2.2.2.1 ?_
                          exact J34057 0 (by omega) (by omega)
                        · refine X_iload hK (i := 4) 0 kd28_79.2.2.2.1 rfl ?_
                          refine X_callS hK [.int (iI z34048)] [] lk_X12_265 (c_X12_isLetter _ _ _ _ _ S g33638 z34048 (by omega)) kd28_79.2.2.2.2.1 rfl rfl (by simp [Value.category]) (by decide) (by decide) (by decide) (by decide) (fun r34091 S34093 g34092 pr34091 qr34091 hg34092 => ?_)
                          obtain ⟨rfl, rfl, z34094, rfl, lz34094, uz34094, k34095⟩ := pr34091
                          refine X_st [.int (iI z34094)] rfl ?_
                          refine X_iloadn hK (i := 2) 2 kd28_79.2.2.2.2.2.1 rfl rfl ?_
                          refine X_icmp_ne hK 239 (by omega) (by omega) kd28_79.2.2.2.2.2.2.1 (by decide) (fun c34096 => ?_) (fun c34096 => ?_)
                          · refine X_iconst hK kd28_79.2.2.2.2.2.2.2.2.2.1 ?_
                            exact J34057 0 (by omega) (by omega)
                          · refine X_iconst hK kd28_79.2.2.2.2.2.2.2.1 ?_
                            refine X_goto hK 240 kd28_79.2.2.2.2.2.2.2.2.1 (by decide) ?_
                            exact J34057 1 (by omega) (by omega)
                exact P33868 ((420 - q24806 : Int).toNat + 1) g32572 xM.rf 1 (by omega) (by omega) q24806 (by omega) (by omega) ((xs_k hg32572 (by decide)).trans ((xs_k hg32571 (by decide)).trans ((xs_k hg31016 (by decide)).trans eq24806))) (by omega)
              · refine X_aloadn hK (i := 0) 1 kd28_75.2.2.1 rfl rfl ?_
                refine X_iloadn hK (i := 1) 0 kd28_75.2.2.2.1 rfl rfl ?_
                refine X_callS hK [.int (iI z31020)] [.ref a0] lk_X12_271 (c_X12_isMark _ _ _ _ _ S g31016 z31020 (by omega)) kd28_75.2.2.2.2.1 rfl rfl (by simp [Value.category]) (by decide) (by decide) (by decide) (by decide) (fun r34097 S34099 g34098 pr34097 qr34097 hg34098 => ?_)
                obtain ⟨rfl, rfl, z34100, rfl, lz34100, uz34100⟩ := pr34097
                refine X_st [.int (iI z34100), .ref a0] rfl ?_
                have J34103 : ∀ (z34102 : Int) (lz34102 : 1 ≤ z34102) (uz34102 : z34102 ≤ 4), X K E 147 [(1, .int (iI z31020)), (0, .ref a0)] [.int (iI z34102), .ref a0] S g31016 0 0 := by
                  intro z34102 lz34102 uz34102
                  refine X_puti hK fl_X12_262_13 hs_a0 (by decide) sl_13_22 (by omega) (by omega) kd28_75.2.2.2.2.2.2.2.2.2.1 (fun g34104 hg34104 => ?_)
                  refine X_aloadn hK (i := 0) 1 kd28_75.2.2.2.2.2.2.2.2.2.2.1 rfl rfl ?_
                  refine X_iloadn hK (i := 1) 0 kd28_75.2.2.2.2.2.2.2.2.2.2.2 rfl rfl ?_
                  refine X_puti hK fl_X12_274_13 hs_a0 (by decide) sl_13_24 (by omega) (by omega) kd28_76.1 (fun g34105 hg34105 => ?_)
                  refine X_aloadn hK (i := 0) 1 kd28_76.2.1 rfl rfl ?_
                  refine X_dup hK kd28_76.2.2.1 rfl ?_
                  refine X_getK hK fl_X12_256_13 hs_a0 ((xs_k hg34105 (by decide)).trans ((xs_k hg34104 (by decide)).trans ((xs_k hg31016 (by decide)).trans eq24806))) kd28_76.2.2.2.1 ?_
                  refine X_iconst hK kd28_76.2.2.2.2.1 ?_
                  refine X_iadd hK kd28_76.2.2.2.2.2.1 ?_
                  refine X_puti hK fl_X12_256_13 hs_a0 (by decide) sl_13_20 (by omega) (by omega) kd28_76.2.2.2.2.2.2.1 (fun g34106 hg34106 => ?_)
                  exact hret _ _ _ _ _ _ kd28_76.2.2.2.2.2.2.2.1 ⟨rfl, rfl⟩ (Nat.le_refl _) (Nat.le_refl _)
                refine X_if_eq hK 146 (by omega) kd28_75.2.2.2.2.2.1 (by decide) (fun c34101 => ?_) (fun c34101 => ?_)
                · refine X_iconst hK kd28_75.2.2.2.2.2.2.2.2.1 ?_
                  exact J34103 1 (by omega) (by omega)
                · refine X_iconst hK kd28_75.2.2.2.2.2.2.1 ?_
                  refine X_goto hK 147 kd28_75.2.2.2.2.2.2.2.1 (by decide) ?_
                  exact J34103 4 (by omega) (by omega)
          · refine X_aloadn hK (i := 0) 0 kd28_73.2.2.2.2.2.2.2.2.2.2.1 rfl rfl ?_
            refine X_iconst hK kd28_73.2.2.2.2.2.2.2.2.2.2.2 ?_
            refine X_puti hK fl_X12_262_13 hs_a0 (by decide) sl_13_22 (by omega) (by omega) kd28_74.1 (fun g34107 hg34107 => ?_)
            exact hret _ _ _ _ _ _ kd28_74.2.1 ⟨rfl, rfl⟩ (Nat.le_refl _) (Nat.le_refl _)
        · refine X_aloadn hK (i := 0) 0 kd28_72.2.2.2.2.2.2.1 rfl rfl ?_
          refine X_getK hK fl_X12_259_13 hs_a0 (xs_s hg31016) kd28_72.2.2.2.2.2.2.2.1 ?_
          refine X_sipush hK kd28_72.2.2.2.2.2.2.2.2.1 (by decide) ?_
          refine X_icmp_lt hK 93 (by omega) (by omega) kd28_72.2.2.2.2.2.2.2.2.2.1 (by decide) (fun c34108 => ?_) (fun c34108 => ?_)
          · refine X_aloadn hK (i := 0) 0 kd28_73.2.2.2.2.2.1 rfl rfl ?_
            refine X_getK hK fl_X12_256_13 hs_a0 ((xs_k hg31016 (by decide)).trans eq24806) kd28_73.2.2.2.2.2.2.1 ?_
            refine X_aloadn hK (i := 0) 0 kd28_73.2.2.2.2.2.2.2.1 rfl rfl ?_
            refine X_getK hK fl_X12_253_13 hs_a0 ((xs_k hg31016 (by decide)).trans ez31007) kd28_73.2.2.2.2.2.2.2.2.1 ?_
            refine X_icmp_lt hK 110 (by omega) (by omega) kd28_73.2.2.2.2.2.2.2.2.2.1 (by decide) (fun c34109 => ?_) (fun c34109 => False.elim (by omega))
            refine X_aloadn hK (i := 0) 0 kd28_74.2.2.1 rfl rfl ?_
            refine X_getr hK 14100 420 fl_X12_7_13 hs_a0 sl_13_1 kd28_74.2.2.2.1 (fun b34110 eb34110 hs_b34110 => ?_)
            refine X_aloadn hK (i := 0) 0 kd28_74.2.2.2.2.1 rfl rfl ?_
            refine X_getK hK fl_X12_256_13 hs_a0 ((xs_k hg31016 (by decide)).trans eq24806) kd28_74.2.2.2.2.2.1 ?_
            refine X_iald hK hs_b34110 (by decide) sl_14100 (by omega) (by omega) kd28_74.2.2.2.2.2.2.1 (fun z34111 ez34111 lz34111 uz34111 => ?_)
            refine X_istoren hK (i := 1) [(1, .int (iI z34111)), (0, .ref a0)] kd28_74.2.2.2.2.2.2.2.1 rfl (by decide) rfl ?_
            refine X_iloadn hK (i := 1) 0 kd28_74.2.2.2.2.2.2.2.2.1 rfl rfl ?_
            refine X_callS hK [.int (iI z34111)] [] lk_X12_265 (c_X12_isLetter _ _ _ _ _ S g31016 z34111 (by omega)) kd28_74.2.2.2.2.2.2.2.2.2.1 rfl rfl (by simp [Value.category]) (by decide) (by decide) (by decide) (by decide) (fun r34112 S34114 g34113 pr34112 qr34112 hg34113 => ?_)
            obtain ⟨rfl, rfl, z34115, rfl, lz34115, uz34115, k34116⟩ := pr34112
            refine X_st [.int (iI z34115)] rfl ?_
            refine X_if_ne hK 166 (by omega) kd28_74.2.2.2.2.2.2.2.2.2.2.1 (by decide) (fun c34117 => ?_) (fun c34117 => ?_)
            · refine X_iloadn hK (i := 1) 0 kd28_76.2.2.2.2.2.2.2.2.1 rfl rfl ?_
              refine X_callS hK [.int (iI z34111)] [] lk_X12_265 (c_X12_isLetter _ _ _ _ _ S g31016 z34111 (by omega)) kd28_76.2.2.2.2.2.2.2.2.2.1 rfl rfl (by simp [Value.category]) (by decide) (by decide) (by decide) (by decide) (fun r34118 S34120 g34119 pr34118 qr34118 hg34119 => ?_)
              obtain ⟨rfl, rfl, z34121, rfl, lz34121, uz34121, k34122⟩ := pr34118
              refine X_st [.int (iI z34121)] rfl ?_
              refine X_istoren hK (i := 2) [(2, .int (iI z34121)), (1, .int (iI z34111)), (0, .ref a0)] kd28_76.2.2.2.2.2.2.2.2.2.2.1 rfl (by decide) rfl ?_
              refine X_iconst hK kd28_76.2.2.2.2.2.2.2.2.2.2.2 ?_
              refine X_istoren hK (i := 3) [(3, .int (iI 1)), (2, .int (iI z34121)), (1, .int (iI z34111)), (0, .ref a0)] kd28_77.1 rfl (by decide) rfl ?_
              refine X_aloadn hK (i := 0) 3 kd28_77.2.1 rfl rfl ?_
              refine X_lconst hK kd28_77.2.2.1 (fun y34123 => ?_)
              refine X_putl hK fl_X12_277_13 hs_a0 (by decide) sl_13_28 kd28_77.2.2.2.1 (fun g34124 hg34124 => ?_)
              refine X_aloadn hK (i := 0) 3 kd28_77.2.2.2.2.1 rfl rfl ?_
              refine X_iconst hK kd28_77.2.2.2.2.2.1 ?_
              refine X_puti hK fl_X12_281_13 hs_a0 (by decide) sl_13_23 (by omega) (by omega) kd28_77.2.2.2.2.2.2.1 (fun g34125 hg34125 => ?_)
              have P35421 : ∀ (nP35421 : Nat) (g35191 : xG) (_ : xM [(13, 20), (13, 23), (13, 28)] S g34125 g35191) (z35190 : Int) (_ : 0 ≤ z35190) (_ : z35190 ≤ 1) (q35192 : Int) (_ : 0 ≤ q35192) (_ : q35192 ≤ 420) (_ : g35191 a0 20 = .int (iI q35192)) (_ : 420 - q35192 < (nP35421 : Int)), X K E 183 [(3, .int (iI z35190)), (2, .int (iI z34121)), (1, .int (iI z34111)), (0, .ref a0)] [] S g35191 0 0 := by
                intro nP35421
                induction nP35421 with
                | zero => intro g35191 hg35191 z35190 lz35190 uz35190 q35192 lq35192 uq35192 eq35192 mP35421; exact False.elim (by omega)
                | succ nP35421 ihP35421 =>
                  intro g35191 hg35191 z35190 lz35190 uz35190 q35192 lq35192 uq35192 eq35192 mP35421
                  refine X_aloadn hK (i := 0) 3 kd28_77.2.2.2.2.2.2.2.1 rfl rfl ?_
                  refine X_aloadn hK (i := 0) 3 kd28_77.2.2.2.2.2.2.2.2.1 rfl rfl ?_
                  refine X_getK hK fl_X12_256_13 hs_a0 eq35192 kd28_77.2.2.2.2.2.2.2.2.2.1 ?_
                  refine X_callV hK [.int (iI q35192)] [] lk_X12_284 (c_X12_byteAt _ _ _ _ _ S g35191 a0 q35192 hs_a0 (by omega)) hs_a0 ⟨by decide, rfl⟩ kd28_77.2.2.2.2.2.2.2.2.2.2.1 rfl rfl (by simp [Value.category]) (by decide) (by decide) (by decide) (by decide) (fun r35422 S35424 g35423 pr35422 qr35422 hg35423 => ?_)
                  obtain ⟨rfl, rfl, z35425, rfl, lz35425, uz35425, k35426⟩ := pr35422
                  refine X_st [.int (iI z35425)] rfl ?_
                  refine X_callS hK [.int (iI z35425)] [] lk_X12_265 (c_X12_isLetter _ _ _ _ _ S g35191 z35425 (by omega)) kd28_77.2.2.2.2.2.2.2.2.2.2.2 rfl rfl (by simp [Value.category]) (by decide) (by decide) (by decide) (by decide) (fun r35427 S35429 g35428 pr35427 qr35427 hg35428 => ?_)
                  obtain ⟨rfl, rfl, z35430, rfl, lz35430, uz35430, k35431⟩ := pr35427
                  refine X_st [.int (iI z35430)] rfl ?_
                  refine X_if_ne hK 211 (by omega) kd28_78.1 (by decide) (fun c35432 => ?_) (fun c35432 => ?_)
                  · refine X_aloadn hK (i := 0) 3 kd28_78.2.2.2.2.2.2.2.1 rfl rfl ?_
                    refine X_getK hK fl_X12_7_13 hs_a0 ((hg35191 a0 13 0 1 hs_a0 (by decide)).trans ((xs_k hg34125 (by decide)).trans ((xs_k hg34124 (by decide)).trans eb34110))) kd28_78.2.2.2.2.2.2.2.2.1 ?_
                    refine X_aloadn hK (i := 0) 3 kd28_78.2.2.2.2.2.2.2.2.2.1 rfl rfl ?_
                    refine X_getK hK fl_X12_256_13 hs_a0 eq35192 kd28_78.2.2.2.2.2.2.2.2.2.2.1 ?_
                    refine X_iald hK hs_b34110 (by decide) sl_14100 (by omega) (by omega) kd28_78.2.2.2.2.2.2.2.2.2.2.2 (fun z35482 ez35482 lz35482 uz35482 => ?_)
                    refine X_istore hK (i := 4) [(4, .int (iI z35482)), (3, .int (iI z35190)), (2, .int (iI z34121)), (1, .int (iI z34111)), (0, .ref a0)] kd28_79.1 (by decide) rfl ?_
                    refine X_iloadn hK (i := 3) 1 kd28_79.2.1 rfl rfl ?_
                    have J35491 : ∀ (z35490 : Int) (lz35490 : 0 ≤ z35490) (uz35490 : z35490 ≤ 1), X K E 240 [(4, .int (iI z35482)), (3, .int (iI z35190)), (2, .int (iI z34121)), (1, .int (iI z34111)), (0, .ref a0)] [.int (iI z35490)] S g35191 0 0 := by
                      intro z35490 lz35490 uz35490
                      refine X_istoren hK (i := 3) [(3, .int (iI z35490)), (4, .int (iI z35482)), (2, .int (iI z34121)), (1, .int (iI z34111)), (0, .ref a0)] kd28_79.2.2.2.2.2.2.2.2.2.2.1 rfl (by decide) rfl ?_
                      refine X_aloadn hK (i := 0) 4 kd28_79.2.2.2.2.2.2.2.2.2.2.2 rfl rfl ?_
                      refine X_getK hK fl_X12_256_13 hs_a0 eq35192 kd28_80.1 ?_
                      refine X_aloadn hK (i := 0) 4 kd28_80.2.1 rfl rfl ?_
                      refine X_getK hK fl_X12_259_13 hs_a0 ((hg35191 a0 13 0 21 hs_a0 (by decide)).trans ((xs_k hg34125 (by decide)).trans ((xs_k hg34124 (by decide)).trans (xs_s hg31016)))) kd28_80.2.2.1 ?_
                      refine X_isub hK kd28_80.2.2.2.1 ?_
                      refine X_bipush hK kd28_80.2.2.2.2.1 (by decide) ?_
                      have J35501 : ∀ (g35502 : xG) (hg35502 : xM [(13, 28)] S g35191 g35502), X K E 275 [(3, .int (iI z35490)), (4, .int (iI z35482)), (2, .int (iI z34121)), (1, .int (iI z34111)), (0, .ref a0)] [] S g35502 0 0 := by
                        intro g35502 hg35502
                        refine X_aloadn hK (i := 0) 4 kd28_81.2.2.2.2.2.1 rfl rfl ?_
                        refine X_getK hK fl_X12_256_13 hs_a0 ((hg35502 a0 13 0 20 hs_a0 (by decide)).trans eq35192) kd28_81.2.2.2.2.2.2.1 ?_
                        refine X_aloadn hK (i := 0) 4 kd28_81.2.2.2.2.2.2.2.1 rfl rfl ?_
                        refine X_getK hK fl_X12_259_13 hs_a0 ((hg35502 a0 13 0 21 hs_a0 (by decide)).trans ((hg35191 a0 13 0 21 hs_a0 (by decide)).trans ((xs_k hg34125 (by decide)).trans ((xs_k hg34124 (by decide)).trans (xs_s hg31016))))) kd28_81.2.2.2.2.2.2.2.2.1 ?_
                        refine X_isub hK kd28_81.2.2.2.2.2.2.2.2.2.1 ?_
                        refine X_iconst hK kd28_81.2.2.2.2.2.2.2.2.2.2.1 ?_
                        have J35509 : ∀ (g35510 : xG) (hg35510 : xM [(13, 23)] S g35502 g35510), X K E 305 [(3, .int (iI z35490)), (4, .int (iI z35482)), (2, .int (iI z34121)), (1, .int (iI z34111)), (0, .ref a0)] [] S g35510 0 0 := by
                          intro g35510 hg35510
                          refine X_aloadn hK (i := 0) 4 kd28_82.2.2.2.2.2.2.2.2.2.2.1 rfl rfl ?_
                          refine X_dup hK kd28_82.2.2.2.2.2.2.2.2.2.2.2 rfl ?_
                          refine X_getK hK fl_X12_256_13 hs_a0 ((hg35510 a0 13 0 20 hs_a0 (by decide)).trans ((hg35502 a0 13 0 20 hs_a0 (by decide)).trans eq35192)) kd28_83.1 ?_
                          refine X_iconst hK kd28_83.2.1 ?_
                          refine X_iadd hK kd28_83.2.2.1 ?_
                          refine X_puti hK fl_X12_256_13 hs_a0 (by decide) sl_13_20 (by omega) (by omega) kd28_83.2.2.2.1 (fun g35511 hg35511 => ?_)
                          refine X_goto hK 183 kd28_83.2.2.2.2.1 (by decide) ?_
                          refine X_lv [(3, .int (iI z35490)), (2, .int (iI z34121)), (1, .int (iI z34111)), (0, .ref a0)] [0, 2, 3, 4] rfl ?_
                          exact ihP35421  g35511 (xM_up (xM.tr (xM.tr (xM.tr xM.rf xLe.rf hg35191 (by decide)) xLe.rf hg35502 (by decide)) xLe.rf hg35510 (by decide)) hg35511 hs_a0 (by decide) (by decide)) z35490 (by omega) (by omega) (q35192 + 1) (by omega) (by omega) (xs_s hg35511) (by omega)
                        refine X_icmp_ge hK 305 (by omega) (by omega) kd28_81.2.2.2.2.2.2.2.2.2.2.2 (by decide) (fun c35503 => ?_) (fun c35503 => ?_)
                        · exact J35509 g35502 xM.rf
                        · refine X_aloadn hK (i := 0) 4 kd28_82.1 rfl rfl ?_
                          refine X_bipush hK kd28_82.2.1 (by decide) ?_
                          refine X_aloadn hK (i := 0) 4 kd28_82.2.2.1 rfl rfl ?_
                          refine X_geti hK fl_X12_281_13 hs_a0 sl_13_23 kd28_82.2.2.2.1 (fun z35512 ez35512 lz35512 uz35512 => ?_)
                          refine X_imul hK kd28_82.2.2.2.2.1 ?_
                          refine X_norm (fun z35513 ez35513 lz35513 uz35513 => ?_)
                          refine X_iload hK (i := 4) 1 kd28_82.2.2.2.2.2.1 rfl ?_
                          refine X_iadd hK kd28_82.2.2.2.2.2.2.1 ?_
                          refine X_norm (fun z35514 ez35514 lz35514 uz35514 => ?_)
                          refine X_bipush hK kd28_82.2.2.2.2.2.2.2.1 (by decide) ?_
                          refine X_isub hK kd28_82.2.2.2.2.2.2.2.2.1 ?_
                          refine X_norm (fun z35515 ez35515 lz35515 uz35515 => ?_)
                          refine X_puti hK fl_X12_281_13 hs_a0 (by decide) sl_13_23 (by omega) (by omega) kd28_82.2.2.2.2.2.2.2.2.2.1 (fun g35516 hg35516 => ?_)
                          exact J35509 g35516 (xM_up xM.rf hg35516 hs_a0 (by decide) (by decide))
                      refine X_icmp_ge hK 275 (by omega) (by omega) kd28_80.2.2.2.2.2.1 (by decide) (fun c35492 => ?_) (fun c35492 => ?_)
                      · exact J35501 g35191 xM.rf
                      · refine X_aloadn hK (i := 0) 4 kd28_80.2.2.2.2.2.2.1 rfl rfl ?_
                        refine X_ldc2 hK kd28_80.2.2.2.2.2.2.2.1 m_29_6 (fun y35517 => ?_)
                        refine X_aloadn hK (i := 0) 4 kd28_80.2.2.2.2.2.2.2.2.1 rfl rfl ?_
                        refine X_getl hK fl_X12_277_13 hs_a0 sl_13_28 kd28_80.2.2.2.2.2.2.2.2.2.1 (fun y35518 ey35518 => ?_)
                        refine X_lmul hK kd28_80.2.2.2.2.2.2.2.2.2.2.1 (fun y35519 => ?_)
                        refine X_iload hK (i := 4) 1 kd28_80.2.2.2.2.2.2.2.2.2.2.2 rfl ?_
                        refine X_i2l hK kd28_81.1 (fun y35520 => ?_)
                        refine X_ladd hK kd28_81.2.1 (fun y35521 => ?_)
                        refine X_ldc2 hK kd28_81.2.2.1 m_29_7 (fun y35522 => ?_)
                        refine X_lsub hK kd28_81.2.2.2.1 (fun y35523 => ?_)
                        refine X_putl hK fl_X12_277_13 hs_a0 (by decide) sl_13_28 kd28_81.2.2.2.2.1 (fun g35524 hg35524 => ?_)
                        exact J35501 g35524 (xM_up xM.rf hg35524 hs_a0 (by decide) (by decide))
                    refine X_if_eq hK 239 (by omega) kd28_79.2.2.1 (by decide) (fun c35483 => ?_) (fun c35483 => ?_)
                    · refine X_iconst hK kd28_79.2.2.2.2.2.2.2.2.2.1 ?_
                      exact J35491 0 (by omega) (by omega)
                    · refine X_iload hK (i := 4) 0 kd28_79.2.2.2.1 rfl ?_
                      refine X_callS hK [.int (iI z35482)] [] lk_X12_265 (c_X12_isLetter _ _ _ _ _ S g35191 z35482 (by omega)) kd28_79.2.2.2.2.1 rfl rfl (by simp [Value.category]) (by decide) (by decide) (by decide) (by decide) (fun r35525 S35527 g35526 pr35525 qr35525 hg35526 => ?_)
                      obtain ⟨rfl, rfl, z35528, rfl, lz35528, uz35528, k35529⟩ := pr35525
                      refine X_st [.int (iI z35528)] rfl ?_
                      refine X_iloadn hK (i := 2) 2 kd28_79.2.2.2.2.2.1 rfl rfl ?_
                      refine X_icmp_ne hK 239 (by omega) (by omega) kd28_79.2.2.2.2.2.2.1 (by decide) (fun c35530 => ?_) (fun c35530 => ?_)
                      · refine X_iconst hK kd28_79.2.2.2.2.2.2.2.2.2.1 ?_
                        exact J35491 0 (by omega) (by omega)
                      · refine X_iconst hK kd28_79.2.2.2.2.2.2.2.1 ?_
                        refine X_goto hK 240 kd28_79.2.2.2.2.2.2.2.2.1 (by decide) ?_
                        exact J35491 1 (by omega) (by omega)
                  · refine X_aloadn hK (i := 0) 3 kd28_78.2.1 rfl rfl ?_
                    refine X_aloadn hK (i := 0) 3 kd28_78.2.2.1 rfl rfl ?_
                    refine X_getK hK fl_X12_256_13 hs_a0 eq35192 kd28_78.2.2.2.1 ?_
                    refine X_callV hK [.int (iI q35192)] [] lk_X12_284 (c_X12_byteAt _ _ _ _ _ S g35191 a0 q35192 hs_a0 (by omega)) hs_a0 ⟨by decide, rfl⟩ kd28_78.2.2.2.2.1 rfl rfl (by simp [Value.category]) (by decide) (by decide) (by decide) (by decide) (fun r35531 S35533 g35532 pr35531 qr35531 hg35532 => ?_)
                    obtain ⟨rfl, rfl, z35534, rfl, lz35534, uz35534, k35535⟩ := pr35531
                    refine X_st [.int (iI z35534)] rfl ?_
                    refine X_callS hK [.int (iI z35534)] [] lk_X12_268 (c_X12_isDigit _ _ _ _ _ S g35191 z35534 (by omega)) kd28_78.2.2.2.2.2.1 rfl rfl (by simp [Value.category]) (by decide) (by decide) (by decide) (by decide) (fun r35536 S35538 g35537 pr35536 qr35536 hg35537 => ?_)
                    obtain ⟨rfl, rfl, z35539, rfl, lz35539, uz35539, k35540⟩ := pr35536
                    refine X_st [.int (iI z35539)] rfl ?_
                    refine X_if_eq hK 318 (by omega) kd28_78.2.2.2.2.2.2.1 (by decide) (fun c35541 => ?_) (fun c35541 => ?_)
                    · refine X_aloadn hK (i := 0) 3 kd28_83.2.2.2.2.2.1 rfl rfl ?_
                      refine X_iloadn hK (i := 3) 0 kd28_83.2.2.2.2.2.2.1 rfl rfl ?_
                      refine X_if_eq hK 345 (by omega) kd28_83.2.2.2.2.2.2.2.1 (by decide) (fun c35591 => ?_) (fun c35591 => ?_)
                      · refine X_iconst hK kd28_84.2.2.2.2.2.2.2.1 ?_
                        refine X_goto hK 358 kd28_84.2.2.2.2.2.2.2.2.1 (by decide) ?_
                        refine X_puti hK fl_X12_262_13 hs_a0 (by decide) sl_13_22 (by omega) (by omega) kd28_85.2.2.1 (fun g35592 hg35592 => ?_)
                        exact hret _ _ _ _ _ _ kd28_85.2.2.2.1 ⟨rfl, rfl⟩ (Nat.le_refl _) (Nat.le_refl _)
                      · refine X_aloadn hK (i := 0) 3 kd28_83.2.2.2.2.2.2.2.2.1 rfl rfl ?_
                        refine X_getK hK fl_X12_256_13 hs_a0 eq35192 kd28_83.2.2.2.2.2.2.2.2.2.1 ?_
                        refine X_aloadn hK (i := 0) 3 kd28_83.2.2.2.2.2.2.2.2.2.2.1 rfl rfl ?_
                        refine X_getK hK fl_X12_259_13 hs_a0 ((hg35191 a0 13 0 21 hs_a0 (by decide)).trans ((xs_k hg34125 (by decide)).trans ((xs_k hg34124 (by decide)).trans (xs_s hg31016)))) kd28_83.2.2.2.2.2.2.2.2.2.2.2 ?_
                        refine X_isub hK kd28_84.1 ?_
                        refine X_iloadn hK (i := 2) 1 kd28_84.2.1 rfl rfl ?_
                        have J35595 : ∀ (z35594 : Int) (lz35594 : 4 ≤ z35594) (uz35594 : z35594 ≤ 8), X K E 342 [(3, .int (iI z35190)), (2, .int (iI z34121)), (1, .int (iI z34111)), (0, .ref a0)] [.int (iI z35594), .int (iI (q35192 - q24806)), .ref a0] S g35191 0 0 := by
                          intro z35594 lz35594 uz35594
                          refine X_icmp_le hK 349 (by omega) (by omega) kd28_84.2.2.2.2.2.2.1 (by decide) (fun c35596 => ?_) (fun c35596 => ?_)
                          · refine X_iloadn hK (i := 2) 1 kd28_84.2.2.2.2.2.2.2.2.2.1 rfl rfl ?_
                            refine X_if_eq hK 357 (by omega) kd28_84.2.2.2.2.2.2.2.2.2.2.1 (by decide) (fun c35597 => ?_) (fun c35597 => ?_)
                            · refine X_iconst hK kd28_85.2.1 ?_
                              refine X_puti hK fl_X12_262_13 hs_a0 (by decide) sl_13_22 (by omega) (by omega) kd28_85.2.2.1 (fun g35598 hg35598 => ?_)
                              exact hret _ _ _ _ _ _ kd28_85.2.2.2.1 ⟨rfl, rfl⟩ (Nat.le_refl _) (Nat.le_refl _)
                            · refine X_iconst hK kd28_84.2.2.2.2.2.2.2.2.2.2.2 ?_
                              refine X_goto hK 358 kd28_85.1 (by decide) ?_
                              refine X_puti hK fl_X12_262_13 hs_a0 (by decide) sl_13_22 (by omega) (by omega) kd28_85.2.2.1 (fun g35599 hg35599 => ?_)
                              exact hret _ _ _ _ _ _ kd28_85.2.2.2.1 ⟨rfl, rfl⟩ (Nat.le_refl _) (Nat.le_refl _)
                          · refine X_iconst hK kd28_84.2.2.2.2.2.2.2.1 ?_
                            refine X_goto hK 358 kd28_84.2.2.2.2.2.2.2.2.1 (by decide) ?_
                            refine X_puti hK fl_X12_262_13 hs_a0 (by decide) sl_13_22 (by omega) (by omega) kd28_85.2.2.1 (fun g35600 hg35600 => ?_)
                            exact hret _ _ _ _ _ _ kd28_85.2.2.2.1 ⟨rfl, rfl⟩ (Nat.le_refl _) (Nat.le_refl _)
                        refine X_if_eq hK 341 (by omega) kd28_84.2.2.1 (by decide) (fun c35593 => ?_) (fun c35593 => ?_)
                        · refine X_iconst hK kd28_84.2.2.2.2.2.1 ?_
                          exact J35595 4 (by omega) (by omega)
                        · refine X_bipush hK kd28_84.2.2.2.1 (by decide) ?_
                          refine X_goto hK 342 kd28_84.2.2.2.2.1 (by decide) ?_
                          exact J35595 8 (by omega) (by omega)
                    · refine X_aloadn hK (i := 0) 3 kd28_78.2.2.2.2.2.2.2.1 rfl rfl ?_
                      refine X_getK hK fl_X12_7_13 hs_a0 ((hg35191 a0 13 0 1 hs_a0 (by decide)).trans ((xs_k hg34125 (by decide)).trans ((xs_k hg34124 (by decide)).trans eb34110))) kd28_78.2.2.2.2.2.2.2.2.1 ?_
                      refine X_aloadn hK (i := 0) 3 kd28_78.2.2.2.2.2.2.2.2.2.1 rfl rfl ?_
                      refine X_getK hK fl_X12_256_13 hs_a0 eq35192 kd28_78.2.2.2.2.2.2.2.2.2.2.1 ?_
                      refine X_iald hK hs_b34110 (by decide) sl_14100 (by omega) (by omega) kd28_78.2.2.2.2.2.2.2.2.2.2.2 (fun z35601 ez35601 lz35601 uz35601 => ?_)
                      refine X_istore hK (i := 4) [(4, .int (iI z35601)), (3, .int (iI z35190)), (2, .int (iI z34121)), (1, .int (iI z34111)), (0, .ref a0)] kd28_79.1 (by decide) rfl ?_
                      refine X_iloadn hK (i := 3) 1 kd28_79.2.1 rfl rfl ?_
                      have J35610 : ∀ (z35609 : Int) (lz35609 : 0 ≤ z35609) (uz35609 : z35609 ≤ 1), X K E 240 [(4, .int (iI z35601)), (3, .int (iI z35190)), (2, .int (iI z34121)), (1, .int (iI z34111)), (0, .ref a0)] [.int (iI z35609)] S g35191 0 0 := by
                        intro z35609 lz35609 uz35609
                        refine X_istoren hK (i := 3) [(3, .int (iI z35609)), (4, .int (iI z35601)), (2, .int (iI z34121)), (1, .int (iI z34111)), (0, .ref a0)] kd28_79.2.2.2.2.2.2.2.2.2.2.1 rfl (by decide) rfl ?_
                        refine X_aloadn hK (i := 0) 4 kd28_79.2.2.2.2.2.2.2.2.2.2.2 rfl rfl ?_
                        refine X_getK hK fl_X12_256_13 hs_a0 eq35192 kd28_80.1 ?_
                        refine X_aloadn hK (i := 0) 4 kd28_80.2.1 rfl rfl ?_
                        refine X_getK hK fl_X12_259_13 hs_a0 ((hg35191 a0 13 0 21 hs_a0 (by decide)).trans ((xs_k hg34125 (by decide)).trans ((xs_k hg34124 (by decide)).trans (xs_s hg31016)))) kd28_80.2.2.1 ?_
                        refine X_isub hK kd28_80.2.2.2.1 ?_
                        refine X_bipush hK kd28_80.2.2.2.2.1 (by decide) ?_
                        have J35620 : ∀ (g35621 : xG) (hg35621 : xM [(13, 28)] S g35191 g35621), X K E 275 [(3, .int (iI z35609)), (4, .int (iI z35601)), (2, .int (iI z34121)), (1, .int (iI z34111)), (0, .ref a0)] [] S g35621 0 0 := by
                          intro g35621 hg35621
                          refine X_aloadn hK (i := 0) 4 kd28_81.2.2.2.2.2.1 rfl rfl ?_
                          refine X_getK hK fl_X12_256_13 hs_a0 ((hg35621 a0 13 0 20 hs_a0 (by decide)).trans eq35192) kd28_81.2.2.2.2.2.2.1 ?_
                          refine X_aloadn hK (i := 0) 4 kd28_81.2.2.2.2.2.2.2.1 rfl rfl ?_
                          refine X_getK hK fl_X12_259_13 hs_a0 ((hg35621 a0 13 0 21 hs_a0 (by decide)).trans ((hg35191 a0 13 0 21 hs_a0 (by decide)).trans ((xs_k hg34125 (by decide)).trans ((xs_k hg34124 (by decide)).trans (xs_s hg31016))))) kd28_81.2.2.2.2.2.2.2.2.1 ?_
                          refine X_isub hK kd28_81.2.2.2.2.2.2.2.2.2.1 ?_
                          refine X_iconst hK kd28_81.2.2.2.2.2.2.2.2.2.2.1 ?_
                          have J35628 : ∀ (g35629 : xG) (hg35629 : xM [(13, 23)] S g35621 g35629), X K E 305 [(3, .int (iI z35609)), (4, .int (iI z35601)), (2, .int (iI z34121)), (1, .int (iI z34111)), (0, .ref a0)] [] S g35629 0 0 := by
                            intro g35629 hg35629
                            refine X_aloadn hK (i := 0) 4 kd28_82.2.2.2.2.2.2.2.2.2.2.1 rfl rfl ?_
                            refine X_dup hK kd28_82.2.2.2.2.2.2.2.2.2.2.2 rfl ?_
                            refine X_getK hK fl_X12_256_13 hs_a0 ((hg35629 a0 13 0 20 hs_a0 (by decide)).trans ((hg35621 a0 13 0 20 hs_a0 (by decide)).trans eq35192)) kd28_83.1 ?_
                            refine X_iconst hK kd28_83.2.1 ?_
                            refine X_iadd hK kd28_83.2.2.1 ?_
                            refine X_puti hK fl_X12_256_13 hs_a0 (by decide) sl_13_20 (by omega) (by omega) kd28_83.2.2.2.1 (fun g35630 hg35630 => ?_)
                            refine X_goto hK 183 kd28_83.2.2.2.2.1 (by decide) ?_
                            refine X_lv [(3, .int (iI z35609)), (2, .int (iI z34121)), (1, .int (iI z34111)), (0, .ref a0)] [0, 2, 3, 4] rfl ?_
                            exact ihP35421  g35630 (xM_up (xM.tr (xM.tr (xM.tr xM.rf xLe.rf hg35191 (by decide)) xLe.rf hg35621 (by decide)) xLe.rf hg35629 (by decide)) hg35630 hs_a0 (by decide) (by decide)) z35609 (by omega) (by omega) (q35192 + 1) (by omega) (by omega) (xs_s hg35630) (by omega)
                          refine X_icmp_ge hK 305 (by omega) (by omega) kd28_81.2.2.2.2.2.2.2.2.2.2.2 (by decide) (fun c35622 => ?_) (fun c35622 => ?_)
                          · exact J35628 g35621 xM.rf
                          · refine X_aloadn hK (i := 0) 4 kd28_82.1 rfl rfl ?_
                            refine X_bipush hK kd28_82.2.1 (by decide) ?_
                            refine X_aloadn hK (i := 0) 4 kd28_82.2.2.1 rfl rfl ?_
                            refine X_geti hK fl_X12_281_13 hs_a0 sl_13_23 kd28_82.2.2.2.1 (fun z35631 ez35631 lz35631 uz35631 => ?_)
                            refine X_imul hK kd28_82.2.2.2.2.1 ?_
                            refine X_norm (fun z35632 ez35632 lz35632 uz35632 => ?_)
                            refine X_iload hK (i := 4) 1 kd28_82.2.2.2.2.2.1 rfl ?_
                            refine X_iadd hK kd28_82.2.2.2.2.2.2.1 ?_
                            refine X_norm (fun z35633 ez35633 lz35633 uz35633 => ?_)
                            refine X_bipush hK kd28_82.2.2.2.2.2.2.2.1 (by decide) ?_
                            refine X_isub hK kd28_82.2.2.2.2.2.2.2.2.1 ?_
                            refine X_norm (fun z35634 ez35634 lz35634 uz35634 => ?_)
                            refine X_puti hK fl_X12_281_13 hs_a0 (by decide) sl_13_23 (by omega) (by omega) kd28_82.2.2.2.2.2.2.2.2.2.1 (fun g35635 hg35635 => ?_)
                            exact J35628 g35635 (xM_up xM.rf hg35635 hs_a0 (by decide) (by decide))
                        refine X_icmp_ge hK 275 (by omega) (by omega) kd28_80.2.2.2.2.2.1 (by decide) (fun c35611 => ?_) (fun c35611 => ?_)
                        · exact J35620 g35191 xM.rf
                        · refine X_aloadn hK (i := 0) 4 kd28_80.2.2.2.2.2.2.1 rfl rfl ?_
                          refine X_ldc2 hK kd28_80.2.2.2.2.2.2.2.1 m_29_6 (fun y35636 => ?_)
                          refine X_aloadn hK (i := 0) 4 kd28_80.2.2.2.2.2.2.2.2.1 rfl rfl ?_
                          refine X_getl hK fl_X12_277_13 hs_a0 sl_13_28 kd28_80.2.2.2.2.2.2.2.2.2.1 (fun y35637 ey35637 => ?_)
                          refine X_lmul hK kd28_80.2.2.2.2.2.2.2.2.2.2.1 (fun y35638 => ?_)
                          refine X_iload hK (i := 4) 1 kd28_80.2.2.2.2.2.2.2.2.2.2.2 rfl ?_
                          refine X_i2l hK kd28_81.1 (fun y35639 => ?_)
                          refine X_ladd hK kd28_81.2.1 (fun y35640 => ?_)
                          refine X_ldc2 hK kd28_81.2.2.1 m_29_7 (fun y35641 => ?_)
                          refine X_lsub hK kd28_81.2.2.2.1 (fun y35642 => ?_)
                          refine X_putl hK fl_X12_277_13 hs_a0 (by decide) sl_13_28 kd28_81.2.2.2.2.1 (fun g35643 hg35643 => ?_)
                          exact J35620 g35643 (xM_up xM.rf hg35643 hs_a0 (by decide) (by decide))
                      refine X_if_eq hK 239 (by omega) kd28_79.2.2.1 (by decide) (fun c35602 => ?_) (fun c35602 => ?_)
                      · refine X_iconst hK kd28_79.2.2.2.2.2.2.2.2.2.1 ?_
                        exact J35610 0 (by omega) (by omega)
                      · refine X_iload hK (i := 4) 0 kd28_79.2.2.2.1 rfl ?_
                        refine X_callS hK [.int (iI z35601)] [] lk_X12_265 (c_X12_isLetter _ _ _ _ _ S g35191 z35601 (by omega)) kd28_79.2.2.2.2.1 rfl rfl (by simp [Value.category]) (by decide) (by decide) (by decide) (by decide) (fun r35644 S35646 g35645 pr35644 qr35644 hg35645 => ?_)
                        obtain ⟨rfl, rfl, z35647, rfl, lz35647, uz35647, k35648⟩ := pr35644
                        refine X_st [.int (iI z35647)] rfl ?_
                        refine X_iloadn hK (i := 2) 2 kd28_79.2.2.2.2.2.1 rfl rfl ?_
                        refine X_icmp_ne hK 239 (by omega) (by omega) kd28_79.2.2.2.2.2.2.1 (by decide) (fun c35649 => ?_) (fun c35649 => ?_)
                        · refine X_iconst hK kd28_79.2.2.2.2.2.2.2.2.2.1 ?_
                          exact J35610 0 (by omega) (by omega)
                        · refine X_iconst hK kd28_79.2.2.2.2.2.2.2.1 ?_
                          refine X_goto hK 240 kd28_79.2.2.2.2.2.2.2.2.1 (by decide) ?_
                          exact J35610 1 (by omega) (by omega)
              exact P35421 ((420 - q24806 : Int).toNat + 1) g34125 xM.rf 1 (by omega) (by omega) q24806 (by omega) (by omega) ((xs_k hg34125 (by decide)).trans ((xs_k hg34124 (by decide)).trans ((xs_k hg31016 (by decide)).trans eq24806))) (by omega)
            · refine X_iloadn hK (i := 1) 0 kd28_74.2.2.2.2.2.2.2.2.2.2.2 rfl rfl ?_
              refine X_callS hK [.int (iI z34111)] [] lk_X12_268 (c_X12_isDigit _ _ _ _ _ S g31016 z34111 (by omega)) kd28_75.1 rfl rfl (by simp [Value.category]) (by decide) (by decide) (by decide) (by decide) (fun r35650 S35652 g35651 pr35650 qr35650 hg35651 => ?_)
              obtain ⟨rfl, rfl, z35653, rfl, lz35653, uz35653, k35654⟩ := pr35650
              refine X_st [.int (iI z35653)] rfl ?_
              refine X_if_ne hK 166 (by omega) kd28_75.2.1 (by decide) (fun c35655 => ?_) (fun c35655 => ?_)
              · refine X_iloadn hK (i := 1) 0 kd28_76.2.2.2.2.2.2.2.2.1 rfl rfl ?_
                refine X_callS hK [.int (iI z34111)] [] lk_X12_265 (c_X12_isLetter _ _ _ _ _ S g31016 z34111 (by omega)) kd28_76.2.2.2.2.2.2.2.2.2.1 rfl rfl (by simp [Value.category]) (by decide) (by decide) (by decide) (by decide) (fun r35656 S35658 g35657 pr35656 qr35656 hg35657 => ?_)
                obtain ⟨rfl, rfl, z35659, rfl, lz35659, uz35659, k35660⟩ := pr35656
                refine X_st [.int (iI z35659)] rfl ?_
                refine X_istoren hK (i := 2) [(2, .int (iI z35659)), (1, .int (iI z34111)), (0, .ref a0)] kd28_76.2.2.2.2.2.2.2.2.2.2.1 rfl (by decide) rfl ?_
                refine X_iconst hK kd28_76.2.2.2.2.2.2.2.2.2.2.2 ?_
                refine X_istoren hK (i := 3) [(3, .int (iI 1)), (2, .int (iI z35659)), (1, .int (iI z34111)), (0, .ref a0)] kd28_77.1 rfl (by decide) rfl ?_
                refine X_aloadn hK (i := 0) 3 kd28_77.2.1 rfl rfl ?_
                refine X_lconst hK kd28_77.2.2.1 (fun y35661 => ?_)
                refine X_putl hK fl_X12_277_13 hs_a0 (by decide) sl_13_28 kd28_77.2.2.2.1 (fun g35662 hg35662 => ?_)
                refine X_aloadn hK (i := 0) 3 kd28_77.2.2.2.2.1 rfl rfl ?_
                refine X_iconst hK kd28_77.2.2.2.2.2.1 ?_
                refine X_puti hK fl_X12_281_13 hs_a0 (by decide) sl_13_23 (by omega) (by omega) kd28_77.2.2.2.2.2.2.1 (fun g35663 hg35663 => ?_)
                have P36959 : ∀ (nP36959 : Nat) (g36729 : xG) (_ : xM [(13, 20), (13, 23), (13, 28)] S g35663 g36729) (z36728 : Int) (_ : 0 ≤ z36728) (_ : z36728 ≤ 1) (q36730 : Int) (_ : 0 ≤ q36730) (_ : q36730 ≤ 420) (_ : g36729 a0 20 = .int (iI q36730)) (_ : 420 - q36730 < (nP36959 : Int)), X K E 183 [(3, .int (iI z36728)), (2, .int (iI z35659)), (1, .int (iI z34111)), (0, .ref a0)] [] S g36729 0 0 := by
                  intro nP36959
                  induction nP36959 with
                  | zero => intro g36729 hg36729 z36728 lz36728 uz36728 q36730 lq36730 uq36730 eq36730 mP36959; exact False.elim (by omega)
                  | succ nP36959 ihP36959 =>
                    intro g36729 hg36729 z36728 lz36728 uz36728 q36730 lq36730 uq36730 eq36730 mP36959
                    refine X_aloadn hK (i := 0) 3 kd28_77.2.2.2.2.2.2.2.1 rfl rfl ?_
                    refine X_aloadn hK (i := 0) 3 kd28_77.2.2.2.2.2.2.2.2.1 rfl rfl ?_
                    refine X_getK hK fl_X12_256_13 hs_a0 eq36730 kd28_77.2.2.2.2.2.2.2.2.2.1 ?_
                    refine X_callV hK [.int (iI q36730)] [] lk_X12_284 (c_X12_byteAt _ _ _ _ _ S g36729 a0 q36730 hs_a0 (by omega)) hs_a0 ⟨by decide, rfl⟩ kd28_77.2.2.2.2.2.2.2.2.2.2.1 rfl rfl (by simp [Value.category]) (by decide) (by decide) (by decide) (by decide) (fun r36960 S36962 g36961 pr36960 qr36960 hg36961 => ?_)
                    obtain ⟨rfl, rfl, z36963, rfl, lz36963, uz36963, k36964⟩ := pr36960
                    refine X_st [.int (iI z36963)] rfl ?_
                    refine X_callS hK [.int (iI z36963)] [] lk_X12_265 (c_X12_isLetter _ _ _ _ _ S g36729 z36963 (by omega)) kd28_77.2.2.2.2.2.2.2.2.2.2.2 rfl rfl (by simp [Value.category]) (by decide) (by decide) (by decide) (by decide) (fun r36965 S36967 g36966 pr36965 qr36965 hg36966 => ?_)
                    obtain ⟨rfl, rfl, z36968, rfl, lz36968, uz36968, k36969⟩ := pr36965
                    refine X_st [.int (iI z36968)] rfl ?_
                    refine X_if_ne hK 211 (by omega) kd28_78.1 (by decide) (fun c36970 => ?_) (fun c36970 => ?_)
                    · refine X_aloadn hK (i := 0) 3 kd28_78.2.2.2.2.2.2.2.1 rfl rfl ?_
                      refine X_getK hK fl_X12_7_13 hs_a0 ((hg36729 a0 13 0 1 hs_a0 (by decide)).trans ((xs_k hg35663 (by decide)).trans ((xs_k hg35662 (by decide)).trans eb34110))) kd28_78.2.2.2.2.2.2.2.2.1 ?_
                      refine X_aloadn hK (i := 0) 3 kd28_78.2.2.2.2.2.2.2.2.2.1 rfl rfl ?_
                      refine X_getK hK fl_X12_256_13 hs_a0 eq36730 kd28_78.2.2.2.2.2.2.2.2.2.2.1 ?_
                      refine X_iald hK hs_b34110 (by decide) sl_14100 (by omega) (by omega) kd28_78.2.2.2.2.2.2.2.2.2.2.2 (fun z37020 ez37020 lz37020 uz37020 => ?_)
                      refine X_istore hK (i := 4) [(4, .int (iI z37020)), (3, .int (iI z36728)), (2, .int (iI z35659)), (1, .int (iI z34111)), (0, .ref a0)] kd28_79.1 (by decide) rfl ?_
                      refine X_iloadn hK (i := 3) 1 kd28_79.2.1 rfl rfl ?_
                      have J37029 : ∀ (z37028 : Int) (lz37028 : 0 ≤ z37028) (uz37028 : z37028 ≤ 1), X K E 240 [(4, .int (iI z37020)), (3, .int (iI z36728)), (2, .int (iI z35659)), (1, .int (iI z34111)), (0, .ref a0)] [.int (iI z37028)] S g36729 0 0 := by
                        intro z37028 lz37028 uz37028
                        refine X_istoren hK (i := 3) [(3, .int (iI z37028)), (4, .int (iI z37020)), (2, .int (iI z35659)), (1, .int (iI z34111)), (0, .ref a0)] kd28_79.2.2.2.2.2.2.2.2.2.2.1 rfl (by decide) rfl ?_
                        refine X_aloadn hK (i := 0) 4 kd28_79.2.2.2.2.2.2.2.2.2.2.2 rfl rfl ?_
                        refine X_getK hK fl_X12_256_13 hs_a0 eq36730 kd28_80.1 ?_
                        refine X_aloadn hK (i := 0) 4 kd28_80.2.1 rfl rfl ?_
                        refine X_getK hK fl_X12_259_13 hs_a0 ((hg36729 a0 13 0 21 hs_a0 (by decide)).trans ((xs_k hg35663 (by decide)).trans ((xs_k hg35662 (by decide)).trans (xs_s hg31016)))) kd28_80.2.2.1 ?_
                        refine X_isub hK kd28_80.2.2.2.1 ?_
                        refine X_bipush hK kd28_80.2.2.2.2.1 (by decide) ?_
                        have J37039 : ∀ (g37040 : xG) (hg37040 : xM [(13, 28)] S g36729 g37040), X K E 275 [(3, .int (iI z37028)), (4, .int (iI z37020)), (2, .int (iI z35659)), (1, .int (iI z34111)), (0, .ref a0)] [] S g37040 0 0 := by
                          intro g37040 hg37040
                          refine X_aloadn hK (i := 0) 4 kd28_81.2.2.2.2.2.1 rfl rfl ?_
                          refine X_getK hK fl_X12_256_13 hs_a0 ((hg37040 a0 13 0 20 hs_a0 (by decide)).trans eq36730) kd28_81.2.2.2.2.2.2.1 ?_
                          refine X_aloadn hK (i := 0) 4 kd28_81.2.2.2.2.2.2.2.1 rfl rfl ?_
                          refine X_getK hK fl_X12_259_13 hs_a0 ((hg37040 a0 13 0 21 hs_a0 (by decide)).trans ((hg36729 a0 13 0 21 hs_a0 (by decide)).trans ((xs_k hg35663 (by decide)).trans ((xs_k hg35662 (by decide)).trans (xs_s hg31016))))) kd28_81.2.2.2.2.2.2.2.2.1 ?_
                          refine X_isub hK kd28_81.2.2.2.2.2.2.2.2.2.1 ?_
                          refine X_iconst hK kd28_81.2.2.2.2.2.2.2.2.2.2.1 ?_
                          have J37047 : ∀ (g37048 : xG) (hg37048 : xM [(13, 23)] S g37040 g37048), X K E 305 [(3, .int (iI z37028)), (4, .int (iI z37020)), (2, .int (iI z35659)), (1, .int (iI z34111)), (0, .ref a0)] [] S g37048 0 0 := by
                            intro g37048 hg37048
                            refine X_aloadn hK (i := 0) 4 kd28_82.2.2.2.2.2.2.2.2.2.2.1 rfl rfl ?_
                            refine X_dup hK kd28_82.2.2.2.2.2.2.2.2.2.2.2 rfl ?_
                            refine X_getK hK fl_X12_256_13 hs_a0 ((hg37048 a0 13 0 20 hs_a0 (by decide)).trans ((hg37040 a0 13 0 20 hs_a0 (by decide)).trans eq36730)) kd28_83.1 ?_
                            refine X_iconst hK kd28_83.2.1 ?_
                            refine X_iadd hK kd28_83.2.2.1 ?_
                            refine X_puti hK fl_X12_256_13 hs_a0 (by decide) sl_13_20 (by omega) (by omega) kd28_83.2.2.2.1 (fun g37049 hg37049 => ?_)
                            refine X_goto hK 183 kd28_83.2.2.2.2.1 (by decide) ?_
                            refine X_lv [(3, .int (iI z37028)), (2, .int (iI z35659)), (1, .int (iI z34111)), (0, .ref a0)] [0, 2, 3, 4] rfl ?_
                            exact ihP36959  g37049 (xM_up (xM.tr (xM.tr (xM.tr xM.rf xLe.rf hg36729 (by decide)) xLe.rf hg37040 (by decide)) xLe.rf hg37048 (by decide)) hg37049 hs_a0 (by decide) (by decide)) z37028 (by omega) (by omega) (q36730 + 1) (by omega) (by omega) (xs_s hg37049) (by omega)
                          refine X_icmp_ge hK 305 (by omega) (by omega) kd28_81.2.2.2.2.2.2.2.2.2.2.2 (by decide) (fun c37041 => ?_) (fun c37041 => ?_)
                          · exact J37047 g37040 xM.rf
                          · refine X_aloadn hK (i := 0) 4 kd28_82.1 rfl rfl ?_
                            refine X_bipush hK kd28_82.2.1 (by decide) ?_
                            refine X_aloadn hK (i := 0) 4 kd28_82.2.2.1 rfl rfl ?_
                            refine X_geti hK fl_X12_281_13 hs_a0 sl_13_23 kd28_82.2.2.2.1 (fun z37050 ez37050 lz37050 uz37050 => ?_)
                            refine X_imul hK kd28_82.2.2.2.2.1 ?_
                            refine X_norm (fun z37051 ez37051 lz37051 uz37051 => ?_)
                            refine X_iload hK (i := 4) 1 kd28_82.2.2.2.2.2.1 rfl ?_
                            refine X_iadd hK kd28_82.2.2.2.2.2.2.1 ?_
                            refine X_norm (fun z37052 ez37052 lz37052 uz37052 => ?_)
                            refine X_bipush hK kd28_82.2.2.2.2.2.2.2.1 (by decide) ?_
                            refine X_isub hK kd28_82.2.2.2.2.2.2.2.2.1 ?_
                            refine X_norm (fun z37053 ez37053 lz37053 uz37053 => ?_)
                            refine X_puti hK fl_X12_281_13 hs_a0 (by decide) sl_13_23 (by omega) (by omega) kd28_82.2.2.2.2.2.2.2.2.2.1 (fun g37054 hg37054 => ?_)
                            exact J37047 g37054 (xM_up xM.rf hg37054 hs_a0 (by decide) (by decide))
                        refine X_icmp_ge hK 275 (by omega) (by omega) kd28_80.2.2.2.2.2.1 (by decide) (fun c37030 => ?_) (fun c37030 => ?_)
                        · exact J37039 g36729 xM.rf
                        · refine X_aloadn hK (i := 0) 4 kd28_80.2.2.2.2.2.2.1 rfl rfl ?_
                          refine X_ldc2 hK kd28_80.2.2.2.2.2.2.2.1 m_29_6 (fun y37055 => ?_)
                          refine X_aloadn hK (i := 0) 4 kd28_80.2.2.2.2.2.2.2.2.1 rfl rfl ?_
                          refine X_getl hK fl_X12_277_13 hs_a0 sl_13_28 kd28_80.2.2.2.2.2.2.2.2.2.1 (fun y37056 ey37056 => ?_)
                          refine X_lmul hK kd28_80.2.2.2.2.2.2.2.2.2.2.1 (fun y37057 => ?_)
                          refine X_iload hK (i := 4) 1 kd28_80.2.2.2.2.2.2.2.2.2.2.2 rfl ?_
                          refine X_i2l hK kd28_81.1 (fun y37058 => ?_)
                          refine X_ladd hK kd28_81.2.1 (fun y37059 => ?_)
                          refine X_ldc2 hK kd28_81.2.2.1 m_29_7 (fun y37060 => ?_)
                          refine X_lsub hK kd28_81.2.2.2.1 (fun y37061 => ?_)
                          refine X_putl hK fl_X12_277_13 hs_a0 (by decide) sl_13_28 kd28_81.2.2.2.2.1 (fun g37062 hg37062 => ?_)
                          exact J37039 g37062 (xM_up xM.rf hg37062 hs_a0 (by decide) (by decide))
                      refine X_if_eq hK 239 (by omega) kd28_79.2.2.1 (by decide) (fun c37021 => ?_) (fun c37021 => ?_)
                      · refine X_iconst hK kd28_79.2.2.2.2.2.2.2.2.2.1 ?_
                        exact J37029 0 (by omega) (by omega)
                      · refine X_iload hK (i := 4) 0 kd28_79.2.2.2.1 rfl ?_
                        refine X_callS hK [.int (iI z37020)] [] lk_X12_265 (c_X12_isLetter _ _ _ _ _ S g36729 z37020 (by omega)) kd28_79.2.2.2.2.1 rfl rfl (by simp [Value.category]) (by decide) (by decide) (by decide) (by decide) (fun r37063 S37065 g37064 pr37063 qr37063 hg37064 => ?_)
                        obtain ⟨rfl, rfl, z37066, rfl, lz37066, uz37066, k37067⟩ := pr37063
                        refine X_st [.int (iI z37066)] rfl ?_
                        refine X_iloadn hK (i := 2) 2 kd28_79.2.2.2.2.2.1 rfl rfl ?_
                        refine X_icmp_ne hK 239 (by omega) (by omega) kd28_79.2.2.2.2.2.2.1 (by decide) (fun c37068 => ?_) (fun c37068 => ?_)
                        · refine X_iconst hK kd28_79.2.2.2.2.2.2.2.2.2.1 ?_
                          exact J37029 0 (by omega) (by omega)
                        · refine X_iconst hK kd28_79.2.2.2.2.2.2.2.1 ?_
                          refine X_goto hK 240 kd28_79.2.2.2.2.2.2.2.2.1 (by decide) ?_
                          exact J37029 1 (by omega) (by omega)
                    · refine X_aloadn hK (i := 0) 3 kd28_78.2.1 rfl rfl ?_
                      refine X_aloadn hK (i := 0) 3 kd28_78.2.2.1 rfl rfl ?_
                      refine X_getK hK fl_X12_256_13 hs_a0 eq36730 kd28_78.2.2.2.1 ?_
                      refine X_callV hK [.int (iI q36730)] [] lk_X12_284 (c_X12_byteAt _ _ _ _ _ S g36729 a0 q36730 hs_a0 (by omega)) hs_a0 ⟨by decide, rfl⟩ kd28_78.2.2.2.2.1 rfl rfl (by simp [Value.category]) (by decide) (by decide) (by decide) (by decide) (fun r37069 S37071 g37070 pr37069 qr37069 hg37070 => ?_)
                      obtain ⟨rfl, rfl, z37072, rfl, lz37072, uz37072, k37073⟩ := pr37069
                      refine X_st [.int (iI z37072)] rfl ?_
                      refine X_callS hK [.int (iI z37072)] [] lk_X12_268 (c_X12_isDigit _ _ _ _ _ S g36729 z37072 (by omega)) kd28_78.2.2.2.2.2.1 rfl rfl (by simp [Value.category]) (by decide) (by decide) (by decide) (by decide) (fun r37074 S37076 g37075 pr37074 qr37074 hg37075 => ?_)
                      obtain ⟨rfl, rfl, z37077, rfl, lz37077, uz37077, k37078⟩ := pr37074
                      refine X_st [.int (iI z37077)] rfl ?_
                      refine X_if_eq hK 318 (by omega) kd28_78.2.2.2.2.2.2.1 (by decide) (fun c37079 => ?_) (fun c37079 => ?_)
                      · refine X_aloadn hK (i := 0) 3 kd28_83.2.2.2.2.2.1 rfl rfl ?_
                        refine X_iloadn hK (i := 3) 0 kd28_83.2.2.2.2.2.2.1 rfl rfl ?_
                        refine X_if_eq hK 345 (by omega) kd28_83.2.2.2.2.2.2.2.1 (by decide) (fun c37129 => ?_) (fun c37129 => ?_)
                        · refine X_iconst hK kd28_84.2.2.2.2.2.2.2.1 ?_
                          refine X_goto hK 358 kd28_84.2.2.2.2.2.2.2.2.1 (by decide) ?_
                          refine X_puti hK fl_X12_262_13 hs_a0 (by decide) sl_13_22 (by omega) (by omega) kd28_85.2.2.1 (fun g37130 hg37130 => ?_)
                          exact hret _ _ _ _ _ _ kd28_85.2.2.2.1 ⟨rfl, rfl⟩ (Nat.le_refl _) (Nat.le_refl _)
                        · refine X_aloadn hK (i := 0) 3 kd28_83.2.2.2.2.2.2.2.2.1 rfl rfl ?_
                          refine X_getK hK fl_X12_256_13 hs_a0 eq36730 kd28_83.2.2.2.2.2.2.2.2.2.1 ?_
                          refine X_aloadn hK (i := 0) 3 kd28_83.2.2.2.2.2.2.2.2.2.2.1 rfl rfl ?_
                          refine X_getK hK fl_X12_259_13 hs_a0 ((hg36729 a0 13 0 21 hs_a0 (by decide)).trans ((xs_k hg35663 (by decide)).trans ((xs_k hg35662 (by decide)).trans (xs_s hg31016)))) kd28_83.2.2.2.2.2.2.2.2.2.2.2 ?_
                          refine X_isub hK kd28_84.1 ?_
                          refine X_iloadn hK (i := 2) 1 kd28_84.2.1 rfl rfl ?_
                          have J37133 : ∀ (z37132 : Int) (lz37132 : 4 ≤ z37132) (uz37132 : z37132 ≤ 8), X K E 342 [(3, .int (iI z36728)), (2, .int (iI z35659)), (1, .int (iI z34111)), (0, .ref a0)] [.int (iI z37132), .int (iI (q36730 - q24806)), .ref a0] S g36729 0 0 := by
                            intro z37132 lz37132 uz37132
                            refine X_icmp_le hK 349 (by omega) (by omega) kd28_84.2.2.2.2.2.2.1 (by decide) (fun c37134 => ?_) (fun c37134 => ?_)
                            · refine X_iloadn hK (i := 2) 1 kd28_84.2.2.2.2.2.2.2.2.2.1 rfl rfl ?_
                              refine X_if_eq hK 357 (by omega) kd28_84.2.2.2.2.2.2.2.2.2.2.1 (by decide) (fun c37135 => ?_) (fun c37135 => ?_)
                              · refine X_iconst hK kd28_85.2.1 ?_
                                refine X_puti hK fl_X12_262_13 hs_a0 (by decide) sl_13_22 (by omega) (by omega) kd28_85.2.2.1 (fun g37136 hg37136 => ?_)
                                exact hret _ _ _ _ _ _ kd28_85.2.2.2.1 ⟨rfl, rfl⟩ (Nat.le_refl _) (Nat.le_refl _)
                              · refine X_iconst hK kd28_84.2.2.2.2.2.2.2.2.2.2.2 ?_
                                refine X_goto hK 358 kd28_85.1 (by decide) ?_
                                refine X_puti hK fl_X12_262_13 hs_a0 (by decide) sl_13_22 (by omega) (by omega) kd28_85.2.2.1 (fun g37137 hg37137 => ?_)
                                exact hret _ _ _ _ _ _ kd28_85.2.2.2.1 ⟨rfl, rfl⟩ (Nat.le_refl _) (Nat.le_refl _)
                            · refine X_iconst hK kd28_84.2.2.2.2.2.2.2.1 ?_
                              refine X_goto hK 358 kd28_84.2.2.2.2.2.2.2.2.1 (by decide) ?_
                              refine X_puti hK fl_X12_262_13 hs_a0 (by decide) sl_13_22 (by omega) (by omega) kd28_85.2.2.1 (fun g37138 hg37138 => ?_)
                              exact hret _ _ _ _ _ _ kd28_85.2.2.2.1 ⟨rfl, rfl⟩ (Nat.le_refl _) (Nat.le_refl _)
                          refine X_if_eq hK 341 (by omega) kd28_84.2.2.1 (by decide) (fun c37131 => ?_) (fun c37131 => ?_)
                          · refine X_iconst hK kd28_84.2.2.2.2.2.1 ?_
                            exact J37133 4 (by omega) (by omega)
                          · refine X_bipush hK kd28_84.2.2.2.1 (by decide) ?_
                            refine X_goto hK 342 kd28_84.2.2.2.2.1 (by decide) ?_
                            exact J37133 8 (by omega) (by omega)
                      · refine X_aloadn hK (i := 0) 3 kd28_78.2.2.2.2.2.2.2.1 rfl rfl ?_
                        refine X_getK hK fl_X12_7_13 hs_a0 ((hg36729 a0 13 0 1 hs_a0 (by decide)).trans ((xs_k hg35663 (by decide)).trans ((xs_k hg35662 (by decide)).trans eb34110))) kd28_78.2.2.2.2.2.2.2.2.1 ?_
                        refine X_aloadn hK (i := 0) 3 kd28_78.2.2.2.2.2.2.2.2.2.1 rfl rfl ?_
                        refine X_getK hK fl_X12_256_13 hs_a0 eq36730 kd28_78.2.2.2.2.2.2.2.2.2.2.1 ?_
                        refine X_iald hK hs_b34110 (by decide) sl_14100 (by omega) (by omega) kd28_78.2.2.2.2.2.2.2.2.2.2.2 (fun z37139 ez37139 lz37139 uz37139 => ?_)
                        refine X_istore hK (i := 4) [(4, .int (iI z37139)), (3, .int (iI z36728)), (2, .int (iI z35659)), (1, .int (iI z34111)), (0, .ref a0)] kd28_79.1 (by decide) rfl ?_
                        refine X_iloadn hK (i := 3) 1 kd28_79.2.1 rfl rfl ?_
                        have J37148 : ∀ (z37147 : Int) (lz37147 : 0 ≤ z37147) (uz37147 : z37147 ≤ 1), X K E 240 [(4, .int (iI z37139)), (3, .int (iI z36728)), (2, .int (iI z35659)), (1, .int (iI z34111)), (0, .ref a0)] [.int (iI z37147)] S g36729 0 0 := by
                          intro z37147 lz37147 uz37147
                          refine X_istoren hK (i := 3) [(3, .int (iI z37147)), (4, .int (iI z37139)), (2, .int (iI z35659)), (1, .int (iI z34111)), (0, .ref a0)] kd28_79.2.2.2.2.2.2.2.2.2.2.1 rfl (by decide) rfl ?_
                          refine X_aloadn hK (i := 0) 4 kd28_79.2.2.2.2.2.2.2.2.2.2.2 rfl rfl ?_
                          refine X_getK hK fl_X12_256_13 hs_a0 eq36730 kd28_80.1 ?_
                          refine X_aloadn hK (i := 0) 4 kd28_80.2.1 rfl rfl ?_
                          refine X_getK hK fl_X12_259_13 hs_a0 ((hg36729 a0 13 0 21 hs_a0 (by decide)).trans ((xs_k hg35663 (by decide)).trans ((xs_k hg35662 (by decide)).trans (xs_s hg31016)))) kd28_80.2.2.1 ?_
                          refine X_isub hK kd28_80.2.2.2.1 ?_
                          refine X_bipush hK kd28_80.2.2.2.2.1 (by decide) ?_
                          have J37158 : ∀ (g37159 : xG) (hg37159 : xM [(13, 28)] S g36729 g37159), X K E 275 [(3, .int (iI z37147)), (4, .int (iI z37139)), (2, .int (iI z35659)), (1, .int (iI z34111)), (0, .ref a0)] [] S g37159 0 0 := by
                            intro g37159 hg37159
                            refine X_aloadn hK (i := 0) 4 kd28_81.2.2.2.2.2.1 rfl rfl ?_
                            refine X_getK hK fl_X12_256_13 hs_a0 ((hg37159 a0 13 0 20 hs_a0 (by decide)).trans eq36730) kd28_81.2.2.2.2.2.2.1 ?_
                            refine X_aloadn hK (i := 0) 4 kd28_81.2.2.2.2.2.2.2.1 rfl rfl ?_
                            refine X_getK hK fl_X12_259_13 hs_a0 ((hg37159 a0 13 0 21 hs_a0 (by decide)).trans ((hg36729 a0 13 0 21 hs_a0 (by decide)).trans ((xs_k hg35663 (by decide)).trans ((xs_k hg35662 (by decide)).trans (xs_s hg31016))))) kd28_81.2.2.2.2.2.2.2.2.1 ?_
                            refine X_isub hK kd28_81.2.2.2.2.2.2.2.2.2.1 ?_
                            refine X_iconst hK kd28_81.2.2.2.2.2.2.2.2.2.2.1 ?_
                            have J37166 : ∀ (g37167 : xG) (hg37167 : xM [(13, 23)] S g37159 g37167), X K E 305 [(3, .int (iI z37147)), (4, .int (iI z37139)), (2, .int (iI z35659)), (1, .int (iI z34111)), (0, .ref a0)] [] S g37167 0 0 := by
                              intro g37167 hg37167
                              refine X_aloadn hK (i := 0) 4 kd28_82.2.2.2.2.2.2.2.2.2.2.1 rfl rfl ?_
                              refine X_dup hK kd28_82.2.2.2.2.2.2.2.2.2.2.2 rfl ?_
                              refine X_getK hK fl_X12_256_13 hs_a0 ((hg37167 a0 13 0 20 hs_a0 (by decide)).trans ((hg37159 a0 13 0 20 hs_a0 (by decide)).trans eq36730)) kd28_83.1 ?_
                              refine X_iconst hK kd28_83.2.1 ?_
                              refine X_iadd hK kd28_83.2.2.1 ?_
                              refine X_puti hK fl_X12_256_13 hs_a0 (by decide) sl_13_20 (by omega) (by omega) kd28_83.2.2.2.1 (fun g37168 hg37168 => ?_)
                              refine X_goto hK 183 kd28_83.2.2.2.2.1 (by decide) ?_
                              refine X_lv [(3, .int (iI z37147)), (2, .int (iI z35659)), (1, .int (iI z34111)), (0, .ref a0)] [0, 2, 3, 4] rfl ?_
                              exact ihP36959  g37168 (xM_up (xM.tr (xM.tr (xM.tr xM.rf xLe.rf hg36729 (by decide)) xLe.rf hg37159 (by decide)) xLe.rf hg37167 (by decide)) hg37168 hs_a0 (by decide) (by decide)) z37147 (by omega) (by omega) (q36730 + 1) (by omega) (by omega) (xs_s hg37168) (by omega)
                            refine X_icmp_ge hK 305 (by omega) (by omega) kd28_81.2.2.2.2.2.2.2.2.2.2.2 (by decide) (fun c37160 => ?_) (fun c37160 => ?_)
                            · exact J37166 g37159 xM.rf
                            · refine X_aloadn hK (i := 0) 4 kd28_82.1 rfl rfl ?_
                              refine X_bipush hK kd28_82.2.1 (by decide) ?_
                              refine X_aloadn hK (i := 0) 4 kd28_82.2.2.1 rfl rfl ?_
                              refine X_geti hK fl_X12_281_13 hs_a0 sl_13_23 kd28_82.2.2.2.1 (fun z37169 ez37169 lz37169 uz37169 => ?_)
                              refine X_imul hK kd28_82.2.2.2.2.1 ?_
                              refine X_norm (fun z37170 ez37170 lz37170 uz37170 => ?_)
                              refine X_iload hK (i := 4) 1 kd28_82.2.2.2.2.2.1 rfl ?_
                              refine X_iadd hK kd28_82.2.2.2.2.2.2.1 ?_
                              refine X_norm (fun z37171 ez37171 lz37171 uz37171 => ?_)
                              refine X_bipush hK kd28_82.2.2.2.2.2.2.2.1 (by decide) ?_
                              refine X_isub hK kd28_82.2.2.2.2.2.2.2.2.1 ?_
                              refine X_norm (fun z37172 ez37172 lz37172 uz37172 => ?_)
                              refine X_puti hK fl_X12_281_13 hs_a0 (by decide) sl_13_23 (by omega) (by omega) kd28_82.2.2.2.2.2.2.2.2.2.1 (fun g37173 hg37173 => ?_)
                              exact J37166 g37173 (xM_up xM.rf hg37173 hs_a0 (by decide) (by decide))
                          refine X_icmp_ge hK 275 (by omega) (by omega) kd28_80.2.2.2.2.2.1 (by decide) (fun c37149 => ?_) (fun c37149 => ?_)
                          · exact J37158 g36729 xM.rf
                          · refine X_aloadn hK (i := 0) 4 kd28_80.2.2.2.2.2.2.1 rfl rfl ?_
                            refine X_ldc2 hK kd28_80.2.2.2.2.2.2.2.1 m_29_6 (fun y37174 => ?_)
                            refine X_aloadn hK (i := 0) 4 kd28_80.2.2.2.2.2.2.2.2.1 rfl rfl ?_
                            refine X_getl hK fl_X12_277_13 hs_a0 sl_13_28 kd28_80.2.2.2.2.2.2.2.2.2.1 (fun y37175 ey37175 => ?_)
                            refine X_lmul hK kd28_80.2.2.2.2.2.2.2.2.2.2.1 (fun y37176 => ?_)
                            refine X_iload hK (i := 4) 1 kd28_80.2.2.2.2.2.2.2.2.2.2.2 rfl ?_
                            refine X_i2l hK kd28_81.1 (fun y37177 => ?_)
                            refine X_ladd hK kd28_81.2.1 (fun y37178 => ?_)
                            refine X_ldc2 hK kd28_81.2.2.1 m_29_7 (fun y37179 => ?_)
                            refine X_lsub hK kd28_81.2.2.2.1 (fun y37180 => ?_)
                            refine X_putl hK fl_X12_277_13 hs_a0 (by decide) sl_13_28 kd28_81.2.2.2.2.1 (fun g37181 hg37181 => ?_)
                            exact J37158 g37181 (xM_up xM.rf hg37181 hs_a0 (by decide) (by decide))
                        refine X_if_eq hK 239 (by omega) kd28_79.2.2.1 (by decide) (fun c37140 => ?_) (fun c37140 => ?_)
                        · refine X_iconst hK kd28_79.2.2.2.2.2.2.2.2.2.1 ?_
                          exact J37148 0 (by omega) (by omega)
                        · refine X_iload hK (i := 4) 0 kd28_79.2.2.2.1 rfl ?_
                          refine X_callS hK [.int (iI z37139)] [] lk_X12_265 (c_X12_isLetter _ _ _ _ _ S g36729 z37139 (by omega)) kd28_79.2.2.2.2.1 rfl rfl (by simp [Value.category]) (by decide) (by decide) (by decide) (by decide) (fun r37182 S37184 g37183 pr37182 qr37182 hg37183 => ?_)
                          obtain ⟨rfl, rfl, z37185, rfl, lz37185, uz37185, k37186⟩ := pr37182
                          refine X_st [.int (iI z37185)] rfl ?_
                          refine X_iloadn hK (i := 2) 2 kd28_79.2.2.2.2.2.1 rfl rfl ?_
                          refine X_icmp_ne hK 239 (by omega) (by omega) kd28_79.2.2.2.2.2.2.1 (by decide) (fun c37187 => ?_) (fun c37187 => ?_)
                          · refine X_iconst hK kd28_79.2.2.2.2.2.2.2.2.2.1 ?_
                            exact J37148 0 (by omega) (by omega)
                          · refine X_iconst hK kd28_79.2.2.2.2.2.2.2.1 ?_
                            refine X_goto hK 240 kd28_79.2.2.2.2.2.2.2.2.1 (by decide) ?_
                            exact J37148 1 (by omega) (by omega)
                exact P36959 ((420 - q24806 : Int).toNat + 1) g35663 xM.rf 1 (by omega) (by omega) q24806 (by omega) (by omega) ((xs_k hg35663 (by decide)).trans ((xs_k hg35662 (by decide)).trans ((xs_k hg31016 (by decide)).trans eq24806))) (by omega)
              · refine X_aloadn hK (i := 0) 1 kd28_75.2.2.1 rfl rfl ?_
                refine X_iloadn hK (i := 1) 0 kd28_75.2.2.2.1 rfl rfl ?_
                refine X_callS hK [.int (iI z34111)] [.ref a0] lk_X12_271 (c_X12_isMark _ _ _ _ _ S g31016 z34111 (by omega)) kd28_75.2.2.2.2.1 rfl rfl (by simp [Value.category]) (by decide) (by decide) (by decide) (by decide) (fun r37188 S37190 g37189 pr37188 qr37188 hg37189 => ?_)
                obtain ⟨rfl, rfl, z37191, rfl, lz37191, uz37191⟩ := pr37188
                refine X_st [.int (iI z37191), .ref a0] rfl ?_
                have J37194 : ∀ (z37193 : Int) (lz37193 : 1 ≤ z37193) (uz37193 : z37193 ≤ 4), X K E 147 [(1, .int (iI z34111)), (0, .ref a0)] [.int (iI z37193), .ref a0] S g31016 0 0 := by
                  intro z37193 lz37193 uz37193
                  refine X_puti hK fl_X12_262_13 hs_a0 (by decide) sl_13_22 (by omega) (by omega) kd28_75.2.2.2.2.2.2.2.2.2.1 (fun g37195 hg37195 => ?_)
                  refine X_aloadn hK (i := 0) 1 kd28_75.2.2.2.2.2.2.2.2.2.2.1 rfl rfl ?_
                  refine X_iloadn hK (i := 1) 0 kd28_75.2.2.2.2.2.2.2.2.2.2.2 rfl rfl ?_
                  refine X_puti hK fl_X12_274_13 hs_a0 (by decide) sl_13_24 (by omega) (by omega) kd28_76.1 (fun g37196 hg37196 => ?_)
                  refine X_aloadn hK (i := 0) 1 kd28_76.2.1 rfl rfl ?_
                  refine X_dup hK kd28_76.2.2.1 rfl ?_
                  refine X_getK hK fl_X12_256_13 hs_a0 ((xs_k hg37196 (by decide)).trans ((xs_k hg37195 (by decide)).trans ((xs_k hg31016 (by decide)).trans eq24806))) kd28_76.2.2.2.1 ?_
                  refine X_iconst hK kd28_76.2.2.2.2.1 ?_
                  refine X_iadd hK kd28_76.2.2.2.2.2.1 ?_
                  refine X_puti hK fl_X12_256_13 hs_a0 (by decide) sl_13_20 (by omega) (by omega) kd28_76.2.2.2.2.2.2.1 (fun g37197 hg37197 => ?_)
                  exact hret _ _ _ _ _ _ kd28_76.2.2.2.2.2.2.2.1 ⟨rfl, rfl⟩ (Nat.le_refl _) (Nat.le_refl _)
                refine X_if_eq hK 146 (by omega) kd28_75.2.2.2.2.2.1 (by decide) (fun c37192 => ?_) (fun c37192 => ?_)
                · refine X_iconst hK kd28_75.2.2.2.2.2.2.2.2.1 ?_
                  exact J37194 1 (by omega) (by omega)
                · refine X_iconst hK kd28_75.2.2.2.2.2.2.1 ?_
                  refine X_goto hK 147 kd28_75.2.2.2.2.2.2.2.1 (by decide) ?_
                  exact J37194 4 (by omega) (by omega)
          · refine X_aloadn hK (i := 0) 0 kd28_72.2.2.2.2.2.2.2.2.2.2.1 rfl rfl ?_
            refine X_sipush hK kd28_72.2.2.2.2.2.2.2.2.2.2.2 (by decide) ?_
            refine X_puti hK fl_X12_259_13 hs_a0 (by decide) sl_13_21 (by omega) (by omega) kd28_73.1 (fun g37198 hg37198 => ?_)
            refine X_aloadn hK (i := 0) 0 kd28_73.2.1 rfl rfl ?_
            refine X_iconst hK kd28_73.2.2.1 ?_
            refine X_puti hK fl_X12_262_13 hs_a0 (by decide) sl_13_22 (by omega) (by omega) kd28_73.2.2.2.1 (fun g37199 hg37199 => ?_)
            exact hret _ _ _ _ _ _ kd28_73.2.2.2.2.1 ⟨rfl, rfl⟩ (Nat.le_refl _) (Nat.le_refl _)
      refine X_icmp_ge hK 52 (by omega) (by omega) kd28_70.1 (by decide) (fun c31008 => ?_) (fun c31008 => ?_)
      · exact J31015 
      · refine X_aloadn hK (i := 0) 0 kd28_70.2.1 rfl rfl ?_
        refine X_getr hK 14100 420 fl_X12_7_13 hs_a0 sl_13_1 kd28_70.2.2.1 (fun b37200 eb37200 hs_b37200 => ?_)
        refine X_aloadn hK (i := 0) 0 kd28_70.2.2.2.1 rfl rfl ?_
        refine X_getK hK fl_X12_256_13 hs_a0 eq24806 kd28_70.2.2.2.2.1 ?_
        refine X_iald hK hs_b37200 (by decide) sl_14100 (by omega) (by omega) kd28_70.2.2.2.2.2.1 (fun z37201 ez37201 lz37201 uz37201 => ?_)
        refine X_bipush hK kd28_70.2.2.2.2.2.2.1 (by decide) ?_
        refine X_icmp_eq hK 39 (by omega) (by omega) kd28_70.2.2.2.2.2.2.2.1 (by decide) (fun c37202 => ?_) (fun c37202 => ?_)
        · refine X_aloadn hK (i := 0) 0 kd28_71.2.2.2.1 rfl rfl ?_
          refine X_dup hK kd28_71.2.2.2.2.1 rfl ?_
          refine X_getK hK fl_X12_256_13 hs_a0 eq24806 kd28_71.2.2.2.2.2.1 ?_
          refine X_iconst hK kd28_71.2.2.2.2.2.2.1 ?_
          refine X_iadd hK kd28_71.2.2.2.2.2.2.2.1 ?_
          refine X_puti hK fl_X12_256_13 hs_a0 (by decide) sl_13_20 (by omega) (by omega) kd28_71.2.2.2.2.2.2.2.2.1 (fun g37203 hg37203 => ?_)
          refine X_goto hK 0 kd28_71.2.2.2.2.2.2.2.2.2.1 (by decide) ?_
          exact ihP31006  g37203 (xM_up (xM.tr xM.rf xLe.rf hg24805 (by decide)) hg37203 hs_a0 (by decide) (by decide)) (q24806 + 1) (by omega) (by omega) (xs_s hg37203) (by omega)
        · refine X_aloadn hK (i := 0) 0 kd28_70.2.2.2.2.2.2.2.2.1 rfl rfl ?_
          refine X_getK hK fl_X12_7_13 hs_a0 eb37200 kd28_70.2.2.2.2.2.2.2.2.2.1 ?_
          refine X_aloadn hK (i := 0) 0 kd28_70.2.2.2.2.2.2.2.2.2.2.1 rfl rfl ?_
          refine X_getK hK fl_X12_256_13 hs_a0 eq24806 kd28_70.2.2.2.2.2.2.2.2.2.2.2 ?_
          refine X_ialdK hK hs_b37200 (by decide) (by omega) (by omega) ez37201 kd28_71.1 ?_
          refine X_bipush hK kd28_71.2.1 (by decide) ?_
          refine X_icmp_ne hK 52 (by omega) (by omega) kd28_71.2.2.1 (by decide) (fun c37204 => ?_) (fun c37204 => ?_)
          · exact J31015 
          · refine X_aloadn hK (i := 0) 0 kd28_71.2.2.2.1 rfl rfl ?_
            refine X_dup hK kd28_71.2.2.2.2.1 rfl ?_
            refine X_getK hK fl_X12_256_13 hs_a0 eq24806 kd28_71.2.2.2.2.2.1 ?_
            refine X_iconst hK kd28_71.2.2.2.2.2.2.1 ?_
            refine X_iadd hK kd28_71.2.2.2.2.2.2.2.1 ?_
            refine X_puti hK fl_X12_256_13 hs_a0 (by decide) sl_13_20 (by omega) (by omega) kd28_71.2.2.2.2.2.2.2.2.1 (fun g37205 hg37205 => ?_)
            refine X_goto hK 0 kd28_71.2.2.2.2.2.2.2.2.2.1 (by decide) ?_
            exact ihP31006  g37205 (xM_up (xM.tr xM.rf xLe.rf hg24805 (by decide)) hg37205 hs_a0 (by decide) (by decide)) (q24806 + 1) (by omega) (by omega) (xs_s hg37205) (by omega)
  exact P31006 ((420 - z1 : Int).toNat + 1) g xM.rf z1 (by omega) (by omega) ez1 (by omega)

set_option maxHeartbeats 4000000 in
set_option maxRecDepth 100000 in
theorem c_X12_skyOf (l : Launch) (D : va_G) (kA : Nat → ClassId) (b0 : Nat) (t0 : Nat → Nat) (S : xT) (g : xG) (a0 : Nat) (x1 : Int) (sm : Int) (ms : Nat) (hs_a0 : S a0 = some (13, 0)) (hx1 : 0 ≤ x1 ∧ x1 ≤ 399) (hsm : 0 ≤ sm ∧ sm ≤ 400) (esm : g a0 17 = .int (iI sm)) (ems : g a0 10 = .ref ms) (hs_ms : S ms = some (14700, 400)) : xMt l yX12_skyOf cX12_skyOf 2 (some .int) 0 0 0 0 D kA b0 t0 [] [.ref a0, .int (iI x1)] S g (fun (r : Option Value) (S1 : xT) (g1 : xG) => S = S1 ∧ g = g1 ∧ ∃ z : Int, r = some (.int (iI z)) ∧ 0 ≤ z ∧ z ≤ 3 ∧ (z = (if sm = 0 then 0 else if x1 < sm then xv g ms x1 else 3))) := by
  refine xEnterI (by decide) (by simp [lg_sl, Value.category]) [(0, .ref a0), (1, .int (iI x1))] rfl ?_
  intro K E hK hret _ _ _
  refine X_aloadn hK (i := 0) 0 kd28_124.2.2.2.1 rfl rfl ?_
  refine X_getK hK fl_X12_226_13 hs_a0 esm kd28_124.2.2.2.2.1 ?_
  refine X_if_ne hK 11 (by omega) kd28_124.2.2.2.2.2.1 (by decide) (fun c1 => ?_) (fun c1 => ?_)
  · refine X_iloadn hK (i := 1) 1 kd28_124.2.2.2.2.2.2.2.2.1 rfl rfl ?_
    refine X_aloadn hK (i := 0) 0 kd28_124.2.2.2.2.2.2.2.2.2.1 rfl rfl ?_
    refine X_getK hK fl_X12_226_13 hs_a0 esm kd28_124.2.2.2.2.2.2.2.2.2.2.1 ?_
    refine X_icmp_ge hK 28 (by omega) (by omega) kd28_124.2.2.2.2.2.2.2.2.2.2.2 (by decide) (fun c2 => ?_) (fun c2 => ?_)
    · refine X_iconst hK kd28_125.2.2.2.2.2.1 ?_
      exact hret _ _ _ _ _ _ _ kd28_125.2.2.2.2.2.2.1 ⟨rfl, rfl, 3, rfl, (by omega), (by omega), (by omega)⟩ (Nat.le_refl _) (Nat.le_refl _)
    · refine X_aloadn hK (i := 0) 0 kd28_125.1 rfl rfl ?_
      refine X_getK hK fl_X12_32_13 hs_a0 ems kd28_125.2.1 ?_
      refine X_iloadn hK (i := 1) 1 kd28_125.2.2.1 rfl rfl ?_
      refine X_iald hK hs_ms (by decide) sl_14700 (by omega) (by omega) kd28_125.2.2.2.1 (fun z3 ez3 lz3 uz3 => ?_)
      have hvz3 := xv_e (j := x1) ez3 (by omega)
      refine X_goto hK 29 kd28_125.2.2.2.2.1 (by decide) ?_
      exact hret _ _ _ _ _ _ _ kd28_125.2.2.2.2.2.2.1 ⟨rfl, rfl, z3, rfl, (by omega), (by omega), (by omega)⟩ (Nat.le_refl _) (Nat.le_refl _)
  · refine X_iconst hK kd28_124.2.2.2.2.2.2.1 ?_
    refine X_goto hK 29 kd28_124.2.2.2.2.2.2.2.1 (by decide) ?_
    exact hret _ _ _ _ _ _ _ kd28_125.2.2.2.2.2.2.1 ⟨rfl, rfl, 0, rfl, (by omega), (by omega), (by omega)⟩ (Nat.le_refl _) (Nat.le_refl _)

set_option maxHeartbeats 4000000 in
set_option maxRecDepth 100000 in
theorem c_X12_sky (l : Launch) (D : va_G) (kA : Nat → ClassId) (b0 : Nat) (t0 : Nat → Nat) (S : xT) (g : xG) (a0 : Nat) (x1 : Int) (sm : Int) (ms : Nat) (hs_a0 : S a0 = some (13, 0)) (hx1 : (-2147483648) ≤ x1 ∧ x1 ≤ 2147483647) (hsm : 0 ≤ sm ∧ sm ≤ 400) (esm : g a0 17 = .int (iI sm)) (ems : g a0 10 = .ref ms) (hs_ms : S ms = some (14700, 400)) : xMt l yX12_sky cX12_sky 2 (some .int) 1 0 0 21 D kA b0 t0 [(13, 0)] [.ref a0, .int (iI x1)] S g (fun (r : Option Value) (S1 : xT) (g1 : xG) => S = S1 ∧ ∃ z : Int, r = some (.int (iI z)) ∧ (-1) ≤ z ∧ z ≤ 3 ∧ (z = if 0 ≤ x1 ∧ x1 ≤ 399 then (if sm = 0 then 0 else if x1 < sm then xv g ms x1 else 3) else -1)) := by
  refine xEnterI (by decide) (by simp [lg_sl, Value.category]) [(0, .ref a0), (1, .int (iI x1))] rfl ?_
  intro K E hK hret _ _ _
  refine X_aloadn hK (i := 0) 0 kd28_123.2.2.2.1 rfl rfl ?_
  refine X_iconst hK kd28_123.2.2.2.2.1 ?_
  refine X_puti hK fl_X12_198_13 hs_a0 (by decide) sl_13_0 (by omega) (by omega) kd28_123.2.2.2.2.2.1 (fun g1 hg1 => ?_)
  refine X_iloadn hK (i := 1) 1 kd28_123.2.2.2.2.2.2.1 rfl rfl ?_
  refine X_callS hK [.int (iI x1)] [] lk_X12_229 (c_X12_isDay _ _ _ _ _ S g1 x1 (by omega)) kd28_123.2.2.2.2.2.2.2.1 rfl rfl (by simp [Value.category]) (by decide) (by decide) (by decide) (by decide) (fun r2 S4 g3 pr2 qr2 hg3 => ?_)
  obtain ⟨rfl, rfl, z5, rfl, lz5, uz5, k6⟩ := pr2
  refine X_st [.int (iI z5)] rfl ?_
  refine X_if_eq hK 20 (by omega) kd28_123.2.2.2.2.2.2.2.2.1 (by decide) (fun c7 => ?_) (fun c7 => ?_)
  · refine X_iconst hK kd28_124.2.1 ?_
    exact hret _ _ _ _ _ _ _ kd28_124.2.2.1 ⟨rfl, (-1), rfl, (by omega), (by omega), (by rw [← (xv_a hg1 (xne hs_ms hs_a0 (by decide)))]; omega)⟩ (Nat.le_refl _) (Nat.le_refl _)
  · refine X_aloadn hK (i := 0) 0 kd28_123.2.2.2.2.2.2.2.2.2.1 rfl rfl ?_
    refine X_iloadn hK (i := 1) 1 kd28_123.2.2.2.2.2.2.2.2.2.2.1 rfl rfl ?_
    refine X_callV hK [.int (iI x1)] [] lk_X12_232 (c_X12_skyOf _ _ _ _ _ S g1 a0 x1 sm ms hs_a0 (by omega) (by omega) ((xs_k hg1 (by decide)).trans esm) ((xs_k hg1 (by decide)).trans ems) hs_ms) hs_a0 ⟨by decide, rfl⟩ kd28_123.2.2.2.2.2.2.2.2.2.2.2 rfl rfl (by simp [Value.category]) (by decide) (by decide) (by decide) (by decide) (fun r8 S10 g9 pr8 qr8 hg9 => ?_)
    obtain ⟨rfl, rfl, z11, rfl, lz11, uz11, k12⟩ := pr8
    refine X_st [.int (iI z11)] rfl ?_
    refine X_goto hK 21 kd28_124.1 (by decide) ?_
    exact hret _ _ _ _ _ _ _ kd28_124.2.2.1 ⟨rfl, z11, rfl, (by omega), (by omega), (by rw [← (xv_a hg1 (xne hs_ms hs_a0 (by decide)))]; omega)⟩ (Nat.le_refl _) (Nat.le_refl _)

set_option maxHeartbeats 4000000 in
set_option maxRecDepth 100000 in
theorem c_X12_isBoy (l : Launch) (D : va_G) (kA : Nat → ClassId) (b0 : Nat) (t0 : Nat → Nat) (S : xT) (g : xG) (a0 : Nat) (x1 : Int) (n0 : Int) (hs_a0 : S a0 = some (13, 0)) (hx1 : (-2147483648) ≤ x1 ∧ x1 ≤ 2147483647) (hn0 : 0 ≤ n0 ∧ n0 ≤ 40) (en0 : g a0 16 = .int (iI n0)) : xMt l yX12_isBoy cX12_isBoy 2 (some .boolean) 0 0 0 0 D kA b0 t0 [] [.ref a0, .int (iI x1)] S g (fun (r : Option Value) (S1 : xT) (g1 : xG) => S = S1 ∧ g = g1 ∧ ∃ z : Int, r = some (.int (iI z)) ∧ 0 ≤ z ∧ z ≤ 1 ∧ ((z = 1 ↔ 0 ≤ x1 ∧ x1 < n0))) := by
  refine xEnterZ (by decide) (by simp [lg_sl, Value.category]) [(0, .ref a0), (1, .int (iI x1))] rfl ?_
  intro K E hK hret _ _ _
  refine X_iloadn hK (i := 1) 1 kd28_97.2.2.2.2.2.2.2.2.1 rfl rfl ?_
  refine X_if_lt hK 16 (by omega) kd28_97.2.2.2.2.2.2.2.2.2.1 (by decide) (fun c1 => ?_) (fun c1 => ?_)
  · refine X_iconst hK kd28_98.2.2.2.2.1 ?_
    exact hret _ _ _ _ _ _ _ kd28_98.2.2.2.2.2.1 (by omega) (by omega) ⟨rfl, rfl, 0, rfl, (by omega), (by omega), (by omega)⟩ (Nat.le_refl _) (Nat.le_refl _)
  · refine X_iloadn hK (i := 1) 1 kd28_97.2.2.2.2.2.2.2.2.2.2.1 rfl rfl ?_
    refine X_aloadn hK (i := 0) 0 kd28_97.2.2.2.2.2.2.2.2.2.2.2 rfl rfl ?_
    refine X_getK hK fl_X12_208_13 hs_a0 en0 kd28_98.1 ?_
    refine X_icmp_ge hK 16 (by omega) (by omega) kd28_98.2.1 (by decide) (fun c2 => ?_) (fun c2 => ?_)
    · refine X_iconst hK kd28_98.2.2.2.2.1 ?_
      exact hret _ _ _ _ _ _ _ kd28_98.2.2.2.2.2.1 (by omega) (by omega) ⟨rfl, rfl, 0, rfl, (by omega), (by omega), (by omega)⟩ (Nat.le_refl _) (Nat.le_refl _)
    · refine X_iconst hK kd28_98.2.2.1 ?_
      refine X_goto hK 17 kd28_98.2.2.2.1 (by decide) ?_
      exact hret _ _ _ _ _ _ _ kd28_98.2.2.2.2.2.1 (by omega) (by omega) ⟨rfl, rfl, 1, rfl, (by omega), (by omega), (by omega)⟩ (Nat.le_refl _) (Nat.le_refl _)

set_option maxHeartbeats 4000000 in
set_option maxRecDepth 100000 in
theorem c_X12_badge (l : Launch) (D : va_G) (kA : Nat → ClassId) (b0 : Nat) (t0 : Nat → Nat) (S : xT) (g : xG) (a0 : Nat) (x1 : Int) (x2 : Int) (n0 : Int) (hs_a0 : S a0 = some (13, 0)) (hx1 : (-2147483648) ≤ x1 ∧ x1 ≤ 2147483647) (hx2 : (-2147483648) ≤ x2 ∧ x2 ≤ 2147483647) (hn0 : 0 ≤ n0 ∧ n0 ≤ 40) (en0 : g a0 16 = .int (iI n0)) : xMt l yX12_badge cX12_badge 3 (some .boolean) 1 0 0 22 D kA b0 t0 [(13, 0), (14300, 0)] [.ref a0, .int (iI x1), .int (iI x2)] S g (fun (r : Option Value) (S1 : xT) (g1 : xG) => S = S1 ∧ ∃ z : Int, r = some (.int (iI z)) ∧ 0 ≤ z ∧ z ≤ 1 ∧ ((z = 1 ↔ 0 ≤ x1 ∧ x1 < n0 ∧ -1 ≤ x2 ∧ x2 ≤ 399))) := by
  refine xEnterZ (by decide) (by simp [lg_sl, Value.category]) [(0, .ref a0), (1, .int (iI x1)), (2, .int (iI x2))] rfl ?_
  intro K E hK hret _ _ _
  refine X_aloadn hK (i := 0) 0 kd28_26.2.2.1 rfl rfl ?_
  refine X_iconst hK kd28_26.2.2.2.1 ?_
  refine X_puti hK fl_X12_198_13 hs_a0 (by decide) sl_13_0 (by omega) (by omega) kd28_26.2.2.2.2.1 (fun g1 hg1 => ?_)
  refine X_aloadn hK (i := 0) 0 kd28_26.2.2.2.2.2.1 rfl rfl ?_
  refine X_iloadn hK (i := 1) 1 kd28_26.2.2.2.2.2.2.1 rfl rfl ?_
  refine X_callV hK [.int (iI x1)] [] lk_X12_215 (c_X12_isBoy _ _ _ _ _ S g1 a0 x1 n0 hs_a0 (by omega) (by omega) ((xs_k hg1 (by decide)).trans en0)) hs_a0 ⟨by decide, rfl⟩ kd28_26.2.2.2.2.2.2.2.1 rfl rfl (by simp [Value.category]) (by decide) (by decide) (by decide) (by decide) (fun r2 S4 g3 pr2 qr2 hg3 => ?_)
  obtain ⟨rfl, rfl, z5, rfl, lz5, uz5, k6⟩ := pr2
  refine X_st [.int (iI z5)] rfl ?_
  refine X_if_eq hK 24 (by omega) kd28_26.2.2.2.2.2.2.2.2.1 (by decide) (fun c7 => ?_) (fun c7 => ?_)
  · refine X_iconst hK kd28_27.2.2.1 ?_
    exact hret _ _ _ _ _ _ _ kd28_27.2.2.2.1 (by omega) (by omega) ⟨rfl, 0, rfl, (by omega), (by omega), (by omega)⟩ (Nat.le_refl _) (Nat.le_refl _)
  · refine X_iloadn hK (i := 2) 2 kd28_26.2.2.2.2.2.2.2.2.2.1 rfl rfl ?_
    refine X_iconst hK kd28_26.2.2.2.2.2.2.2.2.2.2.1 ?_
    refine X_sipush hK kd28_26.2.2.2.2.2.2.2.2.2.2.2 (by decide) ?_
    refine X_callS hK [.int (iI x2), .int (iI (-1)), .int (iI 399)] [] lk_X12_211 (c_X12_isIn _ _ _ _ _ S g1 x2 (-1) 399 (by omega) (by omega) (by omega)) kd28_27.1 rfl rfl (by simp [Value.category]) (by decide) (by decide) (by decide) (by decide) (fun r8 S10 g9 pr8 qr8 hg9 => ?_)
    obtain ⟨rfl, rfl, z11, rfl, lz11, uz11, k12⟩ := pr8
    refine X_st [.int (iI z11)] rfl ?_
    refine X_if_ne hK 26 (by omega) kd28_27.2.1 (by decide) (fun c13 => ?_) (fun c13 => ?_)
    · refine X_aloadn hK (i := 0) 0 kd28_27.2.2.2.2.1 rfl rfl ?_
      refine X_getr hK 14300 40 fl_X12_16_13 hs_a0 sl_13_5 kd28_27.2.2.2.2.2.1 (fun b14 eb14 hs_b14 => ?_)
      refine X_iloadn hK (i := 1) 1 kd28_27.2.2.2.2.2.2.1 rfl rfl ?_
      refine X_iloadn hK (i := 2) 2 kd28_27.2.2.2.2.2.2.2.1 rfl rfl ?_
      refine X_iast hK hs_b14 (by decide) (by decide) sl_14300 (by omega) (by omega) (by omega) (by omega) kd28_27.2.2.2.2.2.2.2.2.1 (fun g15 hg15 => ?_)
      refine X_iconst hK kd28_27.2.2.2.2.2.2.2.2.2.1 ?_
      exact hret _ _ _ _ _ _ _ kd28_27.2.2.2.2.2.2.2.2.2.2.1 (by omega) (by omega) ⟨rfl, 1, rfl, (by omega), (by omega), (by omega)⟩ (Nat.le_refl _) (Nat.le_refl _)
    · refine X_iconst hK kd28_27.2.2.1 ?_
      exact hret _ _ _ _ _ _ _ kd28_27.2.2.2.1 (by omega) (by omega) ⟨rfl, 0, rfl, (by omega), (by omega), (by omega)⟩ (Nat.le_refl _) (Nat.le_refl _)

set_option maxHeartbeats 4000000 in
set_option maxRecDepth 100000 in
theorem c_X12_owner (l : Launch) (D : va_G) (kA : Nat → ClassId) (b0 : Nat) (t0 : Nat → Nat) (S : xT) (g : xG) (a0 : Nat) (x1 : Int) (x2 : Int) (n0 : Int) (hs_a0 : S a0 = some (13, 0)) (hx1 : (-2147483648) ≤ x1 ∧ x1 ≤ 2147483647) (hx2 : (-2147483648) ≤ x2 ∧ x2 ≤ 2147483647) (hn0 : 0 ≤ n0 ∧ n0 ≤ 40) (en0 : g a0 16 = .int (iI n0)) : xMt l yX12_owner cX12_owner 3 (some .boolean) 1 0 0 21 D kA b0 t0 [(13, 0), (14600, 0)] [.ref a0, .int (iI x1), .int (iI x2)] S g (fun (r : Option Value) (S1 : xT) (g1 : xG) => S = S1 ∧ ∃ z : Int, r = some (.int (iI z)) ∧ 0 ≤ z ∧ z ≤ 1 ∧ ((z = 1 ↔ 0 ≤ x1 ∧ x1 ≤ 9 ∧ -1 ≤ x2 ∧ x2 < n0))) := by
  refine xEnterZ (by decide) (by simp [lg_sl, Value.category]) [(0, .ref a0), (1, .int (iI x1)), (2, .int (iI x2))] rfl ?_
  intro K E hK hret _ _ _
  refine X_aloadn hK (i := 0) 0 kd28_113.2.2.2.2.2.2.2.2.2.2.2 rfl rfl ?_
  refine X_iconst hK kd28_114.1 ?_
  refine X_puti hK fl_X12_198_13 hs_a0 (by decide) sl_13_0 (by omega) (by omega) kd28_114.2.1 (fun g1 hg1 => ?_)
  refine X_iloadn hK (i := 1) 1 kd28_114.2.2.1 rfl rfl ?_
  refine X_callS hK [.int (iI x1)] [] lk_X12_219 (c_X12_isCorner _ _ _ _ _ S g1 x1 (by omega)) kd28_114.2.2.2.1 rfl rfl (by simp [Value.category]) (by decide) (by decide) (by decide) (by decide) (fun r2 S4 g3 pr2 qr2 hg3 => ?_)
  obtain ⟨rfl, rfl, z5, rfl, lz5, uz5, k6⟩ := pr2
  refine X_st [.int (iI z5)] rfl ?_
  refine X_if_eq hK 25 (by omega) kd28_114.2.2.2.2.1 (by decide) (fun c7 => ?_) (fun c7 => ?_)
  · refine X_iconst hK kd28_115.1 ?_
    exact hret _ _ _ _ _ _ _ kd28_115.2.1 (by omega) (by omega) ⟨rfl, 0, rfl, (by omega), (by omega), (by omega)⟩ (Nat.le_refl _) (Nat.le_refl _)
  · refine X_iloadn hK (i := 2) 2 kd28_114.2.2.2.2.2.1 rfl rfl ?_
    refine X_iconst hK kd28_114.2.2.2.2.2.2.1 ?_
    refine X_icmp_eq hK 27 (by omega) (by omega) kd28_114.2.2.2.2.2.2.2.1 (by decide) (fun c8 => ?_) (fun c8 => ?_)
    · refine X_aloadn hK (i := 0) 0 kd28_115.2.2.1 rfl rfl ?_
      refine X_getr hK 14600 10 fl_X12_29_13 hs_a0 sl_13_9 kd28_115.2.2.2.1 (fun b9 eb9 hs_b9 => ?_)
      refine X_iloadn hK (i := 1) 1 kd28_115.2.2.2.2.1 rfl rfl ?_
      refine X_iloadn hK (i := 2) 2 kd28_115.2.2.2.2.2.1 rfl rfl ?_
      refine X_iast hK hs_b9 (by decide) (by decide) sl_14600 (by omega) (by omega) (by omega) (by omega) kd28_115.2.2.2.2.2.2.1 (fun g10 hg10 => ?_)
      refine X_iconst hK kd28_115.2.2.2.2.2.2.2.1 ?_
      exact hret _ _ _ _ _ _ _ kd28_115.2.2.2.2.2.2.2.2.1 (by omega) (by omega) ⟨rfl, 1, rfl, (by omega), (by omega), (by omega)⟩ (Nat.le_refl _) (Nat.le_refl _)
    · refine X_aloadn hK (i := 0) 0 kd28_114.2.2.2.2.2.2.2.2.1 rfl rfl ?_
      refine X_iloadn hK (i := 2) 2 kd28_114.2.2.2.2.2.2.2.2.2.1 rfl rfl ?_
      refine X_callV hK [.int (iI x2)] [] lk_X12_215 (c_X12_isBoy _ _ _ _ _ S g1 a0 x2 n0 hs_a0 (by omega) (by omega) ((xs_k hg1 (by decide)).trans en0)) hs_a0 ⟨by decide, rfl⟩ kd28_114.2.2.2.2.2.2.2.2.2.2.1 rfl rfl (by simp [Value.category]) (by decide) (by decide) (by decide) (by decide) (fun r11 S13 g12 pr11 qr11 hg12 => ?_)
      obtain ⟨rfl, rfl, z14, rfl, lz14, uz14, k15⟩ := pr11
      refine X_st [.int (iI z14)] rfl ?_
      refine X_if_ne hK 27 (by omega) kd28_114.2.2.2.2.2.2.2.2.2.2.2 (by decide) (fun c16 => ?_) (fun c16 => ?_)
      · refine X_aloadn hK (i := 0) 0 kd28_115.2.2.1 rfl rfl ?_
        refine X_getr hK 14600 10 fl_X12_29_13 hs_a0 sl_13_9 kd28_115.2.2.2.1 (fun b17 eb17 hs_b17 => ?_)
        refine X_iloadn hK (i := 1) 1 kd28_115.2.2.2.2.1 rfl rfl ?_
        refine X_iloadn hK (i := 2) 2 kd28_115.2.2.2.2.2.1 rfl rfl ?_
        refine X_iast hK hs_b17 (by decide) (by decide) sl_14600 (by omega) (by omega) (by omega) (by omega) kd28_115.2.2.2.2.2.2.1 (fun g18 hg18 => ?_)
        refine X_iconst hK kd28_115.2.2.2.2.2.2.2.1 ?_
        exact hret _ _ _ _ _ _ _ kd28_115.2.2.2.2.2.2.2.2.1 (by omega) (by omega) ⟨rfl, 1, rfl, (by omega), (by omega), (by omega)⟩ (Nat.le_refl _) (Nat.le_refl _)
      · refine X_iconst hK kd28_115.1 ?_
        exact hret _ _ _ _ _ _ _ kd28_115.2.1 (by omega) (by omega) ⟨rfl, 0, rfl, (by omega), (by omega), (by omega)⟩ (Nat.le_refl _) (Nat.le_refl _)

set_option maxHeartbeats 4000000 in
set_option maxRecDepth 100000 in
theorem c_X12_headline (l : Launch) (D : va_G) (kA : Nat → ClassId) (b0 : Nat) (t0 : Nat → Nat) (S : xT) (g : xG) (a0 : Nat) (x1 : Int) (x2 : Int) (x3 : Int) (td : Int) (hs_a0 : S a0 = some (13, 0)) (hx1 : (-2147483648) ≤ x1 ∧ x1 ≤ 2147483647) (hx2 : (-2147483648) ≤ x2 ∧ x2 ≤ 2147483647) (hx3 : (-2147483648) ≤ x3 ∧ x3 ≤ 2147483647) (htd : 0 ≤ td ∧ td ≤ 400) (etd : g a0 3 = .int (iI td)) : xMt l yX12_headline cX12_headline 4 (some .boolean) 1 0 0 22 D kA b0 t0 [(13, 0), (14800, 0)] [.ref a0, .int (iI x1), .int (iI x2), .int (iI x3)] S g (fun (r : Option Value) (S1 : xT) (g1 : xG) => S = S1 ∧ ∃ z : Int, r = some (.int (iI z)) ∧ 0 ≤ z ∧ z ≤ 1 ∧ ((z = 1 ↔ 0 ≤ x1 ∧ x1 ≤ 3 ∧ 0 ≤ x2 ∧ x2 ≤ 399 ∧ td ≤ x2 ∧ 0 ≤ x3 ∧ x3 ≤ 5))) := by
  refine xEnterZ (by decide) (by simp [lg_sl, Value.category]) [(0, .ref a0), (1, .int (iI x1)), (2, .int (iI x2)), (3, .int (iI x3))] rfl ?_
  intro K E hK hret _ _ _
  refine X_aloadn hK (i := 0) 0 kd28_85.2.2.2.2.1 rfl rfl ?_
  refine X_iconst hK kd28_85.2.2.2.2.2.1 ?_
  refine X_puti hK fl_X12_198_13 hs_a0 (by decide) sl_13_0 (by omega) (by omega) kd28_85.2.2.2.2.2.2.1 (fun g1 hg1 => ?_)
  refine X_iloadn hK (i := 1) 1 kd28_85.2.2.2.2.2.2.2.1 rfl rfl ?_
  refine X_callS hK [.int (iI x1)] [] lk_X12_236 (c_X12_isPaper _ _ _ _ _ S g1 x1 (by omega)) kd28_85.2.2.2.2.2.2.2.2.1 rfl rfl (by simp [Value.category]) (by decide) (by decide) (by decide) (by decide) (fun r2 S4 g3 pr2 qr2 hg3 => ?_)
  obtain ⟨rfl, rfl, z5, rfl, lz5, uz5, k6⟩ := pr2
  refine X_st [.int (iI z5)] rfl ?_
  refine X_if_eq hK 35 (by omega) kd28_85.2.2.2.2.2.2.2.2.2.1 (by decide) (fun c7 => ?_) (fun c7 => ?_)
  · refine X_iconst hK kd28_86.2.2.2.2.2.2.2.2.2.1 ?_
    exact hret _ _ _ _ _ _ _ kd28_86.2.2.2.2.2.2.2.2.2.2.1 (by omega) (by omega) ⟨rfl, 0, rfl, (by omega), (by omega), (by omega)⟩ (Nat.le_refl _) (Nat.le_refl _)
  · refine X_iloadn hK (i := 2) 2 kd28_85.2.2.2.2.2.2.2.2.2.2.1 rfl rfl ?_
    refine X_aloadn hK (i := 0) 0 kd28_85.2.2.2.2.2.2.2.2.2.2.2 rfl rfl ?_
    refine X_getK hK fl_X12_239_13 hs_a0 ((xs_k hg1 (by decide)).trans etd) kd28_86.1 ?_
    refine X_sipush hK kd28_86.2.1 (by decide) ?_
    refine X_callS hK [.int (iI x2), .int (iI td), .int (iI 399)] [] lk_X12_211 (c_X12_isIn _ _ _ _ _ S g1 x2 td 399 (by omega) (by omega) (by omega)) kd28_86.2.2.1 rfl rfl (by simp [Value.category]) (by decide) (by decide) (by decide) (by decide) (fun r8 S10 g9 pr8 qr8 hg9 => ?_)
    obtain ⟨rfl, rfl, z11, rfl, lz11, uz11, k12⟩ := pr8
    refine X_st [.int (iI z11)] rfl ?_
    refine X_if_eq hK 35 (by omega) kd28_86.2.2.2.1 (by decide) (fun c13 => ?_) (fun c13 => ?_)
    · refine X_iconst hK kd28_86.2.2.2.2.2.2.2.2.2.1 ?_
      exact hret _ _ _ _ _ _ _ kd28_86.2.2.2.2.2.2.2.2.2.2.1 (by omega) (by omega) ⟨rfl, 0, rfl, (by omega), (by omega), (by omega)⟩ (Nat.le_refl _) (Nat.le_refl _)
    · refine X_iloadn hK (i := 3) 3 kd28_86.2.2.2.2.1 rfl rfl ?_
      refine X_iconst hK kd28_86.2.2.2.2.2.1 ?_
      refine X_iconst hK kd28_86.2.2.2.2.2.2.1 ?_
      refine X_callS hK [.int (iI x3), .int (iI 0), .int (iI 5)] [] lk_X12_211 (c_X12_isIn _ _ _ _ _ S g1 x3 0 5 (by omega) (by omega) (by omega)) kd28_86.2.2.2.2.2.2.2.1 rfl rfl (by simp [Value.category]) (by decide) (by decide) (by decide) (by decide) (fun r14 S16 g15 pr14 qr14 hg15 => ?_)
      obtain ⟨rfl, rfl, z17, rfl, lz17, uz17, k18⟩ := pr14
      refine X_st [.int (iI z17)] rfl ?_
      refine X_if_ne hK 37 (by omega) kd28_86.2.2.2.2.2.2.2.2.1 (by decide) (fun c19 => ?_) (fun c19 => ?_)
      · refine X_aloadn hK (i := 0) 0 kd28_86.2.2.2.2.2.2.2.2.2.2.2 rfl rfl ?_
        refine X_getr hK 14800 1600 fl_X12_35_13 hs_a0 sl_13_11 kd28_87.1 (fun b20 eb20 hs_b20 => ?_)
        refine X_sipush hK kd28_87.2.1 (by decide) ?_
        refine X_iloadn hK (i := 1) 1 kd28_87.2.2.1 rfl rfl ?_
        refine X_imul hK kd28_87.2.2.2.1 ?_
        refine X_iloadn hK (i := 2) 2 kd28_87.2.2.2.2.1 rfl rfl ?_
        refine X_iadd hK kd28_87.2.2.2.2.2.1 ?_
        refine X_iloadn hK (i := 3) 3 kd28_87.2.2.2.2.2.2.1 rfl rfl ?_
        refine X_iast hK hs_b20 (by decide) (by decide) sl_14800 (by omega) (by omega) (by omega) (by omega) kd28_87.2.2.2.2.2.2.2.1 (fun g21 hg21 => ?_)
        refine X_iconst hK kd28_87.2.2.2.2.2.2.2.2.1 ?_
        exact hret _ _ _ _ _ _ _ kd28_87.2.2.2.2.2.2.2.2.2.1 (by omega) (by omega) ⟨rfl, 1, rfl, (by omega), (by omega), (by omega)⟩ (Nat.le_refl _) (Nat.le_refl _)
      · refine X_iconst hK kd28_86.2.2.2.2.2.2.2.2.2.1 ?_
        exact hret _ _ _ _ _ _ _ kd28_86.2.2.2.2.2.2.2.2.2.2.1 (by omega) (by omega) ⟨rfl, 0, rfl, (by omega), (by omega), (by omega)⟩ (Nat.le_refl _) (Nat.le_refl _)

set_option maxHeartbeats 4000000 in
set_option maxRecDepth 100000 in
theorem c_X12_want (l : Launch) (D : va_G) (kA : Nat → ClassId) (b0 : Nat) (t0 : Nat → Nat) (S : xT) (g : xG) (a0 : Nat) (x1 : Int) (x2 : Int) (x3 : Int) (mw : Nat) (hs_a0 : S a0 = some (13, 0)) (hx1 : (-2147483648) ≤ x1 ∧ x1 ≤ 2147483647) (hx2 : (-2147483648) ≤ x2 ∧ x2 ≤ 2147483647) (hx3 : (-2147483648) ≤ x3 ∧ x3 ≤ 2147483647) (emw : g a0 12 = .ref mw) (hs_mw : S mw = some (14900, 40)) : xMt l yX12_want cX12_want 4 (some .boolean) 1 0 0 22 D kA b0 t0 [(13, 0), (14900, 0)] [.ref a0, .int (iI x1), .int (iI x2), .int (iI x3)] S g (fun (r : Option Value) (S1 : xT) (g1 : xG) => S = S1 ∧ ∃ z : Int, r = some (.int (iI z)) ∧ 0 ≤ z ∧ z ≤ 1 ∧ ((z = 1 ↔ 0 ≤ x1 ∧ x1 ≤ 9 ∧ 0 ≤ x2 ∧ x2 ≤ 3 ∧ 0 ≤ x3 ∧ x3 ≤ 400)) ∧ ((z = 1 → xUp (xv g1 mw) (xv g mw) (4 * x1 + x2) x3) ∧ (z ≠ 1 → xv g1 mw = xv g mw))) := by
  refine xEnterZ (by decide) (by simp [lg_sl, Value.category]) [(0, .ref a0), (1, .int (iI x1)), (2, .int (iI x2)), (3, .int (iI x3))] rfl ?_
  intro K E hK hret _ _ _
  refine X_aloadn hK (i := 0) 0 kd28_149.2.2.2.2.2.2.2.2.2.2.1 rfl rfl ?_
  refine X_iconst hK kd28_149.2.2.2.2.2.2.2.2.2.2.2 ?_
  refine X_puti hK fl_X12_198_13 hs_a0 (by decide) sl_13_0 (by omega) (by omega) kd28_150.1 (fun g1 hg1 => ?_)
  refine X_iloadn hK (i := 1) 1 kd28_150.2.1 rfl rfl ?_
  refine X_callS hK [.int (iI x1)] [] lk_X12_219 (c_X12_isCorner _ _ _ _ _ S g1 x1 (by omega)) kd28_150.2.2.1 rfl rfl (by simp [Value.category]) (by decide) (by decide) (by decide) (by decide) (fun r2 S4 g3 pr2 qr2 hg3 => ?_)
  obtain ⟨rfl, rfl, z5, rfl, lz5, uz5, k6⟩ := pr2
  refine X_st [.int (iI z5)] rfl ?_
  refine X_if_eq hK 30 (by omega) kd28_150.2.2.2.1 (by decide) (fun c7 => ?_) (fun c7 => ?_)
  · refine X_iconst hK kd28_151.1 ?_
    exact hret _ _ _ _ _ _ _ kd28_151.2.1 (by omega) (by omega) ⟨rfl, 0, rfl, (by omega), (by omega), (by omega), ⟨fun h9 => by omega, fun _ => (xv_a hg1 (xne hs_mw hs_a0 (by decide)))⟩⟩ (Nat.le_refl _) (Nat.le_refl _)
  · refine X_iloadn hK (i := 2) 2 kd28_150.2.2.2.2.1 rfl rfl ?_
    refine X_callS hK [.int (iI x2)] [] lk_X12_236 (c_X12_isPaper _ _ _ _ _ S g1 x2 (by omega)) kd28_150.2.2.2.2.2.1 rfl rfl (by simp [Value.category]) (by decide) (by decide) (by decide) (by decide) (fun r8 S10 g9 pr8 qr8 hg9 => ?_)
    obtain ⟨rfl, rfl, z11, rfl, lz11, uz11, k12⟩ := pr8
    refine X_st [.int (iI z11)] rfl ?_
    refine X_if_eq hK 30 (by omega) kd28_150.2.2.2.2.2.2.1 (by decide) (fun c13 => ?_) (fun c13 => ?_)
    · refine X_iconst hK kd28_151.1 ?_
      exact hret _ _ _ _ _ _ _ kd28_151.2.1 (by omega) (by omega) ⟨rfl, 0, rfl, (by omega), (by omega), (by omega), ⟨fun h9 => by omega, fun _ => (xv_a hg1 (xne hs_mw hs_a0 (by decide)))⟩⟩ (Nat.le_refl _) (Nat.le_refl _)
    · refine X_iloadn hK (i := 3) 3 kd28_150.2.2.2.2.2.2.2.1 rfl rfl ?_
      refine X_iconst hK kd28_150.2.2.2.2.2.2.2.2.1 ?_
      refine X_sipush hK kd28_150.2.2.2.2.2.2.2.2.2.1 (by decide) ?_
      refine X_callS hK [.int (iI x3), .int (iI 0), .int (iI 400)] [] lk_X12_211 (c_X12_isIn _ _ _ _ _ S g1 x3 0 400 (by omega) (by omega) (by omega)) kd28_150.2.2.2.2.2.2.2.2.2.2.1 rfl rfl (by simp [Value.category]) (by decide) (by decide) (by decide) (by decide) (fun r14 S16 g15 pr14 qr14 hg15 => ?_)
      obtain ⟨rfl, rfl, z17, rfl, lz17, uz17, k18⟩ := pr14
      refine X_st [.int (iI z17)] rfl ?_
      refine X_if_ne hK 32 (by omega) kd28_150.2.2.2.2.2.2.2.2.2.2.2 (by decide) (fun c19 => ?_) (fun c19 => ?_)
      · refine X_aloadn hK (i := 0) 0 kd28_151.2.2.1 rfl rfl ?_
        refine X_getK hK fl_X12_38_13 hs_a0 ((xs_k hg1 (by decide)).trans emw) kd28_151.2.2.2.1 ?_
        refine X_iconst hK kd28_151.2.2.2.2.1 ?_
        refine X_iloadn hK (i := 1) 1 kd28_151.2.2.2.2.2.1 rfl rfl ?_
        refine X_imul hK kd28_151.2.2.2.2.2.2.1 ?_
        refine X_iloadn hK (i := 2) 2 kd28_151.2.2.2.2.2.2.2.1 rfl rfl ?_
        refine X_iadd hK kd28_151.2.2.2.2.2.2.2.2.1 ?_
        refine X_iloadn hK (i := 3) 3 kd28_151.2.2.2.2.2.2.2.2.2.1 rfl rfl ?_
        refine X_iast hK hs_mw (by decide) (by decide) sl_14900 (by omega) (by omega) (by omega) (by omega) kd28_151.2.2.2.2.2.2.2.2.2.2.1 (fun g20 hg20 => ?_)
        refine X_iconst hK kd28_151.2.2.2.2.2.2.2.2.2.2.2 ?_
        exact hret _ _ _ _ _ _ _ kd28_152.1 (by omega) (by omega) ⟨rfl, 1, rfl, (by omega), (by omega), (by omega), ⟨fun _ => (by rw [← (xv_a hg1 (xne hs_mw hs_a0 (by decide)))]; exact xUp.of hg20 (by omega) (by omega)), fun h9 => absurd rfl h9⟩⟩ (Nat.le_refl _) (Nat.le_refl _)
      · refine X_iconst hK kd28_151.1 ?_
        exact hret _ _ _ _ _ _ _ kd28_151.2.1 (by omega) (by omega) ⟨rfl, 0, rfl, (by omega), (by omega), (by omega), ⟨fun h9 => by omega, fun _ => (xv_a hg1 (xne hs_mw hs_a0 (by decide)))⟩⟩ (Nat.le_refl _) (Nat.le_refl _)

set_option maxHeartbeats 4000000 in
set_option maxRecDepth 100000 in
theorem c_X12_askedOf (l : Launch) (D : va_G) (kA : Nat → ClassId) (b0 : Nat) (t0 : Nat → Nat) (S : xT) (g : xG) (a0 : Nat) (x1 : Int) (x2 : Int) (x3 : Int) (x4 : Int) (mw : Nat) (wt : Nat) (ld : Nat) (hs_a0 : S a0 = some (13, 0)) (hx1 : 0 ≤ x1 ∧ x1 ≤ 9) (hx2 : 0 ≤ x2 ∧ x2 ≤ 3) (hx3 : 0 ≤ x3 ∧ x3 ≤ 3) (hx4 : 0 ≤ x4 ∧ x4 ≤ 5) (emw : g a0 12 = .ref mw) (hs_mw : S mw = some (14900, 40)) (ewt : g a0 13 = .ref wt) (hs_wt : S wt = some (15000, 4)) (eld : g a0 14 = .ref ld) (hs_ld : S ld = some (15100, 6)) : xMt l yX12_askedOf cX12_askedOf 5 (some .int) 0 0 0 0 D kA b0 t0 [] [.ref a0, .int (iI x1), .int (iI x2), .int (iI x3), .int (iI x4)] S g (fun (r : Option Value) (S1 : xT) (g1 : xG) => S = S1 ∧ g = g1 ∧ ∃ z : Int, r = some (.int (iI z)) ∧ 0 ≤ z ∧ z ≤ 3600 ∧ (z = xas (xv g mw (4 * x1 + x2)) (xv g wt x3) (xv g ld x4))) := by
  refine xEnterI (by decide) (by simp [lg_sl, Value.category]) [(0, .ref a0), (1, .int (iI x1)), (2, .int (iI x2)), (3, .int (iI x3)), (4, .int (iI x4))] rfl ?_
  intro K E hK hret _ _ _
  refine X_aloadn hK (i := 0) 0 kd28_10.2.2.1 rfl rfl ?_
  refine X_getK hK fl_X12_38_13 hs_a0 emw kd28_10.2.2.2.1 ?_
  refine X_iconst hK kd28_10.2.2.2.2.1 ?_
  refine X_iloadn hK (i := 1) 1 kd28_10.2.2.2.2.2.1 rfl rfl ?_
  refine X_imul hK kd28_10.2.2.2.2.2.2.1 ?_
  refine X_iloadn hK (i := 2) 2 kd28_10.2.2.2.2.2.2.2.1 rfl rfl ?_
  refine X_iadd hK kd28_10.2.2.2.2.2.2.2.2.1 ?_
  refine X_iald hK hs_mw (by decide) sl_14900 (by omega) (by omega) kd28_10.2.2.2.2.2.2.2.2.2.1 (fun z1 ez1 lz1 uz1 => ?_)
  have hw2 : xv g mw ((4 * x1) + x2) = z1 := xv_e (j := ((4 * x1) + x2)) ez1 (by omega)
  refine X_aloadn hK (i := 0) 0 kd28_10.2.2.2.2.2.2.2.2.2.2.1 rfl rfl ?_
  refine X_getK hK fl_X12_41_13 hs_a0 ewt kd28_10.2.2.2.2.2.2.2.2.2.2.2 ?_
  refine X_iloadn hK (i := 3) 3 kd28_11.1 rfl rfl ?_
  refine X_iald hK hs_wt (by decide) sl_15000 (by omega) (by omega) kd28_11.2.1 (fun z3 ez3 lz3 uz3 => ?_)
  have hw4 : xv g wt x3 = z3 := xv_e (j := x3) ez3 (by omega)
  refine X_imul hK kd28_11.2.2.1 ?_
  have hm5 := xmulB (a := z1) (b := z3) (A := 400) (B := 300) (by omega) (by omega) (by omega) (by omega)
  refine X_bipush hK kd28_11.2.2.2.1 (by decide) ?_
  refine X_idiv hK (by omega) (by omega) kd28_11.2.2.2.2.1 (fun z6 ez6 fz6 => ?_)
  have bz6 : 0 ≤ z6 ∧ z6 ≤ 1200 := by omega
  have hd7 : z6 = (z1 * z3) / 100 := by omega
  refine X_aloadn hK (i := 0) 0 kd28_11.2.2.2.2.2.1 rfl rfl ?_
  refine X_getK hK fl_X12_44_13 hs_a0 eld kd28_11.2.2.2.2.2.2.1 ?_
  refine X_iload hK (i := 4) 4 kd28_11.2.2.2.2.2.2.2.1 rfl ?_
  refine X_iald hK hs_ld (by decide) sl_15100 (by omega) (by omega) kd28_11.2.2.2.2.2.2.2.2.1 (fun z8 ez8 lz8 uz8 => ?_)
  have hw9 : xv g ld x4 = z8 := xv_e (j := x4) ez8 (by omega)
  refine X_imul hK kd28_11.2.2.2.2.2.2.2.2.2.1 ?_
  have hm10 := xmulB (a := z6) (b := z8) (A := 1200) (B := 300) (by omega) (by omega) (by omega) (by omega)
  refine X_bipush hK kd28_11.2.2.2.2.2.2.2.2.2.2.1 (by decide) ?_
  refine X_idiv hK (by omega) (by omega) kd28_11.2.2.2.2.2.2.2.2.2.2.2 (fun z11 ez11 fz11 => ?_)
  have bz11 : 0 ≤ z11 ∧ z11 ≤ 3600 := by omega
  have hd12 : z11 = (z6 * z8) / 100 := by omega
  exact hret _ _ _ _ _ _ _ kd28_12.1 ⟨rfl, rfl, z11, rfl, (by omega), (by omega), (by unfold xas; rw [hw2, hw4, hw9, ← hd7]; exact hd12)⟩ (Nat.le_refl _) (Nat.le_refl _)

set_option maxHeartbeats 4000000 in
set_option maxRecDepth 100000 in
theorem c_X12_asked (l : Launch) (D : va_G) (kA : Nat → ClassId) (b0 : Nat) (t0 : Nat → Nat) (S : xT) (g : xG) (a0 : Nat) (x1 : Int) (x2 : Int) (x3 : Int) (x4 : Int) (mw : Nat) (wt : Nat) (ld : Nat) (hs_a0 : S a0 = some (13, 0)) (hx1 : (-2147483648) ≤ x1 ∧ x1 ≤ 2147483647) (hx2 : (-2147483648) ≤ x2 ∧ x2 ≤ 2147483647) (hx3 : (-2147483648) ≤ x3 ∧ x3 ≤ 2147483647) (hx4 : (-2147483648) ≤ x4 ∧ x4 ≤ 2147483647) (emw : g a0 12 = .ref mw) (hs_mw : S mw = some (14900, 40)) (ewt : g a0 13 = .ref wt) (hs_wt : S wt = some (15000, 4)) (eld : g a0 14 = .ref ld) (hs_ld : S ld = some (15100, 6)) : xMt l yX12_asked cX12_asked 5 (some .int) 1 0 0 24 D kA b0 t0 [(13, 0)] [.ref a0, .int (iI x1), .int (iI x2), .int (iI x3), .int (iI x4)] S g (fun (r : Option Value) (S1 : xT) (g1 : xG) => S = S1 ∧ ∃ z : Int, r = some (.int (iI z)) ∧ (-1) ≤ z ∧ z ≤ 3600 ∧ ((xAv x1 x2 x3 x4 ∧ z = xas (xv g mw (4 * x1 + x2)) (xv g wt x3) (xv g ld x4)) ∨ (¬ xAv x1 x2 x3 x4 ∧ z = -1))) := by
  refine xEnterI (by decide) (by simp [lg_sl, Value.category]) [(0, .ref a0), (1, .int (iI x1)), (2, .int (iI x2)), (3, .int (iI x3)), (4, .int (iI x4))] rfl ?_
  intro K E hK hret _ _ _
  refine X_aloadn hK (i := 0) 0 kd28_7.2.2.2.2.2.2.2.2.2.2.1 rfl rfl ?_
  refine X_iconst hK kd28_7.2.2.2.2.2.2.2.2.2.2.2 ?_
  refine X_puti hK fl_X12_198_13 hs_a0 (by decide) sl_13_0 (by omega) (by omega) kd28_8.1 (fun g1 hg1 => ?_)
  refine X_iloadn hK (i := 1) 1 kd28_8.2.1 rfl rfl ?_
  refine X_callS hK [.int (iI x1)] [] lk_X12_219 (c_X12_isCorner _ _ _ _ _ S g1 x1 (by omega)) kd28_8.2.2.1 rfl rfl (by simp [Value.category]) (by decide) (by decide) (by decide) (by decide) (fun r2 S4 g3 pr2 qr2 hg3 => ?_)
  obtain ⟨rfl, rfl, z5, rfl, lz5, uz5, k6⟩ := pr2
  refine X_st [.int (iI z5)] rfl ?_
  refine X_if_eq hK 50 (by omega) kd28_8.2.2.2.1 (by decide) (fun c7 => ?_) (fun c7 => ?_)
  · refine X_iconst hK kd28_10.1 ?_
    exact hret _ _ _ _ _ _ _ kd28_10.2.1 ⟨rfl, (-1), rfl, (by omega), (by omega), (Or.inr ⟨(by unfold xAv; omega), by omega⟩)⟩ (Nat.le_refl _) (Nat.le_refl _)
  · refine X_iloadn hK (i := 2) 2 kd28_8.2.2.2.2.1 rfl rfl ?_
    refine X_callS hK [.int (iI x2)] [] lk_X12_236 (c_X12_isPaper _ _ _ _ _ S g1 x2 (by omega)) kd28_8.2.2.2.2.2.1 rfl rfl (by simp [Value.category]) (by decide) (by decide) (by decide) (by decide) (fun r8 S10 g9 pr8 qr8 hg9 => ?_)
    obtain ⟨rfl, rfl, z11, rfl, lz11, uz11, k12⟩ := pr8
    refine X_st [.int (iI z11)] rfl ?_
    refine X_if_eq hK 50 (by omega) kd28_8.2.2.2.2.2.2.1 (by decide) (fun c13 => ?_) (fun c13 => ?_)
    · refine X_iconst hK kd28_10.1 ?_
      exact hret _ _ _ _ _ _ _ kd28_10.2.1 ⟨rfl, (-1), rfl, (by omega), (by omega), (Or.inr ⟨(by unfold xAv; omega), by omega⟩)⟩ (Nat.le_refl _) (Nat.le_refl _)
    · refine X_iloadn hK (i := 3) 3 kd28_8.2.2.2.2.2.2.2.1 rfl rfl ?_
      refine X_iconst hK kd28_8.2.2.2.2.2.2.2.2.1 ?_
      refine X_iconst hK kd28_8.2.2.2.2.2.2.2.2.2.1 ?_
      refine X_callS hK [.int (iI x3), .int (iI 0), .int (iI 3)] [] lk_X12_211 (c_X12_isIn _ _ _ _ _ S g1 x3 0 3 (by omega) (by omega) (by omega)) kd28_8.2.2.2.2.2.2.2.2.2.2.1 rfl rfl (by simp [Value.category]) (by decide) (by decide) (by decide) (by decide) (fun r14 S16 g15 pr14 qr14 hg15 => ?_)
      obtain ⟨rfl, rfl, z17, rfl, lz17, uz17, k18⟩ := pr14
      refine X_st [.int (iI z17)] rfl ?_
      refine X_if_eq hK 50 (by omega) kd28_8.2.2.2.2.2.2.2.2.2.2.2 (by decide) (fun c19 => ?_) (fun c19 => ?_)
      · refine X_iconst hK kd28_10.1 ?_
        exact hret _ _ _ _ _ _ _ kd28_10.2.1 ⟨rfl, (-1), rfl, (by omega), (by omega), (Or.inr ⟨(by unfold xAv; omega), by omega⟩)⟩ (Nat.le_refl _) (Nat.le_refl _)
      · refine X_iload hK (i := 4) 4 kd28_9.1 rfl ?_
        refine X_iconst hK kd28_9.2.1 ?_
        refine X_iconst hK kd28_9.2.2.1 ?_
        refine X_callS hK [.int (iI x4), .int (iI 0), .int (iI 5)] [] lk_X12_211 (c_X12_isIn _ _ _ _ _ S g1 x4 0 5 (by omega) (by omega) (by omega)) kd28_9.2.2.2.1 rfl rfl (by simp [Value.category]) (by decide) (by decide) (by decide) (by decide) (fun r20 S22 g21 pr20 qr20 hg21 => ?_)
        obtain ⟨rfl, rfl, z23, rfl, lz23, uz23, k24⟩ := pr20
        refine X_st [.int (iI z23)] rfl ?_
        refine X_if_eq hK 50 (by omega) kd28_9.2.2.2.2.1 (by decide) (fun c25 => ?_) (fun c25 => ?_)
        · refine X_iconst hK kd28_10.1 ?_
          exact hret _ _ _ _ _ _ _ kd28_10.2.1 ⟨rfl, (-1), rfl, (by omega), (by omega), (Or.inr ⟨(by unfold xAv; omega), by omega⟩)⟩ (Nat.le_refl _) (Nat.le_refl _)
        · refine X_aloadn hK (i := 0) 0 kd28_9.2.2.2.2.2.1 rfl rfl ?_
          refine X_iloadn hK (i := 1) 1 kd28_9.2.2.2.2.2.2.1 rfl rfl ?_
          refine X_iloadn hK (i := 2) 2 kd28_9.2.2.2.2.2.2.2.1 rfl rfl ?_
          refine X_iloadn hK (i := 3) 3 kd28_9.2.2.2.2.2.2.2.2.1 rfl rfl ?_
          refine X_iload hK (i := 4) 4 kd28_9.2.2.2.2.2.2.2.2.2.1 rfl ?_
          refine X_callV hK [.int (iI x1), .int (iI x2), .int (iI x3), .int (iI x4)] [] lk_X12_242 (c_X12_askedOf _ _ _ _ _ S g1 a0 x1 x2 x3 x4 mw wt ld hs_a0 (by omega) (by omega) (by omega) (by omega) ((xs_k hg1 (by decide)).trans emw) hs_mw ((xs_k hg1 (by decide)).trans ewt) hs_wt ((xs_k hg1 (by decide)).trans eld) hs_ld) hs_a0 ⟨by decide, rfl⟩ kd28_9.2.2.2.2.2.2.2.2.2.2.1 rfl rfl (by simp [Value.category]) (by decide) (by decide) (by decide) (by decide) (fun r26 S28 g27 pr26 qr26 hg27 => ?_)
          obtain ⟨rfl, rfl, z29, rfl, lz29, uz29, k30⟩ := pr26
          refine X_st [.int (iI z29)] rfl ?_
          refine X_goto hK 51 kd28_9.2.2.2.2.2.2.2.2.2.2.2 (by decide) ?_
          exact hret _ _ _ _ _ _ _ kd28_10.2.1 ⟨rfl, z29, rfl, (by omega), (by omega), (Or.inl ⟨(by unfold xAv; omega), (by rw [← (xv_a hg1 (xne hs_mw hs_a0 (by decide))), ← (xv_a hg1 (xne hs_wt hs_a0 (by decide))), ← (xv_a hg1 (xne hs_ld hs_a0 (by decide)))]; exact k30)⟩)⟩ (Nat.le_refl _) (Nat.le_refl _)

set_option maxHeartbeats 4000000 in
set_option maxRecDepth 100000 in
theorem c_X12_isKey (l : Launch) (D : va_G) (kA : Nat → ClassId) (b0 : Nat) (t0 : Nat → Nat) (S : xT) (g : xG) (a0 : Nat) (y1 : Int64) (hs_a0 : S a0 = some (13, 0)) : xMt l yX12_isKey cX12_isKey 3 (some .boolean) 0 0 0 0 D kA b0 t0 [] [.ref a0, .long y1] S g (fun (r : Option Value) (S1 : xT) (g1 : xG) => S = S1 ∧ g = g1 ∧ ∃ z : Int, r = some (.int (iI z)) ∧ 0 ≤ z ∧ z ≤ 1) := by
  refine xEnterZ (by decide) (by simp [lg_sl, Value.category]) [(0, .ref a0), (1, .long y1)] rfl ?_
  intro K E hK hret _ _ _
  refine X_aloadn hK (i := 0) 0 kd28_101.2.2.2.2.2.2.2.2.1 rfl rfl ?_
  refine X_geti hK fl_X12_262_13 hs_a0 sl_13_22 kd28_101.2.2.2.2.2.2.2.2.2.1 (fun z1 ez1 lz1 uz1 => ?_)
  refine X_iconst hK kd28_101.2.2.2.2.2.2.2.2.2.2.1 ?_
  refine X_icmp_ne hK 21 (by omega) (by omega) kd28_101.2.2.2.2.2.2.2.2.2.2.2 (by decide) (fun c2 => ?_) (fun c2 => ?_)
  · refine X_iconst hK kd28_102.2.2.2.2.2.2.2.1 ?_
    exact hret _ _ _ _ _ _ _ kd28_102.2.2.2.2.2.2.2.2.1 (by omega) (by omega) ⟨rfl, rfl, 0, rfl, (by omega), (by omega)⟩ (Nat.le_refl _) (Nat.le_refl _)
  · refine X_aloadn hK (i := 0) 0 kd28_102.1 rfl rfl ?_
    refine X_getl hK fl_X12_277_13 hs_a0 sl_13_28 kd28_102.2.1 (fun y3 ey3 => ?_)
    refine X_lloadn hK (i := 1) 1 kd28_102.2.2.1 rfl rfl ?_
    refine X_lcmp hK kd28_102.2.2.2.1 (fun z4 lz4 uz4 => ?_)
    refine X_if_ne hK 21 (by omega) kd28_102.2.2.2.2.1 (by decide) (fun c5 => ?_) (fun c5 => ?_)
    · refine X_iconst hK kd28_102.2.2.2.2.2.2.2.1 ?_
      exact hret _ _ _ _ _ _ _ kd28_102.2.2.2.2.2.2.2.2.1 (by omega) (by omega) ⟨rfl, rfl, 0, rfl, (by omega), (by omega)⟩ (Nat.le_refl _) (Nat.le_refl _)
    · refine X_iconst hK kd28_102.2.2.2.2.2.1 ?_
      refine X_goto hK 22 kd28_102.2.2.2.2.2.2.1 (by decide) ?_
      exact hret _ _ _ _ _ _ _ kd28_102.2.2.2.2.2.2.2.2.1 (by omega) (by omega) ⟨rfl, rfl, 1, rfl, (by omega), (by omega)⟩ (Nat.le_refl _) (Nat.le_refl _)

set_option maxHeartbeats 4000000 in
set_option maxRecDepth 100000 in
theorem c_X12_isSign (l : Launch) (D : va_G) (kA : Nat → ClassId) (b0 : Nat) (t0 : Nat → Nat) (S : xT) (g : xG) (a0 : Nat) (x1 : Int) (hs_a0 : S a0 = some (13, 0)) (hx1 : (-2147483648) ≤ x1 ∧ x1 ≤ 2147483647) : xMt l yX12_isSign cX12_isSign 2 (some .boolean) 0 0 0 0 D kA b0 t0 [] [.ref a0, .int (iI x1)] S g (fun (r : Option Value) (S1 : xT) (g1 : xG) => S = S1 ∧ g = g1 ∧ ∃ z : Int, r = some (.int (iI z)) ∧ 0 ≤ z ∧ z ≤ 1) := by
  refine xEnterZ (by decide) (by simp [lg_sl, Value.category]) [(0, .ref a0), (1, .int (iI x1))] rfl ?_
  intro K E hK hret _ _ _
  refine X_aloadn hK (i := 0) 0 kd28_103.2.2.2.2.2.2.1 rfl rfl ?_
  refine X_geti hK fl_X12_262_13 hs_a0 sl_13_22 kd28_103.2.2.2.2.2.2.2.1 (fun z1 ez1 lz1 uz1 => ?_)
  refine X_iconst hK kd28_103.2.2.2.2.2.2.2.2.1 ?_
  refine X_icmp_ne hK 20 (by omega) (by omega) kd28_103.2.2.2.2.2.2.2.2.2.1 (by decide) (fun c2 => ?_) (fun c2 => ?_)
  · refine X_iconst hK kd28_104.2.2.2.2.1 ?_
    exact hret _ _ _ _ _ _ _ kd28_104.2.2.2.2.2.1 (by omega) (by omega) ⟨rfl, rfl, 0, rfl, (by omega), (by omega)⟩ (Nat.le_refl _) (Nat.le_refl _)
  · refine X_aloadn hK (i := 0) 0 kd28_103.2.2.2.2.2.2.2.2.2.2.1 rfl rfl ?_
    refine X_geti hK fl_X12_274_13 hs_a0 sl_13_24 kd28_103.2.2.2.2.2.2.2.2.2.2.2 (fun z3 ez3 lz3 uz3 => ?_)
    refine X_iloadn hK (i := 1) 1 kd28_104.1 rfl rfl ?_
    refine X_icmp_ne hK 20 (by omega) (by omega) kd28_104.2.1 (by decide) (fun c4 => ?_) (fun c4 => ?_)
    · refine X_iconst hK kd28_104.2.2.2.2.1 ?_
      exact hret _ _ _ _ _ _ _ kd28_104.2.2.2.2.2.1 (by omega) (by omega) ⟨rfl, rfl, 0, rfl, (by omega), (by omega)⟩ (Nat.le_refl _) (Nat.le_refl _)
    · refine X_iconst hK kd28_104.2.2.1 ?_
      refine X_goto hK 21 kd28_104.2.2.2.1 (by decide) ?_
      exact hret _ _ _ _ _ _ _ kd28_104.2.2.2.2.2.1 (by omega) (by omega) ⟨rfl, rfl, 1, rfl, (by omega), (by omega)⟩ (Nat.le_refl _) (Nat.le_refl _)

set_option maxHeartbeats 4000000 in
set_option maxRecDepth 100000 in
theorem c_X12_isNot (l : Launch) (D : va_G) (kA : Nat → ClassId) (b0 : Nat) (t0 : Nat → Nat) (S : xT) (g : xG) (a0 : Nat) (hs_a0 : S a0 = some (13, 0)) : xMt l yX12_isNot cX12_isNot 1 (some .boolean) 1 0 0 26 D kA b0 t0 [] [.ref a0] S g (fun (r : Option Value) (S1 : xT) (g1 : xG) => S = S1 ∧ g = g1 ∧ ∃ z : Int, r = some (.int (iI z)) ∧ 0 ≤ z ∧ z ≤ 1) := by
  refine xEnterZ (by decide) (by simp [lg_sl, Value.category]) [(0, .ref a0)] rfl ?_
  intro K E hK hret _ _ _
  refine X_aloadn hK (i := 0) 0 kd28_102.2.2.2.2.2.2.2.2.2.1 rfl rfl ?_
  refine X_bipush hK kd28_102.2.2.2.2.2.2.2.2.2.2.1 (by decide) ?_
  refine X_bipush hK kd28_102.2.2.2.2.2.2.2.2.2.2.2 (by decide) ?_
  refine X_bipush hK kd28_103.1 (by decide) ?_
  refine X_iconst hK kd28_103.2.1 ?_
  refine X_iconst hK kd28_103.2.2.1 ?_
  refine X_callS hK [.int (iI 110), .int (iI 111), .int (iI 116), .int (iI 0), .int (iI 0)] [.ref a0] lk_X12_297 (c_X12_spelt _ _ _ _ _ S g 110 111 116 0 0 (by omega) (by omega) (by omega) (by omega) (by omega)) kd28_103.2.2.2.1 rfl rfl (by simp [Value.category]) (by decide) (by decide) (by decide) (by decide) (fun r1 S3 g2 pr1 qr1 hg2 => ?_)
  obtain ⟨rfl, rfl, y4, rfl⟩ := pr1
  refine X_st [.long y4, .ref a0] rfl ?_
  refine X_callV hK [.long y4] [] lk_X12_301 (c_X12_isKey _ _ _ _ _ S g a0 y4 hs_a0) hs_a0 ⟨by decide, rfl⟩ kd28_103.2.2.2.2.1 rfl rfl (by simp [Value.category]) (by decide) (by decide) (by decide) (by decide) (fun r5 S7 g6 pr5 qr5 hg6 => ?_)
  obtain ⟨rfl, rfl, z8, rfl, lz8, uz8⟩ := pr5
  refine X_st [.int (iI z8)] rfl ?_
  exact hret _ _ _ _ _ _ _ kd28_103.2.2.2.2.2.1 (by omega) (by omega) ⟨rfl, rfl, z8, rfl, (by omega), (by omega)⟩ (Nat.le_refl _) (Nat.le_refl _)

set_option maxHeartbeats 4000000 in
set_option maxRecDepth 100000 in
theorem c_X12_sortAtHand (l : Launch) (D : va_G) (kA : Nat → ClassId) (b0 : Nat) (t0 : Nat → Nat) (S : xT) (g : xG) (a0 : Nat) (hs_a0 : S a0 = some (13, 0)) : xMt l yX12_sortAtHand cX12_sortAtHand 1 (some .int) 1 0 0 26 D kA b0 t0 [] [.ref a0] S g (fun (r : Option Value) (S1 : xT) (g1 : xG) => S = S1 ∧ g = g1 ∧ ∃ z : Int, r = some (.int (iI z)) ∧ (-1) ≤ z ∧ z ≤ 5) := by
  refine xEnterI (by decide) (by simp [lg_sl, Value.category]) [(0, .ref a0)] rfl ?_
  intro K E hK hret _ _ _
  refine X_aloadn hK (i := 0) 0 kd28_125.2.2.2.2.2.2.2.1 rfl rfl ?_
  refine X_bipush hK kd28_125.2.2.2.2.2.2.2.2.1 (by decide) ?_
  refine X_bipush hK kd28_125.2.2.2.2.2.2.2.2.2.1 (by decide) ?_
  refine X_bipush hK kd28_125.2.2.2.2.2.2.2.2.2.2.1 (by decide) ?_
  refine X_bipush hK kd28_125.2.2.2.2.2.2.2.2.2.2.2 (by decide) ?_
  refine X_bipush hK kd28_126.1 (by decide) ?_
  refine X_callS hK [.int (iI 112), .int (iI 114), .int (iI 105), .int (iI 99), .int (iI 101)] [.ref a0] lk_X12_297 (c_X12_spelt _ _ _ _ _ S g 112 114 105 99 101 (by omega) (by omega) (by omega) (by omega) (by omega)) kd28_126.2.1 rfl rfl (by simp [Value.category]) (by decide) (by decide) (by decide) (by decide) (fun r1 S3 g2 pr1 qr1 hg2 => ?_)
  obtain ⟨rfl, rfl, y4, rfl⟩ := pr1
  refine X_st [.long y4, .ref a0] rfl ?_
  refine X_callV hK [.long y4] [] lk_X12_301 (c_X12_isKey _ _ _ _ _ S g a0 y4 hs_a0) hs_a0 ⟨by decide, rfl⟩ kd28_126.2.2.1 rfl rfl (by simp [Value.category]) (by decide) (by decide) (by decide) (by decide) (fun r5 S7 g6 pr5 qr5 hg6 => ?_)
  obtain ⟨rfl, rfl, z8, rfl, lz8, uz8⟩ := pr5
  refine X_st [.int (iI z8)] rfl ?_
  refine X_if_eq hK 22 (by omega) kd28_126.2.2.2.1 (by decide) (fun c9 => ?_) (fun c9 => ?_)
  · refine X_aloadn hK (i := 0) 0 kd28_126.2.2.2.2.2.2.1 rfl rfl ?_
    refine X_bipush hK kd28_126.2.2.2.2.2.2.2.1 (by decide) ?_
    refine X_bipush hK kd28_126.2.2.2.2.2.2.2.2.1 (by decide) ?_
    refine X_bipush hK kd28_126.2.2.2.2.2.2.2.2.2.1 (by decide) ?_
    refine X_iconst hK kd28_126.2.2.2.2.2.2.2.2.2.2.1 ?_
    refine X_iconst hK kd28_126.2.2.2.2.2.2.2.2.2.2.2 ?_
    refine X_callS hK [.int (iI 99), .int (iI 114), .int (iI 121), .int (iI 0), .int (iI 0)] [.ref a0] lk_X12_297 (c_X12_spelt _ _ _ _ _ S g 99 114 121 0 0 (by omega) (by omega) (by omega) (by omega) (by omega)) kd28_127.1 rfl rfl (by simp [Value.category]) (by decide) (by decide) (by decide) (by decide) (fun r10 S12 g11 pr10 qr10 hg11 => ?_)
    obtain ⟨rfl, rfl, y13, rfl⟩ := pr10
    refine X_st [.long y13, .ref a0] rfl ?_
    refine X_callV hK [.long y13] [] lk_X12_301 (c_X12_isKey _ _ _ _ _ S g a0 y13 hs_a0) hs_a0 ⟨by decide, rfl⟩ kd28_127.2.1 rfl rfl (by simp [Value.category]) (by decide) (by decide) (by decide) (by decide) (fun r14 S16 g15 pr14 qr14 hg15 => ?_)
    obtain ⟨rfl, rfl, z17, rfl, lz17, uz17⟩ := pr14
    refine X_st [.int (iI z17)] rfl ?_
    refine X_if_eq hK 42 (by omega) kd28_127.2.2.1 (by decide) (fun c18 => ?_) (fun c18 => ?_)
    · refine X_aloadn hK (i := 0) 0 kd28_127.2.2.2.2.2.1 rfl rfl ?_
      refine X_bipush hK kd28_127.2.2.2.2.2.2.1 (by decide) ?_
      refine X_bipush hK kd28_127.2.2.2.2.2.2.2.1 (by decide) ?_
      refine X_bipush hK kd28_127.2.2.2.2.2.2.2.2.1 (by decide) ?_
      refine X_bipush hK kd28_127.2.2.2.2.2.2.2.2.2.1 (by decide) ?_
      refine X_iconst hK kd28_127.2.2.2.2.2.2.2.2.2.2.1 ?_
      refine X_callS hK [.int (iI 98), .int (iI 97), .int (iI 99), .int (iI 107), .int (iI 0)] [.ref a0] lk_X12_297 (c_X12_spelt _ _ _ _ _ S g 98 97 99 107 0 (by omega) (by omega) (by omega) (by omega) (by omega)) kd28_127.2.2.2.2.2.2.2.2.2.2.2 rfl rfl (by simp [Value.category]) (by decide) (by decide) (by decide) (by decide) (fun r19 S21 g20 pr19 qr19 hg20 => ?_)
      obtain ⟨rfl, rfl, y22, rfl⟩ := pr19
      refine X_st [.long y22, .ref a0] rfl ?_
      refine X_callV hK [.long y22] [] lk_X12_301 (c_X12_isKey _ _ _ _ _ S g a0 y22 hs_a0) hs_a0 ⟨by decide, rfl⟩ kd28_128.1 rfl rfl (by simp [Value.category]) (by decide) (by decide) (by decide) (by decide) (fun r23 S25 g24 pr23 qr23 hg24 => ?_)
      obtain ⟨rfl, rfl, z26, rfl, lz26, uz26⟩ := pr23
      refine X_st [.int (iI z26)] rfl ?_
      refine X_if_eq hK 63 (by omega) kd28_128.2.1 (by decide) (fun c27 => ?_) (fun c27 => ?_)
      · refine X_aloadn hK (i := 0) 0 kd28_128.2.2.2.2.1 rfl rfl ?_
        refine X_bipush hK kd28_128.2.2.2.2.2.1 (by decide) ?_
        refine X_bipush hK kd28_128.2.2.2.2.2.2.1 (by decide) ?_
        refine X_bipush hK kd28_128.2.2.2.2.2.2.2.1 (by decide) ?_
        refine X_bipush hK kd28_128.2.2.2.2.2.2.2.2.1 (by decide) ?_
        refine X_iconst hK kd28_128.2.2.2.2.2.2.2.2.2.1 ?_
        refine X_callS hK [.int (iI 109), .int (iI 111), .int (iI 115), .int (iI 116), .int (iI 0)] [.ref a0] lk_X12_297 (c_X12_spelt _ _ _ _ _ S g 109 111 115 116 0 (by omega) (by omega) (by omega) (by omega) (by omega)) kd28_128.2.2.2.2.2.2.2.2.2.2.1 rfl rfl (by simp [Value.category]) (by decide) (by decide) (by decide) (by decide) (fun r28 S30 g29 pr28 qr28 hg29 => ?_)
        obtain ⟨rfl, rfl, y31, rfl⟩ := pr28
        refine X_st [.long y31, .ref a0] rfl ?_
        refine X_callV hK [.long y31] [] lk_X12_301 (c_X12_isKey _ _ _ _ _ S g a0 y31 hs_a0) hs_a0 ⟨by decide, rfl⟩ kd28_128.2.2.2.2.2.2.2.2.2.2.2 rfl rfl (by simp [Value.category]) (by decide) (by decide) (by decide) (by decide) (fun r32 S34 g33 pr32 qr32 hg33 => ?_)
        obtain ⟨rfl, rfl, z35, rfl, lz35, uz35⟩ := pr32
        refine X_st [.int (iI z35)] rfl ?_
        refine X_if_eq hK 84 (by omega) kd28_129.1 (by decide) (fun c36 => ?_) (fun c36 => ?_)
        · refine X_aloadn hK (i := 0) 0 kd28_129.2.2.2.1 rfl rfl ?_
          refine X_bipush hK kd28_129.2.2.2.2.1 (by decide) ?_
          refine X_bipush hK kd28_129.2.2.2.2.2.1 (by decide) ?_
          refine X_bipush hK kd28_129.2.2.2.2.2.2.1 (by decide) ?_
          refine X_bipush hK kd28_129.2.2.2.2.2.2.2.1 (by decide) ?_
          refine X_iconst hK kd28_129.2.2.2.2.2.2.2.2.1 ?_
          refine X_callS hK [.int (iI 115), .int (iI 101), .int (iI 108), .int (iI 108), .int (iI 0)] [.ref a0] lk_X12_297 (c_X12_spelt _ _ _ _ _ S g 115 101 108 108 0 (by omega) (by omega) (by omega) (by omega) (by omega)) kd28_129.2.2.2.2.2.2.2.2.2.1 rfl rfl (by simp [Value.category]) (by decide) (by decide) (by decide) (by decide) (fun r37 S39 g38 pr37 qr37 hg38 => ?_)
          obtain ⟨rfl, rfl, y40, rfl⟩ := pr37
          refine X_st [.long y40, .ref a0] rfl ?_
          refine X_callV hK [.long y40] [] lk_X12_301 (c_X12_isKey _ _ _ _ _ S g a0 y40 hs_a0) hs_a0 ⟨by decide, rfl⟩ kd28_129.2.2.2.2.2.2.2.2.2.2.1 rfl rfl (by simp [Value.category]) (by decide) (by decide) (by decide) (by decide) (fun r41 S43 g42 pr41 qr41 hg42 => ?_)
          obtain ⟨rfl, rfl, z44, rfl, lz44, uz44⟩ := pr41
          refine X_st [.int (iI z44)] rfl ?_
          refine X_if_eq hK 105 (by omega) kd28_129.2.2.2.2.2.2.2.2.2.2.2 (by decide) (fun c45 => ?_) (fun c45 => ?_)
          · refine X_aloadn hK (i := 0) 0 kd28_130.2.2.1 rfl rfl ?_
            refine X_bipush hK kd28_130.2.2.2.1 (by decide) ?_
            refine X_bipush hK kd28_130.2.2.2.2.1 (by decide) ?_
            refine X_bipush hK kd28_130.2.2.2.2.2.1 (by decide) ?_
            refine X_iconst hK kd28_130.2.2.2.2.2.2.1 ?_
            refine X_iconst hK kd28_130.2.2.2.2.2.2.2.1 ?_
            refine X_callS hK [.int (iI 111), .int (iI 119), .int (iI 101), .int (iI 0), .int (iI 0)] [.ref a0] lk_X12_297 (c_X12_spelt _ _ _ _ _ S g 111 119 101 0 0 (by omega) (by omega) (by omega) (by omega) (by omega)) kd28_130.2.2.2.2.2.2.2.2.1 rfl rfl (by simp [Value.category]) (by decide) (by decide) (by decide) (by decide) (fun r46 S48 g47 pr46 qr46 hg47 => ?_)
            obtain ⟨rfl, rfl, y49, rfl⟩ := pr46
            refine X_st [.long y49, .ref a0] rfl ?_
            refine X_callV hK [.long y49] [] lk_X12_301 (c_X12_isKey _ _ _ _ _ S g a0 y49 hs_a0) hs_a0 ⟨by decide, rfl⟩ kd28_130.2.2.2.2.2.2.2.2.2.1 rfl rfl (by simp [Value.category]) (by decide) (by decide) (by decide) (by decide) (fun r50 S52 g51 pr50 qr50 hg51 => ?_)
            obtain ⟨rfl, rfl, z53, rfl, lz53, uz53⟩ := pr50
            refine X_st [.int (iI z53)] rfl ?_
            refine X_if_eq hK 127 (by omega) kd28_130.2.2.2.2.2.2.2.2.2.2.1 (by decide) (fun c54 => ?_) (fun c54 => ?_)
            · refine X_iconst hK kd28_131.2.1 ?_
              exact hret _ _ _ _ _ _ _ kd28_131.2.2.1 ⟨rfl, rfl, (-1), rfl, (by omega), (by omega)⟩ (Nat.le_refl _) (Nat.le_refl _)
            · refine X_iconst hK kd28_130.2.2.2.2.2.2.2.2.2.2.2 ?_
              refine X_goto hK 128 kd28_131.1 (by decide) ?_
              exact hret _ _ _ _ _ _ _ kd28_131.2.2.1 ⟨rfl, rfl, 5, rfl, (by omega), (by omega)⟩ (Nat.le_refl _) (Nat.le_refl _)
          · refine X_iconst hK kd28_130.1 ?_
            exact hret _ _ _ _ _ _ _ kd28_130.2.1 ⟨rfl, rfl, 4, rfl, (by omega), (by omega)⟩ (Nat.le_refl _) (Nat.le_refl _)
        · refine X_iconst hK kd28_129.2.1 ?_
          exact hret _ _ _ _ _ _ _ kd28_129.2.2.1 ⟨rfl, rfl, 3, rfl, (by omega), (by omega)⟩ (Nat.le_refl _) (Nat.le_refl _)
      · refine X_iconst hK kd28_128.2.2.1 ?_
        exact hret _ _ _ _ _ _ _ kd28_128.2.2.2.1 ⟨rfl, rfl, 2, rfl, (by omega), (by omega)⟩ (Nat.le_refl _) (Nat.le_refl _)
    · refine X_iconst hK kd28_127.2.2.2.1 ?_
      exact hret _ _ _ _ _ _ _ kd28_127.2.2.2.2.1 ⟨rfl, rfl, 1, rfl, (by omega), (by omega)⟩ (Nat.le_refl _) (Nat.le_refl _)
  · refine X_iconst hK kd28_126.2.2.2.2.1 ?_
    exact hret _ _ _ _ _ _ _ kd28_126.2.2.2.2.2.1 ⟨rfl, rfl, 0, rfl, (by omega), (by omega)⟩ (Nat.le_refl _) (Nat.le_refl _)

set_option maxHeartbeats 4000000 in
set_option maxRecDepth 100000 in
theorem c_X12_atom (l : Launch) (D : va_G) (kA : Nat → ClassId) (b0 : Nat) (t0 : Nat → Nat) (S : xT) (g : xG) (a0 : Nat) (hs_a0 : S a0 = some (13, 0)) : xMt l yX12_atom cX12_atom 1 (some .int) 1 0 0 26 D kA b0 t0 [] [.ref a0] S g (fun (r : Option Value) (S1 : xT) (g1 : xG) => S = S1 ∧ g = g1 ∧ ∃ z : Int, r = some (.int (iI z)) ∧ (-1) ≤ z ∧ z ≤ 11) := by
  refine xEnterI (by decide) (by simp [lg_sl, Value.category]) [(0, .ref a0)] rfl ?_
  intro K E hK hret _ _ _
  refine X_aloadn hK (i := 0) 0 kd28_12.2.1 rfl rfl ?_
  refine X_ldc2 hK kd28_12.2.2.1 m_29_6 (fun y1 => ?_)
  refine X_bipush hK kd28_12.2.2.2.1 (by decide) ?_
  refine X_bipush hK kd28_12.2.2.2.2.1 (by decide) ?_
  refine X_bipush hK kd28_12.2.2.2.2.2.1 (by decide) ?_
  refine X_bipush hK kd28_12.2.2.2.2.2.2.1 (by decide) ?_
  refine X_bipush hK kd28_12.2.2.2.2.2.2.2.1 (by decide) ?_
  refine X_callS hK [.int (iI 115), .int (iI 99), .int (iI 104), .int (iI 111), .int (iI 111)] [.long y1, .ref a0] lk_X12_297 (c_X12_spelt _ _ _ _ _ S g 115 99 104 111 111 (by omega) (by omega) (by omega) (by omega) (by omega)) kd28_12.2.2.2.2.2.2.2.2.1 rfl rfl (by simp [Value.category]) (by decide) (by decide) (by decide) (by decide) (fun r2 S4 g3 pr2 qr2 hg3 => ?_)
  obtain ⟨rfl, rfl, y5, rfl⟩ := pr2
  refine X_st [.long y5, .long y1, .ref a0] rfl ?_
  refine X_lmul hK kd28_12.2.2.2.2.2.2.2.2.2.1 (fun y6 => ?_)
  refine X_ldc2 hK kd28_12.2.2.2.2.2.2.2.2.2.2.1 m_31_9 (fun y7 => ?_)
  refine X_ladd hK kd28_12.2.2.2.2.2.2.2.2.2.2.2 (fun y8 => ?_)
  refine X_callV hK [.long y8] [] lk_X12_301 (c_X12_isKey _ _ _ _ _ S g a0 y8 hs_a0) hs_a0 ⟨by decide, rfl⟩ kd28_13.1 rfl rfl (by simp [Value.category]) (by decide) (by decide) (by decide) (by decide) (fun r9 S11 g10 pr9 qr9 hg10 => ?_)
  obtain ⟨rfl, rfl, z12, rfl, lz12, uz12⟩ := pr9
  refine X_st [.int (iI z12)] rfl ?_
  refine X_if_eq hK 30 (by omega) kd28_13.2.1 (by decide) (fun c13 => ?_) (fun c13 => ?_)
  · refine X_aloadn hK (i := 0) 0 kd28_13.2.2.2.2.1 rfl rfl ?_
    refine X_bipush hK kd28_13.2.2.2.2.2.1 (by decide) ?_
    refine X_bipush hK kd28_13.2.2.2.2.2.2.1 (by decide) ?_
    refine X_bipush hK kd28_13.2.2.2.2.2.2.2.1 (by decide) ?_
    refine X_bipush hK kd28_13.2.2.2.2.2.2.2.2.1 (by decide) ?_
    refine X_bipush hK kd28_13.2.2.2.2.2.2.2.2.2.1 (by decide) ?_
    refine X_callS hK [.int (iI 98), .int (iI 97), .int (iI 100), .int (iI 103), .int (iI 101)] [.ref a0] lk_X12_297 (c_X12_spelt _ _ _ _ _ S g 98 97 100 103 101 (by omega) (by omega) (by omega) (by omega) (by omega)) kd28_13.2.2.2.2.2.2.2.2.2.2.1 rfl rfl (by simp [Value.category]) (by decide) (by decide) (by decide) (by decide) (fun r14 S16 g15 pr14 qr14 hg15 => ?_)
    obtain ⟨rfl, rfl, y17, rfl⟩ := pr14
    refine X_st [.long y17, .ref a0] rfl ?_
    refine X_callV hK [.long y17] [] lk_X12_301 (c_X12_isKey _ _ _ _ _ S g a0 y17 hs_a0) hs_a0 ⟨by decide, rfl⟩ kd28_13.2.2.2.2.2.2.2.2.2.2.2 rfl rfl (by simp [Value.category]) (by decide) (by decide) (by decide) (by decide) (fun r18 S20 g19 pr18 qr18 hg19 => ?_)
    obtain ⟨rfl, rfl, z21, rfl, lz21, uz21⟩ := pr18
    refine X_st [.int (iI z21)] rfl ?_
    refine X_if_eq hK 52 (by omega) kd28_14.1 (by decide) (fun c22 => ?_) (fun c22 => ?_)
    · refine X_aloadn hK (i := 0) 0 kd28_14.2.2.2.1 rfl rfl ?_
      refine X_bipush hK kd28_14.2.2.2.2.1 (by decide) ?_
      refine X_bipush hK kd28_14.2.2.2.2.2.1 (by decide) ?_
      refine X_bipush hK kd28_14.2.2.2.2.2.2.1 (by decide) ?_
      refine X_bipush hK kd28_14.2.2.2.2.2.2.2.1 (by decide) ?_
      refine X_bipush hK kd28_14.2.2.2.2.2.2.2.2.1 (by decide) ?_
      refine X_callS hK [.int (iI 111), .int (iI 119), .int (iI 110), .int (iI 101), .int (iI 114)] [.ref a0] lk_X12_297 (c_X12_spelt _ _ _ _ _ S g 111 119 110 101 114 (by omega) (by omega) (by omega) (by omega) (by omega)) kd28_14.2.2.2.2.2.2.2.2.2.1 rfl rfl (by simp [Value.category]) (by decide) (by decide) (by decide) (by decide) (fun r23 S25 g24 pr23 qr23 hg24 => ?_)
      obtain ⟨rfl, rfl, y26, rfl⟩ := pr23
      refine X_st [.long y26, .ref a0] rfl ?_
      refine X_callV hK [.long y26] [] lk_X12_301 (c_X12_isKey _ _ _ _ _ S g a0 y26 hs_a0) hs_a0 ⟨by decide, rfl⟩ kd28_14.2.2.2.2.2.2.2.2.2.2.1 rfl rfl (by simp [Value.category]) (by decide) (by decide) (by decide) (by decide) (fun r27 S29 g28 pr27 qr27 hg28 => ?_)
      obtain ⟨rfl, rfl, z30, rfl, lz30, uz30⟩ := pr27
      refine X_st [.int (iI z30)] rfl ?_
      refine X_if_eq hK 74 (by omega) kd28_14.2.2.2.2.2.2.2.2.2.2.2 (by decide) (fun c31 => ?_) (fun c31 => ?_)
      · refine X_aloadn hK (i := 0) 0 kd28_15.2.2.1 rfl rfl ?_
        refine X_bipush hK kd28_15.2.2.2.1 (by decide) ?_
        refine X_bipush hK kd28_15.2.2.2.2.1 (by decide) ?_
        refine X_bipush hK kd28_15.2.2.2.2.2.1 (by decide) ?_
        refine X_iconst hK kd28_15.2.2.2.2.2.2.1 ?_
        refine X_iconst hK kd28_15.2.2.2.2.2.2.2.1 ?_
        refine X_callS hK [.int (iI 97), .int (iI 103), .int (iI 101), .int (iI 0), .int (iI 0)] [.ref a0] lk_X12_297 (c_X12_spelt _ _ _ _ _ S g 97 103 101 0 0 (by omega) (by omega) (by omega) (by omega) (by omega)) kd28_15.2.2.2.2.2.2.2.2.1 rfl rfl (by simp [Value.category]) (by decide) (by decide) (by decide) (by decide) (fun r32 S34 g33 pr32 qr32 hg33 => ?_)
        obtain ⟨rfl, rfl, y35, rfl⟩ := pr32
        refine X_st [.long y35, .ref a0] rfl ?_
        refine X_callV hK [.long y35] [] lk_X12_301 (c_X12_isKey _ _ _ _ _ S g a0 y35 hs_a0) hs_a0 ⟨by decide, rfl⟩ kd28_15.2.2.2.2.2.2.2.2.2.1 rfl rfl (by simp [Value.category]) (by decide) (by decide) (by decide) (by decide) (fun r36 S38 g37 pr36 qr36 hg37 => ?_)
        obtain ⟨rfl, rfl, z39, rfl, lz39, uz39⟩ := pr36
        refine X_st [.int (iI z39)] rfl ?_
        refine X_if_eq hK 94 (by omega) kd28_15.2.2.2.2.2.2.2.2.2.2.1 (by decide) (fun c40 => ?_) (fun c40 => ?_)
        · refine X_aloadn hK (i := 0) 0 kd28_16.2.1 rfl rfl ?_
          refine X_bipush hK kd28_16.2.2.1 (by decide) ?_
          refine X_bipush hK kd28_16.2.2.2.1 (by decide) ?_
          refine X_bipush hK kd28_16.2.2.2.2.1 (by decide) ?_
          refine X_bipush hK kd28_16.2.2.2.2.2.1 (by decide) ?_
          refine X_iconst hK kd28_16.2.2.2.2.2.2.1 ?_
          refine X_callS hK [.int (iI 104), .int (iI 111), .int (iI 117), .int (iI 114), .int (iI 0)] [.ref a0] lk_X12_297 (c_X12_spelt _ _ _ _ _ S g 104 111 117 114 0 (by omega) (by omega) (by omega) (by omega) (by omega)) kd28_16.2.2.2.2.2.2.2.1 rfl rfl (by simp [Value.category]) (by decide) (by decide) (by decide) (by decide) (fun r41 S43 g42 pr41 qr41 hg42 => ?_)
          obtain ⟨rfl, rfl, y44, rfl⟩ := pr41
          refine X_st [.long y44, .ref a0] rfl ?_
          refine X_callV hK [.long y44] [] lk_X12_301 (c_X12_isKey _ _ _ _ _ S g a0 y44 hs_a0) hs_a0 ⟨by decide, rfl⟩ kd28_16.2.2.2.2.2.2.2.2.1 rfl rfl (by simp [Value.category]) (by decide) (by decide) (by decide) (by decide) (fun r45 S47 g46 pr45 qr45 hg46 => ?_)
          obtain ⟨rfl, rfl, z48, rfl, lz48, uz48⟩ := pr45
          refine X_st [.int (iI z48)] rfl ?_
          refine X_if_eq hK 115 (by omega) kd28_16.2.2.2.2.2.2.2.2.2.1 (by decide) (fun c49 => ?_) (fun c49 => ?_)
          · refine X_aloadn hK (i := 0) 0 kd28_17.1 rfl rfl ?_
            refine X_bipush hK kd28_17.2.1 (by decide) ?_
            refine X_bipush hK kd28_17.2.2.1 (by decide) ?_
            refine X_bipush hK kd28_17.2.2.2.1 (by decide) ?_
            refine X_bipush hK kd28_17.2.2.2.2.1 (by decide) ?_
            refine X_iconst hK kd28_17.2.2.2.2.2.1 ?_
            refine X_callS hK [.int (iI 119), .int (iI 101), .int (iI 101), .int (iI 107), .int (iI 0)] [.ref a0] lk_X12_297 (c_X12_spelt _ _ _ _ _ S g 119 101 101 107 0 (by omega) (by omega) (by omega) (by omega) (by omega)) kd28_17.2.2.2.2.2.2.1 rfl rfl (by simp [Value.category]) (by decide) (by decide) (by decide) (by decide) (fun r50 S52 g51 pr50 qr50 hg51 => ?_)
            obtain ⟨rfl, rfl, y53, rfl⟩ := pr50
            refine X_st [.long y53, .ref a0] rfl ?_
            refine X_callV hK [.long y53] [] lk_X12_301 (c_X12_isKey _ _ _ _ _ S g a0 y53 hs_a0) hs_a0 ⟨by decide, rfl⟩ kd28_17.2.2.2.2.2.2.2.1 rfl rfl (by simp [Value.category]) (by decide) (by decide) (by decide) (by decide) (fun r54 S56 g55 pr54 qr54 hg55 => ?_)
            obtain ⟨rfl, rfl, z57, rfl, lz57, uz57⟩ := pr54
            refine X_st [.int (iI z57)] rfl ?_
            refine X_if_eq hK 136 (by omega) kd28_17.2.2.2.2.2.2.2.2.1 (by decide) (fun c58 => ?_) (fun c58 => ?_)
            · refine X_aloadn hK (i := 0) 0 kd28_17.2.2.2.2.2.2.2.2.2.2.2 rfl rfl ?_
              refine X_bipush hK kd28_18.1 (by decide) ?_
              refine X_bipush hK kd28_18.2.1 (by decide) ?_
              refine X_bipush hK kd28_18.2.2.1 (by decide) ?_
              refine X_iconst hK kd28_18.2.2.2.1 ?_
              refine X_iconst hK kd28_18.2.2.2.2.1 ?_
              refine X_callS hK [.int (iI 100), .int (iI 97), .int (iI 121), .int (iI 0), .int (iI 0)] [.ref a0] lk_X12_297 (c_X12_spelt _ _ _ _ _ S g 100 97 121 0 0 (by omega) (by omega) (by omega) (by omega) (by omega)) kd28_18.2.2.2.2.2.1 rfl rfl (by simp [Value.category]) (by decide) (by decide) (by decide) (by decide) (fun r59 S61 g60 pr59 qr59 hg60 => ?_)
              obtain ⟨rfl, rfl, y62, rfl⟩ := pr59
              refine X_st [.long y62, .ref a0] rfl ?_
              refine X_callV hK [.long y62] [] lk_X12_301 (c_X12_isKey _ _ _ _ _ S g a0 y62 hs_a0) hs_a0 ⟨by decide, rfl⟩ kd28_18.2.2.2.2.2.2.1 rfl rfl (by simp [Value.category]) (by decide) (by decide) (by decide) (by decide) (fun r63 S65 g64 pr63 qr63 hg64 => ?_)
              obtain ⟨rfl, rfl, z66, rfl, lz66, uz66⟩ := pr63
              refine X_st [.int (iI z66)] rfl ?_
              refine X_if_eq hK 157 (by omega) kd28_18.2.2.2.2.2.2.2.1 (by decide) (fun c67 => ?_) (fun c67 => ?_)
              · refine X_aloadn hK (i := 0) 0 kd28_18.2.2.2.2.2.2.2.2.2.2.1 rfl rfl ?_
                refine X_bipush hK kd28_18.2.2.2.2.2.2.2.2.2.2.2 (by decide) ?_
                refine X_bipush hK kd28_19.1 (by decide) ?_
                refine X_bipush hK kd28_19.2.1 (by decide) ?_
                refine X_bipush hK kd28_19.2.2.1 (by decide) ?_
                refine X_bipush hK kd28_19.2.2.2.1 (by decide) ?_
                refine X_callS hK [.int (iI 112), .int (iI 97), .int (iI 112), .int (iI 101), .int (iI 114)] [.ref a0] lk_X12_297 (c_X12_spelt _ _ _ _ _ S g 112 97 112 101 114 (by omega) (by omega) (by omega) (by omega) (by omega)) kd28_19.2.2.2.2.1 rfl rfl (by simp [Value.category]) (by decide) (by decide) (by decide) (by decide) (fun r68 S70 g69 pr68 qr68 hg69 => ?_)
                obtain ⟨rfl, rfl, y71, rfl⟩ := pr68
                refine X_st [.long y71, .ref a0] rfl ?_
                refine X_callV hK [.long y71] [] lk_X12_301 (c_X12_isKey _ _ _ _ _ S g a0 y71 hs_a0) hs_a0 ⟨by decide, rfl⟩ kd28_19.2.2.2.2.2.1 rfl rfl (by simp [Value.category]) (by decide) (by decide) (by decide) (by decide) (fun r72 S74 g73 pr72 qr72 hg73 => ?_)
                obtain ⟨rfl, rfl, z75, rfl, lz75, uz75⟩ := pr72
                refine X_st [.int (iI z75)] rfl ?_
                refine X_if_eq hK 180 (by omega) kd28_19.2.2.2.2.2.2.1 (by decide) (fun c76 => ?_) (fun c76 => ?_)
                · refine X_aloadn hK (i := 0) 0 kd28_19.2.2.2.2.2.2.2.2.2.1 rfl rfl ?_
                  refine X_ldc2 hK kd28_19.2.2.2.2.2.2.2.2.2.2.1 m_29_6 (fun y77 => ?_)
                  refine X_bipush hK kd28_19.2.2.2.2.2.2.2.2.2.2.2 (by decide) ?_
                  refine X_bipush hK kd28_20.1 (by decide) ?_
                  refine X_bipush hK kd28_20.2.1 (by decide) ?_
                  refine X_bipush hK kd28_20.2.2.1 (by decide) ?_
                  refine X_bipush hK kd28_20.2.2.2.1 (by decide) ?_
                  refine X_callS hK [.int (iI 99), .int (iI 111), .int (iI 114), .int (iI 110), .int (iI 101)] [.long y77, .ref a0] lk_X12_297 (c_X12_spelt _ _ _ _ _ S g 99 111 114 110 101 (by omega) (by omega) (by omega) (by omega) (by omega)) kd28_20.2.2.2.2.1 rfl rfl (by simp [Value.category]) (by decide) (by decide) (by decide) (by decide) (fun r78 S80 g79 pr78 qr78 hg79 => ?_)
                  obtain ⟨rfl, rfl, y81, rfl⟩ := pr78
                  refine X_st [.long y81, .long y77, .ref a0] rfl ?_
                  refine X_lmul hK kd28_20.2.2.2.2.2.1 (fun y82 => ?_)
                  refine X_ldc2 hK kd28_20.2.2.2.2.2.2.1 m_31_10 (fun y83 => ?_)
                  refine X_ladd hK kd28_20.2.2.2.2.2.2.2.1 (fun y84 => ?_)
                  refine X_callV hK [.long y84] [] lk_X12_301 (c_X12_isKey _ _ _ _ _ S g a0 y84 hs_a0) hs_a0 ⟨by decide, rfl⟩ kd28_20.2.2.2.2.2.2.2.2.1 rfl rfl (by simp [Value.category]) (by decide) (by decide) (by decide) (by decide) (fun r85 S87 g86 pr85 qr85 hg86 => ?_)
                  obtain ⟨rfl, rfl, z88, rfl, lz88, uz88⟩ := pr85
                  refine X_st [.int (iI z88)] rfl ?_
                  refine X_if_eq hK 211 (by omega) kd28_20.2.2.2.2.2.2.2.2.2.1 (by decide) (fun c89 => ?_) (fun c89 => ?_)
                  · refine X_aloadn hK (i := 0) 0 kd28_21.1 rfl rfl ?_
                    refine X_ldc2 hK kd28_21.2.1 m_29_6 (fun y90 => ?_)
                    refine X_bipush hK kd28_21.2.2.1 (by decide) ?_
                    refine X_bipush hK kd28_21.2.2.2.1 (by decide) ?_
                    refine X_bipush hK kd28_21.2.2.2.2.1 (by decide) ?_
                    refine X_bipush hK kd28_21.2.2.2.2.2.1 (by decide) ?_
                    refine X_bipush hK kd28_21.2.2.2.2.2.2.1 (by decide) ?_
                    refine X_callS hK [.int (iI 99), .int (iI 111), .int (iI 112), .int (iI 105), .int (iI 101)] [.long y90, .ref a0] lk_X12_297 (c_X12_spelt _ _ _ _ _ S g 99 111 112 105 101 (by omega) (by omega) (by omega) (by omega) (by omega)) kd28_21.2.2.2.2.2.2.2.1 rfl rfl (by simp [Value.category]) (by decide) (by decide) (by decide) (by decide) (fun r91 S93 g92 pr91 qr91 hg92 => ?_)
                    obtain ⟨rfl, rfl, y94, rfl⟩ := pr91
                    refine X_st [.long y94, .long y90, .ref a0] rfl ?_
                    refine X_lmul hK kd28_21.2.2.2.2.2.2.2.2.1 (fun y95 => ?_)
                    refine X_ldc2 hK kd28_21.2.2.2.2.2.2.2.2.2.1 m_31_11 (fun y96 => ?_)
                    refine X_ladd hK kd28_21.2.2.2.2.2.2.2.2.2.2.1 (fun y97 => ?_)
                    refine X_callV hK [.long y97] [] lk_X12_301 (c_X12_isKey _ _ _ _ _ S g a0 y97 hs_a0) hs_a0 ⟨by decide, rfl⟩ kd28_21.2.2.2.2.2.2.2.2.2.2.2 rfl rfl (by simp [Value.category]) (by decide) (by decide) (by decide) (by decide) (fun r98 S100 g99 pr98 qr98 hg99 => ?_)
                    obtain ⟨rfl, rfl, z101, rfl, lz101, uz101⟩ := pr98
                    refine X_st [.int (iI z101)] rfl ?_
                    refine X_if_eq hK 242 (by omega) kd28_22.1 (by decide) (fun c102 => ?_) (fun c102 => ?_)
                    · refine X_aloadn hK (i := 0) 0 kd28_22.2.2.2.1 rfl rfl ?_
                      refine X_ldc2 hK kd28_22.2.2.2.2.1 m_29_6 (fun y103 => ?_)
                      refine X_ldc2 hK kd28_22.2.2.2.2.2.1 m_29_6 (fun y104 => ?_)
                      refine X_bipush hK kd28_22.2.2.2.2.2.2.1 (by decide) ?_
                      refine X_bipush hK kd28_22.2.2.2.2.2.2.2.1 (by decide) ?_
                      refine X_bipush hK kd28_22.2.2.2.2.2.2.2.2.1 (by decide) ?_
                      refine X_bipush hK kd28_22.2.2.2.2.2.2.2.2.2.1 (by decide) ?_
                      refine X_bipush hK kd28_22.2.2.2.2.2.2.2.2.2.2.1 (by decide) ?_
                      refine X_callS hK [.int (iI 119), .int (iI 101), .int (iI 97), .int (iI 116), .int (iI 104)] [.long y104, .long y103, .ref a0] lk_X12_297 (c_X12_spelt _ _ _ _ _ S g 119 101 97 116 104 (by omega) (by omega) (by omega) (by omega) (by omega)) kd28_22.2.2.2.2.2.2.2.2.2.2.2 rfl rfl (by simp [Value.category]) (by decide) (by decide) (by decide) (by decide) (fun r105 S107 g106 pr105 qr105 hg106 => ?_)
                      obtain ⟨rfl, rfl, y108, rfl⟩ := pr105
                      refine X_st [.long y108, .long y104, .long y103, .ref a0] rfl ?_
                      refine X_lmul hK kd28_23.1 (fun y109 => ?_)
                      refine X_ldc2 hK kd28_23.2.1 m_31_12 (fun y110 => ?_)
                      refine X_ladd hK kd28_23.2.2.1 (fun y111 => ?_)
                      refine X_lmul hK kd28_23.2.2.2.1 (fun y112 => ?_)
                      refine X_ldc2 hK kd28_23.2.2.2.2.1 m_31_10 (fun y113 => ?_)
                      refine X_ladd hK kd28_23.2.2.2.2.2.1 (fun y114 => ?_)
                      refine X_callV hK [.long y114] [] lk_X12_301 (c_X12_isKey _ _ _ _ _ S g a0 y114 hs_a0) hs_a0 ⟨by decide, rfl⟩ kd28_23.2.2.2.2.2.2.1 rfl rfl (by simp [Value.category]) (by decide) (by decide) (by decide) (by decide) (fun r115 S117 g116 pr115 qr115 hg116 => ?_)
                      obtain ⟨rfl, rfl, z118, rfl, lz118, uz118⟩ := pr115
                      refine X_st [.int (iI z118)] rfl ?_
                      refine X_if_eq hK 281 (by omega) kd28_23.2.2.2.2.2.2.2.1 (by decide) (fun c119 => ?_) (fun c119 => ?_)
                      · refine X_aloadn hK (i := 0) 0 kd28_23.2.2.2.2.2.2.2.2.2.2.1 rfl rfl ?_
                        refine X_bipush hK kd28_23.2.2.2.2.2.2.2.2.2.2.2 (by decide) ?_
                        refine X_bipush hK kd28_24.1 (by decide) ?_
                        refine X_bipush hK kd28_24.2.1 (by decide) ?_
                        refine X_bipush hK kd28_24.2.2.1 (by decide) ?_
                        refine X_bipush hK kd28_24.2.2.2.1 (by decide) ?_
                        refine X_callS hK [.int (iI 102), .int (iI 105), .int (iI 115), .int (iI 116), .int (iI 115)] [.ref a0] lk_X12_297 (c_X12_spelt _ _ _ _ _ S g 102 105 115 116 115 (by omega) (by omega) (by omega) (by omega) (by omega)) kd28_24.2.2.2.2.1 rfl rfl (by simp [Value.category]) (by decide) (by decide) (by decide) (by decide) (fun r120 S122 g121 pr120 qr120 hg121 => ?_)
                        obtain ⟨rfl, rfl, y123, rfl⟩ := pr120
                        refine X_st [.long y123, .ref a0] rfl ?_
                        refine X_callV hK [.long y123] [] lk_X12_301 (c_X12_isKey _ _ _ _ _ S g a0 y123 hs_a0) hs_a0 ⟨by decide, rfl⟩ kd28_24.2.2.2.2.2.1 rfl rfl (by simp [Value.category]) (by decide) (by decide) (by decide) (by decide) (fun r124 S126 g125 pr124 qr124 hg125 => ?_)
                        obtain ⟨rfl, rfl, z127, rfl, lz127, uz127⟩ := pr124
                        refine X_st [.int (iI z127)] rfl ?_
                        refine X_if_eq hK 306 (by omega) kd28_24.2.2.2.2.2.2.1 (by decide) (fun c128 => ?_) (fun c128 => ?_)
                        · refine X_iconst hK kd28_24.2.2.2.2.2.2.2.2.2.1 ?_
                          exact hret _ _ _ _ _ _ _ kd28_24.2.2.2.2.2.2.2.2.2.2.1 ⟨rfl, rfl, (-1), rfl, (by omega), (by omega)⟩ (Nat.le_refl _) (Nat.le_refl _)
                        · refine X_bipush hK kd28_24.2.2.2.2.2.2.2.1 (by decide) ?_
                          refine X_goto hK 307 kd28_24.2.2.2.2.2.2.2.2.1 (by decide) ?_
                          exact hret _ _ _ _ _ _ _ kd28_24.2.2.2.2.2.2.2.2.2.2.1 ⟨rfl, rfl, 11, rfl, (by omega), (by omega)⟩ (Nat.le_refl _) (Nat.le_refl _)
                      · refine X_bipush hK kd28_23.2.2.2.2.2.2.2.2.1 (by decide) ?_
                        exact hret _ _ _ _ _ _ _ kd28_23.2.2.2.2.2.2.2.2.2.1 ⟨rfl, rfl, 10, rfl, (by omega), (by omega)⟩ (Nat.le_refl _) (Nat.le_refl _)
                    · refine X_bipush hK kd28_22.2.1 (by decide) ?_
                      exact hret _ _ _ _ _ _ _ kd28_22.2.2.1 ⟨rfl, rfl, 9, rfl, (by omega), (by omega)⟩ (Nat.le_refl _) (Nat.le_refl _)
                  · refine X_bipush hK kd28_20.2.2.2.2.2.2.2.2.2.2.1 (by decide) ?_
                    exact hret _ _ _ _ _ _ _ kd28_20.2.2.2.2.2.2.2.2.2.2.2 ⟨rfl, rfl, 8, rfl, (by omega), (by omega)⟩ (Nat.le_refl _) (Nat.le_refl _)
                · refine X_bipush hK kd28_19.2.2.2.2.2.2.2.1 (by decide) ?_
                  exact hret _ _ _ _ _ _ _ kd28_19.2.2.2.2.2.2.2.2.1 ⟨rfl, rfl, 7, rfl, (by omega), (by omega)⟩ (Nat.le_refl _) (Nat.le_refl _)
              · refine X_bipush hK kd28_18.2.2.2.2.2.2.2.2.1 (by decide) ?_
                exact hret _ _ _ _ _ _ _ kd28_18.2.2.2.2.2.2.2.2.2.1 ⟨rfl, rfl, 6, rfl, (by omega), (by omega)⟩ (Nat.le_refl _) (Nat.le_refl _)
            · refine X_iconst hK kd28_17.2.2.2.2.2.2.2.2.2.1 ?_
              exact hret _ _ _ _ _ _ _ kd28_17.2.2.2.2.2.2.2.2.2.2.1 ⟨rfl, rfl, 5, rfl, (by omega), (by omega)⟩ (Nat.le_refl _) (Nat.le_refl _)
          · refine X_iconst hK kd28_16.2.2.2.2.2.2.2.2.2.2.1 ?_
            exact hret _ _ _ _ _ _ _ kd28_16.2.2.2.2.2.2.2.2.2.2.2 ⟨rfl, rfl, 4, rfl, (by omega), (by omega)⟩ (Nat.le_refl _) (Nat.le_refl _)
        · refine X_iconst hK kd28_15.2.2.2.2.2.2.2.2.2.2.2 ?_
          exact hret _ _ _ _ _ _ _ kd28_16.1 ⟨rfl, rfl, 3, rfl, (by omega), (by omega)⟩ (Nat.le_refl _) (Nat.le_refl _)
      · refine X_iconst hK kd28_15.1 ?_
        exact hret _ _ _ _ _ _ _ kd28_15.2.1 ⟨rfl, rfl, 2, rfl, (by omega), (by omega)⟩ (Nat.le_refl _) (Nat.le_refl _)
    · refine X_iconst hK kd28_14.2.1 ?_
      exact hret _ _ _ _ _ _ _ kd28_14.2.2.1 ⟨rfl, rfl, 1, rfl, (by omega), (by omega)⟩ (Nat.le_refl _) (Nat.le_refl _)
  · refine X_iconst hK kd28_13.2.2.1 ?_
    exact hret _ _ _ _ _ _ _ kd28_13.2.2.2.1 ⟨rfl, rfl, 0, rfl, (by omega), (by omega)⟩ (Nat.le_refl _) (Nat.le_refl _)

set_option maxHeartbeats 4000000 in
set_option maxRecDepth 100000 in
theorem c_X12_fault (l : Launch) (D : va_G) (kA : Nat → ClassId) (b0 : Nat) (t0 : Nat → Nat) (S : xT) (g : xG) (a0 : Nat) (hs_a0 : S a0 = some (13, 0)) : xMt l yX12_fault cX12_fault 1 (some .int) 0 0 0 0 D kA b0 t0 [(13, 0)] [.ref a0] S g (fun (r : Option Value) (S1 : xT) (g1 : xG) => S = S1 ∧ ∃ z : Int, r = some (.int (iI z)) ∧ (-2147483648) ≤ z ∧ z ≤ 2147483647) := by
  refine xEnterI (by decide) (by simp [lg_sl, Value.category]) [(0, .ref a0)] rfl ?_
  intro K E hK hret _ _ _
  refine X_aloadn hK (i := 0) 0 kd28_65.2.2.2.2.2.2.2.2.2.2.2 rfl rfl ?_
  refine X_iconst hK kd28_66.1 ?_
  refine X_puti hK fl_X12_198_13 hs_a0 (by decide) sl_13_0 (by omega) (by omega) kd28_66.2.1 (fun g1 hg1 => ?_)
  refine X_aloadn hK (i := 0) 0 kd28_66.2.2.1 rfl rfl ?_
  refine X_geti hK fl_X12_291_13 hs_a0 sl_13_25 kd28_66.2.2.2.1 (fun z2 ez2 lz2 uz2 => ?_)
  exact hret _ _ _ _ _ _ _ kd28_66.2.2.2.2.1 ⟨rfl, z2, rfl, (by omega), (by omega)⟩ (Nat.le_refl _) (Nat.le_refl _)

set_option maxHeartbeats 4000000 in
set_option maxRecDepth 100000 in
theorem c_X12_why (l : Launch) (D : va_G) (kA : Nat → ClassId) (b0 : Nat) (t0 : Nat → Nat) (S : xT) (g : xG) (a0 : Nat) (hs_a0 : S a0 = some (13, 0)) : xMt l yX12_why cX12_why 1 (some .int) 0 0 0 0 D kA b0 t0 [(13, 0)] [.ref a0] S g (fun (r : Option Value) (S1 : xT) (g1 : xG) => S = S1 ∧ ∃ z : Int, r = some (.int (iI z)) ∧ (-2147483648) ≤ z ∧ z ≤ 2147483647) := by
  refine xEnterI (by decide) (by simp [lg_sl, Value.category]) [(0, .ref a0)] rfl ?_
  intro K E hK hret _ _ _
  refine X_aloadn hK (i := 0) 0 kd28_158.1 rfl rfl ?_
  refine X_iconst hK kd28_158.2.1 ?_
  refine X_puti hK fl_X12_198_13 hs_a0 (by decide) sl_13_0 (by omega) (by omega) kd28_158.2.2.1 (fun g1 hg1 => ?_)
  refine X_aloadn hK (i := 0) 0 kd28_158.2.2.2.1 rfl rfl ?_
  refine X_geti hK fl_X12_120_13 hs_a0 sl_13_59 kd28_158.2.2.2.2.1 (fun z2 ez2 lz2 uz2 => ?_)
  exact hret _ _ _ _ _ _ _ kd28_158.2.2.2.2.2 ⟨rfl, z2, rfl, (by omega), (by omega)⟩ (Nat.le_refl _) (Nat.le_refl _)

set_option maxHeartbeats 4000000 in
set_option maxRecDepth 100000 in
theorem c_X12_coin (l : Launch) (D : va_G) (kA : Nat → ClassId) (b0 : Nat) (t0 : Nat → Nat) (S : xT) (g : xG) (a0 : Nat) (x1 : Int) (hs_a0 : S a0 = some (13, 0)) (hx1 : (-2147483648) ≤ x1 ∧ x1 ≤ 2147483647) : xMt l yX12_coin cX12_coin 2 (some .int) 1 0 0 21 D kA b0 t0 [(13, 0)] [.ref a0, .int (iI x1)] S g (fun (r : Option Value) (S1 : xT) (g1 : xG) => S = S1 ∧ ∃ z : Int, r = some (.int (iI z)) ∧ (-2147483648) ≤ z ∧ z ≤ 2147483647) := by
  refine xEnterI (by decide) (by simp [lg_sl, Value.category]) [(0, .ref a0), (1, .int (iI x1))] rfl ?_
  intro K E hK hret _ _ _
  refine X_aloadn hK (i := 0) 0 kd28_49.1 rfl rfl ?_
  refine X_iloadn hK (i := 1) 1 kd28_49.2.1 rfl rfl ?_
  refine X_know hs_a0 (by decide) sl_13_16 (fun z1 ez1 lz1 uz1 => ?_)
  refine X_callV hK [.int (iI x1)] [] lk_X12_215 (c_X12_isBoy _ _ _ _ _ S g a0 x1 z1 hs_a0 (by omega) (by omega) ez1) hs_a0 ⟨by decide, rfl⟩ kd28_49.2.2.1 rfl rfl (by simp [Value.category]) (by decide) (by decide) (by decide) (by decide) (fun r2 S4 g3 pr2 qr2 hg3 => ?_)
  obtain ⟨rfl, rfl, z5, rfl, lz5, uz5, k6⟩ := pr2
  refine X_st [.int (iI z5)] rfl ?_
  refine X_if_ne hK 13 (by omega) kd28_49.2.2.2.1 (by decide) (fun c7 => ?_) (fun c7 => ?_)
  · refine X_aloadn hK (i := 0) 0 kd28_49.2.2.2.2.2.2.2.1 rfl rfl ?_
    refine X_iconst hK kd28_49.2.2.2.2.2.2.2.2.1 ?_
    refine X_puti hK fl_X12_198_13 hs_a0 (by decide) sl_13_0 (by omega) (by omega) kd28_49.2.2.2.2.2.2.2.2.2.1 (fun g8 hg8 => ?_)
    refine X_aloadn hK (i := 0) 0 kd28_49.2.2.2.2.2.2.2.2.2.2.1 rfl rfl ?_
    refine X_getr hK 14500 40 fl_X12_22_13 hs_a0 sl_13_7 kd28_49.2.2.2.2.2.2.2.2.2.2.2 (fun b9 eb9 hs_b9 => ?_)
    refine X_iloadn hK (i := 1) 1 kd28_50.1 rfl rfl ?_
    refine X_iald hK hs_b9 (by decide) sl_14500 (by omega) (by omega) kd28_50.2.1 (fun z10 ez10 lz10 uz10 => ?_)
    exact hret _ _ _ _ _ _ _ kd28_50.2.2.1 ⟨rfl, z10, rfl, (by omega), (by omega)⟩ (Nat.le_refl _) (Nat.le_refl _)
  · refine X_aloadn hK (i := 0) 0 kd28_49.2.2.2.2.1 rfl rfl ?_
    refine X_callV hK [] [] lk_X12_418 (c_X12_refuse _ _ _ _ _ S g a0 hs_a0) hs_a0 ⟨by decide, rfl⟩ kd28_49.2.2.2.2.2.1 rfl rfl (by simp [Value.category]) (by decide) (by decide) (by decide) (by decide) (fun r11 S13 g12 pr11 qr11 hg12 => ?_)
    obtain ⟨rfl, z14, rfl, lz14, uz14⟩ := pr11
    refine X_st [.int (iI z14)] rfl ?_
    exact hret _ _ _ _ _ _ _ kd28_49.2.2.2.2.2.2.1 ⟨rfl, z14, rfl, (by omega), (by omega)⟩ (Nat.le_refl _) (Nat.le_refl _)

set_option maxHeartbeats 4000000 in
set_option maxRecDepth 100000 in
theorem c_X12_expected (l : Launch) (D : va_G) (kA : Nat → ClassId) (b0 : Nat) (t0 : Nat → Nat) (S : xT) (g : xG) (a0 : Nat) (hs_a0 : S a0 = some (13, 0)) : xMt l yX12_expected cX12_expected 1 (some .long) 0 0 0 0 D kA b0 t0 [(13, 0)] [.ref a0] S g (fun (r : Option Value) (S1 : xT) (g1 : xG) => S = S1 ∧ ∃ z : Int64, r = some (.long z)) := by
  refine xEnterL (by decide) (by simp [lg_sl, Value.category]) [(0, .ref a0)] rfl ?_
  intro K E hK hret _ _ _
  refine X_aloadn hK (i := 0) 0 kd28_61.2.2.2.2.1 rfl rfl ?_
  refine X_iconst hK kd28_61.2.2.2.2.2.1 ?_
  refine X_puti hK fl_X12_198_13 hs_a0 (by decide) sl_13_0 (by omega) (by omega) kd28_61.2.2.2.2.2.2.1 (fun g1 hg1 => ?_)
  refine X_aloadn hK (i := 0) 0 kd28_61.2.2.2.2.2.2.2.1 rfl rfl ?_
  refine X_getl hK fl_X12_434_13 hs_a0 sl_13_70 kd28_61.2.2.2.2.2.2.2.2.1 (fun y2 ey2 => ?_)
  exact hret _ _ _ _ _ _ _ kd28_61.2.2.2.2.2.2.2.2.2.1 ⟨rfl, y2, rfl⟩ (Nat.le_refl _) (Nat.le_refl _)

set_option maxHeartbeats 4000000 in
set_option maxRecDepth 100000 in
theorem c_X12_triedEaten (l : Launch) (D : va_G) (kA : Nat → ClassId) (b0 : Nat) (t0 : Nat → Nat) (S : xT) (g : xG) (a0 : Nat) (hs_a0 : S a0 = some (13, 0)) : xMt l yX12_triedEaten cX12_triedEaten 1 (some .int) 0 0 0 0 D kA b0 t0 [(13, 0)] [.ref a0] S g (fun (r : Option Value) (S1 : xT) (g1 : xG) => S = S1 ∧ ∃ z : Int, r = some (.int (iI z)) ∧ (-2147483648) ≤ z ∧ z ≤ 2147483647) := by
  refine xEnterI (by decide) (by simp [lg_sl, Value.category]) [(0, .ref a0)] rfl ?_
  intro K E hK hret _ _ _
  refine X_aloadn hK (i := 0) 0 kd28_147.2.2.2.2.2.2.2.2.2.1 rfl rfl ?_
  refine X_iconst hK kd28_147.2.2.2.2.2.2.2.2.2.2.1 ?_
  refine X_puti hK fl_X12_198_13 hs_a0 (by decide) sl_13_0 (by omega) (by omega) kd28_147.2.2.2.2.2.2.2.2.2.2.2 (fun g1 hg1 => ?_)
  refine X_aloadn hK (i := 0) 0 kd28_148.1 rfl rfl ?_
  refine X_geti hK fl_X12_150_13 hs_a0 sl_13_71 kd28_148.2.1 (fun z2 ez2 lz2 uz2 => ?_)
  exact hret _ _ _ _ _ _ _ kd28_148.2.2.1 ⟨rfl, z2, rfl, (by omega), (by omega)⟩ (Nat.le_refl _) (Nat.le_refl _)

set_option maxHeartbeats 4000000 in
set_option maxRecDepth 100000 in
theorem c_X12_struck (l : Launch) (D : va_G) (kA : Nat → ClassId) (b0 : Nat) (t0 : Nat → Nat) (S : xT) (g : xG) (a0 : Nat) (x1 : Int) (kh : Int) (kp : Int) (hs_a0 : S a0 = some (13, 0)) (hx1 : (-2147483648) ≤ x1 ∧ x1 ≤ 2147483647) (hkh : (-2147483648) ≤ kh ∧ kh ≤ 2147483647) (ekh : g a0 89 = .int (iI kh)) (hkp : (-2147483648) ≤ kp ∧ kp ≤ 2147483647) (ekp : g a0 90 = .int (iI kp)) : xMt l yX12_struck cX12_struck 2 (some .int) 0 0 0 0 D kA b0 t0 [(13, 0)] [.ref a0, .int (iI x1)] S g (fun (r : Option Value) (S1 : xT) (g1 : xG) => S = S1 ∧ ∃ z : Int, r = some (.int (iI z)) ∧ (-2147483648) ≤ z ∧ z ≤ 2147483647 ∧ (z = if x1 = 0 then kh else if x1 = 1 then kp else -1)) := by
  refine xEnterI (by decide) (by simp [lg_sl, Value.category]) [(0, .ref a0), (1, .int (iI x1))] rfl ?_
  intro K E hK hret _ _ _
  refine X_aloadn hK (i := 0) 0 kd28_140.2.2.2.2.1 rfl rfl ?_
  refine X_iconst hK kd28_140.2.2.2.2.2.1 ?_
  refine X_puti hK fl_X12_198_13 hs_a0 (by decide) sl_13_0 (by omega) (by omega) kd28_140.2.2.2.2.2.2.1 (fun g1 hg1 => ?_)
  refine X_iloadn hK (i := 1) 1 kd28_140.2.2.2.2.2.2.2.1 rfl rfl ?_
  refine X_if_ne hK 16 (by omega) kd28_140.2.2.2.2.2.2.2.2.1 (by decide) (fun c2 => ?_) (fun c2 => ?_)
  · refine X_iloadn hK (i := 1) 1 kd28_141.1 rfl rfl ?_
    refine X_iconst hK kd28_141.2.1 ?_
    refine X_icmp_ne hK 28 (by omega) (by omega) kd28_141.2.2.1 (by decide) (fun c3 => ?_) (fun c3 => ?_)
    · refine X_iconst hK kd28_141.2.2.2.2.2.2.1 ?_
      exact hret _ _ _ _ _ _ _ kd28_141.2.2.2.2.2.2.2.1 ⟨rfl, (-1), rfl, (by omega), (by omega), (by omega)⟩ (Nat.le_refl _) (Nat.le_refl _)
    · refine X_aloadn hK (i := 0) 0 kd28_141.2.2.2.1 rfl rfl ?_
      refine X_getK hK fl_X12_195_13 hs_a0 ((xs_k hg1 (by decide)).trans ekp) kd28_141.2.2.2.2.1 ?_
      refine X_goto hK 29 kd28_141.2.2.2.2.2.1 (by decide) ?_
      exact hret _ _ _ _ _ _ _ kd28_141.2.2.2.2.2.2.2.1 ⟨rfl, kp, rfl, (by omega), (by omega), (by omega)⟩ (Nat.le_refl _) (Nat.le_refl _)
  · refine X_aloadn hK (i := 0) 0 kd28_140.2.2.2.2.2.2.2.2.2.1 rfl rfl ?_
    refine X_getK hK fl_X12_192_13 hs_a0 ((xs_k hg1 (by decide)).trans ekh) kd28_140.2.2.2.2.2.2.2.2.2.2.1 ?_
    refine X_goto hK 29 kd28_140.2.2.2.2.2.2.2.2.2.2.2 (by decide) ?_
    exact hret _ _ _ _ _ _ _ kd28_141.2.2.2.2.2.2.2.1 ⟨rfl, kh, rfl, (by omega), (by omega), (by omega)⟩ (Nat.le_refl _) (Nat.le_refl _)

set_option maxHeartbeats 4000000 in
set_option maxRecDepth 100000 in
theorem c_X12_count (l : Launch) (D : va_G) (kA : Nat → ClassId) (b0 : Nat) (t0 : Nat → Nat) (S : xT) (g : xG) (a0 : Nat) (x1 : Int) (hs_a0 : S a0 = some (13, 0)) (hx1 : (-2147483648) ≤ x1 ∧ x1 ≤ 2147483647) : xMt l yX12_count cX12_count 2 (some .int) 0 0 0 0 D kA b0 t0 [(13, 0)] [.ref a0, .int (iI x1)] S g (fun (r : Option Value) (S1 : xT) (g1 : xG) => S = S1 ∧ ∃ z : Int, r = some (.int (iI z)) ∧ (-1) ≤ z ∧ z ≤ 420) := by
  refine xEnterI (by decide) (by simp [lg_sl, Value.category]) [(0, .ref a0), (1, .int (iI x1))] rfl ?_
  intro K E hK hret _ _ _
  refine X_aloadn hK (i := 0) 0 kd28_50.2.2.2.1 rfl rfl ?_
  refine X_iconst hK kd28_50.2.2.2.2.1 ?_
  refine X_puti hK fl_X12_198_13 hs_a0 (by decide) sl_13_0 (by omega) (by omega) kd28_50.2.2.2.2.2.1 (fun g1 hg1 => ?_)
  refine X_iloadn hK (i := 1) 1 kd28_50.2.2.2.2.2.2.1 rfl rfl ?_
  rcases (show (x1 < 0 ∨ 5 < x1) ∨ x1 = 0 ∨ x1 = 1 ∨ x1 = 2 ∨ x1 = 3 ∨ x1 = 4 ∨ x1 = 5 by omega) with c2 | c2 | c2 | c2 | c2 | c2 | c2
  · refine X_tableOut hK 74 (by omega) c2 kd28_50.2.2.2.2.2.2.2.1 (by decide) ?_
    refine X_iconst hK kd28_52.2.2.1 ?_
    exact hret _ _ _ _ _ _ _ kd28_52.2.2.2.1 ⟨rfl, (-1), rfl, (by omega), (by omega)⟩ (Nat.le_refl _) (Nat.le_refl _)
  · refine X_tableIn hK 44 0 (by decide) c2 (by decide) (by decide) kd28_50.2.2.2.2.2.2.2.1 rfl (by decide) ?_
    refine X_aloadn hK (i := 0) 0 kd28_50.2.2.2.2.2.2.2.2.1 rfl rfl ?_
    refine X_geti hK fl_X12_239_13 hs_a0 sl_13_3 kd28_50.2.2.2.2.2.2.2.2.2.1 (fun z3 ez3 lz3 uz3 => ?_)
    exact hret _ _ _ _ _ _ _ kd28_50.2.2.2.2.2.2.2.2.2.2.1 ⟨rfl, z3, rfl, (by omega), (by omega)⟩ (Nat.le_refl _) (Nat.le_refl _)
  · refine X_tableIn hK 49 1 (by decide) c2 (by decide) (by decide) kd28_50.2.2.2.2.2.2.2.1 rfl (by decide) ?_
    refine X_aloadn hK (i := 0) 0 kd28_50.2.2.2.2.2.2.2.2.2.2.2 rfl rfl ?_
    refine X_geti hK fl_X12_208_13 hs_a0 sl_13_16 kd28_51.1 (fun z4 ez4 lz4 uz4 => ?_)
    exact hret _ _ _ _ _ _ _ kd28_51.2.1 ⟨rfl, z4, rfl, (by omega), (by omega)⟩ (Nat.le_refl _) (Nat.le_refl _)
  · refine X_tableIn hK 54 2 (by decide) c2 (by decide) (by decide) kd28_50.2.2.2.2.2.2.2.1 rfl (by decide) ?_
    refine X_aloadn hK (i := 0) 0 kd28_51.2.2.1 rfl rfl ?_
    refine X_geti hK fl_X12_389_13 hs_a0 sl_13_58 kd28_51.2.2.2.1 (fun z5 ez5 lz5 uz5 => ?_)
    exact hret _ _ _ _ _ _ _ kd28_51.2.2.2.2.1 ⟨rfl, z5, rfl, (by omega), (by omega)⟩ (Nat.le_refl _) (Nat.le_refl _)
  · refine X_tableIn hK 59 3 (by decide) c2 (by decide) (by decide) kd28_50.2.2.2.2.2.2.2.1 rfl (by decide) ?_
    refine X_aloadn hK (i := 0) 0 kd28_51.2.2.2.2.2.1 rfl rfl ?_
    refine X_geti hK fl_X12_373_13 hs_a0 sl_13_39 kd28_51.2.2.2.2.2.2.1 (fun z6 ez6 lz6 uz6 => ?_)
    exact hret _ _ _ _ _ _ _ kd28_51.2.2.2.2.2.2.2.1 ⟨rfl, z6, rfl, (by omega), (by omega)⟩ (Nat.le_refl _) (Nat.le_refl _)
  · refine X_tableIn hK 64 4 (by decide) c2 (by decide) (by decide) kd28_50.2.2.2.2.2.2.2.1 rfl (by decide) ?_
    refine X_aloadn hK (i := 0) 0 kd28_51.2.2.2.2.2.2.2.2.1 rfl rfl ?_
    refine X_geti hK fl_X12_421_13 hs_a0 sl_13_69 kd28_51.2.2.2.2.2.2.2.2.2.1 (fun z7 ez7 lz7 uz7 => ?_)
    exact hret _ _ _ _ _ _ _ kd28_51.2.2.2.2.2.2.2.2.2.2.1 ⟨rfl, z7, rfl, (by omega), (by omega)⟩ (Nat.le_refl _) (Nat.le_refl _)
  · refine X_tableIn hK 69 5 (by decide) c2 (by decide) (by decide) kd28_50.2.2.2.2.2.2.2.1 rfl (by decide) ?_
    refine X_aloadn hK (i := 0) 0 kd28_51.2.2.2.2.2.2.2.2.2.2.2 rfl rfl ?_
    refine X_geti hK fl_X12_201_13 hs_a0 sl_13_2 kd28_52.1 (fun z8 ez8 lz8 uz8 => ?_)
    exact hret _ _ _ _ _ _ _ kd28_52.2.1 ⟨rfl, z8, rfl, (by omega), (by omega)⟩ (Nat.le_refl _) (Nat.le_refl _)

set_option maxHeartbeats 4000000 in
set_option maxRecDepth 100000 in
theorem c_X12_partedAt (l : Launch) (D : va_G) (kA : Nat → ClassId) (b0 : Nat) (t0 : Nat → Nat) (S : xT) (g : xG) (a0 : Nat) (x1 : Int) (hs_a0 : S a0 = some (13, 0)) (hx1 : (-2147483648) ≤ x1 ∧ x1 ≤ 2147483647) : xMt l yX12_partedAt cX12_partedAt 2 (some .int) 0 0 0 0 D kA b0 t0 [(13, 0)] [.ref a0, .int (iI x1)] S g (fun (r : Option Value) (S1 : xT) (g1 : xG) => S = S1 ∧ ∃ z : Int, r = some (.int (iI z)) ∧ (-1) ≤ z ∧ z ≤ 7) := by
  refine xEnterI (by decide) (by simp [lg_sl, Value.category]) [(0, .ref a0), (1, .int (iI x1))] rfl ?_
  intro K E hK hret _ _ _
  refine X_aloadn hK (i := 0) 0 kd28_115.2.2.2.2.2.2.2.2.2.1 rfl rfl ?_
  refine X_iconst hK kd28_115.2.2.2.2.2.2.2.2.2.2.1 ?_
  refine X_puti hK fl_X12_198_13 hs_a0 (by decide) sl_13_0 (by omega) (by omega) kd28_115.2.2.2.2.2.2.2.2.2.2.2 (fun g1 hg1 => ?_)
  refine X_aloadn hK (i := 0) 0 kd28_116.1 rfl rfl ?_
  refine X_geti hK fl_X12_462_13 hs_a0 sl_13_79 kd28_116.2.1 (fun z2 ez2 lz2 uz2 => ?_)
  refine X_if_eq hK 33 (by omega) kd28_116.2.2.1 (by decide) (fun c3 => ?_) (fun c3 => ?_)
  · refine X_iconst hK kd28_117.2.2.1 ?_
    exact hret _ _ _ _ _ _ _ kd28_117.2.2.2.1 ⟨rfl, (-1), rfl, (by omega), (by omega)⟩ (Nat.le_refl _) (Nat.le_refl _)
  · refine X_iloadn hK (i := 1) 1 kd28_116.2.2.2.1 rfl rfl ?_
    refine X_if_lt hK 33 (by omega) kd28_116.2.2.2.2.1 (by decide) (fun c4 => ?_) (fun c4 => ?_)
    · refine X_iconst hK kd28_117.2.2.1 ?_
      exact hret _ _ _ _ _ _ _ kd28_117.2.2.2.1 ⟨rfl, (-1), rfl, (by omega), (by omega)⟩ (Nat.le_refl _) (Nat.le_refl _)
    · refine X_iloadn hK (i := 1) 1 kd28_116.2.2.2.2.2.1 rfl rfl ?_
      refine X_aloadn hK (i := 0) 0 kd28_116.2.2.2.2.2.2.1 rfl rfl ?_
      refine X_geti hK fl_X12_459_13 hs_a0 sl_13_78 kd28_116.2.2.2.2.2.2.2.1 (fun z5 ez5 lz5 uz5 => ?_)
      refine X_icmp_ge hK 33 (by omega) (by omega) kd28_116.2.2.2.2.2.2.2.2.1 (by decide) (fun c6 => ?_) (fun c6 => ?_)
      · refine X_iconst hK kd28_117.2.2.1 ?_
        exact hret _ _ _ _ _ _ _ kd28_117.2.2.2.1 ⟨rfl, (-1), rfl, (by omega), (by omega)⟩ (Nat.le_refl _) (Nat.le_refl _)
      · refine X_aloadn hK (i := 0) 0 kd28_116.2.2.2.2.2.2.2.2.2.1 rfl rfl ?_
        refine X_getr hK 18300 8 fl_X12_159_13 hs_a0 sl_13_74 kd28_116.2.2.2.2.2.2.2.2.2.2.1 (fun b7 eb7 hs_b7 => ?_)
        refine X_iloadn hK (i := 1) 1 kd28_116.2.2.2.2.2.2.2.2.2.2.2 rfl rfl ?_
        refine X_iald hK hs_b7 (by decide) sl_18300 (by omega) (by omega) kd28_117.1 (fun z8 ez8 lz8 uz8 => ?_)
        refine X_goto hK 34 kd28_117.2.1 (by decide) ?_
        exact hret _ _ _ _ _ _ _ kd28_117.2.2.2.1 ⟨rfl, z8, rfl, (by omega), (by omega)⟩ (Nat.le_refl _) (Nat.le_refl _)

set_option maxHeartbeats 4000000 in
set_option maxRecDepth 100000 in
theorem c_X12_counted (l : Launch) (D : va_G) (kA : Nat → ClassId) (b0 : Nat) (t0 : Nat → Nat) (S : xT) (g : xG) (a0 : Nat) (x1 : Int) (x2 : Int) (x3 : Int) (x4 : Int) (n0 : Int) (td : Int) (hs_a0 : S a0 = some (13, 0)) (hx1 : (-2147483648) ≤ x1 ∧ x1 ≤ 2147483647) (hx2 : (-2147483648) ≤ x2 ∧ x2 ≤ 2147483647) (hx3 : (-2147483648) ≤ x3 ∧ x3 ≤ 2147483647) (hx4 : (-2147483648) ≤ x4 ∧ x4 ≤ 2147483647) (hn0 : 0 ≤ n0 ∧ n0 ≤ 60) (en0 : g a0 69 = .int (iI n0)) (htd : 0 ≤ td ∧ td ≤ 400) (etd : g a0 3 = .int (iI td)) : xMt l yX12_counted cX12_counted 5 (some .int) 1 0 0 22 D kA b0 t0 [(13, 0), (17600, 0), (17700, 0), (17800, 0), (17900, 0), (18000, 0), (13, 69)] [.ref a0, .int (iI x1), .int (iI x2), .int (iI x3), .int (iI x4)] S g (fun (r : Option Value) (S1 : xT) (g1 : xG) => S = S1 ∧ ∃ z : Int, r = some (.int (iI z)) ∧ (-1) ≤ z ∧ z ≤ 59 ∧ (z = if n0 < 60 ∧ 0 ≤ x1 ∧ x1 ≤ 3 ∧ 0 ≤ x2 ∧ x2 ≤ 9 ∧ 0 ≤ x3 ∧ x3 < td ∧ 0 ≤ x4 ∧ x4 ≤ 10000 then n0 else -1) ∧ (g1 a0 69 = .int (iI (if n0 < 60 ∧ 0 ≤ x1 ∧ x1 ≤ 3 ∧ 0 ≤ x2 ∧ x2 ≤ 9 ∧ 0 ≤ x3 ∧ x3 < td ∧ 0 ≤ x4 ∧ x4 ≤ 10000 then n0 + 1 else n0)))) := by
  refine xEnterI (by decide) (by simp [lg_sl, Value.category]) [(0, .ref a0), (1, .int (iI x1)), (2, .int (iI x2)), (3, .int (iI x3)), (4, .int (iI x4))] rfl ?_
  intro K E hK hret _ _ _
  refine X_aloadn hK (i := 0) 0 kd28_55.2.2.2.2.2.2.1 rfl rfl ?_
  refine X_iconst hK kd28_55.2.2.2.2.2.2.2.1 ?_
  refine X_puti hK fl_X12_198_13 hs_a0 (by decide) sl_13_0 (by omega) (by omega) kd28_55.2.2.2.2.2.2.2.2.1 (fun g1 hg1 => ?_)
  refine X_aloadn hK (i := 0) 0 kd28_55.2.2.2.2.2.2.2.2.2.1 rfl rfl ?_
  refine X_getK hK fl_X12_421_13 hs_a0 ((xs_k hg1 (by decide)).trans en0) kd28_55.2.2.2.2.2.2.2.2.2.2.1 ?_
  refine X_bipush hK kd28_55.2.2.2.2.2.2.2.2.2.2.2 (by decide) ?_
  refine X_icmp_eq hK 54 (by omega) (by omega) kd28_56.1 (by decide) (fun c2 => ?_) (fun c2 => ?_)
  · refine X_iconst hK kd28_57.2.2.2.2.2.2.2.2.1 ?_
    exact hret _ _ _ _ _ _ _ kd28_57.2.2.2.2.2.2.2.2.2.1 ⟨rfl, (-1), rfl, (by omega), (by omega), (by omega), (((xs_k hg1 (by decide)).trans en0).trans (by congr 2 <;> omega))⟩ (Nat.le_refl _) (Nat.le_refl _)
  · refine X_iloadn hK (i := 1) 1 kd28_56.2.1 rfl rfl ?_
    refine X_callS hK [.int (iI x1)] [] lk_X12_236 (c_X12_isPaper _ _ _ _ _ S g1 x1 (by omega)) kd28_56.2.2.1 rfl rfl (by simp [Value.category]) (by decide) (by decide) (by decide) (by decide) (fun r3 S5 g4 pr3 qr3 hg4 => ?_)
    obtain ⟨rfl, rfl, z6, rfl, lz6, uz6, k7⟩ := pr3
    refine X_st [.int (iI z6)] rfl ?_
    refine X_if_eq hK 54 (by omega) kd28_56.2.2.2.1 (by decide) (fun c8 => ?_) (fun c8 => ?_)
    · refine X_iconst hK kd28_57.2.2.2.2.2.2.2.2.1 ?_
      exact hret _ _ _ _ _ _ _ kd28_57.2.2.2.2.2.2.2.2.2.1 ⟨rfl, (-1), rfl, (by omega), (by omega), (by omega), (((xs_k hg1 (by decide)).trans en0).trans (by congr 2 <;> omega))⟩ (Nat.le_refl _) (Nat.le_refl _)
    · refine X_iloadn hK (i := 2) 2 kd28_56.2.2.2.2.1 rfl rfl ?_
      refine X_callS hK [.int (iI x2)] [] lk_X12_219 (c_X12_isCorner _ _ _ _ _ S g1 x2 (by omega)) kd28_56.2.2.2.2.2.1 rfl rfl (by simp [Value.category]) (by decide) (by decide) (by decide) (by decide) (fun r9 S11 g10 pr9 qr9 hg10 => ?_)
      obtain ⟨rfl, rfl, z12, rfl, lz12, uz12, k13⟩ := pr9
      refine X_st [.int (iI z12)] rfl ?_
      refine X_if_eq hK 54 (by omega) kd28_56.2.2.2.2.2.2.1 (by decide) (fun c14 => ?_) (fun c14 => ?_)
      · refine X_iconst hK kd28_57.2.2.2.2.2.2.2.2.1 ?_
        exact hret _ _ _ _ _ _ _ kd28_57.2.2.2.2.2.2.2.2.2.1 ⟨rfl, (-1), rfl, (by omega), (by omega), (by omega), (((xs_k hg1 (by decide)).trans en0).trans (by congr 2 <;> omega))⟩ (Nat.le_refl _) (Nat.le_refl _)
      · refine X_iloadn hK (i := 3) 3 kd28_56.2.2.2.2.2.2.2.1 rfl rfl ?_
        refine X_iconst hK kd28_56.2.2.2.2.2.2.2.2.1 ?_
        refine X_aloadn hK (i := 0) 0 kd28_56.2.2.2.2.2.2.2.2.2.1 rfl rfl ?_
        refine X_getK hK fl_X12_239_13 hs_a0 ((xs_k hg1 (by decide)).trans etd) kd28_56.2.2.2.2.2.2.2.2.2.2.1 ?_
        refine X_iconst hK kd28_56.2.2.2.2.2.2.2.2.2.2.2 ?_
        refine X_isub hK kd28_57.1 ?_
        refine X_callS hK [.int (iI x3), .int (iI 0), .int (iI (td - 1))] [] lk_X12_211 (c_X12_isIn _ _ _ _ _ S g1 x3 0 (td - 1) (by omega) (by omega) (by omega)) kd28_57.2.1 rfl rfl (by simp [Value.category]) (by decide) (by decide) (by decide) (by decide) (fun r15 S17 g16 pr15 qr15 hg16 => ?_)
        obtain ⟨rfl, rfl, z18, rfl, lz18, uz18, k19⟩ := pr15
        refine X_st [.int (iI z18)] rfl ?_
        refine X_if_eq hK 54 (by omega) kd28_57.2.2.1 (by decide) (fun c20 => ?_) (fun c20 => ?_)
        · refine X_iconst hK kd28_57.2.2.2.2.2.2.2.2.1 ?_
          exact hret _ _ _ _ _ _ _ kd28_57.2.2.2.2.2.2.2.2.2.1 ⟨rfl, (-1), rfl, (by omega), (by omega), (by omega), (((xs_k hg1 (by decide)).trans en0).trans (by congr 2 <;> omega))⟩ (Nat.le_refl _) (Nat.le_refl _)
        · refine X_iload hK (i := 4) 4 kd28_57.2.2.2.1 rfl ?_
          refine X_iconst hK kd28_57.2.2.2.2.1 ?_
          refine X_sipush hK kd28_57.2.2.2.2.2.1 (by decide) ?_
          refine X_callS hK [.int (iI x4), .int (iI 0), .int (iI 10000)] [] lk_X12_211 (c_X12_isIn _ _ _ _ _ S g1 x4 0 10000 (by omega) (by omega) (by omega)) kd28_57.2.2.2.2.2.2.1 rfl rfl (by simp [Value.category]) (by decide) (by decide) (by decide) (by decide) (fun r21 S23 g22 pr21 qr21 hg22 => ?_)
          obtain ⟨rfl, rfl, z24, rfl, lz24, uz24, k25⟩ := pr21
          refine X_st [.int (iI z24)] rfl ?_
          refine X_if_ne hK 56 (by omega) kd28_57.2.2.2.2.2.2.2.1 (by decide) (fun c26 => ?_) (fun c26 => ?_)
          · refine X_aloadn hK (i := 0) 0 kd28_57.2.2.2.2.2.2.2.2.2.2.1 rfl rfl ?_
            refine X_getr hK 17600 60 fl_X12_135_13 hs_a0 sl_13_64 kd28_57.2.2.2.2.2.2.2.2.2.2.2 (fun b27 eb27 hs_b27 => ?_)
            refine X_aloadn hK (i := 0) 0 kd28_58.1 rfl rfl ?_
            refine X_getK hK fl_X12_421_13 hs_a0 ((xs_k hg1 (by decide)).trans en0) kd28_58.2.1 ?_
            refine X_iloadn hK (i := 1) 1 kd28_58.2.2.1 rfl rfl ?_
            refine X_iast hK hs_b27 (by decide) (by decide) sl_17600 (by omega) (by omega) (by omega) (by omega) kd28_58.2.2.2.1 (fun g28 hg28 => ?_)
            refine X_aloadn hK (i := 0) 0 kd28_58.2.2.2.2.1 rfl rfl ?_
            refine X_getr hK 17700 60 fl_X12_138_13 hs_a0 sl_13_65 kd28_58.2.2.2.2.2.1 (fun b29 eb29 hs_b29 => ?_)
            refine X_aloadn hK (i := 0) 0 kd28_58.2.2.2.2.2.2.1 rfl rfl ?_
            refine X_getK hK fl_X12_421_13 hs_a0 ((xs_a hg28 (xne hs_a0 hs_b27 (by decide))).trans ((xs_k hg1 (by decide)).trans en0)) kd28_58.2.2.2.2.2.2.2.1 ?_
            refine X_iloadn hK (i := 2) 2 kd28_58.2.2.2.2.2.2.2.2.1 rfl rfl ?_
            refine X_iast hK hs_b29 (by decide) (by decide) sl_17700 (by omega) (by omega) (by omega) (by omega) kd28_58.2.2.2.2.2.2.2.2.2.1 (fun g30 hg30 => ?_)
            refine X_aloadn hK (i := 0) 0 kd28_58.2.2.2.2.2.2.2.2.2.2.1 rfl rfl ?_
            refine X_getr hK 17800 60 fl_X12_141_13 hs_a0 sl_13_66 kd28_58.2.2.2.2.2.2.2.2.2.2.2 (fun b31 eb31 hs_b31 => ?_)
            refine X_aloadn hK (i := 0) 0 kd28_59.1 rfl rfl ?_
            refine X_getK hK fl_X12_421_13 hs_a0 ((xs_a hg30 (xne hs_a0 hs_b29 (by decide))).trans ((xs_a hg28 (xne hs_a0 hs_b27 (by decide))).trans ((xs_k hg1 (by decide)).trans en0))) kd28_59.2.1 ?_
            refine X_iloadn hK (i := 3) 3 kd28_59.2.2.1 rfl rfl ?_
            refine X_iast hK hs_b31 (by decide) (by decide) sl_17800 (by omega) (by omega) (by omega) (by omega) kd28_59.2.2.2.1 (fun g32 hg32 => ?_)
            refine X_aloadn hK (i := 0) 0 kd28_59.2.2.2.2.1 rfl rfl ?_
            refine X_getr hK 17900 60 fl_X12_144_13 hs_a0 sl_13_67 kd28_59.2.2.2.2.2.1 (fun b33 eb33 hs_b33 => ?_)
            refine X_aloadn hK (i := 0) 0 kd28_59.2.2.2.2.2.2.1 rfl rfl ?_
            refine X_getK hK fl_X12_421_13 hs_a0 ((xs_a hg32 (xne hs_a0 hs_b31 (by decide))).trans ((xs_a hg30 (xne hs_a0 hs_b29 (by decide))).trans ((xs_a hg28 (xne hs_a0 hs_b27 (by decide))).trans ((xs_k hg1 (by decide)).trans en0)))) kd28_59.2.2.2.2.2.2.2.1 ?_
            refine X_iload hK (i := 4) 4 kd28_59.2.2.2.2.2.2.2.2.1 rfl ?_
            refine X_iast hK hs_b33 (by decide) (by decide) sl_17900 (by omega) (by omega) (by omega) (by omega) kd28_59.2.2.2.2.2.2.2.2.2.1 (fun g34 hg34 => ?_)
            refine X_aloadn hK (i := 0) 0 kd28_59.2.2.2.2.2.2.2.2.2.2.1 rfl rfl ?_
            refine X_getr hK 18000 60 fl_X12_147_13 hs_a0 sl_13_68 kd28_59.2.2.2.2.2.2.2.2.2.2.2 (fun b35 eb35 hs_b35 => ?_)
            refine X_aloadn hK (i := 0) 0 kd28_60.1 rfl rfl ?_
            refine X_getK hK fl_X12_421_13 hs_a0 ((xs_a hg34 (xne hs_a0 hs_b33 (by decide))).trans ((xs_a hg32 (xne hs_a0 hs_b31 (by decide))).trans ((xs_a hg30 (xne hs_a0 hs_b29 (by decide))).trans ((xs_a hg28 (xne hs_a0 hs_b27 (by decide))).trans ((xs_k hg1 (by decide)).trans en0))))) kd28_60.2.1 ?_
            refine X_aloadn hK (i := 0) 0 kd28_60.2.2.1 rfl rfl ?_
            refine X_getK hK fl_X12_239_13 hs_a0 ((xs_a hg34 (xne hs_a0 hs_b33 (by decide))).trans ((xs_a hg32 (xne hs_a0 hs_b31 (by decide))).trans ((xs_a hg30 (xne hs_a0 hs_b29 (by decide))).trans ((xs_a hg28 (xne hs_a0 hs_b27 (by decide))).trans ((xs_k hg1 (by decide)).trans etd))))) kd28_60.2.2.2.1 ?_
            refine X_iast hK hs_b35 (by decide) (by decide) sl_18000 (by omega) (by omega) (by omega) (by omega) kd28_60.2.2.2.2.1 (fun g36 hg36 => ?_)
            refine X_aloadn hK (i := 0) 0 kd28_60.2.2.2.2.2.1 rfl rfl ?_
            refine X_dup hK kd28_60.2.2.2.2.2.2.1 rfl ?_
            refine X_getK hK fl_X12_421_13 hs_a0 ((xs_a hg36 (xne hs_a0 hs_b35 (by decide))).trans ((xs_a hg34 (xne hs_a0 hs_b33 (by decide))).trans ((xs_a hg32 (xne hs_a0 hs_b31 (by decide))).trans ((xs_a hg30 (xne hs_a0 hs_b29 (by decide))).trans ((xs_a hg28 (xne hs_a0 hs_b27 (by decide))).trans ((xs_k hg1 (by decide)).trans en0)))))) kd28_60.2.2.2.2.2.2.2.1 ?_
            refine X_iconst hK kd28_60.2.2.2.2.2.2.2.2.1 ?_
            refine X_iadd hK kd28_60.2.2.2.2.2.2.2.2.2.1 ?_
            refine X_puti hK fl_X12_421_13 hs_a0 (by decide) sl_13_69 (by omega) (by omega) kd28_60.2.2.2.2.2.2.2.2.2.2.1 (fun g37 hg37 => ?_)
            refine X_aloadn hK (i := 0) 0 kd28_60.2.2.2.2.2.2.2.2.2.2.2 rfl rfl ?_
            refine X_getK hK fl_X12_421_13 hs_a0 (xs_s hg37) kd28_61.1 ?_
            refine X_iconst hK kd28_61.2.1 ?_
            refine X_isub hK kd28_61.2.2.1 ?_
            exact hret _ _ _ _ _ _ _ kd28_61.2.2.2.1 ⟨rfl, ((n0 + 1) - 1), rfl, (by omega), (by omega), (by omega), ((xs_s hg37).trans (by congr 2 <;> omega))⟩ (Nat.le_refl _) (Nat.le_refl _)
          · refine X_iconst hK kd28_57.2.2.2.2.2.2.2.2.1 ?_
            exact hret _ _ _ _ _ _ _ kd28_57.2.2.2.2.2.2.2.2.2.1 ⟨rfl, (-1), rfl, (by omega), (by omega), (by omega), (((xs_k hg1 (by decide)).trans en0).trans (by congr 2 <;> omega))⟩ (Nat.le_refl _) (Nat.le_refl _)

set_option maxHeartbeats 4000000 in
set_option maxRecDepth 100000 in
theorem c_X12_boy (l : Launch) (D : va_G) (kA : Nat → ClassId) (b0 : Nat) (t0 : Nat → Nat) (S : xT) (g : xG) (a0 : Nat) (x1 : Int) (x2 : Int) (x3 : Int) (x4 : Int) (n0 : Int) (hs_a0 : S a0 = some (13, 0)) (hx1 : (-2147483648) ≤ x1 ∧ x1 ≤ 2147483647) (hx2 : 0 ≤ x2 ∧ x2 ≤ 1) (hx3 : (-2147483648) ≤ x3 ∧ x3 ≤ 2147483647) (hx4 : (-2147483648) ≤ x4 ∧ x4 ≤ 2147483647) (hn0 : 0 ≤ n0 ∧ n0 ≤ 40) (en0 : g a0 16 = .int (iI n0)) : xMt l yX12_boy cX12_boy 5 (some .int) 1 0 0 22 D kA b0 t0 [(13, 0), (14200, 0), (19301, 0), (14300, 0), (14400, 0), (13, 16)] [.ref a0, .int (iI x1), .int (iI x2), .int (iI x3), .int (iI x4)] S g (fun (r : Option Value) (S1 : xT) (g1 : xG) => S = S1 ∧ ∃ z : Int, r = some (.int (iI z)) ∧ (-1) ≤ z ∧ z ≤ 39 ∧ (z = if n0 < 40 ∧ 6 ≤ x1 ∧ x1 ≤ 18 ∧ -1 ≤ x3 ∧ x3 ≤ 399 ∧ 0 ≤ x4 ∧ x4 ≤ 99 then n0 else -1) ∧ (g1 a0 16 = .int (iI (if n0 < 40 ∧ 6 ≤ x1 ∧ x1 ≤ 18 ∧ -1 ≤ x3 ∧ x3 ≤ 399 ∧ 0 ≤ x4 ∧ x4 ≤ 99 then n0 + 1 else n0)))) := by
  refine xEnterI (by decide) (by simp [lg_sl, Value.category]) [(0, .ref a0), (1, .int (iI x1)), (2, .int (iI x2)), (3, .int (iI x3)), (4, .int (iI x4))] rfl ?_
  intro K E hK hret _ _ _
  refine X_aloadn hK (i := 0) 0 kd28_40.2.1 rfl rfl ?_
  refine X_iconst hK kd28_40.2.2.1 ?_
  refine X_puti hK fl_X12_198_13 hs_a0 (by decide) sl_13_0 (by omega) (by omega) kd28_40.2.2.2.1 (fun g1 hg1 => ?_)
  refine X_aloadn hK (i := 0) 0 kd28_40.2.2.2.2.1 rfl rfl ?_
  refine X_getK hK fl_X12_208_13 hs_a0 ((xs_k hg1 (by decide)).trans en0) kd28_40.2.2.2.2.2.1 ?_
  refine X_bipush hK kd28_40.2.2.2.2.2.2.1 (by decide) ?_
  refine X_icmp_eq hK 47 (by omega) (by omega) kd28_40.2.2.2.2.2.2.2.1 (by decide) (fun c2 => ?_) (fun c2 => ?_)
  · refine X_iconst hK kd28_41.2.2.2.2.2.2.2.2.2.2.2 ?_
    exact hret _ _ _ _ _ _ _ kd28_42.1 ⟨rfl, (-1), rfl, (by omega), (by omega), (by omega), (((xs_k hg1 (by decide)).trans en0).trans (by congr 2 <;> omega))⟩ (Nat.le_refl _) (Nat.le_refl _)
  · refine X_iloadn hK (i := 1) 1 kd28_40.2.2.2.2.2.2.2.2.1 rfl rfl ?_
    refine X_bipush hK kd28_40.2.2.2.2.2.2.2.2.2.1 (by decide) ?_
    refine X_bipush hK kd28_40.2.2.2.2.2.2.2.2.2.2.1 (by decide) ?_
    refine X_callS hK [.int (iI x1), .int (iI 6), .int (iI 18)] [] lk_X12_211 (c_X12_isIn _ _ _ _ _ S g1 x1 6 18 (by omega) (by omega) (by omega)) kd28_40.2.2.2.2.2.2.2.2.2.2.2 rfl rfl (by simp [Value.category]) (by decide) (by decide) (by decide) (by decide) (fun r3 S5 g4 pr3 qr3 hg4 => ?_)
    obtain ⟨rfl, rfl, z6, rfl, lz6, uz6, k7⟩ := pr3
    refine X_st [.int (iI z6)] rfl ?_
    refine X_if_eq hK 47 (by omega) kd28_41.1 (by decide) (fun c8 => ?_) (fun c8 => ?_)
    · refine X_iconst hK kd28_41.2.2.2.2.2.2.2.2.2.2.2 ?_
      exact hret _ _ _ _ _ _ _ kd28_42.1 ⟨rfl, (-1), rfl, (by omega), (by omega), (by omega), (((xs_k hg1 (by decide)).trans en0).trans (by congr 2 <;> omega))⟩ (Nat.le_refl _) (Nat.le_refl _)
    · refine X_iloadn hK (i := 3) 3 kd28_41.2.1 rfl rfl ?_
      refine X_iconst hK kd28_41.2.2.1 ?_
      refine X_sipush hK kd28_41.2.2.2.1 (by decide) ?_
      refine X_callS hK [.int (iI x3), .int (iI (-1)), .int (iI 399)] [] lk_X12_211 (c_X12_isIn _ _ _ _ _ S g1 x3 (-1) 399 (by omega) (by omega) (by omega)) kd28_41.2.2.2.2.1 rfl rfl (by simp [Value.category]) (by decide) (by decide) (by decide) (by decide) (fun r9 S11 g10 pr9 qr9 hg10 => ?_)
      obtain ⟨rfl, rfl, z12, rfl, lz12, uz12, k13⟩ := pr9
      refine X_st [.int (iI z12)] rfl ?_
      refine X_if_eq hK 47 (by omega) kd28_41.2.2.2.2.2.1 (by decide) (fun c14 => ?_) (fun c14 => ?_)
      · refine X_iconst hK kd28_41.2.2.2.2.2.2.2.2.2.2.2 ?_
        exact hret _ _ _ _ _ _ _ kd28_42.1 ⟨rfl, (-1), rfl, (by omega), (by omega), (by omega), (((xs_k hg1 (by decide)).trans en0).trans (by congr 2 <;> omega))⟩ (Nat.le_refl _) (Nat.le_refl _)
      · refine X_iload hK (i := 4) 4 kd28_41.2.2.2.2.2.2.1 rfl ?_
        refine X_iconst hK kd28_41.2.2.2.2.2.2.2.1 ?_
        refine X_bipush hK kd28_41.2.2.2.2.2.2.2.2.1 (by decide) ?_
        refine X_callS hK [.int (iI x4), .int (iI 0), .int (iI 99)] [] lk_X12_211 (c_X12_isIn _ _ _ _ _ S g1 x4 0 99 (by omega) (by omega) (by omega)) kd28_41.2.2.2.2.2.2.2.2.2.1 rfl rfl (by simp [Value.category]) (by decide) (by decide) (by decide) (by decide) (fun r15 S17 g16 pr15 qr15 hg16 => ?_)
        obtain ⟨rfl, rfl, z18, rfl, lz18, uz18, k19⟩ := pr15
        refine X_st [.int (iI z18)] rfl ?_
        refine X_if_ne hK 49 (by omega) kd28_41.2.2.2.2.2.2.2.2.2.2.1 (by decide) (fun c20 => ?_) (fun c20 => ?_)
        · refine X_aloadn hK (i := 0) 0 kd28_42.2.1 rfl rfl ?_
          refine X_getr hK 14200 40 fl_X12_13_13 hs_a0 sl_13_4 kd28_42.2.2.1 (fun b21 eb21 hs_b21 => ?_)
          refine X_aloadn hK (i := 0) 0 kd28_42.2.2.2.1 rfl rfl ?_
          refine X_getK hK fl_X12_208_13 hs_a0 ((xs_k hg1 (by decide)).trans en0) kd28_42.2.2.2.2.1 ?_
          refine X_iloadn hK (i := 1) 1 kd28_42.2.2.2.2.2.1 rfl rfl ?_
          refine X_iast hK hs_b21 (by decide) (by decide) sl_14200 (by omega) (by omega) (by omega) (by omega) kd28_42.2.2.2.2.2.2.1 (fun g22 hg22 => ?_)
          refine X_aloadn hK (i := 0) 0 kd28_42.2.2.2.2.2.2.2.1 rfl rfl ?_
          refine X_getr hK 19301 40 fl_X12_25_13 hs_a0 sl_13_8 kd28_42.2.2.2.2.2.2.2.2.1 (fun b23 eb23 hs_b23 => ?_)
          refine X_aloadn hK (i := 0) 0 kd28_42.2.2.2.2.2.2.2.2.2.1 rfl rfl ?_
          refine X_getK hK fl_X12_208_13 hs_a0 ((xs_a hg22 (xne hs_a0 hs_b21 (by decide))).trans ((xs_k hg1 (by decide)).trans en0)) kd28_42.2.2.2.2.2.2.2.2.2.2.1 ?_
          refine X_iloadn hK (i := 2) 2 kd28_42.2.2.2.2.2.2.2.2.2.2.2 rfl rfl ?_
          refine X_zast hK hs_b23 (by decide) (by decide) sl_19301 (by omega) (by omega) (by omega) (by omega) kd28_43.1 (fun g24 hg24 => ?_)
          refine X_aloadn hK (i := 0) 0 kd28_43.2.1 rfl rfl ?_
          refine X_getr hK 14300 40 fl_X12_16_13 hs_a0 sl_13_5 kd28_43.2.2.1 (fun b25 eb25 hs_b25 => ?_)
          refine X_aloadn hK (i := 0) 0 kd28_43.2.2.2.1 rfl rfl ?_
          refine X_getK hK fl_X12_208_13 hs_a0 ((xs_a hg24 (xne hs_a0 hs_b23 (by decide))).trans ((xs_a hg22 (xne hs_a0 hs_b21 (by decide))).trans ((xs_k hg1 (by decide)).trans en0))) kd28_43.2.2.2.2.1 ?_
          refine X_iloadn hK (i := 3) 3 kd28_43.2.2.2.2.2.1 rfl rfl ?_
          refine X_iast hK hs_b25 (by decide) (by decide) sl_14300 (by omega) (by omega) (by omega) (by omega) kd28_43.2.2.2.2.2.2.1 (fun g26 hg26 => ?_)
          refine X_aloadn hK (i := 0) 0 kd28_43.2.2.2.2.2.2.2.1 rfl rfl ?_
          refine X_getr hK 14400 40 fl_X12_19_13 hs_a0 sl_13_6 kd28_43.2.2.2.2.2.2.2.2.1 (fun b27 eb27 hs_b27 => ?_)
          refine X_aloadn hK (i := 0) 0 kd28_43.2.2.2.2.2.2.2.2.2.1 rfl rfl ?_
          refine X_getK hK fl_X12_208_13 hs_a0 ((xs_a hg26 (xne hs_a0 hs_b25 (by decide))).trans ((xs_a hg24 (xne hs_a0 hs_b23 (by decide))).trans ((xs_a hg22 (xne hs_a0 hs_b21 (by decide))).trans ((xs_k hg1 (by decide)).trans en0)))) kd28_43.2.2.2.2.2.2.2.2.2.2.1 ?_
          refine X_iload hK (i := 4) 4 kd28_43.2.2.2.2.2.2.2.2.2.2.2 rfl ?_
          refine X_iast hK hs_b27 (by decide) (by decide) sl_14400 (by omega) (by omega) (by omega) (by omega) kd28_44.1 (fun g28 hg28 => ?_)
          refine X_aloadn hK (i := 0) 0 kd28_44.2.1 rfl rfl ?_
          refine X_dup hK kd28_44.2.2.1 rfl ?_
          refine X_getK hK fl_X12_208_13 hs_a0 ((xs_a hg28 (xne hs_a0 hs_b27 (by decide))).trans ((xs_a hg26 (xne hs_a0 hs_b25 (by decide))).trans ((xs_a hg24 (xne hs_a0 hs_b23 (by decide))).trans ((xs_a hg22 (xne hs_a0 hs_b21 (by decide))).trans ((xs_k hg1 (by decide)).trans en0))))) kd28_44.2.2.2.1 ?_
          refine X_iconst hK kd28_44.2.2.2.2.1 ?_
          refine X_iadd hK kd28_44.2.2.2.2.2.1 ?_
          refine X_puti hK fl_X12_208_13 hs_a0 (by decide) sl_13_16 (by omega) (by omega) kd28_44.2.2.2.2.2.2.1 (fun g29 hg29 => ?_)
          refine X_aloadn hK (i := 0) 0 kd28_44.2.2.2.2.2.2.2.1 rfl rfl ?_
          refine X_getK hK fl_X12_208_13 hs_a0 (xs_s hg29) kd28_44.2.2.2.2.2.2.2.2.1 ?_
          refine X_iconst hK kd28_44.2.2.2.2.2.2.2.2.2.1 ?_
          refine X_isub hK kd28_44.2.2.2.2.2.2.2.2.2.2.1 ?_
          exact hret _ _ _ _ _ _ _ kd28_44.2.2.2.2.2.2.2.2.2.2.2 ⟨rfl, ((n0 + 1) - 1), rfl, (by omega), (by omega), (by omega), ((xs_s hg29).trans (by congr 2 <;> omega))⟩ (Nat.le_refl _) (Nat.le_refl _)
        · refine X_iconst hK kd28_41.2.2.2.2.2.2.2.2.2.2.2 ?_
          exact hret _ _ _ _ _ _ _ kd28_42.1 ⟨rfl, (-1), rfl, (by omega), (by omega), (by omega), (((xs_k hg1 (by decide)).trans en0).trans (by congr 2 <;> omega))⟩ (Nat.le_refl _) (Nat.le_refl _)

set_option maxHeartbeats 4000000 in
set_option maxRecDepth 100000 in
theorem c_X12_cameBack (l : Launch) (D : va_G) (kA : Nat → ClassId) (b0 : Nat) (t0 : Nat → Nat) (S : xT) (g : xG) (a0 : Nat) (x1 : Int) (x2 : Int) (x3 : Int) (hs_a0 : S a0 = some (13, 0)) (hx1 : (-2147483648) ≤ x1 ∧ x1 ≤ 2147483647) (hx2 : (-2147483648) ≤ x2 ∧ x2 ≤ 2147483647) (hx3 : (-2147483648) ≤ x3 ∧ x3 ≤ 2147483647) : xMt l yX12_cameBack cX12_cameBack 6 (some .int) 0 0 0 0 D kA b0 t0 [] [.ref a0, .int (iI x1), .int (iI x2), .int (iI x3)] S g (fun (r : Option Value) (S1 : xT) (g1 : xG) => S = S1 ∧ g = g1 ∧ ∃ z : Int, r = some (.int (iI z)) ∧ (-2147483648) ≤ z ∧ z ≤ 2147483647) := by
  refine xEnterI (by decide) (by simp [lg_sl, Value.category]) [(0, .ref a0), (1, .int (iI x1)), (2, .int (iI x2)), (3, .int (iI x3))] rfl ?_
  intro K E hK hret _ _ _
  refine X_iconst hK kd28_45.2.2.2.2.2.2.2.2.2.2.2 ?_
  refine X_istore hK (i := 4) [(4, .int (iI 0)), (0, .ref a0), (1, .int (iI x1)), (2, .int (iI x2)), (3, .int (iI x3))] kd28_46.1 (by decide) rfl ?_
  refine X_iconst hK kd28_46.2.1 ?_
  refine X_istore hK (i := 5) [(5, .int (iI 0)), (4, .int (iI 0)), (0, .ref a0), (1, .int (iI x1)), (2, .int (iI x2)), (3, .int (iI x3))] kd28_46.2.2.1 (by decide) rfl ?_
  have P159 : ∀ (nP159 : Nat) (z132 : Int) (_ : 0 ≤ z132) (_ : z132 ≤ 200) (z133 : Int) (_ : (-2147483648) ≤ z133) (_ : z133 ≤ 2147483647) (_ : 216 - z132 < (nP159 : Int)), X K E 6 [(5, .int (iI z132)), (4, .int (iI z133)), (0, .ref a0), (1, .int (iI x1)), (2, .int (iI x2)), (3, .int (iI x3))] [] S g 0 0 := by
    intro nP159
    induction nP159 with
    | zero => intro z132 lz132 uz132 z133 lz133 uz133 mP159; exact False.elim (by omega)
    | succ nP159 ihP159 =>
      intro z132 lz132 uz132 z133 lz133 uz133 mP159
      refine X_iload hK (i := 5) 0 kd28_46.2.2.2.1 rfl ?_
      refine X_aloadn hK (i := 0) 2 kd28_46.2.2.2.2.1 rfl rfl ?_
      refine X_geti hK fl_X12_389_13 hs_a0 sl_13_58 kd28_46.2.2.2.2.2.1 (fun z160 ez160 lz160 uz160 => ?_)
      refine X_icmp_ge hK 66 (by omega) (by omega) kd28_46.2.2.2.2.2.2.1 (by decide) (fun c161 => ?_) (fun c161 => ?_)
      · refine X_iload hK (i := 4) 1 kd28_48.2.2.2.2.2.2.2.2.2.2.1 rfl ?_
        exact hret _ _ _ _ _ _ _ kd28_48.2.2.2.2.2.2.2.2.2.2.2 ⟨rfl, rfl, z133, rfl, (by omega), (by omega)⟩ (Nat.le_refl _) (Nat.le_refl _)
      · refine X_aloadn hK (i := 0) 2 kd28_46.2.2.2.2.2.2.2.1 rfl rfl ?_
        refine X_getr hK 16900 200 fl_X12_105_13 hs_a0 sl_13_53 kd28_46.2.2.2.2.2.2.2.2.1 (fun b162 eb162 hs_b162 => ?_)
        refine X_iload hK (i := 5) 0 kd28_46.2.2.2.2.2.2.2.2.2.1 rfl ?_
        refine X_iald hK hs_b162 (by decide) sl_16900 (by omega) (by omega) kd28_46.2.2.2.2.2.2.2.2.2.2.1 (fun z163 ez163 lz163 uz163 => ?_)
        refine X_iloadn hK (i := 3) 5 kd28_46.2.2.2.2.2.2.2.2.2.2.2 rfl rfl ?_
        have J175 : ∀ (z174 : Int) (lz174 : (-2147483648) ≤ z174) (uz174 : z174 ≤ 2147483647), X K E 60 [(5, .int (iI z132)), (4, .int (iI z174)), (0, .ref a0), (1, .int (iI x1)), (2, .int (iI x2)), (3, .int (iI x3))] [] S g 0 0 := by
          intro z174 lz174 uz174
          refine X_iinc hK (i := 5) (z := z132) (n := 1) 0 [(5, .int (iI (z132 + 1))), (4, .int (iI z174)), (0, .ref a0), (1, .int (iI x1)), (2, .int (iI x2)), (3, .int (iI x3))] kd28_48.2.2.2.2.2.2.2.2.1 rfl (by decide) rfl ?_
          refine X_goto hK 6 kd28_48.2.2.2.2.2.2.2.2.2.1 (by decide) ?_
          exact ihP159  (z132 + 1) (by omega) (by omega) z174 (by omega) (by omega) (by omega)
        refine X_icmp_ne hK 60 (by omega) (by omega) kd28_47.1 (by decide) (fun c164 => ?_) (fun c164 => ?_)
        · exact J175 z133 (by omega) (by omega)
        · refine X_aloadn hK (i := 0) 2 kd28_47.2.1 rfl rfl ?_
          refine X_getr hK 16500 200 fl_X12_93_13 hs_a0 sl_13_49 kd28_47.2.2.1 (fun b176 eb176 hs_b176 => ?_)
          refine X_iload hK (i := 5) 0 kd28_47.2.2.2.1 rfl ?_
          refine X_iald hK hs_b176 (by decide) sl_16500 (by omega) (by omega) kd28_47.2.2.2.2.1 (fun z177 ez177 lz177 uz177 => ?_)
          refine X_iloadn hK (i := 1) 3 kd28_47.2.2.2.2.2.1 rfl rfl ?_
          refine X_icmp_ne hK 60 (by omega) (by omega) kd28_47.2.2.2.2.2.2.1 (by decide) (fun c178 => ?_) (fun c178 => ?_)
          · exact J175 z133 (by omega) (by omega)
          · refine X_aloadn hK (i := 0) 2 kd28_47.2.2.2.2.2.2.2.1 rfl rfl ?_
            refine X_getr hK 16600 200 fl_X12_96_13 hs_a0 sl_13_50 kd28_47.2.2.2.2.2.2.2.2.1 (fun b179 eb179 hs_b179 => ?_)
            refine X_iload hK (i := 5) 0 kd28_47.2.2.2.2.2.2.2.2.2.1 rfl ?_
            refine X_iald hK hs_b179 (by decide) sl_16600 (by omega) (by omega) kd28_47.2.2.2.2.2.2.2.2.2.2.1 (fun z180 ez180 lz180 uz180 => ?_)
            refine X_iloadn hK (i := 2) 4 kd28_47.2.2.2.2.2.2.2.2.2.2.2 rfl rfl ?_
            refine X_icmp_ne hK 60 (by omega) (by omega) kd28_48.1 (by decide) (fun c181 => ?_) (fun c181 => ?_)
            · exact J175 z133 (by omega) (by omega)
            · refine X_iload hK (i := 4) 1 kd28_48.2.1 rfl ?_
              refine X_aloadn hK (i := 0) 2 kd28_48.2.2.1 rfl rfl ?_
              refine X_getr hK 17200 200 fl_X12_114_13 hs_a0 sl_13_56 kd28_48.2.2.2.1 (fun b182 eb182 hs_b182 => ?_)
              refine X_iload hK (i := 5) 0 kd28_48.2.2.2.2.1 rfl ?_
              refine X_iald hK hs_b182 (by decide) sl_17200 (by omega) (by omega) kd28_48.2.2.2.2.2.1 (fun z183 ez183 lz183 uz183 => ?_)
              refine X_iadd hK kd28_48.2.2.2.2.2.2.1 ?_
              refine X_norm (fun z184 ez184 lz184 uz184 => ?_)
              refine X_istore hK (i := 4) [(4, .int (iI z184)), (5, .int (iI z132)), (0, .ref a0), (1, .int (iI x1)), (2, .int (iI x2)), (3, .int (iI x3))] kd28_48.2.2.2.2.2.2.2.1 (by decide) rfl ?_
              refine X_lv [(5, .int (iI z132)), (4, .int (iI z184)), (0, .ref a0), (1, .int (iI x1)), (2, .int (iI x2)), (3, .int (iI x3))] [1, 0, 2, 3, 4, 5] rfl ?_
              exact J175 z184 (by omega) (by omega)
  exact P159 ((216 - 0 : Int).toNat + 1) 0 (by omega) (by omega) 0 (by omega) (by omega) (by omega)

set_option maxHeartbeats 4000000 in
set_option maxRecDepth 100000 in
theorem c_X12_countOf (l : Launch) (D : va_G) (kA : Nat → ClassId) (b0 : Nat) (t0 : Nat → Nat) (S : xT) (g : xG) (a0 : Nat) (x1 : Int) (x2 : Int) (x3 : Int) (x4 : Int) (hs_a0 : S a0 = some (13, 0)) (hx1 : (-2147483648) ≤ x1 ∧ x1 ≤ 2147483647) (hx2 : (-2147483648) ≤ x2 ∧ x2 ≤ 2147483647) (hx3 : (-2147483648) ≤ x3 ∧ x3 ≤ 2147483647) (hx4 : (-2147483648) ≤ x4 ∧ x4 ≤ 2147483647) : xMt l yX12_countOf cX12_countOf 7 (some .int) 0 0 0 0 D kA b0 t0 [] [.ref a0, .int (iI x1), .int (iI x2), .int (iI x3), .int (iI x4)] S g (fun (r : Option Value) (S1 : xT) (g1 : xG) => S = S1 ∧ g = g1 ∧ ∃ z : Int, r = some (.int (iI z)) ∧ (-1) ≤ z ∧ z ≤ 59) := by
  refine xEnterI (by decide) (by simp [lg_sl, Value.category]) [(0, .ref a0), (1, .int (iI x1)), (2, .int (iI x2)), (3, .int (iI x3)), (4, .int (iI x4))] rfl ?_
  intro K E hK hret _ _ _
  refine X_iconst hK kd28_52.2.2.2.2.1 ?_
  refine X_istore hK (i := 5) [(5, .int (iI (-1))), (0, .ref a0), (1, .int (iI x1)), (2, .int (iI x2)), (3, .int (iI x3)), (4, .int (iI x4))] kd28_52.2.2.2.2.2.1 (by decide) rfl ?_
  refine X_iconst hK kd28_52.2.2.2.2.2.2.1 ?_
  refine X_istore hK (i := 6) [(6, .int (iI 0)), (5, .int (iI (-1))), (0, .ref a0), (1, .int (iI x1)), (2, .int (iI x2)), (3, .int (iI x3)), (4, .int (iI x4))] kd28_52.2.2.2.2.2.2.2.1 (by decide) rfl ?_
  have P190 : ∀ (nP190 : Nat) (z163 : Int) (_ : 0 ≤ z163) (_ : z163 ≤ 60) (z164 : Int) (_ : (-1) ≤ z164) (_ : z164 ≤ 59) (_ : 76 - z163 < (nP190 : Int)), X K E 6 [(6, .int (iI z163)), (5, .int (iI z164)), (0, .ref a0), (1, .int (iI x1)), (2, .int (iI x2)), (3, .int (iI x3)), (4, .int (iI x4))] [] S g 0 0 := by
    intro nP190
    induction nP190 with
    | zero => intro z163 lz163 uz163 z164 lz164 uz164 mP190; exact False.elim (by omega)
    | succ nP190 ihP190 =>
      intro z163 lz163 uz163 z164 lz164 uz164 mP190
      refine X_iload hK (i := 6) 0 kd28_52.2.2.2.2.2.2.2.2.1 rfl ?_
      refine X_aloadn hK (i := 0) 2 kd28_52.2.2.2.2.2.2.2.2.2.1 rfl rfl ?_
      refine X_geti hK fl_X12_421_13 hs_a0 sl_13_69 kd28_52.2.2.2.2.2.2.2.2.2.2.1 (fun z191 ez191 lz191 uz191 => ?_)
      refine X_icmp_ge hK 70 (by omega) (by omega) kd28_52.2.2.2.2.2.2.2.2.2.2.2 (by decide) (fun c192 => ?_) (fun c192 => ?_)
      · refine X_iload hK (i := 5) 1 kd28_55.2.2.2.2.1 rfl ?_
        exact hret _ _ _ _ _ _ _ kd28_55.2.2.2.2.2.1 ⟨rfl, rfl, z164, rfl, (by omega), (by omega)⟩ (Nat.le_refl _) (Nat.le_refl _)
      · refine X_aloadn hK (i := 0) 2 kd28_53.1 rfl rfl ?_
        refine X_getr hK 18000 60 fl_X12_147_13 hs_a0 sl_13_68 kd28_53.2.1 (fun b193 eb193 hs_b193 => ?_)
        refine X_iload hK (i := 6) 0 kd28_53.2.2.1 rfl ?_
        refine X_iald hK hs_b193 (by decide) sl_18000 (by omega) (by omega) kd28_53.2.2.2.1 (fun z194 ez194 lz194 uz194 => ?_)
        refine X_iload hK (i := 4) 6 kd28_53.2.2.2.2.1 rfl ?_
        have J206 : ∀ (z205 : Int) (lz205 : (-1) ≤ z205) (uz205 : z205 ≤ 59), X K E 64 [(6, .int (iI z163)), (5, .int (iI z205)), (0, .ref a0), (1, .int (iI x1)), (2, .int (iI x2)), (3, .int (iI x3)), (4, .int (iI x4))] [] S g 0 0 := by
          intro z205 lz205 uz205
          refine X_iinc hK (i := 6) (z := z163) (n := 1) 0 [(6, .int (iI (z163 + 1))), (5, .int (iI z205)), (0, .ref a0), (1, .int (iI x1)), (2, .int (iI x2)), (3, .int (iI x3)), (4, .int (iI x4))] kd28_55.2.2.1 rfl (by decide) rfl ?_
          refine X_goto hK 6 kd28_55.2.2.2.1 (by decide) ?_
          exact ihP190  (z163 + 1) (by omega) (by omega) z205 (by omega) (by omega) (by omega)
        refine X_icmp_gt hK 64 (by omega) (by omega) kd28_53.2.2.2.2.2.1 (by decide) (fun c195 => ?_) (fun c195 => ?_)
        · exact J206 z164 (by omega) (by omega)
        · refine X_aloadn hK (i := 0) 2 kd28_53.2.2.2.2.2.2.1 rfl rfl ?_
          refine X_getr hK 17600 60 fl_X12_135_13 hs_a0 sl_13_64 kd28_53.2.2.2.2.2.2.2.1 (fun b207 eb207 hs_b207 => ?_)
          refine X_iload hK (i := 6) 0 kd28_53.2.2.2.2.2.2.2.2.1 rfl ?_
          refine X_iald hK hs_b207 (by decide) sl_17600 (by omega) (by omega) kd28_53.2.2.2.2.2.2.2.2.2.1 (fun z208 ez208 lz208 uz208 => ?_)
          refine X_iloadn hK (i := 1) 3 kd28_53.2.2.2.2.2.2.2.2.2.2.1 rfl rfl ?_
          refine X_icmp_ne hK 64 (by omega) (by omega) kd28_53.2.2.2.2.2.2.2.2.2.2.2 (by decide) (fun c209 => ?_) (fun c209 => ?_)
          · exact J206 z164 (by omega) (by omega)
          · refine X_aloadn hK (i := 0) 2 kd28_54.1 rfl rfl ?_
            refine X_getr hK 17700 60 fl_X12_138_13 hs_a0 sl_13_65 kd28_54.2.1 (fun b210 eb210 hs_b210 => ?_)
            refine X_iload hK (i := 6) 0 kd28_54.2.2.1 rfl ?_
            refine X_iald hK hs_b210 (by decide) sl_17700 (by omega) (by omega) kd28_54.2.2.2.1 (fun z211 ez211 lz211 uz211 => ?_)
            refine X_iloadn hK (i := 2) 4 kd28_54.2.2.2.2.1 rfl rfl ?_
            refine X_icmp_ne hK 64 (by omega) (by omega) kd28_54.2.2.2.2.2.1 (by decide) (fun c212 => ?_) (fun c212 => ?_)
            · exact J206 z164 (by omega) (by omega)
            · refine X_aloadn hK (i := 0) 2 kd28_54.2.2.2.2.2.2.1 rfl rfl ?_
              refine X_getr hK 17800 60 fl_X12_141_13 hs_a0 sl_13_66 kd28_54.2.2.2.2.2.2.2.1 (fun b213 eb213 hs_b213 => ?_)
              refine X_iload hK (i := 6) 0 kd28_54.2.2.2.2.2.2.2.2.1 rfl ?_
              refine X_iald hK hs_b213 (by decide) sl_17800 (by omega) (by omega) kd28_54.2.2.2.2.2.2.2.2.2.1 (fun z214 ez214 lz214 uz214 => ?_)
              refine X_iloadn hK (i := 3) 5 kd28_54.2.2.2.2.2.2.2.2.2.2.1 rfl rfl ?_
              refine X_icmp_ne hK 64 (by omega) (by omega) kd28_54.2.2.2.2.2.2.2.2.2.2.2 (by decide) (fun c215 => ?_) (fun c215 => ?_)
              · exact J206 z164 (by omega) (by omega)
              · refine X_iload hK (i := 6) 0 kd28_55.1 rfl ?_
                refine X_istore hK (i := 5) [(5, .int (iI z163)), (6, .int (iI z163)), (0, .ref a0), (1, .int (iI x1)), (2, .int (iI x2)), (3, .int (iI x3)), (4, .int (iI x4))] kd28_55.2.1 (by decide) rfl ?_
                refine X_lv [(6, .int (iI z163)), (5, .int (iI z163)), (0, .ref a0), (1, .int (iI x1)), (2, .int (iI x2)), (3, .int (iI x3)), (4, .int (iI x4))] [1, 0, 2, 3, 4, 5, 6] rfl ?_
                exact J206 z163 (by omega) (by omega)
  exact P190 ((76 - 0 : Int).toNat + 1) 0 (by omega) (by omega) (-1) (by omega) (by omega) (by omega)

set_option maxHeartbeats 4000000 in
set_option maxRecDepth 100000 in
theorem c_X12_falseCounts (l : Launch) (D : va_G) (kA : Nat → ClassId) (b0 : Nat) (t0 : Nat → Nat) (S : xT) (g : xG) (a0 : Nat) (x1 : Int) (hs_a0 : S a0 = some (13, 0)) (hx1 : (-2147483648) ≤ x1 ∧ x1 ≤ 2147483647) : xMt l yX12_falseCounts cX12_falseCounts 7 (some .int) 1 0 0 26 D kA b0 t0 [(13, 0)] [.ref a0, .int (iI x1)] S g (fun (r : Option Value) (S1 : xT) (g1 : xG) => S = S1 ∧ ∃ z : Int, r = some (.int (iI z)) ∧ (-2147483648) ≤ z ∧ z ≤ 2147483647) := by
  refine xEnterI (by decide) (by simp [lg_sl, Value.category]) [(0, .ref a0), (1, .int (iI x1))] rfl ?_
  intro K E hK hret _ _ _
  refine X_aloadn hK (i := 0) 0 kd28_61.2.2.2.2.2.2.2.2.2.2.1 rfl rfl ?_
  refine X_iconst hK kd28_61.2.2.2.2.2.2.2.2.2.2.2 ?_
  refine X_puti hK fl_X12_198_13 hs_a0 (by decide) sl_13_0 (by omega) (by omega) kd28_62.1 (fun g1 hg1 => ?_)
  refine X_iconst hK kd28_62.2.1 ?_
  refine X_istoren hK (i := 2) [(2, .int (iI 0)), (0, .ref a0), (1, .int (iI x1))] kd28_62.2.2.1 rfl (by decide) rfl ?_
  refine X_iconst hK kd28_62.2.2.2.1 ?_
  refine X_istoren hK (i := 3) [(3, .int (iI 0)), (2, .int (iI 0)), (0, .ref a0), (1, .int (iI x1))] kd28_62.2.2.2.2.1 rfl (by decide) rfl ?_
  have P758 : ∀ (nP758 : Nat) (z725 : Int) (_ : 0 ≤ z725) (_ : z725 ≤ 60) (z726 : Int) (_ : (-2147483648) ≤ z726) (_ : z726 ≤ 2147483647) (_ : 76 - z725 < (nP758 : Int)), X K E 9 [(3, .int (iI z725)), (2, .int (iI z726)), (0, .ref a0), (1, .int (iI x1))] [] S g1 0 0 := by
    intro nP758
    induction nP758 with
    | zero => intro z725 lz725 uz725 z726 lz726 uz726 mP758; exact False.elim (by omega)
    | succ nP758 ihP758 =>
      intro z725 lz725 uz725 z726 lz726 uz726 mP758
      refine X_iloadn hK (i := 3) 0 kd28_62.2.2.2.2.2.1 rfl rfl ?_
      refine X_aloadn hK (i := 0) 2 kd28_62.2.2.2.2.2.2.1 rfl rfl ?_
      refine X_geti hK fl_X12_421_13 hs_a0 sl_13_69 kd28_62.2.2.2.2.2.2.2.1 (fun z759 ez759 lz759 uz759 => ?_)
      refine X_icmp_ge hK 84 (by omega) (by omega) kd28_62.2.2.2.2.2.2.2.2.1 (by decide) (fun c760 => ?_) (fun c760 => ?_)
      · refine X_iloadn hK (i := 2) 1 kd28_65.2.2.2.2.2.2.2.2.2.1 rfl rfl ?_
        exact hret _ _ _ _ _ _ _ kd28_65.2.2.2.2.2.2.2.2.2.2.1 ⟨rfl, z726, rfl, (by omega), (by omega)⟩ (Nat.le_refl _) (Nat.le_refl _)
      · refine X_aloadn hK (i := 0) 2 kd28_62.2.2.2.2.2.2.2.2.2.1 rfl rfl ?_
        refine X_getr hK 17600 60 fl_X12_135_13 hs_a0 sl_13_64 kd28_62.2.2.2.2.2.2.2.2.2.2.1 (fun b761 eb761 hs_b761 => ?_)
        refine X_iloadn hK (i := 3) 0 kd28_62.2.2.2.2.2.2.2.2.2.2.2 rfl rfl ?_
        refine X_iald hK hs_b761 (by decide) sl_17600 (by omega) (by omega) kd28_63.1 (fun z762 ez762 lz762 uz762 => ?_)
        refine X_istore hK (i := 4) [(4, .int (iI z762)), (3, .int (iI z725)), (2, .int (iI z726)), (0, .ref a0), (1, .int (iI x1))] kd28_63.2.1 (by decide) rfl ?_
        refine X_aloadn hK (i := 0) 3 kd28_63.2.2.1 rfl rfl ?_
        refine X_getr hK 17700 60 fl_X12_138_13 hs_a0 sl_13_65 kd28_63.2.2.2.1 (fun b763 eb763 hs_b763 => ?_)
        refine X_iloadn hK (i := 3) 1 kd28_63.2.2.2.2.1 rfl rfl ?_
        refine X_iald hK hs_b763 (by decide) sl_17700 (by omega) (by omega) kd28_63.2.2.2.2.2.1 (fun z764 ez764 lz764 uz764 => ?_)
        refine X_istore hK (i := 5) [(5, .int (iI z764)), (4, .int (iI z762)), (3, .int (iI z725)), (2, .int (iI z726)), (0, .ref a0), (1, .int (iI x1))] kd28_63.2.2.2.2.2.2.1 (by decide) rfl ?_
        refine X_aloadn hK (i := 0) 4 kd28_63.2.2.2.2.2.2.2.1 rfl rfl ?_
        refine X_getr hK 17800 60 fl_X12_141_13 hs_a0 sl_13_66 kd28_63.2.2.2.2.2.2.2.2.1 (fun b765 eb765 hs_b765 => ?_)
        refine X_iloadn hK (i := 3) 2 kd28_63.2.2.2.2.2.2.2.2.2.1 rfl rfl ?_
        refine X_iald hK hs_b765 (by decide) sl_17800 (by omega) (by omega) kd28_63.2.2.2.2.2.2.2.2.2.2.1 (fun z766 ez766 lz766 uz766 => ?_)
        refine X_istore hK (i := 6) [(6, .int (iI z766)), (5, .int (iI z764)), (4, .int (iI z762)), (3, .int (iI z725)), (2, .int (iI z726)), (0, .ref a0), (1, .int (iI x1))] kd28_63.2.2.2.2.2.2.2.2.2.2.2 (by decide) rfl ?_
        refine X_aloadn hK (i := 0) 5 kd28_64.1 rfl rfl ?_
        refine X_iload hK (i := 4) 2 kd28_64.2.1 rfl ?_
        refine X_iload hK (i := 5) 1 kd28_64.2.2.1 rfl ?_
        refine X_iload hK (i := 6) 0 kd28_64.2.2.2.1 rfl ?_
        refine X_iloadn hK (i := 1) 6 kd28_64.2.2.2.2.1 rfl rfl ?_
        refine X_callV hK [.int (iI z762), .int (iI z764), .int (iI z766), .int (iI x1)] [] lk_X12_424 (c_X12_countOf _ _ _ _ _ S g1 a0 z762 z764 z766 x1 hs_a0 (by omega) (by omega) (by omega) (by omega)) hs_a0 ⟨by decide, rfl⟩ kd28_64.2.2.2.2.2.1 rfl rfl (by simp [Value.category]) (by decide) (by decide) (by decide) (by decide) (fun r767 S769 g768 pr767 qr767 hg768 => ?_)
        obtain ⟨rfl, rfl, z770, rfl, lz770, uz770⟩ := pr767
        refine X_st [.int (iI z770)] rfl ?_
        refine X_iloadn hK (i := 3) 3 kd28_64.2.2.2.2.2.2.1 rfl rfl ?_
        have J781 : ∀ (z780 : Int) (lz780 : (-2147483648) ≤ z780) (uz780 : z780 ≤ 2147483647), X K E 78 [(6, .int (iI z766)), (5, .int (iI z764)), (4, .int (iI z762)), (3, .int (iI z725)), (2, .int (iI z780)), (0, .ref a0), (1, .int (iI x1))] [] S g1 0 0 := by
          intro z780 lz780 uz780
          refine X_iinc hK (i := 3) (z := z725) (n := 1) 3 [(3, .int (iI (z725 + 1))), (6, .int (iI z766)), (5, .int (iI z764)), (4, .int (iI z762)), (2, .int (iI z780)), (0, .ref a0), (1, .int (iI x1))] kd28_65.2.2.2.2.2.2.2.1 rfl (by decide) rfl ?_
          refine X_goto hK 9 kd28_65.2.2.2.2.2.2.2.2.1 (by decide) ?_
          refine X_lv [(3, .int (iI (z725 + 1))), (2, .int (iI z780)), (0, .ref a0), (1, .int (iI x1))] [0, 4, 5, 6] rfl ?_
          exact ihP758  (z725 + 1) (by omega) (by omega) z780 (by omega) (by omega) (by omega)
        refine X_icmp_ne hK 78 (by omega) (by omega) kd28_64.2.2.2.2.2.2.2.1 (by decide) (fun c771 => ?_) (fun c771 => ?_)
        · exact J781 z726 (by omega) (by omega)
        · refine X_aloadn hK (i := 0) 5 kd28_64.2.2.2.2.2.2.2.2.1 rfl rfl ?_
          refine X_getr hK 17900 60 fl_X12_144_13 hs_a0 sl_13_67 kd28_64.2.2.2.2.2.2.2.2.2.1 (fun b782 eb782 hs_b782 => ?_)
          refine X_iloadn hK (i := 3) 3 kd28_64.2.2.2.2.2.2.2.2.2.2.1 rfl rfl ?_
          refine X_iald hK hs_b782 (by decide) sl_17900 (by omega) (by omega) kd28_64.2.2.2.2.2.2.2.2.2.2.2 (fun z783 ez783 lz783 uz783 => ?_)
          refine X_aloadn hK (i := 0) 5 kd28_65.1 rfl rfl ?_
          refine X_iload hK (i := 4) 2 kd28_65.2.1 rfl ?_
          refine X_iload hK (i := 5) 1 kd28_65.2.2.1 rfl ?_
          refine X_iload hK (i := 6) 0 kd28_65.2.2.2.1 rfl ?_
          refine X_callV hK [.int (iI z762), .int (iI z764), .int (iI z766)] [.int (iI z783)] lk_X12_427 (c_X12_cameBack _ _ _ _ _ S g1 a0 z762 z764 z766 hs_a0 (by omega) (by omega) (by omega)) hs_a0 ⟨by decide, rfl⟩ kd28_65.2.2.2.2.1 rfl rfl (by simp [Value.category]) (by decide) (by decide) (by decide) (by decide) (fun r784 S786 g785 pr784 qr784 hg785 => ?_)
          obtain ⟨rfl, rfl, z787, rfl, lz787, uz787⟩ := pr784
          refine X_st [.int (iI z787), .int (iI z783)] rfl ?_
          refine X_icmp_le hK 78 (by omega) (by omega) kd28_65.2.2.2.2.2.1 (by decide) (fun c788 => ?_) (fun c788 => ?_)
          · exact J781 z726 (by omega) (by omega)
          · refine X_iinc hK (i := 2) (z := z726) (n := 1) 4 [(2, .int (iI (z726 + 1))), (6, .int (iI z766)), (5, .int (iI z764)), (4, .int (iI z762)), (3, .int (iI z725)), (0, .ref a0), (1, .int (iI x1))] kd28_65.2.2.2.2.2.2.1 rfl (by decide) rfl ?_
            refine X_ln (a := (z726 + 1)) (fun w9 => (2, .int w9) :: [(6, .int (iI z766)), (5, .int (iI z764)), (4, .int (iI z762)), (3, .int (iI z725)), (0, .ref a0), (1, .int (iI x1))]) rfl (fun z789 lz789 uz789 => ?_)
            refine X_lq [(2, .int (iI z789)), (6, .int (iI z766)), (5, .int (iI z764)), (4, .int (iI z762)), (3, .int (iI z725)), (0, .ref a0), (1, .int (iI x1))] rfl ?_
            refine X_lv [(6, .int (iI z766)), (5, .int (iI z764)), (4, .int (iI z762)), (3, .int (iI z725)), (2, .int (iI z789)), (0, .ref a0), (1, .int (iI x1))] [1, 2, 3, 4, 0, 5, 6] rfl ?_
            exact J781 z789 (by omega) (by omega)
  exact P758 ((76 - 0 : Int).toNat + 1) 0 (by omega) (by omega) 0 (by omega) (by omega) (by omega)

set_option maxHeartbeats 4000000 in
set_option maxRecDepth 100000 in
theorem c_X12_isFirst (l : Launch) (D : va_G) (kA : Nat → ClassId) (b0 : Nat) (t0 : Nat → Nat) (S : xT) (g : xG) (a0 : Nat) (x1 : Int) (hs_a0 : S a0 = some (13, 0)) (hx1 : 0 ≤ x1 ∧ x1 ≤ 199) : xMt l yX12_isFirst cX12_isFirst 3 (some .boolean) 0 0 0 0 D kA b0 t0 [] [.ref a0, .int (iI x1)] S g (fun (r : Option Value) (S1 : xT) (g1 : xG) => S = S1 ∧ g = g1 ∧ ∃ z : Int, r = some (.int (iI z)) ∧ 0 ≤ z ∧ z ≤ 1) := by
  refine xEnterZ (by decide) (by simp [lg_sl, Value.category]) [(0, .ref a0), (1, .int (iI x1))] rfl ?_
  intro K E hK hret _ _ _
  refine X_iconst hK kd28_98.2.2.2.2.2.2.1 ?_
  refine X_istoren hK (i := 2) [(2, .int (iI 0)), (0, .ref a0), (1, .int (iI x1))] kd28_98.2.2.2.2.2.2.2.1 rfl (by decide) rfl ?_
  have P85 : ∀ (nP85 : Nat) (z71 : Int) (_ : 0 ≤ z71) (_ : z71 ≤ 199) (_ : 215 - z71 < (nP85 : Int)), X K E 2 [(2, .int (iI z71)), (0, .ref a0), (1, .int (iI x1))] [] S g 0 0 := by
    intro nP85
    induction nP85 with
    | zero => intro z71 lz71 uz71 mP85; exact False.elim (by omega)
    | succ nP85 ihP85 =>
      intro z71 lz71 uz71 mP85
      refine X_iloadn hK (i := 2) 0 kd28_98.2.2.2.2.2.2.2.2.1 rfl rfl ?_
      refine X_iloadn hK (i := 1) 2 kd28_98.2.2.2.2.2.2.2.2.2.1 rfl rfl ?_
      refine X_icmp_ge hK 60 (by omega) (by omega) kd28_98.2.2.2.2.2.2.2.2.2.2.1 (by decide) (fun c86 => ?_) (fun c86 => ?_)
      · refine X_iconst hK kd28_101.2.2.2.2.2.2.1 ?_
        exact hret _ _ _ _ _ _ _ kd28_101.2.2.2.2.2.2.2.1 (by omega) (by omega) ⟨rfl, rfl, 1, rfl, (by omega), (by omega)⟩ (Nat.le_refl _) (Nat.le_refl _)
      · refine X_aloadn hK (i := 0) 1 kd28_98.2.2.2.2.2.2.2.2.2.2.2 rfl rfl ?_
        refine X_getr hK 16900 200 fl_X12_105_13 hs_a0 sl_13_53 kd28_99.1 (fun b87 eb87 hs_b87 => ?_)
        refine X_iloadn hK (i := 2) 0 kd28_99.2.1 rfl rfl ?_
        refine X_iald hK hs_b87 (by decide) sl_16900 (by omega) (by omega) kd28_99.2.2.1 (fun z88 ez88 lz88 uz88 => ?_)
        refine X_aloadn hK (i := 0) 1 kd28_99.2.2.2.1 rfl rfl ?_
        refine X_getK hK fl_X12_105_13 hs_a0 eb87 kd28_99.2.2.2.2.1 ?_
        refine X_iloadn hK (i := 1) 2 kd28_99.2.2.2.2.2.1 rfl rfl ?_
        refine X_iald hK hs_b87 (by decide) sl_16900 (by omega) (by omega) kd28_99.2.2.2.2.2.2.1 (fun z89 ez89 lz89 uz89 => ?_)
        refine X_icmp_ne hK 54 (by omega) (by omega) kd28_99.2.2.2.2.2.2.2.1 (by decide) (fun c90 => ?_) (fun c90 => ?_)
        · refine X_iinc hK (i := 2) (z := z71) (n := 1) 0 [(2, .int (iI (z71 + 1))), (0, .ref a0), (1, .int (iI x1))] kd28_101.2.2.2.2.1 rfl (by decide) rfl ?_
          refine X_goto hK 2 kd28_101.2.2.2.2.2.1 (by decide) ?_
          exact ihP85  (z71 + 1) (by omega) (by omega) (by omega)
        · refine X_aloadn hK (i := 0) 1 kd28_99.2.2.2.2.2.2.2.2.1 rfl rfl ?_
          refine X_getr hK 16500 200 fl_X12_93_13 hs_a0 sl_13_49 kd28_99.2.2.2.2.2.2.2.2.2.1 (fun b91 eb91 hs_b91 => ?_)
          refine X_iloadn hK (i := 2) 0 kd28_99.2.2.2.2.2.2.2.2.2.2.1 rfl rfl ?_
          refine X_iald hK hs_b91 (by decide) sl_16500 (by omega) (by omega) kd28_99.2.2.2.2.2.2.2.2.2.2.2 (fun z92 ez92 lz92 uz92 => ?_)
          refine X_aloadn hK (i := 0) 1 kd28_100.1 rfl rfl ?_
          refine X_getK hK fl_X12_93_13 hs_a0 eb91 kd28_100.2.1 ?_
          refine X_iloadn hK (i := 1) 2 kd28_100.2.2.1 rfl rfl ?_
          refine X_iald hK hs_b91 (by decide) sl_16500 (by omega) (by omega) kd28_100.2.2.2.1 (fun z93 ez93 lz93 uz93 => ?_)
          refine X_icmp_ne hK 54 (by omega) (by omega) kd28_100.2.2.2.2.1 (by decide) (fun c94 => ?_) (fun c94 => ?_)
          · refine X_iinc hK (i := 2) (z := z71) (n := 1) 0 [(2, .int (iI (z71 + 1))), (0, .ref a0), (1, .int (iI x1))] kd28_101.2.2.2.2.1 rfl (by decide) rfl ?_
            refine X_goto hK 2 kd28_101.2.2.2.2.2.1 (by decide) ?_
            exact ihP85  (z71 + 1) (by omega) (by omega) (by omega)
          · refine X_aloadn hK (i := 0) 1 kd28_100.2.2.2.2.2.1 rfl rfl ?_
            refine X_getr hK 16600 200 fl_X12_96_13 hs_a0 sl_13_50 kd28_100.2.2.2.2.2.2.1 (fun b95 eb95 hs_b95 => ?_)
            refine X_iloadn hK (i := 2) 0 kd28_100.2.2.2.2.2.2.2.1 rfl rfl ?_
            refine X_iald hK hs_b95 (by decide) sl_16600 (by omega) (by omega) kd28_100.2.2.2.2.2.2.2.2.1 (fun z96 ez96 lz96 uz96 => ?_)
            refine X_aloadn hK (i := 0) 1 kd28_100.2.2.2.2.2.2.2.2.2.1 rfl rfl ?_
            refine X_getK hK fl_X12_96_13 hs_a0 eb95 kd28_100.2.2.2.2.2.2.2.2.2.2.1 ?_
            refine X_iloadn hK (i := 1) 2 kd28_100.2.2.2.2.2.2.2.2.2.2.2 rfl rfl ?_
            refine X_iald hK hs_b95 (by decide) sl_16600 (by omega) (by omega) kd28_101.1 (fun z97 ez97 lz97 uz97 => ?_)
            refine X_icmp_ne hK 54 (by omega) (by omega) kd28_101.2.1 (by decide) (fun c98 => ?_) (fun c98 => ?_)
            · refine X_iinc hK (i := 2) (z := z71) (n := 1) 0 [(2, .int (iI (z71 + 1))), (0, .ref a0), (1, .int (iI x1))] kd28_101.2.2.2.2.1 rfl (by decide) rfl ?_
              refine X_goto hK 2 kd28_101.2.2.2.2.2.1 (by decide) ?_
              exact ihP85  (z71 + 1) (by omega) (by omega) (by omega)
            · refine X_iconst hK kd28_101.2.2.1 ?_
              exact hret _ _ _ _ _ _ _ kd28_101.2.2.2.1 (by omega) (by omega) ⟨rfl, rfl, 0, rfl, (by omega), (by omega)⟩ (Nat.le_refl _) (Nat.le_refl _)
  exact P85 ((215 - 0 : Int).toNat + 1) 0 (by omega) (by omega) (by omega)

set_option maxHeartbeats 4000000 in
set_option maxRecDepth 100000 in
theorem c_X12_shortOf (l : Launch) (D : va_G) (kA : Nat → ClassId) (b0 : Nat) (t0 : Nat → Nat) (S : xT) (g : xG) (a0 : Nat) (x1 : Int) (hs_a0 : S a0 = some (13, 0)) (hx1 : (-2147483648) ≤ x1 ∧ x1 ≤ 2147483647) : xMt l yX12_shortOf cX12_shortOf 9 (some .int) 1 0 0 26 D kA b0 t0 [(13, 0)] [.ref a0, .int (iI x1)] S g (fun (r : Option Value) (S1 : xT) (g1 : xG) => S = S1 ∧ ∃ z : Int, r = some (.int (iI z)) ∧ (-2147483648) ≤ z ∧ z ≤ 2147483647) := by
  refine xEnterI (by decide) (by simp [lg_sl, Value.category]) [(0, .ref a0), (1, .int (iI x1))] rfl ?_
  intro K E hK hret _ _ _
  refine X_aloadn hK (i := 0) 0 kd28_117.2.2.2.2.1 rfl rfl ?_
  refine X_iconst hK kd28_117.2.2.2.2.2.1 ?_
  refine X_puti hK fl_X12_198_13 hs_a0 (by decide) sl_13_0 (by omega) (by omega) kd28_117.2.2.2.2.2.2.1 (fun g1 hg1 => ?_)
  refine X_iconst hK kd28_117.2.2.2.2.2.2.2.1 ?_
  refine X_istoren hK (i := 2) [(2, .int (iI 0)), (0, .ref a0), (1, .int (iI x1))] kd28_117.2.2.2.2.2.2.2.2.1 rfl (by decide) rfl ?_
  refine X_iconst hK kd28_117.2.2.2.2.2.2.2.2.2.1 ?_
  refine X_istoren hK (i := 3) [(3, .int (iI 0)), (2, .int (iI 0)), (0, .ref a0), (1, .int (iI x1))] kd28_117.2.2.2.2.2.2.2.2.2.2.1 rfl (by decide) rfl ?_
  have P494 : ∀ (nP494 : Nat) (z432 : Int) (_ : 0 ≤ z432) (_ : z432 ≤ 200) (z433 : Int) (_ : (-2147483648) ≤ z433) (_ : z433 ≤ 2147483647) (_ : 216 - z432 < (nP494 : Int)), X K E 9 [(3, .int (iI z432)), (2, .int (iI z433)), (0, .ref a0), (1, .int (iI x1))] [] S g1 0 0 := by
    intro nP494
    induction nP494 with
    | zero => intro z432 lz432 uz432 z433 lz433 uz433 mP494; exact False.elim (by omega)
    | succ nP494 ihP494 =>
      intro z432 lz432 uz432 z433 lz433 uz433 mP494
      refine X_iloadn hK (i := 3) 0 kd28_117.2.2.2.2.2.2.2.2.2.2.2 rfl rfl ?_
      refine X_aloadn hK (i := 0) 2 kd28_118.1 rfl rfl ?_
      refine X_geti hK fl_X12_389_13 hs_a0 sl_13_58 kd28_118.2.1 (fun z495 ez495 lz495 uz495 => ?_)
      refine X_icmp_ge hK 126 (by omega) (by omega) kd28_118.2.2.1 (by decide) (fun c496 => ?_) (fun c496 => ?_)
      · refine X_iloadn hK (i := 2) 1 kd28_123.2.1 rfl rfl ?_
        exact hret _ _ _ _ _ _ _ kd28_123.2.2.1 ⟨rfl, z433, rfl, (by omega), (by omega)⟩ (Nat.le_refl _) (Nat.le_refl _)
      · refine X_aloadn hK (i := 0) 2 kd28_118.2.2.2.1 rfl rfl ?_
        refine X_getr hK 16500 200 fl_X12_93_13 hs_a0 sl_13_49 kd28_118.2.2.2.2.1 (fun b497 eb497 hs_b497 => ?_)
        refine X_iloadn hK (i := 3) 0 kd28_118.2.2.2.2.2.1 rfl rfl ?_
        refine X_iald hK hs_b497 (by decide) sl_16500 (by omega) (by omega) kd28_118.2.2.2.2.2.2.1 (fun z498 ez498 lz498 uz498 => ?_)
        refine X_istore hK (i := 4) [(4, .int (iI z498)), (3, .int (iI z432)), (2, .int (iI z433)), (0, .ref a0), (1, .int (iI x1))] kd28_118.2.2.2.2.2.2.2.1 (by decide) rfl ?_
        refine X_aloadn hK (i := 0) 3 kd28_118.2.2.2.2.2.2.2.2.1 rfl rfl ?_
        refine X_getr hK 16600 200 fl_X12_96_13 hs_a0 sl_13_50 kd28_118.2.2.2.2.2.2.2.2.2.1 (fun b499 eb499 hs_b499 => ?_)
        refine X_iloadn hK (i := 3) 1 kd28_118.2.2.2.2.2.2.2.2.2.2.1 rfl rfl ?_
        refine X_iald hK hs_b499 (by decide) sl_16600 (by omega) (by omega) kd28_118.2.2.2.2.2.2.2.2.2.2.2 (fun z500 ez500 lz500 uz500 => ?_)
        refine X_istore hK (i := 5) [(5, .int (iI z500)), (4, .int (iI z498)), (3, .int (iI z432)), (2, .int (iI z433)), (0, .ref a0), (1, .int (iI x1))] kd28_119.1 (by decide) rfl ?_
        refine X_aloadn hK (i := 0) 4 kd28_119.2.1 rfl rfl ?_
        refine X_getr hK 16900 200 fl_X12_105_13 hs_a0 sl_13_53 kd28_119.2.2.1 (fun b501 eb501 hs_b501 => ?_)
        refine X_iloadn hK (i := 3) 2 kd28_119.2.2.2.1 rfl rfl ?_
        refine X_iald hK hs_b501 (by decide) sl_16900 (by omega) (by omega) kd28_119.2.2.2.2.1 (fun z502 ez502 lz502 uz502 => ?_)
        refine X_istore hK (i := 6) [(6, .int (iI z502)), (5, .int (iI z500)), (4, .int (iI z498)), (3, .int (iI z432)), (2, .int (iI z433)), (0, .ref a0), (1, .int (iI x1))] kd28_119.2.2.2.2.2.1 (by decide) rfl ?_
        refine X_iload hK (i := 6) 0 kd28_119.2.2.2.2.2.2.1 rfl ?_
        refine X_aloadn hK (i := 0) 5 kd28_119.2.2.2.2.2.2.2.1 rfl rfl ?_
        refine X_geti hK fl_X12_239_13 hs_a0 sl_13_3 kd28_119.2.2.2.2.2.2.2.2.1 (fun z503 ez503 lz503 uz503 => ?_)
        have J530 : ∀ (z529 : Int) (lz529 : (-2147483648) ≤ z529) (uz529 : z529 ≤ 2147483647), X K E 120 [(6, .int (iI z502)), (5, .int (iI z500)), (4, .int (iI z498)), (3, .int (iI z432)), (2, .int (iI z529)), (0, .ref a0), (1, .int (iI x1))] [] S g1 0 0 := by
          intro z529 lz529 uz529
          refine X_iinc hK (i := 3) (z := z432) (n := 1) 3 [(3, .int (iI (z432 + 1))), (6, .int (iI z502)), (5, .int (iI z500)), (4, .int (iI z498)), (2, .int (iI z529)), (0, .ref a0), (1, .int (iI x1))] kd28_122.2.2.2.2.2.2.2.2.2.2.2 rfl (by decide) rfl ?_
          refine X_goto hK 9 kd28_123.1 (by decide) ?_
          refine X_lv [(3, .int (iI (z432 + 1))), (2, .int (iI z529)), (0, .ref a0), (1, .int (iI x1))] [0, 4, 5, 6] rfl ?_
          exact ihP494  (z432 + 1) (by omega) (by omega) z529 (by omega) (by omega) (by omega)
        refine X_icmp_ge hK 120 (by omega) (by omega) kd28_119.2.2.2.2.2.2.2.2.2.1 (by decide) (fun c504 => ?_) (fun c504 => ?_)
        · exact J530 z433 (by omega) (by omega)
        · refine X_iload hK (i := 6) 0 kd28_119.2.2.2.2.2.2.2.2.2.2.1 rfl ?_
          refine X_iloadn hK (i := 1) 6 kd28_119.2.2.2.2.2.2.2.2.2.2.2 rfl rfl ?_
          refine X_icmp_gt hK 120 (by omega) (by omega) kd28_120.1 (by decide) (fun c531 => ?_) (fun c531 => ?_)
          · exact J530 z433 (by omega) (by omega)
          · refine X_aloadn hK (i := 0) 5 kd28_120.2.1 rfl rfl ?_
            refine X_iloadn hK (i := 3) 3 kd28_120.2.2.1 rfl rfl ?_
            refine X_callV hK [.int (iI z432)] [] lk_X12_431 (c_X12_isFirst _ _ _ _ _ S g1 a0 z432 hs_a0 (by omega)) hs_a0 ⟨by decide, rfl⟩ kd28_120.2.2.2.1 rfl rfl (by simp [Value.category]) (by decide) (by decide) (by decide) (by decide) (fun r532 S534 g533 pr532 qr532 hg533 => ?_)
            obtain ⟨rfl, rfl, z535, rfl, lz535, uz535⟩ := pr532
            refine X_st [.int (iI z535)] rfl ?_
            refine X_if_ne hK 67 (by omega) kd28_120.2.2.2.2.1 (by decide) (fun c536 => ?_) (fun c536 => ?_)
            · refine X_aloadn hK (i := 0) 5 kd28_120.2.2.2.2.2.2.1 rfl rfl ?_
              refine X_iload hK (i := 4) 2 kd28_120.2.2.2.2.2.2.2.1 rfl ?_
              refine X_iload hK (i := 5) 1 kd28_120.2.2.2.2.2.2.2.2.1 rfl ?_
              refine X_iload hK (i := 6) 0 kd28_120.2.2.2.2.2.2.2.2.2.1 rfl ?_
              refine X_iloadn hK (i := 1) 6 kd28_120.2.2.2.2.2.2.2.2.2.2.1 rfl rfl ?_
              refine X_callV hK [.int (iI z498), .int (iI z500), .int (iI z502), .int (iI x1)] [] lk_X12_424 (c_X12_countOf _ _ _ _ _ S g1 a0 z498 z500 z502 x1 hs_a0 (by omega) (by omega) (by omega) (by omega)) hs_a0 ⟨by decide, rfl⟩ kd28_120.2.2.2.2.2.2.2.2.2.2.2 rfl rfl (by simp [Value.category]) (by decide) (by decide) (by decide) (by decide) (fun r537 S539 g538 pr537 qr537 hg538 => ?_)
              obtain ⟨rfl, rfl, z540, rfl, lz540, uz540⟩ := pr537
              refine X_st [.int (iI z540)] rfl ?_
              refine X_istore hK (i := 7) [(7, .int (iI z540)), (6, .int (iI z502)), (5, .int (iI z500)), (4, .int (iI z498)), (3, .int (iI z432)), (2, .int (iI z433)), (0, .ref a0), (1, .int (iI x1))] kd28_121.1 (by decide) rfl ?_
              refine X_aloadn hK (i := 0) 6 kd28_121.2.1 rfl rfl ?_
              refine X_iload hK (i := 4) 3 kd28_121.2.2.1 rfl ?_
              refine X_iload hK (i := 5) 2 kd28_121.2.2.2.1 rfl ?_
              refine X_iload hK (i := 6) 1 kd28_121.2.2.2.2.1 rfl ?_
              refine X_callV hK [.int (iI z498), .int (iI z500), .int (iI z502)] [] lk_X12_427 (c_X12_cameBack _ _ _ _ _ S g1 a0 z498 z500 z502 hs_a0 (by omega) (by omega) (by omega)) hs_a0 ⟨by decide, rfl⟩ kd28_121.2.2.2.2.2.1 rfl rfl (by simp [Value.category]) (by decide) (by decide) (by decide) (by decide) (fun r541 S543 g542 pr541 qr541 hg542 => ?_)
              obtain ⟨rfl, rfl, z544, rfl, lz544, uz544⟩ := pr541
              refine X_st [.int (iI z544)] rfl ?_
              refine X_iload hK (i := 7) 0 kd28_121.2.2.2.2.2.2.1 rfl ?_
              refine X_iconst hK kd28_121.2.2.2.2.2.2.2.1 ?_
              have J549 : ∀ (z548 : Int) (lz548 : (-2147483648) ≤ z548) (uz548 : z548 ≤ 2147483647), X K E 107 [(7, .int (iI z540)), (6, .int (iI z502)), (5, .int (iI z500)), (4, .int (iI z498)), (3, .int (iI z432)), (2, .int (iI z433)), (0, .ref a0), (1, .int (iI x1))] [.int (iI z548), .int (iI z544)] S g1 0 0 := by
                intro z548 lz548 uz548
                refine X_isub hK kd28_122.2.2.2.1 ?_
                refine X_norm (fun z550 ez550 lz550 uz550 => ?_)
                refine X_istore hK (i := 8) [(8, .int (iI z550)), (7, .int (iI z540)), (6, .int (iI z502)), (5, .int (iI z500)), (4, .int (iI z498)), (3, .int (iI z432)), (2, .int (iI z433)), (0, .ref a0), (1, .int (iI x1))] kd28_122.2.2.2.2.1 (by decide) rfl ?_
                refine X_iload hK (i := 8) 0 kd28_122.2.2.2.2.2.1 rfl ?_
                refine X_if_le hK 120 (by omega) kd28_122.2.2.2.2.2.2.1 (by decide) (fun c551 => ?_) (fun c551 => ?_)
                · refine X_lv [(6, .int (iI z502)), (5, .int (iI z500)), (4, .int (iI z498)), (3, .int (iI z432)), (2, .int (iI z433)), (0, .ref a0), (1, .int (iI x1))] [2, 3, 4, 5, 6, 7, 8] rfl ?_
                  exact J530 z433 (by omega) (by omega)
                · refine X_iloadn hK (i := 2) 6 kd28_122.2.2.2.2.2.2.2.1 rfl rfl ?_
                  refine X_iload hK (i := 8) 0 kd28_122.2.2.2.2.2.2.2.2.1 rfl ?_
                  refine X_iadd hK kd28_122.2.2.2.2.2.2.2.2.2.1 ?_
                  refine X_norm (fun z552 ez552 lz552 uz552 => ?_)
                  refine X_istoren hK (i := 2) [(2, .int (iI z552)), (8, .int (iI z550)), (7, .int (iI z540)), (6, .int (iI z502)), (5, .int (iI z500)), (4, .int (iI z498)), (3, .int (iI z432)), (0, .ref a0), (1, .int (iI x1))] kd28_122.2.2.2.2.2.2.2.2.2.2.1 rfl (by decide) rfl ?_
                  refine X_lv [(6, .int (iI z502)), (5, .int (iI z500)), (4, .int (iI z498)), (3, .int (iI z432)), (2, .int (iI z552)), (0, .ref a0), (1, .int (iI x1))] [3, 4, 5, 6, 0, 7, 8] rfl ?_
                  exact J530 z552 (by omega) (by omega)
              refine X_icmp_ne hK 100 (by omega) (by omega) kd28_121.2.2.2.2.2.2.2.2.1 (by decide) (fun c545 => ?_) (fun c545 => ?_)
              · refine X_aloadn hK (i := 0) 6 kd28_121.2.2.2.2.2.2.2.2.2.2.2 rfl rfl ?_
                refine X_getr hK 17900 60 fl_X12_144_13 hs_a0 sl_13_67 kd28_122.1 (fun b553 eb553 hs_b553 => ?_)
                refine X_iload hK (i := 7) 0 kd28_122.2.1 rfl ?_
                refine X_iald hK hs_b553 (by decide) sl_17900 (by omega) (by omega) kd28_122.2.2.1 (fun z554 ez554 lz554 uz554 => ?_)
                exact J549 z554 (by omega) (by omega)
              · refine X_iconst hK kd28_121.2.2.2.2.2.2.2.2.2.1 ?_
                refine X_goto hK 107 kd28_121.2.2.2.2.2.2.2.2.2.2.1 (by decide) ?_
                exact J549 0 (by omega) (by omega)
            · refine X_goto hK 120 kd28_120.2.2.2.2.2.1 (by decide) ?_
              exact J530 z433 (by omega) (by omega)
  exact P494 ((216 - 0 : Int).toNat + 1) 0 (by omega) (by omega) 0 (by omega) (by omega) (by omega)

set_option maxHeartbeats 4000000 in
set_option maxRecDepth 100000 in
theorem c_X12_isBought (l : Launch) (D : va_G) (kA : Nat → ClassId) (b0 : Nat) (t0 : Nat → Nat) (S : xT) (g : xG) (a0 : Nat) (x1 : Int) (hs_a0 : S a0 = some (13, 0)) (hx1 : (-2147483648) ≤ x1 ∧ x1 ≤ 2147483647) : xMt l yX12_isBought cX12_isBought 3 (some .boolean) 0 0 0 0 D kA b0 t0 [] [.ref a0, .int (iI x1)] S g (fun (r : Option Value) (S1 : xT) (g1 : xG) => S = S1 ∧ g = g1 ∧ ∃ z : Int, r = some (.int (iI z)) ∧ 0 ≤ z ∧ z ≤ 1) := by
  refine xEnterZ (by decide) (by simp [lg_sl, Value.category]) [(0, .ref a0), (1, .int (iI x1))] rfl ?_
  intro K E hK hret _ _ _
  refine X_iconst hK kd28_96.2.2.1 ?_
  refine X_istoren hK (i := 2) [(2, .int (iI 0)), (0, .ref a0), (1, .int (iI x1))] kd28_96.2.2.2.1 rfl (by decide) rfl ?_
  have P37 : ∀ (nP37 : Nat) (z31 : Int) (_ : 0 ≤ z31) (_ : z31 ≤ 200) (_ : 216 - z31 < (nP37 : Int)), X K E 2 [(2, .int (iI z31)), (0, .ref a0), (1, .int (iI x1))] [] S g 0 0 := by
    intro nP37
    induction nP37 with
    | zero => intro z31 lz31 uz31 mP37; exact False.elim (by omega)
    | succ nP37 ihP37 =>
      intro z31 lz31 uz31 mP37
      refine X_iloadn hK (i := 2) 0 kd28_96.2.2.2.2.1 rfl rfl ?_
      refine X_aloadn hK (i := 0) 1 kd28_96.2.2.2.2.2.1 rfl rfl ?_
      refine X_geti hK fl_X12_389_13 hs_a0 sl_13_58 kd28_96.2.2.2.2.2.2.1 (fun z38 ez38 lz38 uz38 => ?_)
      refine X_icmp_ge hK 28 (by omega) (by omega) kd28_96.2.2.2.2.2.2.2.1 (by decide) (fun c39 => ?_) (fun c39 => ?_)
      · refine X_iconst hK kd28_97.2.2.2.2.2.2.1 ?_
        exact hret _ _ _ _ _ _ _ kd28_97.2.2.2.2.2.2.2.1 (by omega) (by omega) ⟨rfl, rfl, 0, rfl, (by omega), (by omega)⟩ (Nat.le_refl _) (Nat.le_refl _)
      · refine X_aloadn hK (i := 0) 1 kd28_96.2.2.2.2.2.2.2.2.1 rfl rfl ?_
        refine X_getr hK 16900 200 fl_X12_105_13 hs_a0 sl_13_53 kd28_96.2.2.2.2.2.2.2.2.2.1 (fun b40 eb40 hs_b40 => ?_)
        refine X_iloadn hK (i := 2) 0 kd28_96.2.2.2.2.2.2.2.2.2.2.1 rfl rfl ?_
        refine X_iald hK hs_b40 (by decide) sl_16900 (by omega) (by omega) kd28_96.2.2.2.2.2.2.2.2.2.2.2 (fun z41 ez41 lz41 uz41 => ?_)
        refine X_iloadn hK (i := 1) 2 kd28_97.1 rfl rfl ?_
        refine X_icmp_ne hK 22 (by omega) (by omega) kd28_97.2.1 (by decide) (fun c42 => ?_) (fun c42 => ?_)
        · refine X_iinc hK (i := 2) (z := z31) (n := 1) 0 [(2, .int (iI (z31 + 1))), (0, .ref a0), (1, .int (iI x1))] kd28_97.2.2.2.2.1 rfl (by decide) rfl ?_
          refine X_goto hK 2 kd28_97.2.2.2.2.2.1 (by decide) ?_
          exact ihP37  (z31 + 1) (by omega) (by omega) (by omega)
        · refine X_iconst hK kd28_97.2.2.1 ?_
          exact hret _ _ _ _ _ _ _ kd28_97.2.2.2.1 (by omega) (by omega) ⟨rfl, rfl, 1, rfl, (by omega), (by omega)⟩ (Nat.le_refl _) (Nat.le_refl _)
  exact P37 ((216 - 0 : Int).toNat + 1) 0 (by omega) (by omega) (by omega)

set_option maxHeartbeats 4000000 in
set_option maxRecDepth 100000 in
theorem c_X12_of (l : Launch) (D : va_G) (kA : Nat → ClassId) (b0 : Nat) (t0 : Nat → Nat) (S : xT) (g : xG) (a0 : Nat) (x1 : Int) (x2 : Int) (hs_a0 : S a0 = some (13, 0)) (hx1 : (-2147483648) ≤ x1 ∧ x1 ≤ 2147483647) (hx2 : (-2147483648) ≤ x2 ∧ x2 ≤ 2147483647) : xMt l yX12_of cX12_of 3 (some .int) 1 0 0 22 D kA b0 t0 [(13, 0)] [.ref a0, .int (iI x1), .int (iI x2)] S g (fun (r : Option Value) (S1 : xT) (g1 : xG) => S = S1 ∧ ∃ z : Int, r = some (.int (iI z)) ∧ (-2147483648) ≤ z ∧ z ≤ 2147483647) := by
  refine xEnterI (by decide) (by simp [lg_sl, Value.category]) [(0, .ref a0), (1, .int (iI x1)), (2, .int (iI x2))] rfl ?_
  intro K E hK hret _ _ _
  refine X_iloadn hK (i := 1) 1 kd28_110.2.1 rfl rfl ?_
  refine X_iconst hK kd28_110.2.2.1 ?_
  refine X_aloadn hK (i := 0) 0 kd28_110.2.2.2.1 rfl rfl ?_
  refine X_geti hK fl_X12_389_13 hs_a0 sl_13_58 kd28_110.2.2.2.2.1 (fun z1 ez1 lz1 uz1 => ?_)
  refine X_iconst hK kd28_110.2.2.2.2.2.1 ?_
  refine X_isub hK kd28_110.2.2.2.2.2.2.1 ?_
  refine X_callS hK [.int (iI x1), .int (iI 0), .int (iI (z1 - 1))] [] lk_X12_211 (c_X12_isIn _ _ _ _ _ S g x1 0 (z1 - 1) (by omega) (by omega) (by omega)) kd28_110.2.2.2.2.2.2.2.1 rfl rfl (by simp [Value.category]) (by decide) (by decide) (by decide) (by decide) (fun r2 S4 g3 pr2 qr2 hg3 => ?_)
  obtain ⟨rfl, rfl, z5, rfl, lz5, uz5, k6⟩ := pr2
  refine X_st [.int (iI z5)] rfl ?_
  refine X_if_eq hK 23 (by omega) kd28_110.2.2.2.2.2.2.2.2.1 (by decide) (fun c7 => ?_) (fun c7 => ?_)
  · refine X_aloadn hK (i := 0) 0 kd28_111.2.2.1 rfl rfl ?_
    refine X_callV hK [] [] lk_X12_418 (c_X12_refuse _ _ _ _ _ S g a0 hs_a0) hs_a0 ⟨by decide, rfl⟩ kd28_111.2.2.2.1 rfl rfl (by simp [Value.category]) (by decide) (by decide) (by decide) (by decide) (fun r8 S10 g9 pr8 qr8 hg9 => ?_)
    obtain ⟨rfl, z11, rfl, lz11, uz11⟩ := pr8
    refine X_st [.int (iI z11)] rfl ?_
    exact hret _ _ _ _ _ _ _ kd28_111.2.2.2.2.1 ⟨rfl, z11, rfl, (by omega), (by omega)⟩ (Nat.le_refl _) (Nat.le_refl _)
  · refine X_iloadn hK (i := 2) 2 kd28_110.2.2.2.2.2.2.2.2.2.1 rfl rfl ?_
    refine X_iconst hK kd28_110.2.2.2.2.2.2.2.2.2.2.1 ?_
    refine X_iconst hK kd28_110.2.2.2.2.2.2.2.2.2.2.2 ?_
    refine X_callS hK [.int (iI x2), .int (iI 0), .int (iI 4)] [] lk_X12_211 (c_X12_isIn _ _ _ _ _ S g x2 0 4 (by omega) (by omega) (by omega)) kd28_111.1 rfl rfl (by simp [Value.category]) (by decide) (by decide) (by decide) (by decide) (fun r12 S14 g13 pr12 qr12 hg13 => ?_)
    obtain ⟨rfl, rfl, z15, rfl, lz15, uz15, k16⟩ := pr12
    refine X_st [.int (iI z15)] rfl ?_
    refine X_if_ne hK 28 (by omega) kd28_111.2.1 (by decide) (fun c17 => ?_) (fun c17 => ?_)
    · refine X_aloadn hK (i := 0) 0 kd28_111.2.2.2.2.2.1 rfl rfl ?_
      refine X_iconst hK kd28_111.2.2.2.2.2.2.1 ?_
      refine X_puti hK fl_X12_198_13 hs_a0 (by decide) sl_13_0 (by omega) (by omega) kd28_111.2.2.2.2.2.2.2.1 (fun g18 hg18 => ?_)
      refine X_iloadn hK (i := 2) 2 kd28_111.2.2.2.2.2.2.2.2.1 rfl rfl ?_
      rcases (show (x2 < 0 ∨ 3 < x2) ∨ x2 = 0 ∨ x2 = 1 ∨ x2 = 2 ∨ x2 = 3 by omega) with c19 | c19 | c19 | c19 | c19
      · refine X_tableOut hK 92 (by omega) c19 kd28_111.2.2.2.2.2.2.2.2.2.1 (by decide) ?_
        refine X_aloadn hK (i := 0) 0 kd28_113.2.2.2.2.2.2.1 rfl rfl ?_
        refine X_getr hK 17000 200 fl_X12_108_13 hs_a0 sl_13_54 kd28_113.2.2.2.2.2.2.2.1 (fun b20 eb20 hs_b20 => ?_)
        refine X_iloadn hK (i := 1) 1 kd28_113.2.2.2.2.2.2.2.2.1 rfl rfl ?_
        refine X_iald hK hs_b20 (by decide) sl_17000 (by omega) (by omega) kd28_113.2.2.2.2.2.2.2.2.2.1 (fun z21 ez21 lz21 uz21 => ?_)
        exact hret _ _ _ _ _ _ _ kd28_113.2.2.2.2.2.2.2.2.2.2.1 ⟨rfl, z21, rfl, (by omega), (by omega)⟩ (Nat.le_refl _) (Nat.le_refl _)
      · refine X_tableIn hK 64 0 (by decide) c19 (by decide) (by decide) kd28_111.2.2.2.2.2.2.2.2.2.1 rfl (by decide) ?_
        refine X_aloadn hK (i := 0) 0 kd28_111.2.2.2.2.2.2.2.2.2.2.1 rfl rfl ?_
        refine X_getr hK 16900 200 fl_X12_105_13 hs_a0 sl_13_53 kd28_111.2.2.2.2.2.2.2.2.2.2.2 (fun b22 eb22 hs_b22 => ?_)
        refine X_iloadn hK (i := 1) 1 kd28_112.1 rfl rfl ?_
        refine X_iald hK hs_b22 (by decide) sl_16900 (by omega) (by omega) kd28_112.2.1 (fun z23 ez23 lz23 uz23 => ?_)
        exact hret _ _ _ _ _ _ _ kd28_112.2.2.1 ⟨rfl, z23, rfl, (by omega), (by omega)⟩ (Nat.le_refl _) (Nat.le_refl _)
      · refine X_tableIn hK 71 1 (by decide) c19 (by decide) (by decide) kd28_111.2.2.2.2.2.2.2.2.2.1 rfl (by decide) ?_
        refine X_aloadn hK (i := 0) 0 kd28_112.2.2.2.1 rfl rfl ?_
        refine X_getr hK 17100 200 fl_X12_111_13 hs_a0 sl_13_55 kd28_112.2.2.2.2.1 (fun b24 eb24 hs_b24 => ?_)
        refine X_iloadn hK (i := 1) 1 kd28_112.2.2.2.2.2.1 rfl rfl ?_
        refine X_iald hK hs_b24 (by decide) sl_17100 (by omega) (by omega) kd28_112.2.2.2.2.2.2.1 (fun z25 ez25 lz25 uz25 => ?_)
        exact hret _ _ _ _ _ _ _ kd28_112.2.2.2.2.2.2.2.1 ⟨rfl, z25, rfl, (by omega), (by omega)⟩ (Nat.le_refl _) (Nat.le_refl _)
      · refine X_tableIn hK 78 2 (by decide) c19 (by decide) (by decide) kd28_111.2.2.2.2.2.2.2.2.2.1 rfl (by decide) ?_
        refine X_aloadn hK (i := 0) 0 kd28_112.2.2.2.2.2.2.2.2.1 rfl rfl ?_
        refine X_getr hK 17200 200 fl_X12_114_13 hs_a0 sl_13_56 kd28_112.2.2.2.2.2.2.2.2.2.1 (fun b26 eb26 hs_b26 => ?_)
        refine X_iloadn hK (i := 1) 1 kd28_112.2.2.2.2.2.2.2.2.2.2.1 rfl rfl ?_
        refine X_iald hK hs_b26 (by decide) sl_17200 (by omega) (by omega) kd28_112.2.2.2.2.2.2.2.2.2.2.2 (fun z27 ez27 lz27 uz27 => ?_)
        exact hret _ _ _ _ _ _ _ kd28_113.1 ⟨rfl, z27, rfl, (by omega), (by omega)⟩ (Nat.le_refl _) (Nat.le_refl _)
      · refine X_tableIn hK 85 3 (by decide) c19 (by decide) (by decide) kd28_111.2.2.2.2.2.2.2.2.2.1 rfl (by decide) ?_
        refine X_aloadn hK (i := 0) 0 kd28_113.2.1 rfl rfl ?_
        refine X_getr hK 17300 200 fl_X12_117_13 hs_a0 sl_13_57 kd28_113.2.2.1 (fun b28 eb28 hs_b28 => ?_)
        refine X_iloadn hK (i := 1) 1 kd28_113.2.2.2.1 rfl rfl ?_
        refine X_iald hK hs_b28 (by decide) sl_17300 (by omega) (by omega) kd28_113.2.2.2.2.1 (fun z29 ez29 lz29 uz29 => ?_)
        exact hret _ _ _ _ _ _ _ kd28_113.2.2.2.2.2.1 ⟨rfl, z29, rfl, (by omega), (by omega)⟩ (Nat.le_refl _) (Nat.le_refl _)
    · refine X_aloadn hK (i := 0) 0 kd28_111.2.2.1 rfl rfl ?_
      refine X_callV hK [] [] lk_X12_418 (c_X12_refuse _ _ _ _ _ S g a0 hs_a0) hs_a0 ⟨by decide, rfl⟩ kd28_111.2.2.2.1 rfl rfl (by simp [Value.category]) (by decide) (by decide) (by decide) (by decide) (fun r30 S32 g31 pr30 qr30 hg31 => ?_)
      obtain ⟨rfl, z33, rfl, lz33, uz33⟩ := pr30
      refine X_st [.int (iI z33)] rfl ?_
      exact hret _ _ _ _ _ _ _ kd28_111.2.2.2.2.1 ⟨rfl, z33, rfl, (by omega), (by omega)⟩ (Nat.le_refl _) (Nat.le_refl _)

set_option maxHeartbeats 4000000 in
set_option maxRecDepth 100000 in
theorem c_X12_ask (l : Launch) (D : va_G) (kA : Nat → ClassId) (b0 : Nat) (t0 : Nat → Nat) (S : xT) (g : xG) (a0 : Nat) (x1 : Int) (x2 : Int) (x3 : Int) (x4 : Int) (x5 : Int) (x6 : Int) (hs_a0 : S a0 = some (13, 0)) (hx1 : 0 ≤ x1 ∧ x1 ≤ 39) (hx2 : 0 ≤ x2 ∧ x2 ≤ 3) (hx3 : 0 ≤ x3 ∧ x3 ≤ 9) (hx4 : (-2147483648) ≤ x4 ∧ x4 ≤ 2147483647) (hx5 : (-2147483648) ≤ x5 ∧ x5 ≤ 2147483647) (hx6 : 0 ≤ x6 ∧ x6 ≤ 399) : xMt l yX12_ask cX12_ask 7 none 1 0 0 21 D kA b0 t0 [(16300, 0)] [.ref a0, .int (iI x1), .int (iI x2), .int (iI x3), .int (iI x4), .int (iI x5), .int (iI x6)] S g (fun (r : Option Value) (S1 : xT) (g1 : xG) => S = S1 ∧ r = none) := by
  refine xEnterV (by decide) (by simp [lg_sl, Value.category]) [(0, .ref a0), (1, .int (iI x1)), (2, .int (iI x2)), (3, .int (iI x3)), (4, .int (iI x4)), (5, .int (iI x5)), (6, .int (iI x6))] rfl ?_
  intro K E hK hret _ _ _
  refine X_aloadn hK (i := 0) 0 kd28_0.1 rfl rfl ?_
  refine X_getr hK 16300 12 fl_X12_80_13 hs_a0 sl_13_45 kd28_0.2.1 (fun b1 eb1 hs_b1 => ?_)
  refine X_iconst hK kd28_0.2.2.1 ?_
  refine X_aloadn hK (i := 0) 0 kd28_0.2.2.2.1 rfl rfl ?_
  refine X_getr hK 19301 40 fl_X12_25_13 hs_a0 sl_13_8 kd28_0.2.2.2.2.1 (fun b2 eb2 hs_b2 => ?_)
  refine X_iloadn hK (i := 1) 1 kd28_0.2.2.2.2.2.1 rfl rfl ?_
  refine X_zald hK hs_b2 (by decide) sl_19301 (by omega) (by omega) kd28_0.2.2.2.2.2.2.1 (fun z3 ez3 lz3 uz3 => ?_)
  have J6 : ∀ (z5 : Int) (lz5 : 0 ≤ z5) (uz5 : z5 ≤ 1), X K E 19 [(0, .ref a0), (1, .int (iI x1)), (2, .int (iI x2)), (3, .int (iI x3)), (4, .int (iI x4)), (5, .int (iI x5)), (6, .int (iI x6))] [.int (iI z5), .int (iI 0), .ref b1] S g 0 0 := by
    intro z5 lz5 uz5
    refine X_iast hK hs_b1 (by decide) (by decide) sl_16300 (by omega) (by omega) (by omega) (by omega) kd28_0.2.2.2.2.2.2.2.2.2.2.2 (fun g7 hg7 => ?_)
    refine X_aloadn hK (i := 0) 0 kd28_1.1 rfl rfl ?_
    refine X_getK hK fl_X12_80_13 hs_a0 ((xs_a hg7 (xne hs_a0 hs_b1 (by decide))).trans eb1) kd28_1.2.1 ?_
    refine X_iconst hK kd28_1.2.2.1 ?_
    refine X_iload hK (i := 6) 6 kd28_1.2.2.2.1 rfl ?_
    refine X_aloadn hK (i := 0) 0 kd28_1.2.2.2.2.1 rfl rfl ?_
    refine X_getr hK 14300 40 fl_X12_16_13 hs_a0 sl_13_5 kd28_1.2.2.2.2.2.1 (fun b8 eb8 hs_b8 => ?_)
    refine X_iloadn hK (i := 1) 1 kd28_1.2.2.2.2.2.2.1 rfl rfl ?_
    refine X_iald hK hs_b8 (by decide) sl_14300 (by omega) (by omega) kd28_1.2.2.2.2.2.2.2.1 (fun z9 ez9 lz9 uz9 => ?_)
    have J12 : ∀ (z11 : Int) (lz11 : 0 ≤ z11) (uz11 : z11 ≤ 1), X K E 41 [(0, .ref a0), (1, .int (iI x1)), (2, .int (iI x2)), (3, .int (iI x3)), (4, .int (iI x4)), (5, .int (iI x5)), (6, .int (iI x6))] [.int (iI z11), .int (iI 1), .ref b1] S g7 0 0 := by
      intro z11 lz11 uz11
      refine X_iast hK hs_b1 (by decide) (by decide) sl_16300 (by omega) (by omega) (by omega) (by omega) kd28_2.1 (fun g13 hg13 => ?_)
      refine X_aloadn hK (i := 0) 0 kd28_2.2.1 rfl rfl ?_
      refine X_getK hK fl_X12_80_13 hs_a0 ((xs_a hg13 (xne hs_a0 hs_b1 (by decide))).trans ((xs_a hg7 (xne hs_a0 hs_b1 (by decide))).trans eb1)) kd28_2.2.2.1 ?_
      refine X_iconst hK kd28_2.2.2.2.1 ?_
      refine X_aloadn hK (i := 0) 0 kd28_2.2.2.2.2.1 rfl rfl ?_
      refine X_getr hK 14600 10 fl_X12_29_13 hs_a0 sl_13_9 kd28_2.2.2.2.2.2.1 (fun b14 eb14 hs_b14 => ?_)
      refine X_iloadn hK (i := 3) 3 kd28_2.2.2.2.2.2.2.1 rfl rfl ?_
      refine X_iald hK hs_b14 (by decide) sl_14600 (by omega) (by omega) kd28_2.2.2.2.2.2.2.2.1 (fun z15 ez15 lz15 uz15 => ?_)
      refine X_iloadn hK (i := 1) 1 kd28_2.2.2.2.2.2.2.2.2.1 rfl rfl ?_
      have J18 : ∀ (z17 : Int) (lz17 : 0 ≤ z17) (uz17 : z17 ≤ 1), X K E 62 [(0, .ref a0), (1, .int (iI x1)), (2, .int (iI x2)), (3, .int (iI x3)), (4, .int (iI x4)), (5, .int (iI x5)), (6, .int (iI x6))] [.int (iI z17), .int (iI 2), .ref b1] S g13 0 0 := by
        intro z17 lz17 uz17
        refine X_iast hK hs_b1 (by decide) (by decide) sl_16300 (by omega) (by omega) (by omega) (by omega) kd28_3.2.1 (fun g19 hg19 => ?_)
        refine X_aloadn hK (i := 0) 0 kd28_3.2.2.1 rfl rfl ?_
        refine X_getK hK fl_X12_80_13 hs_a0 ((xs_a hg19 (xne hs_a0 hs_b1 (by decide))).trans ((xs_a hg13 (xne hs_a0 hs_b1 (by decide))).trans ((xs_a hg7 (xne hs_a0 hs_b1 (by decide))).trans eb1))) kd28_3.2.2.2.1 ?_
        refine X_iconst hK kd28_3.2.2.2.2.1 ?_
        refine X_aloadn hK (i := 0) 0 kd28_3.2.2.2.2.2.1 rfl rfl ?_
        refine X_getr hK 14200 40 fl_X12_13_13 hs_a0 sl_13_4 kd28_3.2.2.2.2.2.2.1 (fun b20 eb20 hs_b20 => ?_)
        refine X_iloadn hK (i := 1) 1 kd28_3.2.2.2.2.2.2.2.1 rfl rfl ?_
        refine X_iald hK hs_b20 (by decide) sl_14200 (by omega) (by omega) kd28_3.2.2.2.2.2.2.2.2.1 (fun z21 ez21 lz21 uz21 => ?_)
        refine X_iast hK hs_b1 (by decide) (by decide) sl_16300 (by omega) (by omega) (by omega) (by omega) kd28_3.2.2.2.2.2.2.2.2.2.1 (fun g22 hg22 => ?_)
        refine X_aloadn hK (i := 0) 0 kd28_3.2.2.2.2.2.2.2.2.2.2.1 rfl rfl ?_
        refine X_getK hK fl_X12_80_13 hs_a0 ((xs_a hg22 (xne hs_a0 hs_b1 (by decide))).trans ((xs_a hg19 (xne hs_a0 hs_b1 (by decide))).trans ((xs_a hg13 (xne hs_a0 hs_b1 (by decide))).trans ((xs_a hg7 (xne hs_a0 hs_b1 (by decide))).trans eb1)))) kd28_3.2.2.2.2.2.2.2.2.2.2.2 ?_
        refine X_iconst hK kd28_4.1 ?_
        refine X_iload hK (i := 5) 5 kd28_4.2.1 rfl ?_
        refine X_iast hK hs_b1 (by decide) (by decide) sl_16300 (by omega) (by omega) (by omega) (by omega) kd28_4.2.2.1 (fun g23 hg23 => ?_)
        refine X_aloadn hK (i := 0) 0 kd28_4.2.2.2.1 rfl rfl ?_
        refine X_getK hK fl_X12_80_13 hs_a0 ((xs_a hg23 (xne hs_a0 hs_b1 (by decide))).trans ((xs_a hg22 (xne hs_a0 hs_b1 (by decide))).trans ((xs_a hg19 (xne hs_a0 hs_b1 (by decide))).trans ((xs_a hg13 (xne hs_a0 hs_b1 (by decide))).trans ((xs_a hg7 (xne hs_a0 hs_b1 (by decide))).trans eb1))))) kd28_4.2.2.2.2.1 ?_
        refine X_iconst hK kd28_4.2.2.2.2.2.1 ?_
        refine X_iload hK (i := 6) 6 kd28_4.2.2.2.2.2.2.1 rfl ?_
        refine X_bipush hK kd28_4.2.2.2.2.2.2.2.1 (by decide) ?_
        refine X_irem hK (by omega) (by omega) kd28_4.2.2.2.2.2.2.2.2.1 (fun z24 wz24 ez24 fz24 hz24 => ?_)
        have bz24 : 0 ≤ z24 ∧ z24 ≤ 6 := by omega
        refine X_iast hK hs_b1 (by decide) (by decide) sl_16300 (by omega) (by omega) (by omega) (by omega) kd28_4.2.2.2.2.2.2.2.2.2.1 (fun g25 hg25 => ?_)
        refine X_aloadn hK (i := 0) 0 kd28_4.2.2.2.2.2.2.2.2.2.2.1 rfl rfl ?_
        refine X_getK hK fl_X12_80_13 hs_a0 ((xs_a hg25 (xne hs_a0 hs_b1 (by decide))).trans ((xs_a hg23 (xne hs_a0 hs_b1 (by decide))).trans ((xs_a hg22 (xne hs_a0 hs_b1 (by decide))).trans ((xs_a hg19 (xne hs_a0 hs_b1 (by decide))).trans ((xs_a hg13 (xne hs_a0 hs_b1 (by decide))).trans ((xs_a hg7 (xne hs_a0 hs_b1 (by decide))).trans eb1)))))) kd28_4.2.2.2.2.2.2.2.2.2.2.2 ?_
        refine X_bipush hK kd28_5.1 (by decide) ?_
        refine X_iload hK (i := 6) 6 kd28_5.2.1 rfl ?_
        refine X_iast hK hs_b1 (by decide) (by decide) sl_16300 (by omega) (by omega) (by omega) (by omega) kd28_5.2.2.1 (fun g26 hg26 => ?_)
        refine X_aloadn hK (i := 0) 0 kd28_5.2.2.2.1 rfl rfl ?_
        refine X_getK hK fl_X12_80_13 hs_a0 ((xs_a hg26 (xne hs_a0 hs_b1 (by decide))).trans ((xs_a hg25 (xne hs_a0 hs_b1 (by decide))).trans ((xs_a hg23 (xne hs_a0 hs_b1 (by decide))).trans ((xs_a hg22 (xne hs_a0 hs_b1 (by decide))).trans ((xs_a hg19 (xne hs_a0 hs_b1 (by decide))).trans ((xs_a hg13 (xne hs_a0 hs_b1 (by decide))).trans ((xs_a hg7 (xne hs_a0 hs_b1 (by decide))).trans eb1))))))) kd28_5.2.2.2.2.1 ?_
        refine X_bipush hK kd28_5.2.2.2.2.2.1 (by decide) ?_
        refine X_iloadn hK (i := 2) 2 kd28_5.2.2.2.2.2.2.1 rfl rfl ?_
        refine X_iast hK hs_b1 (by decide) (by decide) sl_16300 (by omega) (by omega) (by omega) (by omega) kd28_5.2.2.2.2.2.2.2.1 (fun g27 hg27 => ?_)
        refine X_aloadn hK (i := 0) 0 kd28_5.2.2.2.2.2.2.2.2.1 rfl rfl ?_
        refine X_getK hK fl_X12_80_13 hs_a0 ((xs_a hg27 (xne hs_a0 hs_b1 (by decide))).trans ((xs_a hg26 (xne hs_a0 hs_b1 (by decide))).trans ((xs_a hg25 (xne hs_a0 hs_b1 (by decide))).trans ((xs_a hg23 (xne hs_a0 hs_b1 (by decide))).trans ((xs_a hg22 (xne hs_a0 hs_b1 (by decide))).trans ((xs_a hg19 (xne hs_a0 hs_b1 (by decide))).trans ((xs_a hg13 (xne hs_a0 hs_b1 (by decide))).trans ((xs_a hg7 (xne hs_a0 hs_b1 (by decide))).trans eb1)))))))) kd28_5.2.2.2.2.2.2.2.2.2.1 ?_
        refine X_bipush hK kd28_5.2.2.2.2.2.2.2.2.2.2.1 (by decide) ?_
        refine X_iloadn hK (i := 3) 3 kd28_5.2.2.2.2.2.2.2.2.2.2.2 rfl rfl ?_
        refine X_iast hK hs_b1 (by decide) (by decide) sl_16300 (by omega) (by omega) (by omega) (by omega) kd28_6.1 (fun g28 hg28 => ?_)
        refine X_aloadn hK (i := 0) 0 kd28_6.2.1 rfl rfl ?_
        refine X_getK hK fl_X12_80_13 hs_a0 ((xs_a hg28 (xne hs_a0 hs_b1 (by decide))).trans ((xs_a hg27 (xne hs_a0 hs_b1 (by decide))).trans ((xs_a hg26 (xne hs_a0 hs_b1 (by decide))).trans ((xs_a hg25 (xne hs_a0 hs_b1 (by decide))).trans ((xs_a hg23 (xne hs_a0 hs_b1 (by decide))).trans ((xs_a hg22 (xne hs_a0 hs_b1 (by decide))).trans ((xs_a hg19 (xne hs_a0 hs_b1 (by decide))).trans ((xs_a hg13 (xne hs_a0 hs_b1 (by decide))).trans ((xs_a hg7 (xne hs_a0 hs_b1 (by decide))).trans eb1))))))))) kd28_6.2.2.1 ?_
        refine X_bipush hK kd28_6.2.2.2.1 (by decide) ?_
        refine X_iload hK (i := 4) 4 kd28_6.2.2.2.2.1 rfl ?_
        refine X_iast hK hs_b1 (by decide) (by decide) sl_16300 (by omega) (by omega) (by omega) (by omega) kd28_6.2.2.2.2.2.1 (fun g29 hg29 => ?_)
        refine X_aloadn hK (i := 0) 0 kd28_6.2.2.2.2.2.2.1 rfl rfl ?_
        refine X_getK hK fl_X12_80_13 hs_a0 ((xs_a hg29 (xne hs_a0 hs_b1 (by decide))).trans ((xs_a hg28 (xne hs_a0 hs_b1 (by decide))).trans ((xs_a hg27 (xne hs_a0 hs_b1 (by decide))).trans ((xs_a hg26 (xne hs_a0 hs_b1 (by decide))).trans ((xs_a hg25 (xne hs_a0 hs_b1 (by decide))).trans ((xs_a hg23 (xne hs_a0 hs_b1 (by decide))).trans ((xs_a hg22 (xne hs_a0 hs_b1 (by decide))).trans ((xs_a hg19 (xne hs_a0 hs_b1 (by decide))).trans ((xs_a hg13 (xne hs_a0 hs_b1 (by decide))).trans ((xs_a hg7 (xne hs_a0 hs_b1 (by decide))).trans eb1)))))))))) kd28_6.2.2.2.2.2.2.2.1 ?_
        refine X_bipush hK kd28_6.2.2.2.2.2.2.2.2.1 (by decide) ?_
        refine X_aloadn hK (i := 0) 0 kd28_6.2.2.2.2.2.2.2.2.2.1 rfl rfl ?_
        refine X_iload hK (i := 6) 6 kd28_6.2.2.2.2.2.2.2.2.2.2.1 rfl ?_
        refine X_know hs_a0 (by decide) sl_13_17 (fun z30 ez30 lz30 uz30 => ?_)
        refine X_knowr 14700 400 hs_a0 (by decide) sl_13_10 (fun b31 eb31 hs_b31 => ?_)
        refine X_callV hK [.int (iI x6)] [.int (iI 10), .ref b1] lk_X12_232 (c_X12_skyOf _ _ _ _ _ S g29 a0 x6 z30 b31 hs_a0 (by omega) (by omega) ez30 eb31 hs_b31) hs_a0 ⟨by decide, rfl⟩ kd28_6.2.2.2.2.2.2.2.2.2.2.2 rfl rfl (by simp [Value.category]) (by decide) (by decide) (by decide) (by decide) (fun r32 S34 g33 pr32 qr32 hg33 => ?_)
        obtain ⟨rfl, rfl, z35, rfl, lz35, uz35, k36⟩ := pr32
        refine X_st [.int (iI z35), .int (iI 10), .ref b1] rfl ?_
        refine X_iast hK hs_b1 (by decide) (by decide) sl_16300 (by omega) (by omega) (by omega) (by omega) kd28_7.1 (fun g37 hg37 => ?_)
        refine X_aloadn hK (i := 0) 0 kd28_7.2.1 rfl rfl ?_
        refine X_getK hK fl_X12_80_13 hs_a0 ((xs_a hg37 (xne hs_a0 hs_b1 (by decide))).trans ((xs_a hg29 (xne hs_a0 hs_b1 (by decide))).trans ((xs_a hg28 (xne hs_a0 hs_b1 (by decide))).trans ((xs_a hg27 (xne hs_a0 hs_b1 (by decide))).trans ((xs_a hg26 (xne hs_a0 hs_b1 (by decide))).trans ((xs_a hg25 (xne hs_a0 hs_b1 (by decide))).trans ((xs_a hg23 (xne hs_a0 hs_b1 (by decide))).trans ((xs_a hg22 (xne hs_a0 hs_b1 (by decide))).trans ((xs_a hg19 (xne hs_a0 hs_b1 (by decide))).trans ((xs_a hg13 (xne hs_a0 hs_b1 (by decide))).trans ((xs_a hg7 (xne hs_a0 hs_b1 (by decide))).trans eb1))))))))))) kd28_7.2.2.1 ?_
        refine X_bipush hK kd28_7.2.2.2.1 (by decide) ?_
        refine X_aloadn hK (i := 0) 0 kd28_7.2.2.2.2.1 rfl rfl ?_
        refine X_getr hK 14400 40 fl_X12_19_13 hs_a0 sl_13_6 kd28_7.2.2.2.2.2.1 (fun b38 eb38 hs_b38 => ?_)
        refine X_iloadn hK (i := 1) 1 kd28_7.2.2.2.2.2.2.1 rfl rfl ?_
        refine X_iald hK hs_b38 (by decide) sl_14400 (by omega) (by omega) kd28_7.2.2.2.2.2.2.2.1 (fun z39 ez39 lz39 uz39 => ?_)
        refine X_iast hK hs_b1 (by decide) (by decide) sl_16300 (by omega) (by omega) (by omega) (by omega) kd28_7.2.2.2.2.2.2.2.2.1 (fun g40 hg40 => ?_)
        exact hret _ _ _ _ _ _ kd28_7.2.2.2.2.2.2.2.2.2.1 ⟨rfl, rfl⟩ (Nat.le_refl _) (Nat.le_refl _)
      refine X_icmp_ne hK 61 (by omega) (by omega) kd28_2.2.2.2.2.2.2.2.2.2.1 (by decide) (fun c16 => ?_) (fun c16 => ?_)
      · refine X_iconst hK kd28_3.1 ?_
        exact J18 0 (by omega) (by omega)
      · refine X_iconst hK kd28_2.2.2.2.2.2.2.2.2.2.2.1 ?_
        refine X_goto hK 62 kd28_2.2.2.2.2.2.2.2.2.2.2.2 (by decide) ?_
        exact J18 1 (by omega) (by omega)
    refine X_icmp_gt hK 40 (by omega) (by omega) kd28_1.2.2.2.2.2.2.2.2.1 (by decide) (fun c10 => ?_) (fun c10 => ?_)
    · refine X_iconst hK kd28_1.2.2.2.2.2.2.2.2.2.2.2 ?_
      exact J12 0 (by omega) (by omega)
    · refine X_iconst hK kd28_1.2.2.2.2.2.2.2.2.2.1 ?_
      refine X_goto hK 41 kd28_1.2.2.2.2.2.2.2.2.2.2.1 (by decide) ?_
      exact J12 1 (by omega) (by omega)
  refine X_if_eq hK 18 (by omega) kd28_0.2.2.2.2.2.2.2.1 (by decide) (fun c4 => ?_) (fun c4 => ?_)
  · refine X_iconst hK kd28_0.2.2.2.2.2.2.2.2.2.2.1 ?_
    exact J6 0 (by omega) (by omega)
  · refine X_iconst hK kd28_0.2.2.2.2.2.2.2.2.1 ?_
    refine X_goto hK 19 kd28_0.2.2.2.2.2.2.2.2.2.1 (by decide) ?_
    exact J6 1 (by omega) (by omega)

set_option maxHeartbeats 4000000 in
set_option maxRecDepth 100000 in
theorem c_X12_isAhead (l : Launch) (D : va_G) (kA : Nat → ClassId) (b0 : Nat) (t0 : Nat → Nat) (S : xT) (g : xG) (a0 : Nat) (x1 : Int) (x2 : Int) (hs_a0 : S a0 = some (13, 0)) (hx1 : 0 ≤ x1 ∧ x1 ≤ 199) (hx2 : 0 ≤ x2 ∧ x2 ≤ 199) : xMt l yX12_isAhead cX12_isAhead 5 (some .boolean) 0 0 0 0 D kA b0 t0 [] [.ref a0, .int (iI x1), .int (iI x2)] S g (fun (r : Option Value) (S1 : xT) (g1 : xG) => S = S1 ∧ g = g1 ∧ ∃ z : Int, r = some (.int (iI z)) ∧ 0 ≤ z ∧ z ≤ 1) := by
  refine xEnterZ (by decide) (by simp [lg_sl, Value.category]) [(0, .ref a0), (1, .int (iI x1)), (2, .int (iI x2))] rfl ?_
  intro K E hK hret _ _ _
  refine X_aloadn hK (i := 0) 0 kd28_87.2.2.2.2.2.2.2.2.2.2.1 rfl rfl ?_
  refine X_getr hK 16800 200 fl_X12_102_13 hs_a0 sl_13_52 kd28_87.2.2.2.2.2.2.2.2.2.2.2 (fun b1 eb1 hs_b1 => ?_)
  refine X_iloadn hK (i := 1) 1 kd28_88.1 rfl rfl ?_
  refine X_iald hK hs_b1 (by decide) sl_16800 (by omega) (by omega) kd28_88.2.1 (fun z2 ez2 lz2 uz2 => ?_)
  refine X_aloadn hK (i := 0) 0 kd28_88.2.2.1 rfl rfl ?_
  refine X_getK hK fl_X12_102_13 hs_a0 eb1 kd28_88.2.2.2.1 ?_
  refine X_iloadn hK (i := 2) 2 kd28_88.2.2.2.2.1 rfl rfl ?_
  refine X_iald hK hs_b1 (by decide) sl_16800 (by omega) (by omega) kd28_88.2.2.2.2.2.1 (fun z3 ez3 lz3 uz3 => ?_)
  refine X_icmp_eq hK 36 (by omega) (by omega) kd28_88.2.2.2.2.2.2.1 (by decide) (fun c4 => ?_) (fun c4 => ?_)
  · refine X_aloadn hK (i := 0) 0 kd28_89.2.2.2.2.2.2.2.2.1 rfl rfl ?_
    refine X_getr hK 14600 10 fl_X12_29_13 hs_a0 sl_13_9 kd28_89.2.2.2.2.2.2.2.2.2.1 (fun b5 eb5 hs_b5 => ?_)
    refine X_aloadn hK (i := 0) 0 kd28_89.2.2.2.2.2.2.2.2.2.2.1 rfl rfl ?_
    refine X_getr hK 16600 200 fl_X12_96_13 hs_a0 sl_13_50 kd28_89.2.2.2.2.2.2.2.2.2.2.2 (fun b6 eb6 hs_b6 => ?_)
    refine X_iloadn hK (i := 1) 1 kd28_90.1 rfl rfl ?_
    refine X_iald hK hs_b6 (by decide) sl_16600 (by omega) (by omega) kd28_90.2.1 (fun z7 ez7 lz7 uz7 => ?_)
    refine X_iald hK hs_b5 (by decide) sl_14600 (by omega) (by omega) kd28_90.2.2.1 (fun z8 ez8 lz8 uz8 => ?_)
    refine X_aloadn hK (i := 0) 0 kd28_90.2.2.2.1 rfl rfl ?_
    refine X_getr hK 16400 200 fl_X12_90_13 hs_a0 sl_13_48 kd28_90.2.2.2.2.1 (fun b9 eb9 hs_b9 => ?_)
    refine X_iloadn hK (i := 1) 1 kd28_90.2.2.2.2.2.1 rfl rfl ?_
    refine X_iald hK hs_b9 (by decide) sl_16400 (by omega) (by omega) kd28_90.2.2.2.2.2.2.1 (fun z10 ez10 lz10 uz10 => ?_)
    have J13 : ∀ (z12 : Int) (lz12 : 0 ≤ z12) (uz12 : z12 ≤ 1), X K E 61 [(0, .ref a0), (1, .int (iI x1)), (2, .int (iI x2))] [.int (iI z12)] S g 0 0 := by
      intro z12 lz12 uz12
      refine X_istoren hK (i := 3) [(3, .int (iI z12)), (0, .ref a0), (1, .int (iI x1)), (2, .int (iI x2))] kd28_90.2.2.2.2.2.2.2.2.2.2.2 rfl (by decide) rfl ?_
      refine X_aloadn hK (i := 0) 1 kd28_91.1 rfl rfl ?_
      refine X_getK hK fl_X12_29_13 hs_a0 eb5 kd28_91.2.1 ?_
      refine X_aloadn hK (i := 0) 1 kd28_91.2.2.1 rfl rfl ?_
      refine X_getK hK fl_X12_96_13 hs_a0 eb6 kd28_91.2.2.2.1 ?_
      refine X_iloadn hK (i := 2) 3 kd28_91.2.2.2.2.1 rfl rfl ?_
      refine X_iald hK hs_b6 (by decide) sl_16600 (by omega) (by omega) kd28_91.2.2.2.2.2.1 (fun z14 ez14 lz14 uz14 => ?_)
      refine X_iald hK hs_b5 (by decide) sl_14600 (by omega) (by omega) kd28_91.2.2.2.2.2.2.1 (fun z15 ez15 lz15 uz15 => ?_)
      refine X_aloadn hK (i := 0) 1 kd28_91.2.2.2.2.2.2.2.1 rfl rfl ?_
      refine X_getK hK fl_X12_90_13 hs_a0 eb9 kd28_91.2.2.2.2.2.2.2.2.1 ?_
      refine X_iloadn hK (i := 2) 3 kd28_91.2.2.2.2.2.2.2.2.2.1 rfl rfl ?_
      refine X_iald hK hs_b9 (by decide) sl_16400 (by omega) (by omega) kd28_91.2.2.2.2.2.2.2.2.2.2.1 (fun z16 ez16 lz16 uz16 => ?_)
      have J19 : ∀ (z18 : Int) (lz18 : 0 ≤ z18) (uz18 : z18 ≤ 1), X K E 87 [(3, .int (iI z12)), (0, .ref a0), (1, .int (iI x1)), (2, .int (iI x2))] [.int (iI z18)] S g 0 0 := by
        intro z18 lz18 uz18
        refine X_istore hK (i := 4) [(4, .int (iI z18)), (3, .int (iI z12)), (0, .ref a0), (1, .int (iI x1)), (2, .int (iI x2))] kd28_92.2.2.2.1 (by decide) rfl ?_
        refine X_iloadn hK (i := 3) 1 kd28_92.2.2.2.2.1 rfl rfl ?_
        refine X_iload hK (i := 4) 0 kd28_92.2.2.2.2.2.1 rfl ?_
        refine X_icmp_eq hK 97 (by omega) (by omega) kd28_92.2.2.2.2.2.2.1 (by decide) (fun c20 => ?_) (fun c20 => ?_)
        · refine X_aloadn hK (i := 0) 2 kd28_92.2.2.2.2.2.2.2.2.2.1 rfl rfl ?_
          refine X_getr hK 14400 40 fl_X12_19_13 hs_a0 sl_13_6 kd28_92.2.2.2.2.2.2.2.2.2.2.1 (fun b21 eb21 hs_b21 => ?_)
          refine X_aloadn hK (i := 0) 2 kd28_92.2.2.2.2.2.2.2.2.2.2.2 rfl rfl ?_
          refine X_getK hK fl_X12_90_13 hs_a0 eb9 kd28_93.1 ?_
          refine X_iloadn hK (i := 1) 3 kd28_93.2.1 rfl rfl ?_
          refine X_ialdK hK hs_b9 (by decide) (by omega) (by omega) ez10 kd28_93.2.2.1 ?_
          refine X_iald hK hs_b21 (by decide) sl_14400 (by omega) (by omega) kd28_93.2.2.2.1 (fun z22 ez22 lz22 uz22 => ?_)
          refine X_aloadn hK (i := 0) 2 kd28_93.2.2.2.2.1 rfl rfl ?_
          refine X_getK hK fl_X12_19_13 hs_a0 eb21 kd28_93.2.2.2.2.2.1 ?_
          refine X_aloadn hK (i := 0) 2 kd28_93.2.2.2.2.2.2.1 rfl rfl ?_
          refine X_getK hK fl_X12_90_13 hs_a0 eb9 kd28_93.2.2.2.2.2.2.2.1 ?_
          refine X_iloadn hK (i := 2) 4 kd28_93.2.2.2.2.2.2.2.2.1 rfl rfl ?_
          refine X_ialdK hK hs_b9 (by decide) (by omega) (by omega) ez16 kd28_93.2.2.2.2.2.2.2.2.2.1 ?_
          refine X_iald hK hs_b21 (by decide) sl_14400 (by omega) (by omega) kd28_93.2.2.2.2.2.2.2.2.2.2.1 (fun z23 ez23 lz23 uz23 => ?_)
          refine X_icmp_eq hK 155 (by omega) (by omega) kd28_93.2.2.2.2.2.2.2.2.2.2.2 (by decide) (fun c24 => ?_) (fun c24 => ?_)
          · refine X_iloadn hK (i := 1) 3 kd28_95.2.2.2.2.2.2.2.1 rfl rfl ?_
            refine X_iloadn hK (i := 2) 4 kd28_95.2.2.2.2.2.2.2.2.1 rfl rfl ?_
            refine X_icmp_ge hK 164 (by omega) (by omega) kd28_95.2.2.2.2.2.2.2.2.2.1 (by decide) (fun c25 => ?_) (fun c25 => ?_)
            · refine X_iconst hK kd28_96.1 ?_
              exact hret _ _ _ _ _ _ _ kd28_96.2.1 (by omega) (by omega) ⟨rfl, rfl, 0, rfl, (by omega), (by omega)⟩ (Nat.le_refl _) (Nat.le_refl _)
            · refine X_iconst hK kd28_95.2.2.2.2.2.2.2.2.2.2.1 ?_
              refine X_goto hK 165 kd28_95.2.2.2.2.2.2.2.2.2.2.2 (by decide) ?_
              exact hret _ _ _ _ _ _ _ kd28_96.2.1 (by omega) (by omega) ⟨rfl, rfl, 1, rfl, (by omega), (by omega)⟩ (Nat.le_refl _) (Nat.le_refl _)
          · refine X_aloadn hK (i := 0) 2 kd28_94.1 rfl rfl ?_
            refine X_getK hK fl_X12_19_13 hs_a0 eb21 kd28_94.2.1 ?_
            refine X_aloadn hK (i := 0) 2 kd28_94.2.2.1 rfl rfl ?_
            refine X_getK hK fl_X12_90_13 hs_a0 eb9 kd28_94.2.2.2.1 ?_
            refine X_iloadn hK (i := 1) 3 kd28_94.2.2.2.2.1 rfl rfl ?_
            refine X_ialdK hK hs_b9 (by decide) (by omega) (by omega) ez10 kd28_94.2.2.2.2.2.1 ?_
            refine X_ialdK hK hs_b21 (by decide) (by omega) (by omega) ez22 kd28_94.2.2.2.2.2.2.1 ?_
            refine X_aloadn hK (i := 0) 2 kd28_94.2.2.2.2.2.2.2.1 rfl rfl ?_
            refine X_getK hK fl_X12_19_13 hs_a0 eb21 kd28_94.2.2.2.2.2.2.2.2.1 ?_
            refine X_aloadn hK (i := 0) 2 kd28_94.2.2.2.2.2.2.2.2.2.1 rfl rfl ?_
            refine X_getK hK fl_X12_90_13 hs_a0 eb9 kd28_94.2.2.2.2.2.2.2.2.2.2.1 ?_
            refine X_iloadn hK (i := 2) 4 kd28_94.2.2.2.2.2.2.2.2.2.2.2 rfl rfl ?_
            refine X_ialdK hK hs_b9 (by decide) (by omega) (by omega) ez16 kd28_95.1 ?_
            refine X_ialdK hK hs_b21 (by decide) (by omega) (by omega) ez23 kd28_95.2.1 ?_
            refine X_icmp_le hK 151 (by omega) (by omega) kd28_95.2.2.1 (by decide) (fun c26 => ?_) (fun c26 => ?_)
            · refine X_iconst hK kd28_95.2.2.2.2.2.1 ?_
              refine X_goto hK 165 kd28_95.2.2.2.2.2.2.1 (by decide) ?_
              exact hret _ _ _ _ _ _ _ kd28_96.2.1 (by omega) (by omega) ⟨rfl, rfl, 0, rfl, (by omega), (by omega)⟩ (Nat.le_refl _) (Nat.le_refl _)
            · refine X_iconst hK kd28_95.2.2.2.1 ?_
              refine X_goto hK 165 kd28_95.2.2.2.2.1 (by decide) ?_
              exact hret _ _ _ _ _ _ _ kd28_96.2.1 (by omega) (by omega) ⟨rfl, rfl, 1, rfl, (by omega), (by omega)⟩ (Nat.le_refl _) (Nat.le_refl _)
        · refine X_iloadn hK (i := 3) 1 kd28_92.2.2.2.2.2.2.2.1 rfl rfl ?_
          exact hret _ _ _ _ _ _ _ kd28_92.2.2.2.2.2.2.2.2.1 (by omega) (by omega) ⟨rfl, rfl, z12, rfl, (by omega), (by omega)⟩ (Nat.le_refl _) (Nat.le_refl _)
      refine X_icmp_ne hK 86 (by omega) (by omega) kd28_91.2.2.2.2.2.2.2.2.2.2.2 (by decide) (fun c17 => ?_) (fun c17 => ?_)
      · refine X_iconst hK kd28_92.2.2.1 ?_
        exact J19 0 (by omega) (by omega)
      · refine X_iconst hK kd28_92.1 ?_
        refine X_goto hK 87 kd28_92.2.1 (by decide) ?_
        exact J19 1 (by omega) (by omega)
    refine X_icmp_ne hK 60 (by omega) (by omega) kd28_90.2.2.2.2.2.2.2.1 (by decide) (fun c11 => ?_) (fun c11 => ?_)
    · refine X_iconst hK kd28_90.2.2.2.2.2.2.2.2.2.2.1 ?_
      exact J13 0 (by omega) (by omega)
    · refine X_iconst hK kd28_90.2.2.2.2.2.2.2.2.1 ?_
      refine X_goto hK 61 kd28_90.2.2.2.2.2.2.2.2.2.1 (by decide) ?_
      exact J13 1 (by omega) (by omega)
  · refine X_aloadn hK (i := 0) 0 kd28_88.2.2.2.2.2.2.2.1 rfl rfl ?_
    refine X_getK hK fl_X12_102_13 hs_a0 eb1 kd28_88.2.2.2.2.2.2.2.2.1 ?_
    refine X_iloadn hK (i := 1) 1 kd28_88.2.2.2.2.2.2.2.2.2.1 rfl rfl ?_
    refine X_ialdK hK hs_b1 (by decide) (by omega) (by omega) ez2 kd28_88.2.2.2.2.2.2.2.2.2.2.1 ?_
    refine X_aloadn hK (i := 0) 0 kd28_88.2.2.2.2.2.2.2.2.2.2.2 rfl rfl ?_
    refine X_getK hK fl_X12_102_13 hs_a0 eb1 kd28_89.1 ?_
    refine X_iloadn hK (i := 2) 2 kd28_89.2.1 rfl rfl ?_
    refine X_ialdK hK hs_b1 (by decide) (by omega) (by omega) ez3 kd28_89.2.2.1 ?_
    refine X_icmp_ge hK 34 (by omega) (by omega) kd28_89.2.2.2.1 (by decide) (fun c27 => ?_) (fun c27 => ?_)
    · refine X_iconst hK kd28_89.2.2.2.2.2.2.1 ?_
      exact hret _ _ _ _ _ _ _ kd28_89.2.2.2.2.2.2.2.1 (by omega) (by omega) ⟨rfl, rfl, 0, rfl, (by omega), (by omega)⟩ (Nat.le_refl _) (Nat.le_refl _)
    · refine X_iconst hK kd28_89.2.2.2.2.1 ?_
      refine X_goto hK 35 kd28_89.2.2.2.2.2.1 (by decide) ?_
      exact hret _ _ _ _ _ _ _ kd28_89.2.2.2.2.2.2.2.1 (by omega) (by omega) ⟨rfl, rfl, 1, rfl, (by omega), (by omega)⟩ (Nat.le_refl _) (Nat.le_refl _)
