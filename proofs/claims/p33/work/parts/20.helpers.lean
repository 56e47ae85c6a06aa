theorem m_1_2 : Cond.initialized RX11 ∈ wsL_law := ch_1 _ (List.mem_of_getElem? (i := 2) rfl)
theorem m_2_13 : Cond.initialized RX7 ∈ wsL_law := ch_2 _ (List.mem_of_getElem? (i := 13) rfl)
theorem m_12_8 : Cond.methodLink RX11 115 yX11_within ∈ wsL_law := ch_12 _ (List.mem_of_getElem? (i := 8) rfl)
theorem m_12_9 : Cond.static yX11_within ∈ wsL_law := ch_12 _ (List.mem_of_getElem? (i := 9) rfl)
theorem m_12_10 : Cond.code yX11_within cX11_within 3 (some .boolean) ∈ wsL_law := ch_12 _ (List.mem_of_getElem? (i := 10) rfl)
theorem m_12_14 : Cond.methodLink RX11 159 yX11_isDay ∈ wsL_law := ch_12 _ (List.mem_of_getElem? (i := 14) rfl)
theorem m_12_15 : Cond.static yX11_isDay ∈ wsL_law := ch_12 _ (List.mem_of_getElem? (i := 15) rfl)
theorem m_12_16 : Cond.code yX11_isDay cX11_isDay 1 (some .boolean) ∈ wsL_law := ch_12 _ (List.mem_of_getElem? (i := 16) rfl)
theorem m_23_5 : Cond.methodLink RX7 89 yX7_isLetter ∈ wsL_law := ch_23 _ (List.mem_of_getElem? (i := 5) rfl)
theorem m_23_6 : Cond.static yX7_isLetter ∈ wsL_law := ch_23 _ (List.mem_of_getElem? (i := 6) rfl)
theorem m_23_7 : Cond.code yX7_isLetter cX7_isLetter 1 (some .boolean) ∈ wsL_law := ch_23 _ (List.mem_of_getElem? (i := 7) rfl)
theorem m_23_8 : Cond.methodLink RX7 92 yX7_isDigit ∈ wsL_law := ch_23 _ (List.mem_of_getElem? (i := 8) rfl)
theorem m_23_9 : Cond.static yX7_isDigit ∈ wsL_law := ch_23 _ (List.mem_of_getElem? (i := 9) rfl)
theorem m_23_10 : Cond.code yX7_isDigit cX7_isDigit 1 (some .boolean) ∈ wsL_law := ch_23 _ (List.mem_of_getElem? (i := 10) rfl)
theorem m_29_6 : Cond.constantLong RX12 287 (27) ∈ wsL_law := ch_29 _ (List.mem_of_getElem? (i := 6) rfl)
theorem m_29_7 : Cond.constantLong RX12 289 (96) ∈ wsL_law := ch_29 _ (List.mem_of_getElem? (i := 7) rfl)
theorem m_55_15 : Cond.constant RX12 466 (100000) ∈ wsL_law := ch_55 _ (List.mem_of_getElem? (i := 15) rfl)
theorem m_56_19 : Cond.constant RX11 368 (100000) ∈ wsL_law := ch_56 _ (List.mem_of_getElem? (i := 19) rfl)
theorem kd20_0 : (decode cX10_isSo 0 = .ok (.iload_n 0, 1)) ∧ (decode cX10_isSo 1 = .ok (.bipush 64, 2)) ∧ (decode cX10_isSo 3 = .ok (.idiv, 1)) ∧ (decode cX10_isSo 4 = .ok (.istore_n 2, 1)) ∧ (decode cX10_isSo 5 = .ok (.iload_n 0, 1)) ∧ (decode cX10_isSo 6 = .ok (.bipush 16, 2)) ∧ (decode cX10_isSo 8 = .ok (.idiv, 1)) ∧ (decode cX10_isSo 9 = .ok (.iconst 4, 1)) ∧ (decode cX10_isSo 10 = .ok (.irem, 1)) ∧ (decode cX10_isSo 11 = .ok (.istore_n 3, 1)) ∧ (decode cX10_isSo 12 = .ok (.iload_n 3, 1)) ∧ (decode cX10_isSo 13 = .ok (.ifCond .ne 14, 3)) := by decide +kernel
theorem kd20_1 : (decode cX10_isSo 16 = .ok (.iload_n 1, 1)) ∧ (decode cX10_isSo 17 = .ok (.iload_n 2, 1)) ∧ (decode cX10_isSo 18 = .ok (.if_icmp .ge 7, 3)) ∧ (decode cX10_isSo 21 = .ok (.iconst 1, 1)) ∧ (decode cX10_isSo 22 = .ok (.goto 4, 3)) ∧ (decode cX10_isSo 25 = .ok (.iconst 0, 1)) ∧ (decode cX10_isSo 26 = .ok (.ireturn, 1)) ∧ (decode cX10_isSo 27 = .ok (.iload_n 3, 1)) ∧ (decode cX10_isSo 28 = .ok (.iconst 2, 1)) ∧ (decode cX10_isSo 29 = .ok (.if_icmp .ne 16, 3)) ∧ (decode cX10_isSo 32 = .ok (.iload_n 1, 1)) ∧ (decode cX10_isSo 33 = .ok (.iload_n 2, 1)) := by decide +kernel
theorem kd20_2 : (decode cX10_isSo 34 = .ok (.if_icmp .le 7, 3)) ∧ (decode cX10_isSo 37 = .ok (.iconst 1, 1)) ∧ (decode cX10_isSo 38 = .ok (.goto 17, 3)) ∧ (decode cX10_isSo 41 = .ok (.iconst 0, 1)) ∧ (decode cX10_isSo 42 = .ok (.goto 13, 3)) ∧ (decode cX10_isSo 45 = .ok (.iload_n 1, 1)) ∧ (decode cX10_isSo 46 = .ok (.iload_n 2, 1)) ∧ (decode cX10_isSo 47 = .ok (.if_icmp .ne 7, 3)) ∧ (decode cX10_isSo 50 = .ok (.iconst 1, 1)) ∧ (decode cX10_isSo 51 = .ok (.goto 4, 3)) ∧ (decode cX10_isSo 54 = .ok (.iconst 0, 1)) ∧ (decode cX10_isSo 55 = .ok (.ireturn, 1)) := by decide +kernel
theorem kd20_3 : (decode cX11_backOf 0 = .ok (.iload_n 0, 1)) ∧ (decode cX11_backOf 1 = .ok (.iload_n 1, 1)) ∧ (decode cX11_backOf 2 = .ok (.imul, 1)) ∧ (decode cX11_backOf 3 = .ok (.bipush 100, 2)) ∧ (decode cX11_backOf 5 = .ok (.idiv, 1)) ∧ (decode cX11_backOf 6 = .ok (.ireturn, 1)) ∧ (decode cX11_costOf 0 = .ok (.iload_n 0, 1)) ∧ (decode cX11_costOf 1 = .ok (.iload_n 1, 1)) ∧ (decode cX11_costOf 2 = .ok (.imul, 1)) ∧ (decode cX11_costOf 3 = .ok (.bipush 100, 2)) ∧ (decode cX11_costOf 5 = .ok (.iadd, 1)) ∧ (decode cX11_costOf 6 = .ok (.iconst 1, 1)) := by decide +kernel
theorem kd20_4 : (decode cX11_costOf 7 = .ok (.isub, 1)) ∧ (decode cX11_costOf 8 = .ok (.bipush 100, 2)) ∧ (decode cX11_costOf 10 = .ok (.idiv, 1)) ∧ (decode cX11_costOf 11 = .ok (.ireturn, 1)) ∧ (decode cX11_isBadge 0 = .ok (.iload_n 0, 1)) ∧ (decode cX11_isBadge 1 = .ok (.iconst (-1), 1)) ∧ (decode cX11_isBadge 2 = .ok (.if_icmp .eq 10, 3)) ∧ (decode cX11_isBadge 5 = .ok (.iload_n 0, 1)) ∧ (decode cX11_isBadge 6 = .ok (.invokestatic 159, 3)) ∧ (decode cX11_isBadge 9 = .ok (.ifCond .eq 7, 3)) ∧ (decode cX11_isBadge 12 = .ok (.iconst 1, 1)) ∧ (decode cX11_isBadge 13 = .ok (.goto 4, 3)) := by decide +kernel
theorem kd20_5 : (decode cX11_isBadge 16 = .ok (.iconst 0, 1)) ∧ (decode cX11_isBadge 17 = .ok (.ireturn, 1)) ∧ (decode cX11_isCorner 0 = .ok (.iload_n 0, 1)) ∧ (decode cX11_isCorner 1 = .ok (.iconst 0, 1)) ∧ (decode cX11_isCorner 2 = .ok (.bipush 9, 2)) ∧ (decode cX11_isCorner 4 = .ok (.invokestatic 115, 3)) ∧ (decode cX11_isCorner 7 = .ok (.ireturn, 1)) ∧ (decode cX11_isDay 0 = .ok (.iload_n 0, 1)) ∧ (decode cX11_isDay 1 = .ok (.iconst 0, 1)) ∧ (decode cX11_isDay 2 = .ok (.sipush 399, 3)) ∧ (decode cX11_isDay 5 = .ok (.invokestatic 115, 3)) ∧ (decode cX11_isDay 8 = .ok (.ireturn, 1)) := by decide +kernel
theorem kd20_6 : (decode cX11_isHeadline 0 = .ok (.iload_n 0, 1)) ∧ (decode cX11_isHeadline 1 = .ok (.iconst 0, 1)) ∧ (decode cX11_isHeadline 2 = .ok (.iconst 5, 1)) ∧ (decode cX11_isHeadline 3 = .ok (.invokestatic 115, 3)) ∧ (decode cX11_isHeadline 6 = .ok (.ireturn, 1)) ∧ (decode cX11_isOfStrike 0 = .ok (.iload_n 0, 1)) ∧ (decode cX11_isOfStrike 1 = .ok (.iconst 0, 1)) ∧ (decode cX11_isOfStrike 2 = .ok (.ldc_w 368, 3)) ∧ (decode cX11_isOfStrike 5 = .ok (.invokestatic 115, 3)) ∧ (decode cX11_isOfStrike 8 = .ok (.ireturn, 1)) ∧ (decode cX11_isPaper 0 = .ok (.iload_n 0, 1)) ∧ (decode cX11_isPaper 1 = .ok (.iconst 0, 1)) := by decide +kernel
theorem kd20_7 : (decode cX11_isPaper 2 = .ok (.iconst 3, 1)) ∧ (decode cX11_isPaper 3 = .ok (.invokestatic 115, 3)) ∧ (decode cX11_isPaper 6 = .ok (.ireturn, 1)) ∧ (decode cX11_isSum 0 = .ok (.iload_n 0, 1)) ∧ (decode cX11_isSum 1 = .ok (.iconst 1, 1)) ∧ (decode cX11_isSum 2 = .ok (.sipush 255, 3)) ∧ (decode cX11_isSum 5 = .ok (.invokestatic 115, 3)) ∧ (decode cX11_isSum 8 = .ok (.ireturn, 1)) ∧ (decode cX11_isWeather 0 = .ok (.iload_n 0, 1)) ∧ (decode cX11_isWeather 1 = .ok (.iconst 0, 1)) ∧ (decode cX11_isWeather 2 = .ok (.iconst 3, 1)) ∧ (decode cX11_isWeather 3 = .ok (.invokestatic 115, 3)) := by decide +kernel
theorem kd20_8 : (decode cX11_isWeather 6 = .ok (.ireturn, 1)) ∧ (decode cX11_paidFor 0 = .ok (.iload_n 0, 1)) ∧ (decode cX11_paidFor 1 = .ok (.iload_n 1, 1)) ∧ (decode cX11_paidFor 2 = .ok (.imul, 1)) ∧ (decode cX11_paidFor 3 = .ok (.bipush 100, 2)) ∧ (decode cX11_paidFor 5 = .ok (.idiv, 1)) ∧ (decode cX11_paidFor 6 = .ok (.ireturn, 1)) ∧ (decode cX11_placeOf 0 = .ok (.iload_n 0, 1)) ∧ (decode cX11_placeOf 1 = .ok (.iconst 4, 1)) ∧ (decode cX11_placeOf 2 = .ok (.imul, 1)) ∧ (decode cX11_placeOf 3 = .ok (.iload_n 1, 1)) ∧ (decode cX11_placeOf 4 = .ok (.iadd, 1)) := by decide +kernel
theorem kd20_9 : (decode cX11_placeOf 5 = .ok (.bipush 10, 2)) ∧ (decode cX11_placeOf 7 = .ok (.imul, 1)) ∧ (decode cX11_placeOf 8 = .ok (.iload_n 2, 1)) ∧ (decode cX11_placeOf 9 = .ok (.iadd, 1)) ∧ (decode cX11_placeOf 10 = .ok (.ireturn, 1)) ∧ (decode cX11_within 0 = .ok (.iload_n 0, 1)) ∧ (decode cX11_within 1 = .ok (.iload_n 1, 1)) ∧ (decode cX11_within 2 = .ok (.if_icmp .lt 12, 3)) ∧ (decode cX11_within 5 = .ok (.iload_n 0, 1)) ∧ (decode cX11_within 6 = .ok (.iload_n 2, 1)) ∧ (decode cX11_within 7 = .ok (.if_icmp .gt 7, 3)) ∧ (decode cX11_within 10 = .ok (.iconst 1, 1)) := by decide +kernel
theorem kd20_10 : (decode cX11_within 11 = .ok (.goto 4, 3)) ∧ (decode cX11_within 14 = .ok (.iconst 0, 1)) ∧ (decode cX11_within 15 = .ok (.ireturn, 1)) ∧ (decode cX12_cost 0 = .ok (.iload_n 0, 1)) ∧ (decode cX12_cost 1 = .ok (.iload_n 1, 1)) ∧ (decode cX12_cost 2 = .ok (.imul, 1)) ∧ (decode cX12_cost 3 = .ok (.bipush 99, 2)) ∧ (decode cX12_cost 5 = .ok (.iadd, 1)) ∧ (decode cX12_cost 6 = .ok (.bipush 100, 2)) ∧ (decode cX12_cost 8 = .ok (.idiv, 1)) ∧ (decode cX12_cost 9 = .ok (.ireturn, 1)) ∧ (decode cX12_isCorner 0 = .ok (.iload_n 0, 1)) := by decide +kernel
theorem kd20_11 : (decode cX12_isCorner 1 = .ok (.ifCond .lt 13, 3)) ∧ (decode cX12_isCorner 4 = .ok (.iload_n 0, 1)) ∧ (decode cX12_isCorner 5 = .ok (.bipush 10, 2)) ∧ (decode cX12_isCorner 7 = .ok (.if_icmp .ge 7, 3)) ∧ (decode cX12_isCorner 10 = .ok (.iconst 1, 1)) ∧ (decode cX12_isCorner 11 = .ok (.goto 4, 3)) ∧ (decode cX12_isCorner 14 = .ok (.iconst 0, 1)) ∧ (decode cX12_isCorner 15 = .ok (.ireturn, 1)) ∧ (decode cX12_isDay 0 = .ok (.iload_n 0, 1)) ∧ (decode cX12_isDay 1 = .ok (.ifCond .lt 14, 3)) ∧ (decode cX12_isDay 4 = .ok (.iload_n 0, 1)) ∧ (decode cX12_isDay 5 = .ok (.sipush 400, 3)) := by decide +kernel
theorem kd20_12 : (decode cX12_isDay 8 = .ok (.if_icmp .ge 7, 3)) ∧ (decode cX12_isDay 11 = .ok (.iconst 1, 1)) ∧ (decode cX12_isDay 12 = .ok (.goto 4, 3)) ∧ (decode cX12_isDay 15 = .ok (.iconst 0, 1)) ∧ (decode cX12_isDay 16 = .ok (.ireturn, 1)) ∧ (decode cX12_isDigit 0 = .ok (.iload_n 0, 1)) ∧ (decode cX12_isDigit 1 = .ok (.bipush 48, 2)) ∧ (decode cX12_isDigit 3 = .ok (.if_icmp .lt 13, 3)) ∧ (decode cX12_isDigit 6 = .ok (.iload_n 0, 1)) ∧ (decode cX12_isDigit 7 = .ok (.bipush 57, 2)) ∧ (decode cX12_isDigit 9 = .ok (.if_icmp .gt 7, 3)) ∧ (decode cX12_isDigit 12 = .ok (.iconst 1, 1)) := by decide +kernel
theorem kd20_13 : (decode cX12_isDigit 13 = .ok (.goto 4, 3)) ∧ (decode cX12_isDigit 16 = .ok (.iconst 0, 1)) ∧ (decode cX12_isDigit 17 = .ok (.ireturn, 1)) ∧ (decode cX12_isIn 0 = .ok (.iload_n 0, 1)) ∧ (decode cX12_isIn 1 = .ok (.iload_n 1, 1)) ∧ (decode cX12_isIn 2 = .ok (.if_icmp .lt 12, 3)) ∧ (decode cX12_isIn 5 = .ok (.iload_n 0, 1)) ∧ (decode cX12_isIn 6 = .ok (.iload_n 2, 1)) ∧ (decode cX12_isIn 7 = .ok (.if_icmp .gt 7, 3)) ∧ (decode cX12_isIn 10 = .ok (.iconst 1, 1)) ∧ (decode cX12_isIn 11 = .ok (.goto 4, 3)) ∧ (decode cX12_isIn 14 = .ok (.iconst 0, 1)) := by decide +kernel
theorem kd20_14 : (decode cX12_isIn 15 = .ok (.ireturn, 1)) ∧ (decode cX12_isLetter 0 = .ok (.iload_n 0, 1)) ∧ (decode cX12_isLetter 1 = .ok (.bipush 97, 2)) ∧ (decode cX12_isLetter 3 = .ok (.if_icmp .lt 13, 3)) ∧ (decode cX12_isLetter 6 = .ok (.iload_n 0, 1)) ∧ (decode cX12_isLetter 7 = .ok (.bipush 122, 2)) ∧ (decode cX12_isLetter 9 = .ok (.if_icmp .gt 7, 3)) ∧ (decode cX12_isLetter 12 = .ok (.iconst 1, 1)) ∧ (decode cX12_isLetter 13 = .ok (.goto 4, 3)) ∧ (decode cX12_isLetter 16 = .ok (.iconst 0, 1)) ∧ (decode cX12_isLetter 17 = .ok (.ireturn, 1)) ∧ (decode cX12_isMark 0 = .ok (.iload_n 0, 1)) := by decide +kernel
theorem kd20_15 : (decode cX12_isMark 1 = .ok (.bipush 59, 2)) ∧ (decode cX12_isMark 3 = .ok (.if_icmp .eq 33, 3)) ∧ (decode cX12_isMark 6 = .ok (.iload_n 0, 1)) ∧ (decode cX12_isMark 7 = .ok (.bipush 40, 2)) ∧ (decode cX12_isMark 9 = .ok (.if_icmp .eq 27, 3)) ∧ (decode cX12_isMark 12 = .ok (.iload_n 0, 1)) ∧ (decode cX12_isMark 13 = .ok (.bipush 41, 2)) ∧ (decode cX12_isMark 15 = .ok (.if_icmp .eq 21, 3)) ∧ (decode cX12_isMark 18 = .ok (.iload_n 0, 1)) ∧ (decode cX12_isMark 19 = .ok (.bipush 60, 2)) ∧ (decode cX12_isMark 21 = .ok (.if_icmp .eq 15, 3)) ∧ (decode cX12_isMark 24 = .ok (.iload_n 0, 1)) := by decide +kernel
theorem kd20_16 : (decode cX12_isMark 25 = .ok (.bipush 61, 2)) ∧ (decode cX12_isMark 27 = .ok (.if_icmp .eq 9, 3)) ∧ (decode cX12_isMark 30 = .ok (.iload_n 0, 1)) ∧ (decode cX12_isMark 31 = .ok (.bipush 62, 2)) ∧ (decode cX12_isMark 33 = .ok (.if_icmp .ne 7, 3)) ∧ (decode cX12_isMark 36 = .ok (.iconst 1, 1)) ∧ (decode cX12_isMark 37 = .ok (.goto 4, 3)) ∧ (decode cX12_isMark 40 = .ok (.iconst 0, 1)) ∧ (decode cX12_isMark 41 = .ok (.ireturn, 1)) ∧ (decode cX12_isPaper 0 = .ok (.iload_n 0, 1)) ∧ (decode cX12_isPaper 1 = .ok (.ifCond .lt 12, 3)) ∧ (decode cX12_isPaper 4 = .ok (.iload_n 0, 1)) := by decide +kernel
theorem kd20_17 : (decode cX12_isPaper 5 = .ok (.iconst 4, 1)) ∧ (decode cX12_isPaper 6 = .ok (.if_icmp .ge 7, 3)) ∧ (decode cX12_isPaper 9 = .ok (.iconst 1, 1)) ∧ (decode cX12_isPaper 10 = .ok (.goto 4, 3)) ∧ (decode cX12_isPaper 13 = .ok (.iconst 0, 1)) ∧ (decode cX12_isPaper 14 = .ok (.ireturn, 1)) ∧ (decode cX12_isSum 0 = .ok (.iload_n 0, 1)) ∧ (decode cX12_isSum 1 = .ok (.ifCond .lt 14, 3)) ∧ (decode cX12_isSum 4 = .ok (.iload_n 0, 1)) ∧ (decode cX12_isSum 5 = .ok (.ldc_w 466, 3)) ∧ (decode cX12_isSum 8 = .ok (.if_icmp .gt 7, 3)) ∧ (decode cX12_isSum 11 = .ok (.iconst 1, 1)) := by decide +kernel
theorem kd20_18 : (decode cX12_isSum 12 = .ok (.goto 4, 3)) ∧ (decode cX12_isSum 15 = .ok (.iconst 0, 1)) ∧ (decode cX12_isSum 16 = .ok (.ireturn, 1)) ∧ (decode cX12_spelt 0 = .ok (.ldc2_w 287, 3)) ∧ (decode cX12_spelt 3 = .ok (.iload_n 0, 1)) ∧ (decode cX12_spelt 4 = .ok (.i2l, 1)) ∧ (decode cX12_spelt 5 = .ok (.ldc2_w 289, 3)) ∧ (decode cX12_spelt 8 = .ok (.lsub, 1)) ∧ (decode cX12_spelt 9 = .ok (.lmul, 1)) ∧ (decode cX12_spelt 10 = .ok (.iload_n 1, 1)) ∧ (decode cX12_spelt 11 = .ok (.i2l, 1)) ∧ (decode cX12_spelt 12 = .ok (.ladd, 1)) := by decide +kernel
theorem kd20_19 : (decode cX12_spelt 13 = .ok (.ldc2_w 289, 3)) ∧ (decode cX12_spelt 16 = .ok (.lsub, 1)) ∧ (decode cX12_spelt 17 = .ok (.lstore 5, 2)) ∧ (decode cX12_spelt 19 = .ok (.iload_n 2, 1)) ∧ (decode cX12_spelt 20 = .ok (.ifCond .le 18, 3)) ∧ (decode cX12_spelt 23 = .ok (.ldc2_w 287, 3)) ∧ (decode cX12_spelt 26 = .ok (.lload 5, 2)) ∧ (decode cX12_spelt 28 = .ok (.lmul, 1)) ∧ (decode cX12_spelt 29 = .ok (.iload_n 2, 1)) ∧ (decode cX12_spelt 30 = .ok (.i2l, 1)) ∧ (decode cX12_spelt 31 = .ok (.ladd, 1)) ∧ (decode cX12_spelt 32 = .ok (.ldc2_w 289, 3)) := by decide +kernel
theorem kd20_20 : (decode cX12_spelt 35 = .ok (.lsub, 1)) ∧ (decode cX12_spelt 36 = .ok (.lstore 5, 2)) ∧ (decode cX12_spelt 38 = .ok (.iload_n 3, 1)) ∧ (decode cX12_spelt 39 = .ok (.ifCond .le 18, 3)) ∧ (decode cX12_spelt 42 = .ok (.ldc2_w 287, 3)) ∧ (decode cX12_spelt 45 = .ok (.lload 5, 2)) ∧ (decode cX12_spelt 47 = .ok (.lmul, 1)) ∧ (decode cX12_spelt 48 = .ok (.iload_n 3, 1)) ∧ (decode cX12_spelt 49 = .ok (.i2l, 1)) ∧ (decode cX12_spelt 50 = .ok (.ladd, 1)) ∧ (decode cX12_spelt 51 = .ok (.ldc2_w 289, 3)) ∧ (decode cX12_spelt 54 = .ok (.lsub, 1)) := by decide +kernel
theorem kd20_21 : (decode cX12_spelt 55 = .ok (.lstore 5, 2)) ∧ (decode cX12_spelt 57 = .ok (.iload 4, 2)) ∧ (decode cX12_spelt 59 = .ok (.ifCond .le 20, 3)) ∧ (decode cX12_spelt 62 = .ok (.ldc2_w 287, 3)) ∧ (decode cX12_spelt 65 = .ok (.lload 5, 2)) ∧ (decode cX12_spelt 67 = .ok (.lmul, 1)) ∧ (decode cX12_spelt 68 = .ok (.iload 4, 2)) ∧ (decode cX12_spelt 70 = .ok (.i2l, 1)) ∧ (decode cX12_spelt 71 = .ok (.ladd, 1)) ∧ (decode cX12_spelt 72 = .ok (.ldc2_w 289, 3)) ∧ (decode cX12_spelt 75 = .ok (.lsub, 1)) ∧ (decode cX12_spelt 76 = .ok (.goto 5, 3)) := by decide +kernel
theorem kd20_22 : (decode cX12_spelt 79 = .ok (.lload 5, 2)) ∧ (decode cX12_spelt 81 = .ok (.lreturn, 1)) ∧ (decode cX12_usual 0 = .ok (.iload_n 0, 1)) ∧ (decode cX12_usual 1 = .ok (.tableswitch 48 0 4 #[35, 38, 40, 42, 46], 35)) ∧ (decode cX12_usual 36 = .ok (.bipush 60, 2)) ∧ (decode cX12_usual 38 = .ok (.ireturn, 1)) ∧ (decode cX12_usual 39 = .ok (.iconst 1, 1)) ∧ (decode cX12_usual 40 = .ok (.ireturn, 1)) ∧ (decode cX12_usual 41 = .ok (.iconst 0, 1)) ∧ (decode cX12_usual 42 = .ok (.ireturn, 1)) ∧ (decode cX12_usual 43 = .ok (.sipush 200, 3)) ∧ (decode cX12_usual 46 = .ok (.ireturn, 1)) := by decide +kernel
theorem kd20_23 : (decode cX12_usual 47 = .ok (.iconst 1, 1)) ∧ (decode cX12_usual 48 = .ok (.ireturn, 1)) ∧ (decode cX12_usual 49 = .ok (.bipush 100, 2)) ∧ (decode cX12_usual 51 = .ok (.ireturn, 1)) ∧ (decode cX7_isDigit 0 = .ok (.iload_n 0, 1)) ∧ (decode cX7_isDigit 1 = .ok (.bipush 48, 2)) ∧ (decode cX7_isDigit 3 = .ok (.if_icmp .lt 13, 3)) ∧ (decode cX7_isDigit 6 = .ok (.iload_n 0, 1)) ∧ (decode cX7_isDigit 7 = .ok (.bipush 57, 2)) ∧ (decode cX7_isDigit 9 = .ok (.if_icmp .gt 7, 3)) ∧ (decode cX7_isDigit 12 = .ok (.iconst 1, 1)) ∧ (decode cX7_isDigit 13 = .ok (.goto 4, 3)) := by decide +kernel
theorem kd20_24 : (decode cX7_isDigit 16 = .ok (.iconst 0, 1)) ∧ (decode cX7_isDigit 17 = .ok (.ireturn, 1)) ∧ (decode cX7_isLetter 0 = .ok (.iload_n 0, 1)) ∧ (decode cX7_isLetter 1 = .ok (.bipush 97, 2)) ∧ (decode cX7_isLetter 3 = .ok (.if_icmp .lt 13, 3)) ∧ (decode cX7_isLetter 6 = .ok (.iload_n 0, 1)) ∧ (decode cX7_isLetter 7 = .ok (.bipush 122, 2)) ∧ (decode cX7_isLetter 9 = .ok (.if_icmp .gt 7, 3)) ∧ (decode cX7_isLetter 12 = .ok (.iconst 1, 1)) ∧ (decode cX7_isLetter 13 = .ok (.goto 4, 3)) ∧ (decode cX7_isLetter 16 = .ok (.iconst 0, 1)) ∧ (decode cX7_isLetter 17 = .ok (.ireturn, 1)) := by decide +kernel
theorem kd20_25 : (decode cX7_isOfName 0 = .ok (.iload_n 0, 1)) ∧ (decode cX7_isOfName 1 = .ok (.invokestatic 89, 3)) ∧ (decode cX7_isOfName 4 = .ok (.ifCond .ne 10, 3)) ∧ (decode cX7_isOfName 7 = .ok (.iload_n 0, 1)) ∧ (decode cX7_isOfName 8 = .ok (.invokestatic 92, 3)) ∧ (decode cX7_isOfName 11 = .ok (.ifCond .eq 7, 3)) ∧ (decode cX7_isOfName 14 = .ok (.iconst 1, 1)) ∧ (decode cX7_isOfName 15 = .ok (.goto 4, 3)) ∧ (decode cX7_isOfName 18 = .ok (.iconst 0, 1)) ∧ (decode cX7_isOfName 19 = .ok (.ireturn, 1)) ∧ (decode cX7_markToken 0 = .ok (.iload_n 0, 1)) ∧ (decode cX7_markToken 1 = .ok (.lookupswitch 76 #[(40, 62), (41, 65), (59, 59), (60, 68), (61, 68), (62, 68)], 59)) := by decide +kernel
theorem kd20_26 : (decode cX7_markToken 60 = .ok (.bipush 24, 2)) ∧ (decode cX7_markToken 62 = .ok (.ireturn, 1)) ∧ (decode cX7_markToken 63 = .ok (.bipush 25, 2)) ∧ (decode cX7_markToken 65 = .ok (.ireturn, 1)) ∧ (decode cX7_markToken 66 = .ok (.bipush 26, 2)) ∧ (decode cX7_markToken 68 = .ok (.ireturn, 1)) ∧ (decode cX7_markToken 69 = .ok (.bipush 27, 2)) ∧ (decode cX7_markToken 71 = .ok (.iload_n 0, 1)) ∧ (decode cX7_markToken 72 = .ok (.iadd, 1)) ∧ (decode cX7_markToken 73 = .ok (.bipush 60, 2)) ∧ (decode cX7_markToken 75 = .ok (.isub, 1)) ∧ (decode cX7_markToken 76 = .ok (.ireturn, 1)) := by decide +kernel
theorem kd20_27 : (decode cX7_markToken 77 = .ok (.bipush 22, 2)) ∧ (decode cX7_markToken 79 = .ok (.ireturn, 1)) := by decide +kernel
theorem lk_X11_115 : xLS RX11 115 yX11_within cX11_within 3 (some .boolean) 3 := ⟨m_12_8, m_12_9, m_1_2, m_12_10, by decide +kernel⟩
theorem lk_X11_159 : xLS RX11 159 yX11_isDay cX11_isDay 1 (some .boolean) 1 := ⟨m_12_14, m_12_15, m_1_2, m_12_16, by decide +kernel⟩
theorem lk_X7_89 : xLS RX7 89 yX7_isLetter cX7_isLetter 1 (some .boolean) 1 := ⟨m_23_5, m_23_6, m_2_13, m_23_7, by decide +kernel⟩
theorem lk_X7_92 : xLS RX7 92 yX7_isDigit cX7_isDigit 1 (some .boolean) 1 := ⟨m_23_8, m_23_9, m_2_13, m_23_10, by decide +kernel⟩
set_option maxHeartbeats 4000000 in
set_option maxRecDepth 100000 in
theorem c_X11_within (l : Launch) (D : va_G) (kA : Nat → ClassId) (b0 : Nat) (t0 : Nat → Nat) (S : xT) (g : xG) (x0 : Int) (x1 : Int) (x2 : Int) (hx0 : (-2147483648) ≤ x0 ∧ x0 ≤ 2147483647) (hx1 : (-2147483648) ≤ x1 ∧ x1 ≤ 2147483647) (hx2 : (-2147483648) ≤ x2 ∧ x2 ≤ 2147483647) : xMt l yX11_within cX11_within 3 (some .boolean) 0 0 0 0 D kA b0 t0 [] [.int (iI x0), .int (iI x1), .int (iI x2)] S g (fun (r : Option Value) (S1 : xT) (g1 : xG) => S = S1 ∧ g = g1 ∧ ∃ z : Int, r = some (.int (iI z)) ∧ 0 ≤ z ∧ z ≤ 1 ∧ ((z = 1 ↔ x1 ≤ x0 ∧ x0 ≤ x2))) := by
  refine xEnterZ (by decide) (by simp [lg_sl, Value.category]) [(0, .int (iI x0)), (1, .int (iI x1)), (2, .int (iI x2))] rfl ?_
  intro K E hK hret _ _ _
  refine X_iloadn hK (i := 0) 0 kd20_9.2.2.2.2.2.1 rfl rfl ?_
  refine X_iloadn hK (i := 1) 1 kd20_9.2.2.2.2.2.2.1 rfl rfl ?_
  refine X_icmp_lt hK 14 (by omega) (by omega) kd20_9.2.2.2.2.2.2.2.1 (by decide) (fun c1 => ?_) (fun c1 => ?_)
  · refine X_iconst hK kd20_10.2.1 ?_
    exact hret _ _ _ _ _ _ _ kd20_10.2.2.1 (by omega) (by omega) ⟨rfl, rfl, 0, rfl, (by omega), (by omega), (by omega)⟩ (Nat.le_refl _) (Nat.le_refl _)
  · refine X_iloadn hK (i := 0) 0 kd20_9.2.2.2.2.2.2.2.2.1 rfl rfl ?_
    refine X_iloadn hK (i := 2) 2 kd20_9.2.2.2.2.2.2.2.2.2.1 rfl rfl ?_
    refine X_icmp_gt hK 14 (by omega) (by omega) kd20_9.2.2.2.2.2.2.2.2.2.2.1 (by decide) (fun c2 => ?_) (fun c2 => ?_)
    · refine X_iconst hK kd20_10.2.1 ?_
      exact hret _ _ _ _ _ _ _ kd20_10.2.2.1 (by omega) (by omega) ⟨rfl, rfl, 0, rfl, (by omega), (by omega), (by omega)⟩ (Nat.le_refl _) (Nat.le_refl _)
    · refine X_iconst hK kd20_9.2.2.2.2.2.2.2.2.2.2.2 ?_
      refine X_goto hK 15 kd20_10.1 (by decide) ?_
      exact hret _ _ _ _ _ _ _ kd20_10.2.2.1 (by omega) (by omega) ⟨rfl, rfl, 1, rfl, (by omega), (by omega), (by omega)⟩ (Nat.le_refl _) (Nat.le_refl _)

set_option maxHeartbeats 4000000 in
set_option maxRecDepth 100000 in
theorem c_X11_isDay (l : Launch) (D : va_G) (kA : Nat → ClassId) (b0 : Nat) (t0 : Nat → Nat) (S : xT) (g : xG) (x0 : Int) (hx0 : (-2147483648) ≤ x0 ∧ x0 ≤ 2147483647) : xMt l yX11_isDay cX11_isDay 1 (some .boolean) 1 0 0 22 D kA b0 t0 [] [.int (iI x0)] S g (fun (r : Option Value) (S1 : xT) (g1 : xG) => S = S1 ∧ g = g1 ∧ ∃ z : Int, r = some (.int (iI z)) ∧ 0 ≤ z ∧ z ≤ 1 ∧ ((z = 1 ↔ 0 ≤ x0 ∧ x0 ≤ 399))) := by
  refine xEnterZ (by decide) (by simp [lg_sl, Value.category]) [(0, .int (iI x0))] rfl ?_
  intro K E hK hret _ _ _
  refine X_iloadn hK (i := 0) 0 kd20_5.2.2.2.2.2.2.2.1 rfl rfl ?_
  refine X_iconst hK kd20_5.2.2.2.2.2.2.2.2.1 ?_
  refine X_sipush hK kd20_5.2.2.2.2.2.2.2.2.2.1 (by decide) ?_
  refine X_callS hK [.int (iI x0), .int (iI 0), .int (iI 399)] [] lk_X11_115 (c_X11_within _ _ _ _ _ S g x0 0 399 (by omega) (by omega) (by omega)) kd20_5.2.2.2.2.2.2.2.2.2.2.1 rfl rfl (by simp [Value.category]) (by decide) (by decide) (by decide) (by decide) (fun r1 S3 g2 pr1 qr1 hg2 => ?_)
  obtain ⟨rfl, rfl, z4, rfl, lz4, uz4, k5⟩ := pr1
  refine X_st [.int (iI z4)] rfl ?_
  exact hret _ _ _ _ _ _ _ kd20_5.2.2.2.2.2.2.2.2.2.2.2 (by omega) (by omega) ⟨rfl, rfl, z4, rfl, (by omega), (by omega), (by omega)⟩ (Nat.le_refl _) (Nat.le_refl _)

set_option maxHeartbeats 4000000 in
set_option maxRecDepth 100000 in
theorem c_X11_isCorner (l : Launch) (D : va_G) (kA : Nat → ClassId) (b0 : Nat) (t0 : Nat → Nat) (S : xT) (g : xG) (x0 : Int) (hx0 : (-2147483648) ≤ x0 ∧ x0 ≤ 2147483647) : xMt l yX11_isCorner cX11_isCorner 1 (some .boolean) 1 0 0 22 D kA b0 t0 [] [.int (iI x0)] S g (fun (r : Option Value) (S1 : xT) (g1 : xG) => S = S1 ∧ g = g1 ∧ ∃ z : Int, r = some (.int (iI z)) ∧ 0 ≤ z ∧ z ≤ 1 ∧ ((z = 1 ↔ 0 ≤ x0 ∧ x0 ≤ 9))) := by
  refine xEnterZ (by decide) (by simp [lg_sl, Value.category]) [(0, .int (iI x0))] rfl ?_
  intro K E hK hret _ _ _
  refine X_iloadn hK (i := 0) 0 kd20_5.2.2.1 rfl rfl ?_
  refine X_iconst hK kd20_5.2.2.2.1 ?_
  refine X_bipush hK kd20_5.2.2.2.2.1 (by decide) ?_
  refine X_callS hK [.int (iI x0), .int (iI 0), .int (iI 9)] [] lk_X11_115 (c_X11_within _ _ _ _ _ S g x0 0 9 (by omega) (by omega) (by omega)) kd20_5.2.2.2.2.2.1 rfl rfl (by simp [Value.category]) (by decide) (by decide) (by decide) (by decide) (fun r1 S3 g2 pr1 qr1 hg2 => ?_)
  obtain ⟨rfl, rfl, z4, rfl, lz4, uz4, k5⟩ := pr1
  refine X_st [.int (iI z4)] rfl ?_
  exact hret _ _ _ _ _ _ _ kd20_5.2.2.2.2.2.2.1 (by omega) (by omega) ⟨rfl, rfl, z4, rfl, (by omega), (by omega), (by omega)⟩ (Nat.le_refl _) (Nat.le_refl _)

set_option maxHeartbeats 4000000 in
set_option maxRecDepth 100000 in
theorem c_X11_isPaper (l : Launch) (D : va_G) (kA : Nat → ClassId) (b0 : Nat) (t0 : Nat → Nat) (S : xT) (g : xG) (x0 : Int) (hx0 : (-2147483648) ≤ x0 ∧ x0 ≤ 2147483647) : xMt l yX11_isPaper cX11_isPaper 1 (some .boolean) 1 0 0 22 D kA b0 t0 [] [.int (iI x0)] S g (fun (r : Option Value) (S1 : xT) (g1 : xG) => S = S1 ∧ g = g1 ∧ ∃ z : Int, r = some (.int (iI z)) ∧ 0 ≤ z ∧ z ≤ 1 ∧ ((z = 1 ↔ 0 ≤ x0 ∧ x0 ≤ 3))) := by
  refine xEnterZ (by decide) (by simp [lg_sl, Value.category]) [(0, .int (iI x0))] rfl ?_
  intro K E hK hret _ _ _
  refine X_iloadn hK (i := 0) 0 kd20_6.2.2.2.2.2.2.2.2.2.2.1 rfl rfl ?_
  refine X_iconst hK kd20_6.2.2.2.2.2.2.2.2.2.2.2 ?_
  refine X_iconst hK kd20_7.1 ?_
  refine X_callS hK [.int (iI x0), .int (iI 0), .int (iI 3)] [] lk_X11_115 (c_X11_within _ _ _ _ _ S g x0 0 3 (by omega) (by omega) (by omega)) kd20_7.2.1 rfl rfl (by simp [Value.category]) (by decide) (by decide) (by decide) (by decide) (fun r1 S3 g2 pr1 qr1 hg2 => ?_)
  obtain ⟨rfl, rfl, z4, rfl, lz4, uz4, k5⟩ := pr1
  refine X_st [.int (iI z4)] rfl ?_
  exact hret _ _ _ _ _ _ _ kd20_7.2.2.1 (by omega) (by omega) ⟨rfl, rfl, z4, rfl, (by omega), (by omega), (by omega)⟩ (Nat.le_refl _) (Nat.le_refl _)

set_option maxHeartbeats 4000000 in
set_option maxRecDepth 100000 in
theorem c_X11_isWeather (l : Launch) (D : va_G) (kA : Nat → ClassId) (b0 : Nat) (t0 : Nat → Nat) (S : xT) (g : xG) (x0 : Int) (hx0 : (-2147483648) ≤ x0 ∧ x0 ≤ 2147483647) : xMt l yX11_isWeather cX11_isWeather 1 (some .boolean) 1 0 0 22 D kA b0 t0 [] [.int (iI x0)] S g (fun (r : Option Value) (S1 : xT) (g1 : xG) => S = S1 ∧ g = g1 ∧ ∃ z : Int, r = some (.int (iI z)) ∧ 0 ≤ z ∧ z ≤ 1 ∧ ((z = 1 ↔ 0 ≤ x0 ∧ x0 ≤ 3))) := by
  refine xEnterZ (by decide) (by simp [lg_sl, Value.category]) [(0, .int (iI x0))] rfl ?_
  intro K E hK hret _ _ _
  refine X_iloadn hK (i := 0) 0 kd20_7.2.2.2.2.2.2.2.2.1 rfl rfl ?_
  refine X_iconst hK kd20_7.2.2.2.2.2.2.2.2.2.1 ?_
  refine X_iconst hK kd20_7.2.2.2.2.2.2.2.2.2.2.1 ?_
  refine X_callS hK [.int (iI x0), .int (iI 0), .int (iI 3)] [] lk_X11_115 (c_X11_within _ _ _ _ _ S g x0 0 3 (by omega) (by omega) (by omega)) kd20_7.2.2.2.2.2.2.2.2.2.2.2 rfl rfl (by simp [Value.category]) (by decide) (by decide) (by decide) (by decide) (fun r1 S3 g2 pr1 qr1 hg2 => ?_)
  obtain ⟨rfl, rfl, z4, rfl, lz4, uz4, k5⟩ := pr1
  refine X_st [.int (iI z4)] rfl ?_
  exact hret _ _ _ _ _ _ _ kd20_8.1 (by omega) (by omega) ⟨rfl, rfl, z4, rfl, (by omega), (by omega), (by omega)⟩ (Nat.le_refl _) (Nat.le_refl _)

set_option maxHeartbeats 4000000 in
set_option maxRecDepth 100000 in
theorem c_X11_isHeadline (l : Launch) (D : va_G) (kA : Nat → ClassId) (b0 : Nat) (t0 : Nat → Nat) (S : xT) (g : xG) (x0 : Int) (hx0 : (-2147483648) ≤ x0 ∧ x0 ≤ 2147483647) : xMt l yX11_isHeadline cX11_isHeadline 1 (some .boolean) 1 0 0 22 D kA b0 t0 [] [.int (iI x0)] S g (fun (r : Option Value) (S1 : xT) (g1 : xG) => S = S1 ∧ g = g1 ∧ ∃ z : Int, r = some (.int (iI z)) ∧ 0 ≤ z ∧ z ≤ 1 ∧ ((z = 1 ↔ 0 ≤ x0 ∧ x0 ≤ 5))) := by
  refine xEnterZ (by decide) (by simp [lg_sl, Value.category]) [(0, .int (iI x0))] rfl ?_
  intro K E hK hret _ _ _
  refine X_iloadn hK (i := 0) 0 kd20_6.1 rfl rfl ?_
  refine X_iconst hK kd20_6.2.1 ?_
  refine X_iconst hK kd20_6.2.2.1 ?_
  refine X_callS hK [.int (iI x0), .int (iI 0), .int (iI 5)] [] lk_X11_115 (c_X11_within _ _ _ _ _ S g x0 0 5 (by omega) (by omega) (by omega)) kd20_6.2.2.2.1 rfl rfl (by simp [Value.category]) (by decide) (by decide) (by decide) (by decide) (fun r1 S3 g2 pr1 qr1 hg2 => ?_)
  obtain ⟨rfl, rfl, z4, rfl, lz4, uz4, k5⟩ := pr1
  refine X_st [.int (iI z4)] rfl ?_
  exact hret _ _ _ _ _ _ _ kd20_6.2.2.2.2.1 (by omega) (by omega) ⟨rfl, rfl, z4, rfl, (by omega), (by omega), (by omega)⟩ (Nat.le_refl _) (Nat.le_refl _)

set_option maxHeartbeats 4000000 in
set_option maxRecDepth 100000 in
theorem c_X11_isSum (l : Launch) (D : va_G) (kA : Nat → ClassId) (b0 : Nat) (t0 : Nat → Nat) (S : xT) (g : xG) (x0 : Int) (hx0 : (-2147483648) ≤ x0 ∧ x0 ≤ 2147483647) : xMt l yX11_isSum cX11_isSum 1 (some .boolean) 1 0 0 22 D kA b0 t0 [] [.int (iI x0)] S g (fun (r : Option Value) (S1 : xT) (g1 : xG) => S = S1 ∧ g = g1 ∧ ∃ z : Int, r = some (.int (iI z)) ∧ 0 ≤ z ∧ z ≤ 1 ∧ ((z = 1 ↔ 1 ≤ x0 ∧ x0 ≤ 255))) := by
  refine xEnterZ (by decide) (by simp [lg_sl, Value.category]) [(0, .int (iI x0))] rfl ?_
  intro K E hK hret _ _ _
  refine X_iloadn hK (i := 0) 0 kd20_7.2.2.2.1 rfl rfl ?_
  refine X_iconst hK kd20_7.2.2.2.2.1 ?_
  refine X_sipush hK kd20_7.2.2.2.2.2.1 (by decide) ?_
  refine X_callS hK [.int (iI x0), .int (iI 1), .int (iI 255)] [] lk_X11_115 (c_X11_within _ _ _ _ _ S g x0 1 255 (by omega) (by omega) (by omega)) kd20_7.2.2.2.2.2.2.1 rfl rfl (by simp [Value.category]) (by decide) (by decide) (by decide) (by decide) (fun r1 S3 g2 pr1 qr1 hg2 => ?_)
  obtain ⟨rfl, rfl, z4, rfl, lz4, uz4, k5⟩ := pr1
  refine X_st [.int (iI z4)] rfl ?_
  exact hret _ _ _ _ _ _ _ kd20_7.2.2.2.2.2.2.2.1 (by omega) (by omega) ⟨rfl, rfl, z4, rfl, (by omega), (by omega), (by omega)⟩ (Nat.le_refl _) (Nat.le_refl _)

set_option maxHeartbeats 4000000 in
set_option maxRecDepth 100000 in
theorem c_X11_isOfStrike (l : Launch) (D : va_G) (kA : Nat → ClassId) (b0 : Nat) (t0 : Nat → Nat) (S : xT) (g : xG) (x0 : Int) (hx0 : (-2147483648) ≤ x0 ∧ x0 ≤ 2147483647) : xMt l yX11_isOfStrike cX11_isOfStrike 1 (some .boolean) 1 0 0 22 D kA b0 t0 [] [.int (iI x0)] S g (fun (r : Option Value) (S1 : xT) (g1 : xG) => S = S1 ∧ g = g1 ∧ ∃ z : Int, r = some (.int (iI z)) ∧ 0 ≤ z ∧ z ≤ 1 ∧ ((z = 1 ↔ 0 ≤ x0 ∧ x0 ≤ 100000))) := by
  refine xEnterZ (by decide) (by simp [lg_sl, Value.category]) [(0, .int (iI x0))] rfl ?_
  intro K E hK hret _ _ _
  refine X_iloadn hK (i := 0) 0 kd20_6.2.2.2.2.2.1 rfl rfl ?_
  refine X_iconst hK kd20_6.2.2.2.2.2.2.1 ?_
  refine X_ldcw hK (n := 100000) kd20_6.2.2.2.2.2.2.2.1 m_56_19 (by decide) ?_
  refine X_callS hK [.int (iI x0), .int (iI 0), .int (iI 100000)] [] lk_X11_115 (c_X11_within _ _ _ _ _ S g x0 0 100000 (by omega) (by omega) (by omega)) kd20_6.2.2.2.2.2.2.2.2.1 rfl rfl (by simp [Value.category]) (by decide) (by decide) (by decide) (by decide) (fun r1 S3 g2 pr1 qr1 hg2 => ?_)
  obtain ⟨rfl, rfl, z4, rfl, lz4, uz4, k5⟩ := pr1
  refine X_st [.int (iI z4)] rfl ?_
  exact hret _ _ _ _ _ _ _ kd20_6.2.2.2.2.2.2.2.2.2.1 (by omega) (by omega) ⟨rfl, rfl, z4, rfl, (by omega), (by omega), (by omega)⟩ (Nat.le_refl _) (Nat.le_refl _)

set_option maxHeartbeats 4000000 in
set_option maxRecDepth 100000 in
theorem c_X11_isBadge (l : Launch) (D : va_G) (kA : Nat → ClassId) (b0 : Nat) (t0 : Nat → Nat) (S : xT) (g : xG) (x0 : Int) (hx0 : (-2147483648) ≤ x0 ∧ x0 ≤ 2147483647) : xMt l yX11_isBadge cX11_isBadge 1 (some .boolean) 2 0 0 42 D kA b0 t0 [] [.int (iI x0)] S g (fun (r : Option Value) (S1 : xT) (g1 : xG) => S = S1 ∧ g = g1 ∧ ∃ z : Int, r = some (.int (iI z)) ∧ 0 ≤ z ∧ z ≤ 1 ∧ ((z = 1 ↔ -1 ≤ x0 ∧ x0 ≤ 399))) := by
  refine xEnterZ (by decide) (by simp [lg_sl, Value.category]) [(0, .int (iI x0))] rfl ?_
  intro K E hK hret _ _ _
  refine X_iloadn hK (i := 0) 0 kd20_4.2.2.2.2.1 rfl rfl ?_
  refine X_iconst hK kd20_4.2.2.2.2.2.1 ?_
  refine X_icmp_eq hK 12 (by omega) (by omega) kd20_4.2.2.2.2.2.2.1 (by decide) (fun c1 => ?_) (fun c1 => ?_)
  · refine X_iconst hK kd20_4.2.2.2.2.2.2.2.2.2.2.1 ?_
    refine X_goto hK 17 kd20_4.2.2.2.2.2.2.2.2.2.2.2 (by decide) ?_
    exact hret _ _ _ _ _ _ _ kd20_5.2.1 (by omega) (by omega) ⟨rfl, rfl, 1, rfl, (by omega), (by omega), (by omega)⟩ (Nat.le_refl _) (Nat.le_refl _)
  · refine X_iloadn hK (i := 0) 0 kd20_4.2.2.2.2.2.2.2.1 rfl rfl ?_
    refine X_callS hK [.int (iI x0)] [] lk_X11_159 (c_X11_isDay _ _ _ _ _ S g x0 (by omega)) kd20_4.2.2.2.2.2.2.2.2.1 rfl rfl (by simp [Value.category]) (by decide) (by decide) (by decide) (by decide) (fun r2 S4 g3 pr2 qr2 hg3 => ?_)
    obtain ⟨rfl, rfl, z5, rfl, lz5, uz5, k6⟩ := pr2
    refine X_st [.int (iI z5)] rfl ?_
    refine X_if_eq hK 16 (by omega) kd20_4.2.2.2.2.2.2.2.2.2.1 (by decide) (fun c7 => ?_) (fun c7 => ?_)
    · refine X_iconst hK kd20_5.1 ?_
      exact hret _ _ _ _ _ _ _ kd20_5.2.1 (by omega) (by omega) ⟨rfl, rfl, 0, rfl, (by omega), (by omega), (by omega)⟩ (Nat.le_refl _) (Nat.le_refl _)
    · refine X_iconst hK kd20_4.2.2.2.2.2.2.2.2.2.2.1 ?_
      refine X_goto hK 17 kd20_4.2.2.2.2.2.2.2.2.2.2.2 (by decide) ?_
      exact hret _ _ _ _ _ _ _ kd20_5.2.1 (by omega) (by omega) ⟨rfl, rfl, 1, rfl, (by omega), (by omega), (by omega)⟩ (Nat.le_refl _) (Nat.le_refl _)

set_option maxHeartbeats 4000000 in
set_option maxRecDepth 100000 in
theorem c_X12_isIn (l : Launch) (D : va_G) (kA : Nat → ClassId) (b0 : Nat) (t0 : Nat → Nat) (S : xT) (g : xG) (x0 : Int) (x1 : Int) (x2 : Int) (hx0 : (-2147483648) ≤ x0 ∧ x0 ≤ 2147483647) (hx1 : (-2147483648) ≤ x1 ∧ x1 ≤ 2147483647) (hx2 : (-2147483648) ≤ x2 ∧ x2 ≤ 2147483647) : xMt l yX12_isIn cX12_isIn 3 (some .boolean) 0 0 0 0 D kA b0 t0 [] [.int (iI x0), .int (iI x1), .int (iI x2)] S g (fun (r : Option Value) (S1 : xT) (g1 : xG) => S = S1 ∧ g = g1 ∧ ∃ z : Int, r = some (.int (iI z)) ∧ 0 ≤ z ∧ z ≤ 1 ∧ ((z = 1 ↔ x1 ≤ x0 ∧ x0 ≤ x2))) := by
  refine xEnterZ (by decide) (by simp [lg_sl, Value.category]) [(0, .int (iI x0)), (1, .int (iI x1)), (2, .int (iI x2))] rfl ?_
  intro K E hK hret _ _ _
  refine X_iloadn hK (i := 0) 0 kd20_13.2.2.2.1 rfl rfl ?_
  refine X_iloadn hK (i := 1) 1 kd20_13.2.2.2.2.1 rfl rfl ?_
  refine X_icmp_lt hK 14 (by omega) (by omega) kd20_13.2.2.2.2.2.1 (by decide) (fun c1 => ?_) (fun c1 => ?_)
  · refine X_iconst hK kd20_13.2.2.2.2.2.2.2.2.2.2.2 ?_
    exact hret _ _ _ _ _ _ _ kd20_14.1 (by omega) (by omega) ⟨rfl, rfl, 0, rfl, (by omega), (by omega), (by omega)⟩ (Nat.le_refl _) (Nat.le_refl _)
  · refine X_iloadn hK (i := 0) 0 kd20_13.2.2.2.2.2.2.1 rfl rfl ?_
    refine X_iloadn hK (i := 2) 2 kd20_13.2.2.2.2.2.2.2.1 rfl rfl ?_
    refine X_icmp_gt hK 14 (by omega) (by omega) kd20_13.2.2.2.2.2.2.2.2.1 (by decide) (fun c2 => ?_) (fun c2 => ?_)
    · refine X_iconst hK kd20_13.2.2.2.2.2.2.2.2.2.2.2 ?_
      exact hret _ _ _ _ _ _ _ kd20_14.1 (by omega) (by omega) ⟨rfl, rfl, 0, rfl, (by omega), (by omega), (by omega)⟩ (Nat.le_refl _) (Nat.le_refl _)
    · refine X_iconst hK kd20_13.2.2.2.2.2.2.2.2.2.1 ?_
      refine X_goto hK 15 kd20_13.2.2.2.2.2.2.2.2.2.2.1 (by decide) ?_
      exact hret _ _ _ _ _ _ _ kd20_14.1 (by omega) (by omega) ⟨rfl, rfl, 1, rfl, (by omega), (by omega), (by omega)⟩ (Nat.le_refl _) (Nat.le_refl _)

set_option maxHeartbeats 4000000 in
set_option maxRecDepth 100000 in
theorem c_X12_isDay (l : Launch) (D : va_G) (kA : Nat → ClassId) (b0 : Nat) (t0 : Nat → Nat) (S : xT) (g : xG) (x0 : Int) (hx0 : (-2147483648) ≤ x0 ∧ x0 ≤ 2147483647) : xMt l yX12_isDay cX12_isDay 1 (some .boolean) 0 0 0 0 D kA b0 t0 [] [.int (iI x0)] S g (fun (r : Option Value) (S1 : xT) (g1 : xG) => S = S1 ∧ g = g1 ∧ ∃ z : Int, r = some (.int (iI z)) ∧ 0 ≤ z ∧ z ≤ 1 ∧ ((z = 1 ↔ 0 ≤ x0 ∧ x0 ≤ 399))) := by
  refine xEnterZ (by decide) (by simp [lg_sl, Value.category]) [(0, .int (iI x0))] rfl ?_
  intro K E hK hret _ _ _
  refine X_iloadn hK (i := 0) 0 kd20_11.2.2.2.2.2.2.2.2.1 rfl rfl ?_
  refine X_if_lt hK 15 (by omega) kd20_11.2.2.2.2.2.2.2.2.2.1 (by decide) (fun c1 => ?_) (fun c1 => ?_)
  · refine X_iconst hK kd20_12.2.2.2.1 ?_
    exact hret _ _ _ _ _ _ _ kd20_12.2.2.2.2.1 (by omega) (by omega) ⟨rfl, rfl, 0, rfl, (by omega), (by omega), (by omega)⟩ (Nat.le_refl _) (Nat.le_refl _)
  · refine X_iloadn hK (i := 0) 0 kd20_11.2.2.2.2.2.2.2.2.2.2.1 rfl rfl ?_
    refine X_sipush hK kd20_11.2.2.2.2.2.2.2.2.2.2.2 (by decide) ?_
    refine X_icmp_ge hK 15 (by omega) (by omega) kd20_12.1 (by decide) (fun c2 => ?_) (fun c2 => ?_)
    · refine X_iconst hK kd20_12.2.2.2.1 ?_
      exact hret _ _ _ _ _ _ _ kd20_12.2.2.2.2.1 (by omega) (by omega) ⟨rfl, rfl, 0, rfl, (by omega), (by omega), (by omega)⟩ (Nat.le_refl _) (Nat.le_refl _)
    · refine X_iconst hK kd20_12.2.1 ?_
      refine X_goto hK 16 kd20_12.2.2.1 (by decide) ?_
      exact hret _ _ _ _ _ _ _ kd20_12.2.2.2.2.1 (by omega) (by omega) ⟨rfl, rfl, 1, rfl, (by omega), (by omega), (by omega)⟩ (Nat.le_refl _) (Nat.le_refl _)

set_option maxHeartbeats 4000000 in
set_option maxRecDepth 100000 in
theorem c_X12_isCorner (l : Launch) (D : va_G) (kA : Nat → ClassId) (b0 : Nat) (t0 : Nat → Nat) (S : xT) (g : xG) (x0 : Int) (hx0 : (-2147483648) ≤ x0 ∧ x0 ≤ 2147483647) : xMt l yX12_isCorner cX12_isCorner 1 (some .boolean) 0 0 0 0 D kA b0 t0 [] [.int (iI x0)] S g (fun (r : Option Value) (S1 : xT) (g1 : xG) => S = S1 ∧ g = g1 ∧ ∃ z : Int, r = some (.int (iI z)) ∧ 0 ≤ z ∧ z ≤ 1 ∧ ((z = 1 ↔ 0 ≤ x0 ∧ x0 ≤ 9))) := by
  refine xEnterZ (by decide) (by simp [lg_sl, Value.category]) [(0, .int (iI x0))] rfl ?_
  intro K E hK hret _ _ _
  refine X_iloadn hK (i := 0) 0 kd20_10.2.2.2.2.2.2.2.2.2.2.2 rfl rfl ?_
  refine X_if_lt hK 14 (by omega) kd20_11.1 (by decide) (fun c1 => ?_) (fun c1 => ?_)
  · refine X_iconst hK kd20_11.2.2.2.2.2.2.1 ?_
    exact hret _ _ _ _ _ _ _ kd20_11.2.2.2.2.2.2.2.1 (by omega) (by omega) ⟨rfl, rfl, 0, rfl, (by omega), (by omega), (by omega)⟩ (Nat.le_refl _) (Nat.le_refl _)
  · refine X_iloadn hK (i := 0) 0 kd20_11.2.1 rfl rfl ?_
    refine X_bipush hK kd20_11.2.2.1 (by decide) ?_
    refine X_icmp_ge hK 14 (by omega) (by omega) kd20_11.2.2.2.1 (by decide) (fun c2 => ?_) (fun c2 => ?_)
    · refine X_iconst hK kd20_11.2.2.2.2.2.2.1 ?_
      exact hret _ _ _ _ _ _ _ kd20_11.2.2.2.2.2.2.2.1 (by omega) (by omega) ⟨rfl, rfl, 0, rfl, (by omega), (by omega), (by omega)⟩ (Nat.le_refl _) (Nat.le_refl _)
    · refine X_iconst hK kd20_11.2.2.2.2.1 ?_
      refine X_goto hK 15 kd20_11.2.2.2.2.2.1 (by decide) ?_
      exact hret _ _ _ _ _ _ _ kd20_11.2.2.2.2.2.2.2.1 (by omega) (by omega) ⟨rfl, rfl, 1, rfl, (by omega), (by omega), (by omega)⟩ (Nat.le_refl _) (Nat.le_refl _)

set_option maxHeartbeats 4000000 in
set_option maxRecDepth 100000 in
theorem c_X12_isPaper (l : Launch) (D : va_G) (kA : Nat → ClassId) (b0 : Nat) (t0 : Nat → Nat) (S : xT) (g : xG) (x0 : Int) (hx0 : (-2147483648) ≤ x0 ∧ x0 ≤ 2147483647) : xMt l yX12_isPaper cX12_isPaper 1 (some .boolean) 0 0 0 0 D kA b0 t0 [] [.int (iI x0)] S g (fun (r : Option Value) (S1 : xT) (g1 : xG) => S = S1 ∧ g = g1 ∧ ∃ z : Int, r = some (.int (iI z)) ∧ 0 ≤ z ∧ z ≤ 1 ∧ ((z = 1 ↔ 0 ≤ x0 ∧ x0 ≤ 3))) := by
  refine xEnterZ (by decide) (by simp [lg_sl, Value.category]) [(0, .int (iI x0))] rfl ?_
  intro K E hK hret _ _ _
  refine X_iloadn hK (i := 0) 0 kd20_16.2.2.2.2.2.2.2.2.2.1 rfl rfl ?_
  refine X_if_lt hK 13 (by omega) kd20_16.2.2.2.2.2.2.2.2.2.2.1 (by decide) (fun c1 => ?_) (fun c1 => ?_)
  · refine X_iconst hK kd20_17.2.2.2.2.1 ?_
    exact hret _ _ _ _ _ _ _ kd20_17.2.2.2.2.2.1 (by omega) (by omega) ⟨rfl, rfl, 0, rfl, (by omega), (by omega), (by omega)⟩ (Nat.le_refl _) (Nat.le_refl _)
  · refine X_iloadn hK (i := 0) 0 kd20_16.2.2.2.2.2.2.2.2.2.2.2 rfl rfl ?_
    refine X_iconst hK kd20_17.1 ?_
    refine X_icmp_ge hK 13 (by omega) (by omega) kd20_17.2.1 (by decide) (fun c2 => ?_) (fun c2 => ?_)
    · refine X_iconst hK kd20_17.2.2.2.2.1 ?_
      exact hret _ _ _ _ _ _ _ kd20_17.2.2.2.2.2.1 (by omega) (by omega) ⟨rfl, rfl, 0, rfl, (by omega), (by omega), (by omega)⟩ (Nat.le_refl _) (Nat.le_refl _)
    · refine X_iconst hK kd20_17.2.2.1 ?_
      refine X_goto hK 14 kd20_17.2.2.2.1 (by decide) ?_
      exact hret _ _ _ _ _ _ _ kd20_17.2.2.2.2.2.1 (by omega) (by omega) ⟨rfl, rfl, 1, rfl, (by omega), (by omega), (by omega)⟩ (Nat.le_refl _) (Nat.le_refl _)

set_option maxHeartbeats 4000000 in
set_option maxRecDepth 100000 in
theorem c_X12_isDigit (l : Launch) (D : va_G) (kA : Nat → ClassId) (b0 : Nat) (t0 : Nat → Nat) (S : xT) (g : xG) (x0 : Int) (hx0 : (-2147483648) ≤ x0 ∧ x0 ≤ 2147483647) : xMt l yX12_isDigit cX12_isDigit 1 (some .boolean) 0 0 0 0 D kA b0 t0 [] [.int (iI x0)] S g (fun (r : Option Value) (S1 : xT) (g1 : xG) => S = S1 ∧ g = g1 ∧ ∃ z : Int, r = some (.int (iI z)) ∧ 0 ≤ z ∧ z ≤ 1 ∧ ((z = 1 ↔ 48 ≤ x0 ∧ x0 ≤ 57))) := by
  refine xEnterZ (by decide) (by simp [lg_sl, Value.category]) [(0, .int (iI x0))] rfl ?_
  intro K E hK hret _ _ _
  refine X_iloadn hK (i := 0) 0 kd20_12.2.2.2.2.2.1 rfl rfl ?_
  refine X_bipush hK kd20_12.2.2.2.2.2.2.1 (by decide) ?_
  refine X_icmp_lt hK 16 (by omega) (by omega) kd20_12.2.2.2.2.2.2.2.1 (by decide) (fun c1 => ?_) (fun c1 => ?_)
  · refine X_iconst hK kd20_13.2.1 ?_
    exact hret _ _ _ _ _ _ _ kd20_13.2.2.1 (by omega) (by omega) ⟨rfl, rfl, 0, rfl, (by omega), (by omega), (by omega)⟩ (Nat.le_refl _) (Nat.le_refl _)
  · refine X_iloadn hK (i := 0) 0 kd20_12.2.2.2.2.2.2.2.2.1 rfl rfl ?_
    refine X_bipush hK kd20_12.2.2.2.2.2.2.2.2.2.1 (by decide) ?_
    refine X_icmp_gt hK 16 (by omega) (by omega) kd20_12.2.2.2.2.2.2.2.2.2.2.1 (by decide) (fun c2 => ?_) (fun c2 => ?_)
    · refine X_iconst hK kd20_13.2.1 ?_
      exact hret _ _ _ _ _ _ _ kd20_13.2.2.1 (by omega) (by omega) ⟨rfl, rfl, 0, rfl, (by omega), (by omega), (by omega)⟩ (Nat.le_refl _) (Nat.le_refl _)
    · refine X_iconst hK kd20_12.2.2.2.2.2.2.2.2.2.2.2 ?_
      refine X_goto hK 17 kd20_13.1 (by decide) ?_
      exact hret _ _ _ _ _ _ _ kd20_13.2.2.1 (by omega) (by omega) ⟨rfl, rfl, 1, rfl, (by omega), (by omega), (by omega)⟩ (Nat.le_refl _) (Nat.le_refl _)

set_option maxHeartbeats 4000000 in
set_option maxRecDepth 100000 in
theorem c_X12_isLetter (l : Launch) (D : va_G) (kA : Nat → ClassId) (b0 : Nat) (t0 : Nat → Nat) (S : xT) (g : xG) (x0 : Int) (hx0 : (-2147483648) ≤ x0 ∧ x0 ≤ 2147483647) : xMt l yX12_isLetter cX12_isLetter 1 (some .boolean) 0 0 0 0 D kA b0 t0 [] [.int (iI x0)] S g (fun (r : Option Value) (S1 : xT) (g1 : xG) => S = S1 ∧ g = g1 ∧ ∃ z : Int, r = some (.int (iI z)) ∧ 0 ≤ z ∧ z ≤ 1 ∧ ((z = 1 ↔ 97 ≤ x0 ∧ x0 ≤ 122))) := by
  refine xEnterZ (by decide) (by simp [lg_sl, Value.category]) [(0, .int (iI x0))] rfl ?_
  intro K E hK hret _ _ _
  refine X_iloadn hK (i := 0) 0 kd20_14.2.1 rfl rfl ?_
  refine X_bipush hK kd20_14.2.2.1 (by decide) ?_
  refine X_icmp_lt hK 16 (by omega) (by omega) kd20_14.2.2.2.1 (by decide) (fun c1 => ?_) (fun c1 => ?_)
  · refine X_iconst hK kd20_14.2.2.2.2.2.2.2.2.2.1 ?_
    exact hret _ _ _ _ _ _ _ kd20_14.2.2.2.2.2.2.2.2.2.2.1 (by omega) (by omega) ⟨rfl, rfl, 0, rfl, (by omega), (by omega), (by omega)⟩ (Nat.le_refl _) (Nat.le_refl _)
  · refine X_iloadn hK (i := 0) 0 kd20_14.2.2.2.2.1 rfl rfl ?_
    refine X_bipush hK kd20_14.2.2.2.2.2.1 (by decide) ?_
    refine X_icmp_gt hK 16 (by omega) (by omega) kd20_14.2.2.2.2.2.2.1 (by decide) (fun c2 => ?_) (fun c2 => ?_)
    · refine X_iconst hK kd20_14.2.2.2.2.2.2.2.2.2.1 ?_
      exact hret _ _ _ _ _ _ _ kd20_14.2.2.2.2.2.2.2.2.2.2.1 (by omega) (by omega) ⟨rfl, rfl, 0, rfl, (by omega), (by omega), (by omega)⟩ (Nat.le_refl _) (Nat.le_refl _)
    · refine X_iconst hK kd20_14.2.2.2.2.2.2.2.1 ?_
      refine X_goto hK 17 kd20_14.2.2.2.2.2.2.2.2.1 (by decide) ?_
      exact hret _ _ _ _ _ _ _ kd20_14.2.2.2.2.2.2.2.2.2.2.1 (by omega) (by omega) ⟨rfl, rfl, 1, rfl, (by omega), (by omega), (by omega)⟩ (Nat.le_refl _) (Nat.le_refl _)

set_option maxHeartbeats 4000000 in
set_option maxRecDepth 100000 in
theorem c_X12_isSum (l : Launch) (D : va_G) (kA : Nat → ClassId) (b0 : Nat) (t0 : Nat → Nat) (S : xT) (g : xG) (x0 : Int) (hx0 : (-2147483648) ≤ x0 ∧ x0 ≤ 2147483647) : xMt l yX12_isSum cX12_isSum 1 (some .boolean) 0 0 0 0 D kA b0 t0 [] [.int (iI x0)] S g (fun (r : Option Value) (S1 : xT) (g1 : xG) => S = S1 ∧ g = g1 ∧ ∃ z : Int, r = some (.int (iI z)) ∧ 0 ≤ z ∧ z ≤ 1 ∧ ((z = 1 ↔ 0 ≤ x0 ∧ x0 ≤ 100000))) := by
  refine xEnterZ (by decide) (by simp [lg_sl, Value.category]) [(0, .int (iI x0))] rfl ?_
  intro K E hK hret _ _ _
  refine X_iloadn hK (i := 0) 0 kd20_17.2.2.2.2.2.2.1 rfl rfl ?_
  refine X_if_lt hK 15 (by omega) kd20_17.2.2.2.2.2.2.2.1 (by decide) (fun c1 => ?_) (fun c1 => ?_)
  · refine X_iconst hK kd20_18.2.1 ?_
    exact hret _ _ _ _ _ _ _ kd20_18.2.2.1 (by omega) (by omega) ⟨rfl, rfl, 0, rfl, (by omega), (by omega), (by omega)⟩ (Nat.le_refl _) (Nat.le_refl _)
  · refine X_iloadn hK (i := 0) 0 kd20_17.2.2.2.2.2.2.2.2.1 rfl rfl ?_
    refine X_ldcw hK (n := 100000) kd20_17.2.2.2.2.2.2.2.2.2.1 m_55_15 (by decide) ?_
    refine X_icmp_gt hK 15 (by omega) (by omega) kd20_17.2.2.2.2.2.2.2.2.2.2.1 (by decide) (fun c2 => ?_) (fun c2 => ?_)
    · refine X_iconst hK kd20_18.2.1 ?_
      exact hret _ _ _ _ _ _ _ kd20_18.2.2.1 (by omega) (by omega) ⟨rfl, rfl, 0, rfl, (by omega), (by omega), (by omega)⟩ (Nat.le_refl _) (Nat.le_refl _)
    · refine X_iconst hK kd20_17.2.2.2.2.2.2.2.2.2.2.2 ?_
      refine X_goto hK 16 kd20_18.1 (by decide) ?_
      exact hret _ _ _ _ _ _ _ kd20_18.2.2.1 (by omega) (by omega) ⟨rfl, rfl, 1, rfl, (by omega), (by omega), (by omega)⟩ (Nat.le_refl _) (Nat.le_refl _)

set_option maxHeartbeats 4000000 in
set_option maxRecDepth 100000 in
theorem c_X12_isMark (l : Launch) (D : va_G) (kA : Nat → ClassId) (b0 : Nat) (t0 : Nat → Nat) (S : xT) (g : xG) (x0 : Int) (hx0 : (-2147483648) ≤ x0 ∧ x0 ≤ 2147483647) : xMt l yX12_isMark cX12_isMark 1 (some .boolean) 0 0 0 0 D kA b0 t0 [] [.int (iI x0)] S g (fun (r : Option Value) (S1 : xT) (g1 : xG) => S = S1 ∧ g = g1 ∧ ∃ z : Int, r = some (.int (iI z)) ∧ 0 ≤ z ∧ z ≤ 1) := by
  refine xEnterZ (by decide) (by simp [lg_sl, Value.category]) [(0, .int (iI x0))] rfl ?_
  intro K E hK hret _ _ _
  refine X_iloadn hK (i := 0) 0 kd20_14.2.2.2.2.2.2.2.2.2.2.2 rfl rfl ?_
  refine X_bipush hK kd20_15.1 (by decide) ?_
  refine X_icmp_eq hK 36 (by omega) (by omega) kd20_15.2.1 (by decide) (fun c1 => ?_) (fun c1 => ?_)
  · refine X_iconst hK kd20_16.2.2.2.2.2.1 ?_
    refine X_goto hK 41 kd20_16.2.2.2.2.2.2.1 (by decide) ?_
    exact hret _ _ _ _ _ _ _ kd20_16.2.2.2.2.2.2.2.2.1 (by omega) (by omega) ⟨rfl, rfl, 1, rfl, (by omega), (by omega)⟩ (Nat.le_refl _) (Nat.le_refl _)
  · refine X_iloadn hK (i := 0) 0 kd20_15.2.2.1 rfl rfl ?_
    refine X_bipush hK kd20_15.2.2.2.1 (by decide) ?_
    refine X_icmp_eq hK 36 (by omega) (by omega) kd20_15.2.2.2.2.1 (by decide) (fun c2 => ?_) (fun c2 => ?_)
    · refine X_iconst hK kd20_16.2.2.2.2.2.1 ?_
      refine X_goto hK 41 kd20_16.2.2.2.2.2.2.1 (by decide) ?_
      exact hret _ _ _ _ _ _ _ kd20_16.2.2.2.2.2.2.2.2.1 (by omega) (by omega) ⟨rfl, rfl, 1, rfl, (by omega), (by omega)⟩ (Nat.le_refl _) (Nat.le_refl _)
    · refine X_iloadn hK (i := 0) 0 kd20_15.2.2.2.2.2.1 rfl rfl ?_
      refine X_bipush hK kd20_15.2.2.2.2.2.2.1 (by decide) ?_
      refine X_icmp_eq hK 36 (by omega) (by omega) kd20_15.2.2.2.2.2.2.2.1 (by decide) (fun c3 => ?_) (fun c3 => ?_)
      · refine X_iconst hK kd20_16.2.2.2.2.2.1 ?_
        refine X_goto hK 41 kd20_16.2.2.2.2.2.2.1 (by decide) ?_
        exact hret _ _ _ _ _ _ _ kd20_16.2.2.2.2.2.2.2.2.1 (by omega) (by omega) ⟨rfl, rfl, 1, rfl, (by omega), (by omega)⟩ (Nat.le_refl _) (Nat.le_refl _)
      · refine X_iloadn hK (i := 0) 0 kd20_15.2.2.2.2.2.2.2.2.1 rfl rfl ?_
        refine X_bipush hK kd20_15.2.2.2.2.2.2.2.2.2.1 (by decide) ?_
        refine X_icmp_eq hK 36 (by omega) (by omega) kd20_15.2.2.2.2.2.2.2.2.2.2.1 (by decide) (fun c4 => ?_) (fun c4 => ?_)
        · refine X_iconst hK kd20_16.2.2.2.2.2.1 ?_
          refine X_goto hK 41 kd20_16.2.2.2.2.2.2.1 (by decide) ?_
          exact hret _ _ _ _ _ _ _ kd20_16.2.2.2.2.2.2.2.2.1 (by omega) (by omega) ⟨rfl, rfl, 1, rfl, (by omega), (by omega)⟩ (Nat.le_refl _) (Nat.le_refl _)
        · refine X_iloadn hK (i := 0) 0 kd20_15.2.2.2.2.2.2.2.2.2.2.2 rfl rfl ?_
          refine X_bipush hK kd20_16.1 (by decide) ?_
          refine X_icmp_eq hK 36 (by omega) (by omega) kd20_16.2.1 (by decide) (fun c5 => ?_) (fun c5 => ?_)
          · refine X_iconst hK kd20_16.2.2.2.2.2.1 ?_
            refine X_goto hK 41 kd20_16.2.2.2.2.2.2.1 (by decide) ?_
            exact hret _ _ _ _ _ _ _ kd20_16.2.2.2.2.2.2.2.2.1 (by omega) (by omega) ⟨rfl, rfl, 1, rfl, (by omega), (by omega)⟩ (Nat.le_refl _) (Nat.le_refl _)
          · refine X_iloadn hK (i := 0) 0 kd20_16.2.2.1 rfl rfl ?_
            refine X_bipush hK kd20_16.2.2.2.1 (by decide) ?_
            refine X_icmp_ne hK 40 (by omega) (by omega) kd20_16.2.2.2.2.1 (by decide) (fun c6 => ?_) (fun c6 => ?_)
            · refine X_iconst hK kd20_16.2.2.2.2.2.2.2.1 ?_
              exact hret _ _ _ _ _ _ _ kd20_16.2.2.2.2.2.2.2.2.1 (by omega) (by omega) ⟨rfl, rfl, 0, rfl, (by omega), (by omega)⟩ (Nat.le_refl _) (Nat.le_refl _)
            · refine X_iconst hK kd20_16.2.2.2.2.2.1 ?_
              refine X_goto hK 41 kd20_16.2.2.2.2.2.2.1 (by decide) ?_
              exact hret _ _ _ _ _ _ _ kd20_16.2.2.2.2.2.2.2.2.1 (by omega) (by omega) ⟨rfl, rfl, 1, rfl, (by omega), (by omega)⟩ (Nat.le_refl _) (Nat.le_refl _)

set_option maxHeartbeats 4000000 in
set_option maxRecDepth 100000 in
theorem c_X11_placeOf (l : Launch) (D : va_G) (kA : Nat → ClassId) (b0 : Nat) (t0 : Nat → Nat) (S : xT) (g : xG) (x0 : Int) (x1 : Int) (x2 : Int) (hx0 : 0 ≤ x0 ∧ x0 ≤ 399) (hx1 : 0 ≤ x1 ∧ x1 ≤ 3) (hx2 : 0 ≤ x2 ∧ x2 ≤ 9) : xMt l yX11_placeOf cX11_placeOf 3 (some .int) 0 0 0 0 D kA b0 t0 [] [.int (iI x0), .int (iI x1), .int (iI x2)] S g (fun (r : Option Value) (S1 : xT) (g1 : xG) => S = S1 ∧ g = g1 ∧ ∃ z : Int, r = some (.int (iI z)) ∧ 0 ≤ z ∧ z ≤ 15999) := by
  refine xEnterI (by decide) (by simp [lg_sl, Value.category]) [(0, .int (iI x0)), (1, .int (iI x1)), (2, .int (iI x2))] rfl ?_
  intro K E hK hret _ _ _
  refine X_iloadn hK (i := 0) 0 kd20_8.2.2.2.2.2.2.2.1 rfl rfl ?_
  refine X_iconst hK kd20_8.2.2.2.2.2.2.2.2.1 ?_
  refine X_imul hK kd20_8.2.2.2.2.2.2.2.2.2.1 ?_
  refine X_iloadn hK (i := 1) 1 kd20_8.2.2.2.2.2.2.2.2.2.2.1 rfl rfl ?_
  refine X_iadd hK kd20_8.2.2.2.2.2.2.2.2.2.2.2 ?_
  refine X_bipush hK kd20_9.1 (by decide) ?_
  refine X_imul hK kd20_9.2.1 ?_
  refine X_iloadn hK (i := 2) 2 kd20_9.2.2.1 rfl rfl ?_
  refine X_iadd hK kd20_9.2.2.2.1 ?_
  exact hret _ _ _ _ _ _ _ kd20_9.2.2.2.2.1 ⟨rfl, rfl, ((((x0 * 4) + x1) * 10) + x2), rfl, (by omega), (by omega)⟩ (Nat.le_refl _) (Nat.le_refl _)

set_option maxHeartbeats 4000000 in
set_option maxRecDepth 100000 in
theorem c_X11_costOf (l : Launch) (D : va_G) (kA : Nat → ClassId) (b0 : Nat) (t0 : Nat → Nat) (S : xT) (g : xG) (x0 : Int) (x1 : Int) (hx0 : (-2147483648) ≤ x0 ∧ x0 ≤ 2147483647) (hx1 : (-2147483648) ≤ x1 ∧ x1 ≤ 2147483647) : xMt l yX11_costOf cX11_costOf 2 (some .int) 0 0 0 0 D kA b0 t0 [] [.int (iI x0), .int (iI x1)] S g (fun (r : Option Value) (S1 : xT) (g1 : xG) => S = S1 ∧ g = g1 ∧ ∃ z : Int, r = some (.int (iI z)) ∧ (-21474836) ≤ z ∧ z ≤ 21474836) := by
  refine xEnterI (by decide) (by simp [lg_sl, Value.category]) [(0, .int (iI x0)), (1, .int (iI x1))] rfl ?_
  intro K E hK hret _ _ _
  refine X_iloadn hK (i := 0) 0 kd20_3.2.2.2.2.2.2.1 rfl rfl ?_
  refine X_iloadn hK (i := 1) 1 kd20_3.2.2.2.2.2.2.2.1 rfl rfl ?_
  refine X_imul hK kd20_3.2.2.2.2.2.2.2.2.1 ?_
  refine X_norm (fun z1 ez1 lz1 uz1 => ?_)
  refine X_bipush hK kd20_3.2.2.2.2.2.2.2.2.2.1 (by decide) ?_
  refine X_iadd hK kd20_3.2.2.2.2.2.2.2.2.2.2.1 ?_
  refine X_norm (fun z2 ez2 lz2 uz2 => ?_)
  refine X_iconst hK kd20_3.2.2.2.2.2.2.2.2.2.2.2 ?_
  refine X_isub hK kd20_4.1 ?_
  refine X_norm (fun z3 ez3 lz3 uz3 => ?_)
  refine X_bipush hK kd20_4.2.1 (by decide) ?_
  refine X_idiv hK (by omega) (by omega) kd20_4.2.2.1 (fun z4 ez4 fz4 => ?_)
  have bz4 : -21474836 ≤ z4 ∧ z4 ≤ 21474836 := by omega
  exact hret _ _ _ _ _ _ _ kd20_4.2.2.2.1 ⟨rfl, rfl, z4, rfl, (by omega), (by omega)⟩ (Nat.le_refl _) (Nat.le_refl _)

set_option maxHeartbeats 4000000 in
set_option maxRecDepth 100000 in
theorem c_X11_backOf (l : Launch) (D : va_G) (kA : Nat → ClassId) (b0 : Nat) (t0 : Nat → Nat) (S : xT) (g : xG) (x0 : Int) (x1 : Int) (hx0 : (-2147483648) ≤ x0 ∧ x0 ≤ 2147483647) (hx1 : (-2147483648) ≤ x1 ∧ x1 ≤ 2147483647) : xMt l yX11_backOf cX11_backOf 2 (some .int) 0 0 0 0 D kA b0 t0 [] [.int (iI x0), .int (iI x1)] S g (fun (r : Option Value) (S1 : xT) (g1 : xG) => S = S1 ∧ g = g1 ∧ ∃ z : Int, r = some (.int (iI z)) ∧ (-21474836) ≤ z ∧ z ≤ 21474836) := by
  refine xEnterI (by decide) (by simp [lg_sl, Value.category]) [(0, .int (iI x0)), (1, .int (iI x1))] rfl ?_
  intro K E hK hret _ _ _
  refine X_iloadn hK (i := 0) 0 kd20_3.1 rfl rfl ?_
  refine X_iloadn hK (i := 1) 1 kd20_3.2.1 rfl rfl ?_
  refine X_imul hK kd20_3.2.2.1 ?_
  refine X_norm (fun z1 ez1 lz1 uz1 => ?_)
  refine X_bipush hK kd20_3.2.2.2.1 (by decide) ?_
  refine X_idiv hK (by omega) (by omega) kd20_3.2.2.2.2.1 (fun z2 ez2 fz2 => ?_)
  have bz2 : -21474836 ≤ z2 ∧ z2 ≤ 21474836 := by omega
  exact hret _ _ _ _ _ _ _ kd20_3.2.2.2.2.2.1 ⟨rfl, rfl, z2, rfl, (by omega), (by omega)⟩ (Nat.le_refl _) (Nat.le_refl _)

set_option maxHeartbeats 4000000 in
set_option maxRecDepth 100000 in
theorem c_X11_paidFor (l : Launch) (D : va_G) (kA : Nat → ClassId) (b0 : Nat) (t0 : Nat → Nat) (S : xT) (g : xG) (x0 : Int) (x1 : Int) (hx0 : (-2147483648) ≤ x0 ∧ x0 ≤ 2147483647) (hx1 : (-2147483648) ≤ x1 ∧ x1 ≤ 2147483647) : xMt l yX11_paidFor cX11_paidFor 2 (some .int) 0 0 0 0 D kA b0 t0 [] [.int (iI x0), .int (iI x1)] S g (fun (r : Option Value) (S1 : xT) (g1 : xG) => S = S1 ∧ g = g1 ∧ ∃ z : Int, r = some (.int (iI z)) ∧ (-21474836) ≤ z ∧ z ≤ 21474836) := by
  refine xEnterI (by decide) (by simp [lg_sl, Value.category]) [(0, .int (iI x0)), (1, .int (iI x1))] rfl ?_
  intro K E hK hret _ _ _
  refine X_iloadn hK (i := 0) 0 kd20_8.2.1 rfl rfl ?_
  refine X_iloadn hK (i := 1) 1 kd20_8.2.2.1 rfl rfl ?_
  refine X_imul hK kd20_8.2.2.2.1 ?_
  refine X_norm (fun z1 ez1 lz1 uz1 => ?_)
  refine X_bipush hK kd20_8.2.2.2.2.1 (by decide) ?_
  refine X_idiv hK (by omega) (by omega) kd20_8.2.2.2.2.2.1 (fun z2 ez2 fz2 => ?_)
  have bz2 : -21474836 ≤ z2 ∧ z2 ≤ 21474836 := by omega
  exact hret _ _ _ _ _ _ _ kd20_8.2.2.2.2.2.2.1 ⟨rfl, rfl, z2, rfl, (by omega), (by omega)⟩ (Nat.le_refl _) (Nat.le_refl _)

set_option maxHeartbeats 4000000 in
set_option maxRecDepth 100000 in
theorem c_X12_cost (l : Launch) (D : va_G) (kA : Nat → ClassId) (b0 : Nat) (t0 : Nat → Nat) (S : xT) (g : xG) (x0 : Int) (x1 : Int) (hx0 : (-2147483648) ≤ x0 ∧ x0 ≤ 2147483647) (hx1 : (-2147483648) ≤ x1 ∧ x1 ≤ 2147483647) : xMt l yX12_cost cX12_cost 2 (some .int) 0 0 0 0 D kA b0 t0 [] [.int (iI x0), .int (iI x1)] S g (fun (r : Option Value) (S1 : xT) (g1 : xG) => S = S1 ∧ g = g1 ∧ ∃ z : Int, r = some (.int (iI z)) ∧ (-21474836) ≤ z ∧ z ≤ 21474836) := by
  refine xEnterI (by decide) (by simp [lg_sl, Value.category]) [(0, .int (iI x0)), (1, .int (iI x1))] rfl ?_
  intro K E hK hret _ _ _
  refine X_iloadn hK (i := 0) 0 kd20_10.2.2.2.1 rfl rfl ?_
  refine X_iloadn hK (i := 1) 1 kd20_10.2.2.2.2.1 rfl rfl ?_
  refine X_imul hK kd20_10.2.2.2.2.2.1 ?_
  refine X_norm (fun z1 ez1 lz1 uz1 => ?_)
  refine X_bipush hK kd20_10.2.2.2.2.2.2.1 (by decide) ?_
  refine X_iadd hK kd20_10.2.2.2.2.2.2.2.1 ?_
  refine X_norm (fun z2 ez2 lz2 uz2 => ?_)
  refine X_bipush hK kd20_10.2.2.2.2.2.2.2.2.1 (by decide) ?_
  refine X_idiv hK (by omega) (by omega) kd20_10.2.2.2.2.2.2.2.2.2.1 (fun z3 ez3 fz3 => ?_)
  have bz3 : -21474836 ≤ z3 ∧ z3 ≤ 21474836 := by omega
  exact hret _ _ _ _ _ _ _ kd20_10.2.2.2.2.2.2.2.2.2.2.1 ⟨rfl, rfl, z3, rfl, (by omega), (by omega)⟩ (Nat.le_refl _) (Nat.le_refl _)

set_option maxHeartbeats 4000000 in
set_option maxRecDepth 100000 in
theorem c_X12_usual (l : Launch) (D : va_G) (kA : Nat → ClassId) (b0 : Nat) (t0 : Nat → Nat) (S : xT) (g : xG) (x0 : Int) (hx0 : (-2147483648) ≤ x0 ∧ x0 ≤ 2147483647) : xMt l yX12_usual cX12_usual 1 (some .int) 0 0 0 0 D kA b0 t0 [] [.int (iI x0)] S g (fun (r : Option Value) (S1 : xT) (g1 : xG) => S = S1 ∧ g = g1 ∧ ∃ z : Int, r = some (.int (iI z)) ∧ 0 ≤ z ∧ z ≤ 200) := by
  refine xEnterI (by decide) (by simp [lg_sl, Value.category]) [(0, .int (iI x0))] rfl ?_
  intro K E hK hret _ _ _
  refine X_iloadn hK (i := 0) 0 kd20_22.2.2.1 rfl rfl ?_
  rcases (show (x0 < 0 ∨ 4 < x0) ∨ x0 = 0 ∨ x0 = 1 ∨ x0 = 2 ∨ x0 = 3 ∨ x0 = 4 by omega) with c1 | c1 | c1 | c1 | c1 | c1
  · refine X_tableOut hK 49 (by omega) c1 kd20_22.2.2.2.1 (by decide) ?_
    refine X_bipush hK kd20_23.2.2.1 (by decide) ?_
    exact hret _ _ _ _ _ _ _ kd20_23.2.2.2.1 ⟨rfl, rfl, 100, rfl, (by omega), (by omega)⟩ (Nat.le_refl _) (Nat.le_refl _)
  · refine X_tableIn hK 36 0 (by decide) c1 (by decide) (by decide) kd20_22.2.2.2.1 rfl (by decide) ?_
    refine X_bipush hK kd20_22.2.2.2.2.1 (by decide) ?_
    exact hret _ _ _ _ _ _ _ kd20_22.2.2.2.2.2.1 ⟨rfl, rfl, 60, rfl, (by omega), (by omega)⟩ (Nat.le_refl _) (Nat.le_refl _)
  · refine X_tableIn hK 39 1 (by decide) c1 (by decide) (by decide) kd20_22.2.2.2.1 rfl (by decide) ?_
    refine X_iconst hK kd20_22.2.2.2.2.2.2.1 ?_
    exact hret _ _ _ _ _ _ _ kd20_22.2.2.2.2.2.2.2.1 ⟨rfl, rfl, 1, rfl, (by omega), (by omega)⟩ (Nat.le_refl _) (Nat.le_refl _)
  · refine X_tableIn hK 41 2 (by decide) c1 (by decide) (by decide) kd20_22.2.2.2.1 rfl (by decide) ?_
    refine X_iconst hK kd20_22.2.2.2.2.2.2.2.2.1 ?_
    exact hret _ _ _ _ _ _ _ kd20_22.2.2.2.2.2.2.2.2.2.1 ⟨rfl, rfl, 0, rfl, (by omega), (by omega)⟩ (Nat.le_refl _) (Nat.le_refl _)
  · refine X_tableIn hK 43 3 (by decide) c1 (by decide) (by decide) kd20_22.2.2.2.1 rfl (by decide) ?_
    refine X_sipush hK kd20_22.2.2.2.2.2.2.2.2.2.2.1 (by decide) ?_
    exact hret _ _ _ _ _ _ _ kd20_22.2.2.2.2.2.2.2.2.2.2.2 ⟨rfl, rfl, 200, rfl, (by omega), (by omega)⟩ (Nat.le_refl _) (Nat.le_refl _)
  · refine X_tableIn hK 47 4 (by decide) c1 (by decide) (by decide) kd20_22.2.2.2.1 rfl (by decide) ?_
    refine X_iconst hK kd20_23.1 ?_
    exact hret _ _ _ _ _ _ _ kd20_23.2.1 ⟨rfl, rfl, 1, rfl, (by omega), (by omega)⟩ (Nat.le_refl _) (Nat.le_refl _)

set_option maxHeartbeats 4000000 in
set_option maxRecDepth 100000 in
theorem c_X7_isLetter (l : Launch) (D : va_G) (kA : Nat → ClassId) (b0 : Nat) (t0 : Nat → Nat) (S : xT) (g : xG) (x0 : Int) (hx0 : (-2147483648) ≤ x0 ∧ x0 ≤ 2147483647) : xMt l yX7_isLetter cX7_isLetter 1 (some .boolean) 0 0 0 0 D kA b0 t0 [] [.int (iI x0)] S g (fun (r : Option Value) (S1 : xT) (g1 : xG) => S = S1 ∧ g = g1 ∧ ∃ z : Int, r = some (.int (iI z)) ∧ 0 ≤ z ∧ z ≤ 1 ∧ ((z = 1 ↔ 97 ≤ x0 ∧ x0 ≤ 122))) := by
  refine xEnterZ (by decide) (by simp [lg_sl, Value.category]) [(0, .int (iI x0))] rfl ?_
  intro K E hK hret _ _ _
  refine X_iloadn hK (i := 0) 0 kd20_24.2.2.1 rfl rfl ?_
  refine X_bipush hK kd20_24.2.2.2.1 (by decide) ?_
  refine X_icmp_lt hK 16 (by omega) (by omega) kd20_24.2.2.2.2.1 (by decide) (fun c1 => ?_) (fun c1 => ?_)
  · refine X_iconst hK kd20_24.2.2.2.2.2.2.2.2.2.2.1 ?_
    exact hret _ _ _ _ _ _ _ kd20_24.2.2.2.2.2.2.2.2.2.2.2 (by omega) (by omega) ⟨rfl, rfl, 0, rfl, (by omega), (by omega), (by omega)⟩ (Nat.le_refl _) (Nat.le_refl _)
  · refine X_iloadn hK (i := 0) 0 kd20_24.2.2.2.2.2.1 rfl rfl ?_
    refine X_bipush hK kd20_24.2.2.2.2.2.2.1 (by decide) ?_
    refine X_icmp_gt hK 16 (by omega) (by omega) kd20_24.2.2.2.2.2.2.2.1 (by decide) (fun c2 => ?_) (fun c2 => ?_)
    · refine X_iconst hK kd20_24.2.2.2.2.2.2.2.2.2.2.1 ?_
      exact hret _ _ _ _ _ _ _ kd20_24.2.2.2.2.2.2.2.2.2.2.2 (by omega) (by omega) ⟨rfl, rfl, 0, rfl, (by omega), (by omega), (by omega)⟩ (Nat.le_refl _) (Nat.le_refl _)
    · refine X_iconst hK kd20_24.2.2.2.2.2.2.2.2.1 ?_
      refine X_goto hK 17 kd20_24.2.2.2.2.2.2.2.2.2.1 (by decide) ?_
      exact hret _ _ _ _ _ _ _ kd20_24.2.2.2.2.2.2.2.2.2.2.2 (by omega) (by omega) ⟨rfl, rfl, 1, rfl, (by omega), (by omega), (by omega)⟩ (Nat.le_refl _) (Nat.le_refl _)

set_option maxHeartbeats 4000000 in
set_option maxRecDepth 100000 in
theorem c_X7_isDigit (l : Launch) (D : va_G) (kA : Nat → ClassId) (b0 : Nat) (t0 : Nat → Nat) (S : xT) (g : xG) (x0 : Int) (hx0 : (-2147483648) ≤ x0 ∧ x0 ≤ 2147483647) : xMt l yX7_isDigit cX7_isDigit 1 (some .boolean) 0 0 0 0 D kA b0 t0 [] [.int (iI x0)] S g (fun (r : Option Value) (S1 : xT) (g1 : xG) => S = S1 ∧ g = g1 ∧ ∃ z : Int, r = some (.int (iI z)) ∧ 0 ≤ z ∧ z ≤ 1 ∧ ((z = 1 ↔ 48 ≤ x0 ∧ x0 ≤ 57))) := by
  refine xEnterZ (by decide) (by simp [lg_sl, Value.category]) [(0, .int (iI x0))] rfl ?_
  intro K E hK hret _ _ _
  refine X_iloadn hK (i := 0) 0 kd20_23.2.2.2.2.1 rfl rfl ?_
  refine X_bipush hK kd20_23.2.2.2.2.2.1 (by decide) ?_
  refine X_icmp_lt hK 16 (by omega) (by omega) kd20_23.2.2.2.2.2.2.1 (by decide) (fun c1 => ?_) (fun c1 => ?_)
  · refine X_iconst hK kd20_24.1 ?_
    exact hret _ _ _ _ _ _ _ kd20_24.2.1 (by omega) (by omega) ⟨rfl, rfl, 0, rfl, (by omega), (by omega), (by omega)⟩ (Nat.le_refl _) (Nat.le_refl _)
  · refine X_iloadn hK (i := 0) 0 kd20_23.2.2.2.2.2.2.2.1 rfl rfl ?_
    refine X_bipush hK kd20_23.2.2.2.2.2.2.2.2.1 (by decide) ?_
    refine X_icmp_gt hK 16 (by omega) (by omega) kd20_23.2.2.2.2.2.2.2.2.2.1 (by decide) (fun c2 => ?_) (fun c2 => ?_)
    · refine X_iconst hK kd20_24.1 ?_
      exact hret _ _ _ _ _ _ _ kd20_24.2.1 (by omega) (by omega) ⟨rfl, rfl, 0, rfl, (by omega), (by omega), (by omega)⟩ (Nat.le_refl _) (Nat.le_refl _)
    · refine X_iconst hK kd20_23.2.2.2.2.2.2.2.2.2.2.1 ?_
      refine X_goto hK 17 kd20_23.2.2.2.2.2.2.2.2.2.2.2 (by decide) ?_
      exact hret _ _ _ _ _ _ _ kd20_24.2.1 (by omega) (by omega) ⟨rfl, rfl, 1, rfl, (by omega), (by omega), (by omega)⟩ (Nat.le_refl _) (Nat.le_refl _)

set_option maxHeartbeats 4000000 in
set_option maxRecDepth 100000 in
theorem c_X7_isOfName (l : Launch) (D : va_G) (kA : Nat → ClassId) (b0 : Nat) (t0 : Nat → Nat) (S : xT) (g : xG) (x0 : Int) (hx0 : (-2147483648) ≤ x0 ∧ x0 ≤ 2147483647) : xMt l yX7_isOfName cX7_isOfName 1 (some .boolean) 1 0 0 20 D kA b0 t0 [] [.int (iI x0)] S g (fun (r : Option Value) (S1 : xT) (g1 : xG) => S = S1 ∧ g = g1 ∧ ∃ z : Int, r = some (.int (iI z)) ∧ 0 ≤ z ∧ z ≤ 1 ∧ ((z = 1 ↔ (97 ≤ x0 ∧ x0 ≤ 122) ∨ (48 ≤ x0 ∧ x0 ≤ 57)))) := by
  refine xEnterZ (by decide) (by simp [lg_sl, Value.category]) [(0, .int (iI x0))] rfl ?_
  intro K E hK hret _ _ _
  refine X_iloadn hK (i := 0) 0 kd20_25.1 rfl rfl ?_
  refine X_callS hK [.int (iI x0)] [] lk_X7_89 (c_X7_isLetter _ _ _ _ _ S g x0 (by omega)) kd20_25.2.1 rfl rfl (by simp [Value.category]) (by decide) (by decide) (by decide) (by decide) (fun r1 S3 g2 pr1 qr1 hg2 => ?_)
  obtain ⟨rfl, rfl, z4, rfl, lz4, uz4, k5⟩ := pr1
  refine X_st [.int (iI z4)] rfl ?_
  refine X_if_ne hK 14 (by omega) kd20_25.2.2.1 (by decide) (fun c6 => ?_) (fun c6 => ?_)
  · refine X_iconst hK kd20_25.2.2.2.2.2.2.1 ?_
    refine X_goto hK 19 kd20_25.2.2.2.2.2.2.2.1 (by decide) ?_
    exact hret _ _ _ _ _ _ _ kd20_25.2.2.2.2.2.2.2.2.2.1 (by omega) (by omega) ⟨rfl, rfl, 1, rfl, (by omega), (by omega), (by omega)⟩ (Nat.le_refl _) (Nat.le_refl _)
  · refine X_iloadn hK (i := 0) 0 kd20_25.2.2.2.1 rfl rfl ?_
    refine X_callS hK [.int (iI x0)] [] lk_X7_92 (c_X7_isDigit _ _ _ _ _ S g x0 (by omega)) kd20_25.2.2.2.2.1 rfl rfl (by simp [Value.category]) (by decide) (by decide) (by decide) (by decide) (fun r7 S9 g8 pr7 qr7 hg8 => ?_)
    obtain ⟨rfl, rfl, z10, rfl, lz10, uz10, k11⟩ := pr7
    refine X_st [.int (iI z10)] rfl ?_
    refine X_if_eq hK 18 (by omega) kd20_25.2.2.2.2.2.1 (by decide) (fun c12 => ?_) (fun c12 => ?_)
    · refine X_iconst hK kd20_25.2.2.2.2.2.2.2.2.1 ?_
      exact hret _ _ _ _ _ _ _ kd20_25.2.2.2.2.2.2.2.2.2.1 (by omega) (by omega) ⟨rfl, rfl, 0, rfl, (by omega), (by omega), (by omega)⟩ (Nat.le_refl _) (Nat.le_refl _)
    · refine X_iconst hK kd20_25.2.2.2.2.2.2.1 ?_
      refine X_goto hK 19 kd20_25.2.2.2.2.2.2.2.1 (by decide) ?_
      exact hret _ _ _ _ _ _ _ kd20_25.2.2.2.2.2.2.2.2.2.1 (by omega) (by omega) ⟨rfl, rfl, 1, rfl, (by omega), (by omega), (by omega)⟩ (Nat.le_refl _) (Nat.le_refl _)

set_option maxHeartbeats 4000000 in
set_option maxRecDepth 100000 in
theorem c_X7_markToken (l : Launch) (D : va_G) (kA : Nat → ClassId) (b0 : Nat) (t0 : Nat → Nat) (S : xT) (g : xG) (x0 : Int) (hx0 : 0 ≤ x0 ∧ x0 ≤ 255) : xMt l yX7_markToken cX7_markToken 1 (some .int) 0 0 0 0 D kA b0 t0 [] [.int (iI x0)] S g (fun (r : Option Value) (S1 : xT) (g1 : xG) => S = S1 ∧ g = g1 ∧ ∃ z : Int, r = some (.int (iI z)) ∧ 22 ≤ z ∧ z ≤ 29) := by
  refine xEnterI (by decide) (by simp [lg_sl, Value.category]) [(0, .int (iI x0))] rfl ?_
  intro K E hK hret _ _ _
  refine X_iloadn hK (i := 0) 0 kd20_25.2.2.2.2.2.2.2.2.2.2.1 rfl rfl ?_
  rcases (show (40 ≠ x0 ∧ 41 ≠ x0 ∧ 59 ≠ x0 ∧ 60 ≠ x0 ∧ 61 ≠ x0 ∧ 62 ≠ x0) ∨ x0 = 40 ∨ x0 = 41 ∨ x0 = 59 ∨ x0 = 60 ∨ x0 = 61 ∨ x0 = 62 by omega) with c1 | c1 | c1 | c1 | c1 | c1 | c1
  · refine X_lookup hK (off := 76) 77 (by omega) kd20_25.2.2.2.2.2.2.2.2.2.2.2 (by decide) (by simp [Op.lookupswitch.offset, c1]) (by decide) ?_
    refine X_bipush hK kd20_27.1 (by decide) ?_
    exact hret _ _ _ _ _ _ _ kd20_27.2 ⟨rfl, rfl, 22, rfl, (by omega), (by omega)⟩ (Nat.le_refl _) (Nat.le_refl _)
  · refine X_lookup hK (off := 62) 63 (by omega) kd20_25.2.2.2.2.2.2.2.2.2.2.2 (by decide) (by rw [c1]; rfl) (by decide) ?_
    refine X_bipush hK kd20_26.2.2.1 (by decide) ?_
    exact hret _ _ _ _ _ _ _ kd20_26.2.2.2.1 ⟨rfl, rfl, 25, rfl, (by omega), (by omega)⟩ (Nat.le_refl _) (Nat.le_refl _)
  · refine X_lookup hK (off := 65) 66 (by omega) kd20_25.2.2.2.2.2.2.2.2.2.2.2 (by decide) (by rw [c1]; rfl) (by decide) ?_
    refine X_bipush hK kd20_26.2.2.2.2.1 (by decide) ?_
    exact hret _ _ _ _ _ _ _ kd20_26.2.2.2.2.2.1 ⟨rfl, rfl, 26, rfl, (by omega), (by omega)⟩ (Nat.le_refl _) (Nat.le_refl _)
  · refine X_lookup hK (off := 59) 60 (by omega) kd20_25.2.2.2.2.2.2.2.2.2.2.2 (by decide) (by rw [c1]; rfl) (by decide) ?_
    refine X_bipush hK kd20_26.1 (by decide) ?_
    exact hret _ _ _ _ _ _ _ kd20_26.2.1 ⟨rfl, rfl, 24, rfl, (by omega), (by omega)⟩ (Nat.le_refl _) (Nat.le_refl _)
  · refine X_lookup hK (off := 68) 69 (by omega) kd20_25.2.2.2.2.2.2.2.2.2.2.2 (by decide) (by rw [c1]; rfl) (by decide) ?_
    refine X_bipush hK kd20_26.2.2.2.2.2.2.1 (by decide) ?_
    refine X_iloadn hK (i := 0) 0 kd20_26.2.2.2.2.2.2.2.1 rfl rfl ?_
    refine X_iadd hK kd20_26.2.2.2.2.2.2.2.2.1 ?_
    refine X_bipush hK kd20_26.2.2.2.2.2.2.2.2.2.1 (by decide) ?_
    refine X_isub hK kd20_26.2.2.2.2.2.2.2.2.2.2.1 ?_
    exact hret _ _ _ _ _ _ _ kd20_26.2.2.2.2.2.2.2.2.2.2.2 ⟨rfl, rfl, ((27 + x0) - 60), rfl, (by omega), (by omega)⟩ (Nat.le_refl _) (Nat.le_refl _)
  · refine X_lookup hK (off := 68) 69 (by omega) kd20_25.2.2.2.2.2.2.2.2.2.2.2 (by decide) (by rw [c1]; rfl) (by decide) ?_
    refine X_bipush hK kd20_26.2.2.2.2.2.2.1 (by decide) ?_
    refine X_iloadn hK (i := 0) 0 kd20_26.2.2.2.2.2.2.2.1 rfl rfl ?_
    refine X_iadd hK kd20_26.2.2.2.2.2.2.2.2.1 ?_
    refine X_bipush hK kd20_26.2.2.2.2.2.2.2.2.2.1 (by decide) ?_
    refine X_isub hK kd20_26.2.2.2.2.2.2.2.2.2.2.1 ?_
    exact hret _ _ _ _ _ _ _ kd20_26.2.2.2.2.2.2.2.2.2.2.2 ⟨rfl, rfl, ((27 + x0) - 60), rfl, (by omega), (by omega)⟩ (Nat.le_refl _) (Nat.le_refl _)
  · refine X_lookup hK (off := 68) 69 (by omega) kd20_25.2.2.2.2.2.2.2.2.2.2.2 (by decide) (by rw [c1]; rfl) (by decide) ?_
    refine X_bipush hK kd20_26.2.2.2.2.2.2.1 (by decide) ?_
    refine X_iloadn hK (i := 0) 0 kd20_26.2.2.2.2.2.2.2.1 rfl rfl ?_
    refine X_iadd hK kd20_26.2.2.2.2.2.2.2.2.1 ?_
    refine X_bipush hK kd20_26.2.2.2.2.2.2.2.2.2.1 (by decide) ?_
    refine X_isub hK kd20_26.2.2.2.2.2.2.2.2.2.2.1 ?_
    exact hret _ _ _ _ _ _ _ kd20_26.2.2.2.2.2.2.2.2.2.2.2 ⟨rfl, rfl, ((27 + x0) - 60), rfl, (by omega), (by omega)⟩ (Nat.le_refl _) (Nat.le_refl _)

set_option maxHeartbeats 4000000 in
set_option maxRecDepth 100000 in
theorem c_X10_isSo (l : Launch) (D : va_G) (kA : Nat → ClassId) (b0 : Nat) (t0 : Nat → Nat) (S : xT) (g : xG) (x0 : Int) (x1 : Int) (hx0 : 0 ≤ x0 ∧ x0 ≤ 2147483647) (hx1 : (-2147483648) ≤ x1 ∧ x1 ≤ 2147483647) : xMt l yX10_isSo cX10_isSo 4 (some .boolean) 0 0 0 0 D kA b0 t0 [] [.int (iI x0), .int (iI x1)] S g (fun (r : Option Value) (S1 : xT) (g1 : xG) => S = S1 ∧ g = g1 ∧ ∃ z : Int, r = some (.int (iI z)) ∧ 0 ≤ z ∧ z ≤ 1) := by
  refine xEnterZ (by decide) (by simp [lg_sl, Value.category]) [(0, .int (iI x0)), (1, .int (iI x1))] rfl ?_
  intro K E hK hret _ _ _
  refine X_iloadn hK (i := 0) 0 kd20_0.1 rfl rfl ?_
  refine X_bipush hK kd20_0.2.1 (by decide) ?_
  refine X_idiv hK (by omega) (by omega) kd20_0.2.2.1 (fun z1 ez1 fz1 => ?_)
  have bz1 : 0 ≤ z1 ∧ z1 ≤ 33554431 := by omega
  refine X_istoren hK (i := 2) [(2, .int (iI z1)), (0, .int (iI x0)), (1, .int (iI x1))] kd20_0.2.2.2.1 rfl (by decide) rfl ?_
  refine X_iloadn hK (i := 0) 1 kd20_0.2.2.2.2.1 rfl rfl ?_
  refine X_bipush hK kd20_0.2.2.2.2.2.1 (by decide) ?_
  refine X_idiv hK (by omega) (by omega) kd20_0.2.2.2.2.2.2.1 (fun z2 ez2 fz2 => ?_)
  have bz2 : 0 ≤ z2 ∧ z2 ≤ 134217727 := by omega
  refine X_iconst hK kd20_0.2.2.2.2.2.2.2.1 ?_
  refine X_irem hK (by omega) (by omega) kd20_0.2.2.2.2.2.2.2.2.1 (fun z3 wz3 ez3 fz3 hz3 => ?_)
  have bz3 : 0 ≤ z3 ∧ z3 ≤ 3 := by omega
  refine X_istoren hK (i := 3) [(3, .int (iI z3)), (2, .int (iI z1)), (0, .int (iI x0)), (1, .int (iI x1))] kd20_0.2.2.2.2.2.2.2.2.2.1 rfl (by decide) rfl ?_
  refine X_iloadn hK (i := 3) 0 kd20_0.2.2.2.2.2.2.2.2.2.2.1 rfl rfl ?_
  refine X_if_ne hK 27 (by omega) kd20_0.2.2.2.2.2.2.2.2.2.2.2 (by decide) (fun c4 => ?_) (fun c4 => ?_)
  · refine X_iloadn hK (i := 3) 0 kd20_1.2.2.2.2.2.2.2.1 rfl rfl ?_
    refine X_iconst hK kd20_1.2.2.2.2.2.2.2.2.1 ?_
    refine X_icmp_ne hK 45 (by omega) (by omega) kd20_1.2.2.2.2.2.2.2.2.2.1 (by decide) (fun c5 => ?_) (fun c5 => ?_)
    · refine X_iloadn hK (i := 1) 3 kd20_2.2.2.2.2.2.1 rfl rfl ?_
      refine X_iloadn hK (i := 2) 1 kd20_2.2.2.2.2.2.2.1 rfl rfl ?_
      refine X_icmp_ne hK 54 (by omega) (by omega) kd20_2.2.2.2.2.2.2.2.1 (by decide) (fun c6 => ?_) (fun c6 => ?_)
      · refine X_iconst hK kd20_2.2.2.2.2.2.2.2.2.2.2.1 ?_
        exact hret _ _ _ _ _ _ _ kd20_2.2.2.2.2.2.2.2.2.2.2.2 (by omega) (by omega) ⟨rfl, rfl, 0, rfl, (by omega), (by omega)⟩ (Nat.le_refl _) (Nat.le_refl _)
      · refine X_iconst hK kd20_2.2.2.2.2.2.2.2.2.1 ?_
        refine X_goto hK 55 kd20_2.2.2.2.2.2.2.2.2.2.1 (by decide) ?_
        exact hret _ _ _ _ _ _ _ kd20_2.2.2.2.2.2.2.2.2.2.2.2 (by omega) (by omega) ⟨rfl, rfl, 1, rfl, (by omega), (by omega)⟩ (Nat.le_refl _) (Nat.le_refl _)
    · refine X_iloadn hK (i := 1) 3 kd20_1.2.2.2.2.2.2.2.2.2.2.1 rfl rfl ?_
      refine X_iloadn hK (i := 2) 1 kd20_1.2.2.2.2.2.2.2.2.2.2.2 rfl rfl ?_
      refine X_icmp_le hK 41 (by omega) (by omega) kd20_2.1 (by decide) (fun c7 => ?_) (fun c7 => ?_)
      · refine X_iconst hK kd20_2.2.2.2.1 ?_
        refine X_goto hK 55 kd20_2.2.2.2.2.1 (by decide) ?_
        exact hret _ _ _ _ _ _ _ kd20_2.2.2.2.2.2.2.2.2.2.2.2 (by omega) (by omega) ⟨rfl, rfl, 0, rfl, (by omega), (by omega)⟩ (Nat.le_refl _) (Nat.le_refl _)
      · refine X_iconst hK kd20_2.2.1 ?_
        refine X_goto hK 55 kd20_2.2.2.1 (by decide) ?_
        exact hret _ _ _ _ _ _ _ kd20_2.2.2.2.2.2.2.2.2.2.2.2 (by omega) (by omega) ⟨rfl, rfl, 1, rfl, (by omega), (by omega)⟩ (Nat.le_refl _) (Nat.le_refl _)
  · refine X_iloadn hK (i := 1) 3 kd20_1.1 rfl rfl ?_
    refine X_iloadn hK (i := 2) 1 kd20_1.2.1 rfl rfl ?_
    refine X_icmp_ge hK 25 (by omega) (by omega) kd20_1.2.2.1 (by decide) (fun c8 => ?_) (fun c8 => ?_)
    · refine X_iconst hK kd20_1.2.2.2.2.2.1 ?_
      exact hret _ _ _ _ _ _ _ kd20_1.2.2.2.2.2.2.1 (by omega) (by omega) ⟨rfl, rfl, 0, rfl, (by omega), (by omega)⟩ (Nat.le_refl _) (Nat.le_refl _)
    · refine X_iconst hK kd20_1.2.2.2.1 ?_
      refine X_goto hK 26 kd20_1.2.2.2.2.1 (by decide) ?_
      exact hret _ _ _ _ _ _ _ kd20_1.2.2.2.2.2.2.1 (by omega) (by omega) ⟨rfl, rfl, 1, rfl, (by omega), (by omega)⟩ (Nat.le_refl _) (Nat.le_refl _)

set_option maxHeartbeats 4000000 in
set_option maxRecDepth 100000 in
theorem c_X12_spelt (l : Launch) (D : va_G) (kA : Nat → ClassId) (b0 : Nat) (t0 : Nat → Nat) (S : xT) (g : xG) (x0 : Int) (x1 : Int) (x2 : Int) (x3 : Int) (x4 : Int) (hx0 : (-2147483648) ≤ x0 ∧ x0 ≤ 2147483647) (hx1 : (-2147483648) ≤ x1 ∧ x1 ≤ 2147483647) (hx2 : (-2147483648) ≤ x2 ∧ x2 ≤ 2147483647) (hx3 : (-2147483648) ≤ x3 ∧ x3 ≤ 2147483647) (hx4 : (-2147483648) ≤ x4 ∧ x4 ≤ 2147483647) : xMt l yX12_spelt cX12_spelt 7 (some .long) 0 0 0 0 D kA b0 t0 [] [.int (iI x0), .int (iI x1), .int (iI x2), .int (iI x3), .int (iI x4)] S g (fun (r : Option Value) (S1 : xT) (g1 : xG) => S = S1 ∧ g = g1 ∧ ∃ z : Int64, r = some (.long z)) := by
  refine xEnterL (by decide) (by simp [lg_sl, Value.category]) [(0, .int (iI x0)), (1, .int (iI x1)), (2, .int (iI x2)), (3, .int (iI x3)), (4, .int (iI x4))] rfl ?_
  intro K E hK hret _ _ _
  refine X_ldc2 hK kd20_18.2.2.2.1 m_29_6 (fun y1 => ?_)
  refine X_iloadn hK (i := 0) 0 kd20_18.2.2.2.2.1 rfl rfl ?_
  refine X_i2l hK kd20_18.2.2.2.2.2.1 (fun y2 => ?_)
  refine X_ldc2 hK kd20_18.2.2.2.2.2.2.1 m_29_7 (fun y3 => ?_)
  refine X_lsub hK kd20_18.2.2.2.2.2.2.2.1 (fun y4 => ?_)
  refine X_lmul hK kd20_18.2.2.2.2.2.2.2.2.1 (fun y5 => ?_)
  refine X_iloadn hK (i := 1) 1 kd20_18.2.2.2.2.2.2.2.2.2.1 rfl rfl ?_
  refine X_i2l hK kd20_18.2.2.2.2.2.2.2.2.2.2.1 (fun y6 => ?_)
  refine X_ladd hK kd20_18.2.2.2.2.2.2.2.2.2.2.2 (fun y7 => ?_)
  refine X_ldc2 hK kd20_19.1 m_29_7 (fun y8 => ?_)
  refine X_lsub hK kd20_19.2.1 (fun y9 => ?_)
  refine X_lstore hK (i := 5) [(5, .long y9), (0, .int (iI x0)), (1, .int (iI x1)), (2, .int (iI x2)), (3, .int (iI x3)), (4, .int (iI x4))] kd20_19.2.2.1 (by decide) rfl ?_
  refine X_iloadn hK (i := 2) 3 kd20_19.2.2.2.1 rfl rfl ?_
  have J18 : ∀ (y17 : Int64), X K E 38 [(5, .long y17), (0, .int (iI x0)), (1, .int (iI x1)), (2, .int (iI x2)), (3, .int (iI x3)), (4, .int (iI x4))] [] S g 0 0 := by
    intro y17
    refine X_iloadn hK (i := 3) 4 kd20_20.2.2.1 rfl rfl ?_
    have J27 : ∀ (y26 : Int64), X K E 57 [(5, .long y26), (0, .int (iI x0)), (1, .int (iI x1)), (2, .int (iI x2)), (3, .int (iI x3)), (4, .int (iI x4))] [] S g 0 0 := by
      intro y26
      refine X_iload hK (i := 4) 5 kd20_21.2.1 rfl ?_
      refine X_if_le hK 79 (by omega) kd20_21.2.2.1 (by decide) (fun c28 => ?_) (fun c28 => ?_)
      · refine X_lload hK (i := 5) 0 kd20_22.1 rfl ?_
        exact hret _ _ _ _ _ _ _ kd20_22.2.1 ⟨rfl, rfl, y26, rfl⟩ (Nat.le_refl _) (Nat.le_refl _)
      · refine X_ldc2 hK kd20_21.2.2.2.1 m_29_6 (fun y29 => ?_)
        refine X_lload hK (i := 5) 0 kd20_21.2.2.2.2.1 rfl ?_
        refine X_lmul hK kd20_21.2.2.2.2.2.1 (fun y30 => ?_)
        refine X_iload hK (i := 4) 5 kd20_21.2.2.2.2.2.2.1 rfl ?_
        refine X_i2l hK kd20_21.2.2.2.2.2.2.2.1 (fun y31 => ?_)
        refine X_ladd hK kd20_21.2.2.2.2.2.2.2.2.1 (fun y32 => ?_)
        refine X_ldc2 hK kd20_21.2.2.2.2.2.2.2.2.2.1 m_29_7 (fun y33 => ?_)
        refine X_lsub hK kd20_21.2.2.2.2.2.2.2.2.2.2.1 (fun y34 => ?_)
        refine X_goto hK 81 kd20_21.2.2.2.2.2.2.2.2.2.2.2 (by decide) ?_
        exact hret _ _ _ _ _ _ _ kd20_22.2.1 ⟨rfl, rfl, y34, rfl⟩ (Nat.le_refl _) (Nat.le_refl _)
    refine X_if_le hK 57 (by omega) kd20_20.2.2.2.1 (by decide) (fun c19 => ?_) (fun c19 => ?_)
    · exact J27 y17
    · refine X_ldc2 hK kd20_20.2.2.2.2.1 m_29_6 (fun y35 => ?_)
      refine X_lload hK (i := 5) 0 kd20_20.2.2.2.2.2.1 rfl ?_
      refine X_lmul hK kd20_20.2.2.2.2.2.2.1 (fun y36 => ?_)
      refine X_iloadn hK (i := 3) 4 kd20_20.2.2.2.2.2.2.2.1 rfl rfl ?_
      refine X_i2l hK kd20_20.2.2.2.2.2.2.2.2.1 (fun y37 => ?_)
      refine X_ladd hK kd20_20.2.2.2.2.2.2.2.2.2.1 (fun y38 => ?_)
      refine X_ldc2 hK kd20_20.2.2.2.2.2.2.2.2.2.2.1 m_29_7 (fun y39 => ?_)
      refine X_lsub hK kd20_20.2.2.2.2.2.2.2.2.2.2.2 (fun y40 => ?_)
      refine X_lstore hK (i := 5) [(5, .long y40), (0, .int (iI x0)), (1, .int (iI x1)), (2, .int (iI x2)), (3, .int (iI x3)), (4, .int (iI x4))] kd20_21.1 (by decide) rfl ?_
      exact J27 y40
  refine X_if_le hK 38 (by omega) kd20_19.2.2.2.2.1 (by decide) (fun c10 => ?_) (fun c10 => ?_)
  · exact J18 y9
  · refine X_ldc2 hK kd20_19.2.2.2.2.2.1 m_29_6 (fun y41 => ?_)
    refine X_lload hK (i := 5) 0 kd20_19.2.2.2.2.2.2.1 rfl ?_
    refine X_lmul hK kd20_19.2.2.2.2.2.2.2.1 (fun y42 => ?_)
    refine X_iloadn hK (i := 2) 3 kd20_19.2.2.2.2.2.2.2.2.1 rfl rfl ?_
    refine X_i2l hK kd20_19.2.2.2.2.2.2.2.2.2.1 (fun y43 => ?_)
    refine X_ladd hK kd20_19.2.2.2.2.2.2.2.2.2.2.1 (fun y44 => ?_)
    refine X_ldc2 hK kd20_19.2.2.2.2.2.2.2.2.2.2.2 m_29_7 (fun y45 => ?_)
    refine X_lsub hK kd20_20.1 (fun y46 => ?_)
    refine X_lstore hK (i := 5) [(5, .long y46), (0, .int (iI x0)), (1, .int (iI x1)), (2, .int (iI x2)), (3, .int (iI x3)), (4, .int (iI x4))] kd20_20.2.1 (by decide) rfl ?_
    exact J18 y46
