theorem m_1_19 : Cond.initialized RX5 ∈ wsL_law := ch_1 _ (List.mem_of_getElem? (i := 19) rfl)
theorem m_3_23 : Cond.fieldLink RX5 12 "PaperBoys$Market" "city" "LPaperBoys$City;" ∈ wsL_law := ch_3 _ (List.mem_of_getElem? (i := 23) rfl)
theorem m_4_1 : Cond.fieldLink RX5 21 "PaperBoys$Market" "boys" "Ljava/util/ArrayList;" ∈ wsL_law := ch_4 _ (List.mem_of_getElem? (i := 1) rfl)
theorem m_4_2 : Cond.fieldLink RX5 25 "PaperBoys$Market" "bundles" "Ljava/util/ArrayList;" ∈ wsL_law := ch_4 _ (List.mem_of_getElem? (i := 2) rfl)
theorem m_4_4 : Cond.fieldLink RX5 31 "PaperBoys$Market" "facts" "[I" ∈ wsL_law := ch_4 _ (List.mem_of_getElem? (i := 4) rfl)
theorem m_4_5 : Cond.fieldLink RX5 35 "PaperBoys$Market" "soldSum" "I" ∈ wsL_law := ch_4 _ (List.mem_of_getElem? (i := 5) rfl)
theorem m_4_6 : Cond.fieldLink RX5 39 "PaperBoys$Market" "gainSum" "I" ∈ wsL_law := ch_4 _ (List.mem_of_getElem? (i := 6) rfl)
theorem m_4_7 : Cond.fieldLink RX5 42 "PaperBoys$Market" "eatenSum" "I" ∈ wsL_law := ch_4 _ (List.mem_of_getElem? (i := 7) rfl)
theorem m_12_4 : Cond.instanceMethod yJx4a65c_size_8abf5 ∈ wsL_law := ch_12 _ (List.mem_of_getElem? (i := 4) rfl)
theorem m_12_5 : Cond.selects RJx4a65c yJx4a65c_size_8abf5 yJx4a65c_size_8abf5 ∈ wsL_law := ch_12 _ (List.mem_of_getElem? (i := 5) rfl)
theorem m_12_6 : Cond.code yJx4a65c_size_8abf5 cJx4a65c_size_8abf5 1 (some .int) ∈ wsL_law := ch_12 _ (List.mem_of_getElem? (i := 6) rfl)
theorem m_13_22 : Cond.static Lib.Math.max.name ∈ wsL_law := ch_13 _ (List.mem_of_getElem? (i := 22) rfl)
theorem m_14_0 : Cond.code Lib.Math.max.name Lib.Math.max.code 2 (some .int) ∈ wsL_law := ch_14 _ (List.mem_of_getElem? (i := 0) rfl)
theorem m_16_1 : Cond.methodLink RX5 45 yJx4a65c_size_8abf5 ∈ wsL_law := ch_16 _ (List.mem_of_getElem? (i := 1) rfl)
theorem m_16_3 : Cond.instanceMethod yJx4a65c_get_915e3 ∈ wsL_law := ch_16 _ (List.mem_of_getElem? (i := 3) rfl)
theorem m_16_4 : Cond.selects RJx4a65c yJx4a65c_get_915e3 yJx4a65c_get_915e3 ∈ wsL_law := ch_16 _ (List.mem_of_getElem? (i := 4) rfl)
theorem m_16_5 : Cond.code yJx4a65c_get_915e3 cJx4a65c_get_915e3 2 (some (.object "java/lang/Object")) ∈ wsL_law := ch_16 _ (List.mem_of_getElem? (i := 5) rfl)
theorem m_34_3 : Cond.fieldLink RX5 83 "PaperBoys$Bundle" "copies" "I" ∈ wsL_law := ch_34 _ (List.mem_of_getElem? (i := 3) rfl)
theorem m_34_4 : Cond.fieldLink RX5 49 "PaperBoys$Bundle" "boy" "LPaperBoys$Boy;" ∈ wsL_law := ch_34 _ (List.mem_of_getElem? (i := 4) rfl)
theorem m_34_5 : Cond.fieldLink RX5 106 "PaperBoys$Boy" "coin" "I" ∈ wsL_law := ch_34 _ (List.mem_of_getElem? (i := 5) rfl)
theorem m_34_7 : Cond.methodLink RX5 92 yX5_learn ∈ wsL_law := ch_34 _ (List.mem_of_getElem? (i := 7) rfl)
theorem m_34_8 : Cond.instanceMethod yX5_learn ∈ wsL_law := ch_34 _ (List.mem_of_getElem? (i := 8) rfl)
theorem m_34_9 : Cond.selects RX5 yX5_learn yX5_learn ∈ wsL_law := ch_34 _ (List.mem_of_getElem? (i := 9) rfl)
theorem m_34_10 : Cond.code yX5_learn cX5_learn 3 none ∈ wsL_law := ch_34 _ (List.mem_of_getElem? (i := 10) rfl)
theorem m_34_11 : Cond.fieldLink RX5 55 "PaperBoys$Boy" "school" "Z" ∈ wsL_law := ch_34 _ (List.mem_of_getElem? (i := 11) rfl)
theorem m_34_12 : Cond.fieldLink RX5 61 "PaperBoys$Bundle" "day" "I" ∈ wsL_law := ch_34 _ (List.mem_of_getElem? (i := 12) rfl)
theorem m_34_13 : Cond.fieldLink RX5 64 "PaperBoys$Boy" "badge" "I" ∈ wsL_law := ch_34 _ (List.mem_of_getElem? (i := 13) rfl)
theorem m_34_14 : Cond.fieldLink RX5 71 "PaperBoys$Boy" "age" "I" ∈ wsL_law := ch_34 _ (List.mem_of_getElem? (i := 14) rfl)
theorem m_34_15 : Cond.fieldLink RX5 74 "PaperBoys$Bundle" "hour" "I" ∈ wsL_law := ch_34 _ (List.mem_of_getElem? (i := 15) rfl)
theorem m_34_16 : Cond.fieldLink RX5 77 "PaperBoys$Bundle" "paper" "I" ∈ wsL_law := ch_34 _ (List.mem_of_getElem? (i := 16) rfl)
theorem m_34_17 : Cond.fieldLink RX5 80 "PaperBoys$Bundle" "corner" "I" ∈ wsL_law := ch_34 _ (List.mem_of_getElem? (i := 17) rfl)
theorem m_34_18 : Cond.fieldLink RX5 86 "PaperBoys$City" "sky" "[I" ∈ wsL_law := ch_34 _ (List.mem_of_getElem? (i := 18) rfl)
theorem m_34_19 : Cond.fieldLink RX5 89 "PaperBoys$Boy" "fists" "I" ∈ wsL_law := ch_34 _ (List.mem_of_getElem? (i := 19) rfl)
theorem m_34_20 : Cond.methodLink RX5 67 yX5_isOwners ∈ wsL_law := ch_34 _ (List.mem_of_getElem? (i := 20) rfl)
theorem m_34_21 : Cond.instanceMethod yX5_isOwners ∈ wsL_law := ch_34 _ (List.mem_of_getElem? (i := 21) rfl)
theorem m_34_22 : Cond.selects RX5 yX5_isOwners yX5_isOwners ∈ wsL_law := ch_34 _ (List.mem_of_getElem? (i := 22) rfl)
theorem m_34_23 : Cond.code yX5_isOwners cX5_isOwners 2 (some .boolean) ∈ wsL_law := ch_34 _ (List.mem_of_getElem? (i := 23) rfl)
theorem m_35_0 : Cond.fieldLink RX5 172 "PaperBoys$City" "owners" "[I" ∈ wsL_law := ch_35 _ (List.mem_of_getElem? (i := 0) rfl)
theorem m_35_1 : Cond.fieldLink RX5 175 "PaperBoys$Boy" "number" "I" ∈ wsL_law := ch_35 _ (List.mem_of_getElem? (i := 1) rfl)
theorem m_35_2 : Cond.methodLink RX5 96 yX10_tells ∈ wsL_law := ch_35 _ (List.mem_of_getElem? (i := 2) rfl)
theorem m_35_3 : Cond.instanceMethod yX10_tells ∈ wsL_law := ch_35 _ (List.mem_of_getElem? (i := 3) rfl)
theorem m_35_4 : Cond.selects RX10 yX10_tells yX10_tells ∈ wsL_law := ch_35 _ (List.mem_of_getElem? (i := 4) rfl)
theorem m_35_5 : Cond.code yX10_tells cX10_tells 3 (some .int) ∈ wsL_law := ch_35 _ (List.mem_of_getElem? (i := 5) rfl)
theorem m_35_6 : Cond.methodLink RX10 50 yX10_lineFor ∈ wsL_law := ch_35 _ (List.mem_of_getElem? (i := 6) rfl)
theorem m_35_7 : Cond.instanceMethod yX10_lineFor ∈ wsL_law := ch_35 _ (List.mem_of_getElem? (i := 7) rfl)
theorem m_35_8 : Cond.selects RX10 yX10_lineFor yX10_lineFor ∈ wsL_law := ch_35 _ (List.mem_of_getElem? (i := 8) rfl)
theorem m_35_9 : Cond.code yX10_lineFor cX10_lineFor 4 (some .int) ∈ wsL_law := ch_35 _ (List.mem_of_getElem? (i := 9) rfl)
theorem m_35_17 : Cond.methodLink RX10 54 yX10_numberOf ∈ wsL_law := ch_35 _ (List.mem_of_getElem? (i := 17) rfl)
theorem m_35_18 : Cond.instanceMethod yX10_numberOf ∈ wsL_law := ch_35 _ (List.mem_of_getElem? (i := 18) rfl)
theorem m_35_19 : Cond.selects RX10 yX10_numberOf yX10_numberOf ∈ wsL_law := ch_35 _ (List.mem_of_getElem? (i := 19) rfl)
theorem m_35_20 : Cond.code yX10_numberOf cX10_numberOf 4 (some .int) ∈ wsL_law := ch_35 _ (List.mem_of_getElem? (i := 20) rfl)
theorem m_35_21 : Cond.methodLink RX10 44 Lib.Math.min.name ∈ wsL_law := ch_35 _ (List.mem_of_getElem? (i := 21) rfl)
theorem m_38_23 : Cond.classLink RX5 50 "PaperBoys$Bundle" ∈ wsL_law := ch_38 _ (List.mem_of_getElem? (i := 23) rfl)
theorem m_39_0 : Cond.fieldLink RX5 131 "PaperBoys$Bundle" "place" "I" ∈ wsL_law := ch_39 _ (List.mem_of_getElem? (i := 0) rfl)
theorem m_39_9 : Cond.methodLink RX5 119 yJx4a65c_get_915e3 ∈ wsL_law := ch_39 _ (List.mem_of_getElem? (i := 9) rfl)
theorem m_40_8 : Cond.methodLink RX5 142 Lib.Math.min.name ∈ wsL_law := ch_40 _ (List.mem_of_getElem? (i := 8) rfl)
theorem m_40_9 : Cond.fieldLink RX5 153 "PaperBoys$Bundle" "sold" "I" ∈ wsL_law := ch_40 _ (List.mem_of_getElem? (i := 9) rfl)
theorem m_40_10 : Cond.fieldLink RX5 156 "PaperBoys$Bundle" "back" "I" ∈ wsL_law := ch_40 _ (List.mem_of_getElem? (i := 10) rfl)
theorem m_40_11 : Cond.fieldLink RX5 159 "PaperBoys$Bundle" "eaten" "I" ∈ wsL_law := ch_40 _ (List.mem_of_getElem? (i := 11) rfl)
theorem m_44_2 : Cond.methodLink RX4 29 yX5_cameBack ∈ wsL_law := ch_44 _ (List.mem_of_getElem? (i := 2) rfl)
theorem m_44_3 : Cond.instanceMethod yX5_cameBack ∈ wsL_law := ch_44 _ (List.mem_of_getElem? (i := 3) rfl)
theorem m_44_4 : Cond.selects RX5 yX5_cameBack yX5_cameBack ∈ wsL_law := ch_44 _ (List.mem_of_getElem? (i := 4) rfl)
theorem m_44_5 : Cond.code yX5_cameBack cX5_cameBack 5 (some .int) ∈ wsL_law := ch_44 _ (List.mem_of_getElem? (i := 5) rfl)
theorem m_45_2 : Cond.fieldLink RX4 35 "PaperBoys$Market" "bundles" "Ljava/util/ArrayList;" ∈ wsL_law := ch_45 _ (List.mem_of_getElem? (i := 2) rfl)
theorem m_45_3 : Cond.classLink RX4 48 "PaperBoys$Bundle" ∈ wsL_law := ch_45 _ (List.mem_of_getElem? (i := 3) rfl)
theorem m_45_4 : Cond.fieldLink RX4 50 "PaperBoys$Bundle" "day" "I" ∈ wsL_law := ch_45 _ (List.mem_of_getElem? (i := 4) rfl)
theorem m_45_5 : Cond.fieldLink RX4 53 "PaperBoys$Bundle" "place" "I" ∈ wsL_law := ch_45 _ (List.mem_of_getElem? (i := 5) rfl)
theorem m_45_6 : Cond.methodLink RX4 61 Lib.Math.max.name ∈ wsL_law := ch_45 _ (List.mem_of_getElem? (i := 6) rfl)
theorem m_45_7 : Cond.methodLink RX4 39 yJx4a65c_size_8abf5 ∈ wsL_law := ch_45 _ (List.mem_of_getElem? (i := 7) rfl)
theorem m_45_8 : Cond.methodLink RX4 44 yJx4a65c_get_915e3 ∈ wsL_law := ch_45 _ (List.mem_of_getElem? (i := 8) rfl)
theorem m_45_9 : Cond.methodLink RX4 55 yX5_firstAt ∈ wsL_law := ch_45 _ (List.mem_of_getElem? (i := 9) rfl)
theorem m_45_10 : Cond.instanceMethod yX5_firstAt ∈ wsL_law := ch_45 _ (List.mem_of_getElem? (i := 10) rfl)
theorem m_45_11 : Cond.selects RX5 yX5_firstAt yX5_firstAt ∈ wsL_law := ch_45 _ (List.mem_of_getElem? (i := 11) rfl)
theorem m_45_12 : Cond.code yX5_firstAt cX5_firstAt 3 (some .int) ∈ wsL_law := ch_45 _ (List.mem_of_getElem? (i := 12) rfl)
theorem m_45_13 : Cond.methodLink RX4 58 yX4_countedAsOf ∈ wsL_law := ch_45 _ (List.mem_of_getElem? (i := 13) rfl)
theorem m_45_14 : Cond.instanceMethod yX4_countedAsOf ∈ wsL_law := ch_45 _ (List.mem_of_getElem? (i := 14) rfl)
theorem m_45_15 : Cond.selects RX4 yX4_countedAsOf yX4_countedAsOf ∈ wsL_law := ch_45 _ (List.mem_of_getElem? (i := 15) rfl)
theorem m_45_16 : Cond.code yX4_countedAsOf cX4_countedAsOf 4 (some .int) ∈ wsL_law := ch_45 _ (List.mem_of_getElem? (i := 16) rfl)
theorem kd32_0 : (decode cX10_numberOf 0 = .ok (.iload_n 1, 1)) ∧ (decode cX10_numberOf 1 = .ok (.iconst (-1), 1)) ∧ (decode cX10_numberOf 2 = .ok (.if_icmp .ne 11, 3)) ∧ (decode cX10_numberOf 5 = .ok (.getstatic 41, 3)) ∧ (decode cX10_numberOf 8 = .ok (.iload_n 2, 1)) ∧ (decode cX10_numberOf 9 = .ok (.iaload, 1)) ∧ (decode cX10_numberOf 10 = .ok (.goto 9, 3)) ∧ (decode cX10_numberOf 13 = .ok (.aload_n 0, 1)) ∧ (decode cX10_numberOf 14 = .ok (.getfield 25, 3)) ∧ (decode cX10_numberOf 17 = .ok (.iload_n 1, 1)) ∧ (decode cX10_numberOf 18 = .ok (.iaload, 1)) ∧ (decode cX10_numberOf 19 = .ok (.istore_n 3, 1)) := by decide +kernel
theorem kd32_1 : (decode cX10_numberOf 20 = .ok (.iload_n 2, 1)) ∧ (decode cX10_numberOf 21 = .ok (.iconst 2, 1)) ∧ (decode cX10_numberOf 22 = .ok (.if_icmp .ne 12, 3)) ∧ (decode cX10_numberOf 25 = .ok (.iload_n 3, 1)) ∧ (decode cX10_numberOf 26 = .ok (.bipush 100, 2)) ∧ (decode cX10_numberOf 28 = .ok (.invokestatic 44, 3)) ∧ (decode cX10_numberOf 31 = .ok (.goto 4, 3)) ∧ (decode cX10_numberOf 34 = .ok (.iload_n 3, 1)) ∧ (decode cX10_numberOf 35 = .ok (.ireturn, 1)) ∧ (decode cX10_tells 0 = .ok (.aload_n 0, 1)) ∧ (decode cX10_tells 1 = .ok (.aload_n 0, 1)) ∧ (decode cX10_tells 2 = .ok (.iload_n 1, 1)) := by decide +kernel
theorem kd32_2 : (decode cX10_tells 3 = .ok (.aload_n 2, 1)) ∧ (decode cX10_tells 4 = .ok (.invokevirtual 50, 3)) ∧ (decode cX10_tells 7 = .ok (.iload_n 1, 1)) ∧ (decode cX10_tells 8 = .ok (.invokevirtual 54, 3)) ∧ (decode cX10_tells 11 = .ok (.ireturn, 1)) ∧ (decode cX4_falseAsOf 0 = .ok (.iconst 0, 1)) ∧ (decode cX4_falseAsOf 1 = .ok (.istore_n 3, 1)) ∧ (decode cX4_falseAsOf 2 = .ok (.iconst 0, 1)) ∧ (decode cX4_falseAsOf 3 = .ok (.istore 4, 2)) ∧ (decode cX4_falseAsOf 5 = .ok (.iload 4, 2)) ∧ (decode cX4_falseAsOf 7 = .ok (.aload_n 0, 1)) ∧ (decode cX4_falseAsOf 8 = .ok (.getfield 21, 3)) := by decide +kernel
theorem kd32_3 : (decode cX4_falseAsOf 11 = .ok (.if_icmp .ge 50, 3)) ∧ (decode cX4_falseAsOf 14 = .ok (.aload_n 0, 1)) ∧ (decode cX4_falseAsOf 15 = .ok (.iload_n 1, 1)) ∧ (decode cX4_falseAsOf 16 = .ok (.aload_n 0, 1)) ∧ (decode cX4_falseAsOf 17 = .ok (.getfield 9, 3)) ∧ (decode cX4_falseAsOf 20 = .ok (.iload 4, 2)) ∧ (decode cX4_falseAsOf 22 = .ok (.iaload, 1)) ∧ (decode cX4_falseAsOf 23 = .ok (.invokevirtual 25, 3)) ∧ (decode cX4_falseAsOf 26 = .ok (.iload 4, 2)) ∧ (decode cX4_falseAsOf 28 = .ok (.if_icmp .ne 27, 3)) ∧ (decode cX4_falseAsOf 31 = .ok (.aload_n 0, 1)) ∧ (decode cX4_falseAsOf 32 = .ok (.getfield 15, 3)) := by decide +kernel
theorem kd32_4 : (decode cX4_falseAsOf 35 = .ok (.iload 4, 2)) ∧ (decode cX4_falseAsOf 37 = .ok (.iaload, 1)) ∧ (decode cX4_falseAsOf 38 = .ok (.aload_n 2, 1)) ∧ (decode cX4_falseAsOf 39 = .ok (.aload_n 0, 1)) ∧ (decode cX4_falseAsOf 40 = .ok (.getfield 9, 3)) ∧ (decode cX4_falseAsOf 43 = .ok (.iload 4, 2)) ∧ (decode cX4_falseAsOf 45 = .ok (.iaload, 1)) ∧ (decode cX4_falseAsOf 46 = .ok (.invokevirtual 29, 3)) ∧ (decode cX4_falseAsOf 49 = .ok (.if_icmp .le 6, 3)) ∧ (decode cX4_falseAsOf 52 = .ok (.iinc 3 1, 3)) ∧ (decode cX4_falseAsOf 55 = .ok (.iinc 4 1, 3)) ∧ (decode cX4_falseAsOf 58 = .ok (.goto (-53), 3)) := by decide +kernel
theorem kd32_5 : (decode cX4_falseAsOf 61 = .ok (.iload_n 3, 1)) ∧ (decode cX4_falseAsOf 62 = .ok (.ireturn, 1)) ∧ (decode cX4_shortAsOf 0 = .ok (.iconst 0, 1)) ∧ (decode cX4_shortAsOf 1 = .ok (.istore 4, 2)) ∧ (decode cX4_shortAsOf 3 = .ok (.iconst 0, 1)) ∧ (decode cX4_shortAsOf 4 = .ok (.istore 5, 2)) ∧ (decode cX4_shortAsOf 6 = .ok (.iload 5, 2)) ∧ (decode cX4_shortAsOf 8 = .ok (.aload_n 3, 1)) ∧ (decode cX4_shortAsOf 9 = .ok (.getfield 35, 3)) ∧ (decode cX4_shortAsOf 12 = .ok (.invokevirtual 39, 3)) ∧ (decode cX4_shortAsOf 15 = .ok (.if_icmp .ge 84, 3)) ∧ (decode cX4_shortAsOf 18 = .ok (.aload_n 3, 1)) := by decide +kernel
theorem kd32_6 : (decode cX4_shortAsOf 19 = .ok (.getfield 35, 3)) ∧ (decode cX4_shortAsOf 22 = .ok (.iload 5, 2)) ∧ (decode cX4_shortAsOf 24 = .ok (.invokevirtual 44, 3)) ∧ (decode cX4_shortAsOf 27 = .ok (.checkcast 48, 3)) ∧ (decode cX4_shortAsOf 30 = .ok (.astore 6, 2)) ∧ (decode cX4_shortAsOf 32 = .ok (.aload 6, 2)) ∧ (decode cX4_shortAsOf 34 = .ok (.getfield 50, 3)) ∧ (decode cX4_shortAsOf 37 = .ok (.iload_n 2, 1)) ∧ (decode cX4_shortAsOf 38 = .ok (.if_icmp .ge 55, 3)) ∧ (decode cX4_shortAsOf 41 = .ok (.aload 6, 2)) ∧ (decode cX4_shortAsOf 43 = .ok (.getfield 50, 3)) ∧ (decode cX4_shortAsOf 46 = .ok (.iload_n 1, 1)) := by decide +kernel
theorem kd32_7 : (decode cX4_shortAsOf 47 = .ok (.if_icmp .gt 46, 3)) ∧ (decode cX4_shortAsOf 50 = .ok (.aload_n 3, 1)) ∧ (decode cX4_shortAsOf 51 = .ok (.aload 6, 2)) ∧ (decode cX4_shortAsOf 53 = .ok (.getfield 53, 3)) ∧ (decode cX4_shortAsOf 56 = .ok (.invokevirtual 55, 3)) ∧ (decode cX4_shortAsOf 59 = .ok (.iload 5, 2)) ∧ (decode cX4_shortAsOf 61 = .ok (.if_icmp .ne 32, 3)) ∧ (decode cX4_shortAsOf 64 = .ok (.iload 4, 2)) ∧ (decode cX4_shortAsOf 66 = .ok (.iconst 0, 1)) ∧ (decode cX4_shortAsOf 67 = .ok (.aload_n 3, 1)) ∧ (decode cX4_shortAsOf 68 = .ok (.aload 6, 2)) ∧ (decode cX4_shortAsOf 70 = .ok (.getfield 53, 3)) := by decide +kernel
theorem kd32_8 : (decode cX4_shortAsOf 73 = .ok (.invokevirtual 29, 3)) ∧ (decode cX4_shortAsOf 76 = .ok (.aload_n 0, 1)) ∧ (decode cX4_shortAsOf 77 = .ok (.iload_n 1, 1)) ∧ (decode cX4_shortAsOf 78 = .ok (.aload 6, 2)) ∧ (decode cX4_shortAsOf 80 = .ok (.getfield 53, 3)) ∧ (decode cX4_shortAsOf 83 = .ok (.invokevirtual 58, 3)) ∧ (decode cX4_shortAsOf 86 = .ok (.isub, 1)) ∧ (decode cX4_shortAsOf 87 = .ok (.invokestatic 61, 3)) ∧ (decode cX4_shortAsOf 90 = .ok (.iadd, 1)) ∧ (decode cX4_shortAsOf 91 = .ok (.istore 4, 2)) ∧ (decode cX4_shortAsOf 93 = .ok (.iinc 5 1, 3)) ∧ (decode cX4_shortAsOf 96 = .ok (.goto (-90), 3)) := by decide +kernel
theorem kd32_9 : (decode cX4_shortAsOf 99 = .ok (.iload 4, 2)) ∧ (decode cX4_shortAsOf 101 = .ok (.ireturn, 1)) ∧ (decode cX5_cameBack 0 = .ok (.iconst 0, 1)) ∧ (decode cX5_cameBack 1 = .ok (.istore_n 2, 1)) ∧ (decode cX5_cameBack 2 = .ok (.iconst 0, 1)) ∧ (decode cX5_cameBack 3 = .ok (.istore_n 3, 1)) ∧ (decode cX5_cameBack 4 = .ok (.iload_n 3, 1)) ∧ (decode cX5_cameBack 5 = .ok (.aload_n 0, 1)) ∧ (decode cX5_cameBack 6 = .ok (.getfield 25, 3)) ∧ (decode cX5_cameBack 9 = .ok (.invokevirtual 45, 3)) ∧ (decode cX5_cameBack 12 = .ok (.if_icmp .ge 43, 3)) ∧ (decode cX5_cameBack 15 = .ok (.aload_n 0, 1)) := by decide +kernel
theorem kd32_10 : (decode cX5_cameBack 16 = .ok (.getfield 25, 3)) ∧ (decode cX5_cameBack 19 = .ok (.iload_n 3, 1)) ∧ (decode cX5_cameBack 20 = .ok (.invokevirtual 119, 3)) ∧ (decode cX5_cameBack 23 = .ok (.checkcast 50, 3)) ∧ (decode cX5_cameBack 26 = .ok (.astore 4, 2)) ∧ (decode cX5_cameBack 28 = .ok (.iload_n 2, 1)) ∧ (decode cX5_cameBack 29 = .ok (.aload 4, 2)) ∧ (decode cX5_cameBack 31 = .ok (.getfield 131, 3)) ∧ (decode cX5_cameBack 34 = .ok (.iload_n 1, 1)) ∧ (decode cX5_cameBack 35 = .ok (.if_icmp .ne 11, 3)) ∧ (decode cX5_cameBack 38 = .ok (.aload 4, 2)) ∧ (decode cX5_cameBack 40 = .ok (.getfield 156, 3)) := by decide +kernel
theorem kd32_11 : (decode cX5_cameBack 43 = .ok (.goto 4, 3)) ∧ (decode cX5_cameBack 46 = .ok (.iconst 0, 1)) ∧ (decode cX5_cameBack 47 = .ok (.iadd, 1)) ∧ (decode cX5_cameBack 48 = .ok (.istore_n 2, 1)) ∧ (decode cX5_cameBack 49 = .ok (.iinc 3 1, 3)) ∧ (decode cX5_cameBack 52 = .ok (.goto (-48), 3)) ∧ (decode cX5_cameBack 55 = .ok (.iload_n 2, 1)) ∧ (decode cX5_cameBack 56 = .ok (.ireturn, 1)) ∧ (decode cX5_cryBundle 0 = .ok (.aload_n 0, 1)) ∧ (decode cX5_cryBundle 1 = .ok (.aload_n 1, 1)) ∧ (decode cX5_cryBundle 2 = .ok (.invokevirtual 92, 3)) ∧ (decode cX5_cryBundle 5 = .ok (.aload_n 2, 1)) := by decide +kernel
theorem kd32_12 : (decode cX5_cryBundle 6 = .ok (.iconst 0, 1)) ∧ (decode cX5_cryBundle 7 = .ok (.aload_n 0, 1)) ∧ (decode cX5_cryBundle 8 = .ok (.getfield 31, 3)) ∧ (decode cX5_cryBundle 11 = .ok (.invokevirtual 96, 3)) ∧ (decode cX5_cryBundle 14 = .ok (.istore 5, 2)) ∧ (decode cX5_cryBundle 16 = .ok (.aload_n 2, 1)) ∧ (decode cX5_cryBundle 17 = .ok (.iconst 4, 1)) ∧ (decode cX5_cryBundle 18 = .ok (.aload_n 0, 1)) ∧ (decode cX5_cryBundle 19 = .ok (.getfield 31, 3)) ∧ (decode cX5_cryBundle 22 = .ok (.invokevirtual 96, 3)) ∧ (decode cX5_cryBundle 25 = .ok (.iconst 1, 1)) ∧ (decode cX5_cryBundle 26 = .ok (.if_icmp .ne 14, 3)) := by decide +kernel
theorem kd32_13 : (decode cX5_cryBundle 29 = .ok (.iload_n 3, 1)) ∧ (decode cX5_cryBundle 30 = .ok (.aload_n 1, 1)) ∧ (decode cX5_cryBundle 31 = .ok (.getfield 83, 3)) ∧ (decode cX5_cryBundle 34 = .ok (.invokestatic 142, 3)) ∧ (decode cX5_cryBundle 37 = .ok (.goto 4, 3)) ∧ (decode cX5_cryBundle 40 = .ok (.iconst 0, 1)) ∧ (decode cX5_cryBundle 41 = .ok (.istore 6, 2)) ∧ (decode cX5_cryBundle 43 = .ok (.aload_n 1, 1)) ∧ (decode cX5_cryBundle 44 = .ok (.getfield 83, 3)) ∧ (decode cX5_cryBundle 47 = .ok (.iload 6, 2)) ∧ (decode cX5_cryBundle 49 = .ok (.isub, 1)) ∧ (decode cX5_cryBundle 50 = .ok (.istore 7, 2)) := by decide +kernel
theorem kd32_14 : (decode cX5_cryBundle 52 = .ok (.iload 7, 2)) ∧ (decode cX5_cryBundle 54 = .ok (.aload_n 2, 1)) ∧ (decode cX5_cryBundle 55 = .ok (.iconst 2, 1)) ∧ (decode cX5_cryBundle 56 = .ok (.aload_n 0, 1)) ∧ (decode cX5_cryBundle 57 = .ok (.getfield 31, 3)) ∧ (decode cX5_cryBundle 60 = .ok (.invokevirtual 96, 3)) ∧ (decode cX5_cryBundle 63 = .ok (.invokestatic 147, 3)) ∧ (decode cX5_cryBundle 66 = .ok (.istore 8, 2)) ∧ (decode cX5_cryBundle 68 = .ok (.iload 6, 2)) ∧ (decode cX5_cryBundle 70 = .ok (.aload_n 2, 1)) ∧ (decode cX5_cryBundle 71 = .ok (.iconst 1, 1)) ∧ (decode cX5_cryBundle 72 = .ok (.aload_n 0, 1)) := by decide +kernel
theorem kd32_15 : (decode cX5_cryBundle 73 = .ok (.getfield 31, 3)) ∧ (decode cX5_cryBundle 76 = .ok (.invokevirtual 96, 3)) ∧ (decode cX5_cryBundle 79 = .ok (.imul, 1)) ∧ (decode cX5_cryBundle 80 = .ok (.iload 8, 2)) ∧ (decode cX5_cryBundle 82 = .ok (.iload 5, 2)) ∧ (decode cX5_cryBundle 84 = .ok (.invokestatic 150, 3)) ∧ (decode cX5_cryBundle 87 = .ok (.iadd, 1)) ∧ (decode cX5_cryBundle 88 = .ok (.istore 9, 2)) ∧ (decode cX5_cryBundle 90 = .ok (.aload_n 0, 1)) ∧ (decode cX5_cryBundle 91 = .ok (.dup, 1)) ∧ (decode cX5_cryBundle 92 = .ok (.getfield 35, 3)) ∧ (decode cX5_cryBundle 95 = .ok (.iload 6, 2)) := by decide +kernel
theorem kd32_16 : (decode cX5_cryBundle 97 = .ok (.iadd, 1)) ∧ (decode cX5_cryBundle 98 = .ok (.putfield 35, 3)) ∧ (decode cX5_cryBundle 101 = .ok (.aload_n 0, 1)) ∧ (decode cX5_cryBundle 102 = .ok (.dup, 1)) ∧ (decode cX5_cryBundle 103 = .ok (.getfield 42, 3)) ∧ (decode cX5_cryBundle 106 = .ok (.iload 7, 2)) ∧ (decode cX5_cryBundle 108 = .ok (.iload 8, 2)) ∧ (decode cX5_cryBundle 110 = .ok (.isub, 1)) ∧ (decode cX5_cryBundle 111 = .ok (.iadd, 1)) ∧ (decode cX5_cryBundle 112 = .ok (.putfield 42, 3)) ∧ (decode cX5_cryBundle 115 = .ok (.aload_n 0, 1)) ∧ (decode cX5_cryBundle 116 = .ok (.dup, 1)) := by decide +kernel
theorem kd32_17 : (decode cX5_cryBundle 117 = .ok (.getfield 39, 3)) ∧ (decode cX5_cryBundle 120 = .ok (.iload 9, 2)) ∧ (decode cX5_cryBundle 122 = .ok (.aload_n 1, 1)) ∧ (decode cX5_cryBundle 123 = .ok (.getfield 83, 3)) ∧ (decode cX5_cryBundle 126 = .ok (.iload 5, 2)) ∧ (decode cX5_cryBundle 128 = .ok (.invokestatic 102, 3)) ∧ (decode cX5_cryBundle 131 = .ok (.isub, 1)) ∧ (decode cX5_cryBundle 132 = .ok (.iadd, 1)) ∧ (decode cX5_cryBundle 133 = .ok (.putfield 39, 3)) ∧ (decode cX5_cryBundle 136 = .ok (.iload 4, 2)) ∧ (decode cX5_cryBundle 138 = .ok (.ifCond .eq 38, 3)) ∧ (decode cX5_cryBundle 141 = .ok (.aload_n 1, 1)) := by decide +kernel
theorem kd32_18 : (decode cX5_cryBundle 142 = .ok (.iload 6, 2)) ∧ (decode cX5_cryBundle 144 = .ok (.putfield 153, 3)) ∧ (decode cX5_cryBundle 147 = .ok (.aload_n 1, 1)) ∧ (decode cX5_cryBundle 148 = .ok (.iload 8, 2)) ∧ (decode cX5_cryBundle 150 = .ok (.putfield 156, 3)) ∧ (decode cX5_cryBundle 153 = .ok (.aload_n 1, 1)) ∧ (decode cX5_cryBundle 154 = .ok (.iload 7, 2)) ∧ (decode cX5_cryBundle 156 = .ok (.iload 8, 2)) ∧ (decode cX5_cryBundle 158 = .ok (.isub, 1)) ∧ (decode cX5_cryBundle 159 = .ok (.putfield 159, 3)) ∧ (decode cX5_cryBundle 162 = .ok (.aload_n 1, 1)) ∧ (decode cX5_cryBundle 163 = .ok (.getfield 49, 3)) := by decide +kernel
theorem kd32_19 : (decode cX5_cryBundle 166 = .ok (.dup, 1)) ∧ (decode cX5_cryBundle 167 = .ok (.getfield 106, 3)) ∧ (decode cX5_cryBundle 170 = .ok (.iload 9, 2)) ∧ (decode cX5_cryBundle 172 = .ok (.iadd, 1)) ∧ (decode cX5_cryBundle 173 = .ok (.putfield 106, 3)) ∧ (decode cX5_cryBundle 176 = .ok (.iload 6, 2)) ∧ (decode cX5_cryBundle 178 = .ok (.ireturn, 1)) ∧ (decode cX5_firstAt 0 = .ok (.iconst 0, 1)) ∧ (decode cX5_firstAt 1 = .ok (.istore_n 2, 1)) ∧ (decode cX5_firstAt 2 = .ok (.iload_n 2, 1)) ∧ (decode cX5_firstAt 3 = .ok (.aload_n 0, 1)) ∧ (decode cX5_firstAt 4 = .ok (.getfield 25, 3)) := by decide +kernel
theorem kd32_20 : (decode cX5_firstAt 7 = .ok (.invokevirtual 45, 3)) ∧ (decode cX5_firstAt 10 = .ok (.if_icmp .ge 29, 3)) ∧ (decode cX5_firstAt 13 = .ok (.aload_n 0, 1)) ∧ (decode cX5_firstAt 14 = .ok (.getfield 25, 3)) ∧ (decode cX5_firstAt 17 = .ok (.iload_n 2, 1)) ∧ (decode cX5_firstAt 18 = .ok (.invokevirtual 119, 3)) ∧ (decode cX5_firstAt 21 = .ok (.checkcast 50, 3)) ∧ (decode cX5_firstAt 24 = .ok (.getfield 131, 3)) ∧ (decode cX5_firstAt 27 = .ok (.iload_n 1, 1)) ∧ (decode cX5_firstAt 28 = .ok (.if_icmp .ne 5, 3)) ∧ (decode cX5_firstAt 31 = .ok (.iload_n 2, 1)) ∧ (decode cX5_firstAt 32 = .ok (.ireturn, 1)) := by decide +kernel
theorem kd32_21 : (decode cX5_firstAt 33 = .ok (.iinc 2 1, 3)) ∧ (decode cX5_firstAt 36 = .ok (.goto (-34), 3)) ∧ (decode cX5_firstAt 39 = .ok (.iconst (-1), 1)) ∧ (decode cX5_firstAt 40 = .ok (.ireturn, 1)) ∧ (decode cX5_hasBoy 0 = .ok (.iload_n 1, 1)) ∧ (decode cX5_hasBoy 1 = .ok (.ifCond .lt 18, 3)) ∧ (decode cX5_hasBoy 4 = .ok (.iload_n 1, 1)) ∧ (decode cX5_hasBoy 5 = .ok (.aload_n 0, 1)) ∧ (decode cX5_hasBoy 6 = .ok (.getfield 21, 3)) ∧ (decode cX5_hasBoy 9 = .ok (.invokevirtual 45, 3)) ∧ (decode cX5_hasBoy 12 = .ok (.if_icmp .ge 7, 3)) ∧ (decode cX5_hasBoy 15 = .ok (.iconst 1, 1)) := by decide +kernel
theorem kd32_22 : (decode cX5_hasBoy 16 = .ok (.goto 4, 3)) ∧ (decode cX5_hasBoy 19 = .ok (.iconst 0, 1)) ∧ (decode cX5_hasBoy 20 = .ok (.ireturn, 1)) ∧ (decode cX5_hasBundle 0 = .ok (.iload_n 1, 1)) ∧ (decode cX5_hasBundle 1 = .ok (.ifCond .lt 18, 3)) ∧ (decode cX5_hasBundle 4 = .ok (.iload_n 1, 1)) ∧ (decode cX5_hasBundle 5 = .ok (.aload_n 0, 1)) ∧ (decode cX5_hasBundle 6 = .ok (.getfield 25, 3)) ∧ (decode cX5_hasBundle 9 = .ok (.invokevirtual 45, 3)) ∧ (decode cX5_hasBundle 12 = .ok (.if_icmp .ge 7, 3)) ∧ (decode cX5_hasBundle 15 = .ok (.iconst 1, 1)) ∧ (decode cX5_hasBundle 16 = .ok (.goto 4, 3)) := by decide +kernel
theorem kd32_23 : (decode cX5_hasBundle 19 = .ok (.iconst 0, 1)) ∧ (decode cX5_hasBundle 20 = .ok (.ireturn, 1)) ∧ (decode cX5_isAhead 0 = .ok (.aload_n 1, 1)) ∧ (decode cX5_isAhead 1 = .ok (.getfield 80, 3)) ∧ (decode cX5_isAhead 4 = .ok (.aload_n 2, 1)) ∧ (decode cX5_isAhead 5 = .ok (.getfield 80, 3)) ∧ (decode cX5_isAhead 8 = .ok (.if_icmp .eq 20, 3)) ∧ (decode cX5_isAhead 11 = .ok (.aload_n 1, 1)) ∧ (decode cX5_isAhead 12 = .ok (.getfield 80, 3)) ∧ (decode cX5_isAhead 15 = .ok (.aload_n 2, 1)) ∧ (decode cX5_isAhead 16 = .ok (.getfield 80, 3)) ∧ (decode cX5_isAhead 19 = .ok (.if_icmp .ge 7, 3)) := by decide +kernel
theorem kd32_24 : (decode cX5_isAhead 22 = .ok (.iconst 1, 1)) ∧ (decode cX5_isAhead 23 = .ok (.goto 4, 3)) ∧ (decode cX5_isAhead 26 = .ok (.iconst 0, 1)) ∧ (decode cX5_isAhead 27 = .ok (.ireturn, 1)) ∧ (decode cX5_isAhead 28 = .ok (.aload_n 1, 1)) ∧ (decode cX5_isAhead 29 = .ok (.getfield 77, 3)) ∧ (decode cX5_isAhead 32 = .ok (.aload_n 2, 1)) ∧ (decode cX5_isAhead 33 = .ok (.getfield 77, 3)) ∧ (decode cX5_isAhead 36 = .ok (.if_icmp .eq 20, 3)) ∧ (decode cX5_isAhead 39 = .ok (.aload_n 1, 1)) ∧ (decode cX5_isAhead 40 = .ok (.getfield 77, 3)) ∧ (decode cX5_isAhead 43 = .ok (.aload_n 2, 1)) := by decide +kernel
theorem kd32_25 : (decode cX5_isAhead 44 = .ok (.getfield 77, 3)) ∧ (decode cX5_isAhead 47 = .ok (.if_icmp .ge 7, 3)) ∧ (decode cX5_isAhead 50 = .ok (.iconst 1, 1)) ∧ (decode cX5_isAhead 51 = .ok (.goto 4, 3)) ∧ (decode cX5_isAhead 54 = .ok (.iconst 0, 1)) ∧ (decode cX5_isAhead 55 = .ok (.ireturn, 1)) ∧ (decode cX5_isAhead 56 = .ok (.aload_n 1, 1)) ∧ (decode cX5_isAhead 57 = .ok (.getfield 74, 3)) ∧ (decode cX5_isAhead 60 = .ok (.aload_n 2, 1)) ∧ (decode cX5_isAhead 61 = .ok (.getfield 74, 3)) ∧ (decode cX5_isAhead 64 = .ok (.if_icmp .eq 20, 3)) ∧ (decode cX5_isAhead 67 = .ok (.aload_n 1, 1)) := by decide +kernel
theorem kd32_26 : (decode cX5_isAhead 68 = .ok (.getfield 74, 3)) ∧ (decode cX5_isAhead 71 = .ok (.aload_n 2, 1)) ∧ (decode cX5_isAhead 72 = .ok (.getfield 74, 3)) ∧ (decode cX5_isAhead 75 = .ok (.if_icmp .ge 7, 3)) ∧ (decode cX5_isAhead 78 = .ok (.iconst 1, 1)) ∧ (decode cX5_isAhead 79 = .ok (.goto 4, 3)) ∧ (decode cX5_isAhead 82 = .ok (.iconst 0, 1)) ∧ (decode cX5_isAhead 83 = .ok (.ireturn, 1)) ∧ (decode cX5_isAhead 84 = .ok (.aload_n 0, 1)) ∧ (decode cX5_isAhead 85 = .ok (.aload_n 1, 1)) ∧ (decode cX5_isAhead 86 = .ok (.invokevirtual 67, 3)) ∧ (decode cX5_isAhead 89 = .ok (.aload_n 0, 1)) := by decide +kernel
theorem kd32_27 : (decode cX5_isAhead 90 = .ok (.aload_n 2, 1)) ∧ (decode cX5_isAhead 91 = .ok (.invokevirtual 67, 3)) ∧ (decode cX5_isAhead 94 = .ok (.if_icmp .eq 9, 3)) ∧ (decode cX5_isAhead 97 = .ok (.aload_n 0, 1)) ∧ (decode cX5_isAhead 98 = .ok (.aload_n 1, 1)) ∧ (decode cX5_isAhead 99 = .ok (.invokevirtual 67, 3)) ∧ (decode cX5_isAhead 102 = .ok (.ireturn, 1)) ∧ (decode cX5_isAhead 103 = .ok (.aload_n 1, 1)) ∧ (decode cX5_isAhead 104 = .ok (.getfield 49, 3)) ∧ (decode cX5_isAhead 107 = .ok (.getfield 89, 3)) ∧ (decode cX5_isAhead 110 = .ok (.aload_n 2, 1)) ∧ (decode cX5_isAhead 111 = .ok (.getfield 49, 3)) := by decide +kernel
theorem kd32_28 : (decode cX5_isAhead 114 = .ok (.getfield 89, 3)) ∧ (decode cX5_isAhead 117 = .ok (.if_icmp .le 7, 3)) ∧ (decode cX5_isAhead 120 = .ok (.iconst 1, 1)) ∧ (decode cX5_isAhead 121 = .ok (.goto 4, 3)) ∧ (decode cX5_isAhead 124 = .ok (.iconst 0, 1)) ∧ (decode cX5_isAhead 125 = .ok (.ireturn, 1)) ∧ (decode cX5_isOwners 0 = .ok (.aload_n 0, 1)) ∧ (decode cX5_isOwners 1 = .ok (.getfield 12, 3)) ∧ (decode cX5_isOwners 4 = .ok (.getfield 172, 3)) ∧ (decode cX5_isOwners 7 = .ok (.aload_n 1, 1)) ∧ (decode cX5_isOwners 8 = .ok (.getfield 80, 3)) ∧ (decode cX5_isOwners 11 = .ok (.iaload, 1)) := by decide +kernel
theorem kd32_29 : (decode cX5_isOwners 12 = .ok (.aload_n 1, 1)) ∧ (decode cX5_isOwners 13 = .ok (.getfield 49, 3)) ∧ (decode cX5_isOwners 16 = .ok (.getfield 175, 3)) ∧ (decode cX5_isOwners 19 = .ok (.if_icmp .ne 7, 3)) ∧ (decode cX5_isOwners 22 = .ok (.iconst 1, 1)) ∧ (decode cX5_isOwners 23 = .ok (.goto 4, 3)) ∧ (decode cX5_isOwners 26 = .ok (.iconst 0, 1)) ∧ (decode cX5_isOwners 27 = .ok (.ireturn, 1)) ∧ (decode cX5_learn 0 = .ok (.aload_n 1, 1)) ∧ (decode cX5_learn 1 = .ok (.getfield 49, 3)) ∧ (decode cX5_learn 4 = .ok (.astore_n 2, 1)) ∧ (decode cX5_learn 5 = .ok (.aload_n 0, 1)) := by decide +kernel
theorem kd32_30 : (decode cX5_learn 6 = .ok (.getfield 31, 3)) ∧ (decode cX5_learn 9 = .ok (.iconst 0, 1)) ∧ (decode cX5_learn 10 = .ok (.aload_n 2, 1)) ∧ (decode cX5_learn 11 = .ok (.getfield 55, 3)) ∧ (decode cX5_learn 14 = .ok (.ifCond .eq 7, 3)) ∧ (decode cX5_learn 17 = .ok (.iconst 1, 1)) ∧ (decode cX5_learn 18 = .ok (.goto 4, 3)) ∧ (decode cX5_learn 21 = .ok (.iconst 0, 1)) ∧ (decode cX5_learn 22 = .ok (.iastore, 1)) ∧ (decode cX5_learn 23 = .ok (.aload_n 0, 1)) ∧ (decode cX5_learn 24 = .ok (.getfield 31, 3)) ∧ (decode cX5_learn 27 = .ok (.iconst 1, 1)) := by decide +kernel
theorem kd32_31 : (decode cX5_learn 28 = .ok (.aload_n 1, 1)) ∧ (decode cX5_learn 29 = .ok (.getfield 61, 3)) ∧ (decode cX5_learn 32 = .ok (.aload_n 2, 1)) ∧ (decode cX5_learn 33 = .ok (.getfield 64, 3)) ∧ (decode cX5_learn 36 = .ok (.if_icmp .gt 7, 3)) ∧ (decode cX5_learn 39 = .ok (.iconst 1, 1)) ∧ (decode cX5_learn 40 = .ok (.goto 4, 3)) ∧ (decode cX5_learn 43 = .ok (.iconst 0, 1)) ∧ (decode cX5_learn 44 = .ok (.iastore, 1)) ∧ (decode cX5_learn 45 = .ok (.aload_n 0, 1)) ∧ (decode cX5_learn 46 = .ok (.getfield 31, 3)) ∧ (decode cX5_learn 49 = .ok (.iconst 2, 1)) := by decide +kernel
theorem kd32_32 : (decode cX5_learn 50 = .ok (.aload_n 0, 1)) ∧ (decode cX5_learn 51 = .ok (.aload_n 1, 1)) ∧ (decode cX5_learn 52 = .ok (.invokevirtual 67, 3)) ∧ (decode cX5_learn 55 = .ok (.ifCond .eq 7, 3)) ∧ (decode cX5_learn 58 = .ok (.iconst 1, 1)) ∧ (decode cX5_learn 59 = .ok (.goto 4, 3)) ∧ (decode cX5_learn 62 = .ok (.iconst 0, 1)) ∧ (decode cX5_learn 63 = .ok (.iastore, 1)) ∧ (decode cX5_learn 64 = .ok (.aload_n 0, 1)) ∧ (decode cX5_learn 65 = .ok (.getfield 31, 3)) ∧ (decode cX5_learn 68 = .ok (.iconst 3, 1)) ∧ (decode cX5_learn 69 = .ok (.aload_n 2, 1)) := by decide +kernel
theorem kd32_33 : (decode cX5_learn 70 = .ok (.getfield 71, 3)) ∧ (decode cX5_learn 73 = .ok (.iastore, 1)) ∧ (decode cX5_learn 74 = .ok (.aload_n 0, 1)) ∧ (decode cX5_learn 75 = .ok (.getfield 31, 3)) ∧ (decode cX5_learn 78 = .ok (.iconst 4, 1)) ∧ (decode cX5_learn 79 = .ok (.aload_n 1, 1)) ∧ (decode cX5_learn 80 = .ok (.getfield 74, 3)) ∧ (decode cX5_learn 83 = .ok (.iastore, 1)) ∧ (decode cX5_learn 84 = .ok (.aload_n 0, 1)) ∧ (decode cX5_learn 85 = .ok (.getfield 31, 3)) ∧ (decode cX5_learn 88 = .ok (.iconst 5, 1)) ∧ (decode cX5_learn 89 = .ok (.aload_n 1, 1)) := by decide +kernel
theorem kd32_34 : (decode cX5_learn 90 = .ok (.getfield 61, 3)) ∧ (decode cX5_learn 93 = .ok (.bipush 7, 2)) ∧ (decode cX5_learn 95 = .ok (.irem, 1)) ∧ (decode cX5_learn 96 = .ok (.iastore, 1)) ∧ (decode cX5_learn 97 = .ok (.aload_n 0, 1)) ∧ (decode cX5_learn 98 = .ok (.getfield 31, 3)) ∧ (decode cX5_learn 101 = .ok (.bipush 6, 2)) ∧ (decode cX5_learn 103 = .ok (.aload_n 1, 1)) ∧ (decode cX5_learn 104 = .ok (.getfield 61, 3)) ∧ (decode cX5_learn 107 = .ok (.iastore, 1)) ∧ (decode cX5_learn 108 = .ok (.aload_n 0, 1)) ∧ (decode cX5_learn 109 = .ok (.getfield 31, 3)) := by decide +kernel
theorem kd32_35 : (decode cX5_learn 112 = .ok (.bipush 7, 2)) ∧ (decode cX5_learn 114 = .ok (.aload_n 1, 1)) ∧ (decode cX5_learn 115 = .ok (.getfield 77, 3)) ∧ (decode cX5_learn 118 = .ok (.iastore, 1)) ∧ (decode cX5_learn 119 = .ok (.aload_n 0, 1)) ∧ (decode cX5_learn 120 = .ok (.getfield 31, 3)) ∧ (decode cX5_learn 123 = .ok (.bipush 8, 2)) ∧ (decode cX5_learn 125 = .ok (.aload_n 1, 1)) ∧ (decode cX5_learn 126 = .ok (.getfield 80, 3)) ∧ (decode cX5_learn 129 = .ok (.iastore, 1)) ∧ (decode cX5_learn 130 = .ok (.aload_n 0, 1)) ∧ (decode cX5_learn 131 = .ok (.getfield 31, 3)) := by decide +kernel
theorem kd32_36 : (decode cX5_learn 134 = .ok (.bipush 9, 2)) ∧ (decode cX5_learn 136 = .ok (.aload_n 1, 1)) ∧ (decode cX5_learn 137 = .ok (.getfield 83, 3)) ∧ (decode cX5_learn 140 = .ok (.iastore, 1)) ∧ (decode cX5_learn 141 = .ok (.aload_n 0, 1)) ∧ (decode cX5_learn 142 = .ok (.getfield 31, 3)) ∧ (decode cX5_learn 145 = .ok (.bipush 10, 2)) ∧ (decode cX5_learn 147 = .ok (.aload_n 0, 1)) ∧ (decode cX5_learn 148 = .ok (.getfield 12, 3)) ∧ (decode cX5_learn 151 = .ok (.getfield 86, 3)) ∧ (decode cX5_learn 154 = .ok (.aload_n 1, 1)) ∧ (decode cX5_learn 155 = .ok (.getfield 61, 3)) := by decide +kernel
theorem kd32_37 : (decode cX5_learn 158 = .ok (.iaload, 1)) ∧ (decode cX5_learn 159 = .ok (.iastore, 1)) ∧ (decode cX5_learn 160 = .ok (.aload_n 0, 1)) ∧ (decode cX5_learn 161 = .ok (.getfield 31, 3)) ∧ (decode cX5_learn 164 = .ok (.bipush 11, 2)) ∧ (decode cX5_learn 166 = .ok (.aload_n 2, 1)) ∧ (decode cX5_learn 167 = .ok (.getfield 89, 3)) ∧ (decode cX5_learn 170 = .ok (.iastore, 1)) ∧ (decode cX5_learn 171 = .ok (.return_, 1)) ∧ (decode cX5_startSums 0 = .ok (.aload_n 0, 1)) ∧ (decode cX5_startSums 1 = .ok (.iconst 0, 1)) ∧ (decode cX5_startSums 2 = .ok (.putfield 35, 3)) := by decide +kernel
theorem kd32_38 : (decode cX5_startSums 5 = .ok (.aload_n 0, 1)) ∧ (decode cX5_startSums 6 = .ok (.iconst 0, 1)) ∧ (decode cX5_startSums 7 = .ok (.putfield 39, 3)) ∧ (decode cX5_startSums 10 = .ok (.aload_n 0, 1)) ∧ (decode cX5_startSums 11 = .ok (.iconst 0, 1)) ∧ (decode cX5_startSums 12 = .ok (.putfield 42, 3)) ∧ (decode cX5_startSums 15 = .ok (.return_, 1)) := by decide +kernel
theorem fl_X4_35_6 : xF RX4 35 6 2 (.object "java/util/ArrayList") true := ⟨by decide, RX5, TX5, 8, tyX5, "PaperBoys$Market", rfl, inlX5, tyX5_ok, nmX5, by decide, rfl, rfl, m_45_2, Or.inl rfl⟩
theorem fl_X4_50_2 : xF RX4 50 2 5 .int true := ⟨by decide, RX1, TX1, 11, tyX1, "PaperBoys$Bundle", rfl, inlX1, tyX1_ok, nmX1, by decide, rfl, rfl, m_45_4, Or.inl rfl⟩
theorem fl_X4_53_2 : xF RX4 53 2 6 .int true := ⟨by decide, RX1, TX1, 11, tyX1, "PaperBoys$Bundle", rfl, inlX1, tyX1_ok, nmX1, by decide, rfl, rfl, m_45_5, Or.inl rfl⟩
theorem fl_X5_106_1 : xF RX5 106 1 5 .int false := ⟨by decide, RX0, TX0, 6, tyX0, "PaperBoys$Boy", rfl, inlX0, tyX0_ok, nmX0, by decide, rfl, rfl, m_34_5, Or.inl rfl⟩
theorem fl_X5_12_6 : xF RX5 12 6 0 (.object "PaperBoys$City") true := ⟨by decide, RX5, TX5, 8, tyX5, "PaperBoys$Market", rfl, inlX5, tyX5_ok, nmX5, by decide, rfl, rfl, m_3_23, Or.inl rfl⟩
theorem fl_X5_131_2 : xF RX5 131 2 6 .int true := ⟨by decide, RX1, TX1, 11, tyX1, "PaperBoys$Bundle", rfl, inlX1, tyX1_ok, nmX1, by decide, rfl, rfl, m_39_0, Or.inl rfl⟩
theorem fl_X5_153_2 : xF RX5 153 2 8 .int false := ⟨by decide, RX1, TX1, 11, tyX1, "PaperBoys$Bundle", rfl, inlX1, tyX1_ok, nmX1, by decide, rfl, rfl, m_40_9, Or.inl rfl⟩
theorem fl_X5_156_2 : xF RX5 156 2 9 .int false := ⟨by decide, RX1, TX1, 11, tyX1, "PaperBoys$Bundle", rfl, inlX1, tyX1_ok, nmX1, by decide, rfl, rfl, m_40_10, Or.inl rfl⟩
theorem fl_X5_159_2 : xF RX5 159 2 10 .int false := ⟨by decide, RX1, TX1, 11, tyX1, "PaperBoys$Bundle", rfl, inlX1, tyX1_ok, nmX1, by decide, rfl, rfl, m_40_11, Or.inl rfl⟩
theorem fl_X5_172_4 : xF RX5 172 4 5 (.array .int) true := ⟨by decide, RX3, TX3, 7, tyX3, "PaperBoys$City", rfl, inlX3, tyX3_ok, nmX3, by decide, rfl, rfl, m_35_0, Or.inl rfl⟩
theorem fl_X5_175_1 : xF RX5 175 1 0 .int true := ⟨by decide, RX0, TX0, 6, tyX0, "PaperBoys$Boy", rfl, inlX0, tyX0_ok, nmX0, by decide, rfl, rfl, m_35_1, Or.inl rfl⟩
theorem fl_X5_21_6 : xF RX5 21 6 1 (.object "java/util/ArrayList") true := ⟨by decide, RX5, TX5, 8, tyX5, "PaperBoys$Market", rfl, inlX5, tyX5_ok, nmX5, by decide, rfl, rfl, m_4_1, Or.inl rfl⟩
theorem fl_X5_25_6 : xF RX5 25 6 2 (.object "java/util/ArrayList") true := ⟨by decide, RX5, TX5, 8, tyX5, "PaperBoys$Market", rfl, inlX5, tyX5_ok, nmX5, by decide, rfl, rfl, m_4_2, Or.inl rfl⟩
theorem fl_X5_31_6 : xF RX5 31 6 4 (.array .int) true := ⟨by decide, RX5, TX5, 8, tyX5, "PaperBoys$Market", rfl, inlX5, tyX5_ok, nmX5, by decide, rfl, rfl, m_4_4, Or.inl rfl⟩
theorem fl_X5_35_6 : xF RX5 35 6 5 .int false := ⟨by decide, RX5, TX5, 8, tyX5, "PaperBoys$Market", rfl, inlX5, tyX5_ok, nmX5, by decide, rfl, rfl, m_4_5, Or.inl rfl⟩
theorem fl_X5_39_6 : xF RX5 39 6 6 .int false := ⟨by decide, RX5, TX5, 8, tyX5, "PaperBoys$Market", rfl, inlX5, tyX5_ok, nmX5, by decide, rfl, rfl, m_4_6, Or.inl rfl⟩
theorem fl_X5_42_6 : xF RX5 42 6 7 .int false := ⟨by decide, RX5, TX5, 8, tyX5, "PaperBoys$Market", rfl, inlX5, tyX5_ok, nmX5, by decide, rfl, rfl, m_4_7, Or.inl rfl⟩
theorem fl_X5_49_2 : xF RX5 49 2 0 (.object "PaperBoys$Boy") true := ⟨by decide, RX1, TX1, 11, tyX1, "PaperBoys$Bundle", rfl, inlX1, tyX1_ok, nmX1, by decide, rfl, rfl, m_34_4, Or.inl rfl⟩
theorem fl_X5_55_1 : xF RX5 55 1 2 .boolean true := ⟨by decide, RX0, TX0, 6, tyX0, "PaperBoys$Boy", rfl, inlX0, tyX0_ok, nmX0, by decide, rfl, rfl, m_34_11, Or.inl rfl⟩
theorem fl_X5_61_2 : xF RX5 61 2 5 .int true := ⟨by decide, RX1, TX1, 11, tyX1, "PaperBoys$Bundle", rfl, inlX1, tyX1_ok, nmX1, by decide, rfl, rfl, m_34_12, Or.inl rfl⟩
theorem fl_X5_64_1 : xF RX5 64 1 4 .int false := ⟨by decide, RX0, TX0, 6, tyX0, "PaperBoys$Boy", rfl, inlX0, tyX0_ok, nmX0, by decide, rfl, rfl, m_34_13, Or.inl rfl⟩
theorem fl_X5_71_1 : xF RX5 71 1 1 .int true := ⟨by decide, RX0, TX0, 6, tyX0, "PaperBoys$Boy", rfl, inlX0, tyX0_ok, nmX0, by decide, rfl, rfl, m_34_14, Or.inl rfl⟩
theorem fl_X5_74_2 : xF RX5 74 2 4 .int true := ⟨by decide, RX1, TX1, 11, tyX1, "PaperBoys$Bundle", rfl, inlX1, tyX1_ok, nmX1, by decide, rfl, rfl, m_34_15, Or.inl rfl⟩
theorem fl_X5_77_2 : xF RX5 77 2 1 .int true := ⟨by decide, RX1, TX1, 11, tyX1, "PaperBoys$Bundle", rfl, inlX1, tyX1_ok, nmX1, by decide, rfl, rfl, m_34_16, Or.inl rfl⟩
theorem fl_X5_80_2 : xF RX5 80 2 2 .int true := ⟨by decide, RX1, TX1, 11, tyX1, "PaperBoys$Bundle", rfl, inlX1, tyX1_ok, nmX1, by decide, rfl, rfl, m_34_17, Or.inl rfl⟩
theorem fl_X5_83_2 : xF RX5 83 2 3 .int true := ⟨by decide, RX1, TX1, 11, tyX1, "PaperBoys$Bundle", rfl, inlX1, tyX1_ok, nmX1, by decide, rfl, rfl, m_34_3, Or.inl rfl⟩
theorem fl_X5_86_4 : xF RX5 86 4 0 (.array .int) true := ⟨by decide, RX3, TX3, 7, tyX3, "PaperBoys$City", rfl, inlX3, tyX3_ok, nmX3, by decide, rfl, rfl, m_34_18, Or.inl rfl⟩
theorem fl_X5_89_1 : xF RX5 89 1 3 .int true := ⟨by decide, RX0, TX0, 6, tyX0, "PaperBoys$Boy", rfl, inlX0, tyX0_ok, nmX0, by decide, rfl, rfl, m_34_19, Or.inl rfl⟩
theorem lk_X10_50 : xLV RX10 50 yX10_lineFor cX10_lineFor 4 (some .int) 2 := ⟨m_35_6, m_35_7, m_35_8, m_2_9, m_35_9, by decide +kernel⟩
theorem lk_X10_54 : xLV RX10 54 yX10_numberOf cX10_numberOf 4 (some .int) 2 := ⟨m_35_17, m_35_18, m_35_19, m_2_9, m_35_20, by decide +kernel⟩
theorem lk_X4_29 : xLV RX4 29 yX5_cameBack cX5_cameBack 5 (some .int) 1 := ⟨m_44_2, m_44_3, m_44_4, m_1_19, m_44_5, by decide +kernel⟩
theorem lk_X4_39 : xLV RX4 39 yJx4a65c_size_8abf5 cJx4a65c_size_8abf5 1 (some .int) 0 := ⟨m_45_7, m_12_4, m_12_5, m_2_5, m_12_6, by decide +kernel⟩
theorem lk_X4_44 : xLV RX4 44 yJx4a65c_get_915e3 cJx4a65c_get_915e3 2 (some (.object "java/lang/Object")) 1 := ⟨m_45_8, m_16_3, m_16_4, m_2_5, m_16_5, by decide +kernel⟩
theorem lk_X4_55 : xLV RX4 55 yX5_firstAt cX5_firstAt 3 (some .int) 1 := ⟨m_45_9, m_45_10, m_45_11, m_1_19, m_45_12, by decide +kernel⟩
theorem lk_X4_58 : xLV RX4 58 yX4_countedAsOf cX4_countedAsOf 4 (some .int) 2 := ⟨m_45_13, m_45_14, m_45_15, m_2_1, m_45_16, by decide +kernel⟩
theorem lk_X5_102 : xLN RX5 102 yX11_costOf cX11_costOf 2 (some .int) 2 := ⟨by decide, m_35_22, m_1_2, m_35_23, by decide +kernel⟩
theorem lk_X5_119 : xLV RX5 119 yJx4a65c_get_915e3 cJx4a65c_get_915e3 2 (some (.object "java/lang/Object")) 1 := ⟨m_39_9, m_16_3, m_16_4, m_2_5, m_16_5, by decide +kernel⟩
theorem lk_X5_147 : xLN RX5 147 yX11_backOf cX11_backOf 2 (some .int) 2 := ⟨by decide, m_40_12, m_1_2, m_40_13, by decide +kernel⟩
theorem lk_X5_150 : xLN RX5 150 yX11_paidFor cX11_paidFor 2 (some .int) 2 := ⟨by decide, m_40_14, m_1_2, m_40_15, by decide +kernel⟩
theorem lk_X5_45 : xLV RX5 45 yJx4a65c_size_8abf5 cJx4a65c_size_8abf5 1 (some .int) 0 := ⟨m_16_1, m_12_4, m_12_5, m_2_5, m_12_6, by decide +kernel⟩
theorem lk_X5_67 : xLV RX5 67 yX5_isOwners cX5_isOwners 2 (some .boolean) 1 := ⟨m_34_20, m_34_21, m_34_22, m_1_19, m_34_23, by decide +kernel⟩
theorem lk_X5_92 : xLV RX5 92 yX5_learn cX5_learn 3 none 1 := ⟨m_34_7, m_34_8, m_34_9, m_1_19, m_34_10, by decide +kernel⟩
theorem lk_X5_96 : xLV RX5 96 yX10_tells cX10_tells 3 (some .int) 2 := ⟨m_35_2, m_35_3, m_35_4, m_2_9, m_35_5, by decide +kernel⟩
theorem mm_X10_44 : Cond.methodLink RX10 44 Lib.Math.min.name ∈ wsL_law ∧ Cond.static Lib.Math.min.name ∈ wsL_law ∧ Cond.initialized "java/lang/Math" ∈ wsL_law ∧ Cond.code Lib.Math.min.name Lib.Math.min.code 2 (some .int) ∈ wsL_law := ⟨m_35_21, m_15_1, m_13_23, m_15_2⟩
theorem mm_X4_61 : Cond.methodLink RX4 61 Lib.Math.max.name ∈ wsL_law ∧ Cond.static Lib.Math.max.name ∈ wsL_law ∧ Cond.initialized "java/lang/Math" ∈ wsL_law ∧ Cond.code Lib.Math.max.name Lib.Math.max.code 2 (some .int) ∈ wsL_law := ⟨m_45_6, m_13_22, m_13_23, m_14_0⟩
theorem mm_X5_142 : Cond.methodLink RX5 142 Lib.Math.min.name ∈ wsL_law ∧ Cond.static Lib.Math.min.name ∈ wsL_law ∧ Cond.initialized "java/lang/Math" ∈ wsL_law ∧ Cond.code Lib.Math.min.name Lib.Math.min.code 2 (some .int) ∈ wsL_law := ⟨m_40_8, m_15_1, m_13_23, m_15_2⟩
set_option maxHeartbeats 4000000 in
set_option maxRecDepth 100000 in
theorem c_X5_startSums (l : Launch) (D : va_G) (kA : Nat → ClassId) (b0 : Nat) (t0 : Nat → Nat) (S : xT) (g : xG) (a0 : Nat) (hs_a0 : S a0 = some (6, 0)) : xMt l yX5_startSums cX5_startSums 1 none 0 0 0 0 D kA b0 t0 [(6, 5), (6, 6), (6, 7)] [.ref a0] S g (fun (r : Option Value) (S1 : xT) (g1 : xG) => S = S1 ∧ r = none) := by
  refine xEnterV (by decide) (by simp [lg_sl, Value.category]) [(0, .ref a0)] rfl ?_
  intro K E hK hret _ _ _
  refine X_aloadn hK (i := 0) 0 kd32_37.2.2.2.2.2.2.2.2.2.1 rfl rfl ?_
  refine X_iconst hK kd32_37.2.2.2.2.2.2.2.2.2.2.1 ?_
  refine X_puti hK fl_X5_35_6 hs_a0 (by decide) sl_6_5 (by omega) (by omega) kd32_37.2.2.2.2.2.2.2.2.2.2.2 (fun g1 hg1 => ?_)
  refine X_aloadn hK (i := 0) 0 kd32_38.1 rfl rfl ?_
  refine X_iconst hK kd32_38.2.1 ?_
  refine X_puti hK fl_X5_39_6 hs_a0 (by decide) sl_6_6 (by omega) (by omega) kd32_38.2.2.1 (fun g2 hg2 => ?_)
  refine X_aloadn hK (i := 0) 0 kd32_38.2.2.2.1 rfl rfl ?_
  refine X_iconst hK kd32_38.2.2.2.2.1 ?_
  refine X_puti hK fl_X5_42_6 hs_a0 (by decide) sl_6_7 (by omega) (by omega) kd32_38.2.2.2.2.2.1 (fun g3 hg3 => ?_)
  exact hret _ _ _ _ _ _ kd32_38.2.2.2.2.2.2 ⟨rfl, rfl⟩ (Nat.le_refl _) (Nat.le_refl _)

set_option maxHeartbeats 4000000 in
set_option maxRecDepth 100000 in
theorem c_X5_isOwners (l : Launch) (D : va_G) (kA : Nat → ClassId) (b0 : Nat) (t0 : Nat → Nat) (S : xT) (g : xG) (a0 : Nat) (a1 : Nat) (hs_a0 : S a0 = some (6, 0)) (hs_a1 : S a1 = some (2, 0)) : xMt l yX5_isOwners cX5_isOwners 2 (some .boolean) 0 0 0 0 D kA b0 t0 [] [.ref a0, .ref a1] S g (fun (r : Option Value) (S1 : xT) (g1 : xG) => S = S1 ∧ g = g1 ∧ ∃ z : Int, r = some (.int (iI z)) ∧ 0 ≤ z ∧ z ≤ 1) := by
  refine xEnterZ (by decide) (by simp [lg_sl, Value.category]) [(0, .ref a0), (1, .ref a1)] rfl ?_
  intro K E hK hret _ _ _
  refine X_aloadn hK (i := 0) 0 kd32_28.2.2.2.2.2.2.1 rfl rfl ?_
  refine X_getr hK 4 0 fl_X5_12_6 hs_a0 sl_6_0 kd32_28.2.2.2.2.2.2.2.1 (fun b1 eb1 hs_b1 => ?_)
  refine X_getr hK 11400 10 fl_X5_172_4 hs_b1 sl_4_5 kd32_28.2.2.2.2.2.2.2.2.1 (fun b2 eb2 hs_b2 => ?_)
  refine X_aloadn hK (i := 1) 1 kd32_28.2.2.2.2.2.2.2.2.2.1 rfl rfl ?_
  refine X_geti hK fl_X5_80_2 hs_a1 sl_2_2 kd32_28.2.2.2.2.2.2.2.2.2.2.1 (fun z3 ez3 lz3 uz3 => ?_)
  refine X_iald hK hs_b2 (by decide) sl_11400 (by omega) (by omega) kd32_28.2.2.2.2.2.2.2.2.2.2.2 (fun z4 ez4 lz4 uz4 => ?_)
  refine X_aloadn hK (i := 1) 1 kd32_29.1 rfl rfl ?_
  refine X_getr hK 1 0 fl_X5_49_2 hs_a1 sl_2_0 kd32_29.2.1 (fun b5 eb5 hs_b5 => ?_)
  refine X_geti hK fl_X5_175_1 hs_b5 sl_1_0 kd32_29.2.2.1 (fun z6 ez6 lz6 uz6 => ?_)
  refine X_icmp_ne hK 26 (by omega) (by omega) kd32_29.2.2.2.1 (by decide) (fun c7 => ?_) (fun c7 => ?_)
  · refine X_iconst hK kd32_29.2.2.2.2.2.2.1 ?_
    exact hret _ _ _ _ _ _ _ kd32_29.2.2.2.2.2.2.2.1 (by omega) (by omega) ⟨rfl, rfl, 0, rfl, (by omega), (by omega)⟩ (Nat.le_refl _) (Nat.le_refl _)
  · refine X_iconst hK kd32_29.2.2.2.2.1 ?_
    refine X_goto hK 27 kd32_29.2.2.2.2.2.1 (by decide) ?_
    exact hret _ _ _ _ _ _ _ kd32_29.2.2.2.2.2.2.2.1 (by omega) (by omega) ⟨rfl, rfl, 1, rfl, (by omega), (by omega)⟩ (Nat.le_refl _) (Nat.le_refl _)

set_option maxHeartbeats 4000000 in
set_option maxRecDepth 100000 in
theorem c_X5_isAhead (l : Launch) (D : va_G) (kA : Nat → ClassId) (b0 : Nat) (t0 : Nat → Nat) (S : xT) (g : xG) (a0 : Nat) (a1 : Nat) (a2 : Nat) (hs_a0 : S a0 = some (6, 0)) (hs_a1 : S a1 = some (2, 0)) (hs_a2 : S a2 = some (2, 0)) : xMt l yX5_isAhead cX5_isAhead 3 (some .boolean) 1 0 0 21 D kA b0 t0 [] [.ref a0, .ref a1, .ref a2] S g (fun (r : Option Value) (S1 : xT) (g1 : xG) => S = S1 ∧ g = g1 ∧ ∃ z : Int, r = some (.int (iI z)) ∧ 0 ≤ z ∧ z ≤ 1) := by
  refine xEnterZ (by decide) (by simp [lg_sl, Value.category]) [(0, .ref a0), (1, .ref a1), (2, .ref a2)] rfl ?_
  intro K E hK hret _ _ _
  refine X_aloadn hK (i := 1) 1 kd32_23.2.2.1 rfl rfl ?_
  refine X_geti hK fl_X5_80_2 hs_a1 sl_2_2 kd32_23.2.2.2.1 (fun z1 ez1 lz1 uz1 => ?_)
  refine X_aloadn hK (i := 2) 2 kd32_23.2.2.2.2.1 rfl rfl ?_
  refine X_geti hK fl_X5_80_2 hs_a2 sl_2_2 kd32_23.2.2.2.2.2.1 (fun z2 ez2 lz2 uz2 => ?_)
  refine X_icmp_eq hK 28 (by omega) (by omega) kd32_23.2.2.2.2.2.2.1 (by decide) (fun c3 => ?_) (fun c3 => ?_)
  · refine X_aloadn hK (i := 1) 1 kd32_24.2.2.2.2.1 rfl rfl ?_
    refine X_geti hK fl_X5_77_2 hs_a1 sl_2_1 kd32_24.2.2.2.2.2.1 (fun z4 ez4 lz4 uz4 => ?_)
    refine X_aloadn hK (i := 2) 2 kd32_24.2.2.2.2.2.2.1 rfl rfl ?_
    refine X_geti hK fl_X5_77_2 hs_a2 sl_2_1 kd32_24.2.2.2.2.2.2.2.1 (fun z5 ez5 lz5 uz5 => ?_)
    refine X_icmp_eq hK 56 (by omega) (by omega) kd32_24.2.2.2.2.2.2.2.2.1 (by decide) (fun c6 => ?_) (fun c6 => ?_)
    · refine X_aloadn hK (i := 1) 1 kd32_25.2.2.2.2.2.2.1 rfl rfl ?_
      refine X_geti hK fl_X5_74_2 hs_a1 sl_2_4 kd32_25.2.2.2.2.2.2.2.1 (fun z7 ez7 lz7 uz7 => ?_)
      refine X_aloadn hK (i := 2) 2 kd32_25.2.2.2.2.2.2.2.2.1 rfl rfl ?_
      refine X_geti hK fl_X5_74_2 hs_a2 sl_2_4 kd32_25.2.2.2.2.2.2.2.2.2.1 (fun z8 ez8 lz8 uz8 => ?_)
      refine X_icmp_eq hK 84 (by omega) (by omega) kd32_25.2.2.2.2.2.2.2.2.2.2.1 (by decide) (fun c9 => ?_) (fun c9 => ?_)
      · refine X_aloadn hK (i := 0) 0 kd32_26.2.2.2.2.2.2.2.2.1 rfl rfl ?_
        refine X_aloadn hK (i := 1) 1 kd32_26.2.2.2.2.2.2.2.2.2.1 rfl rfl ?_
        refine X_callV hK [.ref a1] [] lk_X5_67 (c_X5_isOwners _ _ _ _ _ S g a0 a1 hs_a0 hs_a1) hs_a0 ⟨by decide, rfl⟩ kd32_26.2.2.2.2.2.2.2.2.2.2.1 rfl rfl (by simp [Value.category]) (by decide) (by decide) (by decide) (by decide) (fun r10 S12 g11 pr10 qr10 hg11 => ?_)
        obtain ⟨rfl, rfl, z13, rfl, lz13, uz13⟩ := pr10
        refine X_st [.int (iI z13)] rfl ?_
        refine X_aloadn hK (i := 0) 0 kd32_26.2.2.2.2.2.2.2.2.2.2.2 rfl rfl ?_
        refine X_aloadn hK (i := 2) 2 kd32_27.1 rfl rfl ?_
        refine X_callV hK [.ref a2] [.int (iI z13)] lk_X5_67 (c_X5_isOwners _ _ _ _ _ S g a0 a2 hs_a0 hs_a2) hs_a0 ⟨by decide, rfl⟩ kd32_27.2.1 rfl rfl (by simp [Value.category]) (by decide) (by decide) (by decide) (by decide) (fun r14 S16 g15 pr14 qr14 hg15 => ?_)
        obtain ⟨rfl, rfl, z17, rfl, lz17, uz17⟩ := pr14
        refine X_st [.int (iI z17), .int (iI z13)] rfl ?_
        refine X_icmp_eq hK 103 (by omega) (by omega) kd32_27.2.2.1 (by decide) (fun c18 => ?_) (fun c18 => ?_)
        · refine X_aloadn hK (i := 1) 1 kd32_27.2.2.2.2.2.2.2.1 rfl rfl ?_
          refine X_getr hK 1 0 fl_X5_49_2 hs_a1 sl_2_0 kd32_27.2.2.2.2.2.2.2.2.1 (fun b19 eb19 hs_b19 => ?_)
          refine X_geti hK fl_X5_89_1 hs_b19 sl_1_3 kd32_27.2.2.2.2.2.2.2.2.2.1 (fun z20 ez20 lz20 uz20 => ?_)
          refine X_aloadn hK (i := 2) 2 kd32_27.2.2.2.2.2.2.2.2.2.2.1 rfl rfl ?_
          refine X_getr hK 1 0 fl_X5_49_2 hs_a2 sl_2_0 kd32_27.2.2.2.2.2.2.2.2.2.2.2 (fun b21 eb21 hs_b21 => ?_)
          refine X_geti hK fl_X5_89_1 hs_b21 sl_1_3 kd32_28.1 (fun z22 ez22 lz22 uz22 => ?_)
          refine X_icmp_le hK 124 (by omega) (by omega) kd32_28.2.1 (by decide) (fun c23 => ?_) (fun c23 => ?_)
          · refine X_iconst hK kd32_28.2.2.2.2.1 ?_
            exact hret _ _ _ _ _ _ _ kd32_28.2.2.2.2.2.1 (by omega) (by omega) ⟨rfl, rfl, 0, rfl, (by omega), (by omega)⟩ (Nat.le_refl _) (Nat.le_refl _)
          · refine X_iconst hK kd32_28.2.2.1 ?_
            refine X_goto hK 125 kd32_28.2.2.2.1 (by decide) ?_
            exact hret _ _ _ _ _ _ _ kd32_28.2.2.2.2.2.1 (by omega) (by omega) ⟨rfl, rfl, 1, rfl, (by omega), (by omega)⟩ (Nat.le_refl _) (Nat.le_refl _)
        · refine X_aloadn hK (i := 0) 0 kd32_27.2.2.2.1 rfl rfl ?_
          refine X_aloadn hK (i := 1) 1 kd32_27.2.2.2.2.1 rfl rfl ?_
          refine X_callV hK [.ref a1] [] lk_X5_67 (c_X5_isOwners _ _ _ _ _ S g a0 a1 hs_a0 hs_a1) hs_a0 ⟨by decide, rfl⟩ kd32_27.2.2.2.2.2.1 rfl rfl (by simp [Value.category]) (by decide) (by decide) (by decide) (by decide) (fun r24 S26 g25 pr24 qr24 hg25 => ?_)
          obtain ⟨rfl, rfl, z27, rfl, lz27, uz27⟩ := pr24
          refine X_st [.int (iI z27)] rfl ?_
          exact hret _ _ _ _ _ _ _ kd32_27.2.2.2.2.2.2.1 (by omega) (by omega) ⟨rfl, rfl, z27, rfl, (by omega), (by omega)⟩ (Nat.le_refl _) (Nat.le_refl _)
      · refine X_aloadn hK (i := 1) 1 kd32_25.2.2.2.2.2.2.2.2.2.2.2 rfl rfl ?_
        refine X_getK hK fl_X5_74_2 hs_a1 ez7 kd32_26.1 ?_
        refine X_aloadn hK (i := 2) 2 kd32_26.2.1 rfl rfl ?_
        refine X_getK hK fl_X5_74_2 hs_a2 ez8 kd32_26.2.2.1 ?_
        refine X_icmp_ge hK 82 (by omega) (by omega) kd32_26.2.2.2.1 (by decide) (fun c28 => ?_) (fun c28 => ?_)
        · refine X_iconst hK kd32_26.2.2.2.2.2.2.1 ?_
          exact hret _ _ _ _ _ _ _ kd32_26.2.2.2.2.2.2.2.1 (by omega) (by omega) ⟨rfl, rfl, 0, rfl, (by omega), (by omega)⟩ (Nat.le_refl _) (Nat.le_refl _)
        · refine X_iconst hK kd32_26.2.2.2.2.1 ?_
          refine X_goto hK 83 kd32_26.2.2.2.2.2.1 (by decide) ?_
          exact hret _ _ _ _ _ _ _ kd32_26.2.2.2.2.2.2.2.1 (by omega) (by omega) ⟨rfl, rfl, 1, rfl, (by omega), (by omega)⟩ (Nat.le_refl _) (Nat.le_refl _)
    · refine X_aloadn hK (i := 1) 1 kd32_24.2.2.2.2.2.2.2.2.2.1 rfl rfl ?_
      refine X_getK hK fl_X5_77_2 hs_a1 ez4 kd32_24.2.2.2.2.2.2.2.2.2.2.1 ?_
      refine X_aloadn hK (i := 2) 2 kd32_24.2.2.2.2.2.2.2.2.2.2.2 rfl rfl ?_
      refine X_getK hK fl_X5_77_2 hs_a2 ez5 kd32_25.1 ?_
      refine X_icmp_ge hK 54 (by omega) (by omega) kd32_25.2.1 (by decide) (fun c29 => ?_) (fun c29 => ?_)
      · refine X_iconst hK kd32_25.2.2.2.2.1 ?_
        exact hret _ _ _ _ _ _ _ kd32_25.2.2.2.2.2.1 (by omega) (by omega) ⟨rfl, rfl, 0, rfl, (by omega), (by omega)⟩ (Nat.le_refl _) (Nat.le_refl _)
      · refine X_iconst hK kd32_25.2.2.1 ?_
        refine X_goto hK 55 kd32_25.2.2.2.1 (by decide) ?_
        exact hret _ _ _ _ _ _ _ kd32_25.2.2.2.2.2.1 (by omega) (by omega) ⟨rfl, rfl, 1, rfl, (by omega), (by omega)⟩ (Nat.le_refl _) (Nat.le_refl _)
  · refine X_aloadn hK (i := 1) 1 kd32_23.2.2.2.2.2.2.2.1 rfl rfl ?_
    refine X_getK hK fl_X5_80_2 hs_a1 ez1 kd32_23.2.2.2.2.2.2.2.2.1 ?_
    refine X_aloadn hK (i := 2) 2 kd32_23.2.2.2.2.2.2.2.2.2.1 rfl rfl ?_
    refine X_getK hK fl_X5_80_2 hs_a2 ez2 kd32_23.2.2.2.2.2.2.2.2.2.2.1 ?_
    refine X_icmp_ge hK 26 (by omega) (by omega) kd32_23.2.2.2.2.2.2.2.2.2.2.2 (by decide) (fun c30 => ?_) (fun c30 => ?_)
    · refine X_iconst hK kd32_24.2.2.1 ?_
      exact hret _ _ _ _ _ _ _ kd32_24.2.2.2.1 (by omega) (by omega) ⟨rfl, rfl, 0, rfl, (by omega), (by omega)⟩ (Nat.le_refl _) (Nat.le_refl _)
    · refine X_iconst hK kd32_24.1 ?_
      refine X_goto hK 27 kd32_24.2.1 (by decide) ?_
      exact hret _ _ _ _ _ _ _ kd32_24.2.2.2.1 (by omega) (by omega) ⟨rfl, rfl, 1, rfl, (by omega), (by omega)⟩ (Nat.le_refl _) (Nat.le_refl _)

set_option maxHeartbeats 4000000 in
set_option maxRecDepth 100000 in
theorem c_X5_learn (l : Launch) (D : va_G) (kA : Nat → ClassId) (b0 : Nat) (t0 : Nat → Nat) (S : xT) (g : xG) (a0 : Nat) (a1 : Nat) (hs_a0 : S a0 = some (6, 0)) (hs_a1 : S a1 = some (2, 0)) : xMt l yX5_learn cX5_learn 3 none 1 0 0 21 D kA b0 t0 [(12000, 0)] [.ref a0, .ref a1] S g (fun (r : Option Value) (S1 : xT) (g1 : xG) => S = S1 ∧ r = none) := by
  refine xEnterV (by decide) (by simp [lg_sl, Value.category]) [(0, .ref a0), (1, .ref a1)] rfl ?_
  intro K E hK hret _ _ _
  refine X_aloadn hK (i := 1) 1 kd32_29.2.2.2.2.2.2.2.2.1 rfl rfl ?_
  refine X_getr hK 1 0 fl_X5_49_2 hs_a1 sl_2_0 kd32_29.2.2.2.2.2.2.2.2.2.1 (fun b1 eb1 hs_b1 => ?_)
  refine X_astoren hK (i := 2) [(2, .ref b1), (0, .ref a0), (1, .ref a1)] kd32_29.2.2.2.2.2.2.2.2.2.2.1 rfl (by decide) rfl ?_
  refine X_aloadn hK (i := 0) 1 kd32_29.2.2.2.2.2.2.2.2.2.2.2 rfl rfl ?_
  refine X_getr hK 12000 12 fl_X5_31_6 hs_a0 sl_6_4 kd32_30.1 (fun b2 eb2 hs_b2 => ?_)
  refine X_iconst hK kd32_30.2.1 ?_
  refine X_aloadn hK (i := 2) 0 kd32_30.2.2.1 rfl rfl ?_
  refine X_geti hK fl_X5_55_1 hs_b1 sl_1_2 kd32_30.2.2.2.1 (fun z3 ez3 lz3 uz3 => ?_)
  have J6 : ∀ (z5 : Int) (lz5 : 0 ≤ z5) (uz5 : z5 ≤ 1), X K E 22 [(2, .ref b1), (0, .ref a0), (1, .ref a1)] [.int (iI z5), .int (iI 0), .ref b2] S g 0 0 := by
    intro z5 lz5 uz5
    refine X_iast hK hs_b2 (by decide) (by decide) sl_12000 (by omega) (by omega) (by omega) (by omega) kd32_30.2.2.2.2.2.2.2.2.1 (fun g7 hg7 => ?_)
    refine X_aloadn hK (i := 0) 1 kd32_30.2.2.2.2.2.2.2.2.2.1 rfl rfl ?_
    refine X_getK hK fl_X5_31_6 hs_a0 ((xs_a hg7 (xne hs_a0 hs_b2 (by decide))).trans eb2) kd32_30.2.2.2.2.2.2.2.2.2.2.1 ?_
    refine X_iconst hK kd32_30.2.2.2.2.2.2.2.2.2.2.2 ?_
    refine X_aloadn hK (i := 1) 2 kd32_31.1 rfl rfl ?_
    refine X_geti hK fl_X5_61_2 hs_a1 sl_2_5 kd32_31.2.1 (fun z8 ez8 lz8 uz8 => ?_)
    refine X_aloadn hK (i := 2) 0 kd32_31.2.2.1 rfl rfl ?_
    refine X_geti hK fl_X5_64_1 hs_b1 sl_1_4 kd32_31.2.2.2.1 (fun z9 ez9 lz9 uz9 => ?_)
    have J12 : ∀ (z11 : Int) (lz11 : 0 ≤ z11) (uz11 : z11 ≤ 1), X K E 44 [(2, .ref b1), (0, .ref a0), (1, .ref a1)] [.int (iI z11), .int (iI 1), .ref b2] S g7 0 0 := by
      intro z11 lz11 uz11
      refine X_iast hK hs_b2 (by decide) (by decide) sl_12000 (by omega) (by omega) (by omega) (by omega) kd32_31.2.2.2.2.2.2.2.2.1 (fun g13 hg13 => ?_)
      refine X_aloadn hK (i := 0) 1 kd32_31.2.2.2.2.2.2.2.2.2.1 rfl rfl ?_
      refine X_getK hK fl_X5_31_6 hs_a0 ((xs_a hg13 (xne hs_a0 hs_b2 (by decide))).trans ((xs_a hg7 (xne hs_a0 hs_b2 (by decide))).trans eb2)) kd32_31.2.2.2.2.2.2.2.2.2.2.1 ?_
      refine X_iconst hK kd32_31.2.2.2.2.2.2.2.2.2.2.2 ?_
      refine X_aloadn hK (i := 0) 1 kd32_32.1 rfl rfl ?_
      refine X_aloadn hK (i := 1) 2 kd32_32.2.1 rfl rfl ?_
      refine X_callV hK [.ref a1] [.int (iI 2), .ref b2] lk_X5_67 (c_X5_isOwners _ _ _ _ _ S g13 a0 a1 hs_a0 hs_a1) hs_a0 ⟨by decide, rfl⟩ kd32_32.2.2.1 rfl rfl (by simp [Value.category]) (by decide) (by decide) (by decide) (by decide) (fun r14 S16 g15 pr14 qr14 hg15 => ?_)
      obtain ⟨rfl, rfl, z17, rfl, lz17, uz17⟩ := pr14
      refine X_st [.int (iI z17), .int (iI 2), .ref b2] rfl ?_
      have J20 : ∀ (z19 : Int) (lz19 : 0 ≤ z19) (uz19 : z19 ≤ 1), X K E 63 [(2, .ref b1), (0, .ref a0), (1, .ref a1)] [.int (iI z19), .int (iI 2), .ref b2] S g13 0 0 := by
        intro z19 lz19 uz19
        refine X_iast hK hs_b2 (by decide) (by decide) sl_12000 (by omega) (by omega) (by omega) (by omega) kd32_32.2.2.2.2.2.2.2.1 (fun g21 hg21 => ?_)
        refine X_aloadn hK (i := 0) 1 kd32_32.2.2.2.2.2.2.2.2.1 rfl rfl ?_
        refine X_getK hK fl_X5_31_6 hs_a0 ((xs_a hg21 (xne hs_a0 hs_b2 (by decide))).trans ((xs_a hg13 (xne hs_a0 hs_b2 (by decide))).trans ((xs_a hg7 (xne hs_a0 hs_b2 (by decide))).trans eb2))) kd32_32.2.2.2.2.2.2.2.2.2.1 ?_
        refine X_iconst hK kd32_32.2.2.2.2.2.2.2.2.2.2.1 ?_
        refine X_aloadn hK (i := 2) 0 kd32_32.2.2.2.2.2.2.2.2.2.2.2 rfl rfl ?_
        refine X_geti hK fl_X5_71_1 hs_b1 sl_1_1 kd32_33.1 (fun z22 ez22 lz22 uz22 => ?_)
        refine X_iast hK hs_b2 (by decide) (by decide) sl_12000 (by omega) (by omega) (by omega) (by omega) kd32_33.2.1 (fun g23 hg23 => ?_)
        refine X_aloadn hK (i := 0) 1 kd32_33.2.2.1 rfl rfl ?_
        refine X_getK hK fl_X5_31_6 hs_a0 ((xs_a hg23 (xne hs_a0 hs_b2 (by decide))).trans ((xs_a hg21 (xne hs_a0 hs_b2 (by decide))).trans ((xs_a hg13 (xne hs_a0 hs_b2 (by decide))).trans ((xs_a hg7 (xne hs_a0 hs_b2 (by decide))).trans eb2)))) kd32_33.2.2.2.1 ?_
        refine X_iconst hK kd32_33.2.2.2.2.1 ?_
        refine X_aloadn hK (i := 1) 2 kd32_33.2.2.2.2.2.1 rfl rfl ?_
        refine X_geti hK fl_X5_74_2 hs_a1 sl_2_4 kd32_33.2.2.2.2.2.2.1 (fun z24 ez24 lz24 uz24 => ?_)
        refine X_iast hK hs_b2 (by decide) (by decide) sl_12000 (by omega) (by omega) (by omega) (by omega) kd32_33.2.2.2.2.2.2.2.1 (fun g25 hg25 => ?_)
        refine X_aloadn hK (i := 0) 1 kd32_33.2.2.2.2.2.2.2.2.1 rfl rfl ?_
        refine X_getK hK fl_X5_31_6 hs_a0 ((xs_a hg25 (xne hs_a0 hs_b2 (by decide))).trans ((xs_a hg23 (xne hs_a0 hs_b2 (by decide))).trans ((xs_a hg21 (xne hs_a0 hs_b2 (by decide))).trans ((xs_a hg13 (xne hs_a0 hs_b2 (by decide))).trans ((xs_a hg7 (xne hs_a0 hs_b2 (by decide))).trans eb2))))) kd32_33.2.2.2.2.2.2.2.2.2.1 ?_
        refine X_iconst hK kd32_33.2.2.2.2.2.2.2.2.2.2.1 ?_
        refine X_aloadn hK (i := 1) 2 kd32_33.2.2.2.2.2.2.2.2.2.2.2 rfl rfl ?_
        refine X_getK hK fl_X5_61_2 hs_a1 ((xs_a hg25 (xne hs_a1 hs_b2 (by decide))).trans ((xs_a hg23 (xne hs_a1 hs_b2 (by decide))).trans ((xs_a hg21 (xne hs_a1 hs_b2 (by decide))).trans ((xs_a hg13 (xne hs_a1 hs_b2 (by decide))).trans ez8)))) kd32_34.1 ?_
        refine X_bipush hK kd32_34.2.1 (by decide) ?_
        refine X_irem hK (by omega) (by omega) kd32_34.2.2.1 (fun z26 wz26 ez26 fz26 hz26 => ?_)
        have bz26 : 0 ≤ z26 ∧ z26 ≤ 6 := by omega
        refine X_iast hK hs_b2 (by decide) (by decide) sl_12000 (by omega) (by omega) (by omega) (by omega) kd32_34.2.2.2.1 (fun g27 hg27 => ?_)
        refine X_aloadn hK (i := 0) 1 kd32_34.2.2.2.2.1 rfl rfl ?_
        refine X_getK hK fl_X5_31_6 hs_a0 ((xs_a hg27 (xne hs_a0 hs_b2 (by decide))).trans ((xs_a hg25 (xne hs_a0 hs_b2 (by decide))).trans ((xs_a hg23 (xne hs_a0 hs_b2 (by decide))).trans ((xs_a hg21 (xne hs_a0 hs_b2 (by decide))).trans ((xs_a hg13 (xne hs_a0 hs_b2 (by decide))).trans ((xs_a hg7 (xne hs_a0 hs_b2 (by decide))).trans eb2)))))) kd32_34.2.2.2.2.2.1 ?_
        refine X_bipush hK kd32_34.2.2.2.2.2.2.1 (by decide) ?_
        refine X_aloadn hK (i := 1) 2 kd32_34.2.2.2.2.2.2.2.1 rfl rfl ?_
        refine X_getK hK fl_X5_61_2 hs_a1 ((xs_a hg27 (xne hs_a1 hs_b2 (by decide))).trans ((xs_a hg25 (xne hs_a1 hs_b2 (by decide))).trans ((xs_a hg23 (xne hs_a1 hs_b2 (by decide))).trans ((xs_a hg21 (xne hs_a1 hs_b2 (by decide))).trans ((xs_a hg13 (xne hs_a1 hs_b2 (by decide))).trans ez8))))) kd32_34.2.2.2.2.2.2.2.2.1 ?_
        refine X_iast hK hs_b2 (by decide) (by decide) sl_12000 (by omega) (by omega) (by omega) (by omega) kd32_34.2.2.2.2.2.2.2.2.2.1 (fun g28 hg28 => ?_)
        refine X_aloadn hK (i := 0) 1 kd32_34.2.2.2.2.2.2.2.2.2.2.1 rfl rfl ?_
        refine X_getK hK fl_X5_31_6 hs_a0 ((xs_a hg28 (xne hs_a0 hs_b2 (by decide))).trans ((xs_a hg27 (xne hs_a0 hs_b2 (by decide))).trans ((xs_a hg25 (xne hs_a0 hs_b2 (by decide))).trans ((xs_a hg23 (xne hs_a0 hs_b2 (by decide))).trans ((xs_a hg21 (xne hs_a0 hs_b2 (by decide))).trans ((xs_a hg13 (xne hs_a0 hs_b2 (by decide))).trans ((xs_a hg7 (xne hs_a0 hs_b2 (by decide))).trans eb2))))))) kd32_34.2.2.2.2.2.2.2.2.2.2.2 ?_
        refine X_bipush hK kd32_35.1 (by decide) ?_
        refine X_aloadn hK (i := 1) 2 kd32_35.2.1 rfl rfl ?_
        refine X_geti hK fl_X5_77_2 hs_a1 sl_2_1 kd32_35.2.2.1 (fun z29 ez29 lz29 uz29 => ?_)
        refine X_iast hK hs_b2 (by decide) (by decide) sl_12000 (by omega) (by omega) (by omega) (by omega) kd32_35.2.2.2.1 (fun g30 hg30 => ?_)
        refine X_aloadn hK (i := 0) 1 kd32_35.2.2.2.2.1 rfl rfl ?_
        refine X_getK hK fl_X5_31_6 hs_a0 ((xs_a hg30 (xne hs_a0 hs_b2 (by decide))).trans ((xs_a hg28 (xne hs_a0 hs_b2 (by decide))).trans ((xs_a hg27 (xne hs_a0 hs_b2 (by decide))).trans ((xs_a hg25 (xne hs_a0 hs_b2 (by decide))).trans ((xs_a hg23 (xne hs_a0 hs_b2 (by decide))).trans ((xs_a hg21 (xne hs_a0 hs_b2 (by decide))).trans ((xs_a hg13 (xne hs_a0 hs_b2 (by decide))).trans ((xs_a hg7 (xne hs_a0 hs_b2 (by decide))).trans eb2)))))))) kd32_35.2.2.2.2.2.1 ?_
        refine X_bipush hK kd32_35.2.2.2.2.2.2.1 (by decide) ?_
        refine X_aloadn hK (i := 1) 2 kd32_35.2.2.2.2.2.2.2.1 rfl rfl ?_
        refine X_geti hK fl_X5_80_2 hs_a1 sl_2_2 kd32_35.2.2.2.2.2.2.2.2.1 (fun z31 ez31 lz31 uz31 => ?_)
        refine X_iast hK hs_b2 (by decide) (by decide) sl_12000 (by omega) (by omega) (by omega) (by omega) kd32_35.2.2.2.2.2.2.2.2.2.1 (fun g32 hg32 => ?_)
        refine X_aloadn hK (i := 0) 1 kd32_35.2.2.2.2.2.2.2.2.2.2.1 rfl rfl ?_
        refine X_getK hK fl_X5_31_6 hs_a0 ((xs_a hg32 (xne hs_a0 hs_b2 (by decide))).trans ((xs_a hg30 (xne hs_a0 hs_b2 (by decide))).trans ((xs_a hg28 (xne hs_a0 hs_b2 (by decide))).trans ((xs_a hg27 (xne hs_a0 hs_b2 (by decide))).trans ((xs_a hg25 (xne hs_a0 hs_b2 (by decide))).trans ((xs_a hg23 (xne hs_a0 hs_b2 (by decide))).trans ((xs_a hg21 (xne hs_a0 hs_b2 (by decide))).trans ((xs_a hg13 (xne hs_a0 hs_b2 (by decide))).trans ((xs_a hg7 (xne hs_a0 hs_b2 (by decide))).trans eb2))))))))) kd32_35.2.2.2.2.2.2.2.2.2.2.2 ?_
        refine X_bipush hK kd32_36.1 (by decide) ?_
        refine X_aloadn hK (i := 1) 2 kd32_36.2.1 rfl rfl ?_
        refine X_geti hK fl_X5_83_2 hs_a1 sl_2_3 kd32_36.2.2.1 (fun z33 ez33 lz33 uz33 => ?_)
        refine X_iast hK hs_b2 (by decide) (by decide) sl_12000 (by omega) (by omega) (by omega) (by omega) kd32_36.2.2.2.1 (fun g34 hg34 => ?_)
        refine X_aloadn hK (i := 0) 1 kd32_36.2.2.2.2.1 rfl rfl ?_
        refine X_getK hK fl_X5_31_6 hs_a0 ((xs_a hg34 (xne hs_a0 hs_b2 (by decide))).trans ((xs_a hg32 (xne hs_a0 hs_b2 (by decide))).trans ((xs_a hg30 (xne hs_a0 hs_b2 (by decide))).trans ((xs_a hg28 (xne hs_a0 hs_b2 (by decide))).trans ((xs_a hg27 (xne hs_a0 hs_b2 (by decide))).trans ((xs_a hg25 (xne hs_a0 hs_b2 (by decide))).trans ((xs_a hg23 (xne hs_a0 hs_b2 (by decide))).trans ((xs_a hg21 (xne hs_a0 hs_b2 (by decide))).trans ((xs_a hg13 (xne hs_a0 hs_b2 (by decide))).trans ((xs_a hg7 (xne hs_a0 hs_b2 (by decide))).trans eb2)))))))))) kd32_36.2.2.2.2.2.1 ?_
        refine X_bipush hK kd32_36.2.2.2.2.2.2.1 (by decide) ?_
        refine X_aloadn hK (i := 0) 1 kd32_36.2.2.2.2.2.2.2.1 rfl rfl ?_
        refine X_getr hK 4 0 fl_X5_12_6 hs_a0 sl_6_0 kd32_36.2.2.2.2.2.2.2.2.1 (fun b35 eb35 hs_b35 => ?_)
        refine X_getr hK 10700 400 fl_X5_86_4 hs_b35 sl_4_0 kd32_36.2.2.2.2.2.2.2.2.2.1 (fun b36 eb36 hs_b36 => ?_)
        refine X_aloadn hK (i := 1) 2 kd32_36.2.2.2.2.2.2.2.2.2.2.1 rfl rfl ?_
        refine X_getK hK fl_X5_61_2 hs_a1 ((xs_a hg34 (xne hs_a1 hs_b2 (by decide))).trans ((xs_a hg32 (xne hs_a1 hs_b2 (by decide))).trans ((xs_a hg30 (xne hs_a1 hs_b2 (by decide))).trans ((xs_a hg28 (xne hs_a1 hs_b2 (by decide))).trans ((xs_a hg27 (xne hs_a1 hs_b2 (by decide))).trans ((xs_a hg25 (xne hs_a1 hs_b2 (by decide))).trans ((xs_a hg23 (xne hs_a1 hs_b2 (by decide))).trans ((xs_a hg21 (xne hs_a1 hs_b2 (by decide))).trans ((xs_a hg13 (xne hs_a1 hs_b2 (by decide))).trans ez8))))))))) kd32_36.2.2.2.2.2.2.2.2.2.2.2 ?_
        refine X_iald hK hs_b36 (by decide) sl_10700 (by omega) (by omega) kd32_37.1 (fun z37 ez37 lz37 uz37 => ?_)
        refine X_iast hK hs_b2 (by decide) (by decide) sl_12000 (by omega) (by omega) (by omega) (by omega) kd32_37.2.1 (fun g38 hg38 => ?_)
        refine X_aloadn hK (i := 0) 1 kd32_37.2.2.1 rfl rfl ?_
        refine X_getK hK fl_X5_31_6 hs_a0 ((xs_a hg38 (xne hs_a0 hs_b2 (by decide))).trans ((xs_a hg34 (xne hs_a0 hs_b2 (by decide))).trans ((xs_a hg32 (xne hs_a0 hs_b2 (by decide))).trans ((xs_a hg30 (xne hs_a0 hs_b2 (by decide))).trans ((xs_a hg28 (xne hs_a0 hs_b2 (by decide))).trans ((xs_a hg27 (xne hs_a0 hs_b2 (by decide))).trans ((xs_a hg25 (xne hs_a0 hs_b2 (by decide))).trans ((xs_a hg23 (xne hs_a0 hs_b2 (by decide))).trans ((xs_a hg21 (xne hs_a0 hs_b2 (by decide))).trans ((xs_a hg13 (xne hs_a0 hs_b2 (by decide))).trans ((xs_a hg7 (xne hs_a0 hs_b2 (by decide))).trans eb2))))))))))) kd32_37.2.2.2.1 ?_
        refine X_bipush hK kd32_37.2.2.2.2.1 (by decide) ?_
        refine X_aloadn hK (i := 2) 0 kd32_37.2.2.2.2.2.1 rfl rfl ?_
        refine X_geti hK fl_X5_89_1 hs_b1 sl_1_3 kd32_37.2.2.2.2.2.2.1 (fun z39 ez39 lz39 uz39 => ?_)
        refine X_iast hK hs_b2 (by decide) (by decide) sl_12000 (by omega) (by omega) (by omega) (by omega) kd32_37.2.2.2.2.2.2.2.1 (fun g40 hg40 => ?_)
        exact hret _ _ _ _ _ _ kd32_37.2.2.2.2.2.2.2.2.1 ⟨rfl, rfl⟩ (Nat.le_refl _) (Nat.le_refl _)
      refine X_if_eq hK 62 (by omega) kd32_32.2.2.2.1 (by decide) (fun c18 => ?_) (fun c18 => ?_)
      · refine X_iconst hK kd32_32.2.2.2.2.2.2.1 ?_
        exact J20 0 (by omega) (by omega)
      · refine X_iconst hK kd32_32.2.2.2.2.1 ?_
        refine X_goto hK 63 kd32_32.2.2.2.2.2.1 (by decide) ?_
        exact J20 1 (by omega) (by omega)
    refine X_icmp_gt hK 43 (by omega) (by omega) kd32_31.2.2.2.2.1 (by decide) (fun c10 => ?_) (fun c10 => ?_)
    · refine X_iconst hK kd32_31.2.2.2.2.2.2.2.1 ?_
      exact J12 0 (by omega) (by omega)
    · refine X_iconst hK kd32_31.2.2.2.2.2.1 ?_
      refine X_goto hK 44 kd32_31.2.2.2.2.2.2.1 (by decide) ?_
      exact J12 1 (by omega) (by omega)
  refine X_if_eq hK 21 (by omega) kd32_30.2.2.2.2.1 (by decide) (fun c4 => ?_) (fun c4 => ?_)
  · refine X_iconst hK kd32_30.2.2.2.2.2.2.2.1 ?_
    exact J6 0 (by omega) (by omega)
  · refine X_iconst hK kd32_30.2.2.2.2.2.1 ?_
    refine X_goto hK 22 kd32_30.2.2.2.2.2.2.1 (by decide) ?_
    exact J6 1 (by omega) (by omega)

set_option maxHeartbeats 4000000 in
set_option maxRecDepth 100000 in
theorem c_X5_cameBack (l : Launch) (D : va_G) (kA : Nat → ClassId) (b0 : Nat) (t0 : Nat → Nat) (S : xT) (g : xG) (a0 : Nat) (x1 : Int) (hs_a0 : S a0 = some (6, 0)) (hx1 : (-2147483648) ≤ x1 ∧ x1 ≤ 2147483647) (hp0 : xLs S g) : xMt l yX5_cameBack cX5_cameBack 5 (some .int) 3 0 0 64 D kA b0 t0 [] [.ref a0, .int (iI x1)] S g (fun (r : Option Value) (S1 : xT) (g1 : xG) => S = S1 ∧ g = g1 ∧ ∃ z : Int, r = some (.int (iI z)) ∧ (-2147483648) ≤ z ∧ z ≤ 2147483647) := by
  refine xEnterI (by decide) (by simp [lg_sl, Value.category]) [(0, .ref a0), (1, .int (iI x1))] rfl ?_
  intro K E hK hret _ _ _
  refine X_iconst hK kd32_9.2.2.1 ?_
  refine X_istoren hK (i := 2) [(2, .int (iI 0)), (0, .ref a0), (1, .int (iI x1))] kd32_9.2.2.2.1 rfl (by decide) rfl ?_
  refine X_iconst hK kd32_9.2.2.2.2.1 ?_
  refine X_istoren hK (i := 3) [(3, .int (iI 0)), (2, .int (iI 0)), (0, .ref a0), (1, .int (iI x1))] kd32_9.2.2.2.2.2.1 rfl (by decide) rfl ?_
  have P126 : ∀ (nP126 : Nat) (z105 : Int) (_ : 0 ≤ z105) (_ : z105 ≤ 200) (z106 : Int) (_ : (-2147483648) ≤ z106) (_ : z106 ≤ 2147483647) (_ : 216 - z105 < (nP126 : Int)), X K E 4 [(3, .int (iI z105)), (2, .int (iI z106)), (0, .ref a0), (1, .int (iI x1))] [] S g 0 0 := by
    intro nP126
    induction nP126 with
    | zero => intro z105 lz105 uz105 z106 lz106 uz106 mP126; exact False.elim (by omega)
    | succ nP126 ihP126 =>
      intro z105 lz105 uz105 z106 lz106 uz106 mP126
      refine X_iloadn hK (i := 3) 0 kd32_9.2.2.2.2.2.2.1 rfl rfl ?_
      refine X_aloadn hK (i := 0) 2 kd32_9.2.2.2.2.2.2.2.1 rfl rfl ?_
      refine X_getr hK 100 0 fl_X5_25_6 hs_a0 sl_6_2 kd32_9.2.2.2.2.2.2.2.2.1 (fun b127 eb127 hs_b127 => ?_)
      refine X_know hs_b127 (by decide) sl_100_2 (fun z128 ez128 lz128 uz128 => ?_)
      refine X_callV hK [] [.int (iI z105)] lk_X5_45 (c_size_100 _ _ _ _ _ S g b127 z128 hs_b127 (by omega) ez128 hp0) hs_b127 ⟨by decide, rfl⟩ kd32_9.2.2.2.2.2.2.2.2.2.1 rfl rfl (by simp [Value.category]) (by decide) (by decide) (by decide) (by decide) (fun r129 S131 g130 pr129 qr129 hg130 => ?_)
      obtain ⟨rfl, rfl, z132, rfl, lz132, uz132, k133⟩ := pr129
      refine X_st [.int (iI z132), .int (iI z105)] rfl ?_
      refine X_icmp_ge hK 55 (by omega) (by omega) kd32_9.2.2.2.2.2.2.2.2.2.2.1 (by decide) (fun c134 => ?_) (fun c134 => ?_)
      · refine X_iloadn hK (i := 2) 1 kd32_11.2.2.2.2.2.2.1 rfl rfl ?_
        exact hret _ _ _ _ _ _ _ kd32_11.2.2.2.2.2.2.2.1 ⟨rfl, rfl, z106, rfl, (by omega), (by omega)⟩ (Nat.le_refl _) (Nat.le_refl _)
      · refine X_aloadn hK (i := 0) 2 kd32_9.2.2.2.2.2.2.2.2.2.2.2 rfl rfl ?_
        refine X_getK hK fl_X5_25_6 hs_a0 eb127 kd32_10.1 ?_
        refine X_iloadn hK (i := 3) 0 kd32_10.2.1 rfl rfl ?_
        refine X_callV hK [.int (iI z105)] [] lk_X5_119 (c_get_100 _ _ _ _ _ S g b127 z105 z128 hs_b127 (by omega) (by omega) ez128 hp0 (by omega)) hs_b127 ⟨by decide, rfl⟩ kd32_10.2.2.1 rfl rfl (by simp [Value.category]) (by decide) (by decide) (by decide) (by decide) (fun r135 S137 g136 pr135 qr135 hg136 => ?_)
        obtain ⟨rfl, rfl, b138, rfl, hs_b138⟩ := pr135
        refine X_st [.ref b138] rfl ?_
        refine X_cast hK hs_b138 ⟨by decide, rfl⟩ m_38_23 kd32_10.2.2.2.1 ?_
        refine X_astore hK (i := 4) [(4, .ref b138), (3, .int (iI z105)), (2, .int (iI z106)), (0, .ref a0), (1, .int (iI x1))] kd32_10.2.2.2.2.1 (by decide) rfl ?_
        refine X_iloadn hK (i := 2) 2 kd32_10.2.2.2.2.2.1 rfl rfl ?_
        refine X_aload hK (i := 4) 0 kd32_10.2.2.2.2.2.2.1 rfl ?_
        refine X_geti hK fl_X5_131_2 hs_b138 sl_2_6 kd32_10.2.2.2.2.2.2.2.1 (fun z139 ez139 lz139 uz139 => ?_)
        refine X_iloadn hK (i := 1) 4 kd32_10.2.2.2.2.2.2.2.2.1 rfl rfl ?_
        have J143 : ∀ (z142 : Int) (lz142 : (-2147483648) ≤ z142) (uz142 : z142 ≤ 2147483647), X K E 47 [(4, .ref b138), (3, .int (iI z105)), (2, .int (iI z106)), (0, .ref a0), (1, .int (iI x1))] [.int (iI z142), .int (iI z106)] S g 0 0 := by
          intro z142 lz142 uz142
          refine X_iadd hK kd32_11.2.2.1 ?_
          refine X_norm (fun z144 ez144 lz144 uz144 => ?_)
          refine X_istoren hK (i := 2) [(2, .int (iI z144)), (4, .ref b138), (3, .int (iI z105)), (0, .ref a0), (1, .int (iI x1))] kd32_11.2.2.2.1 rfl (by decide) rfl ?_
          refine X_iinc hK (i := 3) (z := z105) (n := 1) 2 [(3, .int (iI (z105 + 1))), (2, .int (iI z144)), (4, .ref b138), (0, .ref a0), (1, .int (iI x1))] kd32_11.2.2.2.2.1 rfl (by decide) rfl ?_
          refine X_goto hK 4 kd32_11.2.2.2.2.2.1 (by decide) ?_
          refine X_lv [(3, .int (iI (z105 + 1))), (2, .int (iI z144)), (0, .ref a0), (1, .int (iI x1))] [0, 1, 3, 4] rfl ?_
          exact ihP126  (z105 + 1) (by omega) (by omega) z144 (by omega) (by omega) (by omega)
        refine X_icmp_ne hK 46 (by omega) (by omega) kd32_10.2.2.2.2.2.2.2.2.2.1 (by decide) (fun c140 => ?_) (fun c140 => ?_)
        · refine X_iconst hK kd32_11.2.1 ?_
          exact J143 0 (by omega) (by omega)
        · refine X_aload hK (i := 4) 0 kd32_10.2.2.2.2.2.2.2.2.2.2.1 rfl ?_
          refine X_geti hK fl_X5_156_2 hs_b138 sl_2_9 kd32_10.2.2.2.2.2.2.2.2.2.2.2 (fun z145 ez145 lz145 uz145 => ?_)
          refine X_goto hK 47 kd32_11.1 (by decide) ?_
          exact J143 z145 (by omega) (by omega)
  exact P126 ((216 - 0 : Int).toNat + 1) 0 (by omega) (by omega) 0 (by omega) (by omega) (by omega)

set_option maxHeartbeats 4000000 in
set_option maxRecDepth 100000 in
theorem c_X5_firstAt (l : Launch) (D : va_G) (kA : Nat → ClassId) (b0 : Nat) (t0 : Nat → Nat) (S : xT) (g : xG) (a0 : Nat) (x1 : Int) (hs_a0 : S a0 = some (6, 0)) (hx1 : (-2147483648) ≤ x1 ∧ x1 ≤ 2147483647) (hp0 : xLs S g) : xMt l yX5_firstAt cX5_firstAt 3 (some .int) 3 0 0 64 D kA b0 t0 [] [.ref a0, .int (iI x1)] S g (fun (r : Option Value) (S1 : xT) (g1 : xG) => S = S1 ∧ g = g1 ∧ ∃ z : Int, r = some (.int (iI z)) ∧ (-1) ≤ z ∧ z ≤ 199) := by
  refine xEnterI (by decide) (by simp [lg_sl, Value.category]) [(0, .ref a0), (1, .int (iI x1))] rfl ?_
  intro K E hK hret _ _ _
  refine X_iconst hK kd32_19.2.2.2.2.2.2.2.1 ?_
  refine X_istoren hK (i := 2) [(2, .int (iI 0)), (0, .ref a0), (1, .int (iI x1))] kd32_19.2.2.2.2.2.2.2.2.1 rfl (by decide) rfl ?_
  have P91 : ∀ (nP91 : Nat) (z76 : Int) (_ : 0 ≤ z76) (_ : z76 ≤ 200) (_ : 216 - z76 < (nP91 : Int)), X K E 2 [(2, .int (iI z76)), (0, .ref a0), (1, .int (iI x1))] [] S g 0 0 := by
    intro nP91
    induction nP91 with
    | zero => intro z76 lz76 uz76 mP91; exact False.elim (by omega)
    | succ nP91 ihP91 =>
      intro z76 lz76 uz76 mP91
      refine X_iloadn hK (i := 2) 0 kd32_19.2.2.2.2.2.2.2.2.2.1 rfl rfl ?_
      refine X_aloadn hK (i := 0) 1 kd32_19.2.2.2.2.2.2.2.2.2.2.1 rfl rfl ?_
      refine X_getr hK 100 0 fl_X5_25_6 hs_a0 sl_6_2 kd32_19.2.2.2.2.2.2.2.2.2.2.2 (fun b92 eb92 hs_b92 => ?_)
      refine X_know hs_b92 (by decide) sl_100_2 (fun z93 ez93 lz93 uz93 => ?_)
      refine X_callV hK [] [.int (iI z76)] lk_X5_45 (c_size_100 _ _ _ _ _ S g b92 z93 hs_b92 (by omega) ez93 hp0) hs_b92 ⟨by decide, rfl⟩ kd32_20.1 rfl rfl (by simp [Value.category]) (by decide) (by decide) (by decide) (by decide) (fun r94 S96 g95 pr94 qr94 hg95 => ?_)
      obtain ⟨rfl, rfl, z97, rfl, lz97, uz97, k98⟩ := pr94
      refine X_st [.int (iI z97), .int (iI z76)] rfl ?_
      refine X_icmp_ge hK 39 (by omega) (by omega) kd32_20.2.1 (by decide) (fun c99 => ?_) (fun c99 => ?_)
      · refine X_iconst hK kd32_21.2.2.1 ?_
        exact hret _ _ _ _ _ _ _ kd32_21.2.2.2.1 ⟨rfl, rfl, (-1), rfl, (by omega), (by omega)⟩ (Nat.le_refl _) (Nat.le_refl _)
      · refine X_aloadn hK (i := 0) 1 kd32_20.2.2.1 rfl rfl ?_
        refine X_getK hK fl_X5_25_6 hs_a0 eb92 kd32_20.2.2.2.1 ?_
        refine X_iloadn hK (i := 2) 0 kd32_20.2.2.2.2.1 rfl rfl ?_
        refine X_callV hK [.int (iI z76)] [] lk_X5_119 (c_get_100 _ _ _ _ _ S g b92 z76 z93 hs_b92 (by omega) (by omega) ez93 hp0 (by omega)) hs_b92 ⟨by decide, rfl⟩ kd32_20.2.2.2.2.2.1 rfl rfl (by simp [Value.category]) (by decide) (by decide) (by decide) (by decide) (fun r100 S102 g101 pr100 qr100 hg101 => ?_)
        obtain ⟨rfl, rfl, b103, rfl, hs_b103⟩ := pr100
        refine X_st [.ref b103] rfl ?_
        refine X_cast hK hs_b103 ⟨by decide, rfl⟩ m_38_23 kd32_20.2.2.2.2.2.2.1 ?_
        refine X_geti hK fl_X5_131_2 hs_b103 sl_2_6 kd32_20.2.2.2.2.2.2.2.1 (fun z104 ez104 lz104 uz104 => ?_)
        refine X_iloadn hK (i := 1) 2 kd32_20.2.2.2.2.2.2.2.2.1 rfl rfl ?_
        refine X_icmp_ne hK 33 (by omega) (by omega) kd32_20.2.2.2.2.2.2.2.2.2.1 (by decide) (fun c105 => ?_) (fun c105 => ?_)
        · refine X_iinc hK (i := 2) (z := z76) (n := 1) 0 [(2, .int (iI (z76 + 1))), (0, .ref a0), (1, .int (iI x1))] kd32_21.1 rfl (by decide) rfl ?_
          refine X_goto hK 2 kd32_21.2.1 (by decide) ?_
          exact ihP91  (z76 + 1) (by omega) (by omega) (by omega)
        · refine X_iloadn hK (i := 2) 0 kd32_20.2.2.2.2.2.2.2.2.2.2.1 rfl rfl ?_
          exact hret _ _ _ _ _ _ _ kd32_20.2.2.2.2.2.2.2.2.2.2.2 ⟨rfl, rfl, z76, rfl, (by omega), (by omega)⟩ (Nat.le_refl _) (Nat.le_refl _)
  exact P91 ((216 - 0 : Int).toNat + 1) 0 (by omega) (by omega) (by omega)

set_option maxHeartbeats 4000000 in
set_option maxRecDepth 100000 in
theorem c_X10_numberOf (l : Launch) (D : va_G) (kA : Nat → ClassId) (b0 : Nat) (t0 : Nat → Nat) (S : xT) (g : xG) (a0 : Nat) (x1 : Int) (x2 : Int) (hs_a0 : S a0 = some (11, 0)) (hx1 : (-1) ≤ x1 ∧ x1 ≤ 15) (hx2 : 0 ≤ x2 ∧ x2 ≤ 5) : xMt l yX10_numberOf cX10_numberOf 4 (some .int) 1 0 0 13 D kA b0 t0 [] [.ref a0, .int (iI x1), .int (iI x2)] S g (fun (r : Option Value) (S1 : xT) (g1 : xG) => S = S1 ∧ g = g1 ∧ ∃ z : Int, r = some (.int (iI z)) ∧ (-2147483648) ≤ z ∧ z ≤ 2147483647) := by
  refine xEnterI (by decide) (by simp [lg_sl, Value.category]) [(0, .ref a0), (1, .int (iI x1)), (2, .int (iI x2))] rfl ?_
  intro K E hK hret _ _ _
  refine X_iloadn hK (i := 1) 1 kd32_0.1 rfl rfl ?_
  refine X_iconst hK kd32_0.2.1 ?_
  have J6 : ∀ (z5 : Int) (lz5 : (-2147483648) ≤ z5) (uz5 : z5 ≤ 2147483647), X K E 19 [(0, .ref a0), (1, .int (iI x1)), (2, .int (iI x2))] [.int (iI z5)] S g 0 0 := by
    intro z5 lz5 uz5
    refine X_istoren hK (i := 3) [(3, .int (iI z5)), (0, .ref a0), (1, .int (iI x1)), (2, .int (iI x2))] kd32_0.2.2.2.2.2.2.2.2.2.2.2 rfl (by decide) rfl ?_
    refine X_iloadn hK (i := 2) 3 kd32_1.1 rfl rfl ?_
    refine X_iconst hK kd32_1.2.1 ?_
    refine X_icmp_ne hK 34 (by omega) (by omega) kd32_1.2.2.1 (by decide) (fun c7 => ?_) (fun c7 => ?_)
    · refine X_iloadn hK (i := 3) 0 kd32_1.2.2.2.2.2.2.2.1 rfl rfl ?_
      exact hret _ _ _ _ _ _ _ kd32_1.2.2.2.2.2.2.2.2.1 ⟨rfl, rfl, z5, rfl, (by omega), (by omega)⟩ (Nat.le_refl _) (Nat.le_refl _)
    · refine X_iloadn hK (i := 3) 0 kd32_1.2.2.2.1 rfl rfl ?_
      refine X_bipush hK kd32_1.2.2.2.2.1 (by decide) ?_
      refine X_mmin hK mm_X10_44 ⟨by decide, by simp [Value.category]⟩ (by decide) (by omega) (by omega) kd32_1.2.2.2.2.2.1 (fun z8 ez8 fz8 => ?_)
      have bz8 : (-2147483648) ≤ z8 ∧ z8 ≤ 100 := by omega
      refine X_goto hK 35 kd32_1.2.2.2.2.2.2.1 (by decide) ?_
      exact hret _ _ _ _ _ _ _ kd32_1.2.2.2.2.2.2.2.2.1 ⟨rfl, rfl, z8, rfl, (by omega), (by omega)⟩ (Nat.le_refl _) (Nat.le_refl _)
  refine X_icmp_ne hK 13 (by omega) (by omega) kd32_0.2.2.1 (by decide) (fun c1 => ?_) (fun c1 => ?_)
  · refine X_aloadn hK (i := 0) 0 kd32_0.2.2.2.2.2.2.2.1 rfl rfl ?_
    refine X_getr hK 13700 16 fl_X10_25_11 hs_a0 sl_11_4 kd32_0.2.2.2.2.2.2.2.2.1 (fun b9 eb9 hs_b9 => ?_)
    refine X_iloadn hK (i := 1) 1 kd32_0.2.2.2.2.2.2.2.2.2.1 rfl rfl ?_
    refine X_iald hK hs_b9 (by decide) sl_13700 (by omega) (by omega) kd32_0.2.2.2.2.2.2.2.2.2.2.1 (fun z10 ez10 lz10 uz10 => ?_)
    exact J6 z10 (by omega) (by omega)
  · refine X_getW hK kd32_0.2.2.2.1 ?_
    refine X_iloadn hK (i := 2) 2 kd32_0.2.2.2.2.1 rfl rfl ?_
    refine X_wald hK (by omega) (by omega) kd32_0.2.2.2.2.2.1 (fun z11 ez11 lz11 uz11 => ?_)
    refine X_goto hK 19 kd32_0.2.2.2.2.2.2.1 (by decide) ?_
    exact J6 z11 (by omega) (by omega)

set_option maxHeartbeats 4000000 in
set_option maxRecDepth 100000 in
theorem c_X10_tells (l : Launch) (D : va_G) (kA : Nat → ClassId) (b0 : Nat) (t0 : Nat → Nat) (S : xT) (g : xG) (a0 : Nat) (x1 : Int) (a2 : Nat) (hs_a0 : S a0 = some (11, 0)) (hx1 : 0 ≤ x1 ∧ x1 ≤ 5) (hs_a2 : S a2 = some (12000, 12)) : xMt l yX10_tells cX10_tells 3 (some .int) 3 0 0 72 D kA b0 t0 [] [.ref a0, .int (iI x1), .ref a2] S g (fun (r : Option Value) (S1 : xT) (g1 : xG) => S = S1 ∧ g = g1 ∧ ∃ z : Int, r = some (.int (iI z)) ∧ (-2147483648) ≤ z ∧ z ≤ 2147483647) := by
  refine xEnterI (by decide) (by simp [lg_sl, Value.category]) [(0, .ref a0), (1, .int (iI x1)), (2, .ref a2)] rfl ?_
  intro K E hK hret _ _ _
  refine X_aloadn hK (i := 0) 0 kd32_1.2.2.2.2.2.2.2.2.2.1 rfl rfl ?_
  refine X_aloadn hK (i := 0) 0 kd32_1.2.2.2.2.2.2.2.2.2.2.1 rfl rfl ?_
  refine X_iloadn hK (i := 1) 1 kd32_1.2.2.2.2.2.2.2.2.2.2.2 rfl rfl ?_
  refine X_aloadn hK (i := 2) 2 kd32_2.1 rfl rfl ?_
  refine X_callV hK [.int (iI x1), .ref a2] [.ref a0] lk_X10_50 (c_X10_lineFor _ _ _ _ _ S g a0 x1 a2 hs_a0 (by omega) hs_a2) hs_a0 ⟨by decide, rfl⟩ kd32_2.2.1 rfl rfl (by simp [Value.category]) (by decide) (by decide) (by decide) (by decide) (fun r1 S3 g2 pr1 qr1 hg2 => ?_)
  obtain ⟨rfl, rfl, z4, rfl, lz4, uz4⟩ := pr1
  refine X_st [.int (iI z4), .ref a0] rfl ?_
  refine X_iloadn hK (i := 1) 1 kd32_2.2.2.1 rfl rfl ?_
  refine X_callV hK [.int (iI z4), .int (iI x1)] [] lk_X10_54 (c_X10_numberOf _ _ _ _ _ S g a0 z4 x1 hs_a0 (by omega) (by omega)) hs_a0 ⟨by decide, rfl⟩ kd32_2.2.2.2.1 rfl rfl (by simp [Value.category]) (by decide) (by decide) (by decide) (by decide) (fun r5 S7 g6 pr5 qr5 hg6 => ?_)
  obtain ⟨rfl, rfl, z8, rfl, lz8, uz8⟩ := pr5
  refine X_st [.int (iI z8)] rfl ?_
  exact hret _ _ _ _ _ _ _ kd32_2.2.2.2.2.1 ⟨rfl, rfl, z8, rfl, (by omega), (by omega)⟩ (Nat.le_refl _) (Nat.le_refl _)

set_option maxHeartbeats 4000000 in
set_option maxRecDepth 100000 in
theorem c_X5_cryBundle (l : Launch) (D : va_G) (kA : Nat → ClassId) (b0 : Nat) (t0 : Nat → Nat) (S : xT) (g : xG) (a0 : Nat) (a1 : Nat) (a2 : Nat) (x3 : Int) (x4 : Int) (hs_a0 : S a0 = some (6, 0)) (hs_a1 : S a1 = some (2, 0)) (hs_a2 : S a2 = some (11, 0)) (hx3 : (-2147483648) ≤ x3 ∧ x3 ≤ 2147483647) (hx4 : 0 ≤ x4 ∧ x4 ≤ 1) : xMt l yX5_cryBundle cX5_cryBundle 10 (some .int) 4 0 0 94 D kA b0 t0 [(12000, 0), (6, 5), (6, 7), (6, 6), (2, 8), (2, 9), (2, 10), (1, 5)] [.ref a0, .ref a1, .ref a2, .int (iI x3), .int (iI x4)] S g (fun (r : Option Value) (S1 : xT) (g1 : xG) => S = S1 ∧ ∃ z : Int, r = some (.int (iI z)) ∧ (-2147483648) ≤ z ∧ z ≤ 2147483647) := by
  refine xEnterI (by decide) (by simp [lg_sl, Value.category]) [(0, .ref a0), (1, .ref a1), (2, .ref a2), (3, .int (iI x3)), (4, .int (iI x4))] rfl ?_
  intro K E hK hret _ _ _
  refine X_aloadn hK (i := 0) 0 kd32_11.2.2.2.2.2.2.2.2.1 rfl rfl ?_
  refine X_aloadn hK (i := 1) 1 kd32_11.2.2.2.2.2.2.2.2.2.1 rfl rfl ?_
  refine X_callV hK [.ref a1] [] lk_X5_92 (c_X5_learn _ _ _ _ _ S g a0 a1 hs_a0 hs_a1) hs_a0 ⟨by decide, rfl⟩ kd32_11.2.2.2.2.2.2.2.2.2.2.1 rfl rfl (by simp [Value.category]) (by decide) (by decide) (by decide) (by decide) (fun r1 S3 g2 pr1 qr1 hg2 => ?_)
  obtain ⟨rfl, rfl⟩ := pr1
  refine X_st [] rfl ?_
  refine X_aloadn hK (i := 2) 2 kd32_11.2.2.2.2.2.2.2.2.2.2.2 rfl rfl ?_
  refine X_iconst hK kd32_12.1 ?_
  refine X_aloadn hK (i := 0) 0 kd32_12.2.1 rfl rfl ?_
  refine X_getr hK 12000 12 fl_X5_31_6 hs_a0 sl_6_4 kd32_12.2.2.1 (fun b4 eb4 hs_b4 => ?_)
  refine X_callV hK [.int (iI 0), .ref b4] [] lk_X5_96 (c_X10_tells _ _ _ _ _ S g2 a2 0 b4 hs_a2 (by omega) hs_b4) hs_a2 ⟨by decide, rfl⟩ kd32_12.2.2.2.1 rfl rfl (by simp [Value.category]) (by decide) (by decide) (by decide) (by decide) (fun r5 S7 g6 pr5 qr5 hg6 => ?_)
  obtain ⟨rfl, rfl, z8, rfl, lz8, uz8⟩ := pr5
  refine X_st [.int (iI z8)] rfl ?_
  refine X_istore hK (i := 5) [(5, .int (iI z8)), (0, .ref a0), (1, .ref a1), (2, .ref a2), (3, .int (iI x3)), (4, .int (iI x4))] kd32_12.2.2.2.2.1 (by decide) rfl ?_
  refine X_aloadn hK (i := 2) 3 kd32_12.2.2.2.2.2.1 rfl rfl ?_
  refine X_iconst hK kd32_12.2.2.2.2.2.2.1 ?_
  refine X_aloadn hK (i := 0) 1 kd32_12.2.2.2.2.2.2.2.1 rfl rfl ?_
  refine X_getK hK fl_X5_31_6 hs_a0 eb4 kd32_12.2.2.2.2.2.2.2.2.1 ?_
  refine X_callV hK [.int (iI 4), .ref b4] [] lk_X5_96 (c_X10_tells _ _ _ _ _ S g2 a2 4 b4 hs_a2 (by omega) hs_b4) hs_a2 ⟨by decide, rfl⟩ kd32_12.2.2.2.2.2.2.2.2.2.1 rfl rfl (by simp [Value.category]) (by decide) (by decide) (by decide) (by decide) (fun r9 S11 g10 pr9 qr9 hg10 => ?_)
  obtain ⟨rfl, rfl, z12, rfl, lz12, uz12⟩ := pr9
  refine X_st [.int (iI z12)] rfl ?_
  refine X_iconst hK kd32_12.2.2.2.2.2.2.2.2.2.2.1 ?_
  have J17 : ∀ (z16 : Int) (lz16 : (-2147483648) ≤ z16) (uz16 : z16 ≤ 2147483647), X K E 41 [(5, .int (iI z8)), (0, .ref a0), (1, .ref a1), (2, .ref a2), (3, .int (iI x3)), (4, .int (iI x4))] [.int (iI z16)] S g2 0 0 := by
    intro z16 lz16 uz16
    refine X_istore hK (i := 6) [(6, .int (iI z16)), (5, .int (iI z8)), (0, .ref a0), (1, .ref a1), (2, .ref a2), (3, .int (iI x3)), (4, .int (iI x4))] kd32_13.2.2.2.2.2.2.1 (by decide) rfl ?_
    refine X_aloadn hK (i := 1) 3 kd32_13.2.2.2.2.2.2.2.1 rfl rfl ?_
    refine X_geti hK fl_X5_83_2 hs_a1 sl_2_3 kd32_13.2.2.2.2.2.2.2.2.1 (fun z18 ez18 lz18 uz18 => ?_)
    refine X_iload hK (i := 6) 0 kd32_13.2.2.2.2.2.2.2.2.2.1 rfl ?_
    refine X_isub hK kd32_13.2.2.2.2.2.2.2.2.2.2.1 ?_
    refine X_norm (fun z19 ez19 lz19 uz19 => ?_)
    refine X_istore hK (i := 7) [(7, .int (iI z19)), (6, .int (iI z16)), (5, .int (iI z8)), (0, .ref a0), (1, .ref a1), (2, .ref a2), (3, .int (iI x3)), (4, .int (iI x4))] kd32_13.2.2.2.2.2.2.2.2.2.2.2 (by decide) rfl ?_
    refine X_iload hK (i := 7) 0 kd32_14.1 rfl ?_
    refine X_aloadn hK (i := 2) 5 kd32_14.2.1 rfl rfl ?_
    refine X_iconst hK kd32_14.2.2.1 ?_
    refine X_aloadn hK (i := 0) 3 kd32_14.2.2.2.1 rfl rfl ?_
    refine X_getK hK fl_X5_31_6 hs_a0 eb4 kd32_14.2.2.2.2.1 ?_
    refine X_callV hK [.int (iI 2), .ref b4] [.int (iI z19)] lk_X5_96 (c_X10_tells _ _ _ _ _ S g2 a2 2 b4 hs_a2 (by omega) hs_b4) hs_a2 ⟨by decide, rfl⟩ kd32_14.2.2.2.2.2.1 rfl rfl (by simp [Value.category]) (by decide) (by decide) (by decide) (by decide) (fun r20 S22 g21 pr20 qr20 hg21 => ?_)
    obtain ⟨rfl, rfl, z23, rfl, lz23, uz23⟩ := pr20
    refine X_st [.int (iI z23), .int (iI z19)] rfl ?_
    refine X_callN hK [.int (iI z19), .int (iI z23)] [] lk_X5_147 (c_X11_backOf _ _ _ _ _ S g2 z19 z23 (by omega) (by omega)) kd32_14.2.2.2.2.2.2.1 rfl rfl (by simp [Value.category]) (by decide) (by decide) (by decide) (by decide) (fun r24 S26 g25 pr24 qr24 hg25 => ?_)
    obtain ⟨rfl, rfl, z27, rfl, lz27, uz27⟩ := pr24
    refine X_st [.int (iI z27)] rfl ?_
    refine X_istore hK (i := 8) [(8, .int (iI z27)), (7, .int (iI z19)), (6, .int (iI z16)), (5, .int (iI z8)), (0, .ref a0), (1, .ref a1), (2, .ref a2), (3, .int (iI x3)), (4, .int (iI x4))] kd32_14.2.2.2.2.2.2.2.1 (by decide) rfl ?_
    refine X_iload hK (i := 6) 2 kd32_14.2.2.2.2.2.2.2.2.1 rfl ?_
    refine X_aloadn hK (i := 2) 6 kd32_14.2.2.2.2.2.2.2.2.2.1 rfl rfl ?_
    refine X_iconst hK kd32_14.2.2.2.2.2.2.2.2.2.2.1 ?_
    refine X_aloadn hK (i := 0) 4 kd32_14.2.2.2.2.2.2.2.2.2.2.2 rfl rfl ?_
    refine X_getK hK fl_X5_31_6 hs_a0 eb4 kd32_15.1 ?_
    refine X_callV hK [.int (iI 1), .ref b4] [.int (iI z16)] lk_X5_96 (c_X10_tells _ _ _ _ _ S g2 a2 1 b4 hs_a2 (by omega) hs_b4) hs_a2 ⟨by decide, rfl⟩ kd32_15.2.1 rfl rfl (by simp [Value.category]) (by decide) (by decide) (by decide) (by decide) (fun r28 S30 g29 pr28 qr28 hg29 => ?_)
    obtain ⟨rfl, rfl, z31, rfl, lz31, uz31⟩ := pr28
    refine X_st [.int (iI z31), .int (iI z16)] rfl ?_
    refine X_imul hK kd32_15.2.2.1 ?_
    refine X_norm (fun z32 ez32 lz32 uz32 => ?_)
    refine X_iload hK (i := 8) 0 kd32_15.2.2.2.1 rfl ?_
    refine X_iload hK (i := 5) 3 kd32_15.2.2.2.2.1 rfl ?_
    refine X_callN hK [.int (iI z27), .int (iI z8)] [.int (iI z32)] lk_X5_150 (c_X11_paidFor _ _ _ _ _ S g2 z27 z8 (by omega) (by omega)) kd32_15.2.2.2.2.2.1 rfl rfl (by simp [Value.category]) (by decide) (by decide) (by decide) (by decide) (fun r33 S35 g34 pr33 qr33 hg34 => ?_)
    obtain ⟨rfl, rfl, z36, rfl, lz36, uz36⟩ := pr33
    refine X_st [.int (iI z36), .int (iI z32)] rfl ?_
    refine X_iadd hK kd32_15.2.2.2.2.2.2.1 ?_
    refine X_norm (fun z37 ez37 lz37 uz37 => ?_)
    refine X_istore hK (i := 9) [(9, .int (iI z37)), (8, .int (iI z27)), (7, .int (iI z19)), (6, .int (iI z16)), (5, .int (iI z8)), (0, .ref a0), (1, .ref a1), (2, .ref a2), (3, .int (iI x3)), (4, .int (iI x4))] kd32_15.2.2.2.2.2.2.2.1 (by decide) rfl ?_
    refine X_aloadn hK (i := 0) 5 kd32_15.2.2.2.2.2.2.2.2.1 rfl rfl ?_
    refine X_dup hK kd32_15.2.2.2.2.2.2.2.2.2.1 rfl ?_
    refine X_geti hK fl_X5_35_6 hs_a0 sl_6_5 kd32_15.2.2.2.2.2.2.2.2.2.2.1 (fun z38 ez38 lz38 uz38 => ?_)
    refine X_iload hK (i := 6) 3 kd32_15.2.2.2.2.2.2.2.2.2.2.2 rfl ?_
    refine X_iadd hK kd32_16.1 ?_
    refine X_norm (fun z39 ez39 lz39 uz39 => ?_)
    refine X_puti hK fl_X5_35_6 hs_a0 (by decide) sl_6_5 (by omega) (by omega) kd32_16.2.1 (fun g40 hg40 => ?_)
    refine X_aloadn hK (i := 0) 5 kd32_16.2.2.1 rfl rfl ?_
    refine X_dup hK kd32_16.2.2.2.1 rfl ?_
    refine X_geti hK fl_X5_42_6 hs_a0 sl_6_7 kd32_16.2.2.2.2.1 (fun z41 ez41 lz41 uz41 => ?_)
    refine X_iload hK (i := 7) 2 kd32_16.2.2.2.2.2.1 rfl ?_
    refine X_iload hK (i := 8) 1 kd32_16.2.2.2.2.2.2.1 rfl ?_
    refine X_isub hK kd32_16.2.2.2.2.2.2.2.1 ?_
    refine X_norm (fun z42 ez42 lz42 uz42 => ?_)
    refine X_iadd hK kd32_16.2.2.2.2.2.2.2.2.1 ?_
    refine X_norm (fun z43 ez43 lz43 uz43 => ?_)
    refine X_puti hK fl_X5_42_6 hs_a0 (by decide) sl_6_7 (by omega) (by omega) kd32_16.2.2.2.2.2.2.2.2.2.1 (fun g44 hg44 => ?_)
    refine X_aloadn hK (i := 0) 5 kd32_16.2.2.2.2.2.2.2.2.2.2.1 rfl rfl ?_
    refine X_dup hK kd32_16.2.2.2.2.2.2.2.2.2.2.2 rfl ?_
    refine X_geti hK fl_X5_39_6 hs_a0 sl_6_6 kd32_17.1 (fun z45 ez45 lz45 uz45 => ?_)
    refine X_iload hK (i := 9) 0 kd32_17.2.1 rfl ?_
    refine X_aloadn hK (i := 1) 6 kd32_17.2.2.1 rfl rfl ?_
    refine X_getK hK fl_X5_83_2 hs_a1 ((xs_k hg44 (by decide)).trans ((xs_k hg40 (by decide)).trans ez18)) kd32_17.2.2.2.1 ?_
    refine X_iload hK (i := 5) 4 kd32_17.2.2.2.2.1 rfl ?_
    refine X_callN hK [.int (iI z18), .int (iI z8)] [.int (iI z37), .int (iI z45), .ref a0] lk_X5_102 (c_X11_costOf _ _ _ _ _ S g44 z18 z8 (by omega) (by omega)) kd32_17.2.2.2.2.2.1 rfl rfl (by simp [Value.category]) (by decide) (by decide) (by decide) (by decide) (fun r46 S48 g47 pr46 qr46 hg47 => ?_)
    obtain ⟨rfl, rfl, z49, rfl, lz49, uz49⟩ := pr46
    refine X_st [.int (iI z49), .int (iI z37), .int (iI z45), .ref a0] rfl ?_
    refine X_isub hK kd32_17.2.2.2.2.2.2.1 ?_
    refine X_norm (fun z50 ez50 lz50 uz50 => ?_)
    refine X_iadd hK kd32_17.2.2.2.2.2.2.2.1 ?_
    refine X_norm (fun z51 ez51 lz51 uz51 => ?_)
    refine X_puti hK fl_X5_39_6 hs_a0 (by decide) sl_6_6 (by omega) (by omega) kd32_17.2.2.2.2.2.2.2.2.1 (fun g52 hg52 => ?_)
    refine X_iload hK (i := 4) 9 kd32_17.2.2.2.2.2.2.2.2.2.1 rfl ?_
    refine X_if_eq hK 176 (by omega) kd32_17.2.2.2.2.2.2.2.2.2.2.1 (by decide) (fun c53 => ?_) (fun c53 => ?_)
    · refine X_iload hK (i := 6) 3 kd32_19.2.2.2.2.2.1 rfl ?_
      exact hret _ _ _ _ _ _ _ kd32_19.2.2.2.2.2.2.1 ⟨rfl, z16, rfl, (by omega), (by omega)⟩ (Nat.le_refl _) (Nat.le_refl _)
    · refine X_aloadn hK (i := 1) 6 kd32_17.2.2.2.2.2.2.2.2.2.2.2 rfl rfl ?_
      refine X_iload hK (i := 6) 3 kd32_18.1 rfl ?_
      refine X_puti hK fl_X5_153_2 hs_a1 (by decide) sl_2_8 (by omega) (by omega) kd32_18.2.1 (fun g54 hg54 => ?_)
      refine X_aloadn hK (i := 1) 6 kd32_18.2.2.1 rfl rfl ?_
      refine X_iload hK (i := 8) 1 kd32_18.2.2.2.1 rfl ?_
      refine X_puti hK fl_X5_156_2 hs_a1 (by decide) sl_2_9 (by omega) (by omega) kd32_18.2.2.2.2.1 (fun g55 hg55 => ?_)
      refine X_aloadn hK (i := 1) 6 kd32_18.2.2.2.2.2.1 rfl rfl ?_
      refine X_iload hK (i := 7) 2 kd32_18.2.2.2.2.2.2.1 rfl ?_
      refine X_iload hK (i := 8) 1 kd32_18.2.2.2.2.2.2.2.1 rfl ?_
      refine X_isub hK kd32_18.2.2.2.2.2.2.2.2.1 ?_
      refine X_norm (fun z56 ez56 lz56 uz56 => ?_)
      refine X_puti hK fl_X5_159_2 hs_a1 (by decide) sl_2_10 (by omega) (by omega) kd32_18.2.2.2.2.2.2.2.2.2.1 (fun g57 hg57 => ?_)
      refine X_aloadn hK (i := 1) 6 kd32_18.2.2.2.2.2.2.2.2.2.2.1 rfl rfl ?_
      refine X_getr hK 1 0 fl_X5_49_2 hs_a1 sl_2_0 kd32_18.2.2.2.2.2.2.2.2.2.2.2 (fun b58 eb58 hs_b58 => ?_)
      refine X_dup hK kd32_19.1 rfl ?_
      refine X_geti hK fl_X5_106_1 hs_b58 sl_1_5 kd32_19.2.1 (fun z59 ez59 lz59 uz59 => ?_)
      refine X_iload hK (i := 9) 0 kd32_19.2.2.1 rfl ?_
      refine X_iadd hK kd32_19.2.2.2.1 ?_
      refine X_norm (fun z60 ez60 lz60 uz60 => ?_)
      refine X_puti hK fl_X5_106_1 hs_b58 (by decide) sl_1_5 (by omega) (by omega) kd32_19.2.2.2.2.1 (fun g61 hg61 => ?_)
      refine X_iload hK (i := 6) 3 kd32_19.2.2.2.2.2.1 rfl ?_
      exact hret _ _ _ _ _ _ _ kd32_19.2.2.2.2.2.2.1 ⟨rfl, z16, rfl, (by omega), (by omega)⟩ (Nat.le_refl _) (Nat.le_refl _)
  refine X_icmp_ne hK 40 (by omega) (by omega) kd32_12.2.2.2.2.2.2.2.2.2.2.2 (by decide) (fun c13 => ?_) (fun c13 => ?_)
  · refine X_iconst hK kd32_13.2.2.2.2.2.1 ?_
    exact J17 0 (by omega) (by omega)
  · refine X_iloadn hK (i := 3) 4 kd32_13.1 rfl rfl ?_
    refine X_aloadn hK (i := 1) 2 kd32_13.2.1 rfl rfl ?_
    refine X_geti hK fl_X5_83_2 hs_a1 sl_2_3 kd32_13.2.2.1 (fun z62 ez62 lz62 uz62 => ?_)
    refine X_mmin hK mm_X5_142 ⟨by decide, by simp [Value.category]⟩ (by decide) (by omega) (by omega) kd32_13.2.2.2.1 (fun z63 ez63 fz63 => ?_)
    have bz63 : (-2147483648) ≤ z63 ∧ z63 ≤ 2147483647 := by omega
    refine X_goto hK 41 kd32_13.2.2.2.2.1 (by decide) ?_
    exact J17 z63 (by omega) (by omega)

set_option maxHeartbeats 4000000 in
set_option maxRecDepth 100000 in
theorem c_X4_falseAsOf (l : Launch) (D : va_G) (kA : Nat → ClassId) (b0 : Nat) (t0 : Nat → Nat) (S : xT) (g : xG) (a0 : Nat) (x1 : Int) (a2 : Nat) (hs_a0 : S a0 = some (5, 0)) (hx1 : (-2147483648) ≤ x1 ∧ x1 ≤ 2147483647) (hs_a2 : S a2 = some (6, 0)) (hp0 : xLs S g) : xMt l yX4_falseAsOf cX4_falseAsOf 5 (some .int) 4 0 0 88 D kA b0 t0 [] [.ref a0, .int (iI x1), .ref a2] S g (fun (r : Option Value) (S1 : xT) (g1 : xG) => S = S1 ∧ g = g1 ∧ ∃ z : Int, r = some (.int (iI z)) ∧ (-2147483648) ≤ z ∧ z ≤ 2147483647) := by
  refine xEnterI (by decide) (by simp [lg_sl, Value.category]) [(0, .ref a0), (1, .int (iI x1)), (2, .ref a2)] rfl ?_
  intro K E hK hret _ _ _
  refine X_iconst hK kd32_2.2.2.2.2.2.1 ?_
  refine X_istoren hK (i := 3) [(3, .int (iI 0)), (0, .ref a0), (1, .int (iI x1)), (2, .ref a2)] kd32_2.2.2.2.2.2.2.1 rfl (by decide) rfl ?_
  refine X_iconst hK kd32_2.2.2.2.2.2.2.2.1 ?_
  refine X_istore hK (i := 4) [(4, .int (iI 0)), (3, .int (iI 0)), (0, .ref a0), (1, .int (iI x1)), (2, .ref a2)] kd32_2.2.2.2.2.2.2.2.2.1 (by decide) rfl ?_
  have P661 : ∀ (nP661 : Nat) (z632 : Int) (_ : 0 ≤ z632) (_ : z632 ≤ 60) (z633 : Int) (_ : (-2147483648) ≤ z633) (_ : z633 ≤ 2147483647) (_ : 76 - z632 < (nP661 : Int)), X K E 5 [(4, .int (iI z632)), (3, .int (iI z633)), (0, .ref a0), (1, .int (iI x1)), (2, .ref a2)] [] S g 0 0 := by
    intro nP661
    induction nP661 with
    | zero => intro z632 lz632 uz632 z633 lz633 uz633 mP661; exact False.elim (by omega)
    | succ nP661 ihP661 =>
      intro z632 lz632 uz632 z633 lz633 uz633 mP661
      refine X_iload hK (i := 4) 0 kd32_2.2.2.2.2.2.2.2.2.2.1 rfl ?_
      refine X_aloadn hK (i := 0) 2 kd32_2.2.2.2.2.2.2.2.2.2.2.1 rfl rfl ?_
      refine X_geti hK fl_X4_21_5 hs_a0 sl_5_3 kd32_2.2.2.2.2.2.2.2.2.2.2.2 (fun z662 ez662 lz662 uz662 => ?_)
      refine X_icmp_ge hK 61 (by omega) (by omega) kd32_3.1 (by decide) (fun c663 => ?_) (fun c663 => ?_)
      · refine X_iloadn hK (i := 3) 1 kd32_5.1 rfl rfl ?_
        exact hret _ _ _ _ _ _ _ kd32_5.2.1 ⟨rfl, rfl, z633, rfl, (by omega), (by omega)⟩ (Nat.le_refl _) (Nat.le_refl _)
      · refine X_aloadn hK (i := 0) 2 kd32_3.2.1 rfl rfl ?_
        refine X_iloadn hK (i := 1) 3 kd32_3.2.2.1 rfl rfl ?_
        refine X_aloadn hK (i := 0) 2 kd32_3.2.2.2.1 rfl rfl ?_
        refine X_getr hK 11700 60 fl_X4_9_5 hs_a0 sl_5_0 kd32_3.2.2.2.2.1 (fun b664 eb664 hs_b664 => ?_)
        refine X_iload hK (i := 4) 0 kd32_3.2.2.2.2.2.1 rfl ?_
        refine X_iald hK hs_b664 (by decide) sl_11700 (by omega) (by omega) kd32_3.2.2.2.2.2.2.1 (fun z665 ez665 lz665 uz665 => ?_)
        refine X_callV hK [.int (iI x1), .int (iI z665)] [] lk_X4_25 (c_X4_lastAsOf _ _ _ _ _ S g a0 x1 z665 hs_a0 (by omega) (by omega)) hs_a0 ⟨by decide, rfl⟩ kd32_3.2.2.2.2.2.2.2.1 rfl rfl (by simp [Value.category]) (by decide) (by decide) (by decide) (by decide) (fun r666 S668 g667 pr666 qr666 hg667 => ?_)
        obtain ⟨rfl, rfl, z669, rfl, lz669, uz669⟩ := pr666
        refine X_st [.int (iI z669)] rfl ?_
        refine X_iload hK (i := 4) 0 kd32_3.2.2.2.2.2.2.2.2.1 rfl ?_
        have J680 : ∀ (z679 : Int) (lz679 : (-2147483648) ≤ z679) (uz679 : z679 ≤ 2147483647), X K E 55 [(4, .int (iI z632)), (3, .int (iI z679)), (0, .ref a0), (1, .int (iI x1)), (2, .ref a2)] [] S g 0 0 := by
          intro z679 lz679 uz679
          refine X_iinc hK (i := 4) (z := z632) (n := 1) 0 [(4, .int (iI (z632 + 1))), (3, .int (iI z679)), (0, .ref a0), (1, .int (iI x1)), (2, .ref a2)] kd32_4.2.2.2.2.2.2.2.2.2.2.1 rfl (by decide) rfl ?_
          refine X_goto hK 5 kd32_4.2.2.2.2.2.2.2.2.2.2.2 (by decide) ?_
          exact ihP661  (z632 + 1) (by omega) (by omega) z679 (by omega) (by omega) (by omega)
        refine X_icmp_ne hK 55 (by omega) (by omega) kd32_3.2.2.2.2.2.2.2.2.2.1 (by decide) (fun c670 => ?_) (fun c670 => ?_)
        · exact J680 z633 (by omega) (by omega)
        · refine X_aloadn hK (i := 0) 2 kd32_3.2.2.2.2.2.2.2.2.2.2.1 rfl rfl ?_
          refine X_getr hK 11800 60 fl_X4_15_5 hs_a0 sl_5_1 kd32_3.2.2.2.2.2.2.2.2.2.2.2 (fun b681 eb681 hs_b681 => ?_)
          refine X_iload hK (i := 4) 0 kd32_4.1 rfl ?_
          refine X_iald hK hs_b681 (by decide) sl_11800 (by omega) (by omega) kd32_4.2.1 (fun z682 ez682 lz682 uz682 => ?_)
          refine X_aloadn hK (i := 2) 4 kd32_4.2.2.1 rfl rfl ?_
          refine X_aloadn hK (i := 0) 2 kd32_4.2.2.2.1 rfl rfl ?_
          refine X_getK hK fl_X4_9_5 hs_a0 eb664 kd32_4.2.2.2.2.1 ?_
          refine X_iload hK (i := 4) 0 kd32_4.2.2.2.2.2.1 rfl ?_
          refine X_ialdK hK hs_b664 (by decide) (by omega) (by omega) ez665 kd32_4.2.2.2.2.2.2.1 ?_
          refine X_callV hK [.int (iI z665)] [.int (iI z682)] lk_X4_29 (c_X5_cameBack _ _ _ _ _ S g a2 z665 hs_a2 (by omega) hp0) hs_a2 ⟨by decide, rfl⟩ kd32_4.2.2.2.2.2.2.2.1 rfl rfl (by simp [Value.category]) (by decide) (by decide) (by decide) (by decide) (fun r683 S685 g684 pr683 qr683 hg684 => ?_)
          obtain ⟨rfl, rfl, z686, rfl, lz686, uz686⟩ := pr683
          refine X_st [.int (iI z686), .int (iI z682)] rfl ?_
          refine X_icmp_le hK 55 (by omega) (by omega) kd32_4.2.2.2.2.2.2.2.2.1 (by decide) (fun c687 => ?_) (fun c687 => ?_)
          · exact J680 z633 (by omega) (by omega)
          · refine X_iinc hK (i := 3) (z := z633) (n := 1) 1 [(3, .int (iI (z633 + 1))), (4, .int (iI z632)), (0, .ref a0), (1, .int (iI x1)), (2, .ref a2)] kd32_4.2.2.2.2.2.2.2.2.2.1 rfl (by decide) rfl ?_
            refine X_ln (a := (z633 + 1)) (fun w9 => (3, .int w9) :: [(4, .int (iI z632)), (0, .ref a0), (1, .int (iI x1)), (2, .ref a2)]) rfl (fun z688 lz688 uz688 => ?_)
            refine X_lq [(3, .int (iI z688)), (4, .int (iI z632)), (0, .ref a0), (1, .int (iI x1)), (2, .ref a2)] rfl ?_
            refine X_lv [(4, .int (iI z632)), (3, .int (iI z688)), (0, .ref a0), (1, .int (iI x1)), (2, .ref a2)] [1, 0, 2, 3, 4] rfl ?_
            exact J680 z688 (by omega) (by omega)
  exact P661 ((76 - 0 : Int).toNat + 1) 0 (by omega) (by omega) 0 (by omega) (by omega) (by omega)

set_option maxHeartbeats 4000000 in
set_option maxRecDepth 100000 in
theorem c_X4_shortAsOf (l : Launch) (D : va_G) (kA : Nat → ClassId) (b0 : Nat) (t0 : Nat → Nat) (S : xT) (g : xG) (a0 : Nat) (x1 : Int) (x2 : Int) (a3 : Nat) (hs_a0 : S a0 = some (5, 0)) (hx1 : (-2147483648) ≤ x1 ∧ x1 ≤ 2147483647) (hx2 : (-2147483648) ≤ x2 ∧ x2 ≤ 2147483647) (hs_a3 : S a3 = some (6, 0)) (hp0 : xLs S g) : xMt l yX4_shortAsOf cX4_shortAsOf 7 (some .int) 4 0 0 88 D kA b0 t0 [] [.ref a0, .int (iI x1), .int (iI x2), .ref a3] S g (fun (r : Option Value) (S1 : xT) (g1 : xG) => S = S1 ∧ g = g1 ∧ ∃ z : Int, r = some (.int (iI z)) ∧ (-2147483648) ≤ z ∧ z ≤ 2147483647) := by
  refine xEnterI (by decide) (by simp [lg_sl, Value.category]) [(0, .ref a0), (1, .int (iI x1)), (2, .int (iI x2)), (3, .ref a3)] rfl ?_
  intro K E hK hret _ _ _
  refine X_iconst hK kd32_5.2.2.1 ?_
  refine X_istore hK (i := 4) [(4, .int (iI 0)), (0, .ref a0), (1, .int (iI x1)), (2, .int (iI x2)), (3, .ref a3)] kd32_5.2.2.2.1 (by decide) rfl ?_
  refine X_iconst hK kd32_5.2.2.2.2.1 ?_
  refine X_istore hK (i := 5) [(5, .int (iI 0)), (4, .int (iI 0)), (0, .ref a0), (1, .int (iI x1)), (2, .int (iI x2)), (3, .ref a3)] kd32_5.2.2.2.2.2.1 (by decide) rfl ?_
  have P429 : ∀ (nP429 : Nat) (z375 : Int) (_ : 0 ≤ z375) (_ : z375 ≤ 200) (z376 : Int) (_ : (-2147483648) ≤ z376) (_ : z376 ≤ 2147483647) (_ : 216 - z375 < (nP429 : Int)), X K E 6 [(5, .int (iI z375)), (4, .int (iI z376)), (0, .ref a0), (1, .int (iI x1)), (2, .int (iI x2)), (3, .ref a3)] [] S g 0 0 := by
    intro nP429
    induction nP429 with
    | zero => intro z375 lz375 uz375 z376 lz376 uz376 mP429; exact False.elim (by omega)
    | succ nP429 ihP429 =>
      intro z375 lz375 uz375 z376 lz376 uz376 mP429
      refine X_iload hK (i := 5) 0 kd32_5.2.2.2.2.2.2.1 rfl ?_
      refine X_aloadn hK (i := 3) 5 kd32_5.2.2.2.2.2.2.2.1 rfl rfl ?_
      refine X_getr hK 100 0 fl_X4_35_6 hs_a3 sl_6_2 kd32_5.2.2.2.2.2.2.2.2.1 (fun b430 eb430 hs_b430 => ?_)
      refine X_know hs_b430 (by decide) sl_100_2 (fun z431 ez431 lz431 uz431 => ?_)
      refine X_callV hK [] [.int (iI z375)] lk_X4_39 (c_size_100 _ _ _ _ _ S g b430 z431 hs_b430 (by omega) ez431 hp0) hs_b430 ⟨by decide, rfl⟩ kd32_5.2.2.2.2.2.2.2.2.2.1 rfl rfl (by simp [Value.category]) (by decide) (by decide) (by decide) (by decide) (fun r432 S434 g433 pr432 qr432 hg433 => ?_)
      obtain ⟨rfl, rfl, z435, rfl, lz435, uz435, k436⟩ := pr432
      refine X_st [.int (iI z435), .int (iI z375)] rfl ?_
      refine X_icmp_ge hK 99 (by omega) (by omega) kd32_5.2.2.2.2.2.2.2.2.2.2.1 (by decide) (fun c437 => ?_) (fun c437 => ?_)
      · refine X_iload hK (i := 4) 1 kd32_9.1 rfl ?_
        exact hret _ _ _ _ _ _ _ kd32_9.2.1 ⟨rfl, rfl, z376, rfl, (by omega), (by omega)⟩ (Nat.le_refl _) (Nat.le_refl _)
      · refine X_aloadn hK (i := 3) 5 kd32_5.2.2.2.2.2.2.2.2.2.2.2 rfl rfl ?_
        refine X_getK hK fl_X4_35_6 hs_a3 eb430 kd32_6.1 ?_
        refine X_iload hK (i := 5) 0 kd32_6.2.1 rfl ?_
        refine X_callV hK [.int (iI z375)] [] lk_X4_44 (c_get_100 _ _ _ _ _ S g b430 z375 z431 hs_b430 (by omega) (by omega) ez431 hp0 (by omega)) hs_b430 ⟨by decide, rfl⟩ kd32_6.2.2.1 rfl rfl (by simp [Value.category]) (by decide) (by decide) (by decide) (by decide) (fun r438 S440 g439 pr438 qr438 hg439 => ?_)
        obtain ⟨rfl, rfl, b441, rfl, hs_b441⟩ := pr438
        refine X_st [.ref b441] rfl ?_
        refine X_cast hK hs_b441 ⟨by decide, rfl⟩ m_45_3 kd32_6.2.2.2.1 ?_
        refine X_astore hK (i := 6) [(6, .ref b441), (5, .int (iI z375)), (4, .int (iI z376)), (0, .ref a0), (1, .int (iI x1)), (2, .int (iI x2)), (3, .ref a3)] kd32_6.2.2.2.2.1 (by decide) rfl ?_
        refine X_aload hK (i := 6) 0 kd32_6.2.2.2.2.2.1 rfl ?_
        refine X_geti hK fl_X4_50_2 hs_b441 sl_2_5 kd32_6.2.2.2.2.2.2.1 (fun z442 ez442 lz442 uz442 => ?_)
        refine X_iloadn hK (i := 2) 5 kd32_6.2.2.2.2.2.2.2.1 rfl rfl ?_
        have J463 : ∀ (z462 : Int) (lz462 : (-2147483648) ≤ z462) (uz462 : z462 ≤ 2147483647), X K E 93 [(6, .ref b441), (5, .int (iI z375)), (4, .int (iI z462)), (0, .ref a0), (1, .int (iI x1)), (2, .int (iI x2)), (3, .ref a3)] [] S g 0 0 := by
          intro z462 lz462 uz462
          refine X_iinc hK (i := 5) (z := z375) (n := 1) 1 [(5, .int (iI (z375 + 1))), (6, .ref b441), (4, .int (iI z462)), (0, .ref a0), (1, .int (iI x1)), (2, .int (iI x2)), (3, .ref a3)] kd32_8.2.2.2.2.2.2.2.2.2.2.1 rfl (by decide) rfl ?_
          refine X_goto hK 6 kd32_8.2.2.2.2.2.2.2.2.2.2.2 (by decide) ?_
          refine X_lv [(5, .int (iI (z375 + 1))), (4, .int (iI z462)), (0, .ref a0), (1, .int (iI x1)), (2, .int (iI x2)), (3, .ref a3)] [0, 2, 3, 4, 5, 6] rfl ?_
          exact ihP429  (z375 + 1) (by omega) (by omega) z462 (by omega) (by omega) (by omega)
        refine X_icmp_ge hK 93 (by omega) (by omega) kd32_6.2.2.2.2.2.2.2.2.1 (by decide) (fun c443 => ?_) (fun c443 => ?_)
        · exact J463 z376 (by omega) (by omega)
        · refine X_aload hK (i := 6) 0 kd32_6.2.2.2.2.2.2.2.2.2.1 rfl ?_
          refine X_getK hK fl_X4_50_2 hs_b441 ez442 kd32_6.2.2.2.2.2.2.2.2.2.2.1 ?_
          refine X_iloadn hK (i := 1) 4 kd32_6.2.2.2.2.2.2.2.2.2.2.2 rfl rfl ?_
          refine X_icmp_gt hK 93 (by omega) (by omega) kd32_7.1 (by decide) (fun c464 => ?_) (fun c464 => ?_)
          · exact J463 z376 (by omega) (by omega)
          · refine X_aloadn hK (i := 3) 6 kd32_7.2.1 rfl rfl ?_
            refine X_aload hK (i := 6) 0 kd32_7.2.2.1 rfl ?_
            refine X_geti hK fl_X4_53_2 hs_b441 sl_2_6 kd32_7.2.2.2.1 (fun z465 ez465 lz465 uz465 => ?_)
            refine X_callV hK [.int (iI z465)] [] lk_X4_55 (c_X5_firstAt _ _ _ _ _ S g a3 z465 hs_a3 (by omega) hp0) hs_a3 ⟨by decide, rfl⟩ kd32_7.2.2.2.2.1 rfl rfl (by simp [Value.category]) (by decide) (by decide) (by decide) (by decide) (fun r466 S468 g467 pr466 qr466 hg467 => ?_)
            obtain ⟨rfl, rfl, z469, rfl, lz469, uz469⟩ := pr466
            refine X_st [.int (iI z469)] rfl ?_
            refine X_iload hK (i := 5) 1 kd32_7.2.2.2.2.2.1 rfl ?_
            refine X_icmp_ne hK 93 (by omega) (by omega) kd32_7.2.2.2.2.2.2.1 (by decide) (fun c470 => ?_) (fun c470 => ?_)
            · exact J463 z376 (by omega) (by omega)
            · refine X_iload hK (i := 4) 2 kd32_7.2.2.2.2.2.2.2.1 rfl ?_
              refine X_iconst hK kd32_7.2.2.2.2.2.2.2.2.1 ?_
              refine X_aloadn hK (i := 3) 6 kd32_7.2.2.2.2.2.2.2.2.2.1 rfl rfl ?_
              refine X_aload hK (i := 6) 0 kd32_7.2.2.2.2.2.2.2.2.2.2.1 rfl ?_
              refine X_getK hK fl_X4_53_2 hs_b441 ez465 kd32_7.2.2.2.2.2.2.2.2.2.2.2 ?_
              refine X_callV hK [.int (iI z465)] [.int (iI 0), .int (iI z376)] lk_X4_29 (c_X5_cameBack _ _ _ _ _ S g a3 z465 hs_a3 (by omega) hp0) hs_a3 ⟨by decide, rfl⟩ kd32_8.1 rfl rfl (by simp [Value.category]) (by decide) (by decide) (by decide) (by decide) (fun r471 S473 g472 pr471 qr471 hg472 => ?_)
              obtain ⟨rfl, rfl, z474, rfl, lz474, uz474⟩ := pr471
              refine X_st [.int (iI z474), .int (iI 0), .int (iI z376)] rfl ?_
              refine X_aloadn hK (i := 0) 3 kd32_8.2.1 rfl rfl ?_
              refine X_iloadn hK (i := 1) 4 kd32_8.2.2.1 rfl rfl ?_
              refine X_aload hK (i := 6) 0 kd32_8.2.2.2.1 rfl ?_
              refine X_getK hK fl_X4_53_2 hs_b441 ez465 kd32_8.2.2.2.2.1 ?_
              refine X_callV hK [.int (iI x1), .int (iI z465)] [.int (iI z474), .int (iI 0), .int (iI z376)] lk_X4_58 (c_X4_countedAsOf _ _ _ _ _ S g a0 x1 z465 hs_a0 (by omega) (by omega)) hs_a0 ⟨by decide, rfl⟩ kd32_8.2.2.2.2.2.1 rfl rfl (by simp [Value.category]) (by decide) (by decide) (by decide) (by decide) (fun r475 S477 g476 pr475 qr475 hg476 => ?_)
              obtain ⟨rfl, rfl, z478, rfl, lz478, uz478⟩ := pr475
              refine X_st [.int (iI z478), .int (iI z474), .int (iI 0), .int (iI z376)] rfl ?_
              refine X_isub hK kd32_8.2.2.2.2.2.2.1 ?_
              refine X_norm (fun z479 ez479 lz479 uz479 => ?_)
              refine X_mmax hK mm_X4_61 ⟨by decide, by simp [Value.category]⟩ (by decide) (by omega) (by omega) kd32_8.2.2.2.2.2.2.2.1 (fun z480 ez480 fz480 => ?_)
              have bz480 : 0 ≤ z480 ∧ z480 ≤ 2147483647 := by omega
              refine X_iadd hK kd32_8.2.2.2.2.2.2.2.2.1 ?_
              refine X_norm (fun z481 ez481 lz481 uz481 => ?_)
              refine X_istore hK (i := 4) [(4, .int (iI z481)), (6, .ref b441), (5, .int (iI z375)), (0, .ref a0), (1, .int (iI x1)), (2, .int (iI x2)), (3, .ref a3)] kd32_8.2.2.2.2.2.2.2.2.2.1 (by decide) rfl ?_
              refine X_lv [(6, .ref b441), (5, .int (iI z375)), (4, .int (iI z481)), (0, .ref a0), (1, .int (iI x1)), (2, .int (iI x2)), (3, .ref a3)] [1, 2, 0, 3, 4, 5, 6] rfl ?_
              exact J463 z481 (by omega) (by omega)
  exact P429 ((216 - 0 : Int).toNat + 1) 0 (by omega) (by omega) 0 (by omega) (by omega) (by omega)
