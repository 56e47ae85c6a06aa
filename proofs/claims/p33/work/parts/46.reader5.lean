theorem m_8_15 : Cond.fieldLink RX12 50 "PaperBoysModel" "linesOf" "[I" ∈ wsL_law := ch_8 _ (List.mem_of_getElem? (i := 15) rfl)
theorem m_8_17 : Cond.fieldLink RX12 56 "PaperBoysModel" "sort" "[I" ∈ wsL_law := ch_8 _ (List.mem_of_getElem? (i := 17) rfl)
theorem m_8_18 : Cond.fieldLink RX12 59 "PaperBoysModel" "amount" "[I" ∈ wsL_law := ch_8 _ (List.mem_of_getElem? (i := 18) rfl)
theorem m_8_19 : Cond.fieldLink RX12 62 "PaperBoysModel" "condFrom" "[I" ∈ wsL_law := ch_8 _ (List.mem_of_getElem? (i := 19) rfl)
theorem m_8_20 : Cond.fieldLink RX12 65 "PaperBoysModel" "condTo" "[I" ∈ wsL_law := ch_8 _ (List.mem_of_getElem? (i := 20) rfl)
theorem m_9_2 : Cond.fieldLink RX12 83 "PaperBoysModel" "value" "[Z" ∈ wsL_law := ch_9 _ (List.mem_of_getElem? (i := 2) rfl)
theorem m_9_3 : Cond.fieldLink RX12 86 "PaperBoysModel" "teller" "I" ∈ wsL_law := ch_9 _ (List.mem_of_getElem? (i := 3) rfl)
theorem m_9_15 : Cond.fieldLink RX12 123 "PaperBoysModel" "soldNow" "[I" ∈ wsL_law := ch_9 _ (List.mem_of_getElem? (i := 15) rfl)
theorem m_9_16 : Cond.fieldLink RX12 126 "PaperBoysModel" "backNow" "[I" ∈ wsL_law := ch_9 _ (List.mem_of_getElem? (i := 16) rfl)
theorem m_9_18 : Cond.fieldLink RX12 132 "PaperBoysModel" "maySell" "[Z" ∈ wsL_law := ch_9 _ (List.mem_of_getElem? (i := 18) rfl)
theorem m_28_9 : Cond.fieldLink RX12 361 "PaperBoysModel" "lines" "I" ∈ wsL_law := ch_28 _ (List.mem_of_getElem? (i := 9) rfl)
theorem m_28_11 : Cond.methodLink RX12 376 yX12_readTerms ∈ wsL_law := ch_28 _ (List.mem_of_getElem? (i := 11) rfl)
theorem m_28_12 : Cond.instanceMethod yX12_readTerms ∈ wsL_law := ch_28 _ (List.mem_of_getElem? (i := 12) rfl)
theorem m_28_13 : Cond.selects RX12 yX12_readTerms yX12_readTerms ∈ wsL_law := ch_28 _ (List.mem_of_getElem? (i := 13) rfl)
theorem m_28_14 : Cond.code yX12_readTerms cX12_readTerms 2 (some .boolean) ∈ wsL_law := ch_28 _ (List.mem_of_getElem? (i := 14) rfl)
theorem m_28_17 : Cond.fieldLink RX12 364 "PaperBoysModel" "told" "I" ∈ wsL_law := ch_28 _ (List.mem_of_getElem? (i := 17) rfl)
theorem m_29_21 : Cond.methodLink RX12 370 yX12_readLine ∈ wsL_law := ch_29 _ (List.mem_of_getElem? (i := 21) rfl)
theorem m_29_22 : Cond.instanceMethod yX12_readLine ∈ wsL_law := ch_29 _ (List.mem_of_getElem? (i := 22) rfl)
theorem m_29_23 : Cond.selects RX12 yX12_readLine yX12_readLine ∈ wsL_law := ch_29 _ (List.mem_of_getElem? (i := 23) rfl)
theorem m_30_0 : Cond.code yX12_readLine cX12_readLine 3 (some .boolean) ∈ wsL_law := ch_30 _ (List.mem_of_getElem? (i := 0) rfl)
theorem m_30_1 : Cond.methodLink RX12 358 yX12_sortAtHand ∈ wsL_law := ch_30 _ (List.mem_of_getElem? (i := 1) rfl)
theorem m_30_2 : Cond.instanceMethod yX12_sortAtHand ∈ wsL_law := ch_30 _ (List.mem_of_getElem? (i := 2) rfl)
theorem m_30_3 : Cond.selects RX12 yX12_sortAtHand yX12_sortAtHand ∈ wsL_law := ch_30 _ (List.mem_of_getElem? (i := 3) rfl)
theorem m_30_4 : Cond.code yX12_sortAtHand cX12_sortAtHand 1 (some .int) ∈ wsL_law := ch_30 _ (List.mem_of_getElem? (i := 4) rfl)
theorem m_30_20 : Cond.methodLink RX12 367 yX12_readCond ∈ wsL_law := ch_30 _ (List.mem_of_getElem? (i := 20) rfl)
theorem m_30_21 : Cond.instanceMethod yX12_readCond ∈ wsL_law := ch_30 _ (List.mem_of_getElem? (i := 21) rfl)
theorem m_30_22 : Cond.selects RX12 yX12_readCond yX12_readCond ∈ wsL_law := ch_30 _ (List.mem_of_getElem? (i := 22) rfl)
theorem m_30_23 : Cond.code yX12_readCond cX12_readCond 2 (some .boolean) ∈ wsL_law := ch_30 _ (List.mem_of_getElem? (i := 23) rfl)
theorem m_36_10 : Cond.methodLink RX12 392 yX12_termsFor ∈ wsL_law := ch_36 _ (List.mem_of_getElem? (i := 10) rfl)
theorem m_36_11 : Cond.instanceMethod yX12_termsFor ∈ wsL_law := ch_36 _ (List.mem_of_getElem? (i := 11) rfl)
theorem m_36_12 : Cond.selects RX12 yX12_termsFor yX12_termsFor ∈ wsL_law := ch_36 _ (List.mem_of_getElem? (i := 12) rfl)
theorem m_36_13 : Cond.code yX12_termsFor cX12_termsFor 4 (some .int) ∈ wsL_law := ch_36 _ (List.mem_of_getElem? (i := 13) rfl)
theorem m_36_14 : Cond.methodLink RX12 395 yX12_tells ∈ wsL_law := ch_36 _ (List.mem_of_getElem? (i := 14) rfl)
theorem m_36_15 : Cond.instanceMethod yX12_tells ∈ wsL_law := ch_36 _ (List.mem_of_getElem? (i := 15) rfl)
theorem m_36_16 : Cond.selects RX12 yX12_tells yX12_tells ∈ wsL_law := ch_36 _ (List.mem_of_getElem? (i := 16) rfl)
theorem m_36_17 : Cond.code yX12_tells cX12_tells 5 (some .int) ∈ wsL_law := ch_36 _ (List.mem_of_getElem? (i := 17) rfl)
theorem m_36_18 : Cond.methodLink RX12 379 yX12_holds ∈ wsL_law := ch_36 _ (List.mem_of_getElem? (i := 18) rfl)
theorem m_36_19 : Cond.instanceMethod yX12_holds ∈ wsL_law := ch_36 _ (List.mem_of_getElem? (i := 19) rfl)
theorem m_36_20 : Cond.selects RX12 yX12_holds yX12_holds ∈ wsL_law := ch_36 _ (List.mem_of_getElem? (i := 20) rfl)
theorem m_36_21 : Cond.code yX12_holds cX12_holds 10 (some .boolean) ∈ wsL_law := ch_36 _ (List.mem_of_getElem? (i := 21) rfl)
theorem m_36_22 : Cond.methodLink RX12 382 yX12_usual ∈ wsL_law := ch_36 _ (List.mem_of_getElem? (i := 22) rfl)
theorem m_36_23 : Cond.static yX12_usual ∈ wsL_law := ch_36 _ (List.mem_of_getElem? (i := 23) rfl)
theorem m_37_0 : Cond.code yX12_usual cX12_usual 1 (some .int) ∈ wsL_law := ch_37 _ (List.mem_of_getElem? (i := 0) rfl)
theorem m_37_22 : Cond.methodLink RX12 402 yX12_askOf ∈ wsL_law := ch_37 _ (List.mem_of_getElem? (i := 22) rfl)
theorem m_37_23 : Cond.instanceMethod yX12_askOf ∈ wsL_law := ch_37 _ (List.mem_of_getElem? (i := 23) rfl)
theorem m_38_0 : Cond.selects RX12 yX12_askOf yX12_askOf ∈ wsL_law := ch_38 _ (List.mem_of_getElem? (i := 0) rfl)
theorem m_38_1 : Cond.code yX12_askOf cX12_askOf 2 none ∈ wsL_law := ch_38 _ (List.mem_of_getElem? (i := 1) rfl)
theorem m_40_20 : Cond.methodLink RX12 412 yX12_cry ∈ wsL_law := ch_40 _ (List.mem_of_getElem? (i := 20) rfl)
theorem m_40_21 : Cond.instanceMethod yX12_cry ∈ wsL_law := ch_40 _ (List.mem_of_getElem? (i := 21) rfl)
theorem m_40_22 : Cond.selects RX12 yX12_cry yX12_cry ∈ wsL_law := ch_40 _ (List.mem_of_getElem? (i := 22) rfl)
theorem m_40_23 : Cond.code yX12_cry cX12_cry 9 none ∈ wsL_law := ch_40 _ (List.mem_of_getElem? (i := 23) rfl)
theorem m_41_0 : Cond.methodLink RX12 405 yX12_firstAt ∈ wsL_law := ch_41 _ (List.mem_of_getElem? (i := 0) rfl)
theorem m_41_1 : Cond.instanceMethod yX12_firstAt ∈ wsL_law := ch_41 _ (List.mem_of_getElem? (i := 1) rfl)
theorem m_41_2 : Cond.selects RX12 yX12_firstAt yX12_firstAt ∈ wsL_law := ch_41 _ (List.mem_of_getElem? (i := 2) rfl)
theorem m_41_3 : Cond.code yX12_firstAt cX12_firstAt 5 (some .int) ∈ wsL_law := ch_41 _ (List.mem_of_getElem? (i := 3) rfl)
theorem m_41_8 : Cond.methodLink RX12 415 yX12_comes ∈ wsL_law := ch_41 _ (List.mem_of_getElem? (i := 8) rfl)
theorem m_41_9 : Cond.instanceMethod yX12_comes ∈ wsL_law := ch_41 _ (List.mem_of_getElem? (i := 9) rfl)
theorem m_41_10 : Cond.selects RX12 yX12_comes yX12_comes ∈ wsL_law := ch_41 _ (List.mem_of_getElem? (i := 10) rfl)
theorem m_41_11 : Cond.code yX12_comes cX12_comes 3 (some .int) ∈ wsL_law := ch_41 _ (List.mem_of_getElem? (i := 11) rfl)
theorem m_48_7 : Cond.constant RX12 437 (-1000000000) ∈ wsL_law := ch_48 _ (List.mem_of_getElem? (i := 7) rfl)
theorem m_48_8 : Cond.methodLink RX12 438 yX12_isBought ∈ wsL_law := ch_48 _ (List.mem_of_getElem? (i := 8) rfl)
theorem m_48_9 : Cond.instanceMethod yX12_isBought ∈ wsL_law := ch_48 _ (List.mem_of_getElem? (i := 9) rfl)
theorem m_48_10 : Cond.selects RX12 yX12_isBought yX12_isBought ∈ wsL_law := ch_48 _ (List.mem_of_getElem? (i := 10) rfl)
theorem m_48_11 : Cond.code yX12_isBought cX12_isBought 3 (some .boolean) ∈ wsL_law := ch_48 _ (List.mem_of_getElem? (i := 11) rfl)
theorem kd46_0 : (decode cX12_bundle 0 = .ok (.aload_n 0, 1)) ∧ (decode cX12_bundle 1 = .ok (.iconst 0, 1)) ∧ (decode cX12_bundle 2 = .ok (.putfield 198, 3)) ∧ (decode cX12_bundle 5 = .ok (.aload_n 0, 1)) ∧ (decode cX12_bundle 6 = .ok (.getfield 389, 3)) ∧ (decode cX12_bundle 9 = .ok (.sipush 200, 3)) ∧ (decode cX12_bundle 12 = .ok (.if_icmp .eq 58, 3)) ∧ (decode cX12_bundle 15 = .ok (.aload_n 0, 1)) ∧ (decode cX12_bundle 16 = .ok (.getfield 239, 3)) ∧ (decode cX12_bundle 19 = .ok (.sipush 400, 3)) ∧ (decode cX12_bundle 22 = .ok (.if_icmp .eq 48, 3)) ∧ (decode cX12_bundle 25 = .ok (.aload_n 0, 1)) := by decide +kernel
theorem kd46_1 : (decode cX12_bundle 26 = .ok (.iload_n 1, 1)) ∧ (decode cX12_bundle 27 = .ok (.invokevirtual 215, 3)) ∧ (decode cX12_bundle 30 = .ok (.ifCond .eq 40, 3)) ∧ (decode cX12_bundle 33 = .ok (.iload_n 2, 1)) ∧ (decode cX12_bundle 34 = .ok (.invokestatic 236, 3)) ∧ (decode cX12_bundle 37 = .ok (.ifCond .eq 33, 3)) ∧ (decode cX12_bundle 40 = .ok (.iload_n 3, 1)) ∧ (decode cX12_bundle 41 = .ok (.invokestatic 219, 3)) ∧ (decode cX12_bundle 44 = .ok (.ifCond .eq 26, 3)) ∧ (decode cX12_bundle 47 = .ok (.iload 4, 2)) ∧ (decode cX12_bundle 49 = .ok (.iconst 1, 1)) ∧ (decode cX12_bundle 50 = .ok (.sipush 1000, 3)) := by decide +kernel
theorem kd46_2 : (decode cX12_bundle 53 = .ok (.invokestatic 211, 3)) ∧ (decode cX12_bundle 56 = .ok (.ifCond .eq 14, 3)) ∧ (decode cX12_bundle 59 = .ok (.iload 5, 2)) ∧ (decode cX12_bundle 61 = .ok (.iconst 4, 1)) ∧ (decode cX12_bundle 62 = .ok (.bipush 20, 2)) ∧ (decode cX12_bundle 64 = .ok (.invokestatic 211, 3)) ∧ (decode cX12_bundle 67 = .ok (.ifCond .ne 5, 3)) ∧ (decode cX12_bundle 70 = .ok (.iconst (-1), 1)) ∧ (decode cX12_bundle 71 = .ok (.ireturn, 1)) ∧ (decode cX12_bundle 72 = .ok (.aload_n 0, 1)) ∧ (decode cX12_bundle 73 = .ok (.iload_n 1, 1)) ∧ (decode cX12_bundle 74 = .ok (.iload_n 2, 1)) := by decide +kernel
theorem kd46_3 : (decode cX12_bundle 75 = .ok (.iload_n 3, 1)) ∧ (decode cX12_bundle 76 = .ok (.iload 4, 2)) ∧ (decode cX12_bundle 78 = .ok (.iload 5, 2)) ∧ (decode cX12_bundle 80 = .ok (.aload_n 0, 1)) ∧ (decode cX12_bundle 81 = .ok (.getfield 239, 3)) ∧ (decode cX12_bundle 84 = .ok (.invokevirtual 385, 3)) ∧ (decode cX12_bundle 87 = .ok (.aload_n 0, 1)) ∧ (decode cX12_bundle 88 = .ok (.aload_n 0, 1)) ∧ (decode cX12_bundle 89 = .ok (.getfield 239, 3)) ∧ (decode cX12_bundle 92 = .ok (.invokevirtual 392, 3)) ∧ (decode cX12_bundle 95 = .ok (.istore 6, 2)) ∧ (decode cX12_bundle 97 = .ok (.iload 4, 2)) := by decide +kernel
theorem kd46_4 : (decode cX12_bundle 99 = .ok (.aload_n 0, 1)) ∧ (decode cX12_bundle 100 = .ok (.iload 6, 2)) ∧ (decode cX12_bundle 102 = .ok (.iconst 0, 1)) ∧ (decode cX12_bundle 103 = .ok (.invokevirtual 395, 3)) ∧ (decode cX12_bundle 106 = .ok (.invokestatic 399, 3)) ∧ (decode cX12_bundle 109 = .ok (.istore 7, 2)) ∧ (decode cX12_bundle 111 = .ok (.iload 4, 2)) ∧ (decode cX12_bundle 113 = .ok (.aload_n 0, 1)) ∧ (decode cX12_bundle 114 = .ok (.iload 6, 2)) ∧ (decode cX12_bundle 116 = .ok (.iconst 3, 1)) ∧ (decode cX12_bundle 117 = .ok (.invokevirtual 395, 3)) ∧ (decode cX12_bundle 120 = .ok (.if_icmp .gt 23, 3)) := by decide +kernel
theorem kd46_5 : (decode cX12_bundle 123 = .ok (.aload_n 0, 1)) ∧ (decode cX12_bundle 124 = .ok (.getfield 22, 3)) ∧ (decode cX12_bundle 127 = .ok (.iload_n 1, 1)) ∧ (decode cX12_bundle 128 = .ok (.iaload, 1)) ∧ (decode cX12_bundle 129 = .ok (.iload 7, 2)) ∧ (decode cX12_bundle 131 = .ok (.isub, 1)) ∧ (decode cX12_bundle 132 = .ok (.aload_n 0, 1)) ∧ (decode cX12_bundle 133 = .ok (.iload 6, 2)) ∧ (decode cX12_bundle 135 = .ok (.iconst 5, 1)) ∧ (decode cX12_bundle 136 = .ok (.invokevirtual 395, 3)) ∧ (decode cX12_bundle 139 = .ok (.ineg, 1)) ∧ (decode cX12_bundle 140 = .ok (.if_icmp .ge 5, 3)) := by decide +kernel
theorem kd46_6 : (decode cX12_bundle 143 = .ok (.iconst (-1), 1)) ∧ (decode cX12_bundle 144 = .ok (.ireturn, 1)) ∧ (decode cX12_bundle 145 = .ok (.aload_n 0, 1)) ∧ (decode cX12_bundle 146 = .ok (.getfield 22, 3)) ∧ (decode cX12_bundle 149 = .ok (.iload_n 1, 1)) ∧ (decode cX12_bundle 150 = .ok (.dup2, 1)) ∧ (decode cX12_bundle 151 = .ok (.iaload, 1)) ∧ (decode cX12_bundle 152 = .ok (.iload 7, 2)) ∧ (decode cX12_bundle 154 = .ok (.isub, 1)) ∧ (decode cX12_bundle 155 = .ok (.iastore, 1)) ∧ (decode cX12_bundle 156 = .ok (.aload_n 0, 1)) ∧ (decode cX12_bundle 157 = .ok (.getfield 90, 3)) := by decide +kernel
theorem kd46_7 : (decode cX12_bundle 160 = .ok (.aload_n 0, 1)) ∧ (decode cX12_bundle 161 = .ok (.getfield 389, 3)) ∧ (decode cX12_bundle 164 = .ok (.iload_n 1, 1)) ∧ (decode cX12_bundle 165 = .ok (.iastore, 1)) ∧ (decode cX12_bundle 166 = .ok (.aload_n 0, 1)) ∧ (decode cX12_bundle 167 = .ok (.getfield 93, 3)) ∧ (decode cX12_bundle 170 = .ok (.aload_n 0, 1)) ∧ (decode cX12_bundle 171 = .ok (.getfield 389, 3)) ∧ (decode cX12_bundle 174 = .ok (.iload_n 2, 1)) ∧ (decode cX12_bundle 175 = .ok (.iastore, 1)) ∧ (decode cX12_bundle 176 = .ok (.aload_n 0, 1)) ∧ (decode cX12_bundle 177 = .ok (.getfield 96, 3)) := by decide +kernel
theorem kd46_8 : (decode cX12_bundle 180 = .ok (.aload_n 0, 1)) ∧ (decode cX12_bundle 181 = .ok (.getfield 389, 3)) ∧ (decode cX12_bundle 184 = .ok (.iload_n 3, 1)) ∧ (decode cX12_bundle 185 = .ok (.iastore, 1)) ∧ (decode cX12_bundle 186 = .ok (.aload_n 0, 1)) ∧ (decode cX12_bundle 187 = .ok (.getfield 99, 3)) ∧ (decode cX12_bundle 190 = .ok (.aload_n 0, 1)) ∧ (decode cX12_bundle 191 = .ok (.getfield 389, 3)) ∧ (decode cX12_bundle 194 = .ok (.iload 4, 2)) ∧ (decode cX12_bundle 196 = .ok (.iastore, 1)) ∧ (decode cX12_bundle 197 = .ok (.aload_n 0, 1)) ∧ (decode cX12_bundle 198 = .ok (.getfield 102, 3)) := by decide +kernel
theorem kd46_9 : (decode cX12_bundle 201 = .ok (.aload_n 0, 1)) ∧ (decode cX12_bundle 202 = .ok (.getfield 389, 3)) ∧ (decode cX12_bundle 205 = .ok (.iload 5, 2)) ∧ (decode cX12_bundle 207 = .ok (.iastore, 1)) ∧ (decode cX12_bundle 208 = .ok (.aload_n 0, 1)) ∧ (decode cX12_bundle 209 = .ok (.getfield 105, 3)) ∧ (decode cX12_bundle 212 = .ok (.aload_n 0, 1)) ∧ (decode cX12_bundle 213 = .ok (.getfield 389, 3)) ∧ (decode cX12_bundle 216 = .ok (.aload_n 0, 1)) ∧ (decode cX12_bundle 217 = .ok (.getfield 239, 3)) ∧ (decode cX12_bundle 220 = .ok (.iastore, 1)) ∧ (decode cX12_bundle 221 = .ok (.aload_n 0, 1)) := by decide +kernel
theorem kd46_10 : (decode cX12_bundle 222 = .ok (.getfield 108, 3)) ∧ (decode cX12_bundle 225 = .ok (.aload_n 0, 1)) ∧ (decode cX12_bundle 226 = .ok (.getfield 389, 3)) ∧ (decode cX12_bundle 229 = .ok (.iload 7, 2)) ∧ (decode cX12_bundle 231 = .ok (.iastore, 1)) ∧ (decode cX12_bundle 232 = .ok (.aload_n 0, 1)) ∧ (decode cX12_bundle 233 = .ok (.dup, 1)) ∧ (decode cX12_bundle 234 = .ok (.getfield 389, 3)) ∧ (decode cX12_bundle 237 = .ok (.iconst 1, 1)) ∧ (decode cX12_bundle 238 = .ok (.iadd, 1)) ∧ (decode cX12_bundle 239 = .ok (.putfield 389, 3)) ∧ (decode cX12_bundle 242 = .ok (.aload_n 0, 1)) := by decide +kernel
theorem kd46_11 : (decode cX12_bundle 243 = .ok (.getfield 389, 3)) ∧ (decode cX12_bundle 246 = .ok (.iconst 1, 1)) ∧ (decode cX12_bundle 247 = .ok (.isub, 1)) ∧ (decode cX12_bundle 248 = .ok (.ireturn, 1)) ∧ (decode cX12_close 0 = .ok (.aload_n 0, 1)) ∧ (decode cX12_close 1 = .ok (.iconst 0, 1)) ∧ (decode cX12_close 2 = .ok (.putfield 198, 3)) ∧ (decode cX12_close 5 = .ok (.aload_n 0, 1)) ∧ (decode cX12_close 6 = .ok (.getfield 239, 3)) ∧ (decode cX12_close 9 = .ok (.sipush 400, 3)) ∧ (decode cX12_close 12 = .ok (.if_icmp .ne 5, 3)) ∧ (decode cX12_close 15 = .ok (.iconst (-1), 1)) := by decide +kernel
theorem kd46_12 : (decode cX12_close 16 = .ok (.ireturn, 1)) ∧ (decode cX12_close 17 = .ok (.aload_n 0, 1)) ∧ (decode cX12_close 18 = .ok (.aload_n 0, 1)) ∧ (decode cX12_close 19 = .ok (.getfield 239, 3)) ∧ (decode cX12_close 22 = .ok (.invokevirtual 392, 3)) ∧ (decode cX12_close 25 = .ok (.istore_n 1, 1)) ∧ (decode cX12_close 26 = .ok (.aload_n 0, 1)) ∧ (decode cX12_close 27 = .ok (.aload_n 0, 1)) ∧ (decode cX12_close 28 = .ok (.getfield 239, 3)) ∧ (decode cX12_close 31 = .ok (.iload_n 1, 1)) ∧ (decode cX12_close 32 = .ok (.invokevirtual 412, 3)) ∧ (decode cX12_close 35 = .ok (.iconst 0, 1)) := by decide +kernel
theorem kd46_13 : (decode cX12_close 36 = .ok (.istore_n 2, 1)) ∧ (decode cX12_close 37 = .ok (.iconst 0, 1)) ∧ (decode cX12_close 38 = .ok (.istore_n 3, 1)) ∧ (decode cX12_close 39 = .ok (.iload_n 3, 1)) ∧ (decode cX12_close 40 = .ok (.aload_n 0, 1)) ∧ (decode cX12_close 41 = .ok (.getfield 389, 3)) ∧ (decode cX12_close 44 = .ok (.if_icmp .ge 104, 3)) ∧ (decode cX12_close 47 = .ok (.aload_n 0, 1)) ∧ (decode cX12_close 48 = .ok (.getfield 105, 3)) ∧ (decode cX12_close 51 = .ok (.iload_n 3, 1)) ∧ (decode cX12_close 52 = .ok (.iaload, 1)) ∧ (decode cX12_close 53 = .ok (.aload_n 0, 1)) := by decide +kernel
theorem kd46_14 : (decode cX12_close 54 = .ok (.getfield 239, 3)) ∧ (decode cX12_close 57 = .ok (.if_icmp .eq 6, 3)) ∧ (decode cX12_close 60 = .ok (.goto 82, 3)) ∧ (decode cX12_close 63 = .ok (.aload_n 0, 1)) ∧ (decode cX12_close 64 = .ok (.getfield 111, 3)) ∧ (decode cX12_close 67 = .ok (.iload_n 3, 1)) ∧ (decode cX12_close 68 = .ok (.aload_n 0, 1)) ∧ (decode cX12_close 69 = .ok (.getfield 123, 3)) ∧ (decode cX12_close 72 = .ok (.iload_n 3, 1)) ∧ (decode cX12_close 73 = .ok (.iaload, 1)) ∧ (decode cX12_close 74 = .ok (.iastore, 1)) ∧ (decode cX12_close 75 = .ok (.aload_n 0, 1)) := by decide +kernel
theorem kd46_15 : (decode cX12_close 76 = .ok (.getfield 114, 3)) ∧ (decode cX12_close 79 = .ok (.iload_n 3, 1)) ∧ (decode cX12_close 80 = .ok (.aload_n 0, 1)) ∧ (decode cX12_close 81 = .ok (.getfield 126, 3)) ∧ (decode cX12_close 84 = .ok (.iload_n 3, 1)) ∧ (decode cX12_close 85 = .ok (.iaload, 1)) ∧ (decode cX12_close 86 = .ok (.iastore, 1)) ∧ (decode cX12_close 87 = .ok (.aload_n 0, 1)) ∧ (decode cX12_close 88 = .ok (.getfield 117, 3)) ∧ (decode cX12_close 91 = .ok (.iload_n 3, 1)) ∧ (decode cX12_close 92 = .ok (.aload_n 0, 1)) ∧ (decode cX12_close 93 = .ok (.getfield 99, 3)) := by decide +kernel
theorem kd46_16 : (decode cX12_close 96 = .ok (.iload_n 3, 1)) ∧ (decode cX12_close 97 = .ok (.iaload, 1)) ∧ (decode cX12_close 98 = .ok (.aload_n 0, 1)) ∧ (decode cX12_close 99 = .ok (.getfield 111, 3)) ∧ (decode cX12_close 102 = .ok (.iload_n 3, 1)) ∧ (decode cX12_close 103 = .ok (.iaload, 1)) ∧ (decode cX12_close 104 = .ok (.isub, 1)) ∧ (decode cX12_close 105 = .ok (.aload_n 0, 1)) ∧ (decode cX12_close 106 = .ok (.getfield 114, 3)) ∧ (decode cX12_close 109 = .ok (.iload_n 3, 1)) ∧ (decode cX12_close 110 = .ok (.iaload, 1)) ∧ (decode cX12_close 111 = .ok (.isub, 1)) := by decide +kernel
theorem kd46_17 : (decode cX12_close 112 = .ok (.iastore, 1)) ∧ (decode cX12_close 113 = .ok (.aload_n 0, 1)) ∧ (decode cX12_close 114 = .ok (.getfield 22, 3)) ∧ (decode cX12_close 117 = .ok (.aload_n 0, 1)) ∧ (decode cX12_close 118 = .ok (.getfield 90, 3)) ∧ (decode cX12_close 121 = .ok (.iload_n 3, 1)) ∧ (decode cX12_close 122 = .ok (.iaload, 1)) ∧ (decode cX12_close 123 = .ok (.dup2, 1)) ∧ (decode cX12_close 124 = .ok (.iaload, 1)) ∧ (decode cX12_close 125 = .ok (.aload_n 0, 1)) ∧ (decode cX12_close 126 = .ok (.iload_n 3, 1)) ∧ (decode cX12_close 127 = .ok (.iload_n 1, 1)) := by decide +kernel
theorem kd46_18 : (decode cX12_close 128 = .ok (.invokevirtual 415, 3)) ∧ (decode cX12_close 131 = .ok (.iadd, 1)) ∧ (decode cX12_close 132 = .ok (.iastore, 1)) ∧ (decode cX12_close 133 = .ok (.iload_n 2, 1)) ∧ (decode cX12_close 134 = .ok (.aload_n 0, 1)) ∧ (decode cX12_close 135 = .ok (.getfield 111, 3)) ∧ (decode cX12_close 138 = .ok (.iload_n 3, 1)) ∧ (decode cX12_close 139 = .ok (.iaload, 1)) ∧ (decode cX12_close 140 = .ok (.iadd, 1)) ∧ (decode cX12_close 141 = .ok (.istore_n 2, 1)) ∧ (decode cX12_close 142 = .ok (.iinc 3 1, 3)) ∧ (decode cX12_close 145 = .ok (.goto (-106), 3)) := by decide +kernel
theorem kd46_19 : (decode cX12_close 148 = .ok (.aload_n 0, 1)) ∧ (decode cX12_close 149 = .ok (.dup, 1)) ∧ (decode cX12_close 150 = .ok (.getfield 239, 3)) ∧ (decode cX12_close 153 = .ok (.iconst 1, 1)) ∧ (decode cX12_close 154 = .ok (.iadd, 1)) ∧ (decode cX12_close 155 = .ok (.putfield 239, 3)) ∧ (decode cX12_close 158 = .ok (.iload_n 2, 1)) ∧ (decode cX12_close 159 = .ok (.ireturn, 1)) ∧ (decode cX12_comes 0 = .ok (.aload_n 0, 1)) ∧ (decode cX12_comes 1 = .ok (.iload_n 1, 1)) ∧ (decode cX12_comes 2 = .ok (.invokevirtual 402, 3)) ∧ (decode cX12_comes 5 = .ok (.aload_n 0, 1)) := by decide +kernel
theorem kd46_20 : (decode cX12_comes 6 = .ok (.getfield 123, 3)) ∧ (decode cX12_comes 9 = .ok (.iload_n 1, 1)) ∧ (decode cX12_comes 10 = .ok (.iaload, 1)) ∧ (decode cX12_comes 11 = .ok (.aload_n 0, 1)) ∧ (decode cX12_comes 12 = .ok (.iload_n 2, 1)) ∧ (decode cX12_comes 13 = .ok (.iconst 1, 1)) ∧ (decode cX12_comes 14 = .ok (.invokevirtual 395, 3)) ∧ (decode cX12_comes 17 = .ok (.imul, 1)) ∧ (decode cX12_comes 18 = .ok (.aload_n 0, 1)) ∧ (decode cX12_comes 19 = .ok (.getfield 126, 3)) ∧ (decode cX12_comes 22 = .ok (.iload_n 1, 1)) ∧ (decode cX12_comes 23 = .ok (.iaload, 1)) := by decide +kernel
theorem kd46_21 : (decode cX12_comes 24 = .ok (.aload_n 0, 1)) ∧ (decode cX12_comes 25 = .ok (.iload_n 2, 1)) ∧ (decode cX12_comes 26 = .ok (.iconst 0, 1)) ∧ (decode cX12_comes 27 = .ok (.invokevirtual 395, 3)) ∧ (decode cX12_comes 30 = .ok (.imul, 1)) ∧ (decode cX12_comes 31 = .ok (.bipush 100, 2)) ∧ (decode cX12_comes 33 = .ok (.idiv, 1)) ∧ (decode cX12_comes 34 = .ok (.iadd, 1)) ∧ (decode cX12_comes 35 = .ok (.ireturn, 1)) ∧ (decode cX12_cry 0 = .ok (.iconst 0, 1)) ∧ (decode cX12_cry 1 = .ok (.istore_n 3, 1)) ∧ (decode cX12_cry 2 = .ok (.iload_n 3, 1)) := by decide +kernel
theorem kd46_22 : (decode cX12_cry 3 = .ok (.aload_n 0, 1)) ∧ (decode cX12_cry 4 = .ok (.getfield 389, 3)) ∧ (decode cX12_cry 7 = .ok (.if_icmp .ge 68, 3)) ∧ (decode cX12_cry 10 = .ok (.aload_n 0, 1)) ∧ (decode cX12_cry 11 = .ok (.getfield 129, 3)) ∧ (decode cX12_cry 14 = .ok (.iload_n 3, 1)) ∧ (decode cX12_cry 15 = .ok (.aload_n 0, 1)) ∧ (decode cX12_cry 16 = .ok (.getfield 105, 3)) ∧ (decode cX12_cry 19 = .ok (.iload_n 3, 1)) ∧ (decode cX12_cry 20 = .ok (.iaload, 1)) ∧ (decode cX12_cry 21 = .ok (.iload_n 1, 1)) ∧ (decode cX12_cry 22 = .ok (.if_icmp .eq 7, 3)) := by decide +kernel
theorem kd46_23 : (decode cX12_cry 25 = .ok (.iconst 1, 1)) ∧ (decode cX12_cry 26 = .ok (.goto 4, 3)) ∧ (decode cX12_cry 29 = .ok (.iconst 0, 1)) ∧ (decode cX12_cry 30 = .ok (.bastore, 1)) ∧ (decode cX12_cry 31 = .ok (.aload_n 0, 1)) ∧ (decode cX12_cry 32 = .ok (.getfield 129, 3)) ∧ (decode cX12_cry 35 = .ok (.iload_n 3, 1)) ∧ (decode cX12_cry 36 = .ok (.baload, 1)) ∧ (decode cX12_cry 37 = .ok (.ifCond .eq 6, 3)) ∧ (decode cX12_cry 40 = .ok (.goto 29, 3)) ∧ (decode cX12_cry 43 = .ok (.aload_n 0, 1)) ∧ (decode cX12_cry 44 = .ok (.iload_n 3, 1)) := by decide +kernel
theorem kd46_24 : (decode cX12_cry 45 = .ok (.invokevirtual 402, 3)) ∧ (decode cX12_cry 48 = .ok (.aload_n 0, 1)) ∧ (decode cX12_cry 49 = .ok (.getfield 132, 3)) ∧ (decode cX12_cry 52 = .ok (.iload_n 3, 1)) ∧ (decode cX12_cry 53 = .ok (.aload_n 0, 1)) ∧ (decode cX12_cry 54 = .ok (.iload_n 2, 1)) ∧ (decode cX12_cry 55 = .ok (.iconst 4, 1)) ∧ (decode cX12_cry 56 = .ok (.invokevirtual 395, 3)) ∧ (decode cX12_cry 59 = .ok (.iconst 1, 1)) ∧ (decode cX12_cry 60 = .ok (.if_icmp .ne 7, 3)) ∧ (decode cX12_cry 63 = .ok (.iconst 1, 1)) ∧ (decode cX12_cry 64 = .ok (.goto 4, 3)) := by decide +kernel
theorem kd46_25 : (decode cX12_cry 67 = .ok (.iconst 0, 1)) ∧ (decode cX12_cry 68 = .ok (.bastore, 1)) ∧ (decode cX12_cry 69 = .ok (.iinc 3 1, 3)) ∧ (decode cX12_cry 72 = .ok (.goto (-70), 3)) ∧ (decode cX12_cry 75 = .ok (.iconst 0, 1)) ∧ (decode cX12_cry 76 = .ok (.istore_n 3, 1)) ∧ (decode cX12_cry 77 = .ok (.iload_n 3, 1)) ∧ (decode cX12_cry 78 = .ok (.bipush 10, 2)) ∧ (decode cX12_cry 80 = .ok (.if_icmp .ge 191, 3)) ∧ (decode cX12_cry 83 = .ok (.iconst 0, 1)) ∧ (decode cX12_cry 84 = .ok (.istore 4, 2)) ∧ (decode cX12_cry 86 = .ok (.iload 4, 2)) := by decide +kernel
theorem kd46_26 : (decode cX12_cry 88 = .ok (.iconst 4, 1)) ∧ (decode cX12_cry 89 = .ok (.if_icmp .ge 176, 3)) ∧ (decode cX12_cry 92 = .ok (.aload_n 0, 1)) ∧ (decode cX12_cry 93 = .ok (.iload_n 3, 1)) ∧ (decode cX12_cry 94 = .ok (.iload 4, 2)) ∧ (decode cX12_cry 96 = .ok (.aload_n 0, 1)) ∧ (decode cX12_cry 97 = .ok (.iload_n 1, 1)) ∧ (decode cX12_cry 98 = .ok (.invokevirtual 232, 3)) ∧ (decode cX12_cry 101 = .ok (.aload_n 0, 1)) ∧ (decode cX12_cry 102 = .ok (.getfield 35, 3)) ∧ (decode cX12_cry 105 = .ok (.sipush 400, 3)) ∧ (decode cX12_cry 108 = .ok (.iload 4, 2)) := by decide +kernel
theorem kd46_27 : (decode cX12_cry 110 = .ok (.imul, 1)) ∧ (decode cX12_cry 111 = .ok (.iload_n 1, 1)) ∧ (decode cX12_cry 112 = .ok (.iadd, 1)) ∧ (decode cX12_cry 113 = .ok (.iaload, 1)) ∧ (decode cX12_cry 114 = .ok (.invokevirtual 242, 3)) ∧ (decode cX12_cry 117 = .ok (.istore 5, 2)) ∧ (decode cX12_cry 119 = .ok (.aload_n 0, 1)) ∧ (decode cX12_cry 120 = .ok (.iload_n 3, 1)) ∧ (decode cX12_cry 121 = .ok (.iload 4, 2)) ∧ (decode cX12_cry 123 = .ok (.invokevirtual 405, 3)) ∧ (decode cX12_cry 126 = .ok (.istore 6, 2)) ∧ (decode cX12_cry 128 = .ok (.iload 6, 2)) := by decide +kernel
theorem kd46_28 : (decode cX12_cry 130 = .ok (.iconst (-1), 1)) ∧ (decode cX12_cry 131 = .ok (.if_icmp .eq 128, 3)) ∧ (decode cX12_cry 134 = .ok (.aload_n 0, 1)) ∧ (decode cX12_cry 135 = .ok (.getfield 129, 3)) ∧ (decode cX12_cry 138 = .ok (.iload 6, 2)) ∧ (decode cX12_cry 140 = .ok (.iconst 1, 1)) ∧ (decode cX12_cry 141 = .ok (.bastore, 1)) ∧ (decode cX12_cry 142 = .ok (.aload_n 0, 1)) ∧ (decode cX12_cry 143 = .ok (.getfield 132, 3)) ∧ (decode cX12_cry 146 = .ok (.iload 6, 2)) ∧ (decode cX12_cry 148 = .ok (.baload, 1)) ∧ (decode cX12_cry 149 = .ok (.ifCond .ne 7, 3)) := by decide +kernel
theorem kd46_29 : (decode cX12_cry 152 = .ok (.iconst 0, 1)) ∧ (decode cX12_cry 153 = .ok (.goto 27, 3)) ∧ (decode cX12_cry 156 = .ok (.aload_n 0, 1)) ∧ (decode cX12_cry 157 = .ok (.getfield 99, 3)) ∧ (decode cX12_cry 160 = .ok (.iload 6, 2)) ∧ (decode cX12_cry 162 = .ok (.iaload, 1)) ∧ (decode cX12_cry 163 = .ok (.iload 5, 2)) ∧ (decode cX12_cry 165 = .ok (.if_icmp .ge 13, 3)) ∧ (decode cX12_cry 168 = .ok (.aload_n 0, 1)) ∧ (decode cX12_cry 169 = .ok (.getfield 99, 3)) ∧ (decode cX12_cry 172 = .ok (.iload 6, 2)) ∧ (decode cX12_cry 174 = .ok (.iaload, 1)) := by decide +kernel
theorem kd46_30 : (decode cX12_cry 175 = .ok (.goto 5, 3)) ∧ (decode cX12_cry 178 = .ok (.iload 5, 2)) ∧ (decode cX12_cry 180 = .ok (.istore 7, 2)) ∧ (decode cX12_cry 182 = .ok (.iload 5, 2)) ∧ (decode cX12_cry 184 = .ok (.iload 7, 2)) ∧ (decode cX12_cry 186 = .ok (.isub, 1)) ∧ (decode cX12_cry 187 = .ok (.istore 5, 2)) ∧ (decode cX12_cry 189 = .ok (.aload_n 0, 1)) ∧ (decode cX12_cry 190 = .ok (.getfield 123, 3)) ∧ (decode cX12_cry 193 = .ok (.iload 6, 2)) ∧ (decode cX12_cry 195 = .ok (.iload 7, 2)) ∧ (decode cX12_cry 197 = .ok (.iastore, 1)) := by decide +kernel
theorem kd46_31 : (decode cX12_cry 198 = .ok (.aload_n 0, 1)) ∧ (decode cX12_cry 199 = .ok (.iload 6, 2)) ∧ (decode cX12_cry 201 = .ok (.invokevirtual 402, 3)) ∧ (decode cX12_cry 204 = .ok (.aload_n 0, 1)) ∧ (decode cX12_cry 205 = .ok (.iload_n 2, 1)) ∧ (decode cX12_cry 206 = .ok (.iconst 2, 1)) ∧ (decode cX12_cry 207 = .ok (.invokevirtual 395, 3)) ∧ (decode cX12_cry 210 = .ok (.istore 8, 2)) ∧ (decode cX12_cry 212 = .ok (.aload_n 0, 1)) ∧ (decode cX12_cry 213 = .ok (.getfield 126, 3)) ∧ (decode cX12_cry 216 = .ok (.iload 6, 2)) ∧ (decode cX12_cry 218 = .ok (.aload_n 0, 1)) := by decide +kernel
theorem kd46_32 : (decode cX12_cry 219 = .ok (.getfield 99, 3)) ∧ (decode cX12_cry 222 = .ok (.iload 6, 2)) ∧ (decode cX12_cry 224 = .ok (.iaload, 1)) ∧ (decode cX12_cry 225 = .ok (.iload 7, 2)) ∧ (decode cX12_cry 227 = .ok (.isub, 1)) ∧ (decode cX12_cry 228 = .ok (.iload 8, 2)) ∧ (decode cX12_cry 230 = .ok (.bipush 100, 2)) ∧ (decode cX12_cry 232 = .ok (.if_icmp .le 8, 3)) ∧ (decode cX12_cry 235 = .ok (.bipush 100, 2)) ∧ (decode cX12_cry 237 = .ok (.goto 5, 3)) ∧ (decode cX12_cry 240 = .ok (.iload 8, 2)) ∧ (decode cX12_cry 242 = .ok (.imul, 1)) := by decide +kernel
theorem kd46_33 : (decode cX12_cry 243 = .ok (.bipush 100, 2)) ∧ (decode cX12_cry 245 = .ok (.idiv, 1)) ∧ (decode cX12_cry 246 = .ok (.iastore, 1)) ∧ (decode cX12_cry 247 = .ok (.aload_n 0, 1)) ∧ (decode cX12_cry 248 = .ok (.iload_n 3, 1)) ∧ (decode cX12_cry 249 = .ok (.iload 4, 2)) ∧ (decode cX12_cry 251 = .ok (.invokevirtual 405, 3)) ∧ (decode cX12_cry 254 = .ok (.istore 6, 2)) ∧ (decode cX12_cry 256 = .ok (.goto (-128), 3)) ∧ (decode cX12_cry 259 = .ok (.iinc 4 1, 3)) ∧ (decode cX12_cry 262 = .ok (.goto (-176), 3)) ∧ (decode cX12_cry 265 = .ok (.iinc 3 1, 3)) := by decide +kernel
theorem kd46_34 : (decode cX12_cry 268 = .ok (.goto (-191), 3)) ∧ (decode cX12_cry 271 = .ok (.return_, 1)) ∧ (decode cX12_holds 0 = .ok (.iconst 0, 1)) ∧ (decode cX12_holds 1 = .ok (.istore 4, 2)) ∧ (decode cX12_holds 3 = .ok (.iload_n 2, 1)) ∧ (decode cX12_holds 4 = .ok (.istore 5, 2)) ∧ (decode cX12_holds 6 = .ok (.iload 5, 2)) ∧ (decode cX12_holds 8 = .ok (.iload_n 3, 1)) ∧ (decode cX12_holds 9 = .ok (.if_icmp .ge 275, 3)) ∧ (decode cX12_holds 12 = .ok (.bipush 120, 2)) ∧ (decode cX12_holds 14 = .ok (.iload_n 1, 1)) ∧ (decode cX12_holds 15 = .ok (.imul, 1)) := by decide +kernel
theorem kd46_35 : (decode cX12_holds 16 = .ok (.iload 5, 2)) ∧ (decode cX12_holds 18 = .ok (.iadd, 1)) ∧ (decode cX12_holds 19 = .ok (.istore 6, 2)) ∧ (decode cX12_holds 21 = .ok (.aload_n 0, 1)) ∧ (decode cX12_holds 22 = .ok (.getfield 68, 3)) ∧ (decode cX12_holds 25 = .ok (.iload 6, 2)) ∧ (decode cX12_holds 27 = .ok (.iaload, 1)) ∧ (decode cX12_holds 28 = .ok (.istore 7, 2)) ∧ (decode cX12_holds 30 = .ok (.iload 7, 2)) ∧ (decode cX12_holds 32 = .ok (.bipush 12, 2)) ∧ (decode cX12_holds 34 = .ok (.if_icmp .ne 32, 3)) ∧ (decode cX12_holds 37 = .ok (.aload_n 0, 1)) := by decide +kernel
theorem kd46_36 : (decode cX12_holds 38 = .ok (.getfield 83, 3)) ∧ (decode cX12_holds 41 = .ok (.iload 4, 2)) ∧ (decode cX12_holds 43 = .ok (.iconst 1, 1)) ∧ (decode cX12_holds 44 = .ok (.isub, 1)) ∧ (decode cX12_holds 45 = .ok (.aload_n 0, 1)) ∧ (decode cX12_holds 46 = .ok (.getfield 83, 3)) ∧ (decode cX12_holds 49 = .ok (.iload 4, 2)) ∧ (decode cX12_holds 51 = .ok (.iconst 1, 1)) ∧ (decode cX12_holds 52 = .ok (.isub, 1)) ∧ (decode cX12_holds 53 = .ok (.baload, 1)) ∧ (decode cX12_holds 54 = .ok (.ifCond .ne 7, 3)) ∧ (decode cX12_holds 57 = .ok (.iconst 1, 1)) := by decide +kernel
theorem kd46_37 : (decode cX12_holds 58 = .ok (.goto 4, 3)) ∧ (decode cX12_holds 61 = .ok (.iconst 0, 1)) ∧ (decode cX12_holds 62 = .ok (.bastore, 1)) ∧ (decode cX12_holds 63 = .ok (.goto 215, 3)) ∧ (decode cX12_holds 66 = .ok (.iload 7, 2)) ∧ (decode cX12_holds 68 = .ok (.bipush 13, 2)) ∧ (decode cX12_holds 70 = .ok (.if_icmp .eq 10, 3)) ∧ (decode cX12_holds 73 = .ok (.iload 7, 2)) ∧ (decode cX12_holds 75 = .ok (.bipush 14, 2)) ∧ (decode cX12_holds 77 = .ok (.if_icmp .ne 82, 3)) ∧ (decode cX12_holds 80 = .ok (.iinc 4 (-1), 3)) ∧ (decode cX12_holds 83 = .ok (.aload_n 0, 1)) := by decide +kernel
theorem kd46_38 : (decode cX12_holds 84 = .ok (.getfield 83, 3)) ∧ (decode cX12_holds 87 = .ok (.iload 4, 2)) ∧ (decode cX12_holds 89 = .ok (.iconst 1, 1)) ∧ (decode cX12_holds 90 = .ok (.isub, 1)) ∧ (decode cX12_holds 91 = .ok (.iload 7, 2)) ∧ (decode cX12_holds 93 = .ok (.bipush 13, 2)) ∧ (decode cX12_holds 95 = .ok (.if_icmp .ne 33, 3)) ∧ (decode cX12_holds 98 = .ok (.aload_n 0, 1)) ∧ (decode cX12_holds 99 = .ok (.getfield 83, 3)) ∧ (decode cX12_holds 102 = .ok (.iload 4, 2)) ∧ (decode cX12_holds 104 = .ok (.iconst 1, 1)) ∧ (decode cX12_holds 105 = .ok (.isub, 1)) := by decide +kernel
theorem kd46_39 : (decode cX12_holds 106 = .ok (.baload, 1)) ∧ (decode cX12_holds 107 = .ok (.ifCond .eq 17, 3)) ∧ (decode cX12_holds 110 = .ok (.aload_n 0, 1)) ∧ (decode cX12_holds 111 = .ok (.getfield 83, 3)) ∧ (decode cX12_holds 114 = .ok (.iload 4, 2)) ∧ (decode cX12_holds 116 = .ok (.baload, 1)) ∧ (decode cX12_holds 117 = .ok (.ifCond .eq 7, 3)) ∧ (decode cX12_holds 120 = .ok (.iconst 1, 1)) ∧ (decode cX12_holds 121 = .ok (.goto 34, 3)) ∧ (decode cX12_holds 124 = .ok (.iconst 0, 1)) ∧ (decode cX12_holds 125 = .ok (.goto 30, 3)) ∧ (decode cX12_holds 128 = .ok (.aload_n 0, 1)) := by decide +kernel
theorem kd46_40 : (decode cX12_holds 129 = .ok (.getfield 83, 3)) ∧ (decode cX12_holds 132 = .ok (.iload 4, 2)) ∧ (decode cX12_holds 134 = .ok (.iconst 1, 1)) ∧ (decode cX12_holds 135 = .ok (.isub, 1)) ∧ (decode cX12_holds 136 = .ok (.baload, 1)) ∧ (decode cX12_holds 137 = .ok (.ifCond .ne 13, 3)) ∧ (decode cX12_holds 140 = .ok (.aload_n 0, 1)) ∧ (decode cX12_holds 141 = .ok (.getfield 83, 3)) ∧ (decode cX12_holds 144 = .ok (.iload 4, 2)) ∧ (decode cX12_holds 146 = .ok (.baload, 1)) ∧ (decode cX12_holds 147 = .ok (.ifCond .eq 7, 3)) ∧ (decode cX12_holds 150 = .ok (.iconst 1, 1)) := by decide +kernel
theorem kd46_41 : (decode cX12_holds 151 = .ok (.goto 4, 3)) ∧ (decode cX12_holds 154 = .ok (.iconst 0, 1)) ∧ (decode cX12_holds 155 = .ok (.bastore, 1)) ∧ (decode cX12_holds 156 = .ok (.goto 122, 3)) ∧ (decode cX12_holds 159 = .ok (.aload_n 0, 1)) ∧ (decode cX12_holds 160 = .ok (.getfield 80, 3)) ∧ (decode cX12_holds 163 = .ok (.iload 7, 2)) ∧ (decode cX12_holds 165 = .ok (.iaload, 1)) ∧ (decode cX12_holds 166 = .ok (.istore 8, 2)) ∧ (decode cX12_holds 168 = .ok (.aload_n 0, 1)) ∧ (decode cX12_holds 169 = .ok (.getfield 71, 3)) ∧ (decode cX12_holds 172 = .ok (.iload 6, 2)) := by decide +kernel
theorem kd46_42 : (decode cX12_holds 174 = .ok (.iaload, 1)) ∧ (decode cX12_holds 175 = .ok (.istore 9, 2)) ∧ (decode cX12_holds 177 = .ok (.aload_n 0, 1)) ∧ (decode cX12_holds 178 = .ok (.getfield 83, 3)) ∧ (decode cX12_holds 181 = .ok (.iload 4, 2)) ∧ (decode cX12_holds 183 = .ok (.iload 7, 2)) ∧ (decode cX12_holds 185 = .ok (.iconst 3, 1)) ∧ (decode cX12_holds 186 = .ok (.if_icmp .ge 17, 3)) ∧ (decode cX12_holds 189 = .ok (.iload 8, 2)) ∧ (decode cX12_holds 191 = .ok (.iconst 1, 1)) ∧ (decode cX12_holds 192 = .ok (.if_icmp .ne 7, 3)) ∧ (decode cX12_holds 195 = .ok (.iconst 1, 1)) := by decide +kernel
theorem kd46_43 : (decode cX12_holds 196 = .ok (.goto 78, 3)) ∧ (decode cX12_holds 199 = .ok (.iconst 0, 1)) ∧ (decode cX12_holds 200 = .ok (.goto 74, 3)) ∧ (decode cX12_holds 203 = .ok (.iload 9, 2)) ∧ (decode cX12_holds 205 = .ok (.bipush 60, 2)) ∧ (decode cX12_holds 207 = .ok (.if_icmp .ne 23, 3)) ∧ (decode cX12_holds 210 = .ok (.iload 8, 2)) ∧ (decode cX12_holds 212 = .ok (.aload_n 0, 1)) ∧ (decode cX12_holds 213 = .ok (.getfield 74, 3)) ∧ (decode cX12_holds 216 = .ok (.iload 6, 2)) ∧ (decode cX12_holds 218 = .ok (.iaload, 1)) ∧ (decode cX12_holds 219 = .ok (.if_icmp .ge 7, 3)) := by decide +kernel
theorem kd46_44 : (decode cX12_holds 222 = .ok (.iconst 1, 1)) ∧ (decode cX12_holds 223 = .ok (.goto 51, 3)) ∧ (decode cX12_holds 226 = .ok (.iconst 0, 1)) ∧ (decode cX12_holds 227 = .ok (.goto 47, 3)) ∧ (decode cX12_holds 230 = .ok (.iload 9, 2)) ∧ (decode cX12_holds 232 = .ok (.bipush 61, 2)) ∧ (decode cX12_holds 234 = .ok (.if_icmp .ne 23, 3)) ∧ (decode cX12_holds 237 = .ok (.iload 8, 2)) ∧ (decode cX12_holds 239 = .ok (.aload_n 0, 1)) ∧ (decode cX12_holds 240 = .ok (.getfield 74, 3)) ∧ (decode cX12_holds 243 = .ok (.iload 6, 2)) ∧ (decode cX12_holds 245 = .ok (.iaload, 1)) := by decide +kernel
theorem kd46_45 : (decode cX12_holds 246 = .ok (.if_icmp .ne 7, 3)) ∧ (decode cX12_holds 249 = .ok (.iconst 1, 1)) ∧ (decode cX12_holds 250 = .ok (.goto 24, 3)) ∧ (decode cX12_holds 253 = .ok (.iconst 0, 1)) ∧ (decode cX12_holds 254 = .ok (.goto 20, 3)) ∧ (decode cX12_holds 257 = .ok (.iload 8, 2)) ∧ (decode cX12_holds 259 = .ok (.aload_n 0, 1)) ∧ (decode cX12_holds 260 = .ok (.getfield 74, 3)) ∧ (decode cX12_holds 263 = .ok (.iload 6, 2)) ∧ (decode cX12_holds 265 = .ok (.iaload, 1)) ∧ (decode cX12_holds 266 = .ok (.if_icmp .le 7, 3)) ∧ (decode cX12_holds 269 = .ok (.iconst 1, 1)) := by decide +kernel
theorem kd46_46 : (decode cX12_holds 270 = .ok (.goto 4, 3)) ∧ (decode cX12_holds 273 = .ok (.iconst 0, 1)) ∧ (decode cX12_holds 274 = .ok (.bastore, 1)) ∧ (decode cX12_holds 275 = .ok (.iinc 4 1, 3)) ∧ (decode cX12_holds 278 = .ok (.iinc 5 1, 3)) ∧ (decode cX12_holds 281 = .ok (.goto (-275), 3)) ∧ (decode cX12_holds 284 = .ok (.iload 4, 2)) ∧ (decode cX12_holds 286 = .ok (.ifCond .eq 12, 3)) ∧ (decode cX12_holds 289 = .ok (.aload_n 0, 1)) ∧ (decode cX12_holds 290 = .ok (.getfield 83, 3)) ∧ (decode cX12_holds 293 = .ok (.iconst 0, 1)) ∧ (decode cX12_holds 294 = .ok (.baload, 1)) := by decide +kernel
theorem kd46_47 : (decode cX12_holds 295 = .ok (.ifCond .eq 7, 3)) ∧ (decode cX12_holds 298 = .ok (.iconst 1, 1)) ∧ (decode cX12_holds 299 = .ok (.goto 4, 3)) ∧ (decode cX12_holds 302 = .ok (.iconst 0, 1)) ∧ (decode cX12_holds 303 = .ok (.ireturn, 1)) ∧ (decode cX12_readLine 0 = .ok (.aload_n 0, 1)) ∧ (decode cX12_readLine 1 = .ok (.invokevirtual 358, 3)) ∧ (decode cX12_readLine 4 = .ok (.istore_n 1, 1)) ∧ (decode cX12_readLine 5 = .ok (.iload_n 1, 1)) ∧ (decode cX12_readLine 6 = .ok (.iconst (-1), 1)) ∧ (decode cX12_readLine 7 = .ok (.if_icmp .ne 9, 3)) ∧ (decode cX12_readLine 10 = .ok (.aload_n 0, 1)) := by decide +kernel
theorem kd46_48 : (decode cX12_readLine 11 = .ok (.iconst 1, 1)) ∧ (decode cX12_readLine 12 = .ok (.invokevirtual 333, 3)) ∧ (decode cX12_readLine 15 = .ok (.ireturn, 1)) ∧ (decode cX12_readLine 16 = .ok (.aload_n 0, 1)) ∧ (decode cX12_readLine 17 = .ok (.getfield 361, 3)) ∧ (decode cX12_readLine 20 = .ok (.bipush 16, 2)) ∧ (decode cX12_readLine 22 = .ok (.if_icmp .eq 18, 3)) ∧ (decode cX12_readLine 25 = .ok (.iload_n 1, 1)) ∧ (decode cX12_readLine 26 = .ok (.iconst 5, 1)) ∧ (decode cX12_readLine 27 = .ok (.if_icmp .ne 19, 3)) ∧ (decode cX12_readLine 30 = .ok (.aload_n 0, 1)) ∧ (decode cX12_readLine 31 = .ok (.getfield 364, 3)) := by decide +kernel
theorem kd46_49 : (decode cX12_readLine 34 = .ok (.iconst 1, 1)) ∧ (decode cX12_readLine 35 = .ok (.iand, 1)) ∧ (decode cX12_readLine 36 = .ok (.iconst 1, 1)) ∧ (decode cX12_readLine 37 = .ok (.if_icmp .ne 9, 3)) ∧ (decode cX12_readLine 40 = .ok (.aload_n 0, 1)) ∧ (decode cX12_readLine 41 = .ok (.iconst 3, 1)) ∧ (decode cX12_readLine 42 = .ok (.invokevirtual 333, 3)) ∧ (decode cX12_readLine 45 = .ok (.ireturn, 1)) ∧ (decode cX12_readLine 46 = .ok (.sipush 160, 3)) ∧ (decode cX12_readLine 49 = .ok (.aload_n 0, 1)) ∧ (decode cX12_readLine 50 = .ok (.getfield 361, 3)) ∧ (decode cX12_readLine 53 = .ok (.iadd, 1)) := by decide +kernel
theorem kd46_50 : (decode cX12_readLine 54 = .ok (.istore_n 2, 1)) ∧ (decode cX12_readLine 55 = .ok (.aload_n 0, 1)) ∧ (decode cX12_readLine 56 = .ok (.getfield 56, 3)) ∧ (decode cX12_readLine 59 = .ok (.iload_n 2, 1)) ∧ (decode cX12_readLine 60 = .ok (.iload_n 1, 1)) ∧ (decode cX12_readLine 61 = .ok (.iastore, 1)) ∧ (decode cX12_readLine 62 = .ok (.aload_n 0, 1)) ∧ (decode cX12_readLine 63 = .ok (.getfield 59, 3)) ∧ (decode cX12_readLine 66 = .ok (.iload_n 2, 1)) ∧ (decode cX12_readLine 67 = .ok (.iconst 1, 1)) ∧ (decode cX12_readLine 68 = .ok (.iastore, 1)) ∧ (decode cX12_readLine 69 = .ok (.aload_n 0, 1)) := by decide +kernel
theorem kd46_51 : (decode cX12_readLine 70 = .ok (.getfield 62, 3)) ∧ (decode cX12_readLine 73 = .ok (.iload_n 2, 1)) ∧ (decode cX12_readLine 74 = .ok (.aload_n 0, 1)) ∧ (decode cX12_readLine 75 = .ok (.getfield 313, 3)) ∧ (decode cX12_readLine 78 = .ok (.iastore, 1)) ∧ (decode cX12_readLine 79 = .ok (.iload_n 1, 1)) ∧ (decode cX12_readLine 80 = .ok (.iconst 5, 1)) ∧ (decode cX12_readLine 81 = .ok (.if_icmp .ne 8, 3)) ∧ (decode cX12_readLine 84 = .ok (.aload_n 0, 1)) ∧ (decode cX12_readLine 85 = .ok (.iconst 1, 1)) ∧ (decode cX12_readLine 86 = .ok (.putfield 364, 3)) ∧ (decode cX12_readLine 89 = .ok (.aload_n 0, 1)) := by decide +kernel
theorem kd46_52 : (decode cX12_readLine 90 = .ok (.invokevirtual 342, 3)) ∧ (decode cX12_readLine 93 = .ok (.iload_n 1, 1)) ∧ (decode cX12_readLine 94 = .ok (.iconst 4, 1)) ∧ (decode cX12_readLine 95 = .ok (.if_icmp .ne 24, 3)) ∧ (decode cX12_readLine 98 = .ok (.aload_n 0, 1)) ∧ (decode cX12_readLine 99 = .ok (.invokevirtual 326, 3)) ∧ (decode cX12_readLine 102 = .ok (.ifCond .eq 61, 3)) ∧ (decode cX12_readLine 105 = .ok (.aload_n 0, 1)) ∧ (decode cX12_readLine 106 = .ok (.getfield 59, 3)) ∧ (decode cX12_readLine 109 = .ok (.iload_n 2, 1)) ∧ (decode cX12_readLine 110 = .ok (.iconst 0, 1)) ∧ (decode cX12_readLine 111 = .ok (.iastore, 1)) := by decide +kernel
theorem kd46_53 : (decode cX12_readLine 112 = .ok (.aload_n 0, 1)) ∧ (decode cX12_readLine 113 = .ok (.invokevirtual 342, 3)) ∧ (decode cX12_readLine 116 = .ok (.goto 47, 3)) ∧ (decode cX12_readLine 119 = .ok (.aload_n 0, 1)) ∧ (decode cX12_readLine 120 = .ok (.getfield 262, 3)) ∧ (decode cX12_readLine 123 = .ok (.iconst 3, 1)) ∧ (decode cX12_readLine 124 = .ok (.if_icmp .eq 9, 3)) ∧ (decode cX12_readLine 127 = .ok (.aload_n 0, 1)) ∧ (decode cX12_readLine 128 = .ok (.iconst 1, 1)) ∧ (decode cX12_readLine 129 = .ok (.invokevirtual 333, 3)) ∧ (decode cX12_readLine 132 = .ok (.ireturn, 1)) ∧ (decode cX12_readLine 133 = .ok (.aload_n 0, 1)) := by decide +kernel
theorem kd46_54 : (decode cX12_readLine 134 = .ok (.getfield 281, 3)) ∧ (decode cX12_readLine 137 = .ok (.sipush 1000, 3)) ∧ (decode cX12_readLine 140 = .ok (.if_icmp .le 9, 3)) ∧ (decode cX12_readLine 143 = .ok (.aload_n 0, 1)) ∧ (decode cX12_readLine 144 = .ok (.iconst 2, 1)) ∧ (decode cX12_readLine 145 = .ok (.invokevirtual 333, 3)) ∧ (decode cX12_readLine 148 = .ok (.ireturn, 1)) ∧ (decode cX12_readLine 149 = .ok (.aload_n 0, 1)) ∧ (decode cX12_readLine 150 = .ok (.getfield 59, 3)) ∧ (decode cX12_readLine 153 = .ok (.iload_n 2, 1)) ∧ (decode cX12_readLine 154 = .ok (.aload_n 0, 1)) ∧ (decode cX12_readLine 155 = .ok (.getfield 281, 3)) := by decide +kernel
theorem kd46_55 : (decode cX12_readLine 158 = .ok (.iastore, 1)) ∧ (decode cX12_readLine 159 = .ok (.aload_n 0, 1)) ∧ (decode cX12_readLine 160 = .ok (.invokevirtual 342, 3)) ∧ (decode cX12_readLine 163 = .ok (.iload_n 1, 1)) ∧ (decode cX12_readLine 164 = .ok (.iconst 5, 1)) ∧ (decode cX12_readLine 165 = .ok (.if_icmp .eq 33, 3)) ∧ (decode cX12_readLine 168 = .ok (.aload_n 0, 1)) ∧ (decode cX12_readLine 169 = .ok (.bipush 105, 2)) ∧ (decode cX12_readLine 171 = .ok (.bipush 102, 2)) ∧ (decode cX12_readLine 173 = .ok (.iconst 0, 1)) ∧ (decode cX12_readLine 174 = .ok (.iconst 0, 1)) ∧ (decode cX12_readLine 175 = .ok (.iconst 0, 1)) := by decide +kernel
theorem kd46_56 : (decode cX12_readLine 176 = .ok (.invokestatic 297, 3)) ∧ (decode cX12_readLine 179 = .ok (.invokevirtual 301, 3)) ∧ (decode cX12_readLine 182 = .ok (.ifCond .eq 16, 3)) ∧ (decode cX12_readLine 185 = .ok (.aload_n 0, 1)) ∧ (decode cX12_readLine 186 = .ok (.invokevirtual 342, 3)) ∧ (decode cX12_readLine 189 = .ok (.aload_n 0, 1)) ∧ (decode cX12_readLine 190 = .ok (.invokevirtual 367, 3)) ∧ (decode cX12_readLine 193 = .ok (.ifCond .ne 5, 3)) ∧ (decode cX12_readLine 196 = .ok (.iconst 0, 1)) ∧ (decode cX12_readLine 197 = .ok (.ireturn, 1)) ∧ (decode cX12_readLine 198 = .ok (.aload_n 0, 1)) ∧ (decode cX12_readLine 199 = .ok (.getfield 65, 3)) := by decide +kernel
theorem kd46_57 : (decode cX12_readLine 202 = .ok (.iload_n 2, 1)) ∧ (decode cX12_readLine 203 = .ok (.aload_n 0, 1)) ∧ (decode cX12_readLine 204 = .ok (.getfield 313, 3)) ∧ (decode cX12_readLine 207 = .ok (.iastore, 1)) ∧ (decode cX12_readLine 208 = .ok (.aload_n 0, 1)) ∧ (decode cX12_readLine 209 = .ok (.dup, 1)) ∧ (decode cX12_readLine 210 = .ok (.getfield 361, 3)) ∧ (decode cX12_readLine 213 = .ok (.iconst 1, 1)) ∧ (decode cX12_readLine 214 = .ok (.iadd, 1)) ∧ (decode cX12_readLine 215 = .ok (.putfield 361, 3)) ∧ (decode cX12_readLine 218 = .ok (.aload_n 0, 1)) ∧ (decode cX12_readLine 219 = .ok (.bipush 59, 2)) := by decide +kernel
theorem kd46_58 : (decode cX12_readLine 221 = .ok (.invokevirtual 330, 3)) ∧ (decode cX12_readLine 224 = .ok (.ifCond .ne 11, 3)) ∧ (decode cX12_readLine 227 = .ok (.aload_n 0, 1)) ∧ (decode cX12_readLine 228 = .ok (.iconst 1, 1)) ∧ (decode cX12_readLine 229 = .ok (.invokevirtual 333, 3)) ∧ (decode cX12_readLine 232 = .ok (.ifCond .eq 7, 3)) ∧ (decode cX12_readLine 235 = .ok (.iconst 1, 1)) ∧ (decode cX12_readLine 236 = .ok (.goto 4, 3)) ∧ (decode cX12_readLine 239 = .ok (.iconst 0, 1)) ∧ (decode cX12_readLine 240 = .ok (.ireturn, 1)) ∧ (decode cX12_readTerms 0 = .ok (.aload_n 0, 1)) ∧ (decode cX12_readTerms 1 = .ok (.iload_n 1, 1)) := by decide +kernel
theorem kd46_59 : (decode cX12_readTerms 2 = .ok (.putfield 253, 3)) ∧ (decode cX12_readTerms 5 = .ok (.aload_n 0, 1)) ∧ (decode cX12_readTerms 6 = .ok (.iconst 0, 1)) ∧ (decode cX12_readTerms 7 = .ok (.putfield 291, 3)) ∧ (decode cX12_readTerms 10 = .ok (.aload_n 0, 1)) ∧ (decode cX12_readTerms 11 = .ok (.iconst 0, 1)) ∧ (decode cX12_readTerms 12 = .ok (.putfield 364, 3)) ∧ (decode cX12_readTerms 15 = .ok (.aload_n 0, 1)) ∧ (decode cX12_readTerms 16 = .ok (.iconst 0, 1)) ∧ (decode cX12_readTerms 17 = .ok (.putfield 361, 3)) ∧ (decode cX12_readTerms 20 = .ok (.aload_n 0, 1)) ∧ (decode cX12_readTerms 21 = .ok (.iconst 0, 1)) := by decide +kernel
theorem kd46_60 : (decode cX12_readTerms 22 = .ok (.putfield 313, 3)) ∧ (decode cX12_readTerms 25 = .ok (.aload_n 0, 1)) ∧ (decode cX12_readTerms 26 = .ok (.iconst 0, 1)) ∧ (decode cX12_readTerms 27 = .ok (.putfield 336, 3)) ∧ (decode cX12_readTerms 30 = .ok (.aload_n 0, 1)) ∧ (decode cX12_readTerms 31 = .ok (.iconst 0, 1)) ∧ (decode cX12_readTerms 32 = .ok (.putfield 339, 3)) ∧ (decode cX12_readTerms 35 = .ok (.aload_n 0, 1)) ∧ (decode cX12_readTerms 36 = .ok (.iconst 0, 1)) ∧ (decode cX12_readTerms 37 = .ok (.putfield 256, 3)) ∧ (decode cX12_readTerms 40 = .ok (.aload_n 0, 1)) ∧ (decode cX12_readTerms 41 = .ok (.invokevirtual 342, 3)) := by decide +kernel
theorem kd46_61 : (decode cX12_readTerms 44 = .ok (.aload_n 0, 1)) ∧ (decode cX12_readTerms 45 = .ok (.getfield 262, 3)) ∧ (decode cX12_readTerms 48 = .ok (.ifCond .eq 19, 3)) ∧ (decode cX12_readTerms 51 = .ok (.aload_n 0, 1)) ∧ (decode cX12_readTerms 52 = .ok (.invokevirtual 370, 3)) ∧ (decode cX12_readTerms 55 = .ok (.ifCond .ne 5, 3)) ∧ (decode cX12_readTerms 58 = .ok (.iconst 0, 1)) ∧ (decode cX12_readTerms 59 = .ok (.ireturn, 1)) ∧ (decode cX12_readTerms 60 = .ok (.aload_n 0, 1)) ∧ (decode cX12_readTerms 61 = .ok (.invokevirtual 342, 3)) ∧ (decode cX12_readTerms 64 = .ok (.goto (-20), 3)) ∧ (decode cX12_readTerms 67 = .ok (.aload_n 0, 1)) := by decide +kernel
theorem kd46_62 : (decode cX12_readTerms 68 = .ok (.getfield 50, 3)) ∧ (decode cX12_readTerms 71 = .ok (.bipush 10, 2)) ∧ (decode cX12_readTerms 73 = .ok (.aload_n 0, 1)) ∧ (decode cX12_readTerms 74 = .ok (.getfield 361, 3)) ∧ (decode cX12_readTerms 77 = .ok (.iastore, 1)) ∧ (decode cX12_readTerms 78 = .ok (.iconst 1, 1)) ∧ (decode cX12_readTerms 79 = .ok (.ireturn, 1)) ∧ (decode cX12_tells 0 = .ok (.aload_n 0, 1)) ∧ (decode cX12_tells 1 = .ok (.iconst (-1), 1)) ∧ (decode cX12_tells 2 = .ok (.putfield 86, 3)) ∧ (decode cX12_tells 5 = .ok (.iconst 0, 1)) ∧ (decode cX12_tells 6 = .ok (.istore_n 3, 1)) := by decide +kernel
theorem kd46_63 : (decode cX12_tells 7 = .ok (.iload_n 1, 1)) ∧ (decode cX12_tells 8 = .ok (.iconst (-1), 1)) ∧ (decode cX12_tells 9 = .ok (.if_icmp .eq 76, 3)) ∧ (decode cX12_tells 12 = .ok (.iload_n 3, 1)) ∧ (decode cX12_tells 13 = .ok (.aload_n 0, 1)) ∧ (decode cX12_tells 14 = .ok (.getfield 50, 3)) ∧ (decode cX12_tells 17 = .ok (.iload_n 1, 1)) ∧ (decode cX12_tells 18 = .ok (.iaload, 1)) ∧ (decode cX12_tells 19 = .ok (.if_icmp .ge 66, 3)) ∧ (decode cX12_tells 22 = .ok (.bipush 16, 2)) ∧ (decode cX12_tells 24 = .ok (.iload_n 1, 1)) ∧ (decode cX12_tells 25 = .ok (.imul, 1)) := by decide +kernel
theorem kd46_64 : (decode cX12_tells 26 = .ok (.iload_n 3, 1)) ∧ (decode cX12_tells 27 = .ok (.iadd, 1)) ∧ (decode cX12_tells 28 = .ok (.istore 4, 2)) ∧ (decode cX12_tells 30 = .ok (.aload_n 0, 1)) ∧ (decode cX12_tells 31 = .ok (.getfield 56, 3)) ∧ (decode cX12_tells 34 = .ok (.iload 4, 2)) ∧ (decode cX12_tells 36 = .ok (.iaload, 1)) ∧ (decode cX12_tells 37 = .ok (.iload_n 2, 1)) ∧ (decode cX12_tells 38 = .ok (.if_icmp .ne 41, 3)) ∧ (decode cX12_tells 41 = .ok (.aload_n 0, 1)) ∧ (decode cX12_tells 42 = .ok (.iload_n 1, 1)) ∧ (decode cX12_tells 43 = .ok (.aload_n 0, 1)) := by decide +kernel
theorem kd46_65 : (decode cX12_tells 44 = .ok (.getfield 62, 3)) ∧ (decode cX12_tells 47 = .ok (.iload 4, 2)) ∧ (decode cX12_tells 49 = .ok (.iaload, 1)) ∧ (decode cX12_tells 50 = .ok (.aload_n 0, 1)) ∧ (decode cX12_tells 51 = .ok (.getfield 65, 3)) ∧ (decode cX12_tells 54 = .ok (.iload 4, 2)) ∧ (decode cX12_tells 56 = .ok (.iaload, 1)) ∧ (decode cX12_tells 57 = .ok (.invokevirtual 379, 3)) ∧ (decode cX12_tells 60 = .ok (.ifCond .ne 6, 3)) ∧ (decode cX12_tells 63 = .ok (.goto 16, 3)) ∧ (decode cX12_tells 66 = .ok (.aload_n 0, 1)) ∧ (decode cX12_tells 67 = .ok (.iload_n 3, 1)) := by decide +kernel
theorem kd46_66 : (decode cX12_tells 68 = .ok (.putfield 86, 3)) ∧ (decode cX12_tells 71 = .ok (.aload_n 0, 1)) ∧ (decode cX12_tells 72 = .ok (.getfield 59, 3)) ∧ (decode cX12_tells 75 = .ok (.iload 4, 2)) ∧ (decode cX12_tells 77 = .ok (.iaload, 1)) ∧ (decode cX12_tells 78 = .ok (.ireturn, 1)) ∧ (decode cX12_tells 79 = .ok (.iinc 3 1, 3)) ∧ (decode cX12_tells 82 = .ok (.goto (-75), 3)) ∧ (decode cX12_tells 85 = .ok (.iload_n 2, 1)) ∧ (decode cX12_tells 86 = .ok (.invokestatic 382, 3)) ∧ (decode cX12_tells 89 = .ok (.ireturn, 1)) ∧ (decode cX12_terms 0 = .ok (.aload_n 0, 1)) := by decide +kernel
theorem kd46_67 : (decode cX12_terms 1 = .ok (.iconst 0, 1)) ∧ (decode cX12_terms 2 = .ok (.putfield 198, 3)) ∧ (decode cX12_terms 5 = .ok (.aload_n 0, 1)) ∧ (decode cX12_terms 6 = .ok (.invokevirtual 222, 3)) ∧ (decode cX12_terms 9 = .ok (.istore_n 2, 1)) ∧ (decode cX12_terms 10 = .ok (.aload_n 0, 1)) ∧ (decode cX12_terms 11 = .ok (.getfield 373, 3)) ∧ (decode cX12_terms 14 = .ok (.bipush 10, 2)) ∧ (decode cX12_terms 16 = .ok (.if_icmp .eq 17, 3)) ∧ (decode cX12_terms 19 = .ok (.iload_n 1, 1)) ∧ (decode cX12_terms 20 = .ok (.aload_n 0, 1)) ∧ (decode cX12_terms 21 = .ok (.getfield 239, 3)) := by decide +kernel
theorem kd46_68 : (decode cX12_terms 24 = .ok (.sipush 399, 3)) ∧ (decode cX12_terms 27 = .ok (.invokestatic 211, 3)) ∧ (decode cX12_terms 30 = .ok (.ifCond .ne 7, 3)) ∧ (decode cX12_terms 33 = .ok (.sipush (-1000), 3)) ∧ (decode cX12_terms 36 = .ok (.ireturn, 1)) ∧ (decode cX12_terms 37 = .ok (.aload_n 0, 1)) ∧ (decode cX12_terms 38 = .ok (.iload_n 2, 1)) ∧ (decode cX12_terms 39 = .ok (.invokevirtual 376, 3)) ∧ (decode cX12_terms 42 = .ok (.ifCond .ne 10, 3)) ∧ (decode cX12_terms 45 = .ok (.iconst (-1), 1)) ∧ (decode cX12_terms 46 = .ok (.aload_n 0, 1)) ∧ (decode cX12_terms 47 = .ok (.getfield 294, 3)) := by decide +kernel
theorem kd46_69 : (decode cX12_terms 50 = .ok (.isub, 1)) ∧ (decode cX12_terms 51 = .ok (.ireturn, 1)) ∧ (decode cX12_terms 52 = .ok (.aload_n 0, 1)) ∧ (decode cX12_terms 53 = .ok (.getfield 50, 3)) ∧ (decode cX12_terms 56 = .ok (.aload_n 0, 1)) ∧ (decode cX12_terms 57 = .ok (.getfield 373, 3)) ∧ (decode cX12_terms 60 = .ok (.aload_n 0, 1)) ∧ (decode cX12_terms 61 = .ok (.getfield 361, 3)) ∧ (decode cX12_terms 64 = .ok (.iastore, 1)) ∧ (decode cX12_terms 65 = .ok (.aload_n 0, 1)) ∧ (decode cX12_terms 66 = .ok (.getfield 53, 3)) ∧ (decode cX12_terms 69 = .ok (.aload_n 0, 1)) := by decide +kernel
theorem kd46_70 : (decode cX12_terms 70 = .ok (.getfield 373, 3)) ∧ (decode cX12_terms 73 = .ok (.iload_n 1, 1)) ∧ (decode cX12_terms 74 = .ok (.iastore, 1)) ∧ (decode cX12_terms 75 = .ok (.iconst 0, 1)) ∧ (decode cX12_terms 76 = .ok (.istore_n 3, 1)) ∧ (decode cX12_terms 77 = .ok (.iload_n 3, 1)) ∧ (decode cX12_terms 78 = .ok (.aload_n 0, 1)) ∧ (decode cX12_terms 79 = .ok (.getfield 361, 3)) ∧ (decode cX12_terms 82 = .ok (.if_icmp .ge 105, 3)) ∧ (decode cX12_terms 85 = .ok (.aload_n 0, 1)) ∧ (decode cX12_terms 86 = .ok (.getfield 56, 3)) ∧ (decode cX12_terms 89 = .ok (.bipush 16, 2)) := by decide +kernel
theorem kd46_71 : (decode cX12_terms 91 = .ok (.aload_n 0, 1)) ∧ (decode cX12_terms 92 = .ok (.getfield 373, 3)) ∧ (decode cX12_terms 95 = .ok (.imul, 1)) ∧ (decode cX12_terms 96 = .ok (.iload_n 3, 1)) ∧ (decode cX12_terms 97 = .ok (.iadd, 1)) ∧ (decode cX12_terms 98 = .ok (.aload_n 0, 1)) ∧ (decode cX12_terms 99 = .ok (.getfield 56, 3)) ∧ (decode cX12_terms 102 = .ok (.sipush 160, 3)) ∧ (decode cX12_terms 105 = .ok (.iload_n 3, 1)) ∧ (decode cX12_terms 106 = .ok (.iadd, 1)) ∧ (decode cX12_terms 107 = .ok (.iaload, 1)) ∧ (decode cX12_terms 108 = .ok (.iastore, 1)) := by decide +kernel
theorem kd46_72 : (decode cX12_terms 109 = .ok (.aload_n 0, 1)) ∧ (decode cX12_terms 110 = .ok (.getfield 59, 3)) ∧ (decode cX12_terms 113 = .ok (.bipush 16, 2)) ∧ (decode cX12_terms 115 = .ok (.aload_n 0, 1)) ∧ (decode cX12_terms 116 = .ok (.getfield 373, 3)) ∧ (decode cX12_terms 119 = .ok (.imul, 1)) ∧ (decode cX12_terms 120 = .ok (.iload_n 3, 1)) ∧ (decode cX12_terms 121 = .ok (.iadd, 1)) ∧ (decode cX12_terms 122 = .ok (.aload_n 0, 1)) ∧ (decode cX12_terms 123 = .ok (.getfield 59, 3)) ∧ (decode cX12_terms 126 = .ok (.sipush 160, 3)) ∧ (decode cX12_terms 129 = .ok (.iload_n 3, 1)) := by decide +kernel
theorem kd46_73 : (decode cX12_terms 130 = .ok (.iadd, 1)) ∧ (decode cX12_terms 131 = .ok (.iaload, 1)) ∧ (decode cX12_terms 132 = .ok (.iastore, 1)) ∧ (decode cX12_terms 133 = .ok (.aload_n 0, 1)) ∧ (decode cX12_terms 134 = .ok (.getfield 62, 3)) ∧ (decode cX12_terms 137 = .ok (.bipush 16, 2)) ∧ (decode cX12_terms 139 = .ok (.aload_n 0, 1)) ∧ (decode cX12_terms 140 = .ok (.getfield 373, 3)) ∧ (decode cX12_terms 143 = .ok (.imul, 1)) ∧ (decode cX12_terms 144 = .ok (.iload_n 3, 1)) ∧ (decode cX12_terms 145 = .ok (.iadd, 1)) ∧ (decode cX12_terms 146 = .ok (.aload_n 0, 1)) := by decide +kernel
theorem kd46_74 : (decode cX12_terms 147 = .ok (.getfield 62, 3)) ∧ (decode cX12_terms 150 = .ok (.sipush 160, 3)) ∧ (decode cX12_terms 153 = .ok (.iload_n 3, 1)) ∧ (decode cX12_terms 154 = .ok (.iadd, 1)) ∧ (decode cX12_terms 155 = .ok (.iaload, 1)) ∧ (decode cX12_terms 156 = .ok (.iastore, 1)) ∧ (decode cX12_terms 157 = .ok (.aload_n 0, 1)) ∧ (decode cX12_terms 158 = .ok (.getfield 65, 3)) ∧ (decode cX12_terms 161 = .ok (.bipush 16, 2)) ∧ (decode cX12_terms 163 = .ok (.aload_n 0, 1)) ∧ (decode cX12_terms 164 = .ok (.getfield 373, 3)) ∧ (decode cX12_terms 167 = .ok (.imul, 1)) := by decide +kernel
theorem kd46_75 : (decode cX12_terms 168 = .ok (.iload_n 3, 1)) ∧ (decode cX12_terms 169 = .ok (.iadd, 1)) ∧ (decode cX12_terms 170 = .ok (.aload_n 0, 1)) ∧ (decode cX12_terms 171 = .ok (.getfield 65, 3)) ∧ (decode cX12_terms 174 = .ok (.sipush 160, 3)) ∧ (decode cX12_terms 177 = .ok (.iload_n 3, 1)) ∧ (decode cX12_terms 178 = .ok (.iadd, 1)) ∧ (decode cX12_terms 179 = .ok (.iaload, 1)) ∧ (decode cX12_terms 180 = .ok (.iastore, 1)) ∧ (decode cX12_terms 181 = .ok (.iinc 3 1, 3)) ∧ (decode cX12_terms 184 = .ok (.goto (-107), 3)) ∧ (decode cX12_terms 187 = .ok (.iconst 0, 1)) := by decide +kernel
theorem kd46_76 : (decode cX12_terms 188 = .ok (.istore_n 3, 1)) ∧ (decode cX12_terms 189 = .ok (.iload_n 3, 1)) ∧ (decode cX12_terms 190 = .ok (.aload_n 0, 1)) ∧ (decode cX12_terms 191 = .ok (.getfield 313, 3)) ∧ (decode cX12_terms 194 = .ok (.if_icmp .ge 81, 3)) ∧ (decode cX12_terms 197 = .ok (.aload_n 0, 1)) ∧ (decode cX12_terms 198 = .ok (.getfield 68, 3)) ∧ (decode cX12_terms 201 = .ok (.bipush 120, 2)) ∧ (decode cX12_terms 203 = .ok (.aload_n 0, 1)) ∧ (decode cX12_terms 204 = .ok (.getfield 373, 3)) ∧ (decode cX12_terms 207 = .ok (.imul, 1)) ∧ (decode cX12_terms 208 = .ok (.iload_n 3, 1)) := by decide +kernel
theorem kd46_77 : (decode cX12_terms 209 = .ok (.iadd, 1)) ∧ (decode cX12_terms 210 = .ok (.aload_n 0, 1)) ∧ (decode cX12_terms 211 = .ok (.getfield 68, 3)) ∧ (decode cX12_terms 214 = .ok (.sipush 1200, 3)) ∧ (decode cX12_terms 217 = .ok (.iload_n 3, 1)) ∧ (decode cX12_terms 218 = .ok (.iadd, 1)) ∧ (decode cX12_terms 219 = .ok (.iaload, 1)) ∧ (decode cX12_terms 220 = .ok (.iastore, 1)) ∧ (decode cX12_terms 221 = .ok (.aload_n 0, 1)) ∧ (decode cX12_terms 222 = .ok (.getfield 71, 3)) ∧ (decode cX12_terms 225 = .ok (.bipush 120, 2)) ∧ (decode cX12_terms 227 = .ok (.aload_n 0, 1)) := by decide +kernel
theorem kd46_78 : (decode cX12_terms 228 = .ok (.getfield 373, 3)) ∧ (decode cX12_terms 231 = .ok (.imul, 1)) ∧ (decode cX12_terms 232 = .ok (.iload_n 3, 1)) ∧ (decode cX12_terms 233 = .ok (.iadd, 1)) ∧ (decode cX12_terms 234 = .ok (.aload_n 0, 1)) ∧ (decode cX12_terms 235 = .ok (.getfield 71, 3)) ∧ (decode cX12_terms 238 = .ok (.sipush 1200, 3)) ∧ (decode cX12_terms 241 = .ok (.iload_n 3, 1)) ∧ (decode cX12_terms 242 = .ok (.iadd, 1)) ∧ (decode cX12_terms 243 = .ok (.iaload, 1)) ∧ (decode cX12_terms 244 = .ok (.iastore, 1)) ∧ (decode cX12_terms 245 = .ok (.aload_n 0, 1)) := by decide +kernel
theorem kd46_79 : (decode cX12_terms 246 = .ok (.getfield 74, 3)) ∧ (decode cX12_terms 249 = .ok (.bipush 120, 2)) ∧ (decode cX12_terms 251 = .ok (.aload_n 0, 1)) ∧ (decode cX12_terms 252 = .ok (.getfield 373, 3)) ∧ (decode cX12_terms 255 = .ok (.imul, 1)) ∧ (decode cX12_terms 256 = .ok (.iload_n 3, 1)) ∧ (decode cX12_terms 257 = .ok (.iadd, 1)) ∧ (decode cX12_terms 258 = .ok (.aload_n 0, 1)) ∧ (decode cX12_terms 259 = .ok (.getfield 74, 3)) ∧ (decode cX12_terms 262 = .ok (.sipush 1200, 3)) ∧ (decode cX12_terms 265 = .ok (.iload_n 3, 1)) ∧ (decode cX12_terms 266 = .ok (.iadd, 1)) := by decide +kernel
theorem kd46_80 : (decode cX12_terms 267 = .ok (.iaload, 1)) ∧ (decode cX12_terms 268 = .ok (.iastore, 1)) ∧ (decode cX12_terms 269 = .ok (.iinc 3 1, 3)) ∧ (decode cX12_terms 272 = .ok (.goto (-83), 3)) ∧ (decode cX12_terms 275 = .ok (.aload_n 0, 1)) ∧ (decode cX12_terms 276 = .ok (.dup, 1)) ∧ (decode cX12_terms 277 = .ok (.getfield 373, 3)) ∧ (decode cX12_terms 280 = .ok (.iconst 1, 1)) ∧ (decode cX12_terms 281 = .ok (.iadd, 1)) ∧ (decode cX12_terms 282 = .ok (.putfield 373, 3)) ∧ (decode cX12_terms 285 = .ok (.aload_n 0, 1)) ∧ (decode cX12_terms 286 = .ok (.getfield 361, 3)) := by decide +kernel
theorem kd46_81 : (decode cX12_terms 289 = .ok (.ireturn, 1)) ∧ (decode cX12_told 0 = .ok (.aload_n 0, 1)) ∧ (decode cX12_told 1 = .ok (.iconst 0, 1)) ∧ (decode cX12_told 2 = .ok (.putfield 198, 3)) ∧ (decode cX12_told 5 = .ok (.iload_n 1, 1)) ∧ (decode cX12_told 6 = .ok (.iconst 0, 1)) ∧ (decode cX12_told 7 = .ok (.aload_n 0, 1)) ∧ (decode cX12_told 8 = .ok (.getfield 389, 3)) ∧ (decode cX12_told 11 = .ok (.iconst 1, 1)) ∧ (decode cX12_told 12 = .ok (.isub, 1)) ∧ (decode cX12_told 13 = .ok (.invokestatic 211, 3)) ∧ (decode cX12_told 16 = .ok (.ifCond .eq 12, 3)) := by decide +kernel
theorem kd46_82 : (decode cX12_told 19 = .ok (.iload_n 2, 1)) ∧ (decode cX12_told 20 = .ok (.iconst 0, 1)) ∧ (decode cX12_told 21 = .ok (.iconst 5, 1)) ∧ (decode cX12_told 22 = .ok (.invokestatic 211, 3)) ∧ (decode cX12_told 25 = .ok (.ifCond .ne 5, 3)) ∧ (decode cX12_told 28 = .ok (.iconst (-1), 1)) ∧ (decode cX12_told 29 = .ok (.ireturn, 1)) ∧ (decode cX12_told 30 = .ok (.aload_n 0, 1)) ∧ (decode cX12_told 31 = .ok (.iload_n 1, 1)) ∧ (decode cX12_told 32 = .ok (.invokevirtual 402, 3)) ∧ (decode cX12_told 35 = .ok (.aload_n 0, 1)) ∧ (decode cX12_told 36 = .ok (.aload_n 0, 1)) := by decide +kernel
theorem kd46_83 : (decode cX12_told 37 = .ok (.aload_n 0, 1)) ∧ (decode cX12_told 38 = .ok (.getfield 105, 3)) ∧ (decode cX12_told 41 = .ok (.iload_n 1, 1)) ∧ (decode cX12_told 42 = .ok (.iaload, 1)) ∧ (decode cX12_told 43 = .ok (.invokevirtual 392, 3)) ∧ (decode cX12_told 46 = .ok (.iload_n 2, 1)) ∧ (decode cX12_told 47 = .ok (.invokevirtual 395, 3)) ∧ (decode cX12_told 50 = .ok (.istore_n 3, 1)) ∧ (decode cX12_told 51 = .ok (.aload_n 0, 1)) ∧ (decode cX12_told 52 = .ok (.aload_n 0, 1)) ∧ (decode cX12_told 53 = .ok (.getfield 86, 3)) ∧ (decode cX12_told 56 = .ok (.putfield 120, 3)) := by decide +kernel
theorem kd46_84 : (decode cX12_told 59 = .ok (.iload_n 2, 1)) ∧ (decode cX12_told 60 = .ok (.iconst 2, 1)) ∧ (decode cX12_told 61 = .ok (.if_icmp .ne 14, 3)) ∧ (decode cX12_told 64 = .ok (.iload_n 3, 1)) ∧ (decode cX12_told 65 = .ok (.bipush 100, 2)) ∧ (decode cX12_told 67 = .ok (.if_icmp .le 8, 3)) ∧ (decode cX12_told 70 = .ok (.bipush 100, 2)) ∧ (decode cX12_told 72 = .ok (.goto 4, 3)) ∧ (decode cX12_told 75 = .ok (.iload_n 3, 1)) ∧ (decode cX12_told 76 = .ok (.ireturn, 1)) ∧ (decode cX12_tried 0 = .ok (.aload_n 0, 1)) ∧ (decode cX12_tried 1 = .ok (.iconst 0, 1)) := by decide +kernel
theorem kd46_85 : (decode cX12_tried 2 = .ok (.putfield 198, 3)) ∧ (decode cX12_tried 5 = .ok (.aload_n 0, 1)) ∧ (decode cX12_tried 6 = .ok (.aload_n 0, 1)) ∧ (decode cX12_tried 7 = .ok (.invokevirtual 222, 3)) ∧ (decode cX12_tried 10 = .ok (.invokevirtual 376, 3)) ∧ (decode cX12_tried 13 = .ok (.ifCond .ne 12, 3)) ∧ (decode cX12_tried 16 = .ok (.ldc_w 437, 3)) ∧ (decode cX12_tried 19 = .ok (.aload_n 0, 1)) ∧ (decode cX12_tried 20 = .ok (.getfield 294, 3)) ∧ (decode cX12_tried 23 = .ok (.isub, 1)) ∧ (decode cX12_tried 24 = .ok (.ireturn, 1)) ∧ (decode cX12_tried 25 = .ok (.iconst 0, 1)) := by decide +kernel
theorem kd46_86 : (decode cX12_tried 26 = .ok (.istore_n 1, 1)) ∧ (decode cX12_tried 27 = .ok (.iconst 0, 1)) ∧ (decode cX12_tried 28 = .ok (.istore_n 2, 1)) ∧ (decode cX12_tried 29 = .ok (.iconst 0, 1)) ∧ (decode cX12_tried 30 = .ok (.istore_n 3, 1)) ∧ (decode cX12_tried 31 = .ok (.iload_n 3, 1)) ∧ (decode cX12_tried 32 = .ok (.aload_n 0, 1)) ∧ (decode cX12_tried 33 = .ok (.getfield 239, 3)) ∧ (decode cX12_tried 36 = .ok (.if_icmp .ge 114, 3)) ∧ (decode cX12_tried 39 = .ok (.aload_n 0, 1)) ∧ (decode cX12_tried 40 = .ok (.iload_n 3, 1)) ∧ (decode cX12_tried 41 = .ok (.invokevirtual 438, 3)) := by decide +kernel
theorem kd46_87 : (decode cX12_tried 44 = .ok (.ifCond .ne 6, 3)) ∧ (decode cX12_tried 47 = .ok (.goto 97, 3)) ∧ (decode cX12_tried 50 = .ok (.aload_n 0, 1)) ∧ (decode cX12_tried 51 = .ok (.iload_n 3, 1)) ∧ (decode cX12_tried 52 = .ok (.bipush 10, 2)) ∧ (decode cX12_tried 54 = .ok (.invokevirtual 412, 3)) ∧ (decode cX12_tried 57 = .ok (.iconst 0, 1)) ∧ (decode cX12_tried 58 = .ok (.istore 4, 2)) ∧ (decode cX12_tried 60 = .ok (.iload 4, 2)) ∧ (decode cX12_tried 62 = .ok (.aload_n 0, 1)) ∧ (decode cX12_tried 63 = .ok (.getfield 389, 3)) ∧ (decode cX12_tried 66 = .ok (.if_icmp .ge 78, 3)) := by decide +kernel
theorem kd46_88 : (decode cX12_tried 69 = .ok (.aload_n 0, 1)) ∧ (decode cX12_tried 70 = .ok (.getfield 105, 3)) ∧ (decode cX12_tried 73 = .ok (.iload 4, 2)) ∧ (decode cX12_tried 75 = .ok (.iaload, 1)) ∧ (decode cX12_tried 76 = .ok (.iload_n 3, 1)) ∧ (decode cX12_tried 77 = .ok (.if_icmp .eq 6, 3)) ∧ (decode cX12_tried 80 = .ok (.goto 58, 3)) ∧ (decode cX12_tried 83 = .ok (.iload_n 1, 1)) ∧ (decode cX12_tried 84 = .ok (.aload_n 0, 1)) ∧ (decode cX12_tried 85 = .ok (.iload 4, 2)) ∧ (decode cX12_tried 87 = .ok (.bipush 10, 2)) ∧ (decode cX12_tried 89 = .ok (.invokevirtual 415, 3)) := by decide +kernel
theorem kd46_89 : (decode cX12_tried 92 = .ok (.aload_n 0, 1)) ∧ (decode cX12_tried 93 = .ok (.getfield 99, 3)) ∧ (decode cX12_tried 96 = .ok (.iload 4, 2)) ∧ (decode cX12_tried 98 = .ok (.iaload, 1)) ∧ (decode cX12_tried 99 = .ok (.aload_n 0, 1)) ∧ (decode cX12_tried 100 = .ok (.bipush 10, 2)) ∧ (decode cX12_tried 102 = .ok (.iconst 0, 1)) ∧ (decode cX12_tried 103 = .ok (.invokevirtual 395, 3)) ∧ (decode cX12_tried 106 = .ok (.invokestatic 399, 3)) ∧ (decode cX12_tried 109 = .ok (.isub, 1)) ∧ (decode cX12_tried 110 = .ok (.iadd, 1)) ∧ (decode cX12_tried 111 = .ok (.istore_n 1, 1)) := by decide +kernel
theorem kd46_90 : (decode cX12_tried 112 = .ok (.iload_n 2, 1)) ∧ (decode cX12_tried 113 = .ok (.aload_n 0, 1)) ∧ (decode cX12_tried 114 = .ok (.getfield 99, 3)) ∧ (decode cX12_tried 117 = .ok (.iload 4, 2)) ∧ (decode cX12_tried 119 = .ok (.iaload, 1)) ∧ (decode cX12_tried 120 = .ok (.aload_n 0, 1)) ∧ (decode cX12_tried 121 = .ok (.getfield 123, 3)) ∧ (decode cX12_tried 124 = .ok (.iload 4, 2)) ∧ (decode cX12_tried 126 = .ok (.iaload, 1)) ∧ (decode cX12_tried 127 = .ok (.isub, 1)) ∧ (decode cX12_tried 128 = .ok (.aload_n 0, 1)) ∧ (decode cX12_tried 129 = .ok (.getfield 126, 3)) := by decide +kernel
theorem kd46_91 : (decode cX12_tried 132 = .ok (.iload 4, 2)) ∧ (decode cX12_tried 134 = .ok (.iaload, 1)) ∧ (decode cX12_tried 135 = .ok (.isub, 1)) ∧ (decode cX12_tried 136 = .ok (.iadd, 1)) ∧ (decode cX12_tried 137 = .ok (.istore_n 2, 1)) ∧ (decode cX12_tried 138 = .ok (.iinc 4 1, 3)) ∧ (decode cX12_tried 141 = .ok (.goto (-81), 3)) ∧ (decode cX12_tried 144 = .ok (.iinc 3 1, 3)) ∧ (decode cX12_tried 147 = .ok (.goto (-116), 3)) ∧ (decode cX12_tried 150 = .ok (.aload_n 0, 1)) ∧ (decode cX12_tried 151 = .ok (.iload_n 2, 1)) ∧ (decode cX12_tried 152 = .ok (.putfield 150, 3)) := by decide +kernel
theorem kd46_92 : (decode cX12_tried 155 = .ok (.iload_n 1, 1)) ∧ (decode cX12_tried 156 = .ok (.ireturn, 1)) := by decide +kernel
theorem fl_X12_123_13 : xF RX12 123 13 60 (.array .int) true := ⟨by decide, RX12, TX12, 91, tyX12, "PaperBoysModel", rfl, inlX12, tyX12_ok, nmX12, by decide, rfl, rfl, m_9_15, Or.inl rfl⟩
theorem fl_X12_126_13 : xF RX12 126 13 61 (.array .int) true := ⟨by decide, RX12, TX12, 91, tyX12, "PaperBoysModel", rfl, inlX12, tyX12_ok, nmX12, by decide, rfl, rfl, m_9_16, Or.inl rfl⟩
theorem fl_X12_132_13 : xF RX12 132 13 63 (.array .boolean) true := ⟨by decide, RX12, TX12, 91, tyX12, "PaperBoysModel", rfl, inlX12, tyX12_ok, nmX12, by decide, rfl, rfl, m_9_18, Or.inl rfl⟩
theorem fl_X12_361_13 : xF RX12 361 13 40 .int false := ⟨by decide, RX12, TX12, 91, tyX12, "PaperBoysModel", rfl, inlX12, tyX12_ok, nmX12, by decide, rfl, rfl, m_28_9, Or.inl rfl⟩
theorem fl_X12_364_13 : xF RX12 364 13 27 .int false := ⟨by decide, RX12, TX12, 91, tyX12, "PaperBoysModel", rfl, inlX12, tyX12_ok, nmX12, by decide, rfl, rfl, m_28_17, Or.inl rfl⟩
theorem fl_X12_50_13 : xF RX12 50 13 29 (.array .int) true := ⟨by decide, RX12, TX12, 91, tyX12, "PaperBoysModel", rfl, inlX12, tyX12_ok, nmX12, by decide, rfl, rfl, m_8_15, Or.inl rfl⟩
theorem fl_X12_56_13 : xF RX12 56 13 31 (.array .int) true := ⟨by decide, RX12, TX12, 91, tyX12, "PaperBoysModel", rfl, inlX12, tyX12_ok, nmX12, by decide, rfl, rfl, m_8_17, Or.inl rfl⟩
theorem fl_X12_59_13 : xF RX12 59 13 32 (.array .int) true := ⟨by decide, RX12, TX12, 91, tyX12, "PaperBoysModel", rfl, inlX12, tyX12_ok, nmX12, by decide, rfl, rfl, m_8_18, Or.inl rfl⟩
theorem fl_X12_62_13 : xF RX12 62 13 33 (.array .int) true := ⟨by decide, RX12, TX12, 91, tyX12, "PaperBoysModel", rfl, inlX12, tyX12_ok, nmX12, by decide, rfl, rfl, m_8_19, Or.inl rfl⟩
theorem fl_X12_65_13 : xF RX12 65 13 34 (.array .int) true := ⟨by decide, RX12, TX12, 91, tyX12, "PaperBoysModel", rfl, inlX12, tyX12_ok, nmX12, by decide, rfl, rfl, m_8_20, Or.inl rfl⟩
theorem fl_X12_83_13 : xF RX12 83 13 46 (.array .boolean) true := ⟨by decide, RX12, TX12, 91, tyX12, "PaperBoysModel", rfl, inlX12, tyX12_ok, nmX12, by decide, rfl, rfl, m_9_2, Or.inl rfl⟩
theorem fl_X12_86_13 : xF RX12 86 13 47 .int false := ⟨by decide, RX12, TX12, 91, tyX12, "PaperBoysModel", rfl, inlX12, tyX12_ok, nmX12, by decide, rfl, rfl, m_9_3, Or.inl rfl⟩
theorem lk_X12_358 : xLV RX12 358 yX12_sortAtHand cX12_sortAtHand 1 (some .int) 0 := ⟨m_30_1, m_30_2, m_30_3, m_1_5, m_30_4, by decide +kernel⟩
theorem lk_X12_367 : xLV RX12 367 yX12_readCond cX12_readCond 2 (some .boolean) 0 := ⟨m_30_20, m_30_21, m_30_22, m_1_5, m_30_23, by decide +kernel⟩
theorem lk_X12_370 : xLV RX12 370 yX12_readLine cX12_readLine 3 (some .boolean) 0 := ⟨m_29_21, m_29_22, m_29_23, m_1_5, m_30_0, by decide +kernel⟩
theorem lk_X12_376 : xLV RX12 376 yX12_readTerms cX12_readTerms 2 (some .boolean) 1 := ⟨m_28_11, m_28_12, m_28_13, m_1_5, m_28_14, by decide +kernel⟩
theorem lk_X12_379 : xLV RX12 379 yX12_holds cX12_holds 10 (some .boolean) 3 := ⟨m_36_18, m_36_19, m_36_20, m_1_5, m_36_21, by decide +kernel⟩
theorem lk_X12_382 : xLS RX12 382 yX12_usual cX12_usual 1 (some .int) 1 := ⟨m_36_22, m_36_23, m_1_5, m_37_0, by decide +kernel⟩
theorem lk_X12_392 : xLV RX12 392 yX12_termsFor cX12_termsFor 4 (some .int) 1 := ⟨m_36_10, m_36_11, m_36_12, m_1_5, m_36_13, by decide +kernel⟩
theorem lk_X12_395 : xLV RX12 395 yX12_tells cX12_tells 5 (some .int) 2 := ⟨m_36_14, m_36_15, m_36_16, m_1_5, m_36_17, by decide +kernel⟩
theorem lk_X12_402 : xLV RX12 402 yX12_askOf cX12_askOf 2 none 1 := ⟨m_37_22, m_37_23, m_38_0, m_1_5, m_38_1, by decide +kernel⟩
theorem lk_X12_405 : xLV RX12 405 yX12_firstAt cX12_firstAt 5 (some .int) 2 := ⟨m_41_0, m_41_1, m_41_2, m_1_5, m_41_3, by decide +kernel⟩
theorem lk_X12_412 : xLV RX12 412 yX12_cry cX12_cry 9 none 2 := ⟨m_40_20, m_40_21, m_40_22, m_1_5, m_40_23, by decide +kernel⟩
theorem lk_X12_415 : xLV RX12 415 yX12_comes cX12_comes 3 (some .int) 2 := ⟨m_41_8, m_41_9, m_41_10, m_1_5, m_41_11, by decide +kernel⟩
theorem lk_X12_438 : xLV RX12 438 yX12_isBought cX12_isBought 3 (some .boolean) 1 := ⟨m_48_8, m_48_9, m_48_10, m_1_5, m_48_11, by decide +kernel⟩
theorem xRl.cg {cf ct p cf' ct' p' : Int → Int} {nl np : Int} (h : xRl cf ct p nl np) (h1 : ∀ i, 160 ≤ i → cf' i = cf i) (h2 : ∀ i, 160 ≤ i → ct' i = ct i) (h3 : ∀ i, 1200 ≤ i → p' i = p i) : xRl cf' ct' p' nl np := fun k q1 q2 => by
  rw [h1 _ (by omega), h2 _ (by omega)]
  obtain ⟨r1, r2, r3, r4⟩ := h k q1 q2
  refine ⟨r1, r2, r3, ?_⟩
  rw [xhf_cg (p := p) (F := 1200 + cf (160 + k)) (fun i hi => h3 _ (by omega))]
  exact r4
def xTa (n : Int) (lo cf ct p : Int → Int) : Prop := ∀ t, 0 ≤ t → t < n → xTr lo cf ct p t
theorem xTa.low {lo cf ct p lo' cf' ct' p' : Int → Int} {n : Int} (h : xTa n lo cf ct p) (hn : n ≤ 10) (hk : ∀ t, 0 ≤ t → t < 11 → lo t ≤ 16) (h1 : xLow 10 lo' lo) (h2 : xLow 160 cf' cf) (h3 : xLow 160 ct' ct) (h4 : xLow 1200 p' p) : xTa n lo' cf' ct' p' := fun t q1 q2 =>
  (h t q1 q2).low (by omega) (h1 t q1 (by omega)) (hk t q1 (by omega)) (fun k r1 r2 => h2 _ (by omega) (by omega)) (fun k r1 r2 => h3 _ (by omega) (by omega)) (fun k r1 r2 => h4 _ (by omega) (by omega))
theorem xTa.new {lo cf ct p lo' cf' ct' p' : Int → Int} {n l a : Int} (h : xTa n lo cf ct p) (hn : 0 ≤ n ∧ n < 10) (hk : ∀ t, 0 ≤ t → t < 11 → lo t ≤ 16) (R : xRl cf ct p l a) (ha : a ≤ 120) (hl : l ≤ 16) (o1 : ∀ t, 0 ≤ t → t ≠ n → lo' t = lo t) (o2 : lo' n = l) (c1 : ∀ i, 0 ≤ i → i < 16 * n ∨ 160 ≤ i → cf' i = cf i) (c2 : ∀ k, 0 ≤ k → k < l → cf' (16 * n + k) = cf (160 + k)) (d1 : ∀ i, 0 ≤ i → i < 16 * n ∨ 160 ≤ i → ct' i = ct i) (d2 : ∀ k, 0 ≤ k → k < l → ct' (16 * n + k) = ct (160 + k)) (e1 : ∀ i, 0 ≤ i → i < 120 * n ∨ 1200 ≤ i → p' i = p i) (e2 : ∀ k, 0 ≤ k → k < a → p' (120 * n + k) = p (1200 + k)) : xTa (n + 1) lo' cf' ct' p' := fun t q1 q2 => by
  by_cases e : t = n
  · subst e
    refine xRl.new (nl := l) (np := a) (R.cg (fun i r => c1 i (by omega) (Or.inr r)) (fun i r => d1 i (by omega) (Or.inr r)) (fun i r => e1 i (by omega) (Or.inr r))) ha o2 (fun k r1 r2 => ?_) (fun k r1 r2 => ?_) (fun k r1 r2 => ?_)
    · rw [c2 k r1 r2, c1 _ (by omega) (Or.inr (by omega))]
    · rw [d2 k r1 r2, d1 _ (by omega) (Or.inr (by omega))]
    · rw [e2 k r1 r2, e1 _ (by omega) (Or.inr (by omega))]
  · exact (h t q1 (by omega)).low (by omega) (o1 t q1 e) (hk t q1 (by omega)) (fun k r1 r2 => c1 _ (by omega) (Or.inl (by omega))) (fun k r1 r2 => d1 _ (by omega) (Or.inl (by omega))) (fun k r1 r2 => e1 _ (by omega) (Or.inl (by omega)))
def xTq (lo cf ct p : Int → Int) (t : Int) : Prop := t = -1 ∨ xTr lo cf ct p t
theorem xTa.q {lo cf ct p : Int → Int} {n t : Int} (h : xTa n lo cf ct p) (h1 : -1 ≤ t) (h2 : t < n) : xTq lo cf ct p t := by
  by_cases e : t = -1
  · exact Or.inl e
  · exact Or.inr (h t (by omega) h2)
def xTw (S : xT) (g : xG) (a : Nat) : Prop := ∃ (lo cf ct p : Nat) (n : Int), S a = some (13, 0) ∧ g a 29 = .ref lo ∧ S lo = some (15300, 11) ∧ g a 33 = .ref cf ∧ S cf = some (15700, 176) ∧ g a 34 = .ref ct ∧ S ct = some (15800, 176) ∧ g a 35 = .ref p ∧ S p = some (15900, 1320) ∧ g a 39 = .int (iI n) ∧ 0 ≤ n ∧ n ≤ 10 ∧ xTa n (xv g lo) (xv g cf) (xv g ct) (xv g p)
def xtq : List (Nat × Nat) := [(13, 29), (13, 33), (13, 34), (13, 35), (13, 39), (15300, 0), (15700, 0), (15800, 0), (15900, 0)]
theorem xTw_m {S S1 : xT} {g g1 : xG} {a : Nat} {L : List (Nat × Nat)} (h : xTw S g a) (hm : xM L S g g1) (hle : xLe S S1) (hd : ∀ x ∈ xtq, x ∉ L) : xTw S1 g1 a := by
  obtain ⟨lo, cf, ct, p, n, h1, h2, h3, h4, h5, h6, h7, h8, h9, h10, h11, h12, h13⟩ := h
  refine ⟨lo, cf, ct, p, n, hle _ _ h1, ?_, hle _ _ h3, ?_, hle _ _ h5, ?_, hle _ _ h7, ?_, hle _ _ h9, ?_, h11, h12, ?_⟩
  · rw [hm _ _ _ _ h1 (hd _ (by decide))]; exact h2
  · rw [hm _ _ _ _ h1 (hd _ (by decide))]; exact h4
  · rw [hm _ _ _ _ h1 (hd _ (by decide))]; exact h6
  · rw [hm _ _ _ _ h1 (hd _ (by decide))]; exact h8
  · rw [hm _ _ _ _ h1 (hd _ (by decide))]; exact h10
  · rw [xv_m hm h3 (by decide) (hd _ (by decide)), xv_m hm h5 (by decide) (hd _ (by decide)), xv_m hm h7 (by decide) (hd _ (by decide)), xv_m hm h9 (by decide) (hd _ (by decide))]; exact h13
def xuc (f : Int → Int) : Nat := xct (fun k => decide (f k = 0)) 200
theorem xuc_s {f f' : Int → Int} {j : Int} (hj : 0 ≤ j ∧ j < 200) (h0 : f j = 0) (h1 : f' j = 1) (h : ∀ i, 0 ≤ i → i ≠ j → f' i = f i) : xuc f = xuc f' + 1 := by
  have e : ((j.toNat : Nat) : Int) = j := by omega
  exact xct_up (j := j.toNat) (by omega) (by simp only [e, h1]; rfl) (by simp only [e, h0]; rfl) (fun k hk hn => by simp only [h k (by omega) (by omega)])
set_option maxHeartbeats 4000000 in
set_option maxRecDepth 100000 in
theorem c_X12_readLine (l : Launch) (D : va_G) (kA : Nat → ClassId) (b0 : Nat) (t0 : Nat → Nat) (S : xT) (g : xG) (a0 : Nat) (np : Int) (no : Int) (nw : Int) (nl : Int) (wp : Nat) (wf : Nat) (wu : Nat) (hs_a0 : S a0 = some (13, 0)) (hnp : 0 ≤ np ∧ np ≤ 120) (enp : g a0 41 = .int (iI np)) (hno : 0 ≤ no ∧ no ≤ 50) (eno : g a0 43 = .int (iI no)) (hnw : 0 ≤ nw ∧ nw ≤ 10) (enw : g a0 44 = .int (iI nw)) (hnl : 0 ≤ nl ∧ nl ≤ 16) (enl : g a0 40 = .int (iI nl)) (ewp : g a0 35 = .ref wp) (hs_wp : S wp = some (15900, 1320)) (ewf : g a0 33 = .ref wf) (hs_wf : S wf = some (15700, 176)) (ewu : g a0 34 = .ref wu) (hs_wu : S wu = some (15800, 176)) (hp0 : np ≤ 2 * no) (hp1 : xRl (xv g wf) (xv g wu) (xv g wp) nl np) : xMt l yX12_readLine cX12_readLine 3 (some .boolean) 4 0 0 89 D kA b0 t0 [(13, 25), (13, 26), (15500, 0), (15600, 0), (15700, 0), (13, 20), (13, 21), (13, 28), (13, 23), (13, 22), (13, 24), (15800, 0), (13, 40), (13, 42), (13, 43), (15900, 0), (16000, 0), (16100, 0), (13, 41), (13, 44), (16200, 0), (13, 27)] [.ref a0] S g (fun (r : Option Value) (S1 : xT) (g1 : xG) => S = S1 ∧ ∃ z : Int, r = some (.int (iI z)) ∧ 0 ≤ z ∧ z ≤ 1 ∧ (∃ a l c d : Int, g1 a0 41 = .int (iI a) ∧ 0 ≤ a ∧ a ≤ 120 ∧ g1 a0 40 = .int (iI l) ∧ 0 ≤ l ∧ l ≤ 16 ∧ g1 a0 43 = .int (iI d) ∧ 0 ≤ d ∧ d ≤ 50 ∧ g1 a0 44 = .int (iI c) ∧ 0 ≤ c ∧ c ≤ 10 ∧ (z = 1 → l = nl + 1 ∧ a ≤ 2 * d ∧ xRl (xv g1 wf) (xv g1 wu) (xv g1 wp) l a) ∧ xLow 160 (xv g1 wf) (xv g wf) ∧ xLow 160 (xv g1 wu) (xv g wu) ∧ xLow 1200 (xv g1 wp) (xv g wp))) := by
  refine xEnterZ (by decide) (by simp [lg_sl, Value.category]) [(0, .ref a0)] rfl ?_
  intro K E hK hret _ _ _
  refine X_aloadn hK (i := 0) 0 kd46_47.2.2.2.2.2.1 rfl rfl ?_
  refine X_callV hK [] [] lk_X12_358 (c_X12_sortAtHand _ _ _ _ _ S g a0 hs_a0) hs_a0 ⟨by decide, rfl⟩ kd46_47.2.2.2.2.2.2.1 rfl rfl (by simp [Value.category]) (by decide) (by decide) (by decide) (by decide) (fun r1 S3 g2 pr1 qr1 hg2 => ?_)
  obtain ⟨rfl, rfl, z4, rfl, lz4, uz4⟩ := pr1
  refine X_st [.int (iI z4)] rfl ?_
  refine X_istoren hK (i := 1) [(1, .int (iI z4)), (0, .ref a0)] kd46_47.2.2.2.2.2.2.2.1 rfl (by decide) rfl ?_
  refine X_iloadn hK (i := 1) 0 kd46_47.2.2.2.2.2.2.2.2.1 rfl rfl ?_
  refine X_iconst hK kd46_47.2.2.2.2.2.2.2.2.2.1 ?_
  refine X_icmp_ne hK 16 (by omega) (by omega) kd46_47.2.2.2.2.2.2.2.2.2.2.1 (by decide) (fun c5 => ?_) (fun c5 => ?_)
  · refine X_aloadn hK (i := 0) 1 kd46_48.2.2.2.1 rfl rfl ?_
    refine X_getK hK fl_X12_361_13 hs_a0 enl kd46_48.2.2.2.2.1 ?_
    refine X_bipush hK kd46_48.2.2.2.2.2.1 (by decide) ?_
    refine X_icmp_eq hK 40 (by omega) (by omega) kd46_48.2.2.2.2.2.2.1 (by decide) (fun c6 => ?_) (fun c6 => ?_)
    · refine X_aloadn hK (i := 0) 1 kd46_49.2.2.2.2.1 rfl rfl ?_
      refine X_iconst hK kd46_49.2.2.2.2.2.1 ?_
      refine X_callV hK [.int (iI 3)] [] lk_X12_333 (c2_bad _ _ _ _ _ S g a0 3 hs_a0 (by omega)) hs_a0 ⟨by decide, rfl⟩ kd46_49.2.2.2.2.2.2.1 rfl rfl (by simp [Value.category]) (by decide) (by decide) (by decide) (by decide) (fun r7 S9 g8 pr7 qr7 hg8 => ?_)
      obtain ⟨rfl, z10, rfl, lz10, uz10, k11⟩ := pr7
      refine X_st [.int (iI z10)] rfl ?_
      exact hret _ _ _ _ _ _ _ kd46_49.2.2.2.2.2.2.2.1 (by omega) (by omega) ⟨rfl, z10, rfl, (by omega), (by omega), ⟨np, nl, nw, no, ((hg8 a0 13 0 41 hs_a0 (by decide)).trans enp), by omega, by omega, ((hg8 a0 13 0 40 hs_a0 (by decide)).trans enl), by omega, by omega, ((hg8 a0 13 0 43 hs_a0 (by decide)).trans eno), by omega, by omega, ((hg8 a0 13 0 44 hs_a0 (by decide)).trans enw), by omega, by omega, (fun h => by omega), (fun i q1 q2 => (show xv g8 wf i = xv g wf i from by rw [(xv_m hg8 hs_wf (by decide) (by decide))])), (fun i q1 q2 => (show xv g8 wu i = xv g wu i from by rw [(xv_m hg8 hs_wu (by decide) (by decide))])), (fun i q1 q2 => (show xv g8 wp i = xv g wp i from by rw [(xv_m hg8 hs_wp (by decide) (by decide))]))⟩⟩ (Nat.le_refl _) (Nat.le_refl _)
    · refine X_iloadn hK (i := 1) 0 kd46_48.2.2.2.2.2.2.2.1 rfl rfl ?_
      refine X_iconst hK kd46_48.2.2.2.2.2.2.2.2.1 ?_
      refine X_icmp_ne hK 46 (by omega) (by omega) kd46_48.2.2.2.2.2.2.2.2.2.1 (by decide) (fun c12 => ?_) (fun c12 => ?_)
      · refine X_sipush hK kd46_49.2.2.2.2.2.2.2.2.1 (by decide) ?_
        refine X_aloadn hK (i := 0) 1 kd46_49.2.2.2.2.2.2.2.2.2.1 rfl rfl ?_
        refine X_getK hK fl_X12_361_13 hs_a0 enl kd46_49.2.2.2.2.2.2.2.2.2.2.1 ?_
        refine X_iadd hK kd46_49.2.2.2.2.2.2.2.2.2.2.2 ?_
        refine X_istoren hK (i := 2) [(2, .int (iI (160 + nl))), (1, .int (iI z4)), (0, .ref a0)] kd46_50.1 rfl (by decide) rfl ?_
        refine X_aloadn hK (i := 0) 2 kd46_50.2.1 rfl rfl ?_
        refine X_getr hK 15500 176 fl_X12_56_13 hs_a0 sl_13_31 kd46_50.2.2.1 (fun b13 eb13 hs_b13 => ?_)
        refine X_iloadn hK (i := 2) 0 kd46_50.2.2.2.1 rfl rfl ?_
        refine X_iloadn hK (i := 1) 1 kd46_50.2.2.2.2.1 rfl rfl ?_
        refine X_iast hK hs_b13 (by decide) (by decide) sl_15500 (by omega) (by omega) (by omega) (by omega) kd46_50.2.2.2.2.2.1 (fun g14 hg14 => ?_)
        refine X_aloadn hK (i := 0) 2 kd46_50.2.2.2.2.2.2.1 rfl rfl ?_
        refine X_getr hK 15600 176 fl_X12_59_13 hs_a0 sl_13_32 kd46_50.2.2.2.2.2.2.2.1 (fun b15 eb15 hs_b15 => ?_)
        refine X_iloadn hK (i := 2) 0 kd46_50.2.2.2.2.2.2.2.2.1 rfl rfl ?_
        refine X_iconst hK kd46_50.2.2.2.2.2.2.2.2.2.1 ?_
        refine X_iast hK hs_b15 (by decide) (by decide) sl_15600 (by omega) (by omega) (by omega) (by omega) kd46_50.2.2.2.2.2.2.2.2.2.2.1 (fun g16 hg16 => ?_)
        refine X_aloadn hK (i := 0) 2 kd46_50.2.2.2.2.2.2.2.2.2.2.2 rfl rfl ?_
        refine X_getK hK fl_X12_62_13 hs_a0 ((xs_a hg16 (xne hs_a0 hs_b15 (by decide))).trans ((xs_a hg14 (xne hs_a0 hs_b13 (by decide))).trans ewf)) kd46_51.1 ?_
        refine X_iloadn hK (i := 2) 0 kd46_51.2.1 rfl rfl ?_
        refine X_aloadn hK (i := 0) 2 kd46_51.2.2.1 rfl rfl ?_
        refine X_getK hK fl_X12_313_13 hs_a0 ((xs_a hg16 (xne hs_a0 hs_b15 (by decide))).trans ((xs_a hg14 (xne hs_a0 hs_b13 (by decide))).trans enp)) kd46_51.2.2.2.1 ?_
        refine X_iast hK hs_wf (by decide) (by decide) sl_15700 (by omega) (by omega) (by omega) (by omega) kd46_51.2.2.2.2.1 (fun g17 hg17 => ?_)
        refine X_iloadn hK (i := 1) 1 kd46_51.2.2.2.2.2.1 rfl rfl ?_
        refine X_iconst hK kd46_51.2.2.2.2.2.2.1 ?_
        refine X_icmp_ne hK 89 (by omega) (by omega) kd46_51.2.2.2.2.2.2.2.1 (by decide) (fun c18 => ?_) (fun c18 => False.elim (by omega))
        refine X_aloadn hK (i := 0) 2 kd46_51.2.2.2.2.2.2.2.2.2.2.2 rfl rfl ?_
        refine X_callV hK [] [] lk_X12_342 (c_X12_go _ _ _ _ _ S g17 a0 hs_a0) hs_a0 ⟨by decide, rfl⟩ kd46_52.1 rfl rfl (by simp [Value.category]) (by decide) (by decide) (by decide) (by decide) (fun r19 S21 g20 pr19 qr19 hg20 => ?_)
        obtain ⟨rfl, rfl⟩ := pr19
        refine X_st [] rfl ?_
        refine X_iloadn hK (i := 1) 1 kd46_52.2.1 rfl rfl ?_
        refine X_iconst hK kd46_52.2.2.1 ?_
        refine X_icmp_ne hK 119 (by omega) (by omega) kd46_52.2.2.2.1 (by decide) (fun c22 => ?_) (fun c22 => ?_)
        · refine X_aloadn hK (i := 0) 2 kd46_53.2.2.2.1 rfl rfl ?_
          refine X_geti hK fl_X12_262_13 hs_a0 sl_13_22 kd46_53.2.2.2.2.1 (fun z23 ez23 lz23 uz23 => ?_)
          refine X_iconst hK kd46_53.2.2.2.2.2.1 ?_
          refine X_icmp_eq hK 133 (by omega) (by omega) kd46_53.2.2.2.2.2.2.1 (by decide) (fun c24 => ?_) (fun c24 => ?_)
          · refine X_aloadn hK (i := 0) 2 kd46_53.2.2.2.2.2.2.2.2.2.2.2 rfl rfl ?_
            refine X_geti hK fl_X12_281_13 hs_a0 sl_13_23 kd46_54.1 (fun z25 ez25 lz25 uz25 => ?_)
            refine X_sipush hK kd46_54.2.1 (by decide) ?_
            refine X_icmp_le hK 149 (by omega) (by omega) kd46_54.2.2.1 (by decide) (fun c26 => ?_) (fun c26 => ?_)
            · refine X_aloadn hK (i := 0) 2 kd46_54.2.2.2.2.2.2.2.1 rfl rfl ?_
              refine X_getK hK fl_X12_59_13 hs_a0 ((hg20 a0 13 0 32 hs_a0 (by decide)).trans ((xs_a hg17 (xne hs_a0 hs_wf (by decide))).trans ((xs_a hg16 (xne hs_a0 hs_b15 (by decide))).trans eb15))) kd46_54.2.2.2.2.2.2.2.2.1 ?_
              refine X_iloadn hK (i := 2) 0 kd46_54.2.2.2.2.2.2.2.2.2.1 rfl rfl ?_
              refine X_aloadn hK (i := 0) 2 kd46_54.2.2.2.2.2.2.2.2.2.2.1 rfl rfl ?_
              refine X_getK hK fl_X12_281_13 hs_a0 ez25 kd46_54.2.2.2.2.2.2.2.2.2.2.2 ?_
              refine X_iast hK hs_b15 (by decide) (by decide) sl_15600 (by omega) (by omega) (by omega) (by omega) kd46_55.1 (fun g27 hg27 => ?_)
              refine X_aloadn hK (i := 0) 2 kd46_55.2.1 rfl rfl ?_
              refine X_callV hK [] [] lk_X12_342 (c_X12_go _ _ _ _ _ S g27 a0 hs_a0) hs_a0 ⟨by decide, rfl⟩ kd46_55.2.2.1 rfl rfl (by simp [Value.category]) (by decide) (by decide) (by decide) (by decide) (fun r28 S30 g29 pr28 qr28 hg29 => ?_)
              obtain ⟨rfl, rfl⟩ := pr28
              refine X_st [] rfl ?_
              refine X_iloadn hK (i := 1) 1 kd46_55.2.2.2.1 rfl rfl ?_
              refine X_iconst hK kd46_55.2.2.2.2.1 ?_
              refine X_icmp_eq hK 198 (by omega) (by omega) kd46_55.2.2.2.2.2.1 (by decide) (fun c31 => False.elim (by omega)) (fun c31 => ?_)
              refine X_aloadn hK (i := 0) 2 kd46_55.2.2.2.2.2.2.1 rfl rfl ?_
              refine X_bipush hK kd46_55.2.2.2.2.2.2.2.1 (by decide) ?_
              refine X_bipush hK kd46_55.2.2.2.2.2.2.2.2.1 (by decide) ?_
              refine X_iconst hK kd46_55.2.2.2.2.2.2.2.2.2.1 ?_
              refine X_iconst hK kd46_55.2.2.2.2.2.2.2.2.2.2.1 ?_
              refine X_iconst hK kd46_55.2.2.2.2.2.2.2.2.2.2.2 ?_
              refine X_callS hK [.int (iI 105), .int (iI 102), .int (iI 0), .int (iI 0), .int (iI 0)] [.ref a0] lk_X12_297 (c_X12_spelt _ _ _ _ _ S g29 105 102 0 0 0 (by omega) (by omega) (by omega) (by omega) (by omega)) kd46_56.1 rfl rfl (by simp [Value.category]) (by decide) (by decide) (by decide) (by decide) (fun r32 S34 g33 pr32 qr32 hg33 => ?_)
              obtain ⟨rfl, rfl, y35, rfl⟩ := pr32
              refine X_st [.long y35, .ref a0] rfl ?_
              refine X_callV hK [.long y35] [] lk_X12_301 (c_X12_isKey _ _ _ _ _ S g29 a0 y35 hs_a0) hs_a0 ⟨by decide, rfl⟩ kd46_56.2.1 rfl rfl (by simp [Value.category]) (by decide) (by decide) (by decide) (by decide) (fun r36 S38 g37 pr36 qr36 hg37 => ?_)
              obtain ⟨rfl, rfl, z39, rfl, lz39, uz39⟩ := pr36
              refine X_st [.int (iI z39)] rfl ?_
              refine X_if_eq hK 198 (by omega) kd46_56.2.2.1 (by decide) (fun c40 => ?_) (fun c40 => ?_)
              · refine X_aloadn hK (i := 0) 2 kd46_56.2.2.2.2.2.2.2.2.2.2.1 rfl rfl ?_
                refine X_getK hK fl_X12_65_13 hs_a0 ((hg29 a0 13 0 34 hs_a0 (by decide)).trans ((xs_a hg27 (xne hs_a0 hs_b15 (by decide))).trans ((hg20 a0 13 0 34 hs_a0 (by decide)).trans ((xs_a hg17 (xne hs_a0 hs_wf (by decide))).trans ((xs_a hg16 (xne hs_a0 hs_b15 (by decide))).trans ((xs_a hg14 (xne hs_a0 hs_b13 (by decide))).trans ewu)))))) kd46_56.2.2.2.2.2.2.2.2.2.2.2 ?_
                refine X_iloadn hK (i := 2) 0 kd46_57.1 rfl rfl ?_
                refine X_aloadn hK (i := 0) 2 kd46_57.2.1 rfl rfl ?_
                refine X_getK hK fl_X12_313_13 hs_a0 ((hg29 a0 13 0 41 hs_a0 (by decide)).trans ((xs_a hg27 (xne hs_a0 hs_b15 (by decide))).trans ((hg20 a0 13 0 41 hs_a0 (by decide)).trans ((xs_a hg17 (xne hs_a0 hs_wf (by decide))).trans ((xs_a hg16 (xne hs_a0 hs_b15 (by decide))).trans ((xs_a hg14 (xne hs_a0 hs_b13 (by decide))).trans enp)))))) kd46_57.2.2.1 ?_
                refine X_iast hK hs_wu (by decide) (by decide) sl_15800 (by omega) (by omega) (by omega) (by omega) kd46_57.2.2.2.1 (fun g41 hg41 => ?_)
                refine X_aloadn hK (i := 0) 2 kd46_57.2.2.2.2.1 rfl rfl ?_
                refine X_dup hK kd46_57.2.2.2.2.2.1 rfl ?_
                refine X_getK hK fl_X12_361_13 hs_a0 ((xs_a hg41 (xne hs_a0 hs_wu (by decide))).trans ((hg29 a0 13 0 40 hs_a0 (by decide)).trans ((xs_a hg27 (xne hs_a0 hs_b15 (by decide))).trans ((hg20 a0 13 0 40 hs_a0 (by decide)).trans ((xs_a hg17 (xne hs_a0 hs_wf (by decide))).trans ((xs_a hg16 (xne hs_a0 hs_b15 (by decide))).trans ((xs_a hg14 (xne hs_a0 hs_b13 (by decide))).trans enl))))))) kd46_57.2.2.2.2.2.2.1 ?_
                refine X_iconst hK kd46_57.2.2.2.2.2.2.2.1 ?_
                refine X_iadd hK kd46_57.2.2.2.2.2.2.2.2.1 ?_
                refine X_puti hK fl_X12_361_13 hs_a0 (by decide) sl_13_40 (by omega) (by omega) kd46_57.2.2.2.2.2.2.2.2.2.1 (fun g42 hg42 => ?_)
                refine X_aloadn hK (i := 0) 2 kd46_57.2.2.2.2.2.2.2.2.2.2.1 rfl rfl ?_
                refine X_bipush hK kd46_57.2.2.2.2.2.2.2.2.2.2.2 (by decide) ?_
                refine X_callV hK [.int (iI 59)] [] lk_X12_330 (c_X12_isSign _ _ _ _ _ S g42 a0 59 hs_a0 (by omega)) hs_a0 ⟨by decide, rfl⟩ kd46_58.1 rfl rfl (by simp [Value.category]) (by decide) (by decide) (by decide) (by decide) (fun r43 S45 g44 pr43 qr43 hg44 => ?_)
                obtain ⟨rfl, rfl, z46, rfl, lz46, uz46⟩ := pr43
                refine X_st [.int (iI z46)] rfl ?_
                refine X_if_ne hK 235 (by omega) kd46_58.2.1 (by decide) (fun c47 => ?_) (fun c47 => ?_)
                · refine X_iconst hK kd46_58.2.2.2.2.2.2.1 ?_
                  refine X_goto hK 240 kd46_58.2.2.2.2.2.2.2.1 (by decide) ?_
                  exact hret _ _ _ _ _ _ _ kd46_58.2.2.2.2.2.2.2.2.2.1 (by omega) (by omega) ⟨rfl, 1, rfl, (by omega), (by omega), ⟨np, (nl + 1), nw, no, ((xs_k hg42 (by decide)).trans ((xs_a hg41 (xne hs_a0 hs_wu (by decide))).trans ((hg29 a0 13 0 41 hs_a0 (by decide)).trans ((xs_a hg27 (xne hs_a0 hs_b15 (by decide))).trans ((hg20 a0 13 0 41 hs_a0 (by decide)).trans ((xs_a hg17 (xne hs_a0 hs_wf (by decide))).trans ((xs_a hg16 (xne hs_a0 hs_b15 (by decide))).trans ((xs_a hg14 (xne hs_a0 hs_b13 (by decide))).trans enp)))))))), by omega, by omega, (xs_s hg42), by omega, by omega, ((xs_k hg42 (by decide)).trans ((xs_a hg41 (xne hs_a0 hs_wu (by decide))).trans ((hg29 a0 13 0 43 hs_a0 (by decide)).trans ((xs_a hg27 (xne hs_a0 hs_b15 (by decide))).trans ((hg20 a0 13 0 43 hs_a0 (by decide)).trans ((xs_a hg17 (xne hs_a0 hs_wf (by decide))).trans ((xs_a hg16 (xne hs_a0 hs_b15 (by decide))).trans ((xs_a hg14 (xne hs_a0 hs_b13 (by decide))).trans eno)))))))), by omega, by omega, ((xs_k hg42 (by decide)).trans ((xs_a hg41 (xne hs_a0 hs_wu (by decide))).trans ((hg29 a0 13 0 44 hs_a0 (by decide)).trans ((xs_a hg27 (xne hs_a0 hs_b15 (by decide))).trans ((hg20 a0 13 0 44 hs_a0 (by decide)).trans ((xs_a hg17 (xne hs_a0 hs_wf (by decide))).trans ((xs_a hg16 (xne hs_a0 hs_b15 (by decide))).trans ((xs_a hg14 (xne hs_a0 hs_b13 (by decide))).trans enw)))))))), by omega, by omega, (fun _ => ⟨by omega, by omega, xRl.s (np := np) (np1 := np) (nl := nl) hp1 (by omega) (by omega) ⟨(show xv g42 wf (160 + nl) = np from by rw [(xv_a hg42 (xne hs_wf hs_a0 (by decide))), (xv_a hg41 (xne hs_wf hs_wu (by decide))), (xv_m hg29 hs_wf (by decide) (by decide)), (xv_a hg27 (xne hs_wf hs_b15 (by decide))), (xv_m hg20 hs_wf (by decide) (by decide)), xv_s hg17 (by omega)]), (fun i9 hi9 h09 => (show xv g42 wf i9 = xv g wf i9 from by rw [(xv_a hg42 (xne hs_wf hs_a0 (by decide))), (xv_a hg41 (xne hs_wf hs_wu (by decide))), (xv_m hg29 hs_wf (by decide) (by decide)), (xv_a hg27 (xne hs_wf hs_b15 (by decide))), (xv_m hg20 hs_wf (by decide) (by decide)), (xv_k (i := i9) hg17 (by omega) (by omega) (by omega)), (xv_a hg16 (xne hs_wf hs_b15 (by decide))), (xv_a hg14 (xne hs_wf hs_b13 (by decide)))]))⟩ ⟨(show xv g42 wu (160 + nl) = np from by rw [(xv_a hg42 (xne hs_wu hs_a0 (by decide))), xv_s hg41 (by omega)]), (fun i9 hi9 h09 => (show xv g42 wu i9 = xv g wu i9 from by rw [(xv_a hg42 (xne hs_wu hs_a0 (by decide))), (xv_k (i := i9) hg41 (by omega) (by omega) (by omega)), (xv_m hg29 hs_wu (by decide) (by decide)), (xv_a hg27 (xne hs_wu hs_b15 (by decide))), (xv_m hg20 hs_wu (by decide) (by decide)), (xv_a hg17 (xne hs_wu hs_wf (by decide))), (xv_a hg16 (xne hs_wu hs_b15 (by decide))), (xv_a hg14 (xne hs_wu hs_b13 (by decide)))]))⟩ (fun i q1 q2 => (show xv g42 wp i = xv g wp i from by rw [(xv_a hg42 (xne hs_wp hs_a0 (by decide))), (xv_a hg41 (xne hs_wp hs_wu (by decide))), (xv_m hg29 hs_wp (by decide) (by decide)), (xv_a hg27 (xne hs_wp hs_b15 (by decide))), (xv_m hg20 hs_wp (by decide) (by decide)), (xv_a hg17 (xne hs_wp hs_wf (by decide))), (xv_a hg16 (xne hs_wp hs_b15 (by decide))), (xv_a hg14 (xne hs_wp hs_b13 (by decide)))])) (by omega) (xhf_0 _ _ _)⟩), (fun i q1 q2 => (show xv g42 wf i = xv g wf i from by rw [(xv_a hg42 (xne hs_wf hs_a0 (by decide))), (xv_a hg41 (xne hs_wf hs_wu (by decide))), (xv_m hg29 hs_wf (by decide) (by decide)), (xv_a hg27 (xne hs_wf hs_b15 (by decide))), (xv_m hg20 hs_wf (by decide) (by decide)), (xv_k (i := i) hg17 (by omega) (by omega) (by omega)), (xv_a hg16 (xne hs_wf hs_b15 (by decide))), (xv_a hg14 (xne hs_wf hs_b13 (by decide)))])), (fun i q1 q2 => (show xv g42 wu i = xv g wu i from by rw [(xv_a hg42 (xne hs_wu hs_a0 (by decide))), (xv_k (i := i) hg41 (by omega) (by omega) (by omega)), (xv_m hg29 hs_wu (by decide) (by decide)), (xv_a hg27 (xne hs_wu hs_b15 (by decide))), (xv_m hg20 hs_wu (by decide) (by decide)), (xv_a hg17 (xne hs_wu hs_wf (by decide))), (xv_a hg16 (xne hs_wu hs_b15 (by decide))), (xv_a hg14 (xne hs_wu hs_b13 (by decide)))])), (fun i q1 q2 => (show xv g42 wp i = xv g wp i from by rw [(xv_a hg42 (xne hs_wp hs_a0 (by decide))), (xv_a hg41 (xne hs_wp hs_wu (by decide))), (xv_m hg29 hs_wp (by decide) (by decide)), (xv_a hg27 (xne hs_wp hs_b15 (by decide))), (xv_m hg20 hs_wp (by decide) (by decide)), (xv_a hg17 (xne hs_wp hs_wf (by decide))), (xv_a hg16 (xne hs_wp hs_b15 (by decide))), (xv_a hg14 (xne hs_wp hs_b13 (by decide)))]))⟩⟩ (Nat.le_refl _) (Nat.le_refl _)
                · refine X_aloadn hK (i := 0) 2 kd46_58.2.2.1 rfl rfl ?_
                  refine X_iconst hK kd46_58.2.2.2.1 ?_
                  refine X_callV hK [.int (iI 1)] [] lk_X12_333 (c2_bad _ _ _ _ _ S g42 a0 1 hs_a0 (by omega)) hs_a0 ⟨by decide, rfl⟩ kd46_58.2.2.2.2.1 rfl rfl (by simp [Value.category]) (by decide) (by decide) (by decide) (by decide) (fun r48 S50 g49 pr48 qr48 hg49 => ?_)
                  obtain ⟨rfl, z51, rfl, lz51, uz51, k52⟩ := pr48
                  refine X_st [.int (iI z51)] rfl ?_
                  refine X_if_eq hK 239 (by omega) kd46_58.2.2.2.2.2.1 (by decide) (fun c53 => ?_) (fun c53 => ?_)
                  · refine X_iconst hK kd46_58.2.2.2.2.2.2.2.2.1 ?_
                    exact hret _ _ _ _ _ _ _ kd46_58.2.2.2.2.2.2.2.2.2.1 (by omega) (by omega) ⟨rfl, 0, rfl, (by omega), (by omega), ⟨np, (nl + 1), nw, no, ((hg49 a0 13 0 41 hs_a0 (by decide)).trans ((xs_k hg42 (by decide)).trans ((xs_a hg41 (xne hs_a0 hs_wu (by decide))).trans ((hg29 a0 13 0 41 hs_a0 (by decide)).trans ((xs_a hg27 (xne hs_a0 hs_b15 (by decide))).trans ((hg20 a0 13 0 41 hs_a0 (by decide)).trans ((xs_a hg17 (xne hs_a0 hs_wf (by decide))).trans ((xs_a hg16 (xne hs_a0 hs_b15 (by decide))).trans ((xs_a hg14 (xne hs_a0 hs_b13 (by decide))).trans enp))))))))), by omega, by omega, ((hg49 a0 13 0 40 hs_a0 (by decide)).trans (xs_s hg42)), by omega, by omega, ((hg49 a0 13 0 43 hs_a0 (by decide)).trans ((xs_k hg42 (by decide)).trans ((xs_a hg41 (xne hs_a0 hs_wu (by decide))).trans ((hg29 a0 13 0 43 hs_a0 (by decide)).trans ((xs_a hg27 (xne hs_a0 hs_b15 (by decide))).trans ((hg20 a0 13 0 43 hs_a0 (by decide)).trans ((xs_a hg17 (xne hs_a0 hs_wf (by decide))).trans ((xs_a hg16 (xne hs_a0 hs_b15 (by decide))).trans ((xs_a hg14 (xne hs_a0 hs_b13 (by decide))).trans eno))))))))), by omega, by omega, ((hg49 a0 13 0 44 hs_a0 (by decide)).trans ((xs_k hg42 (by decide)).trans ((xs_a hg41 (xne hs_a0 hs_wu (by decide))).trans ((hg29 a0 13 0 44 hs_a0 (by decide)).trans ((xs_a hg27 (xne hs_a0 hs_b15 (by decide))).trans ((hg20 a0 13 0 44 hs_a0 (by decide)).trans ((xs_a hg17 (xne hs_a0 hs_wf (by decide))).trans ((xs_a hg16 (xne hs_a0 hs_b15 (by decide))).trans ((xs_a hg14 (xne hs_a0 hs_b13 (by decide))).trans enw))))))))), by omega, by omega, (fun h => by omega), (fun i q1 q2 => (show xv g49 wf i = xv g wf i from by rw [(xv_m hg49 hs_wf (by decide) (by decide)), (xv_a hg42 (xne hs_wf hs_a0 (by decide))), (xv_a hg41 (xne hs_wf hs_wu (by decide))), (xv_m hg29 hs_wf (by decide) (by decide)), (xv_a hg27 (xne hs_wf hs_b15 (by decide))), (xv_m hg20 hs_wf (by decide) (by decide)), (xv_k (i := i) hg17 (by omega) (by omega) (by omega)), (xv_a hg16 (xne hs_wf hs_b15 (by decide))), (xv_a hg14 (xne hs_wf hs_b13 (by decide)))])), (fun i q1 q2 => (show xv g49 wu i = xv g wu i from by rw [(xv_m hg49 hs_wu (by decide) (by decide)), (xv_a hg42 (xne hs_wu hs_a0 (by decide))), (xv_k (i := i) hg41 (by omega) (by omega) (by omega)), (xv_m hg29 hs_wu (by decide) (by decide)), (xv_a hg27 (xne hs_wu hs_b15 (by decide))), (xv_m hg20 hs_wu (by decide) (by decide)), (xv_a hg17 (xne hs_wu hs_wf (by decide))), (xv_a hg16 (xne hs_wu hs_b15 (by decide))), (xv_a hg14 (xne hs_wu hs_b13 (by decide)))])), (fun i q1 q2 => (show xv g49 wp i = xv g wp i from by rw [(xv_m hg49 hs_wp (by decide) (by decide)), (xv_a hg42 (xne hs_wp hs_a0 (by decide))), (xv_a hg41 (xne hs_wp hs_wu (by decide))), (xv_m hg29 hs_wp (by decide) (by decide)), (xv_a hg27 (xne hs_wp hs_b15 (by decide))), (xv_m hg20 hs_wp (by decide) (by decide)), (xv_a hg17 (xne hs_wp hs_wf (by decide))), (xv_a hg16 (xne hs_wp hs_b15 (by decide))), (xv_a hg14 (xne hs_wp hs_b13 (by decide)))]))⟩⟩ (Nat.le_refl _) (Nat.le_refl _)
                  · refine X_iconst hK kd46_58.2.2.2.2.2.2.1 ?_
                    refine X_goto hK 240 kd46_58.2.2.2.2.2.2.2.1 (by decide) ?_
                    exact hret _ _ _ _ _ _ _ kd46_58.2.2.2.2.2.2.2.2.2.1 (by omega) (by omega) ⟨rfl, 1, rfl, (by omega), (by omega), ⟨np, (nl + 1), nw, no, ((hg49 a0 13 0 41 hs_a0 (by decide)).trans ((xs_k hg42 (by decide)).trans ((xs_a hg41 (xne hs_a0 hs_wu (by decide))).trans ((hg29 a0 13 0 41 hs_a0 (by decide)).trans ((xs_a hg27 (xne hs_a0 hs_b15 (by decide))).trans ((hg20 a0 13 0 41 hs_a0 (by decide)).trans ((xs_a hg17 (xne hs_a0 hs_wf (by decide))).trans ((xs_a hg16 (xne hs_a0 hs_b15 (by decide))).trans ((xs_a hg14 (xne hs_a0 hs_b13 (by decide))).trans enp))))))))), by omega, by omega, ((hg49 a0 13 0 40 hs_a0 (by decide)).trans (xs_s hg42)), by omega, by omega, ((hg49 a0 13 0 43 hs_a0 (by decide)).trans ((xs_k hg42 (by decide)).trans ((xs_a hg41 (xne hs_a0 hs_wu (by decide))).trans ((hg29 a0 13 0 43 hs_a0 (by decide)).trans ((xs_a hg27 (xne hs_a0 hs_b15 (by decide))).trans ((hg20 a0 13 0 43 hs_a0 (by decide)).trans ((xs_a hg17 (xne hs_a0 hs_wf (by decide))).trans ((xs_a hg16 (xne hs_a0 hs_b15 (by decide))).trans ((xs_a hg14 (xne hs_a0 hs_b13 (by decide))).trans eno))))))))), by omega, by omega, ((hg49 a0 13 0 44 hs_a0 (by decide)).trans ((xs_k hg42 (by decide)).trans ((xs_a hg41 (xne hs_a0 hs_wu (by decide))).trans ((hg29 a0 13 0 44 hs_a0 (by decide)).trans ((xs_a hg27 (xne hs_a0 hs_b15 (by decide))).trans ((hg20 a0 13 0 44 hs_a0 (by decide)).trans ((xs_a hg17 (xne hs_a0 hs_wf (by decide))).trans ((xs_a hg16 (xne hs_a0 hs_b15 (by decide))).trans ((xs_a hg14 (xne hs_a0 hs_b13 (by decide))).trans enw))))))))), by omega, by omega, (fun _ => ⟨by omega, by omega, xRl.s (np := np) (np1 := np) (nl := nl) hp1 (by omega) (by omega) ⟨(show xv g49 wf (160 + nl) = np from by rw [(xv_m hg49 hs_wf (by decide) (by decide)), (xv_a hg42 (xne hs_wf hs_a0 (by decide))), (xv_a hg41 (xne hs_wf hs_wu (by decide))), (xv_m hg29 hs_wf (by decide) (by decide)), (xv_a hg27 (xne hs_wf hs_b15 (by decide))), (xv_m hg20 hs_wf (by decide) (by decide)), xv_s hg17 (by omega)]), (fun i9 hi9 h09 => (show xv g49 wf i9 = xv g wf i9 from by rw [(xv_m hg49 hs_wf (by decide) (by decide)), (xv_a hg42 (xne hs_wf hs_a0 (by decide))), (xv_a hg41 (xne hs_wf hs_wu (by decide))), (xv_m hg29 hs_wf (by decide) (by decide)), (xv_a hg27 (xne hs_wf hs_b15 (by decide))), (xv_m hg20 hs_wf (by decide) (by decide)), (xv_k (i := i9) hg17 (by omega) (by omega) (by omega)), (xv_a hg16 (xne hs_wf hs_b15 (by decide))), (xv_a hg14 (xne hs_wf hs_b13 (by decide)))]))⟩ ⟨(show xv g49 wu (160 + nl) = np from by rw [(xv_m hg49 hs_wu (by decide) (by decide)), (xv_a hg42 (xne hs_wu hs_a0 (by decide))), xv_s hg41 (by omega)]), (fun i9 hi9 h09 => (show xv g49 wu i9 = xv g wu i9 from by rw [(xv_m hg49 hs_wu (by decide) (by decide)), (xv_a hg42 (xne hs_wu hs_a0 (by decide))), (xv_k (i := i9) hg41 (by omega) (by omega) (by omega)), (xv_m hg29 hs_wu (by decide) (by decide)), (xv_a hg27 (xne hs_wu hs_b15 (by decide))), (xv_m hg20 hs_wu (by decide) (by decide)), (xv_a hg17 (xne hs_wu hs_wf (by decide))), (xv_a hg16 (xne hs_wu hs_b15 (by decide))), (xv_a hg14 (xne hs_wu hs_b13 (by decide)))]))⟩ (fun i q1 q2 => (show xv g49 wp i = xv g wp i from by rw [(xv_m hg49 hs_wp (by decide) (by decide)), (xv_a hg42 (xne hs_wp hs_a0 (by decide))), (xv_a hg41 (xne hs_wp hs_wu (by decide))), (xv_m hg29 hs_wp (by decide) (by decide)), (xv_a hg27 (xne hs_wp hs_b15 (by decide))), (xv_m hg20 hs_wp (by decide) (by decide)), (xv_a hg17 (xne hs_wp hs_wf (by decide))), (xv_a hg16 (xne hs_wp hs_b15 (by decide))), (xv_a hg14 (xne hs_wp hs_b13 (by decide)))])) (by omega) (xhf_0 _ _ _)⟩), (fun i q1 q2 => (show xv g49 wf i = xv g wf i from by rw [(xv_m hg49 hs_wf (by decide) (by decide)), (xv_a hg42 (xne hs_wf hs_a0 (by decide))), (xv_a hg41 (xne hs_wf hs_wu (by decide))), (xv_m hg29 hs_wf (by decide) (by decide)), (xv_a hg27 (xne hs_wf hs_b15 (by decide))), (xv_m hg20 hs_wf (by decide) (by decide)), (xv_k (i := i) hg17 (by omega) (by omega) (by omega)), (xv_a hg16 (xne hs_wf hs_b15 (by decide))), (xv_a hg14 (xne hs_wf hs_b13 (by decide)))])), (fun i q1 q2 => (show xv g49 wu i = xv g wu i from by rw [(xv_m hg49 hs_wu (by decide) (by decide)), (xv_a hg42 (xne hs_wu hs_a0 (by decide))), (xv_k (i := i) hg41 (by omega) (by omega) (by omega)), (xv_m hg29 hs_wu (by decide) (by decide)), (xv_a hg27 (xne hs_wu hs_b15 (by decide))), (xv_m hg20 hs_wu (by decide) (by decide)), (xv_a hg17 (xne hs_wu hs_wf (by decide))), (xv_a hg16 (xne hs_wu hs_b15 (by decide))), (xv_a hg14 (xne hs_wu hs_b13 (by decide)))])), (fun i q1 q2 => (show xv g49 wp i = xv g wp i from by rw [(xv_m hg49 hs_wp (by decide) (by decide)), (xv_a hg42 (xne hs_wp hs_a0 (by decide))), (xv_a hg41 (xne hs_wp hs_wu (by decide))), (xv_m hg29 hs_wp (by decide) (by decide)), (xv_a hg27 (xne hs_wp hs_b15 (by decide))), (xv_m hg20 hs_wp (by decide) (by decide)), (xv_a hg17 (xne hs_wp hs_wf (by decide))), (xv_a hg16 (xne hs_wp hs_b15 (by decide))), (xv_a hg14 (xne hs_wp hs_b13 (by decide)))]))⟩⟩ (Nat.le_refl _) (Nat.le_refl _)
              · refine X_aloadn hK (i := 0) 2 kd46_56.2.2.2.1 rfl rfl ?_
                refine X_callV hK [] [] lk_X12_342 (c_X12_go _ _ _ _ _ S g29 a0 hs_a0) hs_a0 ⟨by decide, rfl⟩ kd46_56.2.2.2.2.1 rfl rfl (by simp [Value.category]) (by decide) (by decide) (by decide) (by decide) (fun r54 S56 g55 pr54 qr54 hg55 => ?_)
                obtain ⟨rfl, rfl⟩ := pr54
                refine X_st [] rfl ?_
                refine X_aloadn hK (i := 0) 2 kd46_56.2.2.2.2.2.1 rfl rfl ?_
                refine X_knowr 16200 64 hs_a0 (by decide) sl_13_38 (fun b57 eb57 hs_b57 => ?_)
                refine X_callV hK [] [] lk_X12_367 (c_X12_readCond _ _ _ _ _ S g55 a0 np no nw wp b57 hs_a0 (by omega) ((hg55 a0 13 0 41 hs_a0 (by decide)).trans ((hg29 a0 13 0 41 hs_a0 (by decide)).trans ((xs_a hg27 (xne hs_a0 hs_b15 (by decide))).trans ((hg20 a0 13 0 41 hs_a0 (by decide)).trans ((xs_a hg17 (xne hs_a0 hs_wf (by decide))).trans ((xs_a hg16 (xne hs_a0 hs_b15 (by decide))).trans ((xs_a hg14 (xne hs_a0 hs_b13 (by decide))).trans enp))))))) (by omega) ((hg55 a0 13 0 43 hs_a0 (by decide)).trans ((hg29 a0 13 0 43 hs_a0 (by decide)).trans ((xs_a hg27 (xne hs_a0 hs_b15 (by decide))).trans ((hg20 a0 13 0 43 hs_a0 (by decide)).trans ((xs_a hg17 (xne hs_a0 hs_wf (by decide))).trans ((xs_a hg16 (xne hs_a0 hs_b15 (by decide))).trans ((xs_a hg14 (xne hs_a0 hs_b13 (by decide))).trans eno))))))) (by omega) ((hg55 a0 13 0 44 hs_a0 (by decide)).trans ((hg29 a0 13 0 44 hs_a0 (by decide)).trans ((xs_a hg27 (xne hs_a0 hs_b15 (by decide))).trans ((hg20 a0 13 0 44 hs_a0 (by decide)).trans ((xs_a hg17 (xne hs_a0 hs_wf (by decide))).trans ((xs_a hg16 (xne hs_a0 hs_b15 (by decide))).trans ((xs_a hg14 (xne hs_a0 hs_b13 (by decide))).trans enw))))))) ((hg55 a0 13 0 35 hs_a0 (by decide)).trans ((hg29 a0 13 0 35 hs_a0 (by decide)).trans ((xs_a hg27 (xne hs_a0 hs_b15 (by decide))).trans ((hg20 a0 13 0 35 hs_a0 (by decide)).trans ((xs_a hg17 (xne hs_a0 hs_wf (by decide))).trans ((xs_a hg16 (xne hs_a0 hs_b15 (by decide))).trans ((xs_a hg14 (xne hs_a0 hs_b13 (by decide))).trans ewp))))))) hs_wp eb57 hs_b57 (by omega)) hs_a0 ⟨by decide, rfl⟩ kd46_56.2.2.2.2.2.2.1 rfl rfl (by simp [Value.category]) (by decide) (by decide) (by decide) (by decide) (fun r58 S60 g59 pr58 qr58 hg59 => ?_)
                obtain ⟨rfl, z61, rfl, lz61, uz61, k62⟩ := pr58
                refine X_st [.int (iI z61)] rfl ?_
                obtain ⟨z63, z64, z65, ez63, lz63, uz63, ez65, lz65, uz65, ez64, lz64, uz64, Rz63, oz63⟩ := k62
                refine X_if_ne hK 198 (by omega) kd46_56.2.2.2.2.2.2.2.1 (by decide) (fun c66 => ?_) (fun c66 => ?_)
                · refine X_aloadn hK (i := 0) 2 kd46_56.2.2.2.2.2.2.2.2.2.2.1 rfl rfl ?_
                  refine X_getK hK fl_X12_65_13 hs_a0 ((hg59 a0 13 0 34 hs_a0 (by decide)).trans ((hg55 a0 13 0 34 hs_a0 (by decide)).trans ((hg29 a0 13 0 34 hs_a0 (by decide)).trans ((xs_a hg27 (xne hs_a0 hs_b15 (by decide))).trans ((hg20 a0 13 0 34 hs_a0 (by decide)).trans ((xs_a hg17 (xne hs_a0 hs_wf (by decide))).trans ((xs_a hg16 (xne hs_a0 hs_b15 (by decide))).trans ((xs_a hg14 (xne hs_a0 hs_b13 (by decide))).trans ewu)))))))) kd46_56.2.2.2.2.2.2.2.2.2.2.2 ?_
                  refine X_iloadn hK (i := 2) 0 kd46_57.1 rfl rfl ?_
                  refine X_aloadn hK (i := 0) 2 kd46_57.2.1 rfl rfl ?_
                  refine X_getK hK fl_X12_313_13 hs_a0 ez63 kd46_57.2.2.1 ?_
                  refine X_iast hK hs_wu (by decide) (by decide) sl_15800 (by omega) (by omega) (by omega) (by omega) kd46_57.2.2.2.1 (fun g67 hg67 => ?_)
                  refine X_aloadn hK (i := 0) 2 kd46_57.2.2.2.2.1 rfl rfl ?_
                  refine X_dup hK kd46_57.2.2.2.2.2.1 rfl ?_
                  refine X_getK hK fl_X12_361_13 hs_a0 ((xs_a hg67 (xne hs_a0 hs_wu (by decide))).trans ((hg59 a0 13 0 40 hs_a0 (by decide)).trans ((hg55 a0 13 0 40 hs_a0 (by decide)).trans ((hg29 a0 13 0 40 hs_a0 (by decide)).trans ((xs_a hg27 (xne hs_a0 hs_b15 (by decide))).trans ((hg20 a0 13 0 40 hs_a0 (by decide)).trans ((xs_a hg17 (xne hs_a0 hs_wf (by decide))).trans ((xs_a hg16 (xne hs_a0 hs_b15 (by decide))).trans ((xs_a hg14 (xne hs_a0 hs_b13 (by decide))).trans enl))))))))) kd46_57.2.2.2.2.2.2.1 ?_
                  refine X_iconst hK kd46_57.2.2.2.2.2.2.2.1 ?_
                  refine X_iadd hK kd46_57.2.2.2.2.2.2.2.2.1 ?_
                  refine X_puti hK fl_X12_361_13 hs_a0 (by decide) sl_13_40 (by omega) (by omega) kd46_57.2.2.2.2.2.2.2.2.2.1 (fun g68 hg68 => ?_)
                  refine X_aloadn hK (i := 0) 2 kd46_57.2.2.2.2.2.2.2.2.2.2.1 rfl rfl ?_
                  refine X_bipush hK kd46_57.2.2.2.2.2.2.2.2.2.2.2 (by decide) ?_
                  refine X_callV hK [.int (iI 59)] [] lk_X12_330 (c_X12_isSign _ _ _ _ _ S g68 a0 59 hs_a0 (by omega)) hs_a0 ⟨by decide, rfl⟩ kd46_58.1 rfl rfl (by simp [Value.category]) (by decide) (by decide) (by decide) (by decide) (fun r69 S71 g70 pr69 qr69 hg70 => ?_)
                  obtain ⟨rfl, rfl, z72, rfl, lz72, uz72⟩ := pr69
                  refine X_st [.int (iI z72)] rfl ?_
                  refine X_if_ne hK 235 (by omega) kd46_58.2.1 (by decide) (fun c73 => ?_) (fun c73 => ?_)
                  · refine X_iconst hK kd46_58.2.2.2.2.2.2.1 ?_
                    refine X_goto hK 240 kd46_58.2.2.2.2.2.2.2.1 (by decide) ?_
                    exact hret _ _ _ _ _ _ _ kd46_58.2.2.2.2.2.2.2.2.2.1 (by omega) (by omega) ⟨rfl, 1, rfl, (by omega), (by omega), ⟨z63, (nl + 1), z64, z65, ((xs_k hg68 (by decide)).trans ((xs_a hg67 (xne hs_a0 hs_wu (by decide))).trans ez63)), by omega, by omega, (xs_s hg68), by omega, by omega, ((xs_k hg68 (by decide)).trans ((xs_a hg67 (xne hs_a0 hs_wu (by decide))).trans ez65)), by omega, by omega, ((xs_k hg68 (by decide)).trans ((xs_a hg67 (xne hs_a0 hs_wu (by decide))).trans ez64)), by omega, by omega, (fun _ => ⟨by omega, by omega, xRl.s (np := np) (np1 := z63) (nl := nl) hp1 (by omega) (by omega) ⟨(show xv g68 wf (160 + nl) = np from by rw [(xv_a hg68 (xne hs_wf hs_a0 (by decide))), (xv_a hg67 (xne hs_wf hs_wu (by decide))), (xv_m hg59 hs_wf (by decide) (by decide)), (xv_m hg55 hs_wf (by decide) (by decide)), (xv_m hg29 hs_wf (by decide) (by decide)), (xv_a hg27 (xne hs_wf hs_b15 (by decide))), (xv_m hg20 hs_wf (by decide) (by decide)), xv_s hg17 (by omega)]), (fun i9 hi9 h09 => (show xv g68 wf i9 = xv g wf i9 from by rw [(xv_a hg68 (xne hs_wf hs_a0 (by decide))), (xv_a hg67 (xne hs_wf hs_wu (by decide))), (xv_m hg59 hs_wf (by decide) (by decide)), (xv_m hg55 hs_wf (by decide) (by decide)), (xv_m hg29 hs_wf (by decide) (by decide)), (xv_a hg27 (xne hs_wf hs_b15 (by decide))), (xv_m hg20 hs_wf (by decide) (by decide)), (xv_k (i := i9) hg17 (by omega) (by omega) (by omega)), (xv_a hg16 (xne hs_wf hs_b15 (by decide))), (xv_a hg14 (xne hs_wf hs_b13 (by decide)))]))⟩ ⟨(show xv g68 wu (160 + nl) = z63 from by rw [(xv_a hg68 (xne hs_wu hs_a0 (by decide))), xv_s hg67 (by omega)]), (fun i9 hi9 h09 => (show xv g68 wu i9 = xv g wu i9 from by rw [(xv_a hg68 (xne hs_wu hs_a0 (by decide))), (xv_k (i := i9) hg67 (by omega) (by omega) (by omega)), (xv_m hg59 hs_wu (by decide) (by decide)), (xv_m hg55 hs_wu (by decide) (by decide)), (xv_m hg29 hs_wu (by decide) (by decide)), (xv_a hg27 (xne hs_wu hs_b15 (by decide))), (xv_m hg20 hs_wu (by decide) (by decide)), (xv_a hg17 (xne hs_wu hs_wf (by decide))), (xv_a hg16 (xne hs_wu hs_b15 (by decide))), (xv_a hg14 (xne hs_wu hs_b13 (by decide)))]))⟩ (fun i q1 q2 => ((show xv g68 wp i = xv g59 wp i from by rw [(xv_a hg68 (xne hs_wp hs_a0 (by decide))), (xv_a hg67 (xne hs_wp hs_wu (by decide)))])).trans ((oz63 i q1 (by omega)).trans ((show xv g55 wp i = xv g wp i from by rw [(xv_m hg55 hs_wp (by decide) (by decide)), (xv_m hg29 hs_wp (by decide) (by decide)), (xv_a hg27 (xne hs_wp hs_b15 (by decide))), (xv_m hg20 hs_wp (by decide) (by decide)), (xv_a hg17 (xne hs_wp hs_wf (by decide))), (xv_a hg16 (xne hs_wp hs_b15 (by decide))), (xv_a hg14 (xne hs_wp hs_b13 (by decide)))])))) (by omega) ((by rw [(Eq.trans (xv_a hg68 (xne hs_wp hs_a0 (by decide))) (xv_a hg67 (xne hs_wp hs_wu (by decide))))]; exact (Rz63 (by omega)).2.2))⟩), (fun i q1 q2 => (show xv g68 wf i = xv g wf i from by rw [(xv_a hg68 (xne hs_wf hs_a0 (by decide))), (xv_a hg67 (xne hs_wf hs_wu (by decide))), (xv_m hg59 hs_wf (by decide) (by decide)), (xv_m hg55 hs_wf (by decide) (by decide)), (xv_m hg29 hs_wf (by decide) (by decide)), (xv_a hg27 (xne hs_wf hs_b15 (by decide))), (xv_m hg20 hs_wf (by decide) (by decide)), (xv_k (i := i) hg17 (by omega) (by omega) (by omega)), (xv_a hg16 (xne hs_wf hs_b15 (by decide))), (xv_a hg14 (xne hs_wf hs_b13 (by decide)))])), (fun i q1 q2 => (show xv g68 wu i = xv g wu i from by rw [(xv_a hg68 (xne hs_wu hs_a0 (by decide))), (xv_k (i := i) hg67 (by omega) (by omega) (by omega)), (xv_m hg59 hs_wu (by decide) (by decide)), (xv_m hg55 hs_wu (by decide) (by decide)), (xv_m hg29 hs_wu (by decide) (by decide)), (xv_a hg27 (xne hs_wu hs_b15 (by decide))), (xv_m hg20 hs_wu (by decide) (by decide)), (xv_a hg17 (xne hs_wu hs_wf (by decide))), (xv_a hg16 (xne hs_wu hs_b15 (by decide))), (xv_a hg14 (xne hs_wu hs_b13 (by decide)))])), (fun i q1 q2 => ((show xv g68 wp i = xv g59 wp i from by rw [(xv_a hg68 (xne hs_wp hs_a0 (by decide))), (xv_a hg67 (xne hs_wp hs_wu (by decide)))])).trans ((oz63 i q1 (by omega)).trans ((show xv g55 wp i = xv g wp i from by rw [(xv_m hg55 hs_wp (by decide) (by decide)), (xv_m hg29 hs_wp (by decide) (by decide)), (xv_a hg27 (xne hs_wp hs_b15 (by decide))), (xv_m hg20 hs_wp (by decide) (by decide)), (xv_a hg17 (xne hs_wp hs_wf (by decide))), (xv_a hg16 (xne hs_wp hs_b15 (by decide))), (xv_a hg14 (xne hs_wp hs_b13 (by decide)))]))))⟩⟩ (Nat.le_refl _) (Nat.le_refl _)
                  · refine X_aloadn hK (i := 0) 2 kd46_58.2.2.1 rfl rfl ?_
                    refine X_iconst hK kd46_58.2.2.2.1 ?_
                    refine X_callV hK [.int (iI 1)] [] lk_X12_333 (c2_bad _ _ _ _ _ S g68 a0 1 hs_a0 (by omega)) hs_a0 ⟨by decide, rfl⟩ kd46_58.2.2.2.2.1 rfl rfl (by simp [Value.category]) (by decide) (by decide) (by decide) (by decide) (fun r74 S76 g75 pr74 qr74 hg75 => ?_)
                    obtain ⟨rfl, z77, rfl, lz77, uz77, k78⟩ := pr74
                    refine X_st [.int (iI z77)] rfl ?_
                    refine X_if_eq hK 239 (by omega) kd46_58.2.2.2.2.2.1 (by decide) (fun c79 => ?_) (fun c79 => ?_)
                    · refine X_iconst hK kd46_58.2.2.2.2.2.2.2.2.1 ?_
                      exact hret _ _ _ _ _ _ _ kd46_58.2.2.2.2.2.2.2.2.2.1 (by omega) (by omega) ⟨rfl, 0, rfl, (by omega), (by omega), ⟨z63, (nl + 1), z64, z65, ((hg75 a0 13 0 41 hs_a0 (by decide)).trans ((xs_k hg68 (by decide)).trans ((xs_a hg67 (xne hs_a0 hs_wu (by decide))).trans ez63))), by omega, by omega, ((hg75 a0 13 0 40 hs_a0 (by decide)).trans (xs_s hg68)), by omega, by omega, ((hg75 a0 13 0 43 hs_a0 (by decide)).trans ((xs_k hg68 (by decide)).trans ((xs_a hg67 (xne hs_a0 hs_wu (by decide))).trans ez65))), by omega, by omega, ((hg75 a0 13 0 44 hs_a0 (by decide)).trans ((xs_k hg68 (by decide)).trans ((xs_a hg67 (xne hs_a0 hs_wu (by decide))).trans ez64))), by omega, by omega, (fun h => by omega), (fun i q1 q2 => (show xv g75 wf i = xv g wf i from by rw [(xv_m hg75 hs_wf (by decide) (by decide)), (xv_a hg68 (xne hs_wf hs_a0 (by decide))), (xv_a hg67 (xne hs_wf hs_wu (by decide))), (xv_m hg59 hs_wf (by decide) (by decide)), (xv_m hg55 hs_wf (by decide) (by decide)), (xv_m hg29 hs_wf (by decide) (by decide)), (xv_a hg27 (xne hs_wf hs_b15 (by decide))), (xv_m hg20 hs_wf (by decide) (by decide)), (xv_k (i := i) hg17 (by omega) (by omega) (by omega)), (xv_a hg16 (xne hs_wf hs_b15 (by decide))), (xv_a hg14 (xne hs_wf hs_b13 (by decide)))])), (fun i q1 q2 => (show xv g75 wu i = xv g wu i from by rw [(xv_m hg75 hs_wu (by decide) (by decide)), (xv_a hg68 (xne hs_wu hs_a0 (by decide))), (xv_k (i := i) hg67 (by omega) (by omega) (by omega)), (xv_m hg59 hs_wu (by decide) (by decide)), (xv_m hg55 hs_wu (by decide) (by decide)), (xv_m hg29 hs_wu (by decide) (by decide)), (xv_a hg27 (xne hs_wu hs_b15 (by decide))), (xv_m hg20 hs_wu (by decide) (by decide)), (xv_a hg17 (xne hs_wu hs_wf (by decide))), (xv_a hg16 (xne hs_wu hs_b15 (by decide))), (xv_a hg14 (xne hs_wu hs_b13 (by decide)))])), (fun i q1 q2 => ((show xv g75 wp i = xv g59 wp i from by rw [(xv_m hg75 hs_wp (by decide) (by decide)), (xv_a hg68 (xne hs_wp hs_a0 (by decide))), (xv_a hg67 (xne hs_wp hs_wu (by decide)))])).trans ((oz63 i q1 (by omega)).trans ((show xv g55 wp i = xv g wp i from by rw [(xv_m hg55 hs_wp (by decide) (by decide)), (xv_m hg29 hs_wp (by decide) (by decide)), (xv_a hg27 (xne hs_wp hs_b15 (by decide))), (xv_m hg20 hs_wp (by decide) (by decide)), (xv_a hg17 (xne hs_wp hs_wf (by decide))), (xv_a hg16 (xne hs_wp hs_b15 (by decide))), (xv_a hg14 (xne hs_wp hs_b13 (by decide)))]))))⟩⟩ (Nat.le_refl _) (Nat.le_refl _)
                    · refine X_iconst hK kd46_58.2.2.2.2.2.2.1 ?_
                      refine X_goto hK 240 kd46_58.2.2.2.2.2.2.2.1 (by decide) ?_
                      exact hret _ _ _ _ _ _ _ kd46_58.2.2.2.2.2.2.2.2.2.1 (by omega) (by omega) ⟨rfl, 1, rfl, (by omega), (by omega), ⟨z63, (nl + 1), z64, z65, ((hg75 a0 13 0 41 hs_a0 (by decide)).trans ((xs_k hg68 (by decide)).trans ((xs_a hg67 (xne hs_a0 hs_wu (by decide))).trans ez63))), by omega, by omega, ((hg75 a0 13 0 40 hs_a0 (by decide)).trans (xs_s hg68)), by omega, by omega, ((hg75 a0 13 0 43 hs_a0 (by decide)).trans ((xs_k hg68 (by decide)).trans ((xs_a hg67 (xne hs_a0 hs_wu (by decide))).trans ez65))), by omega, by omega, ((hg75 a0 13 0 44 hs_a0 (by decide)).trans ((xs_k hg68 (by decide)).trans ((xs_a hg67 (xne hs_a0 hs_wu (by decide))).trans ez64))), by omega, by omega, (fun _ => ⟨by omega, by omega, xRl.s (np := np) (np1 := z63) (nl := nl) hp1 (by omega) (by omega) ⟨(show xv g75 wf (160 + nl) = np from by rw [(xv_m hg75 hs_wf (by decide) (by decide)), (xv_a hg68 (xne hs_wf hs_a0 (by decide))), (xv_a hg67 (xne hs_wf hs_wu (by decide))), (xv_m hg59 hs_wf (by decide) (by decide)), (xv_m hg55 hs_wf (by decide) (by decide)), (xv_m hg29 hs_wf (by decide) (by decide)), (xv_a hg27 (xne hs_wf hs_b15 (by decide))), (xv_m hg20 hs_wf (by decide) (by decide)), xv_s hg17 (by omega)]), (fun i9 hi9 h09 => (show xv g75 wf i9 = xv g wf i9 from by rw [(xv_m hg75 hs_wf (by decide) (by decide)), (xv_a hg68 (xne hs_wf hs_a0 (by decide))), (xv_a hg67 (xne hs_wf hs_wu (by decide))), (xv_m hg59 hs_wf (by decide) (by decide)), (xv_m hg55 hs_wf (by decide) (by decide)), (xv_m hg29 hs_wf (by decide) (by decide)), (xv_a hg27 (xne hs_wf hs_b15 (by decide))), (xv_m hg20 hs_wf (by decide) (by decide)), (xv_k (i := i9) hg17 (by omega) (by omega) (by omega)), (xv_a hg16 (xne hs_wf hs_b15 (by decide))), (xv_a hg14 (xne hs_wf hs_b13 (by decide)))]))⟩ ⟨(show xv g75 wu (160 + nl) = z63 from by rw [(xv_m hg75 hs_wu (by decide) (by decide)), (xv_a hg68 (xne hs_wu hs_a0 (by decide))), xv_s hg67 (by omega)]), (fun i9 hi9 h09 => (show xv g75 wu i9 = xv g wu i9 from by rw [(xv_m hg75 hs_wu (by decide) (by decide)), (xv_a hg68 (xne hs_wu hs_a0 (by decide))), (xv_k (i := i9) hg67 (by omega) (by omega) (by omega)), (xv_m hg59 hs_wu (by decide) (by decide)), (xv_m hg55 hs_wu (by decide) (by decide)), (xv_m hg29 hs_wu (by decide) (by decide)), (xv_a hg27 (xne hs_wu hs_b15 (by decide))), (xv_m hg20 hs_wu (by decide) (by decide)), (xv_a hg17 (xne hs_wu hs_wf (by decide))), (xv_a hg16 (xne hs_wu hs_b15 (by decide))), (xv_a hg14 (xne hs_wu hs_b13 (by decide)))]))⟩ (fun i q1 q2 => ((show xv g75 wp i = xv g59 wp i from by rw [(xv_m hg75 hs_wp (by decide) (by decide)), (xv_a hg68 (xne hs_wp hs_a0 (by decide))), (xv_a hg67 (xne hs_wp hs_wu (by decide)))])).trans ((oz63 i q1 (by omega)).trans ((show xv g55 wp i = xv g wp i from by rw [(xv_m hg55 hs_wp (by decide) (by decide)), (xv_m hg29 hs_wp (by decide) (by decide)), (xv_a hg27 (xne hs_wp hs_b15 (by decide))), (xv_m hg20 hs_wp (by decide) (by decide)), (xv_a hg17 (xne hs_wp hs_wf (by decide))), (xv_a hg16 (xne hs_wp hs_b15 (by decide))), (xv_a hg14 (xne hs_wp hs_b13 (by decide)))])))) (by omega) ((by rw [(Eq.trans (Eq.trans (xv_m hg75 hs_wp (by decide) (by decide)) (xv_a hg68 (xne hs_wp hs_a0 (by decide)))) (xv_a hg67 (xne hs_wp hs_wu (by decide))))]; exact (Rz63 (by omega)).2.2))⟩), (fun i q1 q2 => (show xv g75 wf i = xv g wf i from by rw [(xv_m hg75 hs_wf (by decide) (by decide)), (xv_a hg68 (xne hs_wf hs_a0 (by decide))), (xv_a hg67 (xne hs_wf hs_wu (by decide))), (xv_m hg59 hs_wf (by decide) (by decide)), (xv_m hg55 hs_wf (by decide) (by decide)), (xv_m hg29 hs_wf (by decide) (by decide)), (xv_a hg27 (xne hs_wf hs_b15 (by decide))), (xv_m hg20 hs_wf (by decide) (by decide)), (xv_k (i := i) hg17 (by omega) (by omega) (by omega)), (xv_a hg16 (xne hs_wf hs_b15 (by decide))), (xv_a hg14 (xne hs_wf hs_b13 (by decide)))])), (fun i q1 q2 => (show xv g75 wu i = xv g wu i from by rw [(xv_m hg75 hs_wu (by decide) (by decide)), (xv_a hg68 (xne hs_wu hs_a0 (by decide))), (xv_k (i := i) hg67 (by omega) (by omega) (by omega)), (xv_m hg59 hs_wu (by decide) (by decide)), (xv_m hg55 hs_wu (by decide) (by decide)), (xv_m hg29 hs_wu (by decide) (by decide)), (xv_a hg27 (xne hs_wu hs_b15 (by decide))), (xv_m hg20 hs_wu (by decide) (by decide)), (xv_a hg17 (xne hs_wu hs_wf (by decide))), (xv_a hg16 (xne hs_wu hs_b15 (by decide))), (xv_a hg14 (xne hs_wu hs_b13 (by decide)))])), (fun i q1 q2 => ((show xv g75 wp i = xv g59 wp i from by rw [(xv_m hg75 hs_wp (by decide) (by decide)), (xv_a hg68 (xne hs_wp hs_a0 (by decide))), (xv_a hg67 (xne hs_wp hs_wu (by decide)))])).trans ((oz63 i q1 (by omega)).trans ((show xv g55 wp i = xv g wp i from by rw [(xv_m hg55 hs_wp (by decide) (by decide)), (xv_m hg29 hs_wp (by decide) (by decide)), (xv_a hg27 (xne hs_wp hs_b15 (by decide))), (xv_m hg20 hs_wp (by decide) (by decide)), (xv_a hg17 (xne hs_wp hs_wf (by decide))), (xv_a hg16 (xne hs_wp hs_b15 (by decide))), (xv_a hg14 (xne hs_wp hs_b13 (by decide)))]))))⟩⟩ (Nat.le_refl _) (Nat.le_refl _)
                · refine X_iconst hK kd46_56.2.2.2.2.2.2.2.2.1 ?_
                  exact hret _ _ _ _ _ _ _ kd46_56.2.2.2.2.2.2.2.2.2.1 (by omega) (by omega) ⟨rfl, 0, rfl, (by omega), (by omega), ⟨z63, nl, z64, z65, ez63, by omega, by omega, ((hg59 a0 13 0 40 hs_a0 (by decide)).trans ((hg55 a0 13 0 40 hs_a0 (by decide)).trans ((hg29 a0 13 0 40 hs_a0 (by decide)).trans ((xs_a hg27 (xne hs_a0 hs_b15 (by decide))).trans ((hg20 a0 13 0 40 hs_a0 (by decide)).trans ((xs_a hg17 (xne hs_a0 hs_wf (by decide))).trans ((xs_a hg16 (xne hs_a0 hs_b15 (by decide))).trans ((xs_a hg14 (xne hs_a0 hs_b13 (by decide))).trans enl)))))))), by omega, by omega, ez65, by omega, by omega, ez64, by omega, by omega, (fun h => by omega), (fun i q1 q2 => (show xv g59 wf i = xv g wf i from by rw [(xv_m hg59 hs_wf (by decide) (by decide)), (xv_m hg55 hs_wf (by decide) (by decide)), (xv_m hg29 hs_wf (by decide) (by decide)), (xv_a hg27 (xne hs_wf hs_b15 (by decide))), (xv_m hg20 hs_wf (by decide) (by decide)), (xv_k (i := i) hg17 (by omega) (by omega) (by omega)), (xv_a hg16 (xne hs_wf hs_b15 (by decide))), (xv_a hg14 (xne hs_wf hs_b13 (by decide)))])), (fun i q1 q2 => (show xv g59 wu i = xv g wu i from by rw [(xv_m hg59 hs_wu (by decide) (by decide)), (xv_m hg55 hs_wu (by decide) (by decide)), (xv_m hg29 hs_wu (by decide) (by decide)), (xv_a hg27 (xne hs_wu hs_b15 (by decide))), (xv_m hg20 hs_wu (by decide) (by decide)), (xv_a hg17 (xne hs_wu hs_wf (by decide))), (xv_a hg16 (xne hs_wu hs_b15 (by decide))), (xv_a hg14 (xne hs_wu hs_b13 (by decide)))])), (fun i q1 q2 => ((show xv g59 wp i = xv g59 wp i from rfl)).trans ((oz63 i q1 (by omega)).trans ((show xv g55 wp i = xv g wp i from by rw [(xv_m hg55 hs_wp (by decide) (by decide)), (xv_m hg29 hs_wp (by decide) (by decide)), (xv_a hg27 (xne hs_wp hs_b15 (by decide))), (xv_m hg20 hs_wp (by decide) (by decide)), (xv_a hg17 (xne hs_wp hs_wf (by decide))), (xv_a hg16 (xne hs_wp hs_b15 (by decide))), (xv_a hg14 (xne hs_wp hs_b13 (by decide)))]))))⟩⟩ (Nat.le_refl _) (Nat.le_refl _)
            · refine X_aloadn hK (i := 0) 2 kd46_54.2.2.2.1 rfl rfl ?_
              refine X_iconst hK kd46_54.2.2.2.2.1 ?_
              refine X_callV hK [.int (iI 2)] [] lk_X12_333 (c2_bad _ _ _ _ _ S g20 a0 2 hs_a0 (by omega)) hs_a0 ⟨by decide, rfl⟩ kd46_54.2.2.2.2.2.1 rfl rfl (by simp [Value.category]) (by decide) (by decide) (by decide) (by decide) (fun r80 S82 g81 pr80 qr80 hg81 => ?_)
              obtain ⟨rfl, z83, rfl, lz83, uz83, k84⟩ := pr80
              refine X_st [.int (iI z83)] rfl ?_
              exact hret _ _ _ _ _ _ _ kd46_54.2.2.2.2.2.2.1 (by omega) (by omega) ⟨rfl, z83, rfl, (by omega), (by omega), ⟨np, nl, nw, no, ((hg81 a0 13 0 41 hs_a0 (by decide)).trans ((hg20 a0 13 0 41 hs_a0 (by decide)).trans ((xs_a hg17 (xne hs_a0 hs_wf (by decide))).trans ((xs_a hg16 (xne hs_a0 hs_b15 (by decide))).trans ((xs_a hg14 (xne hs_a0 hs_b13 (by decide))).trans enp))))), by omega, by omega, ((hg81 a0 13 0 40 hs_a0 (by decide)).trans ((hg20 a0 13 0 40 hs_a0 (by decide)).trans ((xs_a hg17 (xne hs_a0 hs_wf (by decide))).trans ((xs_a hg16 (xne hs_a0 hs_b15 (by decide))).trans ((xs_a hg14 (xne hs_a0 hs_b13 (by decide))).trans enl))))), by omega, by omega, ((hg81 a0 13 0 43 hs_a0 (by decide)).trans ((hg20 a0 13 0 43 hs_a0 (by decide)).trans ((xs_a hg17 (xne hs_a0 hs_wf (by decide))).trans ((xs_a hg16 (xne hs_a0 hs_b15 (by decide))).trans ((xs_a hg14 (xne hs_a0 hs_b13 (by decide))).trans eno))))), by omega, by omega, ((hg81 a0 13 0 44 hs_a0 (by decide)).trans ((hg20 a0 13 0 44 hs_a0 (by decide)).trans ((xs_a hg17 (xne hs_a0 hs_wf (by decide))).trans ((xs_a hg16 (xne hs_a0 hs_b15 (by decide))).trans ((xs_a hg14 (xne hs_a0 hs_b13 (by decide))).trans enw))))), by omega, by omega, (fun h => by omega), (fun i q1 q2 => (show xv g81 wf i = xv g wf i from by rw [(xv_m hg81 hs_wf (by decide) (by decide)), (xv_m hg20 hs_wf (by decide) (by decide)), (xv_k (i := i) hg17 (by omega) (by omega) (by omega)), (xv_a hg16 (xne hs_wf hs_b15 (by decide))), (xv_a hg14 (xne hs_wf hs_b13 (by decide)))])), (fun i q1 q2 => (show xv g81 wu i = xv g wu i from by rw [(xv_m hg81 hs_wu (by decide) (by decide)), (xv_m hg20 hs_wu (by decide) (by decide)), (xv_a hg17 (xne hs_wu hs_wf (by decide))), (xv_a hg16 (xne hs_wu hs_b15 (by decide))), (xv_a hg14 (xne hs_wu hs_b13 (by decide)))])), (fun i q1 q2 => (show xv g81 wp i = xv g wp i from by rw [(xv_m hg81 hs_wp (by decide) (by decide)), (xv_m hg20 hs_wp (by decide) (by decide)), (xv_a hg17 (xne hs_wp hs_wf (by decide))), (xv_a hg16 (xne hs_wp hs_b15 (by decide))), (xv_a hg14 (xne hs_wp hs_b13 (by decide)))]))⟩⟩ (Nat.le_refl _) (Nat.le_refl _)
          · refine X_aloadn hK (i := 0) 2 kd46_53.2.2.2.2.2.2.2.1 rfl rfl ?_
            refine X_iconst hK kd46_53.2.2.2.2.2.2.2.2.1 ?_
            refine X_callV hK [.int (iI 1)] [] lk_X12_333 (c2_bad _ _ _ _ _ S g20 a0 1 hs_a0 (by omega)) hs_a0 ⟨by decide, rfl⟩ kd46_53.2.2.2.2.2.2.2.2.2.1 rfl rfl (by simp [Value.category]) (by decide) (by decide) (by decide) (by decide) (fun r85 S87 g86 pr85 qr85 hg86 => ?_)
            obtain ⟨rfl, z88, rfl, lz88, uz88, k89⟩ := pr85
            refine X_st [.int (iI z88)] rfl ?_
            exact hret _ _ _ _ _ _ _ kd46_53.2.2.2.2.2.2.2.2.2.2.1 (by omega) (by omega) ⟨rfl, z88, rfl, (by omega), (by omega), ⟨np, nl, nw, no, ((hg86 a0 13 0 41 hs_a0 (by decide)).trans ((hg20 a0 13 0 41 hs_a0 (by decide)).trans ((xs_a hg17 (xne hs_a0 hs_wf (by decide))).trans ((xs_a hg16 (xne hs_a0 hs_b15 (by decide))).trans ((xs_a hg14 (xne hs_a0 hs_b13 (by decide))).trans enp))))), by omega, by omega, ((hg86 a0 13 0 40 hs_a0 (by decide)).trans ((hg20 a0 13 0 40 hs_a0 (by decide)).trans ((xs_a hg17 (xne hs_a0 hs_wf (by decide))).trans ((xs_a hg16 (xne hs_a0 hs_b15 (by decide))).trans ((xs_a hg14 (xne hs_a0 hs_b13 (by decide))).trans enl))))), by omega, by omega, ((hg86 a0 13 0 43 hs_a0 (by decide)).trans ((hg20 a0 13 0 43 hs_a0 (by decide)).trans ((xs_a hg17 (xne hs_a0 hs_wf (by decide))).trans ((xs_a hg16 (xne hs_a0 hs_b15 (by decide))).trans ((xs_a hg14 (xne hs_a0 hs_b13 (by decide))).trans eno))))), by omega, by omega, ((hg86 a0 13 0 44 hs_a0 (by decide)).trans ((hg20 a0 13 0 44 hs_a0 (by decide)).trans ((xs_a hg17 (xne hs_a0 hs_wf (by decide))).trans ((xs_a hg16 (xne hs_a0 hs_b15 (by decide))).trans ((xs_a hg14 (xne hs_a0 hs_b13 (by decide))).trans enw))))), by omega, by omega, (fun h => by omega), (fun i q1 q2 => (show xv g86 wf i = xv g wf i from by rw [(xv_m hg86 hs_wf (by decide) (by decide)), (xv_m hg20 hs_wf (by decide) (by decide)), (xv_k (i := i) hg17 (by omega) (by omega) (by omega)), (xv_a hg16 (xne hs_wf hs_b15 (by decide))), (xv_a hg14 (xne hs_wf hs_b13 (by decide)))])), (fun i q1 q2 => (show xv g86 wu i = xv g wu i from by rw [(xv_m hg86 hs_wu (by decide) (by decide)), (xv_m hg20 hs_wu (by decide) (by decide)), (xv_a hg17 (xne hs_wu hs_wf (by decide))), (xv_a hg16 (xne hs_wu hs_b15 (by decide))), (xv_a hg14 (xne hs_wu hs_b13 (by decide)))])), (fun i q1 q2 => (show xv g86 wp i = xv g wp i from by rw [(xv_m hg86 hs_wp (by decide) (by decide)), (xv_m hg20 hs_wp (by decide) (by decide)), (xv_a hg17 (xne hs_wp hs_wf (by decide))), (xv_a hg16 (xne hs_wp hs_b15 (by decide))), (xv_a hg14 (xne hs_wp hs_b13 (by decide)))]))⟩⟩ (Nat.le_refl _) (Nat.le_refl _)
        · refine X_aloadn hK (i := 0) 2 kd46_52.2.2.2.2.1 rfl rfl ?_
          refine X_callV hK [] [] lk_X12_326 (c_X12_isNot _ _ _ _ _ S g20 a0 hs_a0) hs_a0 ⟨by decide, rfl⟩ kd46_52.2.2.2.2.2.1 rfl rfl (by simp [Value.category]) (by decide) (by decide) (by decide) (by decide) (fun r90 S92 g91 pr90 qr90 hg91 => ?_)
          obtain ⟨rfl, rfl, z93, rfl, lz93, uz93⟩ := pr90
          refine X_st [.int (iI z93)] rfl ?_
          refine X_if_eq hK 163 (by omega) kd46_52.2.2.2.2.2.2.1 (by decide) (fun c94 => ?_) (fun c94 => ?_)
          · refine X_iloadn hK (i := 1) 1 kd46_55.2.2.2.1 rfl rfl ?_
            refine X_iconst hK kd46_55.2.2.2.2.1 ?_
            refine X_icmp_eq hK 198 (by omega) (by omega) kd46_55.2.2.2.2.2.1 (by decide) (fun c95 => False.elim (by omega)) (fun c95 => ?_)
            refine X_aloadn hK (i := 0) 2 kd46_55.2.2.2.2.2.2.1 rfl rfl ?_
            refine X_bipush hK kd46_55.2.2.2.2.2.2.2.1 (by decide) ?_
            refine X_bipush hK kd46_55.2.2.2.2.2.2.2.2.1 (by decide) ?_
            refine X_iconst hK kd46_55.2.2.2.2.2.2.2.2.2.1 ?_
            refine X_iconst hK kd46_55.2.2.2.2.2.2.2.2.2.2.1 ?_
            refine X_iconst hK kd46_55.2.2.2.2.2.2.2.2.2.2.2 ?_
            refine X_callS hK [.int (iI 105), .int (iI 102), .int (iI 0), .int (iI 0), .int (iI 0)] [.ref a0] lk_X12_297 (c_X12_spelt _ _ _ _ _ S g20 105 102 0 0 0 (by omega) (by omega) (by omega) (by omega) (by omega)) kd46_56.1 rfl rfl (by simp [Value.category]) (by decide) (by decide) (by decide) (by decide) (fun r96 S98 g97 pr96 qr96 hg97 => ?_)
            obtain ⟨rfl, rfl, y99, rfl⟩ := pr96
            refine X_st [.long y99, .ref a0] rfl ?_
            refine X_callV hK [.long y99] [] lk_X12_301 (c_X12_isKey _ _ _ _ _ S g20 a0 y99 hs_a0) hs_a0 ⟨by decide, rfl⟩ kd46_56.2.1 rfl rfl (by simp [Value.category]) (by decide) (by decide) (by decide) (by decide) (fun r100 S102 g101 pr100 qr100 hg101 => ?_)
            obtain ⟨rfl, rfl, z103, rfl, lz103, uz103⟩ := pr100
            refine X_st [.int (iI z103)] rfl ?_
            refine X_if_eq hK 198 (by omega) kd46_56.2.2.1 (by decide) (fun c104 => ?_) (fun c104 => ?_)
            · refine X_aloadn hK (i := 0) 2 kd46_56.2.2.2.2.2.2.2.2.2.2.1 rfl rfl ?_
              refine X_getK hK fl_X12_65_13 hs_a0 ((hg20 a0 13 0 34 hs_a0 (by decide)).trans ((xs_a hg17 (xne hs_a0 hs_wf (by decide))).trans ((xs_a hg16 (xne hs_a0 hs_b15 (by decide))).trans ((xs_a hg14 (xne hs_a0 hs_b13 (by decide))).trans ewu)))) kd46_56.2.2.2.2.2.2.2.2.2.2.2 ?_
              refine X_iloadn hK (i := 2) 0 kd46_57.1 rfl rfl ?_
              refine X_aloadn hK (i := 0) 2 kd46_57.2.1 rfl rfl ?_
              refine X_getK hK fl_X12_313_13 hs_a0 ((hg20 a0 13 0 41 hs_a0 (by decide)).trans ((xs_a hg17 (xne hs_a0 hs_wf (by decide))).trans ((xs_a hg16 (xne hs_a0 hs_b15 (by decide))).trans ((xs_a hg14 (xne hs_a0 hs_b13 (by decide))).trans enp)))) kd46_57.2.2.1 ?_
              refine X_iast hK hs_wu (by decide) (by decide) sl_15800 (by omega) (by omega) (by omega) (by omega) kd46_57.2.2.2.1 (fun g105 hg105 => ?_)
              refine X_aloadn hK (i := 0) 2 kd46_57.2.2.2.2.1 rfl rfl ?_
              refine X_dup hK kd46_57.2.2.2.2.2.1 rfl ?_
              refine X_getK hK fl_X12_361_13 hs_a0 ((xs_a hg105 (xne hs_a0 hs_wu (by decide))).trans ((hg20 a0 13 0 40 hs_a0 (by decide)).trans ((xs_a hg17 (xne hs_a0 hs_wf (by decide))).trans ((xs_a hg16 (xne hs_a0 hs_b15 (by decide))).trans ((xs_a hg14 (xne hs_a0 hs_b13 (by decide))).trans enl))))) kd46_57.2.2.2.2.2.2.1 ?_
              refine X_iconst hK kd46_57.2.2.2.2.2.2.2.1 ?_
              refine X_iadd hK kd46_57.2.2.2.2.2.2.2.2.1 ?_
              refine X_puti hK fl_X12_361_13 hs_a0 (by decide) sl_13_40 (by omega) (by omega) kd46_57.2.2.2.2.2.2.2.2.2.1 (fun g106 hg106 => ?_)
              refine X_aloadn hK (i := 0) 2 kd46_57.2.2.2.2.2.2.2.2.2.2.1 rfl rfl ?_
              refine X_bipush hK kd46_57.2.2.2.2.2.2.2.2.2.2.2 (by decide) ?_
              refine X_callV hK [.int (iI 59)] [] lk_X12_330 (c_X12_isSign _ _ _ _ _ S g106 a0 59 hs_a0 (by omega)) hs_a0 ⟨by decide, rfl⟩ kd46_58.1 rfl rfl (by simp [Value.category]) (by decide) (by decide) (by decide) (by decide) (fun r107 S109 g108 pr107 qr107 hg108 => ?_)
              obtain ⟨rfl, rfl, z110, rfl, lz110, uz110⟩ := pr107
              refine X_st [.int (iI z110)] rfl ?_
              refine X_if_ne hK 235 (by omega) kd46_58.2.1 (by decide) (fun c111 => ?_) (fun c111 => ?_)
              · refine X_iconst hK kd46_58.2.2.2.2.2.2.1 ?_
                refine X_goto hK 240 kd46_58.2.2.2.2.2.2.2.1 (by decide) ?_
                exact hret _ _ _ _ _ _ _ kd46_58.2.2.2.2.2.2.2.2.2.1 (by omega) (by omega) ⟨rfl, 1, rfl, (by omega), (by omega), ⟨np, (nl + 1), nw, no, ((xs_k hg106 (by decide)).trans ((xs_a hg105 (xne hs_a0 hs_wu (by decide))).trans ((hg20 a0 13 0 41 hs_a0 (by decide)).trans ((xs_a hg17 (xne hs_a0 hs_wf (by decide))).trans ((xs_a hg16 (xne hs_a0 hs_b15 (by decide))).trans ((xs_a hg14 (xne hs_a0 hs_b13 (by decide))).trans enp)))))), by omega, by omega, (xs_s hg106), by omega, by omega, ((xs_k hg106 (by decide)).trans ((xs_a hg105 (xne hs_a0 hs_wu (by decide))).trans ((hg20 a0 13 0 43 hs_a0 (by decide)).trans ((xs_a hg17 (xne hs_a0 hs_wf (by decide))).trans ((xs_a hg16 (xne hs_a0 hs_b15 (by decide))).trans ((xs_a hg14 (xne hs_a0 hs_b13 (by decide))).trans eno)))))), by omega, by omega, ((xs_k hg106 (by decide)).trans ((xs_a hg105 (xne hs_a0 hs_wu (by decide))).trans ((hg20 a0 13 0 44 hs_a0 (by decide)).trans ((xs_a hg17 (xne hs_a0 hs_wf (by decide))).trans ((xs_a hg16 (xne hs_a0 hs_b15 (by decide))).trans ((xs_a hg14 (xne hs_a0 hs_b13 (by decide))).trans enw)))))), by omega, by omega, (fun _ => ⟨by omega, by omega, xRl.s (np := np) (np1 := np) (nl := nl) hp1 (by omega) (by omega) ⟨(show xv g106 wf (160 + nl) = np from by rw [(xv_a hg106 (xne hs_wf hs_a0 (by decide))), (xv_a hg105 (xne hs_wf hs_wu (by decide))), (xv_m hg20 hs_wf (by decide) (by decide)), xv_s hg17 (by omega)]), (fun i9 hi9 h09 => (show xv g106 wf i9 = xv g wf i9 from by rw [(xv_a hg106 (xne hs_wf hs_a0 (by decide))), (xv_a hg105 (xne hs_wf hs_wu (by decide))), (xv_m hg20 hs_wf (by decide) (by decide)), (xv_k (i := i9) hg17 (by omega) (by omega) (by omega)), (xv_a hg16 (xne hs_wf hs_b15 (by decide))), (xv_a hg14 (xne hs_wf hs_b13 (by decide)))]))⟩ ⟨(show xv g106 wu (160 + nl) = np from by rw [(xv_a hg106 (xne hs_wu hs_a0 (by decide))), xv_s hg105 (by omega)]), (fun i9 hi9 h09 => (show xv g106 wu i9 = xv g wu i9 from by rw [(xv_a hg106 (xne hs_wu hs_a0 (by decide))), (xv_k (i := i9) hg105 (by omega) (by omega) (by omega)), (xv_m hg20 hs_wu (by decide) (by decide)), (xv_a hg17 (xne hs_wu hs_wf (by decide))), (xv_a hg16 (xne hs_wu hs_b15 (by decide))), (xv_a hg14 (xne hs_wu hs_b13 (by decide)))]))⟩ (fun i q1 q2 => (show xv g106 wp i = xv g wp i from by rw [(xv_a hg106 (xne hs_wp hs_a0 (by decide))), (xv_a hg105 (xne hs_wp hs_wu (by decide))), (xv_m hg20 hs_wp (by decide) (by decide)), (xv_a hg17 (xne hs_wp hs_wf (by decide))), (xv_a hg16 (xne hs_wp hs_b15 (by decide))), (xv_a hg14 (xne hs_wp hs_b13 (by decide)))])) (by omega) (xhf_0 _ _ _)⟩), (fun i q1 q2 => (show xv g106 wf i = xv g wf i from by rw [(xv_a hg106 (xne hs_wf hs_a0 (by decide))), (xv_a hg105 (xne hs_wf hs_wu (by decide))), (xv_m hg20 hs_wf (by decide) (by decide)), (xv_k (i := i) hg17 (by omega) (by omega) (by omega)), (xv_a hg16 (xne hs_wf hs_b15 (by decide))), (xv_a hg14 (xne hs_wf hs_b13 (by decide)))])), (fun i q1 q2 => (show xv g106 wu i = xv g wu i from by rw [(xv_a hg106 (xne hs_wu hs_a0 (by decide))), (xv_k (i := i) hg105 (by omega) (by omega) (by omega)), (xv_m hg20 hs_wu (by decide) (by decide)), (xv_a hg17 (xne hs_wu hs_wf (by decide))), (xv_a hg16 (xne hs_wu hs_b15 (by decide))), (xv_a hg14 (xne hs_wu hs_b13 (by decide)))])), (fun i q1 q2 => (show xv g106 wp i = xv g wp i from by rw [(xv_a hg106 (xne hs_wp hs_a0 (by decide))), (xv_a hg105 (xne hs_wp hs_wu (by decide))), (xv_m hg20 hs_wp (by decide) (by decide)), (xv_a hg17 (xne hs_wp hs_wf (by decide))), (xv_a hg16 (xne hs_wp hs_b15 (by decide))), (xv_a hg14 (xne hs_wp hs_b13 (by decide)))]))⟩⟩ (Nat.le_refl _) (Nat.le_refl _)
              · refine X_aloadn hK (i := 0) 2 kd46_58.2.2.1 rfl rfl ?_
                refine X_iconst hK kd46_58.2.2.2.1 ?_
                refine X_callV hK [.int (iI 1)] [] lk_X12_333 (c2_bad _ _ _ _ _ S g106 a0 1 hs_a0 (by omega)) hs_a0 ⟨by decide, rfl⟩ kd46_58.2.2.2.2.1 rfl rfl (by simp [Value.category]) (by decide) (by decide) (by decide) (by decide) (fun r112 S114 g113 pr112 qr112 hg113 => ?_)
                obtain ⟨rfl, z115, rfl, lz115, uz115, k116⟩ := pr112
                refine X_st [.int (iI z115)] rfl ?_
                refine X_if_eq hK 239 (by omega) kd46_58.2.2.2.2.2.1 (by decide) (fun c117 => ?_) (fun c117 => ?_)
                · refine X_iconst hK kd46_58.2.2.2.2.2.2.2.2.1 ?_
                  exact hret _ _ _ _ _ _ _ kd46_58.2.2.2.2.2.2.2.2.2.1 (by omega) (by omega) ⟨rfl, 0, rfl, (by omega), (by omega), ⟨np, (nl + 1), nw, no, ((hg113 a0 13 0 41 hs_a0 (by decide)).trans ((xs_k hg106 (by decide)).trans ((xs_a hg105 (xne hs_a0 hs_wu (by decide))).trans ((hg20 a0 13 0 41 hs_a0 (by decide)).trans ((xs_a hg17 (xne hs_a0 hs_wf (by decide))).trans ((xs_a hg16 (xne hs_a0 hs_b15 (by decide))).trans ((xs_a hg14 (xne hs_a0 hs_b13 (by decide))).trans enp))))))), by omega, by omega, ((hg113 a0 13 0 40 hs_a0 (by decide)).trans (xs_s hg106)), by omega, by omega, ((hg113 a0 13 0 43 hs_a0 (by decide)).trans ((xs_k hg106 (by decide)).trans ((xs_a hg105 (xne hs_a0 hs_wu (by decide))).trans ((hg20 a0 13 0 43 hs_a0 (by decide)).trans ((xs_a hg17 (xne hs_a0 hs_wf (by decide))).trans ((xs_a hg16 (xne hs_a0 hs_b15 (by decide))).trans ((xs_a hg14 (xne hs_a0 hs_b13 (by decide))).trans eno))))))), by omega, by omega, ((hg113 a0 13 0 44 hs_a0 (by decide)).trans ((xs_k hg106 (by decide)).trans ((xs_a hg105 (xne hs_a0 hs_wu (by decide))).trans ((hg20 a0 13 0 44 hs_a0 (by decide)).trans ((xs_a hg17 (xne hs_a0 hs_wf (by decide))).trans ((xs_a hg16 (xne hs_a0 hs_b15 (by decide))).trans ((xs_a hg14 (xne hs_a0 hs_b13 (by decide))).trans enw))))))), by omega, by omega, (fun h => by omega), (fun i q1 q2 => (show xv g113 wf i = xv g wf i from by rw [(xv_m hg113 hs_wf (by decide) (by decide)), (xv_a hg106 (xne hs_wf hs_a0 (by decide))), (xv_a hg105 (xne hs_wf hs_wu (by decide))), (xv_m hg20 hs_wf (by decide) (by decide)), (xv_k (i := i) hg17 (by omega) (by omega) (by omega)), (xv_a hg16 (xne hs_wf hs_b15 (by decide))), (xv_a hg14 (xne hs_wf hs_b13 (by decide)))])), (fun i q1 q2 => (show xv g113 wu i = xv g wu i from by rw [(xv_m hg113 hs_wu (by decide) (by decide)), (xv_a hg106 (xne hs_wu hs_a0 (by decide))), (xv_k (i := i) hg105 (by omega) (by omega) (by omega)), (xv_m hg20 hs_wu (by decide) (by decide)), (xv_a hg17 (xne hs_wu hs_wf (by decide))), (xv_a hg16 (xne hs_wu hs_b15 (by decide))), (xv_a hg14 (xne hs_wu hs_b13 (by decide)))])), (fun i q1 q2 => (show xv g113 wp i = xv g wp i from by rw [(xv_m hg113 hs_wp (by decide) (by decide)), (xv_a hg106 (xne hs_wp hs_a0 (by decide))), (xv_a hg105 (xne hs_wp hs_wu (by decide))), (xv_m hg20 hs_wp (by decide) (by decide)), (xv_a hg17 (xne hs_wp hs_wf (by decide))), (xv_a hg16 (xne hs_wp hs_b15 (by decide))), (xv_a hg14 (xne hs_wp hs_b13 (by decide)))]))⟩⟩ (Nat.le_refl _) (Nat.le_refl _)
                · refine X_iconst hK kd46_58.2.2.2.2.2.2.1 ?_
                  refine X_goto hK 240 kd46_58.2.2.2.2.2.2.2.1 (by decide) ?_
                  exact hret _ _ _ _ _ _ _ kd46_58.2.2.2.2.2.2.2.2.2.1 (by omega) (by omega) ⟨rfl, 1, rfl, (by omega), (by omega), ⟨np, (nl + 1), nw, no, ((hg113 a0 13 0 41 hs_a0 (by decide)).trans ((xs_k hg106 (by decide)).trans ((xs_a hg105 (xne hs_a0 hs_wu (by decide))).trans ((hg20 a0 13 0 41 hs_a0 (by decide)).trans ((xs_a hg17 (xne hs_a0 hs_wf (by decide))).trans ((xs_a hg16 (xne hs_a0 hs_b15 (by decide))).trans ((xs_a hg14 (xne hs_a0 hs_b13 (by decide))).trans enp))))))), by omega, by omega, ((hg113 a0 13 0 40 hs_a0 (by decide)).trans (xs_s hg106)), by omega, by omega, ((hg113 a0 13 0 43 hs_a0 (by decide)).trans ((xs_k hg106 (by decide)).trans ((xs_a hg105 (xne hs_a0 hs_wu (by decide))).trans ((hg20 a0 13 0 43 hs_a0 (by decide)).trans ((xs_a hg17 (xne hs_a0 hs_wf (by decide))).trans ((xs_a hg16 (xne hs_a0 hs_b15 (by decide))).trans ((xs_a hg14 (xne hs_a0 hs_b13 (by decide))).trans eno))))))), by omega, by omega, ((hg113 a0 13 0 44 hs_a0 (by decide)).trans ((xs_k hg106 (by decide)).trans ((xs_a hg105 (xne hs_a0 hs_wu (by decide))).trans ((hg20 a0 13 0 44 hs_a0 (by decide)).trans ((xs_a hg17 (xne hs_a0 hs_wf (by decide))).trans ((xs_a hg16 (xne hs_a0 hs_b15 (by decide))).trans ((xs_a hg14 (xne hs_a0 hs_b13 (by decide))).trans enw))))))), by omega, by omega, (fun _ => ⟨by omega, by omega, xRl.s (np := np) (np1 := np) (nl := nl) hp1 (by omega) (by omega) ⟨(show xv g113 wf (160 + nl) = np from by rw [(xv_m hg113 hs_wf (by decide) (by decide)), (xv_a hg106 (xne hs_wf hs_a0 (by decide))), (xv_a hg105 (xne hs_wf hs_wu (by decide))), (xv_m hg20 hs_wf (by decide) (by decide)), xv_s hg17 (by omega)]), (fun i9 hi9 h09 => (show xv g113 wf i9 = xv g wf i9 from by rw [(xv_m hg113 hs_wf (by decide) (by decide)), (xv_a hg106 (xne hs_wf hs_a0 (by decide))), (xv_a hg105 (xne hs_wf hs_wu (by decide))), (xv_m hg20 hs_wf (by decide) (by decide)), (xv_k (i := i9) hg17 (by omega) (by omega) (by omega)), (xv_a hg16 (xne hs_wf hs_b15 (by decide))), (xv_a hg14 (xne hs_wf hs_b13 (by decide)))]))⟩ ⟨(show xv g113 wu (160 + nl) = np from by rw [(xv_m hg113 hs_wu (by decide) (by decide)), (xv_a hg106 (xne hs_wu hs_a0 (by decide))), xv_s hg105 (by omega)]), (fun i9 hi9 h09 => (show xv g113 wu i9 = xv g wu i9 from by rw [(xv_m hg113 hs_wu (by decide) (by decide)), (xv_a hg106 (xne hs_wu hs_a0 (by decide))), (xv_k (i := i9) hg105 (by omega) (by omega) (by omega)), (xv_m hg20 hs_wu (by decide) (by decide)), (xv_a hg17 (xne hs_wu hs_wf (by decide))), (xv_a hg16 (xne hs_wu hs_b15 (by decide))), (xv_a hg14 (xne hs_wu hs_b13 (by decide)))]))⟩ (fun i q1 q2 => (show xv g113 wp i = xv g wp i from by rw [(xv_m hg113 hs_wp (by decide) (by decide)), (xv_a hg106 (xne hs_wp hs_a0 (by decide))), (xv_a hg105 (xne hs_wp hs_wu (by decide))), (xv_m hg20 hs_wp (by decide) (by decide)), (xv_a hg17 (xne hs_wp hs_wf (by decide))), (xv_a hg16 (xne hs_wp hs_b15 (by decide))), (xv_a hg14 (xne hs_wp hs_b13 (by decide)))])) (by omega) (xhf_0 _ _ _)⟩), (fun i q1 q2 => (show xv g113 wf i = xv g wf i from by rw [(xv_m hg113 hs_wf (by decide) (by decide)), (xv_a hg106 (xne hs_wf hs_a0 (by decide))), (xv_a hg105 (xne hs_wf hs_wu (by decide))), (xv_m hg20 hs_wf (by decide) (by decide)), (xv_k (i := i) hg17 (by omega) (by omega) (by omega)), (xv_a hg16 (xne hs_wf hs_b15 (by decide))), (xv_a hg14 (xne hs_wf hs_b13 (by decide)))])), (fun i q1 q2 => (show xv g113 wu i = xv g wu i from by rw [(xv_m hg113 hs_wu (by decide) (by decide)), (xv_a hg106 (xne hs_wu hs_a0 (by decide))), (xv_k (i := i) hg105 (by omega) (by omega) (by omega)), (xv_m hg20 hs_wu (by decide) (by decide)), (xv_a hg17 (xne hs_wu hs_wf (by decide))), (xv_a hg16 (xne hs_wu hs_b15 (by decide))), (xv_a hg14 (xne hs_wu hs_b13 (by decide)))])), (fun i q1 q2 => (show xv g113 wp i = xv g wp i from by rw [(xv_m hg113 hs_wp (by decide) (by decide)), (xv_a hg106 (xne hs_wp hs_a0 (by decide))), (xv_a hg105 (xne hs_wp hs_wu (by decide))), (xv_m hg20 hs_wp (by decide) (by decide)), (xv_a hg17 (xne hs_wp hs_wf (by decide))), (xv_a hg16 (xne hs_wp hs_b15 (by decide))), (xv_a hg14 (xne hs_wp hs_b13 (by decide)))]))⟩⟩ (Nat.le_refl _) (Nat.le_refl _)
            · refine X_aloadn hK (i := 0) 2 kd46_56.2.2.2.1 rfl rfl ?_
              refine X_callV hK [] [] lk_X12_342 (c_X12_go _ _ _ _ _ S g20 a0 hs_a0) hs_a0 ⟨by decide, rfl⟩ kd46_56.2.2.2.2.1 rfl rfl (by simp [Value.category]) (by decide) (by decide) (by decide) (by decide) (fun r118 S120 g119 pr118 qr118 hg119 => ?_)
              obtain ⟨rfl, rfl⟩ := pr118
              refine X_st [] rfl ?_
              refine X_aloadn hK (i := 0) 2 kd46_56.2.2.2.2.2.1 rfl rfl ?_
              refine X_knowr 16200 64 hs_a0 (by decide) sl_13_38 (fun b121 eb121 hs_b121 => ?_)
              refine X_callV hK [] [] lk_X12_367 (c_X12_readCond _ _ _ _ _ S g119 a0 np no nw wp b121 hs_a0 (by omega) ((hg119 a0 13 0 41 hs_a0 (by decide)).trans ((hg20 a0 13 0 41 hs_a0 (by decide)).trans ((xs_a hg17 (xne hs_a0 hs_wf (by decide))).trans ((xs_a hg16 (xne hs_a0 hs_b15 (by decide))).trans ((xs_a hg14 (xne hs_a0 hs_b13 (by decide))).trans enp))))) (by omega) ((hg119 a0 13 0 43 hs_a0 (by decide)).trans ((hg20 a0 13 0 43 hs_a0 (by decide)).trans ((xs_a hg17 (xne hs_a0 hs_wf (by decide))).trans ((xs_a hg16 (xne hs_a0 hs_b15 (by decide))).trans ((xs_a hg14 (xne hs_a0 hs_b13 (by decide))).trans eno))))) (by omega) ((hg119 a0 13 0 44 hs_a0 (by decide)).trans ((hg20 a0 13 0 44 hs_a0 (by decide)).trans ((xs_a hg17 (xne hs_a0 hs_wf (by decide))).trans ((xs_a hg16 (xne hs_a0 hs_b15 (by decide))).trans ((xs_a hg14 (xne hs_a0 hs_b13 (by decide))).trans enw))))) ((hg119 a0 13 0 35 hs_a0 (by decide)).trans ((hg20 a0 13 0 35 hs_a0 (by decide)).trans ((xs_a hg17 (xne hs_a0 hs_wf (by decide))).trans ((xs_a hg16 (xne hs_a0 hs_b15 (by decide))).trans ((xs_a hg14 (xne hs_a0 hs_b13 (by decide))).trans ewp))))) hs_wp eb121 hs_b121 (by omega)) hs_a0 ⟨by decide, rfl⟩ kd46_56.2.2.2.2.2.2.1 rfl rfl (by simp [Value.category]) (by decide) (by decide) (by decide) (by decide) (fun r122 S124 g123 pr122 qr122 hg123 => ?_)
              obtain ⟨rfl, z125, rfl, lz125, uz125, k126⟩ := pr122
              refine X_st [.int (iI z125)] rfl ?_
              obtain ⟨z127, z128, z129, ez127, lz127, uz127, ez129, lz129, uz129, ez128, lz128, uz128, Rz127, oz127⟩ := k126
              refine X_if_ne hK 198 (by omega) kd46_56.2.2.2.2.2.2.2.1 (by decide) (fun c130 => ?_) (fun c130 => ?_)
              · refine X_aloadn hK (i := 0) 2 kd46_56.2.2.2.2.2.2.2.2.2.2.1 rfl rfl ?_
                refine X_getK hK fl_X12_65_13 hs_a0 ((hg123 a0 13 0 34 hs_a0 (by decide)).trans ((hg119 a0 13 0 34 hs_a0 (by decide)).trans ((hg20 a0 13 0 34 hs_a0 (by decide)).trans ((xs_a hg17 (xne hs_a0 hs_wf (by decide))).trans ((xs_a hg16 (xne hs_a0 hs_b15 (by decide))).trans ((xs_a hg14 (xne hs_a0 hs_b13 (by decide))).trans ewu)))))) kd46_56.2.2.2.2.2.2.2.2.2.2.2 ?_
                refine X_iloadn hK (i := 2) 0 kd46_57.1 rfl rfl ?_
                refine X_aloadn hK (i := 0) 2 kd46_57.2.1 rfl rfl ?_
                refine X_getK hK fl_X12_313_13 hs_a0 ez127 kd46_57.2.2.1 ?_
                refine X_iast hK hs_wu (by decide) (by decide) sl_15800 (by omega) (by omega) (by omega) (by omega) kd46_57.2.2.2.1 (fun g131 hg131 => ?_)
                refine X_aloadn hK (i := 0) 2 kd46_57.2.2.2.2.1 rfl rfl ?_
                refine X_dup hK kd46_57.2.2.2.2.2.1 rfl ?_
                refine X_getK hK fl_X12_361_13 hs_a0 ((xs_a hg131 (xne hs_a0 hs_wu (by decide))).trans ((hg123 a0 13 0 40 hs_a0 (by decide)).trans ((hg119 a0 13 0 40 hs_a0 (by decide)).trans ((hg20 a0 13 0 40 hs_a0 (by decide)).trans ((xs_a hg17 (xne hs_a0 hs_wf (by decide))).trans ((xs_a hg16 (xne hs_a0 hs_b15 (by decide))).trans ((xs_a hg14 (xne hs_a0 hs_b13 (by decide))).trans enl))))))) kd46_57.2.2.2.2.2.2.1 ?_
                refine X_iconst hK kd46_57.2.2.2.2.2.2.2.1 ?_
                refine X_iadd hK kd46_57.2.2.2.2.2.2.2.2.1 ?_
                refine X_puti hK fl_X12_361_13 hs_a0 (by decide) sl_13_40 (by omega) (by omega) kd46_57.2.2.2.2.2.2.2.2.2.1 (fun g132 hg132 => ?_)
                refine X_aloadn hK (i := 0) 2 kd46_57.2.2.2.2.2.2.2.2.2.2.1 rfl rfl ?_
                refine X_bipush hK kd46_57.2.2.2.2.2.2.2.2.2.2.2 (by decide) ?_
                refine X_callV hK [.int (iI 59)] [] lk_X12_330 (c_X12_isSign _ _ _ _ _ S g132 a0 59 hs_a0 (by omega)) hs_a0 ⟨by decide, rfl⟩ kd46_58.1 rfl rfl (by simp [Value.category]) (by decide) (by decide) (by decide) (by decide) (fun r133 S135 g134 pr133 qr133 hg134 => ?_)
                obtain ⟨rfl, rfl, z136, rfl, lz136, uz136⟩ := pr133
                refine X_st [.int (iI z136)] rfl ?_
                refine X_if_ne hK 235 (by omega) kd46_58.2.1 (by decide) (fun c137 => ?_) (fun c137 => ?_)
                · refine X_iconst hK kd46_58.2.2.2.2.2.2.1 ?_
                  refine X_goto hK 240 kd46_58.2.2.2.2.2.2.2.1 (by decide) ?_
                  exact hret _ _ _ _ _ _ _ kd46_58.2.2.2.2.2.2.2.2.2.1 (by omega) (by omega) ⟨rfl, 1, rfl, (by omega), (by omega), ⟨z127, (nl + 1), z128, z129, ((xs_k hg132 (by decide)).trans ((xs_a hg131 (xne hs_a0 hs_wu (by decide))).trans ez127)), by omega, by omega, (xs_s hg132), by omega, by omega, ((xs_k hg132 (by decide)).trans ((xs_a hg131 (xne hs_a0 hs_wu (by decide))).trans ez129)), by omega, by omega, ((xs_k hg132 (by decide)).trans ((xs_a hg131 (xne hs_a0 hs_wu (by decide))).trans ez128)), by omega, by omega, (fun _ => ⟨by omega, by omega, xRl.s (np := np) (np1 := z127) (nl := nl) hp1 (by omega) (by omega) ⟨(show xv g132 wf (160 + nl) = np from by rw [(xv_a hg132 (xne hs_wf hs_a0 (by decide))), (xv_a hg131 (xne hs_wf hs_wu (by decide))), (xv_m hg123 hs_wf (by decide) (by decide)), (xv_m hg119 hs_wf (by decide) (by decide)), (xv_m hg20 hs_wf (by decide) (by decide)), xv_s hg17 (by omega)]), (fun i9 hi9 h09 => (show xv g132 wf i9 = xv g wf i9 from by rw [(xv_a hg132 (xne hs_wf hs_a0 (by decide))), (xv_a hg131 (xne hs_wf hs_wu (by decide))), (xv_m hg123 hs_wf (by decide) (by decide)), (xv_m hg119 hs_wf (by decide) (by decide)), (xv_m hg20 hs_wf (by decide) (by decide)), (xv_k (i := i9) hg17 (by omega) (by omega) (by omega)), (xv_a hg16 (xne hs_wf hs_b15 (by decide))), (xv_a hg14 (xne hs_wf hs_b13 (by decide)))]))⟩ ⟨(show xv g132 wu (160 + nl) = z127 from by rw [(xv_a hg132 (xne hs_wu hs_a0 (by decide))), xv_s hg131 (by omega)]), (fun i9 hi9 h09 => (show xv g132 wu i9 = xv g wu i9 from by rw [(xv_a hg132 (xne hs_wu hs_a0 (by decide))), (xv_k (i := i9) hg131 (by omega) (by omega) (by omega)), (xv_m hg123 hs_wu (by decide) (by decide)), (xv_m hg119 hs_wu (by decide) (by decide)), (xv_m hg20 hs_wu (by decide) (by decide)), (xv_a hg17 (xne hs_wu hs_wf (by decide))), (xv_a hg16 (xne hs_wu hs_b15 (by decide))), (xv_a hg14 (xne hs_wu hs_b13 (by decide)))]))⟩ (fun i q1 q2 => ((show xv g132 wp i = xv g123 wp i from by rw [(xv_a hg132 (xne hs_wp hs_a0 (by decide))), (xv_a hg131 (xne hs_wp hs_wu (by decide)))])).trans ((oz127 i q1 (by omega)).trans ((show xv g119 wp i = xv g wp i from by rw [(xv_m hg119 hs_wp (by decide) (by decide)), (xv_m hg20 hs_wp (by decide) (by decide)), (xv_a hg17 (xne hs_wp hs_wf (by decide))), (xv_a hg16 (xne hs_wp hs_b15 (by decide))), (xv_a hg14 (xne hs_wp hs_b13 (by decide)))])))) (by omega) ((by rw [(Eq.trans (xv_a hg132 (xne hs_wp hs_a0 (by decide))) (xv_a hg131 (xne hs_wp hs_wu (by decide))))]; exact (Rz127 (by omega)).2.2))⟩), (fun i q1 q2 => (show xv g132 wf i = xv g wf i from by rw [(xv_a hg132 (xne hs_wf hs_a0 (by decide))), (xv_a hg131 (xne hs_wf hs_wu (by decide))), (xv_m hg123 hs_wf (by decide) (by decide)), (xv_m hg119 hs_wf (by decide) (by decide)), (xv_m hg20 hs_wf (by decide) (by decide)), (xv_k (i := i) hg17 (by omega) (by omega) (by omega)), (xv_a hg16 (xne hs_wf hs_b15 (by decide))), (xv_a hg14 (xne hs_wf hs_b13 (by decide)))])), (fun i q1 q2 => (show xv g132 wu i = xv g wu i from by rw [(xv_a hg132 (xne hs_wu hs_a0 (by decide))), (xv_k (i := i) hg131 (by omega) (by omega) (by omega)), (xv_m hg123 hs_wu (by decide) (by decide)), (xv_m hg119 hs_wu (by decide) (by decide)), (xv_m hg20 hs_wu (by decide) (by decide)), (xv_a hg17 (xne hs_wu hs_wf (by decide))), (xv_a hg16 (xne hs_wu hs_b15 (by decide))), (xv_a hg14 (xne hs_wu hs_b13 (by decide)))])), (fun i q1 q2 => ((show xv g132 wp i = xv g123 wp i from by rw [(xv_a hg132 (xne hs_wp hs_a0 (by decide))), (xv_a hg131 (xne hs_wp hs_wu (by decide)))])).trans ((oz127 i q1 (by omega)).trans ((show xv g119 wp i = xv g wp i from by rw [(xv_m hg119 hs_wp (by decide) (by decide)), (xv_m hg20 hs_wp (by decide) (by decide)), (xv_a hg17 (xne hs_wp hs_wf (by decide))), (xv_a hg16 (xne hs_wp hs_b15 (by decide))), (xv_a hg14 (xne hs_wp hs_b13 (by decide)))]))))⟩⟩ (Nat.le_refl _) (Nat.le_refl _)
                · refine X_aloadn hK (i := 0) 2 kd46_58.2.2.1 rfl rfl ?_
                  refine X_iconst hK kd46_58.2.2.2.1 ?_
                  refine X_callV hK [.int (iI 1)] [] lk_X12_333 (c2_bad _ _ _ _ _ S g132 a0 1 hs_a0 (by omega)) hs_a0 ⟨by decide, rfl⟩ kd46_58.2.2.2.2.1 rfl rfl (by simp [Value.category]) (by decide) (by decide) (by decide) (by decide) (fun r138 S140 g139 pr138 qr138 hg139 => ?_)
                  obtain ⟨rfl, z141, rfl, lz141, uz141, k142⟩ := pr138
                  refine X_st [.int (iI z141)] rfl ?_
                  refine X_if_eq hK 239 (by omega) kd46_58.2.2.2.2.2.1 (by decide) (fun c143 => ?_) (fun c143 => ?_)
                  · refine X_iconst hK kd46_58.2.2.2.2.2.2.2.2.1 ?_
                    exact hret _ _ _ _ _ _ _ kd46_58.2.2.2.2.2.2.2.2.2.1 (by omega) (by omega) ⟨rfl, 0, rfl, (by omega), (by omega), ⟨z127, (nl + 1), z128, z129, ((hg139 a0 13 0 41 hs_a0 (by decide)).trans ((xs_k hg132 (by decide)).trans ((xs_a hg131 (xne hs_a0 hs_wu (by decide))).trans ez127))), by omega, by omega, ((hg139 a0 13 0 40 hs_a0 (by decide)).trans (xs_s hg132)), by omega, by omega, ((hg139 a0 13 0 43 hs_a0 (by decide)).trans ((xs_k hg132 (by decide)).trans ((xs_a hg131 (xne hs_a0 hs_wu (by decide))).trans ez129))), by omega, by omega, ((hg139 a0 13 0 44 hs_a0 (by decide)).trans ((xs_k hg132 (by decide)).trans ((xs_a hg131 (xne hs_a0 hs_wu (by decide))).trans ez128))), by omega, by omega, (fun h => by omega), (fun i q1 q2 => (show xv g139 wf i = xv g wf i from by rw [(xv_m hg139 hs_wf (by decide) (by decide)), (xv_a hg132 (xne hs_wf hs_a0 (by decide))), (xv_a hg131 (xne hs_wf hs_wu (by decide))), (xv_m hg123 hs_wf (by decide) (by decide)), (xv_m hg119 hs_wf (by decide) (by decide)), (xv_m hg20 hs_wf (by decide) (by decide)), (xv_k (i := i) hg17 (by omega) (by omega) (by omega)), (xv_a hg16 (xne hs_wf hs_b15 (by decide))), (xv_a hg14 (xne hs_wf hs_b13 (by decide)))])), (fun i q1 q2 => (show xv g139 wu i = xv g wu i from by rw [(xv_m hg139 hs_wu (by decide) (by decide)), (xv_a hg132 (xne hs_wu hs_a0 (by decide))), (xv_k (i := i) hg131 (by omega) (by omega) (by omega)), (xv_m hg123 hs_wu (by decide) (by decide)), (xv_m hg119 hs_wu (by decide) (by decide)), (xv_m hg20 hs_wu (by decide) (by decide)), (xv_a hg17 (xne hs_wu hs_wf (by decide))), (xv_a hg16 (xne hs_wu hs_b15 (by decide))), (xv_a hg14 (xne hs_wu hs_b13 (by decide)))])), (fun i q1 q2 => ((show xv g139 wp i = xv g123 wp i from by rw [(xv_m hg139 hs_wp (by decide) (by decide)), (xv_a hg132 (xne hs_wp hs_a0 (by decide))), (xv_a hg131 (xne hs_wp hs_wu (by decide)))])).trans ((oz127 i q1 (by omega)).trans ((show xv g119 wp i = xv g wp i from by rw [(xv_m hg119 hs_wp (by decide) (by decide)), (xv_m hg20 hs_wp (by decide) (by decide)), (xv_a hg17 (xne hs_wp hs_wf (by decide))), (xv_a hg16 (xne hs_wp hs_b15 (by decide))), (xv_a hg14 (xne hs_wp hs_b13 (by decide)))]))))⟩⟩ (Nat.le_refl _) (Nat.le_refl _)
                  · refine X_iconst hK kd46_58.2.2.2.2.2.2.1 ?_
                    refine X_goto hK 240 kd46_58.2.2.2.2.2.2.2.1 (by decide) ?_
                    exact hret _ _ _ _ _ _ _ kd46_58.2.2.2.2.2.2.2.2.2.1 (by omega) (by omega) ⟨rfl, 1, rfl, (by omega), (by omega), ⟨z127, (nl + 1), z128, z129, ((hg139 a0 13 0 41 hs_a0 (by decide)).trans ((xs_k hg132 (by decide)).trans ((xs_a hg131 (xne hs_a0 hs_wu (by decide))).trans ez127))), by omega, by omega, ((hg139 a0 13 0 40 hs_a0 (by decide)).trans (xs_s hg132)), by omega, by omega, ((hg139 a0 13 0 43 hs_a0 (by decide)).trans ((xs_k hg132 (by decide)).trans ((xs_a hg131 (xne hs_a0 hs_wu (by decide))).trans ez129))), by omega, by omega, ((hg139 a0 13 0 44 hs_a0 (by decide)).trans ((xs_k hg132 (by decide)).trans ((xs_a hg131 (xne hs_a0 hs_wu (by decide))).trans ez128))), by omega, by omega, (fun _ => ⟨by omega, by omega, xRl.s (np := np) (np1 := z127) (nl := nl) hp1 (by omega) (by omega) ⟨(show xv g139 wf (160 + nl) = np from by rw [(xv_m hg139 hs_wf (by decide) (by decide)), (xv_a hg132 (xne hs_wf hs_a0 (by decide))), (xv_a hg131 (xne hs_wf hs_wu (by decide))), (xv_m hg123 hs_wf (by decide) (by decide)), (xv_m hg119 hs_wf (by decide) (by decide)), (xv_m hg20 hs_wf (by decide) (by decide)), xv_s hg17 (by omega)]), (fun i9 hi9 h09 => (show xv g139 wf i9 = xv g wf i9 from by rw [(xv_m hg139 hs_wf (by decide) (by decide)), (xv_a hg132 (xne hs_wf hs_a0 (by decide))), (xv_a hg131 (xne hs_wf hs_wu (by decide))), (xv_m hg123 hs_wf (by decide) (by decide)), (xv_m hg119 hs_wf (by decide) (by decide)), (xv_m hg20 hs_wf (by decide) (by decide)), (xv_k (i := i9) hg17 (by omega) (by omega) (by omega)), (xv_a hg16 (xne hs_wf hs_b15 (by decide))), (xv_a hg14 (xne hs_wf hs_b13 (by decide)))]))⟩ ⟨(show xv g139 wu (160 + nl) = z127 from by rw [(xv_m hg139 hs_wu (by decide) (by decide)), (xv_a hg132 (xne hs_wu hs_a0 (by decide))), xv_s hg131 (by omega)]), (fun i9 hi9 h09 => (show xv g139 wu i9 = xv g wu i9 from by rw [(xv_m hg139 hs_wu (by decide) (by decide)), (xv_a hg132 (xne hs_wu hs_a0 (by decide))), (xv_k (i := i9) hg131 (by omega) (by omega) (by omega)), (xv_m hg123 hs_wu (by decide) (by decide)), (xv_m hg119 hs_wu (by decide) (by decide)), (xv_m hg20 hs_wu (by decide) (by decide)), (xv_a hg17 (xne hs_wu hs_wf (by decide))), (xv_a hg16 (xne hs_wu hs_b15 (by decide))), (xv_a hg14 (xne hs_wu hs_b13 (by decide)))]))⟩ (fun i q1 q2 => ((show xv g139 wp i = xv g123 wp i from by rw [(xv_m hg139 hs_wp (by decide) (by decide)), (xv_a hg132 (xne hs_wp hs_a0 (by decide))), (xv_a hg131 (xne hs_wp hs_wu (by decide)))])).trans ((oz127 i q1 (by omega)).trans ((show xv g119 wp i = xv g wp i from by rw [(xv_m hg119 hs_wp (by decide) (by decide)), (xv_m hg20 hs_wp (by decide) (by decide)), (xv_a hg17 (xne hs_wp hs_wf (by decide))), (xv_a hg16 (xne hs_wp hs_b15 (by decide))), (xv_a hg14 (xne hs_wp hs_b13 (by decide)))])))) (by omega) ((by rw [(Eq.trans (Eq.trans (xv_m hg139 hs_wp (by decide) (by decide)) (xv_a hg132 (xne hs_wp hs_a0 (by decide)))) (xv_a hg131 (xne hs_wp hs_wu (by decide))))]; exact (Rz127 (by omega)).2.2))⟩), (fun i q1 q2 => (show xv g139 wf i = xv g wf i from by rw [(xv_m hg139 hs_wf (by decide) (by decide)), (xv_a hg132 (xne hs_wf hs_a0 (by decide))), (xv_a hg131 (xne hs_wf hs_wu (by decide))), (xv_m hg123 hs_wf (by decide) (by decide)), (xv_m hg119 hs_wf (by decide) (by decide)), (xv_m hg20 hs_wf (by decide) (by decide)), (xv_k (i := i) hg17 (by omega) (by omega) (by omega)), (xv_a hg16 (xne hs_wf hs_b15 (by decide))), (xv_a hg14 (xne hs_wf hs_b13 (by decide)))])), (fun i q1 q2 => (show xv g139 wu i = xv g wu i from by rw [(xv_m hg139 hs_wu (by decide) (by decide)), (xv_a hg132 (xne hs_wu hs_a0 (by decide))), (xv_k (i := i) hg131 (by omega) (by omega) (by omega)), (xv_m hg123 hs_wu (by decide) (by decide)), (xv_m hg119 hs_wu (by decide) (by decide)), (xv_m hg20 hs_wu (by decide) (by decide)), (xv_a hg17 (xne hs_wu hs_wf (by decide))), (xv_a hg16 (xne hs_wu hs_b15 (by decide))), (xv_a hg14 (xne hs_wu hs_b13 (by decide)))])), (fun i q1 q2 => ((show xv g139 wp i = xv g123 wp i from by rw [(xv_m hg139 hs_wp (by decide) (by decide)), (xv_a hg132 (xne hs_wp hs_a0 (by decide))), (xv_a hg131 (xne hs_wp hs_wu (by decide)))])).trans ((oz127 i q1 (by omega)).trans ((show xv g119 wp i = xv g wp i from by rw [(xv_m hg119 hs_wp (by decide) (by decide)), (xv_m hg20 hs_wp (by decide) (by decide)), (xv_a hg17 (xne hs_wp hs_wf (by decide))), (xv_a hg16 (xne hs_wp hs_b15 (by decide))), (xv_a hg14 (xne hs_wp hs_b13 (by decide)))]))))⟩⟩ (Nat.le_refl _) (Nat.le_refl _)
              · refine X_iconst hK kd46_56.2.2.2.2.2.2.2.2.1 ?_
                exact hret _ _ _ _ _ _ _ kd46_56.2.2.2.2.2.2.2.2.2.1 (by omega) (by omega) ⟨rfl, 0, rfl, (by omega), (by omega), ⟨z127, nl, z128, z129, ez127, by omega, by omega, ((hg123 a0 13 0 40 hs_a0 (by decide)).trans ((hg119 a0 13 0 40 hs_a0 (by decide)).trans ((hg20 a0 13 0 40 hs_a0 (by decide)).trans ((xs_a hg17 (xne hs_a0 hs_wf (by decide))).trans ((xs_a hg16 (xne hs_a0 hs_b15 (by decide))).trans ((xs_a hg14 (xne hs_a0 hs_b13 (by decide))).trans enl)))))), by omega, by omega, ez129, by omega, by omega, ez128, by omega, by omega, (fun h => by omega), (fun i q1 q2 => (show xv g123 wf i = xv g wf i from by rw [(xv_m hg123 hs_wf (by decide) (by decide)), (xv_m hg119 hs_wf (by decide) (by decide)), (xv_m hg20 hs_wf (by decide) (by decide)), (xv_k (i := i) hg17 (by omega) (by omega) (by omega)), (xv_a hg16 (xne hs_wf hs_b15 (by decide))), (xv_a hg14 (xne hs_wf hs_b13 (by decide)))])), (fun i q1 q2 => (show xv g123 wu i = xv g wu i from by rw [(xv_m hg123 hs_wu (by decide) (by decide)), (xv_m hg119 hs_wu (by decide) (by decide)), (xv_m hg20 hs_wu (by decide) (by decide)), (xv_a hg17 (xne hs_wu hs_wf (by decide))), (xv_a hg16 (xne hs_wu hs_b15 (by decide))), (xv_a hg14 (xne hs_wu hs_b13 (by decide)))])), (fun i q1 q2 => ((show xv g123 wp i = xv g123 wp i from rfl)).trans ((oz127 i q1 (by omega)).trans ((show xv g119 wp i = xv g wp i from by rw [(xv_m hg119 hs_wp (by decide) (by decide)), (xv_m hg20 hs_wp (by decide) (by decide)), (xv_a hg17 (xne hs_wp hs_wf (by decide))), (xv_a hg16 (xne hs_wp hs_b15 (by decide))), (xv_a hg14 (xne hs_wp hs_b13 (by decide)))]))))⟩⟩ (Nat.le_refl _) (Nat.le_refl _)
          · refine X_aloadn hK (i := 0) 2 kd46_52.2.2.2.2.2.2.2.1 rfl rfl ?_
            refine X_getK hK fl_X12_59_13 hs_a0 ((hg20 a0 13 0 32 hs_a0 (by decide)).trans ((xs_a hg17 (xne hs_a0 hs_wf (by decide))).trans ((xs_a hg16 (xne hs_a0 hs_b15 (by decide))).trans eb15))) kd46_52.2.2.2.2.2.2.2.2.1 ?_
            refine X_iloadn hK (i := 2) 0 kd46_52.2.2.2.2.2.2.2.2.2.1 rfl rfl ?_
            refine X_iconst hK kd46_52.2.2.2.2.2.2.2.2.2.2.1 ?_
            refine X_iast hK hs_b15 (by decide) (by decide) sl_15600 (by omega) (by omega) (by omega) (by omega) kd46_52.2.2.2.2.2.2.2.2.2.2.2 (fun g144 hg144 => ?_)
            refine X_aloadn hK (i := 0) 2 kd46_53.1 rfl rfl ?_
            refine X_callV hK [] [] lk_X12_342 (c_X12_go _ _ _ _ _ S g144 a0 hs_a0) hs_a0 ⟨by decide, rfl⟩ kd46_53.2.1 rfl rfl (by simp [Value.category]) (by decide) (by decide) (by decide) (by decide) (fun r145 S147 g146 pr145 qr145 hg146 => ?_)
            obtain ⟨rfl, rfl⟩ := pr145
            refine X_st [] rfl ?_
            refine X_goto hK 163 kd46_53.2.2.1 (by decide) ?_
            refine X_iloadn hK (i := 1) 1 kd46_55.2.2.2.1 rfl rfl ?_
            refine X_iconst hK kd46_55.2.2.2.2.1 ?_
            refine X_icmp_eq hK 198 (by omega) (by omega) kd46_55.2.2.2.2.2.1 (by decide) (fun c148 => False.elim (by omega)) (fun c148 => ?_)
            refine X_aloadn hK (i := 0) 2 kd46_55.2.2.2.2.2.2.1 rfl rfl ?_
            refine X_bipush hK kd46_55.2.2.2.2.2.2.2.1 (by decide) ?_
            refine X_bipush hK kd46_55.2.2.2.2.2.2.2.2.1 (by decide) ?_
            refine X_iconst hK kd46_55.2.2.2.2.2.2.2.2.2.1 ?_
            refine X_iconst hK kd46_55.2.2.2.2.2.2.2.2.2.2.1 ?_
            refine X_iconst hK kd46_55.2.2.2.2.2.2.2.2.2.2.2 ?_
            refine X_callS hK [.int (iI 105), .int (iI 102), .int (iI 0), .int (iI 0), .int (iI 0)] [.ref a0] lk_X12_297 (c_X12_spelt _ _ _ _ _ S g146 105 102 0 0 0 (by omega) (by omega) (by omega) (by omega) (by omega)) kd46_56.1 rfl rfl (by simp [Value.category]) (by decide) (by decide) (by decide) (by decide) (fun r149 S151 g150 pr149 qr149 hg150 => ?_)
            obtain ⟨rfl, rfl, y152, rfl⟩ := pr149
            refine X_st [.long y152, .ref a0] rfl ?_
            refine X_callV hK [.long y152] [] lk_X12_301 (c_X12_isKey _ _ _ _ _ S g146 a0 y152 hs_a0) hs_a0 ⟨by decide, rfl⟩ kd46_56.2.1 rfl rfl (by simp [Value.category]) (by decide) (by decide) (by decide) (by decide) (fun r153 S155 g154 pr153 qr153 hg154 => ?_)
            obtain ⟨rfl, rfl, z156, rfl, lz156, uz156⟩ := pr153
            refine X_st [.int (iI z156)] rfl ?_
            refine X_if_eq hK 198 (by omega) kd46_56.2.2.1 (by decide) (fun c157 => ?_) (fun c157 => ?_)
            · refine X_aloadn hK (i := 0) 2 kd46_56.2.2.2.2.2.2.2.2.2.2.1 rfl rfl ?_
              refine X_getK hK fl_X12_65_13 hs_a0 ((hg146 a0 13 0 34 hs_a0 (by decide)).trans ((xs_a hg144 (xne hs_a0 hs_b15 (by decide))).trans ((hg20 a0 13 0 34 hs_a0 (by decide)).trans ((xs_a hg17 (xne hs_a0 hs_wf (by decide))).trans ((xs_a hg16 (xne hs_a0 hs_b15 (by decide))).trans ((xs_a hg14 (xne hs_a0 hs_b13 (by decide))).trans ewu)))))) kd46_56.2.2.2.2.2.2.2.2.2.2.2 ?_
              refine X_iloadn hK (i := 2) 0 kd46_57.1 rfl rfl ?_
              refine X_aloadn hK (i := 0) 2 kd46_57.2.1 rfl rfl ?_
              refine X_getK hK fl_X12_313_13 hs_a0 ((hg146 a0 13 0 41 hs_a0 (by decide)).trans ((xs_a hg144 (xne hs_a0 hs_b15 (by decide))).trans ((hg20 a0 13 0 41 hs_a0 (by decide)).trans ((xs_a hg17 (xne hs_a0 hs_wf (by decide))).trans ((xs_a hg16 (xne hs_a0 hs_b15 (by decide))).trans ((xs_a hg14 (xne hs_a0 hs_b13 (by decide))).trans enp)))))) kd46_57.2.2.1 ?_
              refine X_iast hK hs_wu (by decide) (by decide) sl_15800 (by omega) (by omega) (by omega) (by omega) kd46_57.2.2.2.1 (fun g158 hg158 => ?_)
              refine X_aloadn hK (i := 0) 2 kd46_57.2.2.2.2.1 rfl rfl ?_
              refine X_dup hK kd46_57.2.2.2.2.2.1 rfl ?_
              refine X_getK hK fl_X12_361_13 hs_a0 ((xs_a hg158 (xne hs_a0 hs_wu (by decide))).trans ((hg146 a0 13 0 40 hs_a0 (by decide)).trans ((xs_a hg144 (xne hs_a0 hs_b15 (by decide))).trans ((hg20 a0 13 0 40 hs_a0 (by decide)).trans ((xs_a hg17 (xne hs_a0 hs_wf (by decide))).trans ((xs_a hg16 (xne hs_a0 hs_b15 (by decide))).trans ((xs_a hg14 (xne hs_a0 hs_b13 (by decide))).trans enl))))))) kd46_57.2.2.2.2.2.2.1 ?_
              refine X_iconst hK kd46_57.2.2.2.2.2.2.2.1 ?_
              refine X_iadd hK kd46_57.2.2.2.2.2.2.2.2.1 ?_
              refine X_puti hK fl_X12_361_13 hs_a0 (by decide) sl_13_40 (by omega) (by omega) kd46_57.2.2.2.2.2.2.2.2.2.1 (fun g159 hg159 => ?_)
              refine X_aloadn hK (i := 0) 2 kd46_57.2.2.2.2.2.2.2.2.2.2.1 rfl rfl ?_
              refine X_bipush hK kd46_57.2.2.2.2.2.2.2.2.2.2.2 (by decide) ?_
              refine X_callV hK [.int (iI 59)] [] lk_X12_330 (c_X12_isSign _ _ _ _ _ S g159 a0 59 hs_a0 (by omega)) hs_a0 ⟨by decide, rfl⟩ kd46_58.1 rfl rfl (by simp [Value.category]) (by decide) (by decide) (by decide) (by decide) (fun r160 S162 g161 pr160 qr160 hg161 => ?_)
              obtain ⟨rfl, rfl, z163, rfl, lz163, uz163⟩ := pr160
              refine X_st [.int (iI z163)] rfl ?_
              refine X_if_ne hK 235 (by omega) kd46_58.2.1 (by decide) (fun c164 => ?_) (fun c164 => ?_)
              · refine X_iconst hK kd46_58.2.2.2.2.2.2.1 ?_
                refine X_goto hK 240 kd46_58.2.2.2.2.2.2.2.1 (by decide) ?_
                exact hret _ _ _ _ _ _ _ kd46_58.2.2.2.2.2.2.2.2.2.1 (by omega) (by omega) ⟨rfl, 1, rfl, (by omega), (by omega), ⟨np, (nl + 1), nw, no, ((xs_k hg159 (by decide)).trans ((xs_a hg158 (xne hs_a0 hs_wu (by decide))).trans ((hg146 a0 13 0 41 hs_a0 (by decide)).trans ((xs_a hg144 (xne hs_a0 hs_b15 (by decide))).trans ((hg20 a0 13 0 41 hs_a0 (by decide)).trans ((xs_a hg17 (xne hs_a0 hs_wf (by decide))).trans ((xs_a hg16 (xne hs_a0 hs_b15 (by decide))).trans ((xs_a hg14 (xne hs_a0 hs_b13 (by decide))).trans enp)))))))), by omega, by omega, (xs_s hg159), by omega, by omega, ((xs_k hg159 (by decide)).trans ((xs_a hg158 (xne hs_a0 hs_wu (by decide))).trans ((hg146 a0 13 0 43 hs_a0 (by decide)).trans ((xs_a hg144 (xne hs_a0 hs_b15 (by decide))).trans ((hg20 a0 13 0 43 hs_a0 (by decide)).trans ((xs_a hg17 (xne hs_a0 hs_wf (by decide))).trans ((xs_a hg16 (xne hs_a0 hs_b15 (by decide))).trans ((xs_a hg14 (xne hs_a0 hs_b13 (by decide))).trans eno)))))))), by omega, by omega, ((xs_k hg159 (by decide)).trans ((xs_a hg158 (xne hs_a0 hs_wu (by decide))).trans ((hg146 a0 13 0 44 hs_a0 (by decide)).trans ((xs_a hg144 (xne hs_a0 hs_b15 (by decide))).trans ((hg20 a0 13 0 44 hs_a0 (by decide)).trans ((xs_a hg17 (xne hs_a0 hs_wf (by decide))).trans ((xs_a hg16 (xne hs_a0 hs_b15 (by decide))).trans ((xs_a hg14 (xne hs_a0 hs_b13 (by decide))).trans enw)))))))), by omega, by omega, (fun _ => ⟨by omega, by omega, xRl.s (np := np) (np1 := np) (nl := nl) hp1 (by omega) (by omega) ⟨(show xv g159 wf (160 + nl) = np from by rw [(xv_a hg159 (xne hs_wf hs_a0 (by decide))), (xv_a hg158 (xne hs_wf hs_wu (by decide))), (xv_m hg146 hs_wf (by decide) (by decide)), (xv_a hg144 (xne hs_wf hs_b15 (by decide))), (xv_m hg20 hs_wf (by decide) (by decide)), xv_s hg17 (by omega)]), (fun i9 hi9 h09 => (show xv g159 wf i9 = xv g wf i9 from by rw [(xv_a hg159 (xne hs_wf hs_a0 (by decide))), (xv_a hg158 (xne hs_wf hs_wu (by decide))), (xv_m hg146 hs_wf (by decide) (by decide)), (xv_a hg144 (xne hs_wf hs_b15 (by decide))), (xv_m hg20 hs_wf (by decide) (by decide)), (xv_k (i := i9) hg17 (by omega) (by omega) (by omega)), (xv_a hg16 (xne hs_wf hs_b15 (by decide))), (xv_a hg14 (xne hs_wf hs_b13 (by decide)))]))⟩ ⟨(show xv g159 wu (160 + nl) = np from by rw [(xv_a hg159 (xne hs_wu hs_a0 (by decide))), xv_s hg158 (by omega)]), (fun i9 hi9 h09 => (show xv g159 wu i9 = xv g wu i9 from by rw [(xv_a hg159 (xne hs_wu hs_a0 (by decide))), (xv_k (i := i9) hg158 (by omega) (by omega) (by omega)), (xv_m hg146 hs_wu (by decide) (by decide)), (xv_a hg144 (xne hs_wu hs_b15 (by decide))), (xv_m hg20 hs_wu (by decide) (by decide)), (xv_a hg17 (xne hs_wu hs_wf (by decide))), (xv_a hg16 (xne hs_wu hs_b15 (by decide))), (xv_a hg14 (xne hs_wu hs_b13 (by decide)))]))⟩ (fun i q1 q2 => (show xv g159 wp i = xv g wp i from by rw [(xv_a hg159 (xne hs_wp hs_a0 (by decide))), (xv_a hg158 (xne hs_wp hs_wu (by decide))), (xv_m hg146 hs_wp (by decide) (by decide)), (xv_a hg144 (xne hs_wp hs_b15 (by decide))), (xv_m hg20 hs_wp (by decide) (by decide)), (xv_a hg17 (xne hs_wp hs_wf (by decide))), (xv_a hg16 (xne hs_wp hs_b15 (by decide))), (xv_a hg14 (xne hs_wp hs_b13 (by decide)))])) (by omega) (xhf_0 _ _ _)⟩), (fun i q1 q2 => (show xv g159 wf i = xv g wf i from by rw [(xv_a hg159 (xne hs_wf hs_a0 (by decide))), (xv_a hg158 (xne hs_wf hs_wu (by decide))), (xv_m hg146 hs_wf (by decide) (by decide)), (xv_a hg144 (xne hs_wf hs_b15 (by decide))), (xv_m hg20 hs_wf (by decide) (by decide)), (xv_k (i := i) hg17 (by omega) (by omega) (by omega)), (xv_a hg16 (xne hs_wf hs_b15 (by decide))), (xv_a hg14 (xne hs_wf hs_b13 (by decide)))])), (fun i q1 q2 => (show xv g159 wu i = xv g wu i from by rw [(xv_a hg159 (xne hs_wu hs_a0 (by decide))), (xv_k (i := i) hg158 (by omega) (by omega) (by omega)), (xv_m hg146 hs_wu (by decide) (by decide)), (xv_a hg144 (xne hs_wu hs_b15 (by decide))), (xv_m hg20 hs_wu (by decide) (by decide)), (xv_a hg17 (xne hs_wu hs_wf (by decide))), (xv_a hg16 (xne hs_wu hs_b15 (by decide))), (xv_a hg14 (xne hs_wu hs_b13 (by decide)))])), (fun i q1 q2 => (show xv g159 wp i = xv g wp i from by rw [(xv_a hg159 (xne hs_wp hs_a0 (by decide))), (xv_a hg158 (xne hs_wp hs_wu (by decide))), (xv_m hg146 hs_wp (by decide) (by decide)), (xv_a hg144 (xne hs_wp hs_b15 (by decide))), (xv_m hg20 hs_wp (by decide) (by decide)), (xv_a hg17 (xne hs_wp hs_wf (by decide))), (xv_a hg16 (xne hs_wp hs_b15 (by decide))), (xv_a hg14 (xne hs_wp hs_b13 (by decide)))]))⟩⟩ (Nat.le_refl _) (Nat.le_refl _)
              · refine X_aloadn hK (i := 0) 2 kd46_58.2.2.1 rfl rfl ?_
                refine X_iconst hK kd46_58.2.2.2.1 ?_
                refine X_callV hK [.int (iI 1)] [] lk_X12_333 (c2_bad _ _ _ _ _ S g159 a0 1 hs_a0 (by omega)) hs_a0 ⟨by decide, rfl⟩ kd46_58.2.2.2.2.1 rfl rfl (by simp [Value.category]) (by decide) (by decide) (by decide) (by decide) (fun r165 S167 g166 pr165 qr165 hg166 => ?_)
                obtain ⟨rfl, z168, rfl, lz168, uz168, k169⟩ := pr165
                refine X_st [.int (iI z168)] rfl ?_
                refine X_if_eq hK 239 (by omega) kd46_58.2.2.2.2.2.1 (by decide) (fun c170 => ?_) (fun c170 => ?_)
                · refine X_iconst hK kd46_58.2.2.2.2.2.2.2.2.1 ?_
                  exact hret _ _ _ _ _ _ _ kd46_58.2.2.2.2.2.2.2.2.2.1 (by omega) (by omega) ⟨rfl, 0, rfl, (by omega), (by omega), ⟨np, (nl + 1), nw, no, ((hg166 a0 13 0 41 hs_a0 (by decide)).trans ((xs_k hg159 (by decide)).trans ((xs_a hg158 (xne hs_a0 hs_wu (by decide))).trans ((hg146 a0 13 0 41 hs_a0 (by decide)).trans ((xs_a hg144 (xne hs_a0 hs_b15 (by decide))).trans ((hg20 a0 13 0 41 hs_a0 (by decide)).trans ((xs_a hg17 (xne hs_a0 hs_wf (by decide))).trans ((xs_a hg16 (xne hs_a0 hs_b15 (by decide))).trans ((xs_a hg14 (xne hs_a0 hs_b13 (by decide))).trans enp))))))))), by omega, by omega, ((hg166 a0 13 0 40 hs_a0 (by decide)).trans (xs_s hg159)), by omega, by omega, ((hg166 a0 13 0 43 hs_a0 (by decide)).trans ((xs_k hg159 (by decide)).trans ((xs_a hg158 (xne hs_a0 hs_wu (by decide))).trans ((hg146 a0 13 0 43 hs_a0 (by decide)).trans ((xs_a hg144 (xne hs_a0 hs_b15 (by decide))).trans ((hg20 a0 13 0 43 hs_a0 (by decide)).trans ((xs_a hg17 (xne hs_a0 hs_wf (by decide))).trans ((xs_a hg16 (xne hs_a0 hs_b15 (by decide))).trans ((xs_a hg14 (xne hs_a0 hs_b13 (by decide))).trans eno))))))))), by omega, by omega, ((hg166 a0 13 0 44 hs_a0 (by decide)).trans ((xs_k hg159 (by decide)).trans ((xs_a hg158 (xne hs_a0 hs_wu (by decide))).trans ((hg146 a0 13 0 44 hs_a0 (by decide)).trans ((xs_a hg144 (xne hs_a0 hs_b15 (by decide))).trans ((hg20 a0 13 0 44 hs_a0 (by decide)).trans ((xs_a hg17 (xne hs_a0 hs_wf (by decide))).trans ((xs_a hg16 (xne hs_a0 hs_b15 (by decide))).trans ((xs_a hg14 (xne hs_a0 hs_b13 (by decide))).trans enw))))))))), by omega, by omega, (fun h => by omega), (fun i q1 q2 => (show xv g166 wf i = xv g wf i from by rw [(xv_m hg166 hs_wf (by decide) (by decide)), (xv_a hg159 (xne hs_wf hs_a0 (by decide))), (xv_a hg158 (xne hs_wf hs_wu (by decide))), (xv_m hg146 hs_wf (by decide) (by decide)), (xv_a hg144 (xne hs_wf hs_b15 (by decide))), (xv_m hg20 hs_wf (by decide) (by decide)), (xv_k (i := i) hg17 (by omega) (by omega) (by omega)), (xv_a hg16 (xne hs_wf hs_b15 (by decide))), (xv_a hg14 (xne hs_wf hs_b13 (by decide)))])), (fun i q1 q2 => (show xv g166 wu i = xv g wu i from by rw [(xv_m hg166 hs_wu (by decide) (by decide)), (xv_a hg159 (xne hs_wu hs_a0 (by decide))), (xv_k (i := i) hg158 (by omega) (by omega) (by omega)), (xv_m hg146 hs_wu (by decide) (by decide)), (xv_a hg144 (xne hs_wu hs_b15 (by decide))), (xv_m hg20 hs_wu (by decide) (by decide)), (xv_a hg17 (xne hs_wu hs_wf (by decide))), (xv_a hg16 (xne hs_wu hs_b15 (by decide))), (xv_a hg14 (xne hs_wu hs_b13 (by decide)))])), (fun i q1 q2 => (show xv g166 wp i = xv g wp i from by rw [(xv_m hg166 hs_wp (by decide) (by decide)), (xv_a hg159 (xne hs_wp hs_a0 (by decide))), (xv_a hg158 (xne hs_wp hs_wu (by decide))), (xv_m hg146 hs_wp (by decide) (by decide)), (xv_a hg144 (xne hs_wp hs_b15 (by decide))), (xv_m hg20 hs_wp (by decide) (by decide)), (xv_a hg17 (xne hs_wp hs_wf (by decide))), (xv_a hg16 (xne hs_wp hs_b15 (by decide))), (xv_a hg14 (xne hs_wp hs_b13 (by decide)))]))⟩⟩ (Nat.le_refl _) (Nat.le_refl _)
                · refine X_iconst hK kd46_58.2.2.2.2.2.2.1 ?_
                  refine X_goto hK 240 kd46_58.2.2.2.2.2.2.2.1 (by decide) ?_
                  exact hret _ _ _ _ _ _ _ kd46_58.2.2.2.2.2.2.2.2.2.1 (by omega) (by omega) ⟨rfl, 1, rfl, (by omega), (by omega), ⟨np, (nl + 1), nw, no, ((hg166 a0 13 0 41 hs_a0 (by decide)).trans ((xs_k hg159 (by decide)).trans ((xs_a hg158 (xne hs_a0 hs_wu (by decide))).trans ((hg146 a0 13 0 41 hs_a0 (by decide)).trans ((xs_a hg144 (xne hs_a0 hs_b15 (by decide))).trans ((hg20 a0 13 0 41 hs_a0 (by decide)).trans ((xs_a hg17 (xne hs_a0 hs_wf (by decide))).trans ((xs_a hg16 (xne hs_a0 hs_b15 (by decide))).trans ((xs_a hg14 (xne hs_a0 hs_b13 (by decide))).trans enp))))))))), by omega, by omega, ((hg166 a0 13 0 40 hs_a0 (by decide)).trans (xs_s hg159)), by omega, by omega, ((hg166 a0 13 0 43 hs_a0 (by decide)).trans ((xs_k hg159 (by decide)).trans ((xs_a hg158 (xne hs_a0 hs_wu (by decide))).trans ((hg146 a0 13 0 43 hs_a0 (by decide)).trans ((xs_a hg144 (xne hs_a0 hs_b15 (by decide))).trans ((hg20 a0 13 0 43 hs_a0 (by decide)).trans ((xs_a hg17 (xne hs_a0 hs_wf (by decide))).trans ((xs_a hg16 (xne hs_a0 hs_b15 (by decide))).trans ((xs_a hg14 (xne hs_a0 hs_b13 (by decide))).trans eno))))))))), by omega, by omega, ((hg166 a0 13 0 44 hs_a0 (by decide)).trans ((xs_k hg159 (by decide)).trans ((xs_a hg158 (xne hs_a0 hs_wu (by decide))).trans ((hg146 a0 13 0 44 hs_a0 (by decide)).trans ((xs_a hg144 (xne hs_a0 hs_b15 (by decide))).trans ((hg20 a0 13 0 44 hs_a0 (by decide)).trans ((xs_a hg17 (xne hs_a0 hs_wf (by decide))).trans ((xs_a hg16 (xne hs_a0 hs_b15 (by decide))).trans ((xs_a hg14 (xne hs_a0 hs_b13 (by decide))).trans enw))))))))), by omega, by omega, (fun _ => ⟨by omega, by omega, xRl.s (np := np) (np1 := np) (nl := nl) hp1 (by omega) (by omega) ⟨(show xv g166 wf (160 + nl) = np from by rw [(xv_m hg166 hs_wf (by decide) (by decide)), (xv_a hg159 (xne hs_wf hs_a0 (by decide))), (xv_a hg158 (xne hs_wf hs_wu (by decide))), (xv_m hg146 hs_wf (by decide) (by decide)), (xv_a hg144 (xne hs_wf hs_b15 (by decide))), (xv_m hg20 hs_wf (by decide) (by decide)), xv_s hg17 (by omega)]), (fun i9 hi9 h09 => (show xv g166 wf i9 = xv g wf i9 from by rw [(xv_m hg166 hs_wf (by decide) (by decide)), (xv_a hg159 (xne hs_wf hs_a0 (by decide))), (xv_a hg158 (xne hs_wf hs_wu (by decide))), (xv_m hg146 hs_wf (by decide) (by decide)), (xv_a hg144 (xne hs_wf hs_b15 (by decide))), (xv_m hg20 hs_wf (by decide) (by decide)), (xv_k (i := i9) hg17 (by omega) (by omega) (by omega)), (xv_a hg16 (xne hs_wf hs_b15 (by decide))), (xv_a hg14 (xne hs_wf hs_b13 (by decide)))]))⟩ ⟨(show xv g166 wu (160 + nl) = np from by rw [(xv_m hg166 hs_wu (by decide) (by decide)), (xv_a hg159 (xne hs_wu hs_a0 (by decide))), xv_s hg158 (by omega)]), (fun i9 hi9 h09 => (show xv g166 wu i9 = xv g wu i9 from by rw [(xv_m hg166 hs_wu (by decide) (by decide)), (xv_a hg159 (xne hs_wu hs_a0 (by decide))), (xv_k (i := i9) hg158 (by omega) (by omega) (by omega)), (xv_m hg146 hs_wu (by decide) (by decide)), (xv_a hg144 (xne hs_wu hs_b15 (by decide))), (xv_m hg20 hs_wu (by decide) (by decide)), (xv_a hg17 (xne hs_wu hs_wf (by decide))), (xv_a hg16 (xne hs_wu hs_b15 (by decide))), (xv_a hg14 (xne hs_wu hs_b13 (by decide)))]))⟩ (fun i q1 q2 => (show xv g166 wp i = xv g wp i from by rw [(xv_m hg166 hs_wp (by decide) (by decide)), (xv_a hg159 (xne hs_wp hs_a0 (by decide))), (xv_a hg158 (xne hs_wp hs_wu (by decide))), (xv_m hg146 hs_wp (by decide) (by decide)), (xv_a hg144 (xne hs_wp hs_b15 (by decide))), (xv_m hg20 hs_wp (by decide) (by decide)), (xv_a hg17 (xne hs_wp hs_wf (by decide))), (xv_a hg16 (xne hs_wp hs_b15 (by decide))), (xv_a hg14 (xne hs_wp hs_b13 (by decide)))])) (by omega) (xhf_0 _ _ _)⟩), (fun i q1 q2 => (show xv g166 wf i = xv g wf i from by rw [(xv_m hg166 hs_wf (by decide) (by decide)), (xv_a hg159 (xne hs_wf hs_a0 (by decide))), (xv_a hg158 (xne hs_wf hs_wu (by decide))), (xv_m hg146 hs_wf (by decide) (by decide)), (xv_a hg144 (xne hs_wf hs_b15 (by decide))), (xv_m hg20 hs_wf (by decide) (by decide)), (xv_k (i := i) hg17 (by omega) (by omega) (by omega)), (xv_a hg16 (xne hs_wf hs_b15 (by decide))), (xv_a hg14 (xne hs_wf hs_b13 (by decide)))])), (fun i q1 q2 => (show xv g166 wu i = xv g wu i from by rw [(xv_m hg166 hs_wu (by decide) (by decide)), (xv_a hg159 (xne hs_wu hs_a0 (by decide))), (xv_k (i := i) hg158 (by omega) (by omega) (by omega)), (xv_m hg146 hs_wu (by decide) (by decide)), (xv_a hg144 (xne hs_wu hs_b15 (by decide))), (xv_m hg20 hs_wu (by decide) (by decide)), (xv_a hg17 (xne hs_wu hs_wf (by decide))), (xv_a hg16 (xne hs_wu hs_b15 (by decide))), (xv_a hg14 (xne hs_wu hs_b13 (by decide)))])), (fun i q1 q2 => (show xv g166 wp i = xv g wp i from by rw [(xv_m hg166 hs_wp (by decide) (by decide)), (xv_a hg159 (xne hs_wp hs_a0 (by decide))), (xv_a hg158 (xne hs_wp hs_wu (by decide))), (xv_m hg146 hs_wp (by decide) (by decide)), (xv_a hg144 (xne hs_wp hs_b15 (by decide))), (xv_m hg20 hs_wp (by decide) (by decide)), (xv_a hg17 (xne hs_wp hs_wf (by decide))), (xv_a hg16 (xne hs_wp hs_b15 (by decide))), (xv_a hg14 (xne hs_wp hs_b13 (by decide)))]))⟩⟩ (Nat.le_refl _) (Nat.le_refl _)
            · refine X_aloadn hK (i := 0) 2 kd46_56.2.2.2.1 rfl rfl ?_
              refine X_callV hK [] [] lk_X12_342 (c_X12_go _ _ _ _ _ S g146 a0 hs_a0) hs_a0 ⟨by decide, rfl⟩ kd46_56.2.2.2.2.1 rfl rfl (by simp [Value.category]) (by decide) (by decide) (by decide) (by decide) (fun r171 S173 g172 pr171 qr171 hg172 => ?_)
              obtain ⟨rfl, rfl⟩ := pr171
              refine X_st [] rfl ?_
              refine X_aloadn hK (i := 0) 2 kd46_56.2.2.2.2.2.1 rfl rfl ?_
              refine X_knowr 16200 64 hs_a0 (by decide) sl_13_38 (fun b174 eb174 hs_b174 => ?_)
              refine X_callV hK [] [] lk_X12_367 (c_X12_readCond _ _ _ _ _ S g172 a0 np no nw wp b174 hs_a0 (by omega) ((hg172 a0 13 0 41 hs_a0 (by decide)).trans ((hg146 a0 13 0 41 hs_a0 (by decide)).trans ((xs_a hg144 (xne hs_a0 hs_b15 (by decide))).trans ((hg20 a0 13 0 41 hs_a0 (by decide)).trans ((xs_a hg17 (xne hs_a0 hs_wf (by decide))).trans ((xs_a hg16 (xne hs_a0 hs_b15 (by decide))).trans ((xs_a hg14 (xne hs_a0 hs_b13 (by decide))).trans enp))))))) (by omega) ((hg172 a0 13 0 43 hs_a0 (by decide)).trans ((hg146 a0 13 0 43 hs_a0 (by decide)).trans ((xs_a hg144 (xne hs_a0 hs_b15 (by decide))).trans ((hg20 a0 13 0 43 hs_a0 (by decide)).trans ((xs_a hg17 (xne hs_a0 hs_wf (by decide))).trans ((xs_a hg16 (xne hs_a0 hs_b15 (by decide))).trans ((xs_a hg14 (xne hs_a0 hs_b13 (by decide))).trans eno))))))) (by omega) ((hg172 a0 13 0 44 hs_a0 (by decide)).trans ((hg146 a0 13 0 44 hs_a0 (by decide)).trans ((xs_a hg144 (xne hs_a0 hs_b15 (by decide))).trans ((hg20 a0 13 0 44 hs_a0 (by decide)).trans ((xs_a hg17 (xne hs_a0 hs_wf (by decide))).trans ((xs_a hg16 (xne hs_a0 hs_b15 (by decide))).trans ((xs_a hg14 (xne hs_a0 hs_b13 (by decide))).trans enw))))))) ((hg172 a0 13 0 35 hs_a0 (by decide)).trans ((hg146 a0 13 0 35 hs_a0 (by decide)).trans ((xs_a hg144 (xne hs_a0 hs_b15 (by decide))).trans ((hg20 a0 13 0 35 hs_a0 (by decide)).trans ((xs_a hg17 (xne hs_a0 hs_wf (by decide))).trans ((xs_a hg16 (xne hs_a0 hs_b15 (by decide))).trans ((xs_a hg14 (xne hs_a0 hs_b13 (by decide))).trans ewp))))))) hs_wp eb174 hs_b174 (by omega)) hs_a0 ⟨by decide, rfl⟩ kd46_56.2.2.2.2.2.2.1 rfl rfl (by simp [Value.category]) (by decide) (by decide) (by decide) (by decide) (fun r175 S177 g176 pr175 qr175 hg176 => ?_)
              obtain ⟨rfl, z178, rfl, lz178, uz178, k179⟩ := pr175
              refine X_st [.int (iI z178)] rfl ?_
              obtain ⟨z180, z181, z182, ez180, lz180, uz180, ez182, lz182, uz182, ez181, lz181, uz181, Rz180, oz180⟩ := k179
              refine X_if_ne hK 198 (by omega) kd46_56.2.2.2.2.2.2.2.1 (by decide) (fun c183 => ?_) (fun c183 => ?_)
              · refine X_aloadn hK (i := 0) 2 kd46_56.2.2.2.2.2.2.2.2.2.2.1 rfl rfl ?_
                refine X_getK hK fl_X12_65_13 hs_a0 ((hg176 a0 13 0 34 hs_a0 (by decide)).trans ((hg172 a0 13 0 34 hs_a0 (by decide)).trans ((hg146 a0 13 0 34 hs_a0 (by decide)).trans ((xs_a hg144 (xne hs_a0 hs_b15 (by decide))).trans ((hg20 a0 13 0 34 hs_a0 (by decide)).trans ((xs_a hg17 (xne hs_a0 hs_wf (by decide))).trans ((xs_a hg16 (xne hs_a0 hs_b15 (by decide))).trans ((xs_a hg14 (xne hs_a0 hs_b13 (by decide))).trans ewu)))))))) kd46_56.2.2.2.2.2.2.2.2.2.2.2 ?_
                refine X_iloadn hK (i := 2) 0 kd46_57.1 rfl rfl ?_
                refine X_aloadn hK (i := 0) 2 kd46_57.2.1 rfl rfl ?_
                refine X_getK hK fl_X12_313_13 hs_a0 ez180 kd46_57.2.2.1 ?_
                refine X_iast hK hs_wu (by decide) (by decide) sl_15800 (by omega) (by omega) (by omega) (by omega) kd46_57.2.2.2.1 (fun g184 hg184 => ?_)
                refine X_aloadn hK (i := 0) 2 kd46_57.2.2.2.2.1 rfl rfl ?_
                refine X_dup hK kd46_57.2.2.2.2.2.1 rfl ?_
                refine X_getK hK fl_X12_361_13 hs_a0 ((xs_a hg184 (xne hs_a0 hs_wu (by decide))).trans ((hg176 a0 13 0 40 hs_a0 (by decide)).trans ((hg172 a0 13 0 40 hs_a0 (by decide)).trans ((hg146 a0 13 0 40 hs_a0 (by decide)).trans ((xs_a hg144 (xne hs_a0 hs_b15 (by decide))).trans ((hg20 a0 13 0 40 hs_a0 (by decide)).trans ((xs_a hg17 (xne hs_a0 hs_wf (by decide))).trans ((xs_a hg16 (xne hs_a0 hs_b15 (by decide))).trans ((xs_a hg14 (xne hs_a0 hs_b13 (by decide))).trans enl))))))))) kd46_57.2.2.2.2.2.2.1 ?_
                refine X_iconst hK kd46_57.2.2.2.2.2.2.2.1 ?_
                refine X_iadd hK kd46_57.2.2.2.2.2.2.2.2.1 ?_
                refine X_puti hK fl_X12_361_13 hs_a0 (by decide) sl_13_40 (by omega) (by omega) kd46_57.2.2.2.2.2.2.2.2.2.1 (fun g185 hg185 => ?_)
                refine X_aloadn hK (i := 0) 2 kd46_57.2.2.2.2.2.2.2.2.2.2.1 rfl rfl ?_
                refine X_bipush hK kd46_57.2.2.2.2.2.2.2.2.2.2.2 (by decide) ?_
                refine X_callV hK [.int (iI 59)] [] lk_X12_330 (c_X12_isSign _ _ _ _ _ S g185 a0 59 hs_a0 (by omega)) hs_a0 ⟨by decide, rfl⟩ kd46_58.1 rfl rfl (by simp [Value.category]) (by decide) (by decide) (by decide) (by decide) (fun r186 S188 g187 pr186 qr186 hg187 => ?_)
                obtain ⟨rfl, rfl, z189, rfl, lz189, uz189⟩ := pr186
                refine X_st [.int (iI z189)] rfl ?_
                refine X_if_ne hK 235 (by omega) kd46_58.2.1 (by decide) (fun c190 => ?_) (fun c190 => ?_)
                · refine X_iconst hK kd46_58.2.2.2.2.2.2.1 ?_
                  refine X_goto hK 240 kd46_58.2.2.2.2.2.2.2.1 (by decide) ?_
                  exact hret _ _ _ _ _ _ _ kd46_58.2.2.2.2.2.2.2.2.2.1 (by omega) (by omega) ⟨rfl, 1, rfl, (by omega), (by omega), ⟨z180, (nl + 1), z181, z182, ((xs_k hg185 (by decide)).trans ((xs_a hg184 (xne hs_a0 hs_wu (by decide))).trans ez180)), by omega, by omega, (xs_s hg185), by omega, by omega, ((xs_k hg185 (by decide)).trans ((xs_a hg184 (xne hs_a0 hs_wu (by decide))).trans ez182)), by omega, by omega, ((xs_k hg185 (by decide)).trans ((xs_a hg184 (xne hs_a0 hs_wu (by decide))).trans ez181)), by omega, by omega, (fun _ => ⟨by omega, by omega, xRl.s (np := np) (np1 := z180) (nl := nl) hp1 (by omega) (by omega) ⟨(show xv g185 wf (160 + nl) = np from by rw [(xv_a hg185 (xne hs_wf hs_a0 (by decide))), (xv_a hg184 (xne hs_wf hs_wu (by decide))), (xv_m hg176 hs_wf (by decide) (by decide)), (xv_m hg172 hs_wf (by decide) (by decide)), (xv_m hg146 hs_wf (by decide) (by decide)), (xv_a hg144 (xne hs_wf hs_b15 (by decide))), (xv_m hg20 hs_wf (by decide) (by decide)), xv_s hg17 (by omega)]), (fun i9 hi9 h09 => (show xv g185 wf i9 = xv g wf i9 from by rw [(xv_a hg185 (xne hs_wf hs_a0 (by decide))), (xv_a hg184 (xne hs_wf hs_wu (by decide))), (xv_m hg176 hs_wf (by decide) (by decide)), (xv_m hg172 hs_wf (by decide) (by decide)), (xv_m hg146 hs_wf (by decide) (by decide)), (xv_a hg144 (xne hs_wf hs_b15 (by decide))), (xv_m hg20 hs_wf (by decide) (by decide)), (xv_k (i := i9) hg17 (by omega) (by omega) (by omega)), (xv_a hg16 (xne hs_wf hs_b15 (by decide))), (xv_a hg14 (xne hs_wf hs_b13 (by decide)))]))⟩ ⟨(show xv g185 wu (160 + nl) = z180 from by rw [(xv_a hg185 (xne hs_wu hs_a0 (by decide))), xv_s hg184 (by omega)]), (fun i9 hi9 h09 => (show xv g185 wu i9 = xv g wu i9 from by rw [(xv_a hg185 (xne hs_wu hs_a0 (by decide))), (xv_k (i := i9) hg184 (by omega) (by omega) (by omega)), (xv_m hg176 hs_wu (by decide) (by decide)), (xv_m hg172 hs_wu (by decide) (by decide)), (xv_m hg146 hs_wu (by decide) (by decide)), (xv_a hg144 (xne hs_wu hs_b15 (by decide))), (xv_m hg20 hs_wu (by decide) (by decide)), (xv_a hg17 (xne hs_wu hs_wf (by decide))), (xv_a hg16 (xne hs_wu hs_b15 (by decide))), (xv_a hg14 (xne hs_wu hs_b13 (by decide)))]))⟩ (fun i q1 q2 => ((show xv g185 wp i = xv g176 wp i from by rw [(xv_a hg185 (xne hs_wp hs_a0 (by decide))), (xv_a hg184 (xne hs_wp hs_wu (by decide)))])).trans ((oz180 i q1 (by omega)).trans ((show xv g172 wp i = xv g wp i from by rw [(xv_m hg172 hs_wp (by decide) (by decide)), (xv_m hg146 hs_wp (by decide) (by decide)), (xv_a hg144 (xne hs_wp hs_b15 (by decide))), (xv_m hg20 hs_wp (by decide) (by decide)), (xv_a hg17 (xne hs_wp hs_wf (by decide))), (xv_a hg16 (xne hs_wp hs_b15 (by decide))), (xv_a hg14 (xne hs_wp hs_b13 (by decide)))])))) (by omega) ((by rw [(Eq.trans (xv_a hg185 (xne hs_wp hs_a0 (by decide))) (xv_a hg184 (xne hs_wp hs_wu (by decide))))]; exact (Rz180 (by omega)).2.2))⟩), (fun i q1 q2 => (show xv g185 wf i = xv g wf i from by rw [(xv_a hg185 (xne hs_wf hs_a0 (by decide))), (xv_a hg184 (xne hs_wf hs_wu (by decide))), (xv_m hg176 hs_wf (by decide) (by decide)), (xv_m hg172 hs_wf (by decide) (by decide)), (xv_m hg146 hs_wf (by decide) (by decide)), (xv_a hg144 (xne hs_wf hs_b15 (by decide))), (xv_m hg20 hs_wf (by decide) (by decide)), (xv_k (i := i) hg17 (by omega) (by omega) (by omega)), (xv_a hg16 (xne hs_wf hs_b15 (by decide))), (xv_a hg14 (xne hs_wf hs_b13 (by decide)))])), (fun i q1 q2 => (show xv g185 wu i = xv g wu i from by rw [(xv_a hg185 (xne hs_wu hs_a0 (by decide))), (xv_k (i := i) hg184 (by omega) (by omega) (by omega)), (xv_m hg176 hs_wu (by decide) (by decide)), (xv_m hg172 hs_wu (by decide) (by decide)), (xv_m hg146 hs_wu (by decide) (by decide)), (xv_a hg144 (xne hs_wu hs_b15 (by decide))), (xv_m hg20 hs_wu (by decide) (by decide)), (xv_a hg17 (xne hs_wu hs_wf (by decide))), (xv_a hg16 (xne hs_wu hs_b15 (by decide))), (xv_a hg14 (xne hs_wu hs_b13 (by decide)))])), (fun i q1 q2 => ((show xv g185 wp i = xv g176 wp i from by rw [(xv_a hg185 (xne hs_wp hs_a0 (by decide))), (xv_a hg184 (xne hs_wp hs_wu (by decide)))])).trans ((oz180 i q1 (by omega)).trans ((show xv g172 wp i = xv g wp i from by rw [(xv_m hg172 hs_wp (by decide) (by decide)), (xv_m hg146 hs_wp (by decide) (by decide)), (xv_a hg144 (xne hs_wp hs_b15 (by decide))), (xv_m hg20 hs_wp (by decide) (by decide)), (xv_a hg17 (xne hs_wp hs_wf (by decide))), (xv_a hg16 (xne hs_wp hs_b15 (by decide))), (xv_a hg14 (xne hs_wp hs_b13 (by decide)))]))))⟩⟩ (Nat.le_refl _) (Nat.le_refl _)
                · refine X_aloadn hK (i := 0) 2 kd46_58.2.2.1 rfl rfl ?_
                  refine X_iconst hK kd46_58.2.2.2.1 ?_
                  refine X_callV hK [.int (iI 1)] [] lk_X12_333 (c2_bad _ _ _ _ _ S g185 a0 1 hs_a0 (by omega)) hs_a0 ⟨by decide, rfl⟩ kd46_58.2.2.2.2.1 rfl rfl (by simp [Value.category]) (by decide) (by decide) (by decide) (by decide) (fun r191 S193 g192 pr191 qr191 hg192 => ?_)
                  obtain ⟨rfl, z194, rfl, lz194, uz194, k195⟩ := pr191
                  refine X_st [.int (iI z194)] rfl ?_
                  refine X_if_eq hK 239 (by omega) kd46_58.2.2.2.2.2.1 (by decide) (fun c196 => ?_) (fun c196 => ?_)
                  · refine X_iconst hK kd46_58.2.2.2.2.2.2.2.2.1 ?_
                    exact hret _ _ _ _ _ _ _ kd46_58.2.2.2.2.2.2.2.2.2.1 (by omega) (by omega) ⟨rfl, 0, rfl, (by omega), (by omega), ⟨z180, (nl + 1), z181, z182, ((hg192 a0 13 0 41 hs_a0 (by decide)).trans ((xs_k hg185 (by decide)).trans ((xs_a hg184 (xne hs_a0 hs_wu (by decide))).trans ez180))), by omega, by omega, ((hg192 a0 13 0 40 hs_a0 (by decide)).trans (xs_s hg185)), by omega, by omega, ((hg192 a0 13 0 43 hs_a0 (by decide)).trans ((xs_k hg185 (by decide)).trans ((xs_a hg184 (xne hs_a0 hs_wu (by decide))).trans ez182))), by omega, by omega, ((hg192 a0 13 0 44 hs_a0 (by decide)).trans ((xs_k hg185 (by decide)).trans ((xs_a hg184 (xne hs_a0 hs_wu (by decide))).trans ez181))), by omega, by omega, (fun h => by omega), (fun i q1 q2 => (show xv g192 wf i = xv g wf i from by rw [(xv_m hg192 hs_wf (by decide) (by decide)), (xv_a hg185 (xne hs_wf hs_a0 (by decide))), (xv_a hg184 (xne hs_wf hs_wu (by decide))), (xv_m hg176 hs_wf (by decide) (by decide)), (xv_m hg172 hs_wf (by decide) (by decide)), (xv_m hg146 hs_wf (by decide) (by decide)), (xv_a hg144 (xne hs_wf hs_b15 (by decide))), (xv_m hg20 hs_wf (by decide) (by decide)), (xv_k (i := i) hg17 (by omega) (by omega) (by omega)), (xv_a hg16 (xne hs_wf hs_b15 (by decide))), (xv_a hg14 (xne hs_wf hs_b13 (by decide)))])), (fun i q1 q2 => (show xv g192 wu i = xv g wu i from by rw [(xv_m hg192 hs_wu (by decide) (by decide)), (xv_a hg185 (xne hs_wu hs_a0 (by decide))), (xv_k (i := i) hg184 (by omega) (by omega) (by omega)), (xv_m hg176 hs_wu (by decide) (by decide)), (xv_m hg172 hs_wu (by decide) (by decide)), (xv_m hg146 hs_wu (by decide) (by decide)), (xv_a hg144 (xne hs_wu hs_b15 (by decide))), (xv_m hg20 hs_wu (by decide) (by decide)), (xv_a hg17 (xne hs_wu hs_wf (by decide))), (xv_a hg16 (xne hs_wu hs_b15 (by decide))), (xv_a hg14 (xne hs_wu hs_b13 (by decide)))])), (fun i q1 q2 => ((show xv g192 wp i = xv g176 wp i from by rw [(xv_m hg192 hs_wp (by decide) (by decide)), (xv_a hg185 (xne hs_wp hs_a0 (by decide))), (xv_a hg184 (xne hs_wp hs_wu (by decide)))])).trans ((oz180 i q1 (by omega)).trans ((show xv g172 wp i = xv g wp i from by rw [(xv_m hg172 hs_wp (by decide) (by decide)), (xv_m hg146 hs_wp (by decide) (by decide)), (xv_a hg144 (xne hs_wp hs_b15 (by decide))), (xv_m hg20 hs_wp (by decide) (by decide)), (xv_a hg17 (xne hs_wp hs_wf (by decide))), (xv_a hg16 (xne hs_wp hs_b15 (by decide))), (xv_a hg14 (xne hs_wp hs_b13 (by decide)))]))))⟩⟩ (Nat.le_refl _) (Nat.le_refl _)
                  · refine X_iconst hK kd46_58.2.2.2.2.2.2.1 ?_
                    refine X_goto hK 240 kd46_58.2.2.2.2.2.2.2.1 (by decide) ?_
                    exact hret _ _ _ _ _ _ _ kd46_58.2.2.2.2.2.2.2.2.2.1 (by omega) (by omega) ⟨rfl, 1, rfl, (by omega), (by omega), ⟨z180, (nl + 1), z181, z182, ((hg192 a0 13 0 41 hs_a0 (by decide)).trans ((xs_k hg185 (by decide)).trans ((xs_a hg184 (xne hs_a0 hs_wu (by decide))).trans ez180))), by omega, by omega, ((hg192 a0 13 0 40 hs_a0 (by decide)).trans (xs_s hg185)), by omega, by omega, ((hg192 a0 13 0 43 hs_a0 (by decide)).trans ((xs_k hg185 (by decide)).trans ((xs_a hg184 (xne hs_a0 hs_wu (by decide))).trans ez182))), by omega, by omega, ((hg192 a0 13 0 44 hs_a0 (by decide)).trans ((xs_k hg185 (by decide)).trans ((xs_a hg184 (xne hs_a0 hs_wu (by decide))).trans ez181))), by omega, by omega, (fun _ => ⟨by omega, by omega, xRl.s (np := np) (np1 := z180) (nl := nl) hp1 (by omega) (by omega) ⟨(show xv g192 wf (160 + nl) = np from by rw [(xv_m hg192 hs_wf (by decide) (by decide)), (xv_a hg185 (xne hs_wf hs_a0 (by decide))), (xv_a hg184 (xne hs_wf hs_wu (by decide))), (xv_m hg176 hs_wf (by decide) (by decide)), (xv_m hg172 hs_wf (by decide) (by decide)), (xv_m hg146 hs_wf (by decide) (by decide)), (xv_a hg144 (xne hs_wf hs_b15 (by decide))), (xv_m hg20 hs_wf (by decide) (by decide)), xv_s hg17 (by omega)]), (fun i9 hi9 h09 => (show xv g192 wf i9 = xv g wf i9 from by rw [(xv_m hg192 hs_wf (by decide) (by decide)), (xv_a hg185 (xne hs_wf hs_a0 (by decide))), (xv_a hg184 (xne hs_wf hs_wu (by decide))), (xv_m hg176 hs_wf (by decide) (by decide)), (xv_m hg172 hs_wf (by decide) (by decide)), (xv_m hg146 hs_wf (by decide) (by decide)), (xv_a hg144 (xne hs_wf hs_b15 (by decide))), (xv_m hg20 hs_wf (by decide) (by decide)), (xv_k (i := i9) hg17 (by omega) (by omega) (by omega)), (xv_a hg16 (xne hs_wf hs_b15 (by decide))), (xv_a hg14 (xne hs_wf hs_b13 (by decide)))]))⟩ ⟨(show xv g192 wu (160 + nl) = z180 from by rw [(xv_m hg192 hs_wu (by decide) (by decide)), (xv_a hg185 (xne hs_wu hs_a0 (by decide))), xv_s hg184 (by omega)]), (fun i9 hi9 h09 => (show xv g192 wu i9 = xv g wu i9 from by rw [(xv_m hg192 hs_wu (by decide) (by decide)), (xv_a hg185 (xne hs_wu hs_a0 (by decide))), (xv_k (i := i9) hg184 (by omega) (by omega) (by omega)), (xv_m hg176 hs_wu (by decide) (by decide)), (xv_m hg172 hs_wu (by decide) (by decide)), (xv_m hg146 hs_wu (by decide) (by decide)), (xv_a hg144 (xne hs_wu hs_b15 (by decide))), (xv_m hg20 hs_wu (by decide) (by decide)), (xv_a hg17 (xne hs_wu hs_wf (by decide))), (xv_a hg16 (xne hs_wu hs_b15 (by decide))), (xv_a hg14 (xne hs_wu hs_b13 (by decide)))]))⟩ (fun i q1 q2 => ((show xv g192 wp i = xv g176 wp i from by rw [(xv_m hg192 hs_wp (by decide) (by decide)), (xv_a hg185 (xne hs_wp hs_a0 (by decide))), (xv_a hg184 (xne hs_wp hs_wu (by decide)))])).trans ((oz180 i q1 (by omega)).trans ((show xv g172 wp i = xv g wp i from by rw [(xv_m hg172 hs_wp (by decide) (by decide)), (xv_m hg146 hs_wp (by decide) (by decide)), (xv_a hg144 (xne hs_wp hs_b15 (by decide))), (xv_m hg20 hs_wp (by decide) (by decide)), (xv_a hg17 (xne hs_wp hs_wf (by decide))), (xv_a hg16 (xne hs_wp hs_b15 (by decide))), (xv_a hg14 (xne hs_wp hs_b13 (by decide)))])))) (by omega) ((by rw [(Eq.trans (Eq.trans (xv_m hg192 hs_wp (by decide) (by decide)) (xv_a hg185 (xne hs_wp hs_a0 (by decide)))) (xv_a hg184 (xne hs_wp hs_wu (by decide))))]; exact (Rz180 (by omega)).2.2))⟩), (fun i q1 q2 => (show xv g192 wf i = xv g wf i from by rw [(xv_m hg192 hs_wf (by decide) (by decide)), (xv_a hg185 (xne hs_wf hs_a0 (by decide))), (xv_a hg184 (xne hs_wf hs_wu (by decide))), (xv_m hg176 hs_wf (by decide) (by decide)), (xv_m hg172 hs_wf (by decide) (by decide)), (xv_m hg146 hs_wf (by decide) (by decide)), (xv_a hg144 (xne hs_wf hs_b15 (by decide))), (xv_m hg20 hs_wf (by decide) (by decide)), (xv_k (i := i) hg17 (by omega) (by omega) (by omega)), (xv_a hg16 (xne hs_wf hs_b15 (by decide))), (xv_a hg14 (xne hs_wf hs_b13 (by decide)))])), (fun i q1 q2 => (show xv g192 wu i = xv g wu i from by rw [(xv_m hg192 hs_wu (by decide) (by decide)), (xv_a hg185 (xne hs_wu hs_a0 (by decide))), (xv_k (i := i) hg184 (by omega) (by omega) (by omega)), (xv_m hg176 hs_wu (by decide) (by decide)), (xv_m hg172 hs_wu (by decide) (by decide)), (xv_m hg146 hs_wu (by decide) (by decide)), (xv_a hg144 (xne hs_wu hs_b15 (by decide))), (xv_m hg20 hs_wu (by decide) (by decide)), (xv_a hg17 (xne hs_wu hs_wf (by decide))), (xv_a hg16 (xne hs_wu hs_b15 (by decide))), (xv_a hg14 (xne hs_wu hs_b13 (by decide)))])), (fun i q1 q2 => ((show xv g192 wp i = xv g176 wp i from by rw [(xv_m hg192 hs_wp (by decide) (by decide)), (xv_a hg185 (xne hs_wp hs_a0 (by decide))), (xv_a hg184 (xne hs_wp hs_wu (by decide)))])).trans ((oz180 i q1 (by omega)).trans ((show xv g172 wp i = xv g wp i from by rw [(xv_m hg172 hs_wp (by decide) (by decide)), (xv_m hg146 hs_wp (by decide) (by decide)), (xv_a hg144 (xne hs_wp hs_b15 (by decide))), (xv_m hg20 hs_wp (by decide) (by decide)), (xv_a hg17 (xne hs_wp hs_wf (by decide))), (xv_a hg16 (xne hs_wp hs_b15 (by decide))), (xv_a hg14 (xne hs_wp hs_b13 (by decide)))]))))⟩⟩ (Nat.le_refl _) (Nat.le_refl _)
              · refine X_iconst hK kd46_56.2.2.2.2.2.2.2.2.1 ?_
                exact hret _ _ _ _ _ _ _ kd46_56.2.2.2.2.2.2.2.2.2.1 (by omega) (by omega) ⟨rfl, 0, rfl, (by omega), (by omega), ⟨z180, nl, z181, z182, ez180, by omega, by omega, ((hg176 a0 13 0 40 hs_a0 (by decide)).trans ((hg172 a0 13 0 40 hs_a0 (by decide)).trans ((hg146 a0 13 0 40 hs_a0 (by decide)).trans ((xs_a hg144 (xne hs_a0 hs_b15 (by decide))).trans ((hg20 a0 13 0 40 hs_a0 (by decide)).trans ((xs_a hg17 (xne hs_a0 hs_wf (by decide))).trans ((xs_a hg16 (xne hs_a0 hs_b15 (by decide))).trans ((xs_a hg14 (xne hs_a0 hs_b13 (by decide))).trans enl)))))))), by omega, by omega, ez182, by omega, by omega, ez181, by omega, by omega, (fun h => by omega), (fun i q1 q2 => (show xv g176 wf i = xv g wf i from by rw [(xv_m hg176 hs_wf (by decide) (by decide)), (xv_m hg172 hs_wf (by decide) (by decide)), (xv_m hg146 hs_wf (by decide) (by decide)), (xv_a hg144 (xne hs_wf hs_b15 (by decide))), (xv_m hg20 hs_wf (by decide) (by decide)), (xv_k (i := i) hg17 (by omega) (by omega) (by omega)), (xv_a hg16 (xne hs_wf hs_b15 (by decide))), (xv_a hg14 (xne hs_wf hs_b13 (by decide)))])), (fun i q1 q2 => (show xv g176 wu i = xv g wu i from by rw [(xv_m hg176 hs_wu (by decide) (by decide)), (xv_m hg172 hs_wu (by decide) (by decide)), (xv_m hg146 hs_wu (by decide) (by decide)), (xv_a hg144 (xne hs_wu hs_b15 (by decide))), (xv_m hg20 hs_wu (by decide) (by decide)), (xv_a hg17 (xne hs_wu hs_wf (by decide))), (xv_a hg16 (xne hs_wu hs_b15 (by decide))), (xv_a hg14 (xne hs_wu hs_b13 (by decide)))])), (fun i q1 q2 => ((show xv g176 wp i = xv g176 wp i from rfl)).trans ((oz180 i q1 (by omega)).trans ((show xv g172 wp i = xv g wp i from by rw [(xv_m hg172 hs_wp (by decide) (by decide)), (xv_m hg146 hs_wp (by decide) (by decide)), (xv_a hg144 (xne hs_wp hs_b15 (by decide))), (xv_m hg20 hs_wp (by decide) (by decide)), (xv_a hg17 (xne hs_wp hs_wf (by decide))), (xv_a hg16 (xne hs_wp hs_b15 (by decide))), (xv_a hg14 (xne hs_wp hs_b13 (by decide)))]))))⟩⟩ (Nat.le_refl _) (Nat.le_refl _)
      · refine X_aloadn hK (i := 0) 1 kd46_48.2.2.2.2.2.2.2.2.2.2.1 rfl rfl ?_
        refine X_geti hK fl_X12_364_13 hs_a0 sl_13_27 kd46_48.2.2.2.2.2.2.2.2.2.2.2 (fun z197 ez197 lz197 uz197 => ?_)
        refine X_iconst hK kd46_49.1 ?_
        refine X_iand hK kd46_49.2.1 (fun z198 ez198 lz198 uz198 => ?_)
        have bz198 := xandB ez198 ⟨lz198, uz198⟩ (by omega)
        refine X_iconst hK kd46_49.2.2.1 ?_
        refine X_icmp_ne hK 46 (by omega) (by omega) kd46_49.2.2.2.1 (by decide) (fun c199 => ?_) (fun c199 => ?_)
        · refine X_sipush hK kd46_49.2.2.2.2.2.2.2.2.1 (by decide) ?_
          refine X_aloadn hK (i := 0) 1 kd46_49.2.2.2.2.2.2.2.2.2.1 rfl rfl ?_
          refine X_getK hK fl_X12_361_13 hs_a0 enl kd46_49.2.2.2.2.2.2.2.2.2.2.1 ?_
          refine X_iadd hK kd46_49.2.2.2.2.2.2.2.2.2.2.2 ?_
          refine X_istoren hK (i := 2) [(2, .int (iI (160 + nl))), (1, .int (iI z4)), (0, .ref a0)] kd46_50.1 rfl (by decide) rfl ?_
          refine X_aloadn hK (i := 0) 2 kd46_50.2.1 rfl rfl ?_
          refine X_getr hK 15500 176 fl_X12_56_13 hs_a0 sl_13_31 kd46_50.2.2.1 (fun b200 eb200 hs_b200 => ?_)
          refine X_iloadn hK (i := 2) 0 kd46_50.2.2.2.1 rfl rfl ?_
          refine X_iloadn hK (i := 1) 1 kd46_50.2.2.2.2.1 rfl rfl ?_
          refine X_iast hK hs_b200 (by decide) (by decide) sl_15500 (by omega) (by omega) (by omega) (by omega) kd46_50.2.2.2.2.2.1 (fun g201 hg201 => ?_)
          refine X_aloadn hK (i := 0) 2 kd46_50.2.2.2.2.2.2.1 rfl rfl ?_
          refine X_getr hK 15600 176 fl_X12_59_13 hs_a0 sl_13_32 kd46_50.2.2.2.2.2.2.2.1 (fun b202 eb202 hs_b202 => ?_)
          refine X_iloadn hK (i := 2) 0 kd46_50.2.2.2.2.2.2.2.2.1 rfl rfl ?_
          refine X_iconst hK kd46_50.2.2.2.2.2.2.2.2.2.1 ?_
          refine X_iast hK hs_b202 (by decide) (by decide) sl_15600 (by omega) (by omega) (by omega) (by omega) kd46_50.2.2.2.2.2.2.2.2.2.2.1 (fun g203 hg203 => ?_)
          refine X_aloadn hK (i := 0) 2 kd46_50.2.2.2.2.2.2.2.2.2.2.2 rfl rfl ?_
          refine X_getK hK fl_X12_62_13 hs_a0 ((xs_a hg203 (xne hs_a0 hs_b202 (by decide))).trans ((xs_a hg201 (xne hs_a0 hs_b200 (by decide))).trans ewf)) kd46_51.1 ?_
          refine X_iloadn hK (i := 2) 0 kd46_51.2.1 rfl rfl ?_
          refine X_aloadn hK (i := 0) 2 kd46_51.2.2.1 rfl rfl ?_
          refine X_getK hK fl_X12_313_13 hs_a0 ((xs_a hg203 (xne hs_a0 hs_b202 (by decide))).trans ((xs_a hg201 (xne hs_a0 hs_b200 (by decide))).trans enp)) kd46_51.2.2.2.1 ?_
          refine X_iast hK hs_wf (by decide) (by decide) sl_15700 (by omega) (by omega) (by omega) (by omega) kd46_51.2.2.2.2.1 (fun g204 hg204 => ?_)
          refine X_iloadn hK (i := 1) 1 kd46_51.2.2.2.2.2.1 rfl rfl ?_
          refine X_iconst hK kd46_51.2.2.2.2.2.2.1 ?_
          refine X_icmp_ne hK 89 (by omega) (by omega) kd46_51.2.2.2.2.2.2.2.1 (by decide) (fun c205 => False.elim (by omega)) (fun c205 => ?_)
          refine X_aloadn hK (i := 0) 2 kd46_51.2.2.2.2.2.2.2.2.1 rfl rfl ?_
          refine X_iconst hK kd46_51.2.2.2.2.2.2.2.2.2.1 ?_
          refine X_puti hK fl_X12_364_13 hs_a0 (by decide) sl_13_27 (by omega) (by omega) kd46_51.2.2.2.2.2.2.2.2.2.2.1 (fun g206 hg206 => ?_)
          refine X_aloadn hK (i := 0) 2 kd46_51.2.2.2.2.2.2.2.2.2.2.2 rfl rfl ?_
          refine X_callV hK [] [] lk_X12_342 (c_X12_go _ _ _ _ _ S g206 a0 hs_a0) hs_a0 ⟨by decide, rfl⟩ kd46_52.1 rfl rfl (by simp [Value.category]) (by decide) (by decide) (by decide) (by decide) (fun r207 S209 g208 pr207 qr207 hg208 => ?_)
          obtain ⟨rfl, rfl⟩ := pr207
          refine X_st [] rfl ?_
          refine X_iloadn hK (i := 1) 1 kd46_52.2.1 rfl rfl ?_
          refine X_iconst hK kd46_52.2.2.1 ?_
          refine X_icmp_ne hK 119 (by omega) (by omega) kd46_52.2.2.2.1 (by decide) (fun c210 => ?_) (fun c210 => False.elim (by omega))
          refine X_aloadn hK (i := 0) 2 kd46_53.2.2.2.1 rfl rfl ?_
          refine X_geti hK fl_X12_262_13 hs_a0 sl_13_22 kd46_53.2.2.2.2.1 (fun z211 ez211 lz211 uz211 => ?_)
          refine X_iconst hK kd46_53.2.2.2.2.2.1 ?_
          refine X_icmp_eq hK 133 (by omega) (by omega) kd46_53.2.2.2.2.2.2.1 (by decide) (fun c212 => ?_) (fun c212 => ?_)
          · refine X_aloadn hK (i := 0) 2 kd46_53.2.2.2.2.2.2.2.2.2.2.2 rfl rfl ?_
            refine X_geti hK fl_X12_281_13 hs_a0 sl_13_23 kd46_54.1 (fun z213 ez213 lz213 uz213 => ?_)
            refine X_sipush hK kd46_54.2.1 (by decide) ?_
            refine X_icmp_le hK 149 (by omega) (by omega) kd46_54.2.2.1 (by decide) (fun c214 => ?_) (fun c214 => ?_)
            · refine X_aloadn hK (i := 0) 2 kd46_54.2.2.2.2.2.2.2.1 rfl rfl ?_
              refine X_getK hK fl_X12_59_13 hs_a0 ((hg208 a0 13 0 32 hs_a0 (by decide)).trans ((xs_k hg206 (by decide)).trans ((xs_a hg204 (xne hs_a0 hs_wf (by decide))).trans ((xs_a hg203 (xne hs_a0 hs_b202 (by decide))).trans eb202)))) kd46_54.2.2.2.2.2.2.2.2.1 ?_
              refine X_iloadn hK (i := 2) 0 kd46_54.2.2.2.2.2.2.2.2.2.1 rfl rfl ?_
              refine X_aloadn hK (i := 0) 2 kd46_54.2.2.2.2.2.2.2.2.2.2.1 rfl rfl ?_
              refine X_getK hK fl_X12_281_13 hs_a0 ez213 kd46_54.2.2.2.2.2.2.2.2.2.2.2 ?_
              refine X_iast hK hs_b202 (by decide) (by decide) sl_15600 (by omega) (by omega) (by omega) (by omega) kd46_55.1 (fun g215 hg215 => ?_)
              refine X_aloadn hK (i := 0) 2 kd46_55.2.1 rfl rfl ?_
              refine X_callV hK [] [] lk_X12_342 (c_X12_go _ _ _ _ _ S g215 a0 hs_a0) hs_a0 ⟨by decide, rfl⟩ kd46_55.2.2.1 rfl rfl (by simp [Value.category]) (by decide) (by decide) (by decide) (by decide) (fun r216 S218 g217 pr216 qr216 hg217 => ?_)
              obtain ⟨rfl, rfl⟩ := pr216
              refine X_st [] rfl ?_
              refine X_iloadn hK (i := 1) 1 kd46_55.2.2.2.1 rfl rfl ?_
              refine X_iconst hK kd46_55.2.2.2.2.1 ?_
              refine X_icmp_eq hK 198 (by omega) (by omega) kd46_55.2.2.2.2.2.1 (by decide) (fun c219 => ?_) (fun c219 => False.elim (by omega))
              refine X_aloadn hK (i := 0) 2 kd46_56.2.2.2.2.2.2.2.2.2.2.1 rfl rfl ?_
              refine X_getK hK fl_X12_65_13 hs_a0 ((hg217 a0 13 0 34 hs_a0 (by decide)).trans ((xs_a hg215 (xne hs_a0 hs_b202 (by decide))).trans ((hg208 a0 13 0 34 hs_a0 (by decide)).trans ((xs_k hg206 (by decide)).trans ((xs_a hg204 (xne hs_a0 hs_wf (by decide))).trans ((xs_a hg203 (xne hs_a0 hs_b202 (by decide))).trans ((xs_a hg201 (xne hs_a0 hs_b200 (by decide))).trans ewu))))))) kd46_56.2.2.2.2.2.2.2.2.2.2.2 ?_
              refine X_iloadn hK (i := 2) 0 kd46_57.1 rfl rfl ?_
              refine X_aloadn hK (i := 0) 2 kd46_57.2.1 rfl rfl ?_
              refine X_getK hK fl_X12_313_13 hs_a0 ((hg217 a0 13 0 41 hs_a0 (by decide)).trans ((xs_a hg215 (xne hs_a0 hs_b202 (by decide))).trans ((hg208 a0 13 0 41 hs_a0 (by decide)).trans ((xs_k hg206 (by decide)).trans ((xs_a hg204 (xne hs_a0 hs_wf (by decide))).trans ((xs_a hg203 (xne hs_a0 hs_b202 (by decide))).trans ((xs_a hg201 (xne hs_a0 hs_b200 (by decide))).trans enp))))))) kd46_57.2.2.1 ?_
              refine X_iast hK hs_wu (by decide) (by decide) sl_15800 (by omega) (by omega) (by omega) (by omega) kd46_57.2.2.2.1 (fun g220 hg220 => ?_)
              refine X_aloadn hK (i := 0) 2 kd46_57.2.2.2.2.1 rfl rfl ?_
              refine X_dup hK kd46_57.2.2.2.2.2.1 rfl ?_
              refine X_getK hK fl_X12_361_13 hs_a0 ((xs_a hg220 (xne hs_a0 hs_wu (by decide))).trans ((hg217 a0 13 0 40 hs_a0 (by decide)).trans ((xs_a hg215 (xne hs_a0 hs_b202 (by decide))).trans ((hg208 a0 13 0 40 hs_a0 (by decide)).trans ((xs_k hg206 (by decide)).trans ((xs_a hg204 (xne hs_a0 hs_wf (by decide))).trans ((xs_a hg203 (xne hs_a0 hs_b202 (by decide))).trans ((xs_a hg201 (xne hs_a0 hs_b200 (by decide))).trans enl)))))))) kd46_57.2.2.2.2.2.2.1 ?_
              refine X_iconst hK kd46_57.2.2.2.2.2.2.2.1 ?_
              refine X_iadd hK kd46_57.2.2.2.2.2.2.2.2.1 ?_
              refine X_puti hK fl_X12_361_13 hs_a0 (by decide) sl_13_40 (by omega) (by omega) kd46_57.2.2.2.2.2.2.2.2.2.1 (fun g221 hg221 => ?_)
              refine X_aloadn hK (i := 0) 2 kd46_57.2.2.2.2.2.2.2.2.2.2.1 rfl rfl ?_
              refine X_bipush hK kd46_57.2.2.2.2.2.2.2.2.2.2.2 (by decide) ?_
              refine X_callV hK [.int (iI 59)] [] lk_X12_330 (c_X12_isSign _ _ _ _ _ S g221 a0 59 hs_a0 (by omega)) hs_a0 ⟨by decide, rfl⟩ kd46_58.1 rfl rfl (by simp [Value.category]) (by decide) (by decide) (by decide) (by decide) (fun r222 S224 g223 pr222 qr222 hg223 => ?_)
              obtain ⟨rfl, rfl, z225, rfl, lz225, uz225⟩ := pr222
              refine X_st [.int (iI z225)] rfl ?_
              refine X_if_ne hK 235 (by omega) kd46_58.2.1 (by decide) (fun c226 => ?_) (fun c226 => ?_)
              · refine X_iconst hK kd46_58.2.2.2.2.2.2.1 ?_
                refine X_goto hK 240 kd46_58.2.2.2.2.2.2.2.1 (by decide) ?_
                exact hret _ _ _ _ _ _ _ kd46_58.2.2.2.2.2.2.2.2.2.1 (by omega) (by omega) ⟨rfl, 1, rfl, (by omega), (by omega), ⟨np, (nl + 1), nw, no, ((xs_k hg221 (by decide)).trans ((xs_a hg220 (xne hs_a0 hs_wu (by decide))).trans ((hg217 a0 13 0 41 hs_a0 (by decide)).trans ((xs_a hg215 (xne hs_a0 hs_b202 (by decide))).trans ((hg208 a0 13 0 41 hs_a0 (by decide)).trans ((xs_k hg206 (by decide)).trans ((xs_a hg204 (xne hs_a0 hs_wf (by decide))).trans ((xs_a hg203 (xne hs_a0 hs_b202 (by decide))).trans ((xs_a hg201 (xne hs_a0 hs_b200 (by decide))).trans enp))))))))), by omega, by omega, (xs_s hg221), by omega, by omega, ((xs_k hg221 (by decide)).trans ((xs_a hg220 (xne hs_a0 hs_wu (by decide))).trans ((hg217 a0 13 0 43 hs_a0 (by decide)).trans ((xs_a hg215 (xne hs_a0 hs_b202 (by decide))).trans ((hg208 a0 13 0 43 hs_a0 (by decide)).trans ((xs_k hg206 (by decide)).trans ((xs_a hg204 (xne hs_a0 hs_wf (by decide))).trans ((xs_a hg203 (xne hs_a0 hs_b202 (by decide))).trans ((xs_a hg201 (xne hs_a0 hs_b200 (by decide))).trans eno))))))))), by omega, by omega, ((xs_k hg221 (by decide)).trans ((xs_a hg220 (xne hs_a0 hs_wu (by decide))).trans ((hg217 a0 13 0 44 hs_a0 (by decide)).trans ((xs_a hg215 (xne hs_a0 hs_b202 (by decide))).trans ((hg208 a0 13 0 44 hs_a0 (by decide)).trans ((xs_k hg206 (by decide)).trans ((xs_a hg204 (xne hs_a0 hs_wf (by decide))).trans ((xs_a hg203 (xne hs_a0 hs_b202 (by decide))).trans ((xs_a hg201 (xne hs_a0 hs_b200 (by decide))).trans enw))))))))), by omega, by omega, (fun _ => ⟨by omega, by omega, xRl.s (np := np) (np1 := np) (nl := nl) hp1 (by omega) (by omega) ⟨(show xv g221 wf (160 + nl) = np from by rw [(xv_a hg221 (xne hs_wf hs_a0 (by decide))), (xv_a hg220 (xne hs_wf hs_wu (by decide))), (xv_m hg217 hs_wf (by decide) (by decide)), (xv_a hg215 (xne hs_wf hs_b202 (by decide))), (xv_m hg208 hs_wf (by decide) (by decide)), (xv_a hg206 (xne hs_wf hs_a0 (by decide))), xv_s hg204 (by omega)]), (fun i9 hi9 h09 => (show xv g221 wf i9 = xv g wf i9 from by rw [(xv_a hg221 (xne hs_wf hs_a0 (by decide))), (xv_a hg220 (xne hs_wf hs_wu (by decide))), (xv_m hg217 hs_wf (by decide) (by decide)), (xv_a hg215 (xne hs_wf hs_b202 (by decide))), (xv_m hg208 hs_wf (by decide) (by decide)), (xv_a hg206 (xne hs_wf hs_a0 (by decide))), (xv_k (i := i9) hg204 (by omega) (by omega) (by omega)), (xv_a hg203 (xne hs_wf hs_b202 (by decide))), (xv_a hg201 (xne hs_wf hs_b200 (by decide)))]))⟩ ⟨(show xv g221 wu (160 + nl) = np from by rw [(xv_a hg221 (xne hs_wu hs_a0 (by decide))), xv_s hg220 (by omega)]), (fun i9 hi9 h09 => (show xv g221 wu i9 = xv g wu i9 from by rw [(xv_a hg221 (xne hs_wu hs_a0 (by decide))), (xv_k (i := i9) hg220 (by omega) (by omega) (by omega)), (xv_m hg217 hs_wu (by decide) (by decide)), (xv_a hg215 (xne hs_wu hs_b202 (by decide))), (xv_m hg208 hs_wu (by decide) (by decide)), (xv_a hg206 (xne hs_wu hs_a0 (by decide))), (xv_a hg204 (xne hs_wu hs_wf (by decide))), (xv_a hg203 (xne hs_wu hs_b202 (by decide))), (xv_a hg201 (xne hs_wu hs_b200 (by decide)))]))⟩ (fun i q1 q2 => (show xv g221 wp i = xv g wp i from by rw [(xv_a hg221 (xne hs_wp hs_a0 (by decide))), (xv_a hg220 (xne hs_wp hs_wu (by decide))), (xv_m hg217 hs_wp (by decide) (by decide)), (xv_a hg215 (xne hs_wp hs_b202 (by decide))), (xv_m hg208 hs_wp (by decide) (by decide)), (xv_a hg206 (xne hs_wp hs_a0 (by decide))), (xv_a hg204 (xne hs_wp hs_wf (by decide))), (xv_a hg203 (xne hs_wp hs_b202 (by decide))), (xv_a hg201 (xne hs_wp hs_b200 (by decide)))])) (by omega) (xhf_0 _ _ _)⟩), (fun i q1 q2 => (show xv g221 wf i = xv g wf i from by rw [(xv_a hg221 (xne hs_wf hs_a0 (by decide))), (xv_a hg220 (xne hs_wf hs_wu (by decide))), (xv_m hg217 hs_wf (by decide) (by decide)), (xv_a hg215 (xne hs_wf hs_b202 (by decide))), (xv_m hg208 hs_wf (by decide) (by decide)), (xv_a hg206 (xne hs_wf hs_a0 (by decide))), (xv_k (i := i) hg204 (by omega) (by omega) (by omega)), (xv_a hg203 (xne hs_wf hs_b202 (by decide))), (xv_a hg201 (xne hs_wf hs_b200 (by decide)))])), (fun i q1 q2 => (show xv g221 wu i = xv g wu i from by rw [(xv_a hg221 (xne hs_wu hs_a0 (by decide))), (xv_k (i := i) hg220 (by omega) (by omega) (by omega)), (xv_m hg217 hs_wu (by decide) (by decide)), (xv_a hg215 (xne hs_wu hs_b202 (by decide))), (xv_m hg208 hs_wu (by decide) (by decide)), (xv_a hg206 (xne hs_wu hs_a0 (by decide))), (xv_a hg204 (xne hs_wu hs_wf (by decide))), (xv_a hg203 (xne hs_wu hs_b202 (by decide))), (xv_a hg201 (xne hs_wu hs_b200 (by decide)))])), (fun i q1 q2 => (show xv g221 wp i = xv g wp i from by rw [(xv_a hg221 (xne hs_wp hs_a0 (by decide))), (xv_a hg220 (xne hs_wp hs_wu (by decide))), (xv_m hg217 hs_wp (by decide) (by decide)), (xv_a hg215 (xne hs_wp hs_b202 (by decide))), (xv_m hg208 hs_wp (by decide) (by decide)), (xv_a hg206 (xne hs_wp hs_a0 (by decide))), (xv_a hg204 (xne hs_wp hs_wf (by decide))), (xv_a hg203 (xne hs_wp hs_b202 (by decide))), (xv_a hg201 (xne hs_wp hs_b200 (by decide)))]))⟩⟩ (Nat.le_refl _) (Nat.le_refl _)
              · refine X_aloadn hK (i := 0) 2 kd46_58.2.2.1 rfl rfl ?_
                refine X_iconst hK kd46_58.2.2.2.1 ?_
                refine X_callV hK [.int (iI 1)] [] lk_X12_333 (c2_bad _ _ _ _ _ S g221 a0 1 hs_a0 (by omega)) hs_a0 ⟨by decide, rfl⟩ kd46_58.2.2.2.2.1 rfl rfl (by simp [Value.category]) (by decide) (by decide) (by decide) (by decide) (fun r227 S229 g228 pr227 qr227 hg228 => ?_)
                obtain ⟨rfl, z230, rfl, lz230, uz230, k231⟩ := pr227
                refine X_st [.int (iI z230)] rfl ?_
                refine X_if_eq hK 239 (by omega) kd46_58.2.2.2.2.2.1 (by decide) (fun c232 => ?_) (fun c232 => ?_)
                · refine X_iconst hK kd46_58.2.2.2.2.2.2.2.2.1 ?_
                  exact hret _ _ _ _ _ _ _ kd46_58.2.2.2.2.2.2.2.2.2.1 (by omega) (by omega) ⟨rfl, 0, rfl, (by omega), (by omega), ⟨np, (nl + 1), nw, no, ((hg228 a0 13 0 41 hs_a0 (by decide)).trans ((xs_k hg221 (by decide)).trans ((xs_a hg220 (xne hs_a0 hs_wu (by decide))).trans ((hg217 a0 13 0 41 hs_a0 (by decide)).trans ((xs_a hg215 (xne hs_a0 hs_b202 (by decide))).trans ((hg208 a0 13 0 41 hs_a0 (by decide)).trans ((xs_k hg206 (by decide)).trans ((xs_a hg204 (xne hs_a0 hs_wf (by decide))).trans ((xs_a hg203 (xne hs_a0 hs_b202 (by decide))).trans ((xs_a hg201 (xne hs_a0 hs_b200 (by decide))).trans enp)))))))))), by omega, by omega, ((hg228 a0 13 0 40 hs_a0 (by decide)).trans (xs_s hg221)), by omega, by omega, ((hg228 a0 13 0 43 hs_a0 (by decide)).trans ((xs_k hg221 (by decide)).trans ((xs_a hg220 (xne hs_a0 hs_wu (by decide))).trans ((hg217 a0 13 0 43 hs_a0 (by decide)).trans ((xs_a hg215 (xne hs_a0 hs_b202 (by decide))).trans ((hg208 a0 13 0 43 hs_a0 (by decide)).trans ((xs_k hg206 (by decide)).trans ((xs_a hg204 (xne hs_a0 hs_wf (by decide))).trans ((xs_a hg203 (xne hs_a0 hs_b202 (by decide))).trans ((xs_a hg201 (xne hs_a0 hs_b200 (by decide))).trans eno)))))))))), by omega, by omega, ((hg228 a0 13 0 44 hs_a0 (by decide)).trans ((xs_k hg221 (by decide)).trans ((xs_a hg220 (xne hs_a0 hs_wu (by decide))).trans ((hg217 a0 13 0 44 hs_a0 (by decide)).trans ((xs_a hg215 (xne hs_a0 hs_b202 (by decide))).trans ((hg208 a0 13 0 44 hs_a0 (by decide)).trans ((xs_k hg206 (by decide)).trans ((xs_a hg204 (xne hs_a0 hs_wf (by decide))).trans ((xs_a hg203 (xne hs_a0 hs_b202 (by decide))).trans ((xs_a hg201 (xne hs_a0 hs_b200 (by decide))).trans enw)))))))))), by omega, by omega, (fun h => by omega), (fun i q1 q2 => (show xv g228 wf i = xv g wf i from by rw [(xv_m hg228 hs_wf (by decide) (by decide)), (xv_a hg221 (xne hs_wf hs_a0 (by decide))), (xv_a hg220 (xne hs_wf hs_wu (by decide))), (xv_m hg217 hs_wf (by decide) (by decide)), (xv_a hg215 (xne hs_wf hs_b202 (by decide))), (xv_m hg208 hs_wf (by decide) (by decide)), (xv_a hg206 (xne hs_wf hs_a0 (by decide))), (xv_k (i := i) hg204 (by omega) (by omega) (by omega)), (xv_a hg203 (xne hs_wf hs_b202 (by decide))), (xv_a hg201 (xne hs_wf hs_b200 (by decide)))])), (fun i q1 q2 => (show xv g228 wu i = xv g wu i from by rw [(xv_m hg228 hs_wu (by decide) (by decide)), (xv_a hg221 (xne hs_wu hs_a0 (by decide))), (xv_k (i := i) hg220 (by omega) (by omega) (by omega)), (xv_m hg217 hs_wu (by decide) (by decide)), (xv_a hg215 (xne hs_wu hs_b202 (by decide))), (xv_m hg208 hs_wu (by decide) (by decide)), (xv_a hg206 (xne hs_wu hs_a0 (by decide))), (xv_a hg204 (xne hs_wu hs_wf (by decide))), (xv_a hg203 (xne hs_wu hs_b202 (by decide))), (xv_a hg201 (xne hs_wu hs_b200 (by decide)))])), (fun i q1 q2 => (show xv g228 wp i = xv g wp i from by rw [(xv_m hg228 hs_wp (by decide) (by decide)), (xv_a hg221 (xne hs_wp hs_a0 (by decide))), (xv_a hg220 (xne hs_wp hs_wu (by decide))), (xv_m hg217 hs_wp (by decide) (by decide)), (xv_a hg215 (xne hs_wp hs_b202 (by decide))), (xv_m hg208 hs_wp (by decide) (by decide)), (xv_a hg206 (xne hs_wp hs_a0 (by decide))), (xv_a hg204 (xne hs_wp hs_wf (by decide))), (xv_a hg203 (xne hs_wp hs_b202 (by decide))), (xv_a hg201 (xne hs_wp hs_b200 (by decide)))]))⟩⟩ (Nat.le_refl _) (Nat.le_refl _)
                · refine X_iconst hK kd46_58.2.2.2.2.2.2.1 ?_
                  refine X_goto hK 240 kd46_58.2.2.2.2.2.2.2.1 (by decide) ?_
                  exact hret _ _ _ _ _ _ _ kd46_58.2.2.2.2.2.2.2.2.2.1 (by omega) (by omega) ⟨rfl, 1, rfl, (by omega), (by omega), ⟨np, (nl + 1), nw, no, ((hg228 a0 13 0 41 hs_a0 (by decide)).trans ((xs_k hg221 (by decide)).trans ((xs_a hg220 (xne hs_a0 hs_wu (by decide))).trans ((hg217 a0 13 0 41 hs_a0 (by decide)).trans ((xs_a hg215 (xne hs_a0 hs_b202 (by decide))).trans ((hg208 a0 13 0 41 hs_a0 (by decide)).trans ((xs_k hg206 (by decide)).trans ((xs_a hg204 (xne hs_a0 hs_wf (by decide))).trans ((xs_a hg203 (xne hs_a0 hs_b202 (by decide))).trans ((xs_a hg201 (xne hs_a0 hs_b200 (by decide))).trans enp)))))))))), by omega, by omega, ((hg228 a0 13 0 40 hs_a0 (by decide)).trans (xs_s hg221)), by omega, by omega, ((hg228 a0 13 0 43 hs_a0 (by decide)).trans ((xs_k hg221 (by decide)).trans ((xs_a hg220 (xne hs_a0 hs_wu (by decide))).trans ((hg217 a0 13 0 43 hs_a0 (by decide)).trans ((xs_a hg215 (xne hs_a0 hs_b202 (by decide))).trans ((hg208 a0 13 0 43 hs_a0 (by decide)).trans ((xs_k hg206 (by decide)).trans ((xs_a hg204 (xne hs_a0 hs_wf (by decide))).trans ((xs_a hg203 (xne hs_a0 hs_b202 (by decide))).trans ((xs_a hg201 (xne hs_a0 hs_b200 (by decide))).trans eno)))))))))), by omega, by omega, ((hg228 a0 13 0 44 hs_a0 (by decide)).trans ((xs_k hg221 (by decide)).trans ((xs_a hg220 (xne hs_a0 hs_wu (by decide))).trans ((hg217 a0 13 0 44 hs_a0 (by decide)).trans ((xs_a hg215 (xne hs_a0 hs_b202 (by decide))).trans ((hg208 a0 13 0 44 hs_a0 (by decide)).trans ((xs_k hg206 (by decide)).trans ((xs_a hg204 (xne hs_a0 hs_wf (by decide))).trans ((xs_a hg203 (xne hs_a0 hs_b202 (by decide))).trans ((xs_a hg201 (xne hs_a0 hs_b200 (by decide))).trans enw)))))))))), by omega, by omega, (fun _ => ⟨by omega, by omega, xRl.s (np := np) (np1 := np) (nl := nl) hp1 (by omega) (by omega) ⟨(show xv g228 wf (160 + nl) = np from by rw [(xv_m hg228 hs_wf (by decide) (by decide)), (xv_a hg221 (xne hs_wf hs_a0 (by decide))), (xv_a hg220 (xne hs_wf hs_wu (by decide))), (xv_m hg217 hs_wf (by decide) (by decide)), (xv_a hg215 (xne hs_wf hs_b202 (by decide))), (xv_m hg208 hs_wf (by decide) (by decide)), (xv_a hg206 (xne hs_wf hs_a0 (by decide))), xv_s hg204 (by omega)]), (fun i9 hi9 h09 => (show xv g228 wf i9 = xv g wf i9 from by rw [(xv_m hg228 hs_wf (by decide) (by decide)), (xv_a hg221 (xne hs_wf hs_a0 (by decide))), (xv_a hg220 (xne hs_wf hs_wu (by decide))), (xv_m hg217 hs_wf (by decide) (by decide)), (xv_a hg215 (xne hs_wf hs_b202 (by decide))), (xv_m hg208 hs_wf (by decide) (by decide)), (xv_a hg206 (xne hs_wf hs_a0 (by decide))), (xv_k (i := i9) hg204 (by omega) (by omega) (by omega)), (xv_a hg203 (xne hs_wf hs_b202 (by decide))), (xv_a hg201 (xne hs_wf hs_b200 (by decide)))]))⟩ ⟨(show xv g228 wu (160 + nl) = np from by rw [(xv_m hg228 hs_wu (by decide) (by decide)), (xv_a hg221 (xne hs_wu hs_a0 (by decide))), xv_s hg220 (by omega)]), (fun i9 hi9 h09 => (show xv g228 wu i9 = xv g wu i9 from by rw [(xv_m hg228 hs_wu (by decide) (by decide)), (xv_a hg221 (xne hs_wu hs_a0 (by decide))), (xv_k (i := i9) hg220 (by omega) (by omega) (by omega)), (xv_m hg217 hs_wu (by decide) (by decide)), (xv_a hg215 (xne hs_wu hs_b202 (by decide))), (xv_m hg208 hs_wu (by decide) (by decide)), (xv_a hg206 (xne hs_wu hs_a0 (by decide))), (xv_a hg204 (xne hs_wu hs_wf (by decide))), (xv_a hg203 (xne hs_wu hs_b202 (by decide))), (xv_a hg201 (xne hs_wu hs_b200 (by decide)))]))⟩ (fun i q1 q2 => (show xv g228 wp i = xv g wp i from by rw [(xv_m hg228 hs_wp (by decide) (by decide)), (xv_a hg221 (xne hs_wp hs_a0 (by decide))), (xv_a hg220 (xne hs_wp hs_wu (by decide))), (xv_m hg217 hs_wp (by decide) (by decide)), (xv_a hg215 (xne hs_wp hs_b202 (by decide))), (xv_m hg208 hs_wp (by decide) (by decide)), (xv_a hg206 (xne hs_wp hs_a0 (by decide))), (xv_a hg204 (xne hs_wp hs_wf (by decide))), (xv_a hg203 (xne hs_wp hs_b202 (by decide))), (xv_a hg201 (xne hs_wp hs_b200 (by decide)))])) (by omega) (xhf_0 _ _ _)⟩), (fun i q1 q2 => (show xv g228 wf i = xv g wf i from by rw [(xv_m hg228 hs_wf (by decide) (by decide)), (xv_a hg221 (xne hs_wf hs_a0 (by decide))), (xv_a hg220 (xne hs_wf hs_wu (by decide))), (xv_m hg217 hs_wf (by decide) (by decide)), (xv_a hg215 (xne hs_wf hs_b202 (by decide))), (xv_m hg208 hs_wf (by decide) (by decide)), (xv_a hg206 (xne hs_wf hs_a0 (by decide))), (xv_k (i := i) hg204 (by omega) (by omega) (by omega)), (xv_a hg203 (xne hs_wf hs_b202 (by decide))), (xv_a hg201 (xne hs_wf hs_b200 (by decide)))])), (fun i q1 q2 => (show xv g228 wu i = xv g wu i from by rw [(xv_m hg228 hs_wu (by decide) (by decide)), (xv_a hg221 (xne hs_wu hs_a0 (by decide))), (xv_k (i := i) hg220 (by omega) (by omega) (by omega)), (xv_m hg217 hs_wu (by decide) (by decide)), (xv_a hg215 (xne hs_wu hs_b202 (by decide))), (xv_m hg208 hs_wu (by decide) (by decide)), (xv_a hg206 (xne hs_wu hs_a0 (by decide))), (xv_a hg204 (xne hs_wu hs_wf (by decide))), (xv_a hg203 (xne hs_wu hs_b202 (by decide))), (xv_a hg201 (xne hs_wu hs_b200 (by decide)))])), (fun i q1 q2 => (show xv g228 wp i = xv g wp i from by rw [(xv_m hg228 hs_wp (by decide) (by decide)), (xv_a hg221 (xne hs_wp hs_a0 (by decide))), (xv_a hg220 (xne hs_wp hs_wu (by decide))), (xv_m hg217 hs_wp (by decide) (by decide)), (xv_a hg215 (xne hs_wp hs_b202 (by decide))), (xv_m hg208 hs_wp (by decide) (by decide)), (xv_a hg206 (xne hs_wp hs_a0 (by decide))), (xv_a hg204 (xne hs_wp hs_wf (by decide))), (xv_a hg203 (xne hs_wp hs_b202 (by decide))), (xv_a hg201 (xne hs_wp hs_b200 (by decide)))]))⟩⟩ (Nat.le_refl _) (Nat.le_refl _)
            · refine X_aloadn hK (i := 0) 2 kd46_54.2.2.2.1 rfl rfl ?_
              refine X_iconst hK kd46_54.2.2.2.2.1 ?_
              refine X_callV hK [.int (iI 2)] [] lk_X12_333 (c2_bad _ _ _ _ _ S g208 a0 2 hs_a0 (by omega)) hs_a0 ⟨by decide, rfl⟩ kd46_54.2.2.2.2.2.1 rfl rfl (by simp [Value.category]) (by decide) (by decide) (by decide) (by decide) (fun r233 S235 g234 pr233 qr233 hg234 => ?_)
              obtain ⟨rfl, z236, rfl, lz236, uz236, k237⟩ := pr233
              refine X_st [.int (iI z236)] rfl ?_
              exact hret _ _ _ _ _ _ _ kd46_54.2.2.2.2.2.2.1 (by omega) (by omega) ⟨rfl, z236, rfl, (by omega), (by omega), ⟨np, nl, nw, no, ((hg234 a0 13 0 41 hs_a0 (by decide)).trans ((hg208 a0 13 0 41 hs_a0 (by decide)).trans ((xs_k hg206 (by decide)).trans ((xs_a hg204 (xne hs_a0 hs_wf (by decide))).trans ((xs_a hg203 (xne hs_a0 hs_b202 (by decide))).trans ((xs_a hg201 (xne hs_a0 hs_b200 (by decide))).trans enp)))))), by omega, by omega, ((hg234 a0 13 0 40 hs_a0 (by decide)).trans ((hg208 a0 13 0 40 hs_a0 (by decide)).trans ((xs_k hg206 (by decide)).trans ((xs_a hg204 (xne hs_a0 hs_wf (by decide))).trans ((xs_a hg203 (xne hs_a0 hs_b202 (by decide))).trans ((xs_a hg201 (xne hs_a0 hs_b200 (by decide))).trans enl)))))), by omega, by omega, ((hg234 a0 13 0 43 hs_a0 (by decide)).trans ((hg208 a0 13 0 43 hs_a0 (by decide)).trans ((xs_k hg206 (by decide)).trans ((xs_a hg204 (xne hs_a0 hs_wf (by decide))).trans ((xs_a hg203 (xne hs_a0 hs_b202 (by decide))).trans ((xs_a hg201 (xne hs_a0 hs_b200 (by decide))).trans eno)))))), by omega, by omega, ((hg234 a0 13 0 44 hs_a0 (by decide)).trans ((hg208 a0 13 0 44 hs_a0 (by decide)).trans ((xs_k hg206 (by decide)).trans ((xs_a hg204 (xne hs_a0 hs_wf (by decide))).trans ((xs_a hg203 (xne hs_a0 hs_b202 (by decide))).trans ((xs_a hg201 (xne hs_a0 hs_b200 (by decide))).trans enw)))))), by omega, by omega, (fun h => by omega), (fun i q1 q2 => (show xv g234 wf i = xv g wf i from by rw [(xv_m hg234 hs_wf (by decide) (by decide)), (xv_m hg208 hs_wf (by decide) (by decide)), (xv_a hg206 (xne hs_wf hs_a0 (by decide))), (xv_k (i := i) hg204 (by omega) (by omega) (by omega)), (xv_a hg203 (xne hs_wf hs_b202 (by decide))), (xv_a hg201 (xne hs_wf hs_b200 (by decide)))])), (fun i q1 q2 => (show xv g234 wu i = xv g wu i from by rw [(xv_m hg234 hs_wu (by decide) (by decide)), (xv_m hg208 hs_wu (by decide) (by decide)), (xv_a hg206 (xne hs_wu hs_a0 (by decide))), (xv_a hg204 (xne hs_wu hs_wf (by decide))), (xv_a hg203 (xne hs_wu hs_b202 (by decide))), (xv_a hg201 (xne hs_wu hs_b200 (by decide)))])), (fun i q1 q2 => (show xv g234 wp i = xv g wp i from by rw [(xv_m hg234 hs_wp (by decide) (by decide)), (xv_m hg208 hs_wp (by decide) (by decide)), (xv_a hg206 (xne hs_wp hs_a0 (by decide))), (xv_a hg204 (xne hs_wp hs_wf (by decide))), (xv_a hg203 (xne hs_wp hs_b202 (by decide))), (xv_a hg201 (xne hs_wp hs_b200 (by decide)))]))⟩⟩ (Nat.le_refl _) (Nat.le_refl _)
          · refine X_aloadn hK (i := 0) 2 kd46_53.2.2.2.2.2.2.2.1 rfl rfl ?_
            refine X_iconst hK kd46_53.2.2.2.2.2.2.2.2.1 ?_
            refine X_callV hK [.int (iI 1)] [] lk_X12_333 (c2_bad _ _ _ _ _ S g208 a0 1 hs_a0 (by omega)) hs_a0 ⟨by decide, rfl⟩ kd46_53.2.2.2.2.2.2.2.2.2.1 rfl rfl (by simp [Value.category]) (by decide) (by decide) (by decide) (by decide) (fun r238 S240 g239 pr238 qr238 hg239 => ?_)
            obtain ⟨rfl, z241, rfl, lz241, uz241, k242⟩ := pr238
            refine X_st [.int (iI z241)] rfl ?_
            exact hret _ _ _ _ _ _ _ kd46_53.2.2.2.2.2.2.2.2.2.2.1 (by omega) (by omega) ⟨rfl, z241, rfl, (by omega), (by omega), ⟨np, nl, nw, no, ((hg239 a0 13 0 41 hs_a0 (by decide)).trans ((hg208 a0 13 0 41 hs_a0 (by decide)).trans ((xs_k hg206 (by decide)).trans ((xs_a hg204 (xne hs_a0 hs_wf (by decide))).trans ((xs_a hg203 (xne hs_a0 hs_b202 (by decide))).trans ((xs_a hg201 (xne hs_a0 hs_b200 (by decide))).trans enp)))))), by omega, by omega, ((hg239 a0 13 0 40 hs_a0 (by decide)).trans ((hg208 a0 13 0 40 hs_a0 (by decide)).trans ((xs_k hg206 (by decide)).trans ((xs_a hg204 (xne hs_a0 hs_wf (by decide))).trans ((xs_a hg203 (xne hs_a0 hs_b202 (by decide))).trans ((xs_a hg201 (xne hs_a0 hs_b200 (by decide))).trans enl)))))), by omega, by omega, ((hg239 a0 13 0 43 hs_a0 (by decide)).trans ((hg208 a0 13 0 43 hs_a0 (by decide)).trans ((xs_k hg206 (by decide)).trans ((xs_a hg204 (xne hs_a0 hs_wf (by decide))).trans ((xs_a hg203 (xne hs_a0 hs_b202 (by decide))).trans ((xs_a hg201 (xne hs_a0 hs_b200 (by decide))).trans eno)))))), by omega, by omega, ((hg239 a0 13 0 44 hs_a0 (by decide)).trans ((hg208 a0 13 0 44 hs_a0 (by decide)).trans ((xs_k hg206 (by decide)).trans ((xs_a hg204 (xne hs_a0 hs_wf (by decide))).trans ((xs_a hg203 (xne hs_a0 hs_b202 (by decide))).trans ((xs_a hg201 (xne hs_a0 hs_b200 (by decide))).trans enw)))))), by omega, by omega, (fun h => by omega), (fun i q1 q2 => (show xv g239 wf i = xv g wf i from by rw [(xv_m hg239 hs_wf (by decide) (by decide)), (xv_m hg208 hs_wf (by decide) (by decide)), (xv_a hg206 (xne hs_wf hs_a0 (by decide))), (xv_k (i := i) hg204 (by omega) (by omega) (by omega)), (xv_a hg203 (xne hs_wf hs_b202 (by decide))), (xv_a hg201 (xne hs_wf hs_b200 (by decide)))])), (fun i q1 q2 => (show xv g239 wu i = xv g wu i from by rw [(xv_m hg239 hs_wu (by decide) (by decide)), (xv_m hg208 hs_wu (by decide) (by decide)), (xv_a hg206 (xne hs_wu hs_a0 (by decide))), (xv_a hg204 (xne hs_wu hs_wf (by decide))), (xv_a hg203 (xne hs_wu hs_b202 (by decide))), (xv_a hg201 (xne hs_wu hs_b200 (by decide)))])), (fun i q1 q2 => (show xv g239 wp i = xv g wp i from by rw [(xv_m hg239 hs_wp (by decide) (by decide)), (xv_m hg208 hs_wp (by decide) (by decide)), (xv_a hg206 (xne hs_wp hs_a0 (by decide))), (xv_a hg204 (xne hs_wp hs_wf (by decide))), (xv_a hg203 (xne hs_wp hs_b202 (by decide))), (xv_a hg201 (xne hs_wp hs_b200 (by decide)))]))⟩⟩ (Nat.le_refl _) (Nat.le_refl _)
        · refine X_aloadn hK (i := 0) 1 kd46_49.2.2.2.2.1 rfl rfl ?_
          refine X_iconst hK kd46_49.2.2.2.2.2.1 ?_
          refine X_callV hK [.int (iI 3)] [] lk_X12_333 (c2_bad _ _ _ _ _ S g a0 3 hs_a0 (by omega)) hs_a0 ⟨by decide, rfl⟩ kd46_49.2.2.2.2.2.2.1 rfl rfl (by simp [Value.category]) (by decide) (by decide) (by decide) (by decide) (fun r243 S245 g244 pr243 qr243 hg244 => ?_)
          obtain ⟨rfl, z246, rfl, lz246, uz246, k247⟩ := pr243
          refine X_st [.int (iI z246)] rfl ?_
          exact hret _ _ _ _ _ _ _ kd46_49.2.2.2.2.2.2.2.1 (by omega) (by omega) ⟨rfl, z246, rfl, (by omega), (by omega), ⟨np, nl, nw, no, ((hg244 a0 13 0 41 hs_a0 (by decide)).trans enp), by omega, by omega, ((hg244 a0 13 0 40 hs_a0 (by decide)).trans enl), by omega, by omega, ((hg244 a0 13 0 43 hs_a0 (by decide)).trans eno), by omega, by omega, ((hg244 a0 13 0 44 hs_a0 (by decide)).trans enw), by omega, by omega, (fun h => by omega), (fun i q1 q2 => (show xv g244 wf i = xv g wf i from by rw [(xv_m hg244 hs_wf (by decide) (by decide))])), (fun i q1 q2 => (show xv g244 wu i = xv g wu i from by rw [(xv_m hg244 hs_wu (by decide) (by decide))])), (fun i q1 q2 => (show xv g244 wp i = xv g wp i from by rw [(xv_m hg244 hs_wp (by decide) (by decide))]))⟩⟩ (Nat.le_refl _) (Nat.le_refl _)
  · refine X_aloadn hK (i := 0) 1 kd46_47.2.2.2.2.2.2.2.2.2.2.2 rfl rfl ?_
    refine X_iconst hK kd46_48.1 ?_
    refine X_callV hK [.int (iI 1)] [] lk_X12_333 (c2_bad _ _ _ _ _ S g a0 1 hs_a0 (by omega)) hs_a0 ⟨by decide, rfl⟩ kd46_48.2.1 rfl rfl (by simp [Value.category]) (by decide) (by decide) (by decide) (by decide) (fun r248 S250 g249 pr248 qr248 hg249 => ?_)
    obtain ⟨rfl, z251, rfl, lz251, uz251, k252⟩ := pr248
    refine X_st [.int (iI z251)] rfl ?_
    exact hret _ _ _ _ _ _ _ kd46_48.2.2.1 (by omega) (by omega) ⟨rfl, z251, rfl, (by omega), (by omega), ⟨np, nl, nw, no, ((hg249 a0 13 0 41 hs_a0 (by decide)).trans enp), by omega, by omega, ((hg249 a0 13 0 40 hs_a0 (by decide)).trans enl), by omega, by omega, ((hg249 a0 13 0 43 hs_a0 (by decide)).trans eno), by omega, by omega, ((hg249 a0 13 0 44 hs_a0 (by decide)).trans enw), by omega, by omega, (fun h => by omega), (fun i q1 q2 => (show xv g249 wf i = xv g wf i from by rw [(xv_m hg249 hs_wf (by decide) (by decide))])), (fun i q1 q2 => (show xv g249 wu i = xv g wu i from by rw [(xv_m hg249 hs_wu (by decide) (by decide))])), (fun i q1 q2 => (show xv g249 wp i = xv g wp i from by rw [(xv_m hg249 hs_wp (by decide) (by decide))]))⟩⟩ (Nat.le_refl _) (Nat.le_refl _)

set_option maxHeartbeats 4000000 in
set_option maxRecDepth 100000 in
theorem c_X12_readTerms (l : Launch) (D : va_G) (kA : Nat → ClassId) (b0 : Nat) (t0 : Nat → Nat) (S : xT) (g : xG) (a0 : Nat) (x1 : Int) (wo : Nat) (wf : Nat) (wu : Nat) (wp : Nat) (hs_a0 : S a0 = some (13, 0)) (hx1 : 0 ≤ x1 ∧ x1 ≤ 420) (ewo : g a0 29 = .ref wo) (hs_wo : S wo = some (15300, 11)) (ewf : g a0 33 = .ref wf) (hs_wf : S wf = some (15700, 176)) (ewu : g a0 34 = .ref wu) (hs_wu : S wu = some (15800, 176)) (ewp : g a0 35 = .ref wp) (hs_wp : S wp = some (15900, 1320)) : xMt l yX12_readTerms cX12_readTerms 2 (some .boolean) 5 0 0 111 D kA b0 t0 [(13, 19), (13, 25), (13, 27), (13, 40), (13, 41), (13, 43), (13, 44), (13, 20), (13, 21), (13, 28), (13, 23), (13, 22), (13, 24), (15300, 0), (13, 26), (15500, 0), (15600, 0), (15700, 0), (15800, 0), (13, 42), (15900, 0), (16000, 0), (16100, 0), (16200, 0)] [.ref a0, .int (iI x1)] S g (fun (r : Option Value) (S1 : xT) (g1 : xG) => S = S1 ∧ ∃ z : Int, r = some (.int (iI z)) ∧ 0 ≤ z ∧ z ≤ 1 ∧ (∃ a l : Int, g1 a0 41 = .int (iI a) ∧ 0 ≤ a ∧ a ≤ 120 ∧ g1 a0 40 = .int (iI l) ∧ 0 ≤ l ∧ l ≤ 16 ∧ (z = 1 → xRl (xv g1 wf) (xv g1 wu) (xv g1 wp) l a ∧ xv g1 wo 10 = l) ∧ xLow 10 (xv g1 wo) (xv g wo) ∧ xLow 160 (xv g1 wf) (xv g wf) ∧ xLow 160 (xv g1 wu) (xv g wu) ∧ xLow 1200 (xv g1 wp) (xv g wp))) := by
  refine xEnterZ (by decide) (by simp [lg_sl, Value.category]) [(0, .ref a0), (1, .int (iI x1))] rfl ?_
  intro K E hK hret _ _ _
  refine X_aloadn hK (i := 0) 0 kd46_58.2.2.2.2.2.2.2.2.2.2.1 rfl rfl ?_
  refine X_iloadn hK (i := 1) 1 kd46_58.2.2.2.2.2.2.2.2.2.2.2 rfl rfl ?_
  refine X_puti hK fl_X12_253_13 hs_a0 (by decide) sl_13_19 (by omega) (by omega) kd46_59.1 (fun g1 hg1 => ?_)
  refine X_aloadn hK (i := 0) 0 kd46_59.2.1 rfl rfl ?_
  refine X_iconst hK kd46_59.2.2.1 ?_
  refine X_puti hK fl_X12_291_13 hs_a0 (by decide) sl_13_25 (by omega) (by omega) kd46_59.2.2.2.1 (fun g2 hg2 => ?_)
  refine X_aloadn hK (i := 0) 0 kd46_59.2.2.2.2.1 rfl rfl ?_
  refine X_iconst hK kd46_59.2.2.2.2.2.1 ?_
  refine X_puti hK fl_X12_364_13 hs_a0 (by decide) sl_13_27 (by omega) (by omega) kd46_59.2.2.2.2.2.2.1 (fun g3 hg3 => ?_)
  refine X_aloadn hK (i := 0) 0 kd46_59.2.2.2.2.2.2.2.1 rfl rfl ?_
  refine X_iconst hK kd46_59.2.2.2.2.2.2.2.2.1 ?_
  refine X_puti hK fl_X12_361_13 hs_a0 (by decide) sl_13_40 (by omega) (by omega) kd46_59.2.2.2.2.2.2.2.2.2.1 (fun g4 hg4 => ?_)
  refine X_aloadn hK (i := 0) 0 kd46_59.2.2.2.2.2.2.2.2.2.2.1 rfl rfl ?_
  refine X_iconst hK kd46_59.2.2.2.2.2.2.2.2.2.2.2 ?_
  refine X_puti hK fl_X12_313_13 hs_a0 (by decide) sl_13_41 (by omega) (by omega) kd46_60.1 (fun g5 hg5 => ?_)
  refine X_aloadn hK (i := 0) 0 kd46_60.2.1 rfl rfl ?_
  refine X_iconst hK kd46_60.2.2.1 ?_
  refine X_puti hK fl_X12_336_13 hs_a0 (by decide) sl_13_43 (by omega) (by omega) kd46_60.2.2.2.1 (fun g6 hg6 => ?_)
  refine X_aloadn hK (i := 0) 0 kd46_60.2.2.2.2.1 rfl rfl ?_
  refine X_iconst hK kd46_60.2.2.2.2.2.1 ?_
  refine X_puti hK fl_X12_339_13 hs_a0 (by decide) sl_13_44 (by omega) (by omega) kd46_60.2.2.2.2.2.2.1 (fun g7 hg7 => ?_)
  refine X_aloadn hK (i := 0) 0 kd46_60.2.2.2.2.2.2.2.1 rfl rfl ?_
  refine X_iconst hK kd46_60.2.2.2.2.2.2.2.2.1 ?_
  refine X_puti hK fl_X12_256_13 hs_a0 (by decide) sl_13_20 (by omega) (by omega) kd46_60.2.2.2.2.2.2.2.2.2.1 (fun g8 hg8 => ?_)
  refine X_aloadn hK (i := 0) 0 kd46_60.2.2.2.2.2.2.2.2.2.2.1 rfl rfl ?_
  refine X_callV hK [] [] lk_X12_342 (c_X12_go _ _ _ _ _ S g8 a0 hs_a0) hs_a0 ⟨by decide, rfl⟩ kd46_60.2.2.2.2.2.2.2.2.2.2.2 rfl rfl (by simp [Value.category]) (by decide) (by decide) (by decide) (by decide) (fun r9 S11 g10 pr9 qr9 hg10 => ?_)
  obtain ⟨rfl, rfl⟩ := pr9
  refine X_st [] rfl ?_
  have P116 : ∀ (nP116 : Nat) (g95 : xG) (_ : xM [(13, 20), (13, 21), (13, 28), (13, 23), (13, 22), (13, 24), (13, 25), (13, 26), (15500, 0), (15600, 0), (15700, 0), (15800, 0), (13, 40), (13, 42), (13, 43), (15900, 0), (16000, 0), (16100, 0), (13, 41), (13, 44), (16200, 0), (13, 27)] S g10 g95) (q96 : Int) (_ : 0 ≤ q96) (_ : q96 ≤ 120) (_ : g95 a0 41 = .int (iI q96)) (q97 : Int) (_ : 0 ≤ q97) (_ : q97 ≤ 16) (_ : g95 a0 40 = .int (iI q97)) (q98 : Int) (_ : 0 ≤ q98) (_ : q98 ≤ 50) (_ : g95 a0 43 = .int (iI q98)) (q99 : Int) (_ : 0 ≤ q99) (_ : q99 ≤ 10) (_ : g95 a0 44 = .int (iI q99)) (_ : xRl (xv g95 wf) (xv g95 wu) (xv g95 wp) q97 q96) (_ : q96 ≤ 2 * q98) (_ : xLow 160 (xv g95 wf) (xv g wf)) (_ : xLow 160 (xv g95 wu) (xv g wu)) (_ : xLow 1200 (xv g95 wp) (xv g wp)) (_ : 16 - q97 < (nP116 : Int)), X K E 44 [(0, .ref a0), (1, .int (iI x1))] [] S g95 0 0 := by
    intro nP116
    induction nP116 with
    | zero => intro g95 hg95 q96 lq96 uq96 eq96 q97 lq97 uq97 eq97 q98 lq98 uq98 eq98 q99 lq99 uq99 eq99 v117 v118 v119 v120 v121 mP116; exact False.elim (by omega)
    | succ nP116 ihP116 =>
      intro g95 hg95 q96 lq96 uq96 eq96 q97 lq97 uq97 eq97 q98 lq98 uq98 eq98 q99 lq99 uq99 eq99 v117 v118 v119 v120 v121 mP116
      refine X_aloadn hK (i := 0) 0 kd46_61.1 rfl rfl ?_
      refine X_geti hK fl_X12_262_13 hs_a0 sl_13_22 kd46_61.2.1 (fun z122 ez122 lz122 uz122 => ?_)
      refine X_if_eq hK 67 (by omega) kd46_61.2.2.1 (by decide) (fun c123 => ?_) (fun c123 => ?_)
      · refine X_aloadn hK (i := 0) 0 kd46_61.2.2.2.2.2.2.2.2.2.2.2 rfl rfl ?_
        refine X_getK hK fl_X12_50_13 hs_a0 ((hg95 a0 13 0 29 hs_a0 (by decide)).trans ((hg10 a0 13 0 29 hs_a0 (by decide)).trans ((xs_k hg8 (by decide)).trans ((xs_k hg7 (by decide)).trans ((xs_k hg6 (by decide)).trans ((xs_k hg5 (by decide)).trans ((xs_k hg4 (by decide)).trans ((xs_k hg3 (by decide)).trans ((xs_k hg2 (by decide)).trans ((xs_k hg1 (by decide)).trans ewo)))))))))) kd46_62.1 ?_
        refine X_bipush hK kd46_62.2.1 (by decide) ?_
        refine X_aloadn hK (i := 0) 0 kd46_62.2.2.1 rfl rfl ?_
        refine X_getK hK fl_X12_361_13 hs_a0 eq97 kd46_62.2.2.2.1 ?_
        refine X_iast hK hs_wo (by decide) (by decide) sl_15300 (by omega) (by omega) (by omega) (by omega) kd46_62.2.2.2.2.1 (fun g124 hg124 => ?_)
        refine X_iconst hK kd46_62.2.2.2.2.2.1 ?_
        exact hret _ _ _ _ _ _ _ kd46_62.2.2.2.2.2.2.1 (by omega) (by omega) ⟨rfl, 1, rfl, (by omega), (by omega), ⟨q96, q97, ((xs_a hg124 (xne hs_a0 hs_wo (by decide))).trans eq96), by omega, by omega, ((xs_a hg124 (xne hs_a0 hs_wo (by decide))).trans eq97), by omega, by omega, (fun _ => ⟨(by rw [(xv_a hg124 (xne hs_wf hs_wo (by decide))), (xv_a hg124 (xne hs_wu hs_wo (by decide))), (xv_a hg124 (xne hs_wp hs_wo (by decide)))]; exact v117), (show xv g124 wo 10 = q97 from by rw [xv_s hg124 (by omega)])⟩), (fun i q1 q2 => (show xv g124 wo i = xv g wo i from by rw [(xv_k (i := i) hg124 (by omega) (by omega) (by omega)), (xv_m hg95 hs_wo (by decide) (by decide)), (xv_m hg10 hs_wo (by decide) (by decide)), (xv_a hg8 (xne hs_wo hs_a0 (by decide))), (xv_a hg7 (xne hs_wo hs_a0 (by decide))), (xv_a hg6 (xne hs_wo hs_a0 (by decide))), (xv_a hg5 (xne hs_wo hs_a0 (by decide))), (xv_a hg4 (xne hs_wo hs_a0 (by decide))), (xv_a hg3 (xne hs_wo hs_a0 (by decide))), (xv_a hg2 (xne hs_wo hs_a0 (by decide))), (xv_a hg1 (xne hs_wo hs_a0 (by decide)))])), (fun i q1 q2 => ((show xv g124 wf i = xv g95 wf i from by rw [(xv_a hg124 (xne hs_wf hs_wo (by decide)))])).trans (v119 i q1 q2)), (fun i q1 q2 => ((show xv g124 wu i = xv g95 wu i from by rw [(xv_a hg124 (xne hs_wu hs_wo (by decide)))])).trans (v120 i q1 q2)), (fun i q1 q2 => ((show xv g124 wp i = xv g95 wp i from by rw [(xv_a hg124 (xne hs_wp hs_wo (by decide)))])).trans (v121 i q1 q2))⟩⟩ (Nat.le_refl _) (Nat.le_refl _)
      · refine X_aloadn hK (i := 0) 0 kd46_61.2.2.2.1 rfl rfl ?_
        refine X_callV hK [] [] lk_X12_370 (c_X12_readLine _ _ _ _ _ S g95 a0 q96 q98 q99 q97 wp wf wu hs_a0 (by omega) eq96 (by omega) eq98 (by omega) eq99 (by omega) eq97 ((hg95 a0 13 0 35 hs_a0 (by decide)).trans ((hg10 a0 13 0 35 hs_a0 (by decide)).trans ((xs_k hg8 (by decide)).trans ((xs_k hg7 (by decide)).trans ((xs_k hg6 (by decide)).trans ((xs_k hg5 (by decide)).trans ((xs_k hg4 (by decide)).trans ((xs_k hg3 (by decide)).trans ((xs_k hg2 (by decide)).trans ((xs_k hg1 (by decide)).trans ewp)))))))))) hs_wp ((hg95 a0 13 0 33 hs_a0 (by decide)).trans ((hg10 a0 13 0 33 hs_a0 (by decide)).trans ((xs_k hg8 (by decide)).trans ((xs_k hg7 (by decide)).trans ((xs_k hg6 (by decide)).trans ((xs_k hg5 (by decide)).trans ((xs_k hg4 (by decide)).trans ((xs_k hg3 (by decide)).trans ((xs_k hg2 (by decide)).trans ((xs_k hg1 (by decide)).trans ewf)))))))))) hs_wf ((hg95 a0 13 0 34 hs_a0 (by decide)).trans ((hg10 a0 13 0 34 hs_a0 (by decide)).trans ((xs_k hg8 (by decide)).trans ((xs_k hg7 (by decide)).trans ((xs_k hg6 (by decide)).trans ((xs_k hg5 (by decide)).trans ((xs_k hg4 (by decide)).trans ((xs_k hg3 (by decide)).trans ((xs_k hg2 (by decide)).trans ((xs_k hg1 (by decide)).trans ewu)))))))))) hs_wu (by omega) v117) hs_a0 ⟨by decide, rfl⟩ kd46_61.2.2.2.2.1 rfl rfl (by simp [Value.category]) (by decide) (by decide) (by decide) (by decide) (fun r125 S127 g126 pr125 qr125 hg126 => ?_)
        obtain ⟨rfl, z128, rfl, lz128, uz128, k129⟩ := pr125
        refine X_st [.int (iI z128)] rfl ?_
        obtain ⟨z130, z131, z132, z133, ez130, lz130, uz130, ez131, lz131, uz131, ez133, lz133, uz133, ez132, lz132, uz132, Rz130, oz130, yz130, xz130⟩ := k129
        refine X_if_ne hK 60 (by omega) kd46_61.2.2.2.2.2.1 (by decide) (fun c134 => ?_) (fun c134 => ?_)
        · refine X_aloadn hK (i := 0) 0 kd46_61.2.2.2.2.2.2.2.2.1 rfl rfl ?_
          refine X_callV hK [] [] lk_X12_342 (c_X12_go _ _ _ _ _ S g126 a0 hs_a0) hs_a0 ⟨by decide, rfl⟩ kd46_61.2.2.2.2.2.2.2.2.2.1 rfl rfl (by simp [Value.category]) (by decide) (by decide) (by decide) (by decide) (fun r135 S137 g136 pr135 qr135 hg136 => ?_)
          obtain ⟨rfl, rfl⟩ := pr135
          refine X_st [] rfl ?_
          refine X_goto hK 44 kd46_61.2.2.2.2.2.2.2.2.2.2.1 (by decide) ?_
          exact ihP116  g136 (xM.tr (xM.tr (xM.tr xM.rf xLe.rf hg95 (by decide)) xLe.rf hg126 (by decide)) xLe.rf hg136 (by decide)) z130 (by omega) (by omega) ((hg136 a0 13 0 41 hs_a0 (by decide)).trans ez130) z131 (by omega) (by omega) ((hg136 a0 13 0 40 hs_a0 (by decide)).trans ez131) z133 (by omega) (by omega) ((hg136 a0 13 0 43 hs_a0 (by decide)).trans ez133) z132 (by omega) (by omega) ((hg136 a0 13 0 44 hs_a0 (by decide)).trans ez132) (by rw [(xv_m hg136 hs_wf (by decide) (by decide)), (xv_m hg136 hs_wu (by decide) (by decide)), (xv_m hg136 hs_wp (by decide) (by decide))]; exact (Rz130 (by omega)).2.2) (by have h9 := (Rz130 (by omega)).2.1; omega) (fun i q1 q2 => ((show xv g136 wf i = xv g126 wf i from by rw [(xv_m hg136 hs_wf (by decide) (by decide))])).trans ((oz130 i q1 q2).trans (v119 i q1 q2))) (fun i q1 q2 => ((show xv g136 wu i = xv g126 wu i from by rw [(xv_m hg136 hs_wu (by decide) (by decide))])).trans ((yz130 i q1 q2).trans (v120 i q1 q2))) (fun i q1 q2 => ((show xv g136 wp i = xv g126 wp i from by rw [(xv_m hg136 hs_wp (by decide) (by decide))])).trans ((xz130 i q1 q2).trans (v121 i q1 q2))) (by have h9 := (Rz130 (by omega)).1; omega)
        · refine X_iconst hK kd46_61.2.2.2.2.2.2.1 ?_
          exact hret _ _ _ _ _ _ _ kd46_61.2.2.2.2.2.2.2.1 (by omega) (by omega) ⟨rfl, 0, rfl, (by omega), (by omega), ⟨z130, z131, ez130, by omega, by omega, ez131, by omega, by omega, (fun h => by omega), (fun i q1 q2 => (show xv g126 wo i = xv g wo i from by rw [(xv_m hg126 hs_wo (by decide) (by decide)), (xv_m hg95 hs_wo (by decide) (by decide)), (xv_m hg10 hs_wo (by decide) (by decide)), (xv_a hg8 (xne hs_wo hs_a0 (by decide))), (xv_a hg7 (xne hs_wo hs_a0 (by decide))), (xv_a hg6 (xne hs_wo hs_a0 (by decide))), (xv_a hg5 (xne hs_wo hs_a0 (by decide))), (xv_a hg4 (xne hs_wo hs_a0 (by decide))), (xv_a hg3 (xne hs_wo hs_a0 (by decide))), (xv_a hg2 (xne hs_wo hs_a0 (by decide))), (xv_a hg1 (xne hs_wo hs_a0 (by decide)))])), (fun i q1 q2 => ((show xv g126 wf i = xv g126 wf i from rfl)).trans ((oz130 i q1 q2).trans (v119 i q1 q2))), (fun i q1 q2 => ((show xv g126 wu i = xv g126 wu i from rfl)).trans ((yz130 i q1 q2).trans (v120 i q1 q2))), (fun i q1 q2 => ((show xv g126 wp i = xv g126 wp i from rfl)).trans ((xz130 i q1 q2).trans (v121 i q1 q2)))⟩⟩ (Nat.le_refl _) (Nat.le_refl _)
  exact P116 ((16 - 0 : Int).toNat + 1) g10 xM.rf 0 (by omega) (by omega) ((hg10 a0 13 0 41 hs_a0 (by decide)).trans ((xs_k hg8 (by decide)).trans ((xs_k hg7 (by decide)).trans ((xs_k hg6 (by decide)).trans (xs_s hg5))))) 0 (by omega) (by omega) ((hg10 a0 13 0 40 hs_a0 (by decide)).trans ((xs_k hg8 (by decide)).trans ((xs_k hg7 (by decide)).trans ((xs_k hg6 (by decide)).trans ((xs_k hg5 (by decide)).trans (xs_s hg4)))))) 0 (by omega) (by omega) ((hg10 a0 13 0 43 hs_a0 (by decide)).trans ((xs_k hg8 (by decide)).trans ((xs_k hg7 (by decide)).trans (xs_s hg6)))) 0 (by omega) (by omega) ((hg10 a0 13 0 44 hs_a0 (by decide)).trans ((xs_k hg8 (by decide)).trans (xs_s hg7))) (fun k q1 q2 => by omega) (by omega) (fun i q1 q2 => (show xv g10 wf i = xv g wf i from by rw [(xv_m hg10 hs_wf (by decide) (by decide)), (xv_a hg8 (xne hs_wf hs_a0 (by decide))), (xv_a hg7 (xne hs_wf hs_a0 (by decide))), (xv_a hg6 (xne hs_wf hs_a0 (by decide))), (xv_a hg5 (xne hs_wf hs_a0 (by decide))), (xv_a hg4 (xne hs_wf hs_a0 (by decide))), (xv_a hg3 (xne hs_wf hs_a0 (by decide))), (xv_a hg2 (xne hs_wf hs_a0 (by decide))), (xv_a hg1 (xne hs_wf hs_a0 (by decide)))])) (fun i q1 q2 => (show xv g10 wu i = xv g wu i from by rw [(xv_m hg10 hs_wu (by decide) (by decide)), (xv_a hg8 (xne hs_wu hs_a0 (by decide))), (xv_a hg7 (xne hs_wu hs_a0 (by decide))), (xv_a hg6 (xne hs_wu hs_a0 (by decide))), (xv_a hg5 (xne hs_wu hs_a0 (by decide))), (xv_a hg4 (xne hs_wu hs_a0 (by decide))), (xv_a hg3 (xne hs_wu hs_a0 (by decide))), (xv_a hg2 (xne hs_wu hs_a0 (by decide))), (xv_a hg1 (xne hs_wu hs_a0 (by decide)))])) (fun i q1 q2 => (show xv g10 wp i = xv g wp i from by rw [(xv_m hg10 hs_wp (by decide) (by decide)), (xv_a hg8 (xne hs_wp hs_a0 (by decide))), (xv_a hg7 (xne hs_wp hs_a0 (by decide))), (xv_a hg6 (xne hs_wp hs_a0 (by decide))), (xv_a hg5 (xne hs_wp hs_a0 (by decide))), (xv_a hg4 (xne hs_wp hs_a0 (by decide))), (xv_a hg3 (xne hs_wp hs_a0 (by decide))), (xv_a hg2 (xne hs_wp hs_a0 (by decide))), (xv_a hg1 (xne hs_wp hs_a0 (by decide)))])) (by omega)

set_option maxHeartbeats 4000000 in
set_option maxRecDepth 100000 in
theorem c_X12_terms (l : Launch) (D : va_G) (kA : Nat → ClassId) (b0 : Nat) (t0 : Nat → Nat) (S : xT) (g : xG) (a0 : Nat) (x1 : Int) (n0 : Int) (hs_a0 : S a0 = some (13, 0)) (hx1 : (-2147483648) ≤ x1 ∧ x1 ≤ 2147483647) (hn0 : 0 ≤ n0 ∧ n0 ≤ 420) (en0 : g a0 2 = .int (iI n0)) (hp0 : xTw S g a0) : xMt l yX12_terms cX12_terms 4 (some .int) 6 0 0 132 D kA b0 t0 [(13, 0), (13, 2), (13, 19), (13, 25), (13, 27), (13, 40), (13, 41), (13, 43), (13, 44), (13, 20), (13, 21), (13, 28), (13, 23), (13, 22), (13, 24), (15300, 0), (13, 26), (15500, 0), (15600, 0), (15700, 0), (15800, 0), (13, 42), (15900, 0), (16000, 0), (16100, 0), (16200, 0), (15400, 0), (13, 39)] [.ref a0, .int (iI x1)] S g (fun (r : Option Value) (S1 : xT) (g1 : xG) => S = S1 ∧ ∃ z : Int, r = some (.int (iI z)) ∧ (-1000) ≤ z ∧ z ≤ 16 ∧ (g1 a0 2 = .int (iI (0))) ∧ (xTw S g1 a0)) := by
  refine xEnterI (by decide) (by simp [lg_sl, Value.category]) [(0, .ref a0), (1, .int (iI x1))] rfl ?_
  intro K E hK hret _ _ _
  refine X_aloadn hK (i := 0) 0 kd46_66.2.2.2.2.2.2.2.2.2.2.2 rfl rfl ?_
  obtain ⟨wo, wf, wu, wp, n8, hpi1, hpi2, hs_wo, hpi4, hs_wf, hpi6, hs_wu, hpi8, hs_wp, hpi10, hpi11, hpi12, hta⟩ := hp0
  refine X_wt (fun hW => ?_)
  have hlo : ∀ t : Int, 0 ≤ t → t < 11 → 0 ≤ xv g wo t ∧ xv g wo t ≤ 16 := fun k q1 q2 => xv_r hW hs_wo (by decide) sl_15300 (by decide) k q1 (by omega)
  refine X_iconst hK kd46_67.1 ?_
  refine X_puti hK fl_X12_198_13 hs_a0 (by decide) sl_13_0 (by omega) (by omega) kd46_67.2.1 (fun g1 hg1 => ?_)
  refine X_aloadn hK (i := 0) 0 kd46_67.2.2.1 rfl rfl ?_
  refine X_callV hK [] [] lk_X12_222 (c_X12_take _ _ _ _ _ S g1 a0 n0 hs_a0 (by omega) ((xs_k hg1 (by decide)).trans en0)) hs_a0 ⟨by decide, rfl⟩ kd46_67.2.2.2.1 rfl rfl (by simp [Value.category]) (by decide) (by decide) (by decide) (by decide) (fun r2 S4 g3 pr2 qr2 hg3 => ?_)
  obtain ⟨rfl, z5, rfl, lz5, uz5, k6, k7⟩ := pr2
  refine X_st [.int (iI z5)] rfl ?_
  refine X_istoren hK (i := 2) [(2, .int (iI z5)), (0, .ref a0), (1, .int (iI x1))] kd46_67.2.2.2.2.1 rfl (by decide) rfl ?_
  refine X_aloadn hK (i := 0) 1 kd46_67.2.2.2.2.2.1 rfl rfl ?_
  refine X_getK hK fl_X12_373_13 hs_a0 ((hg3 a0 13 0 39 hs_a0 (by decide)).trans ((xs_k hg1 (by decide)).trans hpi10)) kd46_67.2.2.2.2.2.2.1 ?_
  refine X_bipush hK kd46_67.2.2.2.2.2.2.2.1 (by decide) ?_
  refine X_icmp_eq hK 33 (by omega) (by omega) kd46_67.2.2.2.2.2.2.2.2.1 (by decide) (fun c8 => ?_) (fun c8 => ?_)
  · refine X_sipush hK kd46_68.2.2.2.1 (by decide) ?_
    exact hret _ _ _ _ _ _ _ kd46_68.2.2.2.2.1 ⟨rfl, (-1000), rfl, (by omega), (by omega), (k7.trans (by congr 2 <;> omega)), ⟨wo, wf, wu, wp, n8, hs_a0, ((hg3 a0 13 0 29 hs_a0 (by decide)).trans ((xs_k hg1 (by decide)).trans hpi2)), hs_wo, ((hg3 a0 13 0 33 hs_a0 (by decide)).trans ((xs_k hg1 (by decide)).trans hpi4)), hs_wf, ((hg3 a0 13 0 34 hs_a0 (by decide)).trans ((xs_k hg1 (by decide)).trans hpi6)), hs_wu, ((hg3 a0 13 0 35 hs_a0 (by decide)).trans ((xs_k hg1 (by decide)).trans hpi8)), hs_wp, ((hg3 a0 13 0 39 hs_a0 (by decide)).trans ((xs_k hg1 (by decide)).trans hpi10)), by omega, by omega, (by rw [(Eq.trans (xv_m hg3 hs_wo (by decide) (by decide)) (xv_a hg1 (xne hs_wo hs_a0 (by decide)))), (Eq.trans (xv_m hg3 hs_wf (by decide) (by decide)) (xv_a hg1 (xne hs_wf hs_a0 (by decide)))), (Eq.trans (xv_m hg3 hs_wu (by decide) (by decide)) (xv_a hg1 (xne hs_wu hs_a0 (by decide)))), (Eq.trans (xv_m hg3 hs_wp (by decide) (by decide)) (xv_a hg1 (xne hs_wp hs_a0 (by decide))))]; exact hta)⟩⟩ (Nat.le_refl _) (Nat.le_refl _)
  · refine X_iloadn hK (i := 1) 2 kd46_67.2.2.2.2.2.2.2.2.2.1 rfl rfl ?_
    refine X_aloadn hK (i := 0) 1 kd46_67.2.2.2.2.2.2.2.2.2.2.1 rfl rfl ?_
    refine X_geti hK fl_X12_239_13 hs_a0 sl_13_3 kd46_67.2.2.2.2.2.2.2.2.2.2.2 (fun z9 ez9 lz9 uz9 => ?_)
    refine X_sipush hK kd46_68.1 (by decide) ?_
    refine X_callS hK [.int (iI x1), .int (iI z9), .int (iI 399)] [] lk_X12_211 (c_X12_isIn _ _ _ _ _ S g3 x1 z9 399 (by omega) (by omega) (by omega)) kd46_68.2.1 rfl rfl (by simp [Value.category]) (by decide) (by decide) (by decide) (by decide) (fun r10 S12 g11 pr10 qr10 hg11 => ?_)
    obtain ⟨rfl, rfl, z13, rfl, lz13, uz13, k14⟩ := pr10
    refine X_st [.int (iI z13)] rfl ?_
    refine X_if_ne hK 37 (by omega) kd46_68.2.2.1 (by decide) (fun c15 => ?_) (fun c15 => ?_)
    · refine X_aloadn hK (i := 0) 1 kd46_68.2.2.2.2.2.1 rfl rfl ?_
      refine X_iloadn hK (i := 2) 0 kd46_68.2.2.2.2.2.2.1 rfl rfl ?_
      refine X_callV hK [.int (iI z5)] [] lk_X12_376 (c_X12_readTerms _ _ _ _ _ S g3 a0 z5 wo wf wu wp hs_a0 (by omega) ((hg3 a0 13 0 29 hs_a0 (by decide)).trans ((xs_k hg1 (by decide)).trans hpi2)) hs_wo ((hg3 a0 13 0 33 hs_a0 (by decide)).trans ((xs_k hg1 (by decide)).trans hpi4)) hs_wf ((hg3 a0 13 0 34 hs_a0 (by decide)).trans ((xs_k hg1 (by decide)).trans hpi6)) hs_wu ((hg3 a0 13 0 35 hs_a0 (by decide)).trans ((xs_k hg1 (by decide)).trans hpi8)) hs_wp) hs_a0 ⟨by decide, rfl⟩ kd46_68.2.2.2.2.2.2.2.1 rfl rfl (by simp [Value.category]) (by decide) (by decide) (by decide) (by decide) (fun r16 S18 g17 pr16 qr16 hg17 => ?_)
      obtain ⟨rfl, z19, rfl, lz19, uz19, k20⟩ := pr16
      refine X_st [.int (iI z19)] rfl ?_
      obtain ⟨z21, z22, ez21, lz21, uz21, ez22, lz22, uz22, Rz21, oz21, yz21, xz21, vz21⟩ := k20
      have ta23 : xTa n8 (xv g17 wo) (xv g17 wf) (xv g17 wu) (xv g17 wp) := xTa.low (by rw [(Eq.trans (xv_m hg3 hs_wo (by decide) (by decide)) (xv_a hg1 (xne hs_wo hs_a0 (by decide)))), (Eq.trans (xv_m hg3 hs_wf (by decide) (by decide)) (xv_a hg1 (xne hs_wf hs_a0 (by decide)))), (Eq.trans (xv_m hg3 hs_wu (by decide) (by decide)) (xv_a hg1 (xne hs_wu hs_a0 (by decide)))), (Eq.trans (xv_m hg3 hs_wp (by decide) (by decide)) (xv_a hg1 (xne hs_wp hs_a0 (by decide))))]; exact hta) (by omega) (fun t q1 q2 => by rw [(Eq.trans (xv_m hg3 hs_wo (by decide) (by decide)) (xv_a hg1 (xne hs_wo hs_a0 (by decide))))]; exact (hlo t q1 q2).2) oz21 yz21 xz21 vz21
      refine X_wt (fun hW2 => ?_)
      refine X_if_ne hK 52 (by omega) kd46_68.2.2.2.2.2.2.2.2.1 (by decide) (fun c24 => ?_) (fun c24 => ?_)
      · refine X_aloadn hK (i := 0) 1 kd46_69.2.2.1 rfl rfl ?_
        refine X_getK hK fl_X12_50_13 hs_a0 ((hg17 a0 13 0 29 hs_a0 (by decide)).trans ((hg3 a0 13 0 29 hs_a0 (by decide)).trans ((xs_k hg1 (by decide)).trans hpi2))) kd46_69.2.2.2.1 ?_
        refine X_aloadn hK (i := 0) 1 kd46_69.2.2.2.2.1 rfl rfl ?_
        refine X_getK hK fl_X12_373_13 hs_a0 ((hg17 a0 13 0 39 hs_a0 (by decide)).trans ((hg3 a0 13 0 39 hs_a0 (by decide)).trans ((xs_k hg1 (by decide)).trans hpi10))) kd46_69.2.2.2.2.2.1 ?_
        refine X_aloadn hK (i := 0) 1 kd46_69.2.2.2.2.2.2.1 rfl rfl ?_
        refine X_getK hK fl_X12_361_13 hs_a0 ez22 kd46_69.2.2.2.2.2.2.2.1 ?_
        refine X_iast hK hs_wo (by decide) (by decide) sl_15300 (by omega) (by omega) (by omega) (by omega) kd46_69.2.2.2.2.2.2.2.2.1 (fun g25 hg25 => ?_)
        refine X_aloadn hK (i := 0) 1 kd46_69.2.2.2.2.2.2.2.2.2.1 rfl rfl ?_
        refine X_getr hK 15400 11 fl_X12_53_13 hs_a0 sl_13_30 kd46_69.2.2.2.2.2.2.2.2.2.2.1 (fun b26 eb26 hs_b26 => ?_)
        refine X_aloadn hK (i := 0) 1 kd46_69.2.2.2.2.2.2.2.2.2.2.2 rfl rfl ?_
        refine X_getK hK fl_X12_373_13 hs_a0 ((xs_a hg25 (xne hs_a0 hs_wo (by decide))).trans ((hg17 a0 13 0 39 hs_a0 (by decide)).trans ((hg3 a0 13 0 39 hs_a0 (by decide)).trans ((xs_k hg1 (by decide)).trans hpi10)))) kd46_70.1 ?_
        refine X_iloadn hK (i := 1) 2 kd46_70.2.1 rfl rfl ?_
        refine X_iast hK hs_b26 (by decide) (by decide) sl_15400 (by omega) (by omega) (by omega) (by omega) kd46_70.2.2.1 (fun g27 hg27 => ?_)
        refine X_iconst hK kd46_70.2.2.2.1 ?_
        refine X_istoren hK (i := 3) [(3, .int (iI 0)), (2, .int (iI z5)), (0, .ref a0), (1, .int (iI x1))] kd46_70.2.2.2.2.1 rfl (by decide) rfl ?_
        have P314 : ∀ (nP314 : Nat) (g277 : xG) (_ : xM [(15800, 0), (15700, 0), (15600, 0), (15500, 0)] S g27 g277) (z276 : Int) (_ : 0 ≤ z276) (_ : z276 ≤ 16) (_ : ∀ k, 0 ≤ k → k < z276 → xv g277 wf (16 * n8 + k) = xv g27 wf (160 + k)) (_ : ∀ i, 0 ≤ i → i < 16 * n8 ∨ 160 ≤ i → xv g277 wf i = xv g27 wf i) (_ : ∀ k, 0 ≤ k → k < z276 → xv g277 wu (16 * n8 + k) = xv g27 wu (160 + k)) (_ : ∀ i, 0 ≤ i → i < 16 * n8 ∨ 160 ≤ i → xv g277 wu i = xv g27 wu i) (_ : 32 - z276 < (nP314 : Int)), X K E 77 [(3, .int (iI z276)), (2, .int (iI z5)), (0, .ref a0), (1, .int (iI x1))] [] S g277 0 0 := by
          intro nP314
          induction nP314 with
          | zero => intro g277 hg277 z276 lz276 uz276 v315 v316 v317 v318 mP314; exact False.elim (by omega)
          | succ nP314 ihP314 =>
            intro g277 hg277 z276 lz276 uz276 v315 v316 v317 v318 mP314
            refine X_iloadn hK (i := 3) 0 kd46_70.2.2.2.2.2.1 rfl rfl ?_
            refine X_aloadn hK (i := 0) 2 kd46_70.2.2.2.2.2.2.1 rfl rfl ?_
            refine X_getK hK fl_X12_361_13 hs_a0 ((hg277 a0 13 0 40 hs_a0 (by decide)).trans ((xs_a hg27 (xne hs_a0 hs_b26 (by decide))).trans ((xs_a hg25 (xne hs_a0 hs_wo (by decide))).trans ez22))) kd46_70.2.2.2.2.2.2.2.1 ?_
            refine X_icmp_ge hK 187 (by omega) (by omega) kd46_70.2.2.2.2.2.2.2.2.1 (by decide) (fun c319 => ?_) (fun c319 => ?_)
            · refine X_iconst hK kd46_75.2.2.2.2.2.2.2.2.2.2.2 ?_
              refine X_istoren hK (i := 3) [(3, .int (iI 0)), (2, .int (iI z5)), (0, .ref a0), (1, .int (iI x1))] kd46_76.1 rfl (by decide) rfl ?_
              have P391 : ∀ (nP391 : Nat) (g380 : xG) (_ : xM [(16100, 0), (16000, 0), (15900, 0)] S g277 g380) (z379 : Int) (_ : 0 ≤ z379) (_ : z379 ≤ 120) (_ : ∀ k, 0 ≤ k → k < z379 → xv g380 wp (120 * n8 + k) = xv g277 wp (1200 + k)) (_ : ∀ i, 0 ≤ i → i < 120 * n8 ∨ 1200 ≤ i → xv g380 wp i = xv g277 wp i) (_ : 136 - z379 < (nP391 : Int)), X K E 189 [(3, .int (iI z379)), (2, .int (iI z5)), (0, .ref a0), (1, .int (iI x1))] [] S g380 0 0 := by
                intro nP391
                induction nP391 with
                | zero => intro g380 hg380 z379 lz379 uz379 v392 v393 mP391; exact False.elim (by omega)
                | succ nP391 ihP391 =>
                  intro g380 hg380 z379 lz379 uz379 v392 v393 mP391
                  refine X_iloadn hK (i := 3) 0 kd46_76.2.1 rfl rfl ?_
                  refine X_aloadn hK (i := 0) 2 kd46_76.2.2.1 rfl rfl ?_
                  refine X_getK hK fl_X12_313_13 hs_a0 ((hg380 a0 13 0 41 hs_a0 (by decide)).trans ((hg277 a0 13 0 41 hs_a0 (by decide)).trans ((xs_a hg27 (xne hs_a0 hs_b26 (by decide))).trans ((xs_a hg25 (xne hs_a0 hs_wo (by decide))).trans ez21)))) kd46_76.2.2.2.1 ?_
                  refine X_icmp_ge hK 275 (by omega) (by omega) kd46_76.2.2.2.2.1 (by decide) (fun c394 => ?_) (fun c394 => ?_)
                  · refine X_aloadn hK (i := 0) 2 kd46_80.2.2.2.2.1 rfl rfl ?_
                    refine X_dup hK kd46_80.2.2.2.2.2.1 rfl ?_
                    refine X_getK hK fl_X12_373_13 hs_a0 ((hg380 a0 13 0 39 hs_a0 (by decide)).trans ((hg277 a0 13 0 39 hs_a0 (by decide)).trans ((xs_a hg27 (xne hs_a0 hs_b26 (by decide))).trans ((xs_a hg25 (xne hs_a0 hs_wo (by decide))).trans ((hg17 a0 13 0 39 hs_a0 (by decide)).trans ((hg3 a0 13 0 39 hs_a0 (by decide)).trans ((xs_k hg1 (by decide)).trans hpi10))))))) kd46_80.2.2.2.2.2.2.1 ?_
                    refine X_iconst hK kd46_80.2.2.2.2.2.2.2.1 ?_
                    refine X_iadd hK kd46_80.2.2.2.2.2.2.2.2.1 ?_
                    refine X_puti hK fl_X12_373_13 hs_a0 (by decide) sl_13_39 (by omega) (by omega) kd46_80.2.2.2.2.2.2.2.2.2.1 (fun g395 hg395 => ?_)
                    refine X_aloadn hK (i := 0) 2 kd46_80.2.2.2.2.2.2.2.2.2.2.1 rfl rfl ?_
                    refine X_getK hK fl_X12_361_13 hs_a0 ((xs_k hg395 (by decide)).trans ((hg380 a0 13 0 40 hs_a0 (by decide)).trans ((hg277 a0 13 0 40 hs_a0 (by decide)).trans ((xs_a hg27 (xne hs_a0 hs_b26 (by decide))).trans ((xs_a hg25 (xne hs_a0 hs_wo (by decide))).trans ez22))))) kd46_80.2.2.2.2.2.2.2.2.2.2.2 ?_
                    exact hret _ _ _ _ _ _ _ kd46_81.1 ⟨rfl, z22, rfl, (by omega), (by omega), (((xs_k hg395 (by decide)).trans ((hg380 a0 13 0 2 hs_a0 (by decide)).trans ((hg277 a0 13 0 2 hs_a0 (by decide)).trans ((xs_a hg27 (xne hs_a0 hs_b26 (by decide))).trans ((xs_a hg25 (xne hs_a0 hs_wo (by decide))).trans ((hg17 a0 13 0 2 hs_a0 (by decide)).trans k7)))))).trans (by congr 2 <;> omega)), ⟨wo, wf, wu, wp, (n8 + 1), hs_a0, ((xs_k hg395 (by decide)).trans ((hg380 a0 13 0 29 hs_a0 (by decide)).trans ((hg277 a0 13 0 29 hs_a0 (by decide)).trans ((xs_a hg27 (xne hs_a0 hs_b26 (by decide))).trans ((xs_a hg25 (xne hs_a0 hs_wo (by decide))).trans ((hg17 a0 13 0 29 hs_a0 (by decide)).trans ((hg3 a0 13 0 29 hs_a0 (by decide)).trans ((xs_k hg1 (by decide)).trans hpi2)))))))), hs_wo, ((xs_k hg395 (by decide)).trans ((hg380 a0 13 0 33 hs_a0 (by decide)).trans ((hg277 a0 13 0 33 hs_a0 (by decide)).trans ((xs_a hg27 (xne hs_a0 hs_b26 (by decide))).trans ((xs_a hg25 (xne hs_a0 hs_wo (by decide))).trans ((hg17 a0 13 0 33 hs_a0 (by decide)).trans ((hg3 a0 13 0 33 hs_a0 (by decide)).trans ((xs_k hg1 (by decide)).trans hpi4)))))))), hs_wf, ((xs_k hg395 (by decide)).trans ((hg380 a0 13 0 34 hs_a0 (by decide)).trans ((hg277 a0 13 0 34 hs_a0 (by decide)).trans ((xs_a hg27 (xne hs_a0 hs_b26 (by decide))).trans ((xs_a hg25 (xne hs_a0 hs_wo (by decide))).trans ((hg17 a0 13 0 34 hs_a0 (by decide)).trans ((hg3 a0 13 0 34 hs_a0 (by decide)).trans ((xs_k hg1 (by decide)).trans hpi6)))))))), hs_wu, ((xs_k hg395 (by decide)).trans ((hg380 a0 13 0 35 hs_a0 (by decide)).trans ((hg277 a0 13 0 35 hs_a0 (by decide)).trans ((xs_a hg27 (xne hs_a0 hs_b26 (by decide))).trans ((xs_a hg25 (xne hs_a0 hs_wo (by decide))).trans ((hg17 a0 13 0 35 hs_a0 (by decide)).trans ((hg3 a0 13 0 35 hs_a0 (by decide)).trans ((xs_k hg1 (by decide)).trans hpi8)))))))), hs_wp, (xs_s hg395), by omega, by omega, (xTa.new ta23 (by omega) (fun t q1 q2 => (xv_r hW2 hs_wo (by decide) sl_15300 (by decide) t q1 (by omega)).2) (Rz21 (by omega)).1 (by omega) (by omega) (fun t q1 q2 => (show xv g395 wo t = xv g17 wo t from by rw [(xv_a hg395 (xne hs_wo hs_a0 (by decide))), (xv_m hg380 hs_wo (by decide) (by decide)), (xv_m hg277 hs_wo (by decide) (by decide)), (xv_a hg27 (xne hs_wo hs_b26 (by decide))), (xv_k (i := t) hg25 (by omega) (by omega) (by omega))])) (show xv g395 wo n8 = z22 from by rw [(xv_a hg395 (xne hs_wo hs_a0 (by decide))), (xv_m hg380 hs_wo (by decide) (by decide)), (xv_m hg277 hs_wo (by decide) (by decide)), (xv_a hg27 (xne hs_wo hs_b26 (by decide))), xv_s hg25 (by omega)]) (fun i q1 q2 => ((show xv g395 wf i = xv g277 wf i from by rw [(xv_a hg395 (xne hs_wf hs_a0 (by decide))), (xv_m hg380 hs_wf (by decide) (by decide))])).trans ((v316 i q1 q2).trans (show xv g27 wf i = xv g17 wf i from by rw [(xv_a hg27 (xne hs_wf hs_b26 (by decide))), (xv_a hg25 (xne hs_wf hs_wo (by decide)))]))) (fun k q1 q2 => ((show xv g395 wf (16 * n8 + k) = xv g277 wf (16 * n8 + k) from by rw [(xv_a hg395 (xne hs_wf hs_a0 (by decide))), (xv_m hg380 hs_wf (by decide) (by decide))])).trans ((v315 k q1 (by omega)).trans (show xv g27 wf (160 + k) = xv g17 wf (160 + k) from by rw [(xv_a hg27 (xne hs_wf hs_b26 (by decide))), (xv_a hg25 (xne hs_wf hs_wo (by decide)))]))) (fun i q1 q2 => ((show xv g395 wu i = xv g277 wu i from by rw [(xv_a hg395 (xne hs_wu hs_a0 (by decide))), (xv_m hg380 hs_wu (by decide) (by decide))])).trans ((v318 i q1 q2).trans (show xv g27 wu i = xv g17 wu i from by rw [(xv_a hg27 (xne hs_wu hs_b26 (by decide))), (xv_a hg25 (xne hs_wu hs_wo (by decide)))]))) (fun k q1 q2 => ((show xv g395 wu (16 * n8 + k) = xv g277 wu (16 * n8 + k) from by rw [(xv_a hg395 (xne hs_wu hs_a0 (by decide))), (xv_m hg380 hs_wu (by decide) (by decide))])).trans ((v317 k q1 (by omega)).trans (show xv g27 wu (160 + k) = xv g17 wu (160 + k) from by rw [(xv_a hg27 (xne hs_wu hs_b26 (by decide))), (xv_a hg25 (xne hs_wu hs_wo (by decide)))]))) (fun i q1 q2 => ((show xv g395 wp i = xv g380 wp i from by rw [(xv_a hg395 (xne hs_wp hs_a0 (by decide)))])).trans ((v393 i q1 q2).trans (show xv g277 wp i = xv g17 wp i from by rw [(xv_m hg277 hs_wp (by decide) (by decide)), (xv_a hg27 (xne hs_wp hs_b26 (by decide))), (xv_a hg25 (xne hs_wp hs_wo (by decide)))]))) (fun k q1 q2 => ((show xv g395 wp (120 * n8 + k) = xv g380 wp (120 * n8 + k) from by rw [(xv_a hg395 (xne hs_wp hs_a0 (by decide)))])).trans ((v392 k q1 (by omega)).trans (show xv g277 wp (1200 + k) = xv g17 wp (1200 + k) from by rw [(xv_m hg277 hs_wp (by decide) (by decide)), (xv_a hg27 (xne hs_wp hs_b26 (by decide))), (xv_a hg25 (xne hs_wp hs_wo (by decide)))]))))⟩⟩ (Nat.le_refl _) (Nat.le_refl _)
                  · refine X_aloadn hK (i := 0) 2 kd46_76.2.2.2.2.2.1 rfl rfl ?_
                    refine X_getK hK fl_X12_68_13 hs_a0 ((hg380 a0 13 0 35 hs_a0 (by decide)).trans ((hg277 a0 13 0 35 hs_a0 (by decide)).trans ((xs_a hg27 (xne hs_a0 hs_b26 (by decide))).trans ((xs_a hg25 (xne hs_a0 hs_wo (by decide))).trans ((hg17 a0 13 0 35 hs_a0 (by decide)).trans ((hg3 a0 13 0 35 hs_a0 (by decide)).trans ((xs_k hg1 (by decide)).trans hpi8))))))) kd46_76.2.2.2.2.2.2.1 ?_
                    refine X_bipush hK kd46_76.2.2.2.2.2.2.2.1 (by decide) ?_
                    refine X_aloadn hK (i := 0) 2 kd46_76.2.2.2.2.2.2.2.2.1 rfl rfl ?_
                    refine X_getK hK fl_X12_373_13 hs_a0 ((hg380 a0 13 0 39 hs_a0 (by decide)).trans ((hg277 a0 13 0 39 hs_a0 (by decide)).trans ((xs_a hg27 (xne hs_a0 hs_b26 (by decide))).trans ((xs_a hg25 (xne hs_a0 hs_wo (by decide))).trans ((hg17 a0 13 0 39 hs_a0 (by decide)).trans ((hg3 a0 13 0 39 hs_a0 (by decide)).trans ((xs_k hg1 (by decide)).trans hpi10))))))) kd46_76.2.2.2.2.2.2.2.2.2.1 ?_
                    refine X_imul hK kd46_76.2.2.2.2.2.2.2.2.2.2.1 ?_
                    refine X_iloadn hK (i := 3) 0 kd46_76.2.2.2.2.2.2.2.2.2.2.2 rfl rfl ?_
                    refine X_iadd hK kd46_77.1 ?_
                    refine X_aloadn hK (i := 0) 2 kd46_77.2.1 rfl rfl ?_
                    refine X_getK hK fl_X12_68_13 hs_a0 ((hg380 a0 13 0 35 hs_a0 (by decide)).trans ((hg277 a0 13 0 35 hs_a0 (by decide)).trans ((xs_a hg27 (xne hs_a0 hs_b26 (by decide))).trans ((xs_a hg25 (xne hs_a0 hs_wo (by decide))).trans ((hg17 a0 13 0 35 hs_a0 (by decide)).trans ((hg3 a0 13 0 35 hs_a0 (by decide)).trans ((xs_k hg1 (by decide)).trans hpi8))))))) kd46_77.2.2.1 ?_
                    refine X_sipush hK kd46_77.2.2.2.1 (by decide) ?_
                    refine X_iloadn hK (i := 3) 0 kd46_77.2.2.2.2.1 rfl rfl ?_
                    refine X_iadd hK kd46_77.2.2.2.2.2.1 ?_
                    refine X_iald hK hs_wp (by decide) sl_15900 (by omega) (by omega) kd46_77.2.2.2.2.2.2.1 (fun z396 ez396 lz396 uz396 => ?_)
                    have hvz396 := xv_e (j := (1200 + z379)) ez396 (by omega)
                    have hc397 : xv g380 wp (1200 + z379) = z396 := ((show xv g380 wp (1200 + z379) = xv g380 wp (1200 + z379) from rfl)).symm.trans (xv_e (j := (1200 + z379)) ez396 (by omega))
                    refine X_iast hK hs_wp (by decide) (by decide) sl_15900 (by omega) (by omega) (by omega) (by omega) kd46_77.2.2.2.2.2.2.2.1 (fun g398 hg398 => ?_)
                    refine X_aloadn hK (i := 0) 2 kd46_77.2.2.2.2.2.2.2.2.1 rfl rfl ?_
                    refine X_getr hK 16000 1320 fl_X12_71_13 hs_a0 sl_13_36 kd46_77.2.2.2.2.2.2.2.2.2.1 (fun b399 eb399 hs_b399 => ?_)
                    refine X_bipush hK kd46_77.2.2.2.2.2.2.2.2.2.2.1 (by decide) ?_
                    refine X_aloadn hK (i := 0) 2 kd46_77.2.2.2.2.2.2.2.2.2.2.2 rfl rfl ?_
                    refine X_getK hK fl_X12_373_13 hs_a0 ((xs_a hg398 (xne hs_a0 hs_wp (by decide))).trans ((hg380 a0 13 0 39 hs_a0 (by decide)).trans ((hg277 a0 13 0 39 hs_a0 (by decide)).trans ((xs_a hg27 (xne hs_a0 hs_b26 (by decide))).trans ((xs_a hg25 (xne hs_a0 hs_wo (by decide))).trans ((hg17 a0 13 0 39 hs_a0 (by decide)).trans ((hg3 a0 13 0 39 hs_a0 (by decide)).trans ((xs_k hg1 (by decide)).trans hpi10)))))))) kd46_78.1 ?_
                    refine X_imul hK kd46_78.2.1 ?_
                    refine X_iloadn hK (i := 3) 0 kd46_78.2.2.1 rfl rfl ?_
                    refine X_iadd hK kd46_78.2.2.2.1 ?_
                    refine X_aloadn hK (i := 0) 2 kd46_78.2.2.2.2.1 rfl rfl ?_
                    refine X_getK hK fl_X12_71_13 hs_a0 eb399 kd46_78.2.2.2.2.2.1 ?_
                    refine X_sipush hK kd46_78.2.2.2.2.2.2.1 (by decide) ?_
                    refine X_iloadn hK (i := 3) 0 kd46_78.2.2.2.2.2.2.2.1 rfl rfl ?_
                    refine X_iadd hK kd46_78.2.2.2.2.2.2.2.2.1 ?_
                    refine X_iald hK hs_b399 (by decide) sl_16000 (by omega) (by omega) kd46_78.2.2.2.2.2.2.2.2.2.1 (fun z400 ez400 lz400 uz400 => ?_)
                    refine X_iast hK hs_b399 (by decide) (by decide) sl_16000 (by omega) (by omega) (by omega) (by omega) kd46_78.2.2.2.2.2.2.2.2.2.2.1 (fun g401 hg401 => ?_)
                    refine X_aloadn hK (i := 0) 2 kd46_78.2.2.2.2.2.2.2.2.2.2.2 rfl rfl ?_
                    refine X_getr hK 16100 1320 fl_X12_74_13 hs_a0 sl_13_37 kd46_79.1 (fun b402 eb402 hs_b402 => ?_)
                    refine X_bipush hK kd46_79.2.1 (by decide) ?_
                    refine X_aloadn hK (i := 0) 2 kd46_79.2.2.1 rfl rfl ?_
                    refine X_getK hK fl_X12_373_13 hs_a0 ((xs_a hg401 (xne hs_a0 hs_b399 (by decide))).trans ((xs_a hg398 (xne hs_a0 hs_wp (by decide))).trans ((hg380 a0 13 0 39 hs_a0 (by decide)).trans ((hg277 a0 13 0 39 hs_a0 (by decide)).trans ((xs_a hg27 (xne hs_a0 hs_b26 (by decide))).trans ((xs_a hg25 (xne hs_a0 hs_wo (by decide))).trans ((hg17 a0 13 0 39 hs_a0 (by decide)).trans ((hg3 a0 13 0 39 hs_a0 (by decide)).trans ((xs_k hg1 (by decide)).trans hpi10))))))))) kd46_79.2.2.2.1 ?_
                    refine X_imul hK kd46_79.2.2.2.2.1 ?_
                    refine X_iloadn hK (i := 3) 0 kd46_79.2.2.2.2.2.1 rfl rfl ?_
                    refine X_iadd hK kd46_79.2.2.2.2.2.2.1 ?_
                    refine X_aloadn hK (i := 0) 2 kd46_79.2.2.2.2.2.2.2.1 rfl rfl ?_
                    refine X_getK hK fl_X12_74_13 hs_a0 eb402 kd46_79.2.2.2.2.2.2.2.2.1 ?_
                    refine X_sipush hK kd46_79.2.2.2.2.2.2.2.2.2.1 (by decide) ?_
                    refine X_iloadn hK (i := 3) 0 kd46_79.2.2.2.2.2.2.2.2.2.2.1 rfl rfl ?_
                    refine X_iadd hK kd46_79.2.2.2.2.2.2.2.2.2.2.2 ?_
                    refine X_iald hK hs_b402 (by decide) sl_16100 (by omega) (by omega) kd46_80.1 (fun z403 ez403 lz403 uz403 => ?_)
                    refine X_iast hK hs_b402 (by decide) (by decide) sl_16100 (by omega) (by omega) (by omega) (by omega) kd46_80.2.1 (fun g404 hg404 => ?_)
                    refine X_iinc hK (i := 3) (z := z379) (n := 1) 0 [(3, .int (iI (z379 + 1))), (2, .int (iI z5)), (0, .ref a0), (1, .int (iI x1))] kd46_80.2.2.1 rfl (by decide) rfl ?_
                    refine X_goto hK 189 kd46_80.2.2.2.1 (by decide) ?_
                    exact ihP391  g404 (xM_ua (xM_ua (xM_ua (xM.tr xM.rf xLe.rf hg380 (by decide)) hg398 hs_wp (by decide) (by decide)) hg401 hs_b399 (by decide) (by decide)) hg404 hs_b402 (by decide) (by decide)) (z379 + 1) (by omega) (by omega) (fun k q1 q2 => by rcases (show k < z379 ∨ k = z379 by omega) with c9 | c9 <;> first | (rw [c9]; exact ((show xv g404 wp ((120 * n8) + z379) = z396 from by rw [(xv_a hg404 (xne hs_wp hs_b402 (by decide))), (xv_a hg401 (xne hs_wp hs_b399 (by decide))), xv_s hg398 (by omega)])).trans (hc397.symm.trans (v393 (1200 + z379) (by omega) (Or.inr (by omega))))) | exact ((show xv g404 wp (120 * n8 + k) = xv g380 wp (120 * n8 + k) from by rw [(xv_a hg404 (xne hs_wp hs_b402 (by decide))), (xv_a hg401 (xne hs_wp hs_b399 (by decide))), (xv_k (i := (120 * n8 + k)) hg398 (by omega) (by omega) (by omega))])).trans (v392 k q1 c9)) (fun i q1 q2 => ((show xv g404 wp i = xv g380 wp i from by rw [(xv_a hg404 (xne hs_wp hs_b402 (by decide))), (xv_a hg401 (xne hs_wp hs_b399 (by decide))), (xv_k (i := i) hg398 (by omega) (by omega) (by omega))])).trans (v393 i q1 q2)) (by omega)
              exact P391 ((136 - 0 : Int).toNat + 1) g277 xM.rf 0 (by omega) (by omega) (fun k q1 q2 => by omega) (fun i q1 q2 => rfl) (by omega)
            · refine X_aloadn hK (i := 0) 2 kd46_70.2.2.2.2.2.2.2.2.2.1 rfl rfl ?_
              refine X_getr hK 15500 176 fl_X12_56_13 hs_a0 sl_13_31 kd46_70.2.2.2.2.2.2.2.2.2.2.1 (fun b405 eb405 hs_b405 => ?_)
              refine X_bipush hK kd46_70.2.2.2.2.2.2.2.2.2.2.2 (by decide) ?_
              refine X_aloadn hK (i := 0) 2 kd46_71.1 rfl rfl ?_
              refine X_getK hK fl_X12_373_13 hs_a0 ((hg277 a0 13 0 39 hs_a0 (by decide)).trans ((xs_a hg27 (xne hs_a0 hs_b26 (by decide))).trans ((xs_a hg25 (xne hs_a0 hs_wo (by decide))).trans ((hg17 a0 13 0 39 hs_a0 (by decide)).trans ((hg3 a0 13 0 39 hs_a0 (by decide)).trans ((xs_k hg1 (by decide)).trans hpi10)))))) kd46_71.2.1 ?_
              refine X_imul hK kd46_71.2.2.1 ?_
              refine X_iloadn hK (i := 3) 0 kd46_71.2.2.2.1 rfl rfl ?_
              refine X_iadd hK kd46_71.2.2.2.2.1 ?_
              refine X_aloadn hK (i := 0) 2 kd46_71.2.2.2.2.2.1 rfl rfl ?_
              refine X_getK hK fl_X12_56_13 hs_a0 eb405 kd46_71.2.2.2.2.2.2.1 ?_
              refine X_sipush hK kd46_71.2.2.2.2.2.2.2.1 (by decide) ?_
              refine X_iloadn hK (i := 3) 0 kd46_71.2.2.2.2.2.2.2.2.1 rfl rfl ?_
              refine X_iadd hK kd46_71.2.2.2.2.2.2.2.2.2.1 ?_
              refine X_iald hK hs_b405 (by decide) sl_15500 (by omega) (by omega) kd46_71.2.2.2.2.2.2.2.2.2.2.1 (fun z406 ez406 lz406 uz406 => ?_)
              refine X_iast hK hs_b405 (by decide) (by decide) sl_15500 (by omega) (by omega) (by omega) (by omega) kd46_71.2.2.2.2.2.2.2.2.2.2.2 (fun g407 hg407 => ?_)
              refine X_aloadn hK (i := 0) 2 kd46_72.1 rfl rfl ?_
              refine X_getr hK 15600 176 fl_X12_59_13 hs_a0 sl_13_32 kd46_72.2.1 (fun b408 eb408 hs_b408 => ?_)
              refine X_bipush hK kd46_72.2.2.1 (by decide) ?_
              refine X_aloadn hK (i := 0) 2 kd46_72.2.2.2.1 rfl rfl ?_
              refine X_getK hK fl_X12_373_13 hs_a0 ((xs_a hg407 (xne hs_a0 hs_b405 (by decide))).trans ((hg277 a0 13 0 39 hs_a0 (by decide)).trans ((xs_a hg27 (xne hs_a0 hs_b26 (by decide))).trans ((xs_a hg25 (xne hs_a0 hs_wo (by decide))).trans ((hg17 a0 13 0 39 hs_a0 (by decide)).trans ((hg3 a0 13 0 39 hs_a0 (by decide)).trans ((xs_k hg1 (by decide)).trans hpi10))))))) kd46_72.2.2.2.2.1 ?_
              refine X_imul hK kd46_72.2.2.2.2.2.1 ?_
              refine X_iloadn hK (i := 3) 0 kd46_72.2.2.2.2.2.2.1 rfl rfl ?_
              refine X_iadd hK kd46_72.2.2.2.2.2.2.2.1 ?_
              refine X_aloadn hK (i := 0) 2 kd46_72.2.2.2.2.2.2.2.2.1 rfl rfl ?_
              refine X_getK hK fl_X12_59_13 hs_a0 eb408 kd46_72.2.2.2.2.2.2.2.2.2.1 ?_
              refine X_sipush hK kd46_72.2.2.2.2.2.2.2.2.2.2.1 (by decide) ?_
              refine X_iloadn hK (i := 3) 0 kd46_72.2.2.2.2.2.2.2.2.2.2.2 rfl rfl ?_
              refine X_iadd hK kd46_73.1 ?_
              refine X_iald hK hs_b408 (by decide) sl_15600 (by omega) (by omega) kd46_73.2.1 (fun z409 ez409 lz409 uz409 => ?_)
              refine X_iast hK hs_b408 (by decide) (by decide) sl_15600 (by omega) (by omega) (by omega) (by omega) kd46_73.2.2.1 (fun g410 hg410 => ?_)
              refine X_aloadn hK (i := 0) 2 kd46_73.2.2.2.1 rfl rfl ?_
              refine X_getK hK fl_X12_62_13 hs_a0 ((xs_a hg410 (xne hs_a0 hs_b408 (by decide))).trans ((xs_a hg407 (xne hs_a0 hs_b405 (by decide))).trans ((hg277 a0 13 0 33 hs_a0 (by decide)).trans ((xs_a hg27 (xne hs_a0 hs_b26 (by decide))).trans ((xs_a hg25 (xne hs_a0 hs_wo (by decide))).trans ((hg17 a0 13 0 33 hs_a0 (by decide)).trans ((hg3 a0 13 0 33 hs_a0 (by decide)).trans ((xs_k hg1 (by decide)).trans hpi4)))))))) kd46_73.2.2.2.2.1 ?_
              refine X_bipush hK kd46_73.2.2.2.2.2.1 (by decide) ?_
              refine X_aloadn hK (i := 0) 2 kd46_73.2.2.2.2.2.2.1 rfl rfl ?_
              refine X_getK hK fl_X12_373_13 hs_a0 ((xs_a hg410 (xne hs_a0 hs_b408 (by decide))).trans ((xs_a hg407 (xne hs_a0 hs_b405 (by decide))).trans ((hg277 a0 13 0 39 hs_a0 (by decide)).trans ((xs_a hg27 (xne hs_a0 hs_b26 (by decide))).trans ((xs_a hg25 (xne hs_a0 hs_wo (by decide))).trans ((hg17 a0 13 0 39 hs_a0 (by decide)).trans ((hg3 a0 13 0 39 hs_a0 (by decide)).trans ((xs_k hg1 (by decide)).trans hpi10)))))))) kd46_73.2.2.2.2.2.2.2.1 ?_
              refine X_imul hK kd46_73.2.2.2.2.2.2.2.2.1 ?_
              refine X_iloadn hK (i := 3) 0 kd46_73.2.2.2.2.2.2.2.2.2.1 rfl rfl ?_
              refine X_iadd hK kd46_73.2.2.2.2.2.2.2.2.2.2.1 ?_
              refine X_aloadn hK (i := 0) 2 kd46_73.2.2.2.2.2.2.2.2.2.2.2 rfl rfl ?_
              refine X_getK hK fl_X12_62_13 hs_a0 ((xs_a hg410 (xne hs_a0 hs_b408 (by decide))).trans ((xs_a hg407 (xne hs_a0 hs_b405 (by decide))).trans ((hg277 a0 13 0 33 hs_a0 (by decide)).trans ((xs_a hg27 (xne hs_a0 hs_b26 (by decide))).trans ((xs_a hg25 (xne hs_a0 hs_wo (by decide))).trans ((hg17 a0 13 0 33 hs_a0 (by decide)).trans ((hg3 a0 13 0 33 hs_a0 (by decide)).trans ((xs_k hg1 (by decide)).trans hpi4)))))))) kd46_74.1 ?_
              refine X_sipush hK kd46_74.2.1 (by decide) ?_
              refine X_iloadn hK (i := 3) 0 kd46_74.2.2.1 rfl rfl ?_
              refine X_iadd hK kd46_74.2.2.2.1 ?_
              refine X_iald hK hs_wf (by decide) sl_15700 (by omega) (by omega) kd46_74.2.2.2.2.1 (fun z411 ez411 lz411 uz411 => ?_)
              have hvz411 := xv_e (j := (160 + z276)) ez411 (by omega)
              have hc412 : xv g277 wf (160 + z276) = z411 := ((show xv g410 wf (160 + z276) = xv g277 wf (160 + z276) from by rw [(xv_a hg410 (xne hs_wf hs_b408 (by decide))), (xv_a hg407 (xne hs_wf hs_b405 (by decide)))])).symm.trans (xv_e (j := (160 + z276)) ez411 (by omega))
              refine X_iast hK hs_wf (by decide) (by decide) sl_15700 (by omega) (by omega) (by omega) (by omega) kd46_74.2.2.2.2.2.1 (fun g413 hg413 => ?_)
              refine X_aloadn hK (i := 0) 2 kd46_74.2.2.2.2.2.2.1 rfl rfl ?_
              refine X_getK hK fl_X12_65_13 hs_a0 ((xs_a hg413 (xne hs_a0 hs_wf (by decide))).trans ((xs_a hg410 (xne hs_a0 hs_b408 (by decide))).trans ((xs_a hg407 (xne hs_a0 hs_b405 (by decide))).trans ((hg277 a0 13 0 34 hs_a0 (by decide)).trans ((xs_a hg27 (xne hs_a0 hs_b26 (by decide))).trans ((xs_a hg25 (xne hs_a0 hs_wo (by decide))).trans ((hg17 a0 13 0 34 hs_a0 (by decide)).trans ((hg3 a0 13 0 34 hs_a0 (by decide)).trans ((xs_k hg1 (by decide)).trans hpi6))))))))) kd46_74.2.2.2.2.2.2.2.1 ?_
              refine X_bipush hK kd46_74.2.2.2.2.2.2.2.2.1 (by decide) ?_
              refine X_aloadn hK (i := 0) 2 kd46_74.2.2.2.2.2.2.2.2.2.1 rfl rfl ?_
              refine X_getK hK fl_X12_373_13 hs_a0 ((xs_a hg413 (xne hs_a0 hs_wf (by decide))).trans ((xs_a hg410 (xne hs_a0 hs_b408 (by decide))).trans ((xs_a hg407 (xne hs_a0 hs_b405 (by decide))).trans ((hg277 a0 13 0 39 hs_a0 (by decide)).trans ((xs_a hg27 (xne hs_a0 hs_b26 (by decide))).trans ((xs_a hg25 (xne hs_a0 hs_wo (by decide))).trans ((hg17 a0 13 0 39 hs_a0 (by decide)).trans ((hg3 a0 13 0 39 hs_a0 (by decide)).trans ((xs_k hg1 (by decide)).trans hpi10))))))))) kd46_74.2.2.2.2.2.2.2.2.2.2.1 ?_
              refine X_imul hK kd46_74.2.2.2.2.2.2.2.2.2.2.2 ?_
              refine X_iloadn hK (i := 3) 0 kd46_75.1 rfl rfl ?_
              refine X_iadd hK kd46_75.2.1 ?_
              refine X_aloadn hK (i := 0) 2 kd46_75.2.2.1 rfl rfl ?_
              refine X_getK hK fl_X12_65_13 hs_a0 ((xs_a hg413 (xne hs_a0 hs_wf (by decide))).trans ((xs_a hg410 (xne hs_a0 hs_b408 (by decide))).trans ((xs_a hg407 (xne hs_a0 hs_b405 (by decide))).trans ((hg277 a0 13 0 34 hs_a0 (by decide)).trans ((xs_a hg27 (xne hs_a0 hs_b26 (by decide))).trans ((xs_a hg25 (xne hs_a0 hs_wo (by decide))).trans ((hg17 a0 13 0 34 hs_a0 (by decide)).trans ((hg3 a0 13 0 34 hs_a0 (by decide)).trans ((xs_k hg1 (by decide)).trans hpi6))))))))) kd46_75.2.2.2.1 ?_
              refine X_sipush hK kd46_75.2.2.2.2.1 (by decide) ?_
              refine X_iloadn hK (i := 3) 0 kd46_75.2.2.2.2.2.1 rfl rfl ?_
              refine X_iadd hK kd46_75.2.2.2.2.2.2.1 ?_
              refine X_iald hK hs_wu (by decide) sl_15800 (by omega) (by omega) kd46_75.2.2.2.2.2.2.2.1 (fun z414 ez414 lz414 uz414 => ?_)
              have hvz414 := xv_e (j := (160 + z276)) ez414 (by omega)
              have hc415 : xv g277 wu (160 + z276) = z414 := ((show xv g413 wu (160 + z276) = xv g277 wu (160 + z276) from by rw [(xv_a hg413 (xne hs_wu hs_wf (by decide))), (xv_a hg410 (xne hs_wu hs_b408 (by decide))), (xv_a hg407 (xne hs_wu hs_b405 (by decide)))])).symm.trans (xv_e (j := (160 + z276)) ez414 (by omega))
              refine X_iast hK hs_wu (by decide) (by decide) sl_15800 (by omega) (by omega) (by omega) (by omega) kd46_75.2.2.2.2.2.2.2.2.1 (fun g416 hg416 => ?_)
              refine X_iinc hK (i := 3) (z := z276) (n := 1) 0 [(3, .int (iI (z276 + 1))), (2, .int (iI z5)), (0, .ref a0), (1, .int (iI x1))] kd46_75.2.2.2.2.2.2.2.2.2.1 rfl (by decide) rfl ?_
              refine X_goto hK 77 kd46_75.2.2.2.2.2.2.2.2.2.2.1 (by decide) ?_
              exact ihP314  g416 (xM_ua (xM_ua (xM_ua (xM_ua (xM.tr xM.rf xLe.rf hg277 (by decide)) hg407 hs_b405 (by decide) (by decide)) hg410 hs_b408 (by decide) (by decide)) hg413 hs_wf (by decide) (by decide)) hg416 hs_wu (by decide) (by decide)) (z276 + 1) (by omega) (by omega) (fun k q1 q2 => by rcases (show k < z276 ∨ k = z276 by omega) with c9 | c9 <;> first | (rw [c9]; exact ((show xv g416 wf ((16 * n8) + z276) = z411 from by rw [(xv_a hg416 (xne hs_wf hs_wu (by decide))), xv_s hg413 (by omega)])).trans (hc412.symm.trans (v316 (160 + z276) (by omega) (Or.inr (by omega))))) | exact ((show xv g416 wf (16 * n8 + k) = xv g277 wf (16 * n8 + k) from by rw [(xv_a hg416 (xne hs_wf hs_wu (by decide))), (xv_k (i := (16 * n8 + k)) hg413 (by omega) (by omega) (by omega)), (xv_a hg410 (xne hs_wf hs_b408 (by decide))), (xv_a hg407 (xne hs_wf hs_b405 (by decide)))])).trans (v315 k q1 c9)) (fun i q1 q2 => ((show xv g416 wf i = xv g277 wf i from by rw [(xv_a hg416 (xne hs_wf hs_wu (by decide))), (xv_k (i := i) hg413 (by omega) (by omega) (by omega)), (xv_a hg410 (xne hs_wf hs_b408 (by decide))), (xv_a hg407 (xne hs_wf hs_b405 (by decide)))])).trans (v316 i q1 q2)) (fun k q1 q2 => by rcases (show k < z276 ∨ k = z276 by omega) with c9 | c9 <;> first | (rw [c9]; exact ((show xv g416 wu ((16 * n8) + z276) = z414 from by rw [xv_s hg416 (by omega)])).trans (hc415.symm.trans (v318 (160 + z276) (by omega) (Or.inr (by omega))))) | exact ((show xv g416 wu (16 * n8 + k) = xv g277 wu (16 * n8 + k) from by rw [(xv_k (i := (16 * n8 + k)) hg416 (by omega) (by omega) (by omega)), (xv_a hg413 (xne hs_wu hs_wf (by decide))), (xv_a hg410 (xne hs_wu hs_b408 (by decide))), (xv_a hg407 (xne hs_wu hs_b405 (by decide)))])).trans (v317 k q1 c9)) (fun i q1 q2 => ((show xv g416 wu i = xv g277 wu i from by rw [(xv_k (i := i) hg416 (by omega) (by omega) (by omega)), (xv_a hg413 (xne hs_wu hs_wf (by decide))), (xv_a hg410 (xne hs_wu hs_b408 (by decide))), (xv_a hg407 (xne hs_wu hs_b405 (by decide)))])).trans (v318 i q1 q2)) (by omega)
        exact P314 ((32 - 0 : Int).toNat + 1) g27 xM.rf 0 (by omega) (by omega) (fun k q1 q2 => by omega) (fun i q1 q2 => rfl) (fun k q1 q2 => by omega) (fun i q1 q2 => rfl) (by omega)
      · refine X_iconst hK kd46_68.2.2.2.2.2.2.2.2.2.1 ?_
        refine X_aloadn hK (i := 0) 1 kd46_68.2.2.2.2.2.2.2.2.2.2.1 rfl rfl ?_
        refine X_geti hK fl_X12_294_13 hs_a0 sl_13_26 kd46_68.2.2.2.2.2.2.2.2.2.2.2 (fun z417 ez417 lz417 uz417 => ?_)
        refine X_isub hK kd46_69.1 ?_
        exact hret _ _ _ _ _ _ _ kd46_69.2.1 ⟨rfl, ((-1) - z417), rfl, (by omega), (by omega), (((hg17 a0 13 0 2 hs_a0 (by decide)).trans k7).trans (by congr 2 <;> omega)), ⟨wo, wf, wu, wp, n8, hs_a0, ((hg17 a0 13 0 29 hs_a0 (by decide)).trans ((hg3 a0 13 0 29 hs_a0 (by decide)).trans ((xs_k hg1 (by decide)).trans hpi2))), hs_wo, ((hg17 a0 13 0 33 hs_a0 (by decide)).trans ((hg3 a0 13 0 33 hs_a0 (by decide)).trans ((xs_k hg1 (by decide)).trans hpi4))), hs_wf, ((hg17 a0 13 0 34 hs_a0 (by decide)).trans ((hg3 a0 13 0 34 hs_a0 (by decide)).trans ((xs_k hg1 (by decide)).trans hpi6))), hs_wu, ((hg17 a0 13 0 35 hs_a0 (by decide)).trans ((hg3 a0 13 0 35 hs_a0 (by decide)).trans ((xs_k hg1 (by decide)).trans hpi8))), hs_wp, ((hg17 a0 13 0 39 hs_a0 (by decide)).trans ((hg3 a0 13 0 39 hs_a0 (by decide)).trans ((xs_k hg1 (by decide)).trans hpi10))), by omega, by omega, ta23⟩⟩ (Nat.le_refl _) (Nat.le_refl _)
    · refine X_sipush hK kd46_68.2.2.2.1 (by decide) ?_
      exact hret _ _ _ _ _ _ _ kd46_68.2.2.2.2.1 ⟨rfl, (-1000), rfl, (by omega), (by omega), (k7.trans (by congr 2 <;> omega)), ⟨wo, wf, wu, wp, n8, hs_a0, ((hg3 a0 13 0 29 hs_a0 (by decide)).trans ((xs_k hg1 (by decide)).trans hpi2)), hs_wo, ((hg3 a0 13 0 33 hs_a0 (by decide)).trans ((xs_k hg1 (by decide)).trans hpi4)), hs_wf, ((hg3 a0 13 0 34 hs_a0 (by decide)).trans ((xs_k hg1 (by decide)).trans hpi6)), hs_wu, ((hg3 a0 13 0 35 hs_a0 (by decide)).trans ((xs_k hg1 (by decide)).trans hpi8)), hs_wp, ((hg3 a0 13 0 39 hs_a0 (by decide)).trans ((xs_k hg1 (by decide)).trans hpi10)), by omega, by omega, (by rw [(Eq.trans (xv_m hg3 hs_wo (by decide) (by decide)) (xv_a hg1 (xne hs_wo hs_a0 (by decide)))), (Eq.trans (xv_m hg3 hs_wf (by decide) (by decide)) (xv_a hg1 (xne hs_wf hs_a0 (by decide)))), (Eq.trans (xv_m hg3 hs_wu (by decide) (by decide)) (xv_a hg1 (xne hs_wu hs_a0 (by decide)))), (Eq.trans (xv_m hg3 hs_wp (by decide) (by decide)) (xv_a hg1 (xne hs_wp hs_a0 (by decide))))]; exact hta)⟩⟩ (Nat.le_refl _) (Nat.le_refl _)

set_option maxHeartbeats 4000000 in
set_option maxRecDepth 100000 in
theorem c_X12_holds (l : Launch) (D : va_G) (kA : Nat → ClassId) (b0 : Nat) (t0 : Nat → Nat) (S : xT) (g : xG) (a0 : Nat) (x1 : Int) (x2 : Int) (x3 : Int) (wp : Nat) (hs_a0 : S a0 = some (13, 0)) (hx1 : 0 ≤ x1 ∧ x1 ≤ 10) (hx2 : 0 ≤ x2 ∧ x2 ≤ 120) (hx3 : 0 ≤ x3 ∧ x3 ≤ 120) (ewp : g a0 35 = .ref wp) (hs_wp : S wp = some (15900, 1320)) (hp0 : x2 ≤ x3) (hp1 : xhf (xv g wp) (120 * x1 + x2) (x3 - x2).toNat ≠ none) : xMt l yX12_holds cX12_holds 10 (some .boolean) 0 0 0 0 D kA b0 t0 [(19401, 0)] [.ref a0, .int (iI x1), .int (iI x2), .int (iI x3)] S g (fun (r : Option Value) (S1 : xT) (g1 : xG) => S = S1 ∧ ∃ z : Int, r = some (.int (iI z)) ∧ 0 ≤ z ∧ z ≤ 1) := by
  refine xEnterZ (by decide) (by simp [lg_sl, Value.category]) [(0, .ref a0), (1, .int (iI x1)), (2, .int (iI x2)), (3, .int (iI x3))] rfl ?_
  intro K E hK hret _ _ _
  refine X_iconst hK kd46_34.2.2.1 ?_
  refine X_istore hK (i := 4) [(4, .int (iI 0)), (0, .ref a0), (1, .int (iI x1)), (2, .int (iI x2)), (3, .int (iI x3))] kd46_34.2.2.2.1 (by decide) rfl ?_
  refine X_iloadn hK (i := 2) 3 kd46_34.2.2.2.2.1 rfl rfl ?_
  refine X_istore hK (i := 5) [(5, .int (iI x2)), (4, .int (iI 0)), (0, .ref a0), (1, .int (iI x1)), (2, .int (iI x2)), (3, .int (iI x3))] kd46_34.2.2.2.2.2.1 (by decide) rfl ?_
  have P305 : ∀ (nP305 : Nat) (g246 : xG) (_ : xM [(19401, 0)] S g g246) (z244 : Int) (_ : 0 ≤ z244) (_ : z244 ≤ 120) (z245 : Int) (_ : 0 ≤ z245) (_ : z245 ≤ 60) (_ : x2 ≤ z244) (_ : z244 ≤ x3) (_ : xhf (xv g wp) (120 * x1 + x2) (z244 - x2).toNat = some (z245 : Int).toNat) (_ : 136 - z244 < (nP305 : Int)), X K E 6 [(5, .int (iI z244)), (4, .int (iI z245)), (0, .ref a0), (1, .int (iI x1)), (2, .int (iI x2)), (3, .int (iI x3))] [] S g246 0 0 := by
    intro nP305
    induction nP305 with
    | zero => intro g246 hg246 z244 lz244 uz244 z245 lz245 uz245 v306 v307 v308 mP305; exact False.elim (by omega)
    | succ nP305 ihP305 =>
      intro g246 hg246 z244 lz244 uz244 z245 lz245 uz245 v306 v307 v308 mP305
      refine X_iload hK (i := 5) 0 kd46_34.2.2.2.2.2.2.1 rfl ?_
      refine X_iloadn hK (i := 3) 5 kd46_34.2.2.2.2.2.2.2.1 rfl rfl ?_
      refine X_icmp_ge hK 284 (by omega) (by omega) kd46_34.2.2.2.2.2.2.2.2.1 (by decide) (fun c309 => ?_) (fun c309 => ?_)
      · refine X_iload hK (i := 4) 1 kd46_46.2.2.2.2.2.2.1 rfl ?_
        refine X_if_eq hK 298 (by omega) kd46_46.2.2.2.2.2.2.2.1 (by decide) (fun c310 => ?_) (fun c310 => ?_)
        · refine X_iconst hK kd46_47.2.1 ?_
          refine X_goto hK 303 kd46_47.2.2.1 (by decide) ?_
          exact hret _ _ _ _ _ _ _ kd46_47.2.2.2.2.1 (by omega) (by omega) ⟨rfl, 1, rfl, (by omega), (by omega)⟩ (Nat.le_refl _) (Nat.le_refl _)
        · refine X_aloadn hK (i := 0) 2 kd46_46.2.2.2.2.2.2.2.2.1 rfl rfl ?_
          refine X_getr hK 19401 64 fl_X12_83_13 hs_a0 sl_13_46 kd46_46.2.2.2.2.2.2.2.2.2.1 (fun b311 eb311 hs_b311 => ?_)
          refine X_iconst hK kd46_46.2.2.2.2.2.2.2.2.2.2.1 ?_
          refine X_zald hK hs_b311 (by decide) sl_19401 (by omega) (by omega) kd46_46.2.2.2.2.2.2.2.2.2.2.2 (fun z312 ez312 lz312 uz312 => ?_)
          refine X_if_eq hK 302 (by omega) kd46_47.1 (by decide) (fun c313 => ?_) (fun c313 => ?_)
          · refine X_iconst hK kd46_47.2.2.2.1 ?_
            exact hret _ _ _ _ _ _ _ kd46_47.2.2.2.2.1 (by omega) (by omega) ⟨rfl, 0, rfl, (by omega), (by omega)⟩ (Nat.le_refl _) (Nat.le_refl _)
          · refine X_iconst hK kd46_47.2.1 ?_
            refine X_goto hK 303 kd46_47.2.2.1 (by decide) ?_
            exact hret _ _ _ _ _ _ _ kd46_47.2.2.2.2.1 (by omega) (by omega) ⟨rfl, 1, rfl, (by omega), (by omega)⟩ (Nat.le_refl _) (Nat.le_refl _)
      · refine X_bipush hK kd46_34.2.2.2.2.2.2.2.2.2.1 (by decide) ?_
        refine X_iloadn hK (i := 1) 3 kd46_34.2.2.2.2.2.2.2.2.2.2.1 rfl rfl ?_
        refine X_imul hK kd46_34.2.2.2.2.2.2.2.2.2.2.2 ?_
        refine X_iload hK (i := 5) 0 kd46_35.1 rfl ?_
        refine X_iadd hK kd46_35.2.1 ?_
        refine X_istore hK (i := 6) [(6, .int (iI ((120 * x1) + z244))), (5, .int (iI z244)), (4, .int (iI z245)), (0, .ref a0), (1, .int (iI x1)), (2, .int (iI x2)), (3, .int (iI x3))] kd46_35.2.2.1 (by decide) rfl ?_
        refine X_aloadn hK (i := 0) 3 kd46_35.2.2.2.1 rfl rfl ?_
        refine X_getK hK fl_X12_68_13 hs_a0 ((hg246 a0 13 0 35 hs_a0 (by decide)).trans ewp) kd46_35.2.2.2.2.1 ?_
        refine X_iload hK (i := 6) 0 kd46_35.2.2.2.2.2.1 rfl ?_
        refine X_iald hK hs_wp (by decide) sl_15900 (by omega) (by omega) kd46_35.2.2.2.2.2.2.1 (fun z314 ez314 lz314 uz314 => ?_)
        have vhx315 : xv g wp (120 * x1 + z244) = z314 := (by have h9 := (xv_e (j := ((120 * x1) + z244)) ez314 (by omega)); rw [(xv_m hg246 hs_wp (by decide) (by decide))] at h9; exact h9)
        have hx315 := xhf_step v308 (xhf_pre hp1 (show (z244 - x2).toNat + 1 ≤ (x3 - x2).toNat by omega))
        rw [show 120 * x1 + x2 + (((z244 - x2).toNat : Nat) : Int) = 120 * x1 + z244 by omega, vhx315, show (z244 - x2).toNat + 1 = (z244 + 1 - x2).toNat by omega] at hx315
        refine X_istore hK (i := 7) [(7, .int (iI z314)), (6, .int (iI ((120 * x1) + z244))), (5, .int (iI z244)), (4, .int (iI z245)), (0, .ref a0), (1, .int (iI x1)), (2, .int (iI x2)), (3, .int (iI x3))] kd46_35.2.2.2.2.2.2.2.1 (by decide) rfl ?_
        refine X_iload hK (i := 7) 0 kd46_35.2.2.2.2.2.2.2.2.1 rfl ?_
        refine X_bipush hK kd46_35.2.2.2.2.2.2.2.2.2.1 (by decide) ?_
        refine X_icmp_ne hK 66 (by omega) (by omega) kd46_35.2.2.2.2.2.2.2.2.2.2.1 (by decide) (fun c316 => ?_) (fun c316 => ?_)
        · refine X_iload hK (i := 7) 0 kd46_37.2.2.2.2.1 rfl ?_
          refine X_bipush hK kd46_37.2.2.2.2.2.1 (by decide) ?_
          refine X_icmp_eq hK 80 (by omega) (by omega) kd46_37.2.2.2.2.2.2.1 (by decide) (fun c317 => ?_) (fun c317 => ?_)
          · refine X_iinc hK (i := 4) (z := z245) (n := (-1)) 3 [(4, .int (iI (z245 + (-1)))), (7, .int (iI z314)), (6, .int (iI ((120 * x1) + z244))), (5, .int (iI z244)), (0, .ref a0), (1, .int (iI x1)), (2, .int (iI x2)), (3, .int (iI x3))] kd46_37.2.2.2.2.2.2.2.2.2.2.1 rfl (by decide) rfl ?_
            refine X_aloadn hK (i := 0) 4 kd46_37.2.2.2.2.2.2.2.2.2.2.2 rfl rfl ?_
            refine X_getr hK 19401 64 fl_X12_83_13 hs_a0 sl_13_46 kd46_38.1 (fun b318 eb318 hs_b318 => ?_)
            refine X_iload hK (i := 4) 0 kd46_38.2.1 rfl ?_
            refine X_iconst hK kd46_38.2.2.1 ?_
            refine X_isub hK kd46_38.2.2.2.1 ?_
            refine X_iload hK (i := 7) 1 kd46_38.2.2.2.2.1 rfl ?_
            refine X_bipush hK kd46_38.2.2.2.2.2.1 (by decide) ?_
            refine X_icmp_ne hK 128 (by omega) (by omega) kd46_38.2.2.2.2.2.2.1 (by decide) (fun c319 => False.elim (by omega)) (fun c319 => ?_)
            refine X_aloadn hK (i := 0) 4 kd46_38.2.2.2.2.2.2.2.1 rfl rfl ?_
            refine X_getK hK fl_X12_83_13 hs_a0 eb318 kd46_38.2.2.2.2.2.2.2.2.1 ?_
            refine X_iload hK (i := 4) 0 kd46_38.2.2.2.2.2.2.2.2.2.1 rfl ?_
            refine X_iconst hK kd46_38.2.2.2.2.2.2.2.2.2.2.1 ?_
            refine X_isub hK kd46_38.2.2.2.2.2.2.2.2.2.2.2 ?_
            refine X_zald hK hs_b318 (by decide) sl_19401 (by omega) (by omega) kd46_39.1 (fun z320 ez320 lz320 uz320 => ?_)
            refine X_if_eq hK 124 (by omega) kd46_39.2.1 (by decide) (fun c321 => ?_) (fun c321 => ?_)
            · refine X_iconst hK kd46_39.2.2.2.2.2.2.2.2.2.1 ?_
              refine X_goto hK 155 kd46_39.2.2.2.2.2.2.2.2.2.2.1 (by decide) ?_
              refine X_zast hK hs_b318 (by decide) (by decide) sl_19401 (by omega) (by omega) (by omega) (by omega) kd46_41.2.2.1 (fun g322 hg322 => ?_)
              refine X_goto hK 278 kd46_41.2.2.2.1 (by decide) ?_
              refine X_iinc hK (i := 5) (z := z244) (n := 1) 3 [(5, .int (iI (z244 + 1))), (4, .int (iI (z245 + (-1)))), (7, .int (iI z314)), (6, .int (iI ((120 * x1) + z244))), (0, .ref a0), (1, .int (iI x1)), (2, .int (iI x2)), (3, .int (iI x3))] kd46_46.2.2.2.2.1 rfl (by decide) rfl ?_
              refine X_goto hK 6 kd46_46.2.2.2.2.2.1 (by decide) ?_
              refine X_lv [(5, .int (iI (z244 + 1))), (4, .int (iI (z245 + (-1)))), (0, .ref a0), (1, .int (iI x1)), (2, .int (iI x2)), (3, .int (iI x3))] [0, 1, 4, 5, 6, 7] rfl ?_
              exact ihP305  g322 (xM_ua (xM.tr xM.rf xLe.rf hg246 (by decide)) hg322 hs_b318 (by decide) (by decide)) (z244 + 1) (by omega) (by omega) (z245 + (-1)) (by omega) (by omega) (by omega) (by omega) (by rcases hx315 with ⟨a9, b9, c9⟩ | ⟨a9, b9, c9⟩ | ⟨a9, b9, c9⟩ <;> first | (exfalso; omega) | exact c9 | (rw [c9]; exact congrArg some (by omega))) (by omega)
            · refine X_aloadn hK (i := 0) 4 kd46_39.2.2.1 rfl rfl ?_
              refine X_getK hK fl_X12_83_13 hs_a0 eb318 kd46_39.2.2.2.1 ?_
              refine X_iload hK (i := 4) 0 kd46_39.2.2.2.2.1 rfl ?_
              refine X_zald hK hs_b318 (by decide) sl_19401 (by omega) (by omega) kd46_39.2.2.2.2.2.1 (fun z323 ez323 lz323 uz323 => ?_)
              refine X_if_eq hK 124 (by omega) kd46_39.2.2.2.2.2.2.1 (by decide) (fun c324 => ?_) (fun c324 => ?_)
              · refine X_iconst hK kd46_39.2.2.2.2.2.2.2.2.2.1 ?_
                refine X_goto hK 155 kd46_39.2.2.2.2.2.2.2.2.2.2.1 (by decide) ?_
                refine X_zast hK hs_b318 (by decide) (by decide) sl_19401 (by omega) (by omega) (by omega) (by omega) kd46_41.2.2.1 (fun g325 hg325 => ?_)
                refine X_goto hK 278 kd46_41.2.2.2.1 (by decide) ?_
                refine X_iinc hK (i := 5) (z := z244) (n := 1) 3 [(5, .int (iI (z244 + 1))), (4, .int (iI (z245 + (-1)))), (7, .int (iI z314)), (6, .int (iI ((120 * x1) + z244))), (0, .ref a0), (1, .int (iI x1)), (2, .int (iI x2)), (3, .int (iI x3))] kd46_46.2.2.2.2.1 rfl (by decide) rfl ?_
                refine X_goto hK 6 kd46_46.2.2.2.2.2.1 (by decide) ?_
                refine X_lv [(5, .int (iI (z244 + 1))), (4, .int (iI (z245 + (-1)))), (0, .ref a0), (1, .int (iI x1)), (2, .int (iI x2)), (3, .int (iI x3))] [0, 1, 4, 5, 6, 7] rfl ?_
                exact ihP305  g325 (xM_ua (xM.tr xM.rf xLe.rf hg246 (by decide)) hg325 hs_b318 (by decide) (by decide)) (z244 + 1) (by omega) (by omega) (z245 + (-1)) (by omega) (by omega) (by omega) (by omega) (by rcases hx315 with ⟨a9, b9, c9⟩ | ⟨a9, b9, c9⟩ | ⟨a9, b9, c9⟩ <;> first | (exfalso; omega) | exact c9 | (rw [c9]; exact congrArg some (by omega))) (by omega)
              · refine X_iconst hK kd46_39.2.2.2.2.2.2.2.1 ?_
                refine X_goto hK 155 kd46_39.2.2.2.2.2.2.2.2.1 (by decide) ?_
                refine X_zast hK hs_b318 (by decide) (by decide) sl_19401 (by omega) (by omega) (by omega) (by omega) kd46_41.2.2.1 (fun g326 hg326 => ?_)
                refine X_goto hK 278 kd46_41.2.2.2.1 (by decide) ?_
                refine X_iinc hK (i := 5) (z := z244) (n := 1) 3 [(5, .int (iI (z244 + 1))), (4, .int (iI (z245 + (-1)))), (7, .int (iI z314)), (6, .int (iI ((120 * x1) + z244))), (0, .ref a0), (1, .int (iI x1)), (2, .int (iI x2)), (3, .int (iI x3))] kd46_46.2.2.2.2.1 rfl (by decide) rfl ?_
                refine X_goto hK 6 kd46_46.2.2.2.2.2.1 (by decide) ?_
                refine X_lv [(5, .int (iI (z244 + 1))), (4, .int (iI (z245 + (-1)))), (0, .ref a0), (1, .int (iI x1)), (2, .int (iI x2)), (3, .int (iI x3))] [0, 1, 4, 5, 6, 7] rfl ?_
                exact ihP305  g326 (xM_ua (xM.tr xM.rf xLe.rf hg246 (by decide)) hg326 hs_b318 (by decide) (by decide)) (z244 + 1) (by omega) (by omega) (z245 + (-1)) (by omega) (by omega) (by omega) (by omega) (by rcases hx315 with ⟨a9, b9, c9⟩ | ⟨a9, b9, c9⟩ | ⟨a9, b9, c9⟩ <;> first | (exfalso; omega) | exact c9 | (rw [c9]; exact congrArg some (by omega))) (by omega)
          · refine X_iload hK (i := 7) 0 kd46_37.2.2.2.2.2.2.2.1 rfl ?_
            refine X_bipush hK kd46_37.2.2.2.2.2.2.2.2.1 (by decide) ?_
            refine X_icmp_ne hK 159 (by omega) (by omega) kd46_37.2.2.2.2.2.2.2.2.2.1 (by decide) (fun c327 => ?_) (fun c327 => ?_)
            · refine X_aloadn hK (i := 0) 4 kd46_41.2.2.2.2.1 rfl rfl ?_
              refine X_getr hK 16300 12 fl_X12_80_13 hs_a0 sl_13_45 kd46_41.2.2.2.2.2.1 (fun b328 eb328 hs_b328 => ?_)
              refine X_iload hK (i := 7) 0 kd46_41.2.2.2.2.2.2.1 rfl ?_
              refine X_iald hK hs_b328 (by decide) sl_16300 (by omega) (by omega) kd46_41.2.2.2.2.2.2.2.1 (fun z329 ez329 lz329 uz329 => ?_)
              refine X_istore hK (i := 8) [(8, .int (iI z329)), (7, .int (iI z314)), (6, .int (iI ((120 * x1) + z244))), (5, .int (iI z244)), (4, .int (iI z245)), (0, .ref a0), (1, .int (iI x1)), (2, .int (iI x2)), (3, .int (iI x3))] kd46_41.2.2.2.2.2.2.2.2.1 (by decide) rfl ?_
              refine X_aloadn hK (i := 0) 5 kd46_41.2.2.2.2.2.2.2.2.2.1 rfl rfl ?_
              refine X_getr hK 16000 1320 fl_X12_71_13 hs_a0 sl_13_36 kd46_41.2.2.2.2.2.2.2.2.2.2.1 (fun b330 eb330 hs_b330 => ?_)
              refine X_iload hK (i := 6) 2 kd46_41.2.2.2.2.2.2.2.2.2.2.2 rfl ?_
              refine X_iald hK hs_b330 (by decide) sl_16000 (by omega) (by omega) kd46_42.1 (fun z331 ez331 lz331 uz331 => ?_)
              refine X_istore hK (i := 9) [(9, .int (iI z331)), (8, .int (iI z329)), (7, .int (iI z314)), (6, .int (iI ((120 * x1) + z244))), (5, .int (iI z244)), (4, .int (iI z245)), (0, .ref a0), (1, .int (iI x1)), (2, .int (iI x2)), (3, .int (iI x3))] kd46_42.2.1 (by decide) rfl ?_
              refine X_aloadn hK (i := 0) 6 kd46_42.2.2.1 rfl rfl ?_
              refine X_getr hK 19401 64 fl_X12_83_13 hs_a0 sl_13_46 kd46_42.2.2.2.1 (fun b332 eb332 hs_b332 => ?_)
              refine X_iload hK (i := 4) 5 kd46_42.2.2.2.2.1 rfl ?_
              refine X_iload hK (i := 7) 2 kd46_42.2.2.2.2.2.1 rfl ?_
              refine X_iconst hK kd46_42.2.2.2.2.2.2.1 ?_
              refine X_icmp_ge hK 203 (by omega) (by omega) kd46_42.2.2.2.2.2.2.2.1 (by decide) (fun c333 => ?_) (fun c333 => ?_)
              · refine X_iload hK (i := 9) 0 kd46_43.2.2.2.1 rfl ?_
                refine X_bipush hK kd46_43.2.2.2.2.1 (by decide) ?_
                refine X_icmp_ne hK 230 (by omega) (by omega) kd46_43.2.2.2.2.2.1 (by decide) (fun c334 => ?_) (fun c334 => ?_)
                · refine X_iload hK (i := 9) 0 kd46_44.2.2.2.2.1 rfl ?_
                  refine X_bipush hK kd46_44.2.2.2.2.2.1 (by decide) ?_
                  refine X_icmp_ne hK 257 (by omega) (by omega) kd46_44.2.2.2.2.2.2.1 (by decide) (fun c335 => ?_) (fun c335 => ?_)
                  · refine X_iload hK (i := 8) 1 kd46_45.2.2.2.2.2.1 rfl ?_
                    refine X_aloadn hK (i := 0) 6 kd46_45.2.2.2.2.2.2.1 rfl rfl ?_
                    refine X_getr hK 16100 1320 fl_X12_74_13 hs_a0 sl_13_37 kd46_45.2.2.2.2.2.2.2.1 (fun b336 eb336 hs_b336 => ?_)
                    refine X_iload hK (i := 6) 3 kd46_45.2.2.2.2.2.2.2.2.1 rfl ?_
                    refine X_iald hK hs_b336 (by decide) sl_16100 (by omega) (by omega) kd46_45.2.2.2.2.2.2.2.2.2.1 (fun z337 ez337 lz337 uz337 => ?_)
                    refine X_icmp_le hK 273 (by omega) (by omega) kd46_45.2.2.2.2.2.2.2.2.2.2.1 (by decide) (fun c338 => ?_) (fun c338 => ?_)
                    · refine X_iconst hK kd46_46.2.1 ?_
                      refine X_zast hK hs_b332 (by decide) (by decide) sl_19401 (by omega) (by omega) (by omega) (by omega) kd46_46.2.2.1 (fun g339 hg339 => ?_)
                      refine X_iinc hK (i := 4) (z := z245) (n := 1) 5 [(4, .int (iI (z245 + 1))), (9, .int (iI z331)), (8, .int (iI z329)), (7, .int (iI z314)), (6, .int (iI ((120 * x1) + z244))), (5, .int (iI z244)), (0, .ref a0), (1, .int (iI x1)), (2, .int (iI x2)), (3, .int (iI x3))] kd46_46.2.2.2.1 rfl (by decide) rfl ?_
                      refine X_iinc hK (i := 5) (z := z244) (n := 1) 5 [(5, .int (iI (z244 + 1))), (4, .int (iI (z245 + 1))), (9, .int (iI z331)), (8, .int (iI z329)), (7, .int (iI z314)), (6, .int (iI ((120 * x1) + z244))), (0, .ref a0), (1, .int (iI x1)), (2, .int (iI x2)), (3, .int (iI x3))] kd46_46.2.2.2.2.1 rfl (by decide) rfl ?_
                      refine X_goto hK 6 kd46_46.2.2.2.2.2.1 (by decide) ?_
                      refine X_lv [(5, .int (iI (z244 + 1))), (4, .int (iI (z245 + 1))), (0, .ref a0), (1, .int (iI x1)), (2, .int (iI x2)), (3, .int (iI x3))] [0, 1, 6, 7, 8, 9] rfl ?_
                      exact ihP305  g339 (xM_ua (xM.tr xM.rf xLe.rf hg246 (by decide)) hg339 hs_b332 (by decide) (by decide)) (z244 + 1) (by omega) (by omega) (z245 + 1) (by omega) (by omega) (by omega) (by omega) (by rcases hx315 with ⟨a9, b9, c9⟩ | ⟨a9, b9, c9⟩ | ⟨a9, b9, c9⟩ <;> first | (exfalso; omega) | exact c9 | (rw [c9]; exact congrArg some (by omega))) (by omega)
                    · refine X_iconst hK kd46_45.2.2.2.2.2.2.2.2.2.2.2 ?_
                      refine X_goto hK 274 kd46_46.1 (by decide) ?_
                      refine X_zast hK hs_b332 (by decide) (by decide) sl_19401 (by omega) (by omega) (by omega) (by omega) kd46_46.2.2.1 (fun g340 hg340 => ?_)
                      refine X_iinc hK (i := 4) (z := z245) (n := 1) 5 [(4, .int (iI (z245 + 1))), (9, .int (iI z331)), (8, .int (iI z329)), (7, .int (iI z314)), (6, .int (iI ((120 * x1) + z244))), (5, .int (iI z244)), (0, .ref a0), (1, .int (iI x1)), (2, .int (iI x2)), (3, .int (iI x3))] kd46_46.2.2.2.1 rfl (by decide) rfl ?_
                      refine X_iinc hK (i := 5) (z := z244) (n := 1) 5 [(5, .int (iI (z244 + 1))), (4, .int (iI (z245 + 1))), (9, .int (iI z331)), (8, .int (iI z329)), (7, .int (iI z314)), (6, .int (iI ((120 * x1) + z244))), (0, .ref a0), (1, .int (iI x1)), (2, .int (iI x2)), (3, .int (iI x3))] kd46_46.2.2.2.2.1 rfl (by decide) rfl ?_
                      refine X_goto hK 6 kd46_46.2.2.2.2.2.1 (by decide) ?_
                      refine X_lv [(5, .int (iI (z244 + 1))), (4, .int (iI (z245 + 1))), (0, .ref a0), (1, .int (iI x1)), (2, .int (iI x2)), (3, .int (iI x3))] [0, 1, 6, 7, 8, 9] rfl ?_
                      exact ihP305  g340 (xM_ua (xM.tr xM.rf xLe.rf hg246 (by decide)) hg340 hs_b332 (by decide) (by decide)) (z244 + 1) (by omega) (by omega) (z245 + 1) (by omega) (by omega) (by omega) (by omega) (by rcases hx315 with ⟨a9, b9, c9⟩ | ⟨a9, b9, c9⟩ | ⟨a9, b9, c9⟩ <;> first | (exfalso; omega) | exact c9 | (rw [c9]; exact congrArg some (by omega))) (by omega)
                  · refine X_iload hK (i := 8) 1 kd46_44.2.2.2.2.2.2.2.1 rfl ?_
                    refine X_aloadn hK (i := 0) 6 kd46_44.2.2.2.2.2.2.2.2.1 rfl rfl ?_
                    refine X_getr hK 16100 1320 fl_X12_74_13 hs_a0 sl_13_37 kd46_44.2.2.2.2.2.2.2.2.2.1 (fun b341 eb341 hs_b341 => ?_)
                    refine X_iload hK (i := 6) 3 kd46_44.2.2.2.2.2.2.2.2.2.2.1 rfl ?_
                    refine X_iald hK hs_b341 (by decide) sl_16100 (by omega) (by omega) kd46_44.2.2.2.2.2.2.2.2.2.2.2 (fun z342 ez342 lz342 uz342 => ?_)
                    refine X_icmp_ne hK 253 (by omega) (by omega) kd46_45.1 (by decide) (fun c343 => ?_) (fun c343 => ?_)
                    · refine X_iconst hK kd46_45.2.2.2.1 ?_
                      refine X_goto hK 274 kd46_45.2.2.2.2.1 (by decide) ?_
                      refine X_zast hK hs_b332 (by decide) (by decide) sl_19401 (by omega) (by omega) (by omega) (by omega) kd46_46.2.2.1 (fun g344 hg344 => ?_)
                      refine X_iinc hK (i := 4) (z := z245) (n := 1) 5 [(4, .int (iI (z245 + 1))), (9, .int (iI z331)), (8, .int (iI z329)), (7, .int (iI z314)), (6, .int (iI ((120 * x1) + z244))), (5, .int (iI z244)), (0, .ref a0), (1, .int (iI x1)), (2, .int (iI x2)), (3, .int (iI x3))] kd46_46.2.2.2.1 rfl (by decide) rfl ?_
                      refine X_iinc hK (i := 5) (z := z244) (n := 1) 5 [(5, .int (iI (z244 + 1))), (4, .int (iI (z245 + 1))), (9, .int (iI z331)), (8, .int (iI z329)), (7, .int (iI z314)), (6, .int (iI ((120 * x1) + z244))), (0, .ref a0), (1, .int (iI x1)), (2, .int (iI x2)), (3, .int (iI x3))] kd46_46.2.2.2.2.1 rfl (by decide) rfl ?_
                      refine X_goto hK 6 kd46_46.2.2.2.2.2.1 (by decide) ?_
                      refine X_lv [(5, .int (iI (z244 + 1))), (4, .int (iI (z245 + 1))), (0, .ref a0), (1, .int (iI x1)), (2, .int (iI x2)), (3, .int (iI x3))] [0, 1, 6, 7, 8, 9] rfl ?_
                      exact ihP305  g344 (xM_ua (xM.tr xM.rf xLe.rf hg246 (by decide)) hg344 hs_b332 (by decide) (by decide)) (z244 + 1) (by omega) (by omega) (z245 + 1) (by omega) (by omega) (by omega) (by omega) (by rcases hx315 with ⟨a9, b9, c9⟩ | ⟨a9, b9, c9⟩ | ⟨a9, b9, c9⟩ <;> first | (exfalso; omega) | exact c9 | (rw [c9]; exact congrArg some (by omega))) (by omega)
                    · refine X_iconst hK kd46_45.2.1 ?_
                      refine X_goto hK 274 kd46_45.2.2.1 (by decide) ?_
                      refine X_zast hK hs_b332 (by decide) (by decide) sl_19401 (by omega) (by omega) (by omega) (by omega) kd46_46.2.2.1 (fun g345 hg345 => ?_)
                      refine X_iinc hK (i := 4) (z := z245) (n := 1) 5 [(4, .int (iI (z245 + 1))), (9, .int (iI z331)), (8, .int (iI z329)), (7, .int (iI z314)), (6, .int (iI ((120 * x1) + z244))), (5, .int (iI z244)), (0, .ref a0), (1, .int (iI x1)), (2, .int (iI x2)), (3, .int (iI x3))] kd46_46.2.2.2.1 rfl (by decide) rfl ?_
                      refine X_iinc hK (i := 5) (z := z244) (n := 1) 5 [(5, .int (iI (z244 + 1))), (4, .int (iI (z245 + 1))), (9, .int (iI z331)), (8, .int (iI z329)), (7, .int (iI z314)), (6, .int (iI ((120 * x1) + z244))), (0, .ref a0), (1, .int (iI x1)), (2, .int (iI x2)), (3, .int (iI x3))] kd46_46.2.2.2.2.1 rfl (by decide) rfl ?_
                      refine X_goto hK 6 kd46_46.2.2.2.2.2.1 (by decide) ?_
                      refine X_lv [(5, .int (iI (z244 + 1))), (4, .int (iI (z245 + 1))), (0, .ref a0), (1, .int (iI x1)), (2, .int (iI x2)), (3, .int (iI x3))] [0, 1, 6, 7, 8, 9] rfl ?_
                      exact ihP305  g345 (xM_ua (xM.tr xM.rf xLe.rf hg246 (by decide)) hg345 hs_b332 (by decide) (by decide)) (z244 + 1) (by omega) (by omega) (z245 + 1) (by omega) (by omega) (by omega) (by omega) (by rcases hx315 with ⟨a9, b9, c9⟩ | ⟨a9, b9, c9⟩ | ⟨a9, b9, c9⟩ <;> first | (exfalso; omega) | exact c9 | (rw [c9]; exact congrArg some (by omega))) (by omega)
                · refine X_iload hK (i := 8) 1 kd46_43.2.2.2.2.2.2.1 rfl ?_
                  refine X_aloadn hK (i := 0) 6 kd46_43.2.2.2.2.2.2.2.1 rfl rfl ?_
                  refine X_getr hK 16100 1320 fl_X12_74_13 hs_a0 sl_13_37 kd46_43.2.2.2.2.2.2.2.2.1 (fun b346 eb346 hs_b346 => ?_)
                  refine X_iload hK (i := 6) 3 kd46_43.2.2.2.2.2.2.2.2.2.1 rfl ?_
                  refine X_iald hK hs_b346 (by decide) sl_16100 (by omega) (by omega) kd46_43.2.2.2.2.2.2.2.2.2.2.1 (fun z347 ez347 lz347 uz347 => ?_)
                  refine X_icmp_ge hK 226 (by omega) (by omega) kd46_43.2.2.2.2.2.2.2.2.2.2.2 (by decide) (fun c348 => ?_) (fun c348 => ?_)
                  · refine X_iconst hK kd46_44.2.2.1 ?_
                    refine X_goto hK 274 kd46_44.2.2.2.1 (by decide) ?_
                    refine X_zast hK hs_b332 (by decide) (by decide) sl_19401 (by omega) (by omega) (by omega) (by omega) kd46_46.2.2.1 (fun g349 hg349 => ?_)
                    refine X_iinc hK (i := 4) (z := z245) (n := 1) 5 [(4, .int (iI (z245 + 1))), (9, .int (iI z331)), (8, .int (iI z329)), (7, .int (iI z314)), (6, .int (iI ((120 * x1) + z244))), (5, .int (iI z244)), (0, .ref a0), (1, .int (iI x1)), (2, .int (iI x2)), (3, .int (iI x3))] kd46_46.2.2.2.1 rfl (by decide) rfl ?_
                    refine X_iinc hK (i := 5) (z := z244) (n := 1) 5 [(5, .int (iI (z244 + 1))), (4, .int (iI (z245 + 1))), (9, .int (iI z331)), (8, .int (iI z329)), (7, .int (iI z314)), (6, .int (iI ((120 * x1) + z244))), (0, .ref a0), (1, .int (iI x1)), (2, .int (iI x2)), (3, .int (iI x3))] kd46_46.2.2.2.2.1 rfl (by decide) rfl ?_
                    refine X_goto hK 6 kd46_46.2.2.2.2.2.1 (by decide) ?_
                    refine X_lv [(5, .int (iI (z244 + 1))), (4, .int (iI (z245 + 1))), (0, .ref a0), (1, .int (iI x1)), (2, .int (iI x2)), (3, .int (iI x3))] [0, 1, 6, 7, 8, 9] rfl ?_
                    exact ihP305  g349 (xM_ua (xM.tr xM.rf xLe.rf hg246 (by decide)) hg349 hs_b332 (by decide) (by decide)) (z244 + 1) (by omega) (by omega) (z245 + 1) (by omega) (by omega) (by omega) (by omega) (by rcases hx315 with ⟨a9, b9, c9⟩ | ⟨a9, b9, c9⟩ | ⟨a9, b9, c9⟩ <;> first | (exfalso; omega) | exact c9 | (rw [c9]; exact congrArg some (by omega))) (by omega)
                  · refine X_iconst hK kd46_44.1 ?_
                    refine X_goto hK 274 kd46_44.2.1 (by decide) ?_
                    refine X_zast hK hs_b332 (by decide) (by decide) sl_19401 (by omega) (by omega) (by omega) (by omega) kd46_46.2.2.1 (fun g350 hg350 => ?_)
                    refine X_iinc hK (i := 4) (z := z245) (n := 1) 5 [(4, .int (iI (z245 + 1))), (9, .int (iI z331)), (8, .int (iI z329)), (7, .int (iI z314)), (6, .int (iI ((120 * x1) + z244))), (5, .int (iI z244)), (0, .ref a0), (1, .int (iI x1)), (2, .int (iI x2)), (3, .int (iI x3))] kd46_46.2.2.2.1 rfl (by decide) rfl ?_
                    refine X_iinc hK (i := 5) (z := z244) (n := 1) 5 [(5, .int (iI (z244 + 1))), (4, .int (iI (z245 + 1))), (9, .int (iI z331)), (8, .int (iI z329)), (7, .int (iI z314)), (6, .int (iI ((120 * x1) + z244))), (0, .ref a0), (1, .int (iI x1)), (2, .int (iI x2)), (3, .int (iI x3))] kd46_46.2.2.2.2.1 rfl (by decide) rfl ?_
                    refine X_goto hK 6 kd46_46.2.2.2.2.2.1 (by decide) ?_
                    refine X_lv [(5, .int (iI (z244 + 1))), (4, .int (iI (z245 + 1))), (0, .ref a0), (1, .int (iI x1)), (2, .int (iI x2)), (3, .int (iI x3))] [0, 1, 6, 7, 8, 9] rfl ?_
                    exact ihP305  g350 (xM_ua (xM.tr xM.rf xLe.rf hg246 (by decide)) hg350 hs_b332 (by decide) (by decide)) (z244 + 1) (by omega) (by omega) (z245 + 1) (by omega) (by omega) (by omega) (by omega) (by rcases hx315 with ⟨a9, b9, c9⟩ | ⟨a9, b9, c9⟩ | ⟨a9, b9, c9⟩ <;> first | (exfalso; omega) | exact c9 | (rw [c9]; exact congrArg some (by omega))) (by omega)
              · refine X_iload hK (i := 8) 1 kd46_42.2.2.2.2.2.2.2.2.1 rfl ?_
                refine X_iconst hK kd46_42.2.2.2.2.2.2.2.2.2.1 ?_
                refine X_icmp_ne hK 199 (by omega) (by omega) kd46_42.2.2.2.2.2.2.2.2.2.2.1 (by decide) (fun c351 => ?_) (fun c351 => ?_)
                · refine X_iconst hK kd46_43.2.1 ?_
                  refine X_goto hK 274 kd46_43.2.2.1 (by decide) ?_
                  refine X_zast hK hs_b332 (by decide) (by decide) sl_19401 (by omega) (by omega) (by omega) (by omega) kd46_46.2.2.1 (fun g352 hg352 => ?_)
                  refine X_iinc hK (i := 4) (z := z245) (n := 1) 5 [(4, .int (iI (z245 + 1))), (9, .int (iI z331)), (8, .int (iI z329)), (7, .int (iI z314)), (6, .int (iI ((120 * x1) + z244))), (5, .int (iI z244)), (0, .ref a0), (1, .int (iI x1)), (2, .int (iI x2)), (3, .int (iI x3))] kd46_46.2.2.2.1 rfl (by decide) rfl ?_
                  refine X_iinc hK (i := 5) (z := z244) (n := 1) 5 [(5, .int (iI (z244 + 1))), (4, .int (iI (z245 + 1))), (9, .int (iI z331)), (8, .int (iI z329)), (7, .int (iI z314)), (6, .int (iI ((120 * x1) + z244))), (0, .ref a0), (1, .int (iI x1)), (2, .int (iI x2)), (3, .int (iI x3))] kd46_46.2.2.2.2.1 rfl (by decide) rfl ?_
                  refine X_goto hK 6 kd46_46.2.2.2.2.2.1 (by decide) ?_
                  refine X_lv [(5, .int (iI (z244 + 1))), (4, .int (iI (z245 + 1))), (0, .ref a0), (1, .int (iI x1)), (2, .int (iI x2)), (3, .int (iI x3))] [0, 1, 6, 7, 8, 9] rfl ?_
                  exact ihP305  g352 (xM_ua (xM.tr xM.rf xLe.rf hg246 (by decide)) hg352 hs_b332 (by decide) (by decide)) (z244 + 1) (by omega) (by omega) (z245 + 1) (by omega) (by omega) (by omega) (by omega) (by rcases hx315 with ⟨a9, b9, c9⟩ | ⟨a9, b9, c9⟩ | ⟨a9, b9, c9⟩ <;> first | (exfalso; omega) | exact c9 | (rw [c9]; exact congrArg some (by omega))) (by omega)
                · refine X_iconst hK kd46_42.2.2.2.2.2.2.2.2.2.2.2 ?_
                  refine X_goto hK 274 kd46_43.1 (by decide) ?_
                  refine X_zast hK hs_b332 (by decide) (by decide) sl_19401 (by omega) (by omega) (by omega) (by omega) kd46_46.2.2.1 (fun g353 hg353 => ?_)
                  refine X_iinc hK (i := 4) (z := z245) (n := 1) 5 [(4, .int (iI (z245 + 1))), (9, .int (iI z331)), (8, .int (iI z329)), (7, .int (iI z314)), (6, .int (iI ((120 * x1) + z244))), (5, .int (iI z244)), (0, .ref a0), (1, .int (iI x1)), (2, .int (iI x2)), (3, .int (iI x3))] kd46_46.2.2.2.1 rfl (by decide) rfl ?_
                  refine X_iinc hK (i := 5) (z := z244) (n := 1) 5 [(5, .int (iI (z244 + 1))), (4, .int (iI (z245 + 1))), (9, .int (iI z331)), (8, .int (iI z329)), (7, .int (iI z314)), (6, .int (iI ((120 * x1) + z244))), (0, .ref a0), (1, .int (iI x1)), (2, .int (iI x2)), (3, .int (iI x3))] kd46_46.2.2.2.2.1 rfl (by decide) rfl ?_
                  refine X_goto hK 6 kd46_46.2.2.2.2.2.1 (by decide) ?_
                  refine X_lv [(5, .int (iI (z244 + 1))), (4, .int (iI (z245 + 1))), (0, .ref a0), (1, .int (iI x1)), (2, .int (iI x2)), (3, .int (iI x3))] [0, 1, 6, 7, 8, 9] rfl ?_
                  exact ihP305  g353 (xM_ua (xM.tr xM.rf xLe.rf hg246 (by decide)) hg353 hs_b332 (by decide) (by decide)) (z244 + 1) (by omega) (by omega) (z245 + 1) (by omega) (by omega) (by omega) (by omega) (by rcases hx315 with ⟨a9, b9, c9⟩ | ⟨a9, b9, c9⟩ | ⟨a9, b9, c9⟩ <;> first | (exfalso; omega) | exact c9 | (rw [c9]; exact congrArg some (by omega))) (by omega)
            · refine X_iinc hK (i := 4) (z := z245) (n := (-1)) 3 [(4, .int (iI (z245 + (-1)))), (7, .int (iI z314)), (6, .int (iI ((120 * x1) + z244))), (5, .int (iI z244)), (0, .ref a0), (1, .int (iI x1)), (2, .int (iI x2)), (3, .int (iI x3))] kd46_37.2.2.2.2.2.2.2.2.2.2.1 rfl (by decide) rfl ?_
              refine X_aloadn hK (i := 0) 4 kd46_37.2.2.2.2.2.2.2.2.2.2.2 rfl rfl ?_
              refine X_getr hK 19401 64 fl_X12_83_13 hs_a0 sl_13_46 kd46_38.1 (fun b354 eb354 hs_b354 => ?_)
              refine X_iload hK (i := 4) 0 kd46_38.2.1 rfl ?_
              refine X_iconst hK kd46_38.2.2.1 ?_
              refine X_isub hK kd46_38.2.2.2.1 ?_
              refine X_iload hK (i := 7) 1 kd46_38.2.2.2.2.1 rfl ?_
              refine X_bipush hK kd46_38.2.2.2.2.2.1 (by decide) ?_
              refine X_icmp_ne hK 128 (by omega) (by omega) kd46_38.2.2.2.2.2.2.1 (by decide) (fun c355 => ?_) (fun c355 => False.elim (by omega))
              refine X_aloadn hK (i := 0) 4 kd46_39.2.2.2.2.2.2.2.2.2.2.2 rfl rfl ?_
              refine X_getK hK fl_X12_83_13 hs_a0 eb354 kd46_40.1 ?_
              refine X_iload hK (i := 4) 0 kd46_40.2.1 rfl ?_
              refine X_iconst hK kd46_40.2.2.1 ?_
              refine X_isub hK kd46_40.2.2.2.1 ?_
              refine X_zald hK hs_b354 (by decide) sl_19401 (by omega) (by omega) kd46_40.2.2.2.2.1 (fun z356 ez356 lz356 uz356 => ?_)
              refine X_if_ne hK 150 (by omega) kd46_40.2.2.2.2.2.1 (by decide) (fun c357 => ?_) (fun c357 => ?_)
              · refine X_iconst hK kd46_40.2.2.2.2.2.2.2.2.2.2.2 ?_
                refine X_goto hK 155 kd46_41.1 (by decide) ?_
                refine X_zast hK hs_b354 (by decide) (by decide) sl_19401 (by omega) (by omega) (by omega) (by omega) kd46_41.2.2.1 (fun g358 hg358 => ?_)
                refine X_goto hK 278 kd46_41.2.2.2.1 (by decide) ?_
                refine X_iinc hK (i := 5) (z := z244) (n := 1) 3 [(5, .int (iI (z244 + 1))), (4, .int (iI (z245 + (-1)))), (7, .int (iI z314)), (6, .int (iI ((120 * x1) + z244))), (0, .ref a0), (1, .int (iI x1)), (2, .int (iI x2)), (3, .int (iI x3))] kd46_46.2.2.2.2.1 rfl (by decide) rfl ?_
                refine X_goto hK 6 kd46_46.2.2.2.2.2.1 (by decide) ?_
                refine X_lv [(5, .int (iI (z244 + 1))), (4, .int (iI (z245 + (-1)))), (0, .ref a0), (1, .int (iI x1)), (2, .int (iI x2)), (3, .int (iI x3))] [0, 1, 4, 5, 6, 7] rfl ?_
                exact ihP305  g358 (xM_ua (xM.tr xM.rf xLe.rf hg246 (by decide)) hg358 hs_b354 (by decide) (by decide)) (z244 + 1) (by omega) (by omega) (z245 + (-1)) (by omega) (by omega) (by omega) (by omega) (by rcases hx315 with ⟨a9, b9, c9⟩ | ⟨a9, b9, c9⟩ | ⟨a9, b9, c9⟩ <;> first | (exfalso; omega) | exact c9 | (rw [c9]; exact congrArg some (by omega))) (by omega)
              · refine X_aloadn hK (i := 0) 4 kd46_40.2.2.2.2.2.2.1 rfl rfl ?_
                refine X_getK hK fl_X12_83_13 hs_a0 eb354 kd46_40.2.2.2.2.2.2.2.1 ?_
                refine X_iload hK (i := 4) 0 kd46_40.2.2.2.2.2.2.2.2.1 rfl ?_
                refine X_zald hK hs_b354 (by decide) sl_19401 (by omega) (by omega) kd46_40.2.2.2.2.2.2.2.2.2.1 (fun z359 ez359 lz359 uz359 => ?_)
                refine X_if_eq hK 154 (by omega) kd46_40.2.2.2.2.2.2.2.2.2.2.1 (by decide) (fun c360 => ?_) (fun c360 => ?_)
                · refine X_iconst hK kd46_41.2.1 ?_
                  refine X_zast hK hs_b354 (by decide) (by decide) sl_19401 (by omega) (by omega) (by omega) (by omega) kd46_41.2.2.1 (fun g361 hg361 => ?_)
                  refine X_goto hK 278 kd46_41.2.2.2.1 (by decide) ?_
                  refine X_iinc hK (i := 5) (z := z244) (n := 1) 3 [(5, .int (iI (z244 + 1))), (4, .int (iI (z245 + (-1)))), (7, .int (iI z314)), (6, .int (iI ((120 * x1) + z244))), (0, .ref a0), (1, .int (iI x1)), (2, .int (iI x2)), (3, .int (iI x3))] kd46_46.2.2.2.2.1 rfl (by decide) rfl ?_
                  refine X_goto hK 6 kd46_46.2.2.2.2.2.1 (by decide) ?_
                  refine X_lv [(5, .int (iI (z244 + 1))), (4, .int (iI (z245 + (-1)))), (0, .ref a0), (1, .int (iI x1)), (2, .int (iI x2)), (3, .int (iI x3))] [0, 1, 4, 5, 6, 7] rfl ?_
                  exact ihP305  g361 (xM_ua (xM.tr xM.rf xLe.rf hg246 (by decide)) hg361 hs_b354 (by decide) (by decide)) (z244 + 1) (by omega) (by omega) (z245 + (-1)) (by omega) (by omega) (by omega) (by omega) (by rcases hx315 with ⟨a9, b9, c9⟩ | ⟨a9, b9, c9⟩ | ⟨a9, b9, c9⟩ <;> first | (exfalso; omega) | exact c9 | (rw [c9]; exact congrArg some (by omega))) (by omega)
                · refine X_iconst hK kd46_40.2.2.2.2.2.2.2.2.2.2.2 ?_
                  refine X_goto hK 155 kd46_41.1 (by decide) ?_
                  refine X_zast hK hs_b354 (by decide) (by decide) sl_19401 (by omega) (by omega) (by omega) (by omega) kd46_41.2.2.1 (fun g362 hg362 => ?_)
                  refine X_goto hK 278 kd46_41.2.2.2.1 (by decide) ?_
                  refine X_iinc hK (i := 5) (z := z244) (n := 1) 3 [(5, .int (iI (z244 + 1))), (4, .int (iI (z245 + (-1)))), (7, .int (iI z314)), (6, .int (iI ((120 * x1) + z244))), (0, .ref a0), (1, .int (iI x1)), (2, .int (iI x2)), (3, .int (iI x3))] kd46_46.2.2.2.2.1 rfl (by decide) rfl ?_
                  refine X_goto hK 6 kd46_46.2.2.2.2.2.1 (by decide) ?_
                  refine X_lv [(5, .int (iI (z244 + 1))), (4, .int (iI (z245 + (-1)))), (0, .ref a0), (1, .int (iI x1)), (2, .int (iI x2)), (3, .int (iI x3))] [0, 1, 4, 5, 6, 7] rfl ?_
                  exact ihP305  g362 (xM_ua (xM.tr xM.rf xLe.rf hg246 (by decide)) hg362 hs_b354 (by decide) (by decide)) (z244 + 1) (by omega) (by omega) (z245 + (-1)) (by omega) (by omega) (by omega) (by omega) (by rcases hx315 with ⟨a9, b9, c9⟩ | ⟨a9, b9, c9⟩ | ⟨a9, b9, c9⟩ <;> first | (exfalso; omega) | exact c9 | (rw [c9]; exact congrArg some (by omega))) (by omega)
        · refine X_aloadn hK (i := 0) 4 kd46_35.2.2.2.2.2.2.2.2.2.2.2 rfl rfl ?_
          refine X_getr hK 19401 64 fl_X12_83_13 hs_a0 sl_13_46 kd46_36.1 (fun b363 eb363 hs_b363 => ?_)
          refine X_iload hK (i := 4) 3 kd46_36.2.1 rfl ?_
          refine X_iconst hK kd46_36.2.2.1 ?_
          refine X_isub hK kd46_36.2.2.2.1 ?_
          refine X_aloadn hK (i := 0) 4 kd46_36.2.2.2.2.1 rfl rfl ?_
          refine X_getK hK fl_X12_83_13 hs_a0 eb363 kd46_36.2.2.2.2.2.1 ?_
          refine X_iload hK (i := 4) 3 kd46_36.2.2.2.2.2.2.1 rfl ?_
          refine X_iconst hK kd46_36.2.2.2.2.2.2.2.1 ?_
          refine X_isub hK kd46_36.2.2.2.2.2.2.2.2.1 ?_
          refine X_zald hK hs_b363 (by decide) sl_19401 (by omega) (by omega) kd46_36.2.2.2.2.2.2.2.2.2.1 (fun z364 ez364 lz364 uz364 => ?_)
          refine X_if_ne hK 61 (by omega) kd46_36.2.2.2.2.2.2.2.2.2.2.1 (by decide) (fun c365 => ?_) (fun c365 => ?_)
          · refine X_iconst hK kd46_37.2.1 ?_
            refine X_zast hK hs_b363 (by decide) (by decide) sl_19401 (by omega) (by omega) (by omega) (by omega) kd46_37.2.2.1 (fun g366 hg366 => ?_)
            refine X_goto hK 278 kd46_37.2.2.2.1 (by decide) ?_
            refine X_iinc hK (i := 5) (z := z244) (n := 1) 2 [(5, .int (iI (z244 + 1))), (7, .int (iI z314)), (6, .int (iI ((120 * x1) + z244))), (4, .int (iI z245)), (0, .ref a0), (1, .int (iI x1)), (2, .int (iI x2)), (3, .int (iI x3))] kd46_46.2.2.2.2.1 rfl (by decide) rfl ?_
            refine X_goto hK 6 kd46_46.2.2.2.2.2.1 (by decide) ?_
            refine X_lv [(5, .int (iI (z244 + 1))), (4, .int (iI z245)), (0, .ref a0), (1, .int (iI x1)), (2, .int (iI x2)), (3, .int (iI x3))] [0, 3, 4, 5, 6, 7] rfl ?_
            exact ihP305  g366 (xM_ua (xM.tr xM.rf xLe.rf hg246 (by decide)) hg366 hs_b363 (by decide) (by decide)) (z244 + 1) (by omega) (by omega) z245 (by omega) (by omega) (by omega) (by omega) (by rcases hx315 with ⟨a9, b9, c9⟩ | ⟨a9, b9, c9⟩ | ⟨a9, b9, c9⟩ <;> first | (exfalso; omega) | exact c9 | (rw [c9]; exact congrArg some (by omega))) (by omega)
          · refine X_iconst hK kd46_36.2.2.2.2.2.2.2.2.2.2.2 ?_
            refine X_goto hK 62 kd46_37.1 (by decide) ?_
            refine X_zast hK hs_b363 (by decide) (by decide) sl_19401 (by omega) (by omega) (by omega) (by omega) kd46_37.2.2.1 (fun g367 hg367 => ?_)
            refine X_goto hK 278 kd46_37.2.2.2.1 (by decide) ?_
            refine X_iinc hK (i := 5) (z := z244) (n := 1) 2 [(5, .int (iI (z244 + 1))), (7, .int (iI z314)), (6, .int (iI ((120 * x1) + z244))), (4, .int (iI z245)), (0, .ref a0), (1, .int (iI x1)), (2, .int (iI x2)), (3, .int (iI x3))] kd46_46.2.2.2.2.1 rfl (by decide) rfl ?_
            refine X_goto hK 6 kd46_46.2.2.2.2.2.1 (by decide) ?_
            refine X_lv [(5, .int (iI (z244 + 1))), (4, .int (iI z245)), (0, .ref a0), (1, .int (iI x1)), (2, .int (iI x2)), (3, .int (iI x3))] [0, 3, 4, 5, 6, 7] rfl ?_
            exact ihP305  g367 (xM_ua (xM.tr xM.rf xLe.rf hg246 (by decide)) hg367 hs_b363 (by decide) (by decide)) (z244 + 1) (by omega) (by omega) z245 (by omega) (by omega) (by omega) (by omega) (by rcases hx315 with ⟨a9, b9, c9⟩ | ⟨a9, b9, c9⟩ | ⟨a9, b9, c9⟩ <;> first | (exfalso; omega) | exact c9 | (rw [c9]; exact congrArg some (by omega))) (by omega)
  exact P305 ((136 - x2 : Int).toNat + 1) g xM.rf x2 (by omega) (by omega) 0 (by omega) (by omega) (by omega) (by omega) (by rw [show (x2 - x2).toNat = 0 by omega]; rfl) (by omega)

set_option maxHeartbeats 4000000 in
set_option maxRecDepth 100000 in
theorem c_X12_tells (l : Launch) (D : va_G) (kA : Nat → ClassId) (b0 : Nat) (t0 : Nat → Nat) (S : xT) (g : xG) (a0 : Nat) (x1 : Int) (x2 : Int) (wo : Nat) (wf : Nat) (wu : Nat) (wp : Nat) (hs_a0 : S a0 = some (13, 0)) (hx1 : (-1) ≤ x1 ∧ x1 ≤ 10) (hx2 : (-2147483648) ≤ x2 ∧ x2 ≤ 2147483647) (ewo : g a0 29 = .ref wo) (hs_wo : S wo = some (15300, 11)) (ewf : g a0 33 = .ref wf) (hs_wf : S wf = some (15700, 176)) (ewu : g a0 34 = .ref wu) (hs_wu : S wu = some (15800, 176)) (ewp : g a0 35 = .ref wp) (hs_wp : S wp = some (15900, 1320)) (hp0 : xTq (xv g wo) (xv g wf) (xv g wu) (xv g wp) x1) : xMt l yX12_tells cX12_tells 5 (some .int) 1 0 0 29 D kA b0 t0 [(13, 47), (19401, 0)] [.ref a0, .int (iI x1), .int (iI x2)] S g (fun (r : Option Value) (S1 : xT) (g1 : xG) => S = S1 ∧ ∃ z : Int, r = some (.int (iI z)) ∧ (-2147483648) ≤ z ∧ z ≤ 2147483647) := by
  refine xEnterI (by decide) (by simp [lg_sl, Value.category]) [(0, .ref a0), (1, .int (iI x1)), (2, .int (iI x2))] rfl ?_
  intro K E hK hret _ _ _
  refine X_aloadn hK (i := 0) 0 kd46_62.2.2.2.2.2.2.2.1 rfl rfl ?_
  refine X_iconst hK kd46_62.2.2.2.2.2.2.2.2.1 ?_
  refine X_puti hK fl_X12_86_13 hs_a0 (by decide) sl_13_47 (by omega) (by omega) kd46_62.2.2.2.2.2.2.2.2.2.1 (fun g1 hg1 => ?_)
  refine X_iconst hK kd46_62.2.2.2.2.2.2.2.2.2.2.1 ?_
  refine X_istoren hK (i := 3) [(3, .int (iI 0)), (0, .ref a0), (1, .int (iI x1)), (2, .int (iI x2))] kd46_62.2.2.2.2.2.2.2.2.2.2.2 rfl (by decide) rfl ?_
  have P157 : ∀ (nP157 : Nat) (g132 : xG) (_ : xM [(19401, 0)] S g1 g132) (z131 : Int) (_ : 0 ≤ z131) (_ : z131 ≤ 16) (_ : 32 - z131 < (nP157 : Int)), X K E 7 [(3, .int (iI z131)), (0, .ref a0), (1, .int (iI x1)), (2, .int (iI x2))] [] S g132 0 0 := by
    intro nP157
    induction nP157 with
    | zero => intro g132 hg132 z131 lz131 uz131 mP157; exact False.elim (by omega)
    | succ nP157 ihP157 =>
      intro g132 hg132 z131 lz131 uz131 mP157
      refine X_iloadn hK (i := 1) 2 kd46_63.1 rfl rfl ?_
      refine X_iconst hK kd46_63.2.1 ?_
      refine X_icmp_eq hK 85 (by omega) (by omega) kd46_63.2.2.1 (by decide) (fun c158 => ?_) (fun c158 => ?_)
      · refine X_iloadn hK (i := 2) 3 kd46_66.2.2.2.2.2.2.2.2.1 rfl rfl ?_
        refine X_callS hK [.int (iI x2)] [] lk_X12_382 (c_X12_usual _ _ _ _ _ S g132 x2 (by omega)) kd46_66.2.2.2.2.2.2.2.2.2.1 rfl rfl (by simp [Value.category]) (by decide) (by decide) (by decide) (by decide) (fun r159 S161 g160 pr159 qr159 hg160 => ?_)
        obtain ⟨rfl, rfl, z162, rfl, lz162, uz162⟩ := pr159
        refine X_st [.int (iI z162)] rfl ?_
        exact hret _ _ _ _ _ _ _ kd46_66.2.2.2.2.2.2.2.2.2.2.1 ⟨rfl, z162, rfl, (by omega), (by omega)⟩ (Nat.le_refl _) (Nat.le_refl _)
      · refine X_iloadn hK (i := 3) 0 kd46_63.2.2.2.1 rfl rfl ?_
        refine X_aloadn hK (i := 0) 1 kd46_63.2.2.2.2.1 rfl rfl ?_
        refine X_getK hK fl_X12_50_13 hs_a0 ((hg132 a0 13 0 29 hs_a0 (by decide)).trans ((xs_k hg1 (by decide)).trans ewo)) kd46_63.2.2.2.2.2.1 ?_
        refine X_iloadn hK (i := 1) 2 kd46_63.2.2.2.2.2.2.1 rfl rfl ?_
        refine X_iald hK hs_wo (by decide) sl_15300 (by omega) (by omega) kd46_63.2.2.2.2.2.2.2.1 (fun z163 ez163 lz163 uz163 => ?_)
        have hvz163 := xv_e (j := x1) ez163 (by omega)
        refine X_icmp_ge hK 85 (by omega) (by omega) kd46_63.2.2.2.2.2.2.2.2.1 (by decide) (fun c164 => ?_) (fun c164 => ?_)
        · refine X_iloadn hK (i := 2) 3 kd46_66.2.2.2.2.2.2.2.2.1 rfl rfl ?_
          refine X_callS hK [.int (iI x2)] [] lk_X12_382 (c_X12_usual _ _ _ _ _ S g132 x2 (by omega)) kd46_66.2.2.2.2.2.2.2.2.2.1 rfl rfl (by simp [Value.category]) (by decide) (by decide) (by decide) (by decide) (fun r165 S167 g166 pr165 qr165 hg166 => ?_)
          obtain ⟨rfl, rfl, z168, rfl, lz168, uz168⟩ := pr165
          refine X_st [.int (iI z168)] rfl ?_
          exact hret _ _ _ _ _ _ _ kd46_66.2.2.2.2.2.2.2.2.2.2.1 ⟨rfl, z168, rfl, (by omega), (by omega)⟩ (Nat.le_refl _) (Nat.le_refl _)
        · refine X_bipush hK kd46_63.2.2.2.2.2.2.2.2.2.1 (by decide) ?_
          refine X_iloadn hK (i := 1) 2 kd46_63.2.2.2.2.2.2.2.2.2.2.1 rfl rfl ?_
          refine X_imul hK kd46_63.2.2.2.2.2.2.2.2.2.2.2 ?_
          refine X_iloadn hK (i := 3) 0 kd46_64.1 rfl rfl ?_
          refine X_iadd hK kd46_64.2.1 ?_
          refine X_istore hK (i := 4) [(4, .int (iI ((16 * x1) + z131))), (3, .int (iI z131)), (0, .ref a0), (1, .int (iI x1)), (2, .int (iI x2))] kd46_64.2.2.1 (by decide) rfl ?_
          refine X_aloadn hK (i := 0) 2 kd46_64.2.2.2.1 rfl rfl ?_
          refine X_getr hK 15500 176 fl_X12_56_13 hs_a0 sl_13_31 kd46_64.2.2.2.2.1 (fun b169 eb169 hs_b169 => ?_)
          refine X_iload hK (i := 4) 0 kd46_64.2.2.2.2.2.1 rfl ?_
          refine X_iald hK hs_b169 (by decide) sl_15500 (by omega) (by omega) kd46_64.2.2.2.2.2.2.1 (fun z170 ez170 lz170 uz170 => ?_)
          refine X_iloadn hK (i := 2) 4 kd46_64.2.2.2.2.2.2.2.1 rfl rfl ?_
          refine X_icmp_ne hK 79 (by omega) (by omega) kd46_64.2.2.2.2.2.2.2.2.1 (by decide) (fun c171 => ?_) (fun c171 => ?_)
          · refine X_iinc hK (i := 3) (z := z131) (n := 1) 1 [(3, .int (iI (z131 + 1))), (4, .int (iI ((16 * x1) + z131))), (0, .ref a0), (1, .int (iI x1)), (2, .int (iI x2))] kd46_66.2.2.2.2.2.2.1 rfl (by decide) rfl ?_
            refine X_goto hK 7 kd46_66.2.2.2.2.2.2.2.1 (by decide) ?_
            refine X_lv [(3, .int (iI (z131 + 1))), (0, .ref a0), (1, .int (iI x1)), (2, .int (iI x2))] [0, 2, 3, 4] rfl ?_
            exact ihP157  g132 (xM.tr xM.rf xLe.rf hg132 (by decide)) (z131 + 1) (by omega) (by omega) (by omega)
          · refine X_aloadn hK (i := 0) 2 kd46_64.2.2.2.2.2.2.2.2.2.1 rfl rfl ?_
            refine X_iloadn hK (i := 1) 3 kd46_64.2.2.2.2.2.2.2.2.2.2.1 rfl rfl ?_
            refine X_aloadn hK (i := 0) 2 kd46_64.2.2.2.2.2.2.2.2.2.2.2 rfl rfl ?_
            refine X_getK hK fl_X12_62_13 hs_a0 ((hg132 a0 13 0 33 hs_a0 (by decide)).trans ((xs_k hg1 (by decide)).trans ewf)) kd46_65.1 ?_
            refine X_iload hK (i := 4) 0 kd46_65.2.1 rfl ?_
            refine X_iald hK hs_wf (by decide) sl_15700 (by omega) (by omega) kd46_65.2.2.1 (fun z172 ez172 lz172 uz172 => ?_)
            refine X_aloadn hK (i := 0) 2 kd46_65.2.2.2.1 rfl rfl ?_
            refine X_getK hK fl_X12_65_13 hs_a0 ((hg132 a0 13 0 34 hs_a0 (by decide)).trans ((xs_k hg1 (by decide)).trans ewu)) kd46_65.2.2.2.2.1 ?_
            refine X_iload hK (i := 4) 0 kd46_65.2.2.2.2.2.1 rfl ?_
            refine X_iald hK hs_wu (by decide) sl_15800 (by omega) (by omega) kd46_65.2.2.2.2.2.2.1 (fun z173 ez173 lz173 uz173 => ?_)
            have thT174 : xTq (xv g132 wo) (xv g132 wf) (xv g132 wu) (xv g132 wp) x1 := (by rw [(Eq.trans (xv_m hg132 hs_wo (by decide) (by decide)) (xv_a hg1 (xne hs_wo hs_a0 (by decide)))), (Eq.trans (xv_m hg132 hs_wf (by decide) (by decide)) (xv_a hg1 (xne hs_wf hs_a0 (by decide)))), (Eq.trans (xv_m hg132 hs_wu (by decide) (by decide)) (xv_a hg1 (xne hs_wu hs_a0 (by decide)))), (Eq.trans (xv_m hg132 hs_wp (by decide) (by decide)) (xv_a hg1 (xne hs_wp hs_a0 (by decide))))]; exact hp0)
            have ahT174 : xTv (xv g132 wf) (xv g132 wu) (xv g132 wp) x1 z131 := (Or.resolve_left thT174 (by omega)) z131 (by omega) (by omega)
            unfold xTv at ahT174
            rw [show xv g132 wf (16 * x1 + z131) = z172 from xv_e ez172 (by omega), show xv g132 wu (16 * x1 + z131) = z173 from xv_e ez173 (by omega)] at ahT174
            obtain ⟨bhT174, chT174, dhT174, hT174⟩ := ahT174
            refine X_callV hK [.int (iI x1), .int (iI z172), .int (iI z173)] [] lk_X12_379 (c_X12_holds _ _ _ _ _ S g132 a0 x1 z172 z173 wp hs_a0 (by omega) (by omega) (by omega) ((hg132 a0 13 0 35 hs_a0 (by decide)).trans ((xs_k hg1 (by decide)).trans ewp)) hs_wp (by omega) hT174) hs_a0 ⟨by decide, rfl⟩ kd46_65.2.2.2.2.2.2.2.1 rfl rfl (by simp [Value.category]) (by decide) (by decide) (by decide) (by decide) (fun r175 S177 g176 pr175 qr175 hg176 => ?_)
            obtain ⟨rfl, z178, rfl, lz178, uz178⟩ := pr175
            refine X_st [.int (iI z178)] rfl ?_
            refine X_if_ne hK 66 (by omega) kd46_65.2.2.2.2.2.2.2.2.1 (by decide) (fun c179 => ?_) (fun c179 => ?_)
            · refine X_aloadn hK (i := 0) 2 kd46_65.2.2.2.2.2.2.2.2.2.2.1 rfl rfl ?_
              refine X_iloadn hK (i := 3) 1 kd46_65.2.2.2.2.2.2.2.2.2.2.2 rfl rfl ?_
              refine X_puti hK fl_X12_86_13 hs_a0 (by decide) sl_13_47 (by omega) (by omega) kd46_66.1 (fun g180 hg180 => ?_)
              refine X_aloadn hK (i := 0) 2 kd46_66.2.1 rfl rfl ?_
              refine X_getr hK 15600 176 fl_X12_59_13 hs_a0 sl_13_32 kd46_66.2.2.1 (fun b181 eb181 hs_b181 => ?_)
              refine X_iload hK (i := 4) 0 kd46_66.2.2.2.1 rfl ?_
              refine X_iald hK hs_b181 (by decide) sl_15600 (by omega) (by omega) kd46_66.2.2.2.2.1 (fun z182 ez182 lz182 uz182 => ?_)
              exact hret _ _ _ _ _ _ _ kd46_66.2.2.2.2.2.1 ⟨rfl, z182, rfl, (by omega), (by omega)⟩ (Nat.le_refl _) (Nat.le_refl _)
            · refine X_goto hK 79 kd46_65.2.2.2.2.2.2.2.2.2.1 (by decide) ?_
              refine X_iinc hK (i := 3) (z := z131) (n := 1) 1 [(3, .int (iI (z131 + 1))), (4, .int (iI ((16 * x1) + z131))), (0, .ref a0), (1, .int (iI x1)), (2, .int (iI x2))] kd46_66.2.2.2.2.2.2.1 rfl (by decide) rfl ?_
              refine X_goto hK 7 kd46_66.2.2.2.2.2.2.2.1 (by decide) ?_
              refine X_lv [(3, .int (iI (z131 + 1))), (0, .ref a0), (1, .int (iI x1)), (2, .int (iI x2))] [0, 2, 3, 4] rfl ?_
              exact ihP157  g176 (xM.tr (xM.tr xM.rf xLe.rf hg132 (by decide)) xLe.rf hg176 (by decide)) (z131 + 1) (by omega) (by omega) (by omega)
  exact P157 ((32 - 0 : Int).toNat + 1) g1 xM.rf 0 (by omega) (by omega) (by omega)

set_option maxHeartbeats 4000000 in
set_option maxRecDepth 100000 in
theorem c2_termsFor (l : Launch) (D : va_G) (kA : Nat → ClassId) (b0 : Nat) (t0 : Nat → Nat) (S : xT) (g : xG) (a0 : Nat) (x1 : Int) (nn : Int) (hs_a0 : S a0 = some (13, 0)) (hx1 : (-2147483648) ≤ x1 ∧ x1 ≤ 2147483647) (hnn : 0 ≤ nn ∧ nn ≤ 10) (enn : g a0 39 = .int (iI nn)) : xMt l yX12_termsFor cX12_termsFor 4 (some .int) 0 0 0 0 D kA b0 t0 [] [.ref a0, .int (iI x1)] S g (fun (r : Option Value) (S1 : xT) (g1 : xG) => S = S1 ∧ g = g1 ∧ ∃ z : Int, r = some (.int (iI z)) ∧ (-1) ≤ z ∧ z ≤ 9 ∧ (z < nn)) := by
  refine xEnterI (by decide) (by simp [lg_sl, Value.category]) [(0, .ref a0), (1, .int (iI x1))] rfl ?_
  intro K E hK hret _ _ _
  refine X_iconst hK kd28_145.2.1 ?_
  refine X_istoren hK (i := 2) [(2, .int (iI (-1))), (0, .ref a0), (1, .int (iI x1))] kd28_145.2.2.1 rfl (by decide) rfl ?_
  refine X_iconst hK kd28_145.2.2.2.1 ?_
  refine X_istoren hK (i := 3) [(3, .int (iI 0)), (2, .int (iI (-1))), (0, .ref a0), (1, .int (iI x1))] kd28_145.2.2.2.2.1 rfl (by decide) rfl ?_
  have P55 : ∀ (nP55 : Nat) (z46 : Int) (_ : 0 ≤ z46) (_ : z46 ≤ 10) (z47 : Int) (_ : (-1) ≤ z47) (_ : z47 ≤ 9) (_ : z47 < z46) (_ : z46 ≤ nn) (_ : 26 - z46 < (nP55 : Int)), X K E 4 [(3, .int (iI z46)), (2, .int (iI z47)), (0, .ref a0), (1, .int (iI x1))] [] S g 0 0 := by
    intro nP55
    induction nP55 with
    | zero => intro z46 lz46 uz46 z47 lz47 uz47 v56 v57 mP55; exact False.elim (by omega)
    | succ nP55 ihP55 =>
      intro z46 lz46 uz46 z47 lz47 uz47 v56 v57 mP55
      refine X_iloadn hK (i := 3) 0 kd28_145.2.2.2.2.2.1 rfl rfl ?_
      refine X_aloadn hK (i := 0) 2 kd28_145.2.2.2.2.2.2.1 rfl rfl ?_
      refine X_getK hK fl_X12_373_13 hs_a0 enn kd28_145.2.2.2.2.2.2.2.1 ?_
      refine X_icmp_ge hK 50 (by omega) (by omega) kd28_145.2.2.2.2.2.2.2.2.1 (by decide) (fun c58 => ?_) (fun c58 => ?_)
      · refine X_iloadn hK (i := 2) 1 kd28_147.2.2.2.2.2.2.2.1 rfl rfl ?_
        exact hret _ _ _ _ _ _ _ kd28_147.2.2.2.2.2.2.2.2.1 ⟨rfl, rfl, z47, rfl, (by omega), (by omega), (by omega)⟩ (Nat.le_refl _) (Nat.le_refl _)
      · refine X_aloadn hK (i := 0) 2 kd28_145.2.2.2.2.2.2.2.2.2.1 rfl rfl ?_
        refine X_getr hK 15400 11 fl_X12_53_13 hs_a0 sl_13_30 kd28_145.2.2.2.2.2.2.2.2.2.2.1 (fun b59 eb59 hs_b59 => ?_)
        refine X_iloadn hK (i := 3) 0 kd28_145.2.2.2.2.2.2.2.2.2.2.2 rfl rfl ?_
        refine X_iald hK hs_b59 (by decide) sl_15400 (by omega) (by omega) kd28_146.1 (fun z60 ez60 lz60 uz60 => ?_)
        refine X_iloadn hK (i := 1) 3 kd28_146.2.1 rfl rfl ?_
        refine X_icmp_gt hK 44 (by omega) (by omega) kd28_146.2.2.1 (by decide) (fun c61 => ?_) (fun c61 => ?_)
        · refine X_iinc hK (i := 3) (z := z46) (n := 1) 0 [(3, .int (iI (z46 + 1))), (2, .int (iI z47)), (0, .ref a0), (1, .int (iI x1))] kd28_147.2.2.2.2.2.1 rfl (by decide) rfl ?_
          refine X_goto hK 4 kd28_147.2.2.2.2.2.2.1 (by decide) ?_
          exact ihP55  (z46 + 1) (by omega) (by omega) z47 (by omega) (by omega) (by omega) (by omega) (by omega)
        · refine X_iloadn hK (i := 2) 1 kd28_146.2.2.2.1 rfl rfl ?_
          refine X_iconst hK kd28_146.2.2.2.2.1 ?_
          refine X_icmp_eq hK 42 (by omega) (by omega) kd28_146.2.2.2.2.2.1 (by decide) (fun c62 => ?_) (fun c62 => ?_)
          · refine X_iloadn hK (i := 3) 0 kd28_147.2.2.2.1 rfl rfl ?_
            refine X_istoren hK (i := 2) [(2, .int (iI z46)), (3, .int (iI z46)), (0, .ref a0), (1, .int (iI x1))] kd28_147.2.2.2.2.1 rfl (by decide) rfl ?_
            refine X_iinc hK (i := 3) (z := z46) (n := 1) 1 [(3, .int (iI (z46 + 1))), (2, .int (iI z46)), (0, .ref a0), (1, .int (iI x1))] kd28_147.2.2.2.2.2.1 rfl (by decide) rfl ?_
            refine X_goto hK 4 kd28_147.2.2.2.2.2.2.1 (by decide) ?_
            exact ihP55  (z46 + 1) (by omega) (by omega) z46 (by omega) (by omega) (by omega) (by omega) (by omega)
          · refine X_aloadn hK (i := 0) 2 kd28_146.2.2.2.2.2.2.1 rfl rfl ?_
            refine X_getK hK fl_X12_53_13 hs_a0 eb59 kd28_146.2.2.2.2.2.2.2.1 ?_
            refine X_iloadn hK (i := 3) 0 kd28_146.2.2.2.2.2.2.2.2.1 rfl rfl ?_
            refine X_ialdK hK hs_b59 (by decide) (by omega) (by omega) ez60 kd28_146.2.2.2.2.2.2.2.2.2.1 ?_
            refine X_aloadn hK (i := 0) 2 kd28_146.2.2.2.2.2.2.2.2.2.2.1 rfl rfl ?_
            refine X_getK hK fl_X12_53_13 hs_a0 eb59 kd28_146.2.2.2.2.2.2.2.2.2.2.2 ?_
            refine X_iloadn hK (i := 2) 1 kd28_147.1 rfl rfl ?_
            refine X_iald hK hs_b59 (by decide) sl_15400 (by omega) (by omega) kd28_147.2.1 (fun z63 ez63 lz63 uz63 => ?_)
            refine X_icmp_lt hK 44 (by omega) (by omega) kd28_147.2.2.1 (by decide) (fun c64 => ?_) (fun c64 => ?_)
            · refine X_iinc hK (i := 3) (z := z46) (n := 1) 0 [(3, .int (iI (z46 + 1))), (2, .int (iI z47)), (0, .ref a0), (1, .int (iI x1))] kd28_147.2.2.2.2.2.1 rfl (by decide) rfl ?_
              refine X_goto hK 4 kd28_147.2.2.2.2.2.2.1 (by decide) ?_
              exact ihP55  (z46 + 1) (by omega) (by omega) z47 (by omega) (by omega) (by omega) (by omega) (by omega)
            · refine X_iloadn hK (i := 3) 0 kd28_147.2.2.2.1 rfl rfl ?_
              refine X_istoren hK (i := 2) [(2, .int (iI z46)), (3, .int (iI z46)), (0, .ref a0), (1, .int (iI x1))] kd28_147.2.2.2.2.1 rfl (by decide) rfl ?_
              refine X_iinc hK (i := 3) (z := z46) (n := 1) 1 [(3, .int (iI (z46 + 1))), (2, .int (iI z46)), (0, .ref a0), (1, .int (iI x1))] kd28_147.2.2.2.2.2.1 rfl (by decide) rfl ?_
              refine X_goto hK 4 kd28_147.2.2.2.2.2.2.1 (by decide) ?_
              exact ihP55  (z46 + 1) (by omega) (by omega) z46 (by omega) (by omega) (by omega) (by omega) (by omega)
  exact P55 ((26 - 0 : Int).toNat + 1) 0 (by omega) (by omega) (-1) (by omega) (by omega) (by omega) (by omega) (by omega)

set_option maxHeartbeats 4000000 in
set_option maxRecDepth 100000 in
theorem c_X12_bundle (l : Launch) (D : va_G) (kA : Nat → ClassId) (b0 : Nat) (t0 : Nat → Nat) (S : xT) (g : xG) (a0 : Nat) (x1 : Int) (x2 : Int) (x3 : Int) (x4 : Int) (x5 : Int) (hs_a0 : S a0 = some (13, 0)) (hx1 : (-2147483648) ≤ x1 ∧ x1 ≤ 2147483647) (hx2 : (-2147483648) ≤ x2 ∧ x2 ≤ 2147483647) (hx3 : (-2147483648) ≤ x3 ∧ x3 ≤ 2147483647) (hx4 : (-2147483648) ≤ x4 ∧ x4 ≤ 2147483647) (hx5 : (-2147483648) ≤ x5 ∧ x5 ≤ 2147483647) (hp0 : xTw S g a0) : xMt l yX12_bundle cX12_bundle 8 (some .int) 2 0 0 53 D kA b0 t0 [(13, 0), (16300, 0), (13, 47), (19401, 0), (14500, 0), (16400, 0), (16500, 0), (16600, 0), (16700, 0), (16800, 0), (16900, 0), (17000, 0), (13, 58)] [.ref a0, .int (iI x1), .int (iI x2), .int (iI x3), .int (iI x4), .int (iI x5)] S g (fun (r : Option Value) (S1 : xT) (g1 : xG) => S = S1 ∧ ∃ z : Int, r = some (.int (iI z)) ∧ (-1) ≤ z ∧ z ≤ 199) := by
  refine xEnterI (by decide) (by simp [lg_sl, Value.category]) [(0, .ref a0), (1, .int (iI x1)), (2, .int (iI x2)), (3, .int (iI x3)), (4, .int (iI x4)), (5, .int (iI x5))] rfl ?_
  intro K E hK hret _ _ _
  refine X_aloadn hK (i := 0) 0 kd46_0.1 rfl rfl ?_
  obtain ⟨wo, wf, wu, wp, n8, hpi1, hpi2, hs_wo, hpi4, hs_wf, hpi6, hs_wu, hpi8, hs_wp, hpi10, hpi11, hpi12, hta⟩ := hp0
  refine X_wt (fun hW => ?_)
  have hlo : ∀ t : Int, 0 ≤ t → t < 11 → 0 ≤ xv g wo t ∧ xv g wo t ≤ 16 := fun k q1 q2 => xv_r hW hs_wo (by decide) sl_15300 (by decide) k q1 (by omega)
  refine X_iconst hK kd46_0.2.1 ?_
  refine X_puti hK fl_X12_198_13 hs_a0 (by decide) sl_13_0 (by omega) (by omega) kd46_0.2.2.1 (fun g1 hg1 => ?_)
  refine X_aloadn hK (i := 0) 0 kd46_0.2.2.2.1 rfl rfl ?_
  refine X_geti hK fl_X12_389_13 hs_a0 sl_13_58 kd46_0.2.2.2.2.1 (fun z2 ez2 lz2 uz2 => ?_)
  refine X_sipush hK kd46_0.2.2.2.2.2.1 (by decide) ?_
  refine X_icmp_eq hK 70 (by omega) (by omega) kd46_0.2.2.2.2.2.2.1 (by decide) (fun c3 => ?_) (fun c3 => ?_)
  · refine X_iconst hK kd46_2.2.2.2.2.2.2.2.1 ?_
    exact hret _ _ _ _ _ _ _ kd46_2.2.2.2.2.2.2.2.2.1 ⟨rfl, (-1), rfl, (by omega), (by omega)⟩ (Nat.le_refl _) (Nat.le_refl _)
  · refine X_aloadn hK (i := 0) 0 kd46_0.2.2.2.2.2.2.2.1 rfl rfl ?_
    refine X_geti hK fl_X12_239_13 hs_a0 sl_13_3 kd46_0.2.2.2.2.2.2.2.2.1 (fun z4 ez4 lz4 uz4 => ?_)
    refine X_sipush hK kd46_0.2.2.2.2.2.2.2.2.2.1 (by decide) ?_
    refine X_icmp_eq hK 70 (by omega) (by omega) kd46_0.2.2.2.2.2.2.2.2.2.2.1 (by decide) (fun c5 => ?_) (fun c5 => ?_)
    · refine X_iconst hK kd46_2.2.2.2.2.2.2.2.1 ?_
      exact hret _ _ _ _ _ _ _ kd46_2.2.2.2.2.2.2.2.2.1 ⟨rfl, (-1), rfl, (by omega), (by omega)⟩ (Nat.le_refl _) (Nat.le_refl _)
    · refine X_aloadn hK (i := 0) 0 kd46_0.2.2.2.2.2.2.2.2.2.2.2 rfl rfl ?_
      refine X_iloadn hK (i := 1) 1 kd46_1.1 rfl rfl ?_
      refine X_know hs_a0 (by decide) sl_13_16 (fun z6 ez6 lz6 uz6 => ?_)
      refine X_callV hK [.int (iI x1)] [] lk_X12_215 (c_X12_isBoy _ _ _ _ _ S g1 a0 x1 z6 hs_a0 (by omega) (by omega) ez6) hs_a0 ⟨by decide, rfl⟩ kd46_1.2.1 rfl rfl (by simp [Value.category]) (by decide) (by decide) (by decide) (by decide) (fun r7 S9 g8 pr7 qr7 hg8 => ?_)
      obtain ⟨rfl, rfl, z10, rfl, lz10, uz10, k11⟩ := pr7
      refine X_st [.int (iI z10)] rfl ?_
      refine X_if_eq hK 70 (by omega) kd46_1.2.2.1 (by decide) (fun c12 => ?_) (fun c12 => ?_)
      · refine X_iconst hK kd46_2.2.2.2.2.2.2.2.1 ?_
        exact hret _ _ _ _ _ _ _ kd46_2.2.2.2.2.2.2.2.2.1 ⟨rfl, (-1), rfl, (by omega), (by omega)⟩ (Nat.le_refl _) (Nat.le_refl _)
      · refine X_iloadn hK (i := 2) 2 kd46_1.2.2.2.1 rfl rfl ?_
        refine X_callS hK [.int (iI x2)] [] lk_X12_236 (c_X12_isPaper _ _ _ _ _ S g1 x2 (by omega)) kd46_1.2.2.2.2.1 rfl rfl (by simp [Value.category]) (by decide) (by decide) (by decide) (by decide) (fun r13 S15 g14 pr13 qr13 hg14 => ?_)
        obtain ⟨rfl, rfl, z16, rfl, lz16, uz16, k17⟩ := pr13
        refine X_st [.int (iI z16)] rfl ?_
        refine X_if_eq hK 70 (by omega) kd46_1.2.2.2.2.2.1 (by decide) (fun c18 => ?_) (fun c18 => ?_)
        · refine X_iconst hK kd46_2.2.2.2.2.2.2.2.1 ?_
          exact hret _ _ _ _ _ _ _ kd46_2.2.2.2.2.2.2.2.2.1 ⟨rfl, (-1), rfl, (by omega), (by omega)⟩ (Nat.le_refl _) (Nat.le_refl _)
        · refine X_iloadn hK (i := 3) 3 kd46_1.2.2.2.2.2.2.1 rfl rfl ?_
          refine X_callS hK [.int (iI x3)] [] lk_X12_219 (c_X12_isCorner _ _ _ _ _ S g1 x3 (by omega)) kd46_1.2.2.2.2.2.2.2.1 rfl rfl (by simp [Value.category]) (by decide) (by decide) (by decide) (by decide) (fun r19 S21 g20 pr19 qr19 hg20 => ?_)
          obtain ⟨rfl, rfl, z22, rfl, lz22, uz22, k23⟩ := pr19
          refine X_st [.int (iI z22)] rfl ?_
          refine X_if_eq hK 70 (by omega) kd46_1.2.2.2.2.2.2.2.2.1 (by decide) (fun c24 => ?_) (fun c24 => ?_)
          · refine X_iconst hK kd46_2.2.2.2.2.2.2.2.1 ?_
            exact hret _ _ _ _ _ _ _ kd46_2.2.2.2.2.2.2.2.2.1 ⟨rfl, (-1), rfl, (by omega), (by omega)⟩ (Nat.le_refl _) (Nat.le_refl _)
          · refine X_iload hK (i := 4) 4 kd46_1.2.2.2.2.2.2.2.2.2.1 rfl ?_
            refine X_iconst hK kd46_1.2.2.2.2.2.2.2.2.2.2.1 ?_
            refine X_sipush hK kd46_1.2.2.2.2.2.2.2.2.2.2.2 (by decide) ?_
            refine X_callS hK [.int (iI x4), .int (iI 1), .int (iI 1000)] [] lk_X12_211 (c_X12_isIn _ _ _ _ _ S g1 x4 1 1000 (by omega) (by omega) (by omega)) kd46_2.1 rfl rfl (by simp [Value.category]) (by decide) (by decide) (by decide) (by decide) (fun r25 S27 g26 pr25 qr25 hg26 => ?_)
            obtain ⟨rfl, rfl, z28, rfl, lz28, uz28, k29⟩ := pr25
            refine X_st [.int (iI z28)] rfl ?_
            refine X_if_eq hK 70 (by omega) kd46_2.2.1 (by decide) (fun c30 => ?_) (fun c30 => ?_)
            · refine X_iconst hK kd46_2.2.2.2.2.2.2.2.1 ?_
              exact hret _ _ _ _ _ _ _ kd46_2.2.2.2.2.2.2.2.2.1 ⟨rfl, (-1), rfl, (by omega), (by omega)⟩ (Nat.le_refl _) (Nat.le_refl _)
            · refine X_iload hK (i := 5) 5 kd46_2.2.2.1 rfl ?_
              refine X_iconst hK kd46_2.2.2.2.1 ?_
              refine X_bipush hK kd46_2.2.2.2.2.1 (by decide) ?_
              refine X_callS hK [.int (iI x5), .int (iI 4), .int (iI 20)] [] lk_X12_211 (c_X12_isIn _ _ _ _ _ S g1 x5 4 20 (by omega) (by omega) (by omega)) kd46_2.2.2.2.2.2.1 rfl rfl (by simp [Value.category]) (by decide) (by decide) (by decide) (by decide) (fun r31 S33 g32 pr31 qr31 hg32 => ?_)
              obtain ⟨rfl, rfl, z34, rfl, lz34, uz34, k35⟩ := pr31
              refine X_st [.int (iI z34)] rfl ?_
              refine X_if_ne hK 72 (by omega) kd46_2.2.2.2.2.2.2.1 (by decide) (fun c36 => ?_) (fun c36 => ?_)
              · refine X_aloadn hK (i := 0) 0 kd46_2.2.2.2.2.2.2.2.2.2.1 rfl rfl ?_
                refine X_iloadn hK (i := 1) 1 kd46_2.2.2.2.2.2.2.2.2.2.2.1 rfl rfl ?_
                refine X_iloadn hK (i := 2) 2 kd46_2.2.2.2.2.2.2.2.2.2.2.2 rfl rfl ?_
                refine X_iloadn hK (i := 3) 3 kd46_3.1 rfl rfl ?_
                refine X_iload hK (i := 4) 4 kd46_3.2.1 rfl ?_
                refine X_iload hK (i := 5) 5 kd46_3.2.2.1 rfl ?_
                refine X_aloadn hK (i := 0) 0 kd46_3.2.2.2.1 rfl rfl ?_
                refine X_getK hK fl_X12_239_13 hs_a0 ez4 kd46_3.2.2.2.2.1 ?_
                refine X_callV hK [.int (iI x1), .int (iI x2), .int (iI x3), .int (iI x4), .int (iI x5), .int (iI z4)] [] lk_X12_385 (c_X12_ask _ _ _ _ _ S g1 a0 x1 x2 x3 x4 x5 z4 hs_a0 (by omega) (by omega) (by omega) (by omega) (by omega) (by omega)) hs_a0 ⟨by decide, rfl⟩ kd46_3.2.2.2.2.2.1 rfl rfl (by simp [Value.category]) (by decide) (by decide) (by decide) (by decide) (fun r37 S39 g38 pr37 qr37 hg38 => ?_)
                obtain ⟨rfl, rfl⟩ := pr37
                refine X_st [] rfl ?_
                refine X_aloadn hK (i := 0) 0 kd46_3.2.2.2.2.2.2.1 rfl rfl ?_
                refine X_aloadn hK (i := 0) 0 kd46_3.2.2.2.2.2.2.2.1 rfl rfl ?_
                refine X_getK hK fl_X12_239_13 hs_a0 ((hg38 a0 13 0 3 hs_a0 (by decide)).trans ez4) kd46_3.2.2.2.2.2.2.2.2.1 ?_
                refine X_callV hK [.int (iI z4)] [] lk_X12_392 (c2_termsFor _ _ _ _ _ S g38 a0 z4 n8 hs_a0 (by omega) (by omega) ((hg38 a0 13 0 39 hs_a0 (by decide)).trans ((xs_k hg1 (by decide)).trans hpi10))) hs_a0 ⟨by decide, rfl⟩ kd46_3.2.2.2.2.2.2.2.2.2.1 rfl rfl (by simp [Value.category]) (by decide) (by decide) (by decide) (by decide) (fun r40 S42 g41 pr40 qr40 hg41 => ?_)
                obtain ⟨rfl, rfl, z43, rfl, lz43, uz43, k44⟩ := pr40
                refine X_st [.int (iI z43)] rfl ?_
                have tq45 : xTq (xv g38 wo) (xv g38 wf) (xv g38 wu) (xv g38 wp) z43 := xTa.q (by rw [(Eq.trans (xv_m hg38 hs_wo (by decide) (by decide)) (xv_a hg1 (xne hs_wo hs_a0 (by decide)))), (Eq.trans (xv_m hg38 hs_wf (by decide) (by decide)) (xv_a hg1 (xne hs_wf hs_a0 (by decide)))), (Eq.trans (xv_m hg38 hs_wu (by decide) (by decide)) (xv_a hg1 (xne hs_wu hs_a0 (by decide)))), (Eq.trans (xv_m hg38 hs_wp (by decide) (by decide)) (xv_a hg1 (xne hs_wp hs_a0 (by decide))))]; exact hta) (by omega) (by omega)
                refine X_istore hK (i := 6) [(6, .int (iI z43)), (0, .ref a0), (1, .int (iI x1)), (2, .int (iI x2)), (3, .int (iI x3)), (4, .int (iI x4)), (5, .int (iI x5))] kd46_3.2.2.2.2.2.2.2.2.2.2.1 (by decide) rfl ?_
                refine X_iload hK (i := 4) 5 kd46_3.2.2.2.2.2.2.2.2.2.2.2 rfl ?_
                refine X_aloadn hK (i := 0) 1 kd46_4.1 rfl rfl ?_
                refine X_iload hK (i := 6) 0 kd46_4.2.1 rfl ?_
                refine X_iconst hK kd46_4.2.2.1 ?_
                refine X_callV hK [.int (iI z43), .int (iI 0)] [.int (iI x4)] lk_X12_395 (c_X12_tells _ _ _ _ _ S g38 a0 z43 0 wo wf wu wp hs_a0 (by omega) (by omega) ((hg38 a0 13 0 29 hs_a0 (by decide)).trans ((xs_k hg1 (by decide)).trans hpi2)) hs_wo ((hg38 a0 13 0 33 hs_a0 (by decide)).trans ((xs_k hg1 (by decide)).trans hpi4)) hs_wf ((hg38 a0 13 0 34 hs_a0 (by decide)).trans ((xs_k hg1 (by decide)).trans hpi6)) hs_wu ((hg38 a0 13 0 35 hs_a0 (by decide)).trans ((xs_k hg1 (by decide)).trans hpi8)) hs_wp tq45) hs_a0 ⟨by decide, rfl⟩ kd46_4.2.2.2.1 rfl rfl (by simp [Value.category]) (by decide) (by decide) (by decide) (by decide) (fun r46 S48 g47 pr46 qr46 hg47 => ?_)
                obtain ⟨rfl, z49, rfl, lz49, uz49⟩ := pr46
                refine X_st [.int (iI z49), .int (iI x4)] rfl ?_
                refine X_callS hK [.int (iI x4), .int (iI z49)] [] lk_X12_399 (c_X12_cost _ _ _ _ _ S g47 x4 z49 (by omega) (by omega)) kd46_4.2.2.2.2.1 rfl rfl (by simp [Value.category]) (by decide) (by decide) (by decide) (by decide) (fun r50 S52 g51 pr50 qr50 hg51 => ?_)
                obtain ⟨rfl, rfl, z53, rfl, lz53, uz53⟩ := pr50
                refine X_st [.int (iI z53)] rfl ?_
                refine X_istore hK (i := 7) [(7, .int (iI z53)), (6, .int (iI z43)), (0, .ref a0), (1, .int (iI x1)), (2, .int (iI x2)), (3, .int (iI x3)), (4, .int (iI x4)), (5, .int (iI x5))] kd46_4.2.2.2.2.2.1 (by decide) rfl ?_
                refine X_iload hK (i := 4) 6 kd46_4.2.2.2.2.2.2.1 rfl ?_
                refine X_aloadn hK (i := 0) 2 kd46_4.2.2.2.2.2.2.2.1 rfl rfl ?_
                refine X_iload hK (i := 6) 1 kd46_4.2.2.2.2.2.2.2.2.1 rfl ?_
                refine X_iconst hK kd46_4.2.2.2.2.2.2.2.2.2.1 ?_
                refine X_callV hK [.int (iI z43), .int (iI 3)] [.int (iI x4)] lk_X12_395 (c_X12_tells _ _ _ _ _ S g47 a0 z43 3 wo wf wu wp hs_a0 (by omega) (by omega) ((hg47 a0 13 0 29 hs_a0 (by decide)).trans ((hg38 a0 13 0 29 hs_a0 (by decide)).trans ((xs_k hg1 (by decide)).trans hpi2))) hs_wo ((hg47 a0 13 0 33 hs_a0 (by decide)).trans ((hg38 a0 13 0 33 hs_a0 (by decide)).trans ((xs_k hg1 (by decide)).trans hpi4))) hs_wf ((hg47 a0 13 0 34 hs_a0 (by decide)).trans ((hg38 a0 13 0 34 hs_a0 (by decide)).trans ((xs_k hg1 (by decide)).trans hpi6))) hs_wu ((hg47 a0 13 0 35 hs_a0 (by decide)).trans ((hg38 a0 13 0 35 hs_a0 (by decide)).trans ((xs_k hg1 (by decide)).trans hpi8))) hs_wp (by rw [(xv_m hg47 hs_wo (by decide) (by decide)), (xv_m hg47 hs_wf (by decide) (by decide)), (xv_m hg47 hs_wu (by decide) (by decide)), (xv_m hg47 hs_wp (by decide) (by decide))]; exact tq45)) hs_a0 ⟨by decide, rfl⟩ kd46_4.2.2.2.2.2.2.2.2.2.2.1 rfl rfl (by simp [Value.category]) (by decide) (by decide) (by decide) (by decide) (fun r54 S56 g55 pr54 qr54 hg55 => ?_)
                obtain ⟨rfl, z57, rfl, lz57, uz57⟩ := pr54
                refine X_st [.int (iI z57), .int (iI x4)] rfl ?_
                refine X_icmp_gt hK 143 (by omega) (by omega) kd46_4.2.2.2.2.2.2.2.2.2.2.2 (by decide) (fun c58 => ?_) (fun c58 => ?_)
                · refine X_iconst hK kd46_6.1 ?_
                  exact hret _ _ _ _ _ _ _ kd46_6.2.1 ⟨rfl, (-1), rfl, (by omega), (by omega)⟩ (Nat.le_refl _) (Nat.le_refl _)
                · refine X_aloadn hK (i := 0) 2 kd46_5.1 rfl rfl ?_
                  refine X_getr hK 14500 40 fl_X12_22_13 hs_a0 sl_13_7 kd46_5.2.1 (fun b59 eb59 hs_b59 => ?_)
                  refine X_iloadn hK (i := 1) 3 kd46_5.2.2.1 rfl rfl ?_
                  refine X_iald hK hs_b59 (by decide) sl_14500 (by omega) (by omega) kd46_5.2.2.2.1 (fun z60 ez60 lz60 uz60 => ?_)
                  refine X_iload hK (i := 7) 0 kd46_5.2.2.2.2.1 rfl ?_
                  refine X_isub hK kd46_5.2.2.2.2.2.1 ?_
                  refine X_norm (fun z61 ez61 lz61 uz61 => ?_)
                  refine X_aloadn hK (i := 0) 2 kd46_5.2.2.2.2.2.2.1 rfl rfl ?_
                  refine X_iload hK (i := 6) 1 kd46_5.2.2.2.2.2.2.2.1 rfl ?_
                  refine X_iconst hK kd46_5.2.2.2.2.2.2.2.2.1 ?_
                  refine X_callV hK [.int (iI z43), .int (iI 5)] [.int (iI z61)] lk_X12_395 (c_X12_tells _ _ _ _ _ S g55 a0 z43 5 wo wf wu wp hs_a0 (by omega) (by omega) ((hg55 a0 13 0 29 hs_a0 (by decide)).trans ((hg47 a0 13 0 29 hs_a0 (by decide)).trans ((hg38 a0 13 0 29 hs_a0 (by decide)).trans ((xs_k hg1 (by decide)).trans hpi2)))) hs_wo ((hg55 a0 13 0 33 hs_a0 (by decide)).trans ((hg47 a0 13 0 33 hs_a0 (by decide)).trans ((hg38 a0 13 0 33 hs_a0 (by decide)).trans ((xs_k hg1 (by decide)).trans hpi4)))) hs_wf ((hg55 a0 13 0 34 hs_a0 (by decide)).trans ((hg47 a0 13 0 34 hs_a0 (by decide)).trans ((hg38 a0 13 0 34 hs_a0 (by decide)).trans ((xs_k hg1 (by decide)).trans hpi6)))) hs_wu ((hg55 a0 13 0 35 hs_a0 (by decide)).trans ((hg47 a0 13 0 35 hs_a0 (by decide)).trans ((hg38 a0 13 0 35 hs_a0 (by decide)).trans ((xs_k hg1 (by decide)).trans hpi8)))) hs_wp (by rw [(Eq.trans (xv_m hg55 hs_wo (by decide) (by decide)) (xv_m hg47 hs_wo (by decide) (by decide))), (Eq.trans (xv_m hg55 hs_wf (by decide) (by decide)) (xv_m hg47 hs_wf (by decide) (by decide))), (Eq.trans (xv_m hg55 hs_wu (by decide) (by decide)) (xv_m hg47 hs_wu (by decide) (by decide))), (Eq.trans (xv_m hg55 hs_wp (by decide) (by decide)) (xv_m hg47 hs_wp (by decide) (by decide)))]; exact tq45)) hs_a0 ⟨by decide, rfl⟩ kd46_5.2.2.2.2.2.2.2.2.2.1 rfl rfl (by simp [Value.category]) (by decide) (by decide) (by decide) (by decide) (fun r62 S64 g63 pr62 qr62 hg63 => ?_)
                  obtain ⟨rfl, z65, rfl, lz65, uz65⟩ := pr62
                  refine X_st [.int (iI z65), .int (iI z61)] rfl ?_
                  refine X_ineg hK kd46_5.2.2.2.2.2.2.2.2.2.2.1 ?_
                  refine X_norm (fun z66 ez66 lz66 uz66 => ?_)
                  refine X_icmp_ge hK 145 (by omega) (by omega) kd46_5.2.2.2.2.2.2.2.2.2.2.2 (by decide) (fun c67 => ?_) (fun c67 => ?_)
                  · refine X_aloadn hK (i := 0) 2 kd46_6.2.2.1 rfl rfl ?_
                    refine X_getK hK fl_X12_22_13 hs_a0 ((hg63 a0 13 0 7 hs_a0 (by decide)).trans eb59) kd46_6.2.2.2.1 ?_
                    refine X_iloadn hK (i := 1) 3 kd46_6.2.2.2.2.1 rfl rfl ?_
                    refine X_dup2 hK kd46_6.2.2.2.2.2.1 rfl rfl ?_
                    refine X_ialdK hK hs_b59 (by decide) (by omega) (by omega) ((hg63 _ _ _ _ hs_b59 (by rw [xky_a (by decide)]; decide)).trans ez60) kd46_6.2.2.2.2.2.2.1 ?_
                    refine X_iload hK (i := 7) 0 kd46_6.2.2.2.2.2.2.2.1 rfl ?_
                    refine X_isub hK kd46_6.2.2.2.2.2.2.2.2.1 ?_
                    refine X_norm (fun z68 ez68 lz68 uz68 => ?_)
                    refine X_iast hK hs_b59 (by decide) (by decide) sl_14500 (by omega) (by omega) (by omega) (by omega) kd46_6.2.2.2.2.2.2.2.2.2.1 (fun g69 hg69 => ?_)
                    refine X_aloadn hK (i := 0) 2 kd46_6.2.2.2.2.2.2.2.2.2.2.1 rfl rfl ?_
                    refine X_getr hK 16400 200 fl_X12_90_13 hs_a0 sl_13_48 kd46_6.2.2.2.2.2.2.2.2.2.2.2 (fun b70 eb70 hs_b70 => ?_)
                    refine X_aloadn hK (i := 0) 2 kd46_7.1 rfl rfl ?_
                    refine X_getK hK fl_X12_389_13 hs_a0 ((xs_a hg69 (xne hs_a0 hs_b59 (by decide))).trans ((hg63 a0 13 0 58 hs_a0 (by decide)).trans ((hg55 a0 13 0 58 hs_a0 (by decide)).trans ((hg47 a0 13 0 58 hs_a0 (by decide)).trans ((hg38 a0 13 0 58 hs_a0 (by decide)).trans ez2))))) kd46_7.2.1 ?_
                    refine X_iloadn hK (i := 1) 3 kd46_7.2.2.1 rfl rfl ?_
                    refine X_iast hK hs_b70 (by decide) (by decide) sl_16400 (by omega) (by omega) (by omega) (by omega) kd46_7.2.2.2.1 (fun g71 hg71 => ?_)
                    refine X_aloadn hK (i := 0) 2 kd46_7.2.2.2.2.1 rfl rfl ?_
                    refine X_getr hK 16500 200 fl_X12_93_13 hs_a0 sl_13_49 kd46_7.2.2.2.2.2.1 (fun b72 eb72 hs_b72 => ?_)
                    refine X_aloadn hK (i := 0) 2 kd46_7.2.2.2.2.2.2.1 rfl rfl ?_
                    refine X_getK hK fl_X12_389_13 hs_a0 ((xs_a hg71 (xne hs_a0 hs_b70 (by decide))).trans ((xs_a hg69 (xne hs_a0 hs_b59 (by decide))).trans ((hg63 a0 13 0 58 hs_a0 (by decide)).trans ((hg55 a0 13 0 58 hs_a0 (by decide)).trans ((hg47 a0 13 0 58 hs_a0 (by decide)).trans ((hg38 a0 13 0 58 hs_a0 (by decide)).trans ez2)))))) kd46_7.2.2.2.2.2.2.2.1 ?_
                    refine X_iloadn hK (i := 2) 4 kd46_7.2.2.2.2.2.2.2.2.1 rfl rfl ?_
                    refine X_iast hK hs_b72 (by decide) (by decide) sl_16500 (by omega) (by omega) (by omega) (by omega) kd46_7.2.2.2.2.2.2.2.2.2.1 (fun g73 hg73 => ?_)
                    refine X_aloadn hK (i := 0) 2 kd46_7.2.2.2.2.2.2.2.2.2.2.1 rfl rfl ?_
                    refine X_getr hK 16600 200 fl_X12_96_13 hs_a0 sl_13_50 kd46_7.2.2.2.2.2.2.2.2.2.2.2 (fun b74 eb74 hs_b74 => ?_)
                    refine X_aloadn hK (i := 0) 2 kd46_8.1 rfl rfl ?_
                    refine X_getK hK fl_X12_389_13 hs_a0 ((xs_a hg73 (xne hs_a0 hs_b72 (by decide))).trans ((xs_a hg71 (xne hs_a0 hs_b70 (by decide))).trans ((xs_a hg69 (xne hs_a0 hs_b59 (by decide))).trans ((hg63 a0 13 0 58 hs_a0 (by decide)).trans ((hg55 a0 13 0 58 hs_a0 (by decide)).trans ((hg47 a0 13 0 58 hs_a0 (by decide)).trans ((hg38 a0 13 0 58 hs_a0 (by decide)).trans ez2))))))) kd46_8.2.1 ?_
                    refine X_iloadn hK (i := 3) 5 kd46_8.2.2.1 rfl rfl ?_
                    refine X_iast hK hs_b74 (by decide) (by decide) sl_16600 (by omega) (by omega) (by omega) (by omega) kd46_8.2.2.2.1 (fun g75 hg75 => ?_)
                    refine X_aloadn hK (i := 0) 2 kd46_8.2.2.2.2.1 rfl rfl ?_
                    refine X_getr hK 16700 200 fl_X12_99_13 hs_a0 sl_13_51 kd46_8.2.2.2.2.2.1 (fun b76 eb76 hs_b76 => ?_)
                    refine X_aloadn hK (i := 0) 2 kd46_8.2.2.2.2.2.2.1 rfl rfl ?_
                    refine X_getK hK fl_X12_389_13 hs_a0 ((xs_a hg75 (xne hs_a0 hs_b74 (by decide))).trans ((xs_a hg73 (xne hs_a0 hs_b72 (by decide))).trans ((xs_a hg71 (xne hs_a0 hs_b70 (by decide))).trans ((xs_a hg69 (xne hs_a0 hs_b59 (by decide))).trans ((hg63 a0 13 0 58 hs_a0 (by decide)).trans ((hg55 a0 13 0 58 hs_a0 (by decide)).trans ((hg47 a0 13 0 58 hs_a0 (by decide)).trans ((hg38 a0 13 0 58 hs_a0 (by decide)).trans ez2)))))))) kd46_8.2.2.2.2.2.2.2.1 ?_
                    refine X_iload hK (i := 4) 6 kd46_8.2.2.2.2.2.2.2.2.1 rfl ?_
                    refine X_iast hK hs_b76 (by decide) (by decide) sl_16700 (by omega) (by omega) (by omega) (by omega) kd46_8.2.2.2.2.2.2.2.2.2.1 (fun g77 hg77 => ?_)
                    refine X_aloadn hK (i := 0) 2 kd46_8.2.2.2.2.2.2.2.2.2.2.1 rfl rfl ?_
                    refine X_getr hK 16800 200 fl_X12_102_13 hs_a0 sl_13_52 kd46_8.2.2.2.2.2.2.2.2.2.2.2 (fun b78 eb78 hs_b78 => ?_)
                    refine X_aloadn hK (i := 0) 2 kd46_9.1 rfl rfl ?_
                    refine X_getK hK fl_X12_389_13 hs_a0 ((xs_a hg77 (xne hs_a0 hs_b76 (by decide))).trans ((xs_a hg75 (xne hs_a0 hs_b74 (by decide))).trans ((xs_a hg73 (xne hs_a0 hs_b72 (by decide))).trans ((xs_a hg71 (xne hs_a0 hs_b70 (by decide))).trans ((xs_a hg69 (xne hs_a0 hs_b59 (by decide))).trans ((hg63 a0 13 0 58 hs_a0 (by decide)).trans ((hg55 a0 13 0 58 hs_a0 (by decide)).trans ((hg47 a0 13 0 58 hs_a0 (by decide)).trans ((hg38 a0 13 0 58 hs_a0 (by decide)).trans ez2))))))))) kd46_9.2.1 ?_
                    refine X_iload hK (i := 5) 7 kd46_9.2.2.1 rfl ?_
                    refine X_iast hK hs_b78 (by decide) (by decide) sl_16800 (by omega) (by omega) (by omega) (by omega) kd46_9.2.2.2.1 (fun g79 hg79 => ?_)
                    refine X_aloadn hK (i := 0) 2 kd46_9.2.2.2.2.1 rfl rfl ?_
                    refine X_getr hK 16900 200 fl_X12_105_13 hs_a0 sl_13_53 kd46_9.2.2.2.2.2.1 (fun b80 eb80 hs_b80 => ?_)
                    refine X_aloadn hK (i := 0) 2 kd46_9.2.2.2.2.2.2.1 rfl rfl ?_
                    refine X_getK hK fl_X12_389_13 hs_a0 ((xs_a hg79 (xne hs_a0 hs_b78 (by decide))).trans ((xs_a hg77 (xne hs_a0 hs_b76 (by decide))).trans ((xs_a hg75 (xne hs_a0 hs_b74 (by decide))).trans ((xs_a hg73 (xne hs_a0 hs_b72 (by decide))).trans ((xs_a hg71 (xne hs_a0 hs_b70 (by decide))).trans ((xs_a hg69 (xne hs_a0 hs_b59 (by decide))).trans ((hg63 a0 13 0 58 hs_a0 (by decide)).trans ((hg55 a0 13 0 58 hs_a0 (by decide)).trans ((hg47 a0 13 0 58 hs_a0 (by decide)).trans ((hg38 a0 13 0 58 hs_a0 (by decide)).trans ez2)))))))))) kd46_9.2.2.2.2.2.2.2.1 ?_
                    refine X_aloadn hK (i := 0) 2 kd46_9.2.2.2.2.2.2.2.2.1 rfl rfl ?_
                    refine X_getK hK fl_X12_239_13 hs_a0 ((xs_a hg79 (xne hs_a0 hs_b78 (by decide))).trans ((xs_a hg77 (xne hs_a0 hs_b76 (by decide))).trans ((xs_a hg75 (xne hs_a0 hs_b74 (by decide))).trans ((xs_a hg73 (xne hs_a0 hs_b72 (by decide))).trans ((xs_a hg71 (xne hs_a0 hs_b70 (by decide))).trans ((xs_a hg69 (xne hs_a0 hs_b59 (by decide))).trans ((hg63 a0 13 0 3 hs_a0 (by decide)).trans ((hg55 a0 13 0 3 hs_a0 (by decide)).trans ((hg47 a0 13 0 3 hs_a0 (by decide)).trans ((hg38 a0 13 0 3 hs_a0 (by decide)).trans ez4)))))))))) kd46_9.2.2.2.2.2.2.2.2.2.1 ?_
                    refine X_iast hK hs_b80 (by decide) (by decide) sl_16900 (by omega) (by omega) (by omega) (by omega) kd46_9.2.2.2.2.2.2.2.2.2.2.1 (fun g81 hg81 => ?_)
                    refine X_aloadn hK (i := 0) 2 kd46_9.2.2.2.2.2.2.2.2.2.2.2 rfl rfl ?_
                    refine X_getr hK 17000 200 fl_X12_108_13 hs_a0 sl_13_54 kd46_10.1 (fun b82 eb82 hs_b82 => ?_)
                    refine X_aloadn hK (i := 0) 2 kd46_10.2.1 rfl rfl ?_
                    refine X_getK hK fl_X12_389_13 hs_a0 ((xs_a hg81 (xne hs_a0 hs_b80 (by decide))).trans ((xs_a hg79 (xne hs_a0 hs_b78 (by decide))).trans ((xs_a hg77 (xne hs_a0 hs_b76 (by decide))).trans ((xs_a hg75 (xne hs_a0 hs_b74 (by decide))).trans ((xs_a hg73 (xne hs_a0 hs_b72 (by decide))).trans ((xs_a hg71 (xne hs_a0 hs_b70 (by decide))).trans ((xs_a hg69 (xne hs_a0 hs_b59 (by decide))).trans ((hg63 a0 13 0 58 hs_a0 (by decide)).trans ((hg55 a0 13 0 58 hs_a0 (by decide)).trans ((hg47 a0 13 0 58 hs_a0 (by decide)).trans ((hg38 a0 13 0 58 hs_a0 (by decide)).trans ez2))))))))))) kd46_10.2.2.1 ?_
                    refine X_iload hK (i := 7) 0 kd46_10.2.2.2.1 rfl ?_
                    refine X_iast hK hs_b82 (by decide) (by decide) sl_17000 (by omega) (by omega) (by omega) (by omega) kd46_10.2.2.2.2.1 (fun g83 hg83 => ?_)
                    refine X_aloadn hK (i := 0) 2 kd46_10.2.2.2.2.2.1 rfl rfl ?_
                    refine X_dup hK kd46_10.2.2.2.2.2.2.1 rfl ?_
                    refine X_getK hK fl_X12_389_13 hs_a0 ((xs_a hg83 (xne hs_a0 hs_b82 (by decide))).trans ((xs_a hg81 (xne hs_a0 hs_b80 (by decide))).trans ((xs_a hg79 (xne hs_a0 hs_b78 (by decide))).trans ((xs_a hg77 (xne hs_a0 hs_b76 (by decide))).trans ((xs_a hg75 (xne hs_a0 hs_b74 (by decide))).trans ((xs_a hg73 (xne hs_a0 hs_b72 (by decide))).trans ((xs_a hg71 (xne hs_a0 hs_b70 (by decide))).trans ((xs_a hg69 (xne hs_a0 hs_b59 (by decide))).trans ((hg63 a0 13 0 58 hs_a0 (by decide)).trans ((hg55 a0 13 0 58 hs_a0 (by decide)).trans ((hg47 a0 13 0 58 hs_a0 (by decide)).trans ((hg38 a0 13 0 58 hs_a0 (by decide)).trans ez2)))))))))))) kd46_10.2.2.2.2.2.2.2.1 ?_
                    refine X_iconst hK kd46_10.2.2.2.2.2.2.2.2.1 ?_
                    refine X_iadd hK kd46_10.2.2.2.2.2.2.2.2.2.1 ?_
                    refine X_puti hK fl_X12_389_13 hs_a0 (by decide) sl_13_58 (by omega) (by omega) kd46_10.2.2.2.2.2.2.2.2.2.2.1 (fun g84 hg84 => ?_)
                    refine X_aloadn hK (i := 0) 2 kd46_10.2.2.2.2.2.2.2.2.2.2.2 rfl rfl ?_
                    refine X_getK hK fl_X12_389_13 hs_a0 (xs_s hg84) kd46_11.1 ?_
                    refine X_iconst hK kd46_11.2.1 ?_
                    refine X_isub hK kd46_11.2.2.1 ?_
                    exact hret _ _ _ _ _ _ _ kd46_11.2.2.2.1 ⟨rfl, ((z2 + 1) - 1), rfl, (by omega), (by omega)⟩ (Nat.le_refl _) (Nat.le_refl _)
                  · refine X_iconst hK kd46_6.1 ?_
                    exact hret _ _ _ _ _ _ _ kd46_6.2.1 ⟨rfl, (-1), rfl, (by omega), (by omega)⟩ (Nat.le_refl _) (Nat.le_refl _)
              · refine X_iconst hK kd46_2.2.2.2.2.2.2.2.1 ?_
                exact hret _ _ _ _ _ _ _ kd46_2.2.2.2.2.2.2.2.2.1 ⟨rfl, (-1), rfl, (by omega), (by omega)⟩ (Nat.le_refl _) (Nat.le_refl _)

set_option maxHeartbeats 4000000 in
set_option maxRecDepth 100000 in
theorem c_X12_told (l : Launch) (D : va_G) (kA : Nat → ClassId) (b0 : Nat) (t0 : Nat → Nat) (S : xT) (g : xG) (a0 : Nat) (x1 : Int) (x2 : Int) (hs_a0 : S a0 = some (13, 0)) (hx1 : (-2147483648) ≤ x1 ∧ x1 ≤ 2147483647) (hx2 : (-2147483648) ≤ x2 ∧ x2 ≤ 2147483647) (hp0 : xTw S g a0) : xMt l yX12_told cX12_told 4 (some .int) 3 0 0 68 D kA b0 t0 [(13, 0), (16300, 0), (13, 47), (19401, 0), (13, 59)] [.ref a0, .int (iI x1), .int (iI x2)] S g (fun (r : Option Value) (S1 : xT) (g1 : xG) => S = S1 ∧ ∃ z : Int, r = some (.int (iI z)) ∧ (-2147483648) ≤ z ∧ z ≤ 2147483647) := by
  refine xEnterI (by decide) (by simp [lg_sl, Value.category]) [(0, .ref a0), (1, .int (iI x1)), (2, .int (iI x2))] rfl ?_
  intro K E hK hret _ _ _
  refine X_aloadn hK (i := 0) 0 kd46_81.2.1 rfl rfl ?_
  obtain ⟨wo, wf, wu, wp, n8, hpi1, hpi2, hs_wo, hpi4, hs_wf, hpi6, hs_wu, hpi8, hs_wp, hpi10, hpi11, hpi12, hta⟩ := hp0
  refine X_wt (fun hW => ?_)
  have hlo : ∀ t : Int, 0 ≤ t → t < 11 → 0 ≤ xv g wo t ∧ xv g wo t ≤ 16 := fun k q1 q2 => xv_r hW hs_wo (by decide) sl_15300 (by decide) k q1 (by omega)
  refine X_iconst hK kd46_81.2.2.1 ?_
  refine X_puti hK fl_X12_198_13 hs_a0 (by decide) sl_13_0 (by omega) (by omega) kd46_81.2.2.2.1 (fun g1 hg1 => ?_)
  refine X_iloadn hK (i := 1) 1 kd46_81.2.2.2.2.1 rfl rfl ?_
  refine X_iconst hK kd46_81.2.2.2.2.2.1 ?_
  refine X_aloadn hK (i := 0) 0 kd46_81.2.2.2.2.2.2.1 rfl rfl ?_
  refine X_geti hK fl_X12_389_13 hs_a0 sl_13_58 kd46_81.2.2.2.2.2.2.2.1 (fun z2 ez2 lz2 uz2 => ?_)
  refine X_iconst hK kd46_81.2.2.2.2.2.2.2.2.1 ?_
  refine X_isub hK kd46_81.2.2.2.2.2.2.2.2.2.1 ?_
  refine X_callS hK [.int (iI x1), .int (iI 0), .int (iI (z2 - 1))] [] lk_X12_211 (c_X12_isIn _ _ _ _ _ S g1 x1 0 (z2 - 1) (by omega) (by omega) (by omega)) kd46_81.2.2.2.2.2.2.2.2.2.2.1 rfl rfl (by simp [Value.category]) (by decide) (by decide) (by decide) (by decide) (fun r3 S5 g4 pr3 qr3 hg4 => ?_)
  obtain ⟨rfl, rfl, z6, rfl, lz6, uz6, k7⟩ := pr3
  refine X_st [.int (iI z6)] rfl ?_
  refine X_if_eq hK 28 (by omega) kd46_81.2.2.2.2.2.2.2.2.2.2.2 (by decide) (fun c8 => ?_) (fun c8 => ?_)
  · refine X_iconst hK kd46_82.2.2.2.2.2.1 ?_
    exact hret _ _ _ _ _ _ _ kd46_82.2.2.2.2.2.2.1 ⟨rfl, (-1), rfl, (by omega), (by omega)⟩ (Nat.le_refl _) (Nat.le_refl _)
  · refine X_iloadn hK (i := 2) 2 kd46_82.1 rfl rfl ?_
    refine X_iconst hK kd46_82.2.1 ?_
    refine X_iconst hK kd46_82.2.2.1 ?_
    refine X_callS hK [.int (iI x2), .int (iI 0), .int (iI 5)] [] lk_X12_211 (c_X12_isIn _ _ _ _ _ S g1 x2 0 5 (by omega) (by omega) (by omega)) kd46_82.2.2.2.1 rfl rfl (by simp [Value.category]) (by decide) (by decide) (by decide) (by decide) (fun r9 S11 g10 pr9 qr9 hg10 => ?_)
    obtain ⟨rfl, rfl, z12, rfl, lz12, uz12, k13⟩ := pr9
    refine X_st [.int (iI z12)] rfl ?_
    refine X_if_ne hK 30 (by omega) kd46_82.2.2.2.2.1 (by decide) (fun c14 => ?_) (fun c14 => ?_)
    · refine X_aloadn hK (i := 0) 0 kd46_82.2.2.2.2.2.2.2.1 rfl rfl ?_
      refine X_iloadn hK (i := 1) 1 kd46_82.2.2.2.2.2.2.2.2.1 rfl rfl ?_
      refine X_callV hK [.int (iI x1)] [] lk_X12_402 (c_X12_askOf _ _ _ _ _ S g1 a0 x1 hs_a0 (by omega)) hs_a0 ⟨by decide, rfl⟩ kd46_82.2.2.2.2.2.2.2.2.2.1 rfl rfl (by simp [Value.category]) (by decide) (by decide) (by decide) (by decide) (fun r15 S17 g16 pr15 qr15 hg16 => ?_)
      obtain ⟨rfl, rfl⟩ := pr15
      refine X_st [] rfl ?_
      refine X_aloadn hK (i := 0) 0 kd46_82.2.2.2.2.2.2.2.2.2.2.1 rfl rfl ?_
      refine X_aloadn hK (i := 0) 0 kd46_82.2.2.2.2.2.2.2.2.2.2.2 rfl rfl ?_
      refine X_aloadn hK (i := 0) 0 kd46_83.1 rfl rfl ?_
      refine X_getr hK 16900 200 fl_X12_105_13 hs_a0 sl_13_53 kd46_83.2.1 (fun b18 eb18 hs_b18 => ?_)
      refine X_iloadn hK (i := 1) 1 kd46_83.2.2.1 rfl rfl ?_
      refine X_iald hK hs_b18 (by decide) sl_16900 (by omega) (by omega) kd46_83.2.2.2.1 (fun z19 ez19 lz19 uz19 => ?_)
      refine X_callV hK [.int (iI z19)] [.ref a0] lk_X12_392 (c2_termsFor _ _ _ _ _ S g16 a0 z19 n8 hs_a0 (by omega) (by omega) ((hg16 a0 13 0 39 hs_a0 (by decide)).trans ((xs_k hg1 (by decide)).trans hpi10))) hs_a0 ⟨by decide, rfl⟩ kd46_83.2.2.2.2.1 rfl rfl (by simp [Value.category]) (by decide) (by decide) (by decide) (by decide) (fun r20 S22 g21 pr20 qr20 hg21 => ?_)
      obtain ⟨rfl, rfl, z23, rfl, lz23, uz23, k24⟩ := pr20
      refine X_st [.int (iI z23), .ref a0] rfl ?_
      have tq25 : xTq (xv g16 wo) (xv g16 wf) (xv g16 wu) (xv g16 wp) z23 := xTa.q (by rw [(Eq.trans (xv_m hg16 hs_wo (by decide) (by decide)) (xv_a hg1 (xne hs_wo hs_a0 (by decide)))), (Eq.trans (xv_m hg16 hs_wf (by decide) (by decide)) (xv_a hg1 (xne hs_wf hs_a0 (by decide)))), (Eq.trans (xv_m hg16 hs_wu (by decide) (by decide)) (xv_a hg1 (xne hs_wu hs_a0 (by decide)))), (Eq.trans (xv_m hg16 hs_wp (by decide) (by decide)) (xv_a hg1 (xne hs_wp hs_a0 (by decide))))]; exact hta) (by omega) (by omega)
      refine X_iloadn hK (i := 2) 2 kd46_83.2.2.2.2.2.1 rfl rfl ?_
      refine X_callV hK [.int (iI z23), .int (iI x2)] [] lk_X12_395 (c_X12_tells _ _ _ _ _ S g16 a0 z23 x2 wo wf wu wp hs_a0 (by omega) (by omega) ((hg16 a0 13 0 29 hs_a0 (by decide)).trans ((xs_k hg1 (by decide)).trans hpi2)) hs_wo ((hg16 a0 13 0 33 hs_a0 (by decide)).trans ((xs_k hg1 (by decide)).trans hpi4)) hs_wf ((hg16 a0 13 0 34 hs_a0 (by decide)).trans ((xs_k hg1 (by decide)).trans hpi6)) hs_wu ((hg16 a0 13 0 35 hs_a0 (by decide)).trans ((xs_k hg1 (by decide)).trans hpi8)) hs_wp tq25) hs_a0 ⟨by decide, rfl⟩ kd46_83.2.2.2.2.2.2.1 rfl rfl (by simp [Value.category]) (by decide) (by decide) (by decide) (by decide) (fun r26 S28 g27 pr26 qr26 hg27 => ?_)
      obtain ⟨rfl, z29, rfl, lz29, uz29⟩ := pr26
      refine X_st [.int (iI z29)] rfl ?_
      refine X_istoren hK (i := 3) [(3, .int (iI z29)), (0, .ref a0), (1, .int (iI x1)), (2, .int (iI x2))] kd46_83.2.2.2.2.2.2.2.1 rfl (by decide) rfl ?_
      refine X_aloadn hK (i := 0) 1 kd46_83.2.2.2.2.2.2.2.2.1 rfl rfl ?_
      refine X_aloadn hK (i := 0) 1 kd46_83.2.2.2.2.2.2.2.2.2.1 rfl rfl ?_
      refine X_geti hK fl_X12_86_13 hs_a0 sl_13_47 kd46_83.2.2.2.2.2.2.2.2.2.2.1 (fun z30 ez30 lz30 uz30 => ?_)
      refine X_puti hK fl_X12_120_13 hs_a0 (by decide) sl_13_59 (by omega) (by omega) kd46_83.2.2.2.2.2.2.2.2.2.2.2 (fun g31 hg31 => ?_)
      refine X_iloadn hK (i := 2) 3 kd46_84.1 rfl rfl ?_
      refine X_iconst hK kd46_84.2.1 ?_
      refine X_icmp_ne hK 75 (by omega) (by omega) kd46_84.2.2.1 (by decide) (fun c32 => ?_) (fun c32 => ?_)
      · refine X_iloadn hK (i := 3) 0 kd46_84.2.2.2.2.2.2.2.2.1 rfl rfl ?_
        exact hret _ _ _ _ _ _ _ kd46_84.2.2.2.2.2.2.2.2.2.1 ⟨rfl, z29, rfl, (by omega), (by omega)⟩ (Nat.le_refl _) (Nat.le_refl _)
      · refine X_iloadn hK (i := 3) 0 kd46_84.2.2.2.1 rfl rfl ?_
        refine X_bipush hK kd46_84.2.2.2.2.1 (by decide) ?_
        refine X_icmp_le hK 75 (by omega) (by omega) kd46_84.2.2.2.2.2.1 (by decide) (fun c33 => ?_) (fun c33 => ?_)
        · refine X_iloadn hK (i := 3) 0 kd46_84.2.2.2.2.2.2.2.2.1 rfl rfl ?_
          exact hret _ _ _ _ _ _ _ kd46_84.2.2.2.2.2.2.2.2.2.1 ⟨rfl, z29, rfl, (by omega), (by omega)⟩ (Nat.le_refl _) (Nat.le_refl _)
        · refine X_bipush hK kd46_84.2.2.2.2.2.2.1 (by decide) ?_
          refine X_goto hK 76 kd46_84.2.2.2.2.2.2.2.1 (by decide) ?_
          exact hret _ _ _ _ _ _ _ kd46_84.2.2.2.2.2.2.2.2.2.1 ⟨rfl, 100, rfl, (by omega), (by omega)⟩ (Nat.le_refl _) (Nat.le_refl _)
    · refine X_iconst hK kd46_82.2.2.2.2.2.1 ?_
      exact hret _ _ _ _ _ _ _ kd46_82.2.2.2.2.2.2.1 ⟨rfl, (-1), rfl, (by omega), (by omega)⟩ (Nat.le_refl _) (Nat.le_refl _)

set_option maxHeartbeats 4000000 in
set_option maxRecDepth 100000 in
theorem c2_firstAt (l : Launch) (D : va_G) (kA : Nat → ClassId) (b0 : Nat) (t0 : Nat → Nat) (S : xT) (g : xG) (a0 : Nat) (x1 : Int) (x2 : Int) (wc : Nat) (hs_a0 : S a0 = some (13, 0)) (hx1 : (-2147483648) ≤ x1 ∧ x1 ≤ 2147483647) (hx2 : (-2147483648) ≤ x2 ∧ x2 ≤ 2147483647) (ewc : g a0 62 = .ref wc) (hs_wc : S wc = some (19501, 200)) : xMt l yX12_firstAt cX12_firstAt 5 (some .int) 1 0 0 24 D kA b0 t0 [] [.ref a0, .int (iI x1), .int (iI x2)] S g (fun (r : Option Value) (S1 : xT) (g1 : xG) => S = S1 ∧ g = g1 ∧ ∃ z : Int, r = some (.int (iI z)) ∧ (-1) ≤ z ∧ z ≤ 199 ∧ (z ≠ -1 → z ≤ 199 ∧ xv g wc z = 0)) := by
  refine xEnterI (by decide) (by simp [lg_sl, Value.category]) [(0, .ref a0), (1, .int (iI x1)), (2, .int (iI x2))] rfl ?_
  intro K E hK hret _ _ _
  refine X_iconst hK kd28_66.2.2.2.2.2.1 ?_
  refine X_istoren hK (i := 3) [(3, .int (iI (-1))), (0, .ref a0), (1, .int (iI x1)), (2, .int (iI x2))] kd28_66.2.2.2.2.2.2.1 rfl (by decide) rfl ?_
  refine X_iconst hK kd28_66.2.2.2.2.2.2.2.1 ?_
  refine X_istore hK (i := 4) [(4, .int (iI 0)), (3, .int (iI (-1))), (0, .ref a0), (1, .int (iI x1)), (2, .int (iI x2))] kd28_66.2.2.2.2.2.2.2.2.1 (by decide) rfl ?_
  have P109 : ∀ (nP109 : Nat) (z91 : Int) (_ : 0 ≤ z91) (_ : z91 ≤ 200) (z92 : Int) (_ : (-1) ≤ z92) (_ : z92 ≤ 199) (_ : z92 ≠ -1 → z92 ≤ 199 ∧ xv g wc z92 = 0) (_ : 216 - z91 < (nP109 : Int)), X K E 5 [(4, .int (iI z91)), (3, .int (iI z92)), (0, .ref a0), (1, .int (iI x1)), (2, .int (iI x2))] [] S g 0 0 := by
    intro nP109
    induction nP109 with
    | zero => intro z91 lz91 uz91 z92 lz92 uz92 v110 mP109; exact False.elim (by omega)
    | succ nP109 ihP109 =>
      intro z91 lz91 uz91 z92 lz92 uz92 v110 mP109
      refine X_iload hK (i := 4) 0 kd28_66.2.2.2.2.2.2.2.2.2.1 rfl ?_
      refine X_aloadn hK (i := 0) 2 kd28_66.2.2.2.2.2.2.2.2.2.2.1 rfl rfl ?_
      refine X_geti hK fl_X12_389_13 hs_a0 sl_13_58 kd28_66.2.2.2.2.2.2.2.2.2.2.2 (fun z111 ez111 lz111 uz111 => ?_)
      refine X_icmp_ge hK 70 (by omega) (by omega) kd28_67.1 (by decide) (fun c112 => ?_) (fun c112 => ?_)
      · refine X_iloadn hK (i := 3) 1 kd28_69.2.2.2.2.2.2.1 rfl rfl ?_
        exact hret _ _ _ _ _ _ _ kd28_69.2.2.2.2.2.2.2.1 ⟨rfl, rfl, z92, rfl, (by omega), (by omega), (fun h9 => by have h8 := v110 h9; exact h8)⟩ (Nat.le_refl _) (Nat.le_refl _)
      · refine X_aloadn hK (i := 0) 2 kd28_67.2.1 rfl rfl ?_
        refine X_getK hK fl_X12_129_13 hs_a0 ewc kd28_67.2.2.1 ?_
        refine X_iload hK (i := 4) 0 kd28_67.2.2.2.1 rfl ?_
        refine X_zald hK hs_wc (by decide) sl_19501 (by omega) (by omega) kd28_67.2.2.2.2.1 (fun z113 ez113 lz113 uz113 => ?_)
        have hvz113 := xv_e (j := z91) ez113 (by omega)
        refine X_if_ne hK 64 (by omega) kd28_67.2.2.2.2.2.1 (by decide) (fun c114 => ?_) (fun c114 => ?_)
        · refine X_iinc hK (i := 4) (z := z91) (n := 1) 0 [(4, .int (iI (z91 + 1))), (3, .int (iI z92)), (0, .ref a0), (1, .int (iI x1)), (2, .int (iI x2))] kd28_69.2.2.2.2.1 rfl (by decide) rfl ?_
          refine X_goto hK 5 kd28_69.2.2.2.2.2.1 (by decide) ?_
          exact ihP109  (z91 + 1) (by omega) (by omega) z92 (by omega) (by omega) (fun h9 => by first | exact v110 h9 | exact ⟨by omega, by omega⟩) (by omega)
        · refine X_aloadn hK (i := 0) 2 kd28_67.2.2.2.2.2.2.1 rfl rfl ?_
          refine X_getr hK 16600 200 fl_X12_96_13 hs_a0 sl_13_50 kd28_67.2.2.2.2.2.2.2.1 (fun b115 eb115 hs_b115 => ?_)
          refine X_iload hK (i := 4) 0 kd28_67.2.2.2.2.2.2.2.2.1 rfl ?_
          refine X_iald hK hs_b115 (by decide) sl_16600 (by omega) (by omega) kd28_67.2.2.2.2.2.2.2.2.2.1 (fun z116 ez116 lz116 uz116 => ?_)
          refine X_iloadn hK (i := 1) 3 kd28_67.2.2.2.2.2.2.2.2.2.2.1 rfl rfl ?_
          refine X_icmp_ne hK 64 (by omega) (by omega) kd28_67.2.2.2.2.2.2.2.2.2.2.2 (by decide) (fun c117 => ?_) (fun c117 => ?_)
          · refine X_iinc hK (i := 4) (z := z91) (n := 1) 0 [(4, .int (iI (z91 + 1))), (3, .int (iI z92)), (0, .ref a0), (1, .int (iI x1)), (2, .int (iI x2))] kd28_69.2.2.2.2.1 rfl (by decide) rfl ?_
            refine X_goto hK 5 kd28_69.2.2.2.2.2.1 (by decide) ?_
            exact ihP109  (z91 + 1) (by omega) (by omega) z92 (by omega) (by omega) (fun h9 => by first | exact v110 h9 | exact ⟨by omega, by omega⟩) (by omega)
          · refine X_aloadn hK (i := 0) 2 kd28_68.1 rfl rfl ?_
            refine X_getr hK 16500 200 fl_X12_93_13 hs_a0 sl_13_49 kd28_68.2.1 (fun b118 eb118 hs_b118 => ?_)
            refine X_iload hK (i := 4) 0 kd28_68.2.2.1 rfl ?_
            refine X_iald hK hs_b118 (by decide) sl_16500 (by omega) (by omega) kd28_68.2.2.2.1 (fun z119 ez119 lz119 uz119 => ?_)
            refine X_iloadn hK (i := 2) 4 kd28_68.2.2.2.2.1 rfl rfl ?_
            refine X_icmp_ne hK 64 (by omega) (by omega) kd28_68.2.2.2.2.2.1 (by decide) (fun c120 => ?_) (fun c120 => ?_)
            · refine X_iinc hK (i := 4) (z := z91) (n := 1) 0 [(4, .int (iI (z91 + 1))), (3, .int (iI z92)), (0, .ref a0), (1, .int (iI x1)), (2, .int (iI x2))] kd28_69.2.2.2.2.1 rfl (by decide) rfl ?_
              refine X_goto hK 5 kd28_69.2.2.2.2.2.1 (by decide) ?_
              exact ihP109  (z91 + 1) (by omega) (by omega) z92 (by omega) (by omega) (fun h9 => by first | exact v110 h9 | exact ⟨by omega, by omega⟩) (by omega)
            · refine X_iloadn hK (i := 3) 1 kd28_68.2.2.2.2.2.2.1 rfl rfl ?_
              refine X_iconst hK kd28_68.2.2.2.2.2.2.2.1 ?_
              refine X_icmp_eq hK 61 (by omega) (by omega) kd28_68.2.2.2.2.2.2.2.2.1 (by decide) (fun c121 => ?_) (fun c121 => ?_)
              · refine X_iload hK (i := 4) 0 kd28_69.2.2.1 rfl ?_
                refine X_istoren hK (i := 3) [(3, .int (iI z91)), (4, .int (iI z91)), (0, .ref a0), (1, .int (iI x1)), (2, .int (iI x2))] kd28_69.2.2.2.1 rfl (by decide) rfl ?_
                refine X_iinc hK (i := 4) (z := z91) (n := 1) 1 [(4, .int (iI (z91 + 1))), (3, .int (iI z91)), (0, .ref a0), (1, .int (iI x1)), (2, .int (iI x2))] kd28_69.2.2.2.2.1 rfl (by decide) rfl ?_
                refine X_goto hK 5 kd28_69.2.2.2.2.2.1 (by decide) ?_
                exact ihP109  (z91 + 1) (by omega) (by omega) z91 (by omega) (by omega) (fun h9 => by first | exact v110 h9 | exact ⟨by omega, by omega⟩) (by omega)
              · refine X_aloadn hK (i := 0) 2 kd28_68.2.2.2.2.2.2.2.2.2.1 rfl rfl ?_
                refine X_iload hK (i := 4) 0 kd28_68.2.2.2.2.2.2.2.2.2.2.1 rfl ?_
                refine X_iloadn hK (i := 3) 1 kd28_68.2.2.2.2.2.2.2.2.2.2.2 rfl rfl ?_
                refine X_callV hK [.int (iI z91), .int (iI z92)] [] lk_X12_408 (c_X12_isAhead _ _ _ _ _ S g a0 z91 z92 hs_a0 (by omega) (by omega)) hs_a0 ⟨by decide, rfl⟩ kd28_69.1 rfl rfl (by simp [Value.category]) (by decide) (by decide) (by decide) (by decide) (fun r122 S124 g123 pr122 qr122 hg123 => ?_)
                obtain ⟨rfl, rfl, z125, rfl, lz125, uz125⟩ := pr122
                refine X_st [.int (iI z125)] rfl ?_
                refine X_if_eq hK 64 (by omega) kd28_69.2.1 (by decide) (fun c126 => ?_) (fun c126 => ?_)
                · refine X_iinc hK (i := 4) (z := z91) (n := 1) 0 [(4, .int (iI (z91 + 1))), (3, .int (iI z92)), (0, .ref a0), (1, .int (iI x1)), (2, .int (iI x2))] kd28_69.2.2.2.2.1 rfl (by decide) rfl ?_
                  refine X_goto hK 5 kd28_69.2.2.2.2.2.1 (by decide) ?_
                  exact ihP109  (z91 + 1) (by omega) (by omega) z92 (by omega) (by omega) (fun h9 => by first | exact v110 h9 | exact ⟨by omega, by omega⟩) (by omega)
                · refine X_iload hK (i := 4) 0 kd28_69.2.2.1 rfl ?_
                  refine X_istoren hK (i := 3) [(3, .int (iI z91)), (4, .int (iI z91)), (0, .ref a0), (1, .int (iI x1)), (2, .int (iI x2))] kd28_69.2.2.2.1 rfl (by decide) rfl ?_
                  refine X_iinc hK (i := 4) (z := z91) (n := 1) 1 [(4, .int (iI (z91 + 1))), (3, .int (iI z91)), (0, .ref a0), (1, .int (iI x1)), (2, .int (iI x2))] kd28_69.2.2.2.2.1 rfl (by decide) rfl ?_
                  refine X_goto hK 5 kd28_69.2.2.2.2.2.1 (by decide) ?_
                  exact ihP109  (z91 + 1) (by omega) (by omega) z91 (by omega) (by omega) (fun h9 => by first | exact v110 h9 | exact ⟨by omega, by omega⟩) (by omega)
  exact P109 ((216 - 0 : Int).toNat + 1) 0 (by omega) (by omega) (-1) (by omega) (by omega) (fun h9 => by omega) (by omega)

set_option maxHeartbeats 4000000 in
set_option maxRecDepth 100000 in
theorem c_X12_cry (l : Launch) (D : va_G) (kA : Nat → ClassId) (b0 : Nat) (t0 : Nat → Nat) (S : xT) (g : xG) (a0 : Nat) (x1 : Int) (x2 : Int) (wo : Nat) (wf : Nat) (wu : Nat) (wp : Nat) (wc : Nat) (hs_a0 : S a0 = some (13, 0)) (hx1 : 0 ≤ x1 ∧ x1 ≤ 399) (hx2 : (-1) ≤ x2 ∧ x2 ≤ 10) (ewo : g a0 29 = .ref wo) (hs_wo : S wo = some (15300, 11)) (ewf : g a0 33 = .ref wf) (hs_wf : S wf = some (15700, 176)) (ewu : g a0 34 = .ref wu) (hs_wu : S wu = some (15800, 176)) (ewp : g a0 35 = .ref wp) (hs_wp : S wp = some (15900, 1320)) (ewc : g a0 62 = .ref wc) (hs_wc : S wc = some (19501, 200)) (hp0 : xTq (xv g wo) (xv g wf) (xv g wu) (xv g wp) x2) : xMt l yX12_cry cX12_cry 9 none 3 0 0 68 D kA b0 t0 [(19501, 0), (17400, 0), (16300, 0), (13, 47), (19401, 0), (17500, 0), (19601, 0)] [.ref a0, .int (iI x1), .int (iI x2)] S g (fun (r : Option Value) (S1 : xT) (g1 : xG) => S = S1 ∧ r = none) := by
  refine xEnterV (by decide) (by simp [lg_sl, Value.category]) [(0, .ref a0), (1, .int (iI x1)), (2, .int (iI x2))] rfl ?_
  intro K E hK hret _ _ _
  refine X_iconst hK kd46_21.2.2.2.2.2.2.2.2.2.1 ?_
  refine X_istoren hK (i := 3) [(3, .int (iI 0)), (0, .ref a0), (1, .int (iI x1)), (2, .int (iI x2))] kd46_21.2.2.2.2.2.2.2.2.2.2.1 rfl (by decide) rfl ?_
  have P54427 : ∀ (nP54427 : Nat) (g48910 : xG) (_ : xM [(19601, 0), (13, 47), (19401, 0), (16300, 0), (19501, 0)] S g g48910) (z48909 : Int) (_ : 0 ≤ z48909) (_ : z48909 ≤ 200) (_ : 216 - z48909 < (nP54427 : Int)), X K E 2 [(3, .int (iI z48909)), (0, .ref a0), (1, .int (iI x1)), (2, .int (iI x2))] [] S g48910 0 0 := by
    intro nP54427
    induction nP54427 with
    | zero => intro g48910 hg48910 z48909 lz48909 uz48909 mP54427; exact False.elim (by omega)
    | succ nP54427 ihP54427 =>
      intro g48910 hg48910 z48909 lz48909 uz48909 mP54427
      refine X_iloadn hK (i := 3) 0 kd46_21.2.2.2.2.2.2.2.2.2.2.2 rfl rfl ?_
      refine X_aloadn hK (i := 0) 1 kd46_22.1 rfl rfl ?_
      refine X_geti hK fl_X12_389_13 hs_a0 sl_13_58 kd46_22.2.1 (fun z54428 ez54428 lz54428 uz54428 => ?_)
      refine X_icmp_ge hK 75 (by omega) (by omega) kd46_22.2.2.1 (by decide) (fun c54429 => ?_) (fun c54429 => ?_)
      · refine X_iconst hK kd46_25.2.2.2.2.1 ?_
        refine X_istoren hK (i := 3) [(3, .int (iI 0)), (0, .ref a0), (1, .int (iI x1)), (2, .int (iI x2))] kd46_25.2.2.2.2.2.1 rfl (by decide) rfl ?_
        have P80013 : ∀ (nP80013 : Nat) (g75750 : xG) (_ : xM [(17500, 0), (13, 47), (19401, 0), (16300, 0), (17400, 0), (19501, 0)] S g48910 g75750) (z75749 : Int) (_ : 0 ≤ z75749) (_ : z75749 ≤ 10) (_ : 26 - z75749 < (nP80013 : Int)), X K E 77 [(3, .int (iI z75749)), (0, .ref a0), (1, .int (iI x1)), (2, .int (iI x2))] [] S g75750 0 0 := by
          intro nP80013
          induction nP80013 with
          | zero => intro g75750 hg75750 z75749 lz75749 uz75749 mP80013; exact False.elim (by omega)
          | succ nP80013 ihP80013 =>
            intro g75750 hg75750 z75749 lz75749 uz75749 mP80013
            refine X_iloadn hK (i := 3) 0 kd46_25.2.2.2.2.2.2.1 rfl rfl ?_
            refine X_bipush hK kd46_25.2.2.2.2.2.2.2.1 (by decide) ?_
            refine X_icmp_ge hK 271 (by omega) (by omega) kd46_25.2.2.2.2.2.2.2.2.1 (by decide) (fun c80014 => ?_) (fun c80014 => ?_)
            · exact hret _ _ _ _ _ _ kd46_34.2.1 ⟨rfl, rfl⟩ (Nat.le_refl _) (Nat.le_refl _)
            · refine X_iconst hK kd46_25.2.2.2.2.2.2.2.2.2.1 ?_
              refine X_istore hK (i := 4) [(4, .int (iI 0)), (3, .int (iI z75749)), (0, .ref a0), (1, .int (iI x1)), (2, .int (iI x2))] kd46_25.2.2.2.2.2.2.2.2.2.2.1 (by decide) rfl ?_
              have P83668 : ∀ (nP83668 : Nat) (g83060 : xG) (_ : xM [(17500, 0), (13, 47), (19401, 0), (16300, 0), (17400, 0), (19501, 0)] S g75750 g83060) (z83059 : Int) (_ : 0 ≤ z83059) (_ : z83059 ≤ 4) (_ : 20 - z83059 < (nP83668 : Int)), X K E 86 [(4, .int (iI z83059)), (3, .int (iI z75749)), (0, .ref a0), (1, .int (iI x1)), (2, .int (iI x2))] [] S g83060 0 0 := by
                intro nP83668
                induction nP83668 with
                | zero => intro g83060 hg83060 z83059 lz83059 uz83059 mP83668; exact False.elim (by omega)
                | succ nP83668 ihP83668 =>
                  intro g83060 hg83060 z83059 lz83059 uz83059 mP83668
                  refine X_iload hK (i := 4) 0 kd46_25.2.2.2.2.2.2.2.2.2.2.2 rfl ?_
                  refine X_iconst hK kd46_26.1 ?_
                  refine X_icmp_ge hK 265 (by omega) (by omega) kd46_26.2.1 (by decide) (fun c83669 => ?_) (fun c83669 => ?_)
                  · refine X_iinc hK (i := 3) (z := z75749) (n := 1) 1 [(3, .int (iI (z75749 + 1))), (4, .int (iI z83059)), (0, .ref a0), (1, .int (iI x1)), (2, .int (iI x2))] kd46_33.2.2.2.2.2.2.2.2.2.2.2 rfl (by decide) rfl ?_
                    refine X_goto hK 77 kd46_34.1 (by decide) ?_
                    refine X_lv [(3, .int (iI (z75749 + 1))), (0, .ref a0), (1, .int (iI x1)), (2, .int (iI x2))] [0, 2, 3, 4] rfl ?_
                    exact ihP80013  g83060 (xM.tr (xM.tr xM.rf xLe.rf hg75750 (by decide)) xLe.rf hg83060 (by decide)) (z75749 + 1) (by omega) (by omega) (by omega)
                  · refine X_aloadn hK (i := 0) 2 kd46_26.2.2.1 rfl rfl ?_
                    refine X_iloadn hK (i := 3) 1 kd46_26.2.2.2.1 rfl rfl ?_
                    refine X_iload hK (i := 4) 0 kd46_26.2.2.2.2.1 rfl ?_
                    refine X_aloadn hK (i := 0) 2 kd46_26.2.2.2.2.2.1 rfl rfl ?_
                    refine X_iloadn hK (i := 1) 3 kd46_26.2.2.2.2.2.2.1 rfl rfl ?_
                    refine X_know hs_a0 (by decide) sl_13_17 (fun z83670 ez83670 lz83670 uz83670 => ?_)
                    refine X_knowr 14700 400 hs_a0 (by decide) sl_13_10 (fun b83671 eb83671 hs_b83671 => ?_)
                    refine X_callV hK [.int (iI x1)] [.int (iI z83059), .int (iI z75749), .ref a0] lk_X12_232 (c_X12_skyOf _ _ _ _ _ S g83060 a0 x1 z83670 b83671 hs_a0 (by omega) (by omega) ez83670 eb83671 hs_b83671) hs_a0 ⟨by decide, rfl⟩ kd46_26.2.2.2.2.2.2.2.1 rfl rfl (by simp [Value.category]) (by decide) (by decide) (by decide) (by decide) (fun r83672 S83674 g83673 pr83672 qr83672 hg83673 => ?_)
                    obtain ⟨rfl, rfl, z83675, rfl, lz83675, uz83675, k83676⟩ := pr83672
                    refine X_st [.int (iI z83675), .int (iI z83059), .int (iI z75749), .ref a0] rfl ?_
                    refine X_aloadn hK (i := 0) 2 kd46_26.2.2.2.2.2.2.2.2.1 rfl rfl ?_
                    refine X_getr hK 14800 1600 fl_X12_35_13 hs_a0 sl_13_11 kd46_26.2.2.2.2.2.2.2.2.2.1 (fun b83677 eb83677 hs_b83677 => ?_)
                    refine X_sipush hK kd46_26.2.2.2.2.2.2.2.2.2.2.1 (by decide) ?_
                    refine X_iload hK (i := 4) 0 kd46_26.2.2.2.2.2.2.2.2.2.2.2 rfl ?_
                    refine X_imul hK kd46_27.1 ?_
                    refine X_iloadn hK (i := 1) 3 kd46_27.2.1 rfl rfl ?_
                    refine X_iadd hK kd46_27.2.2.1 ?_
                    refine X_iald hK hs_b83677 (by decide) sl_14800 (by omega) (by omega) kd46_27.2.2.2.1 (fun z83678 ez83678 lz83678 uz83678 => ?_)
                    refine X_knowr 14900 40 hs_a0 (by decide) sl_13_12 (fun b83679 eb83679 hs_b83679 => ?_)
                    refine X_knowr 15000 4 hs_a0 (by decide) sl_13_13 (fun b83680 eb83680 hs_b83680 => ?_)
                    refine X_knowr 15100 6 hs_a0 (by decide) sl_13_14 (fun b83681 eb83681 hs_b83681 => ?_)
                    refine X_callV hK [.int (iI z75749), .int (iI z83059), .int (iI z83675), .int (iI z83678)] [] lk_X12_242 (c_X12_askedOf _ _ _ _ _ S g83060 a0 z75749 z83059 z83675 z83678 b83679 b83680 b83681 hs_a0 (by omega) (by omega) (by omega) (by omega) eb83679 hs_b83679 eb83680 hs_b83680 eb83681 hs_b83681) hs_a0 ⟨by decide, rfl⟩ kd46_27.2.2.2.2.1 rfl rfl (by simp [Value.category]) (by decide) (by decide) (by decide) (by decide) (fun r83682 S83684 g83683 pr83682 qr83682 hg83683 => ?_)
                    obtain ⟨rfl, rfl, z83685, rfl, lz83685, uz83685, k83686⟩ := pr83682
                    refine X_st [.int (iI z83685)] rfl ?_
                    refine X_istore hK (i := 5) [(5, .int (iI z83685)), (4, .int (iI z83059)), (3, .int (iI z75749)), (0, .ref a0), (1, .int (iI x1)), (2, .int (iI x2))] kd46_27.2.2.2.2.2.1 (by decide) rfl ?_
                    refine X_aloadn hK (i := 0) 3 kd46_27.2.2.2.2.2.2.1 rfl rfl ?_
                    refine X_iloadn hK (i := 3) 2 kd46_27.2.2.2.2.2.2.2.1 rfl rfl ?_
                    refine X_iload hK (i := 4) 1 kd46_27.2.2.2.2.2.2.2.2.1 rfl ?_
                    refine X_callV hK [.int (iI z75749), .int (iI z83059)] [] lk_X12_405 (c2_firstAt _ _ _ _ _ S g83060 a0 z75749 z83059 wc hs_a0 (by omega) (by omega) ((hg83060 a0 13 0 62 hs_a0 (by decide)).trans ((hg75750 a0 13 0 62 hs_a0 (by decide)).trans ((hg48910 a0 13 0 62 hs_a0 (by decide)).trans ewc))) hs_wc) hs_a0 ⟨by decide, rfl⟩ kd46_27.2.2.2.2.2.2.2.2.2.1 rfl rfl (by simp [Value.category]) (by decide) (by decide) (by decide) (by decide) (fun r83687 S83689 g83688 pr83687 qr83687 hg83688 => ?_)
                    obtain ⟨rfl, rfl, z83690, rfl, lz83690, uz83690, k83691⟩ := pr83687
                    refine X_st [.int (iI z83690)] rfl ?_
                    refine X_istore hK (i := 6) [(6, .int (iI z83690)), (5, .int (iI z83685)), (4, .int (iI z83059)), (3, .int (iI z75749)), (0, .ref a0), (1, .int (iI x1)), (2, .int (iI x2))] kd46_27.2.2.2.2.2.2.2.2.2.2.1 (by decide) rfl ?_
                    have P84179 : ∀ (nP84179 : Nat) (g84083 : xG) (_ : xM [(17500, 0), (13, 47), (19401, 0), (16300, 0), (17400, 0), (19501, 0)] S g83060 g84083) (z84081 : Int) (_ : (-1) ≤ z84081) (_ : z84081 ≤ 199) (z84082 : Int) (_ : (-2147483648) ≤ z84082) (_ : z84082 ≤ 2147483647) (_ : z84081 ≠ -1 → xv g84083 wc z84081 = 0) (_ : ((xuc (xv g84083 wc) : Nat) : Int) < (nP84179 : Int)), X K E 128 [(6, .int (iI z84081)), (5, .int (iI z84082)), (4, .int (iI z83059)), (3, .int (iI z75749)), (0, .ref a0), (1, .int (iI x1)), (2, .int (iI x2))] [] S g84083 0 0 := by
                      intro nP84179
                      induction nP84179 with
                      | zero => intro g84083 hg84083 z84081 lz84081 uz84081 z84082 lz84082 uz84082 v84180 mP84179; exact False.elim (by omega)
                      | succ nP84179 ihP84179 =>
                        intro g84083 hg84083 z84081 lz84081 uz84081 z84082 lz84082 uz84082 v84180 mP84179
                        refine X_iload hK (i := 6) 0 kd46_27.2.2.2.2.2.2.2.2.2.2.2 rfl ?_
                        refine X_iconst hK kd46_28.1 ?_
                        refine X_icmp_eq hK 259 (by omega) (by omega) kd46_28.2.1 (by decide) (fun c84181 => ?_) (fun c84181 => ?_)
                        · refine X_iinc hK (i := 4) (z := z83059) (n := 1) 2 [(4, .int (iI (z83059 + 1))), (6, .int (iI z84081)), (5, .int (iI z84082)), (3, .int (iI z75749)), (0, .ref a0), (1, .int (iI x1)), (2, .int (iI x2))] kd46_33.2.2.2.2.2.2.2.2.2.1 rfl (by decide) rfl ?_
                          refine X_goto hK 86 kd46_33.2.2.2.2.2.2.2.2.2.2.1 (by decide) ?_
                          refine X_lv [(4, .int (iI (z83059 + 1))), (3, .int (iI z75749)), (0, .ref a0), (1, .int (iI x1)), (2, .int (iI x2))] [0, 3, 4, 5, 6] rfl ?_
                          exact ihP83668  g84083 (xM.tr (xM.tr xM.rf xLe.rf hg83060 (by decide)) xLe.rf hg84083 (by decide)) (z83059 + 1) (by omega) (by omega) (by omega)
                        · refine X_aloadn hK (i := 0) 4 kd46_28.2.2.1 rfl rfl ?_
                          refine X_getK hK fl_X12_129_13 hs_a0 ((hg84083 a0 13 0 62 hs_a0 (by decide)).trans ((hg83060 a0 13 0 62 hs_a0 (by decide)).trans ((hg75750 a0 13 0 62 hs_a0 (by decide)).trans ((hg48910 a0 13 0 62 hs_a0 (by decide)).trans ewc)))) kd46_28.2.2.2.1 ?_
                          refine X_iload hK (i := 6) 0 kd46_28.2.2.2.2.1 rfl ?_
                          refine X_iconst hK kd46_28.2.2.2.2.2.1 ?_
                          refine X_zast hK hs_wc (by decide) (by decide) sl_19501 (by omega) (by omega) (by omega) (by omega) kd46_28.2.2.2.2.2.2.1 (fun g84182 hg84182 => ?_)
                          refine X_aloadn hK (i := 0) 4 kd46_28.2.2.2.2.2.2.2.1 rfl rfl ?_
                          refine X_getr hK 19601 200 fl_X12_132_13 hs_a0 sl_13_63 kd46_28.2.2.2.2.2.2.2.2.1 (fun b84183 eb84183 hs_b84183 => ?_)
                          refine X_iload hK (i := 6) 0 kd46_28.2.2.2.2.2.2.2.2.2.1 rfl ?_
                          refine X_zald hK hs_b84183 (by decide) sl_19601 (by omega) (by omega) kd46_28.2.2.2.2.2.2.2.2.2.2.1 (fun z84184 ez84184 lz84184 uz84184 => ?_)
                          refine X_if_ne hK 156 (by omega) kd46_28.2.2.2.2.2.2.2.2.2.2.2 (by decide) (fun c84185 => ?_) (fun c84185 => ?_)
                          · refine X_aloadn hK (i := 0) 4 kd46_29.2.2.1 rfl rfl ?_
                            refine X_getr hK 16700 200 fl_X12_99_13 hs_a0 sl_13_51 kd46_29.2.2.2.1 (fun b84186 eb84186 hs_b84186 => ?_)
                            refine X_iload hK (i := 6) 0 kd46_29.2.2.2.2.1 rfl ?_
                            refine X_iald hK hs_b84186 (by decide) sl_16700 (by omega) (by omega) kd46_29.2.2.2.2.2.1 (fun z84187 ez84187 lz84187 uz84187 => ?_)
                            refine X_iload hK (i := 5) 1 kd46_29.2.2.2.2.2.2.1 rfl ?_
                            refine X_icmp_ge hK 178 (by omega) (by omega) kd46_29.2.2.2.2.2.2.2.1 (by decide) (fun c84188 => ?_) (fun c84188 => ?_)
                            · refine X_iload hK (i := 5) 1 kd46_30.2.1 rfl ?_
                              refine X_istore hK (i := 7) [(7, .int (iI z84082)), (6, .int (iI z84081)), (5, .int (iI z84082)), (4, .int (iI z83059)), (3, .int (iI z75749)), (0, .ref a0), (1, .int (iI x1)), (2, .int (iI x2))] kd46_30.2.2.1 (by decide) rfl ?_
                              refine X_iload hK (i := 5) 2 kd46_30.2.2.2.1 rfl ?_
                              refine X_iload hK (i := 7) 0 kd46_30.2.2.2.2.1 rfl ?_
                              refine X_isub hK kd46_30.2.2.2.2.2.1 ?_
                              refine X_norm (fun z84189 ez84189 lz84189 uz84189 => ?_)
                              refine X_istore hK (i := 5) [(5, .int (iI z84189)), (7, .int (iI z84082)), (6, .int (iI z84081)), (4, .int (iI z83059)), (3, .int (iI z75749)), (0, .ref a0), (1, .int (iI x1)), (2, .int (iI x2))] kd46_30.2.2.2.2.2.2.1 (by decide) rfl ?_
                              refine X_aloadn hK (i := 0) 5 kd46_30.2.2.2.2.2.2.2.1 rfl rfl ?_
                              refine X_getr hK 17400 200 fl_X12_123_13 hs_a0 sl_13_60 kd46_30.2.2.2.2.2.2.2.2.1 (fun b84190 eb84190 hs_b84190 => ?_)
                              refine X_iload hK (i := 6) 2 kd46_30.2.2.2.2.2.2.2.2.2.1 rfl ?_
                              refine X_iload hK (i := 7) 1 kd46_30.2.2.2.2.2.2.2.2.2.2.1 rfl ?_
                              refine X_iast hK hs_b84190 (by decide) (by decide) sl_17400 (by omega) (by omega) (by omega) (by omega) kd46_30.2.2.2.2.2.2.2.2.2.2.2 (fun g84191 hg84191 => ?_)
                              refine X_aloadn hK (i := 0) 5 kd46_31.1 rfl rfl ?_
                              refine X_iload hK (i := 6) 2 kd46_31.2.1 rfl ?_
                              refine X_callV hK [.int (iI z84081)] [] lk_X12_402 (c_X12_askOf _ _ _ _ _ S g84191 a0 z84081 hs_a0 (by omega)) hs_a0 ⟨by decide, rfl⟩ kd46_31.2.2.1 rfl rfl (by simp [Value.category]) (by decide) (by decide) (by decide) (by decide) (fun r84192 S84194 g84193 pr84192 qr84192 hg84193 => ?_)
                              obtain ⟨rfl, rfl⟩ := pr84192
                              refine X_st [] rfl ?_
                              refine X_aloadn hK (i := 0) 5 kd46_31.2.2.2.1 rfl rfl ?_
                              refine X_iloadn hK (i := 2) 7 kd46_31.2.2.2.2.1 rfl rfl ?_
                              refine X_iconst hK kd46_31.2.2.2.2.2.1 ?_
                              refine X_callV hK [.int (iI x2), .int (iI 2)] [] lk_X12_395 (c_X12_tells _ _ _ _ _ S g84193 a0 x2 2 wo wf wu wp hs_a0 (by omega) (by omega) ((hg84193 a0 13 0 29 hs_a0 (by decide)).trans ((xs_a hg84191 (xne hs_a0 hs_b84190 (by decide))).trans ((xs_a hg84182 (xne hs_a0 hs_wc (by decide))).trans ((hg84083 a0 13 0 29 hs_a0 (by decide)).trans ((hg83060 a0 13 0 29 hs_a0 (by decide)).trans ((hg75750 a0 13 0 29 hs_a0 (by decide)).trans ((hg48910 a0 13 0 29 hs_a0 (by decide)).trans ewo))))))) hs_wo ((hg84193 a0 13 0 33 hs_a0 (by decide)).trans ((xs_a hg84191 (xne hs_a0 hs_b84190 (by decide))).trans ((xs_a hg84182 (xne hs_a0 hs_wc (by decide))).trans ((hg84083 a0 13 0 33 hs_a0 (by decide)).trans ((hg83060 a0 13 0 33 hs_a0 (by decide)).trans ((hg75750 a0 13 0 33 hs_a0 (by decide)).trans ((hg48910 a0 13 0 33 hs_a0 (by decide)).trans ewf))))))) hs_wf ((hg84193 a0 13 0 34 hs_a0 (by decide)).trans ((xs_a hg84191 (xne hs_a0 hs_b84190 (by decide))).trans ((xs_a hg84182 (xne hs_a0 hs_wc (by decide))).trans ((hg84083 a0 13 0 34 hs_a0 (by decide)).trans ((hg83060 a0 13 0 34 hs_a0 (by decide)).trans ((hg75750 a0 13 0 34 hs_a0 (by decide)).trans ((hg48910 a0 13 0 34 hs_a0 (by decide)).trans ewu))))))) hs_wu ((hg84193 a0 13 0 35 hs_a0 (by decide)).trans ((xs_a hg84191 (xne hs_a0 hs_b84190 (by decide))).trans ((xs_a hg84182 (xne hs_a0 hs_wc (by decide))).trans ((hg84083 a0 13 0 35 hs_a0 (by decide)).trans ((hg83060 a0 13 0 35 hs_a0 (by decide)).trans ((hg75750 a0 13 0 35 hs_a0 (by decide)).trans ((hg48910 a0 13 0 35 hs_a0 (by decide)).trans ewp))))))) hs_wp (by rw [(Eq.trans (Eq.trans (Eq.trans (Eq.trans (Eq.trans (Eq.trans (xv_m hg84193 hs_wo (by decide) (by decide)) (xv_a hg84191 (xne hs_wo hs_b84190 (by decide)))) (xv_a hg84182 (xne hs_wo hs_wc (by decide)))) (xv_m hg84083 hs_wo (by decide) (by decide))) (xv_m hg83060 hs_wo (by decide) (by decide))) (xv_m hg75750 hs_wo (by decide) (by decide))) (xv_m hg48910 hs_wo (by decide) (by decide))), (Eq.trans (Eq.trans (Eq.trans (Eq.trans (Eq.trans (Eq.trans (xv_m hg84193 hs_wf (by decide) (by decide)) (xv_a hg84191 (xne hs_wf hs_b84190 (by decide)))) (xv_a hg84182 (xne hs_wf hs_wc (by decide)))) (xv_m hg84083 hs_wf (by decide) (by decide))) (xv_m hg83060 hs_wf (by decide) (by decide))) (xv_m hg75750 hs_wf (by decide) (by decide))) (xv_m hg48910 hs_wf (by decide) (by decide))), (Eq.trans (Eq.trans (Eq.trans (Eq.trans (Eq.trans (Eq.trans (xv_m hg84193 hs_wu (by decide) (by decide)) (xv_a hg84191 (xne hs_wu hs_b84190 (by decide)))) (xv_a hg84182 (xne hs_wu hs_wc (by decide)))) (xv_m hg84083 hs_wu (by decide) (by decide))) (xv_m hg83060 hs_wu (by decide) (by decide))) (xv_m hg75750 hs_wu (by decide) (by decide))) (xv_m hg48910 hs_wu (by decide) (by decide))), (Eq.trans (Eq.trans (Eq.trans (Eq.trans (Eq.trans (Eq.trans (xv_m hg84193 hs_wp (by decide) (by decide)) (xv_a hg84191 (xne hs_wp hs_b84190 (by decide)))) (xv_a hg84182 (xne hs_wp hs_wc (by decide)))) (xv_m hg84083 hs_wp (by decide) (by decide))) (xv_m hg83060 hs_wp (by decide) (by decide))) (xv_m hg75750 hs_wp (by decide) (by decide))) (xv_m hg48910 hs_wp (by decide) (by decide)))]; exact hp0)) hs_a0 ⟨by decide, rfl⟩ kd46_31.2.2.2.2.2.2.1 rfl rfl (by simp [Value.category]) (by decide) (by decide) (by decide) (by decide) (fun r84195 S84197 g84196 pr84195 qr84195 hg84196 => ?_)
                              obtain ⟨rfl, z84198, rfl, lz84198, uz84198⟩ := pr84195
                              refine X_st [.int (iI z84198)] rfl ?_
                              refine X_istore hK (i := 8) [(8, .int (iI z84198)), (5, .int (iI z84189)), (7, .int (iI z84082)), (6, .int (iI z84081)), (4, .int (iI z83059)), (3, .int (iI z75749)), (0, .ref a0), (1, .int (iI x1)), (2, .int (iI x2))] kd46_31.2.2.2.2.2.2.2.1 (by decide) rfl ?_
                              refine X_aloadn hK (i := 0) 6 kd46_31.2.2.2.2.2.2.2.2.1 rfl rfl ?_
                              refine X_getr hK 17500 200 fl_X12_126_13 hs_a0 sl_13_61 kd46_31.2.2.2.2.2.2.2.2.2.1 (fun b84199 eb84199 hs_b84199 => ?_)
                              refine X_iload hK (i := 6) 3 kd46_31.2.2.2.2.2.2.2.2.2.2.1 rfl ?_
                              refine X_aloadn hK (i := 0) 6 kd46_31.2.2.2.2.2.2.2.2.2.2.2 rfl rfl ?_
                              refine X_getK hK fl_X12_99_13 hs_a0 ((hg84196 a0 13 0 51 hs_a0 (by decide)).trans ((hg84193 a0 13 0 51 hs_a0 (by decide)).trans ((xs_a hg84191 (xne hs_a0 hs_b84190 (by decide))).trans eb84186))) kd46_32.1 ?_
                              refine X_iload hK (i := 6) 3 kd46_32.2.1 rfl ?_
                              refine X_ialdK hK hs_b84186 (by decide) (by omega) (by omega) ((hg84196 _ _ _ _ hs_b84186 (by rw [xky_a (by decide)]; decide)).trans ((hg84193 _ _ _ _ hs_b84186 (by rw [xky_a (by decide)]; decide)).trans ((xs_a hg84191 (xne hs_b84186 hs_b84190 (by decide))).trans ez84187))) kd46_32.2.2.1 ?_
                              refine X_iload hK (i := 7) 2 kd46_32.2.2.2.1 rfl ?_
                              refine X_isub hK kd46_32.2.2.2.2.1 ?_
                              refine X_norm (fun z84200 ez84200 lz84200 uz84200 => ?_)
                              refine X_iload hK (i := 8) 0 kd46_32.2.2.2.2.2.1 rfl ?_
                              refine X_bipush hK kd46_32.2.2.2.2.2.2.1 (by decide) ?_
                              refine X_icmp_le hK 240 (by omega) (by omega) kd46_32.2.2.2.2.2.2.2.1 (by decide) (fun c84201 => ?_) (fun c84201 => ?_)
                              · refine X_iload hK (i := 8) 0 kd46_32.2.2.2.2.2.2.2.2.2.2.1 rfl ?_
                                refine X_imul hK kd46_32.2.2.2.2.2.2.2.2.2.2.2 ?_
                                refine X_norm (fun z84202 ez84202 lz84202 uz84202 => ?_)
                                refine X_bipush hK kd46_33.1 (by decide) ?_
                                refine X_idiv hK (by omega) (by omega) kd46_33.2.1 (fun z84203 ez84203 fz84203 => ?_)
                                have bz84203 : -21474836 ≤ z84203 ∧ z84203 ≤ 21474836 := by omega
                                refine X_iast hK hs_b84199 (by decide) (by decide) sl_17500 (by omega) (by omega) (by omega) (by omega) kd46_33.2.2.1 (fun g84204 hg84204 => ?_)
                                refine X_aloadn hK (i := 0) 6 kd46_33.2.2.2.1 rfl rfl ?_
                                refine X_iloadn hK (i := 3) 5 kd46_33.2.2.2.2.1 rfl rfl ?_
                                refine X_iload hK (i := 4) 4 kd46_33.2.2.2.2.2.1 rfl ?_
                                refine X_callV hK [.int (iI z75749), .int (iI z83059)] [] lk_X12_405 (c2_firstAt _ _ _ _ _ S g84204 a0 z75749 z83059 wc hs_a0 (by omega) (by omega) ((xs_a hg84204 (xne hs_a0 hs_b84199 (by decide))).trans ((hg84196 a0 13 0 62 hs_a0 (by decide)).trans ((hg84193 a0 13 0 62 hs_a0 (by decide)).trans ((xs_a hg84191 (xne hs_a0 hs_b84190 (by decide))).trans ((xs_a hg84182 (xne hs_a0 hs_wc (by decide))).trans ((hg84083 a0 13 0 62 hs_a0 (by decide)).trans ((hg83060 a0 13 0 62 hs_a0 (by decide)).trans ((hg75750 a0 13 0 62 hs_a0 (by decide)).trans ((hg48910 a0 13 0 62 hs_a0 (by decide)).trans ewc))))))))) hs_wc) hs_a0 ⟨by decide, rfl⟩ kd46_33.2.2.2.2.2.2.1 rfl rfl (by simp [Value.category]) (by decide) (by decide) (by decide) (by decide) (fun r84205 S84207 g84206 pr84205 qr84205 hg84206 => ?_)
                                obtain ⟨rfl, rfl, z84208, rfl, lz84208, uz84208, k84209⟩ := pr84205
                                refine X_st [.int (iI z84208)] rfl ?_
                                have huh84210 : xuc (xv g84083 wc) = xuc (xv g84204 wc) + 1 := xuc_s (j := z84081) (by omega) (v84180 (by omega)) (show xv g84204 wc z84081 = 1 from by rw [(xv_a hg84204 (xne hs_wc hs_b84199 (by decide))), (xv_m hg84196 hs_wc (by decide) (by decide)), (xv_m hg84193 hs_wc (by decide) (by decide)), (xv_a hg84191 (xne hs_wc hs_b84190 (by decide))), xv_s hg84182 (by omega)]) (fun i9 hi9 h09 => (show xv g84204 wc i9 = xv g84083 wc i9 from by rw [(xv_a hg84204 (xne hs_wc hs_b84199 (by decide))), (xv_m hg84196 hs_wc (by decide) (by decide)), (xv_m hg84193 hs_wc (by decide) (by decide)), (xv_a hg84191 (xne hs_wc hs_b84190 (by decide))), (xv_k (i := i9) hg84182 (by omega) (by omega) (by omega))]))
                                refine X_istore hK (i := 6) [(6, .int (iI z84208)), (8, .int (iI z84198)), (5, .int (iI z84189)), (7, .int (iI z84082)), (4, .int (iI z83059)), (3, .int (iI z75749)), (0, .ref a0), (1, .int (iI x1)), (2, .int (iI x2))] kd46_33.2.2.2.2.2.2.2.1 (by decide) rfl ?_
                                refine X_goto hK 128 kd46_33.2.2.2.2.2.2.2.2.1 (by decide) ?_
                                refine X_lv [(6, .int (iI z84208)), (5, .int (iI z84189)), (4, .int (iI z83059)), (3, .int (iI z75749)), (0, .ref a0), (1, .int (iI x1)), (2, .int (iI x2))] [0, 2, 4, 5, 6, 7, 8] rfl ?_
                                exact ihP84179  g84204 (xM_ua (xM.tr (xM.tr (xM_ua (xM_ua (xM.tr xM.rf xLe.rf hg84083 (by decide)) hg84182 hs_wc (by decide) (by decide)) hg84191 hs_b84190 (by decide) (by decide)) xLe.rf hg84193 (by decide)) xLe.rf hg84196 (by decide)) hg84204 hs_b84199 (by decide) (by decide)) z84208 (by omega) (by omega) z84189 (by omega) (by omega) (fun h9 => (k84209 h9).2) (by omega)
                              · refine X_bipush hK kd46_32.2.2.2.2.2.2.2.2.1 (by decide) ?_
                                refine X_goto hK 242 kd46_32.2.2.2.2.2.2.2.2.2.1 (by decide) ?_
                                refine X_imul hK kd46_32.2.2.2.2.2.2.2.2.2.2.2 ?_
                                refine X_norm (fun z84211 ez84211 lz84211 uz84211 => ?_)
                                refine X_bipush hK kd46_33.1 (by decide) ?_
                                refine X_idiv hK (by omega) (by omega) kd46_33.2.1 (fun z84212 ez84212 fz84212 => ?_)
                                have bz84212 : -21474836 ≤ z84212 ∧ z84212 ≤ 21474836 := by omega
                                refine X_iast hK hs_b84199 (by decide) (by decide) sl_17500 (by omega) (by omega) (by omega) (by omega) kd46_33.2.2.1 (fun g84213 hg84213 => ?_)
                                refine X_aloadn hK (i := 0) 6 kd46_33.2.2.2.1 rfl rfl ?_
                                refine X_iloadn hK (i := 3) 5 kd46_33.2.2.2.2.1 rfl rfl ?_
                                refine X_iload hK (i := 4) 4 kd46_33.2.2.2.2.2.1 rfl ?_
                                refine X_callV hK [.int (iI z75749), .int (iI z83059)] [] lk_X12_405 (c2_firstAt _ _ _ _ _ S g84213 a0 z75749 z83059 wc hs_a0 (by omega) (by omega) ((xs_a hg84213 (xne hs_a0 hs_b84199 (by decide))).trans ((hg84196 a0 13 0 62 hs_a0 (by decide)).trans ((hg84193 a0 13 0 62 hs_a0 (by decide)).trans ((xs_a hg84191 (xne hs_a0 hs_b84190 (by decide))).trans ((xs_a hg84182 (xne hs_a0 hs_wc (by decide))).trans ((hg84083 a0 13 0 62 hs_a0 (by decide)).trans ((hg83060 a0 13 0 62 hs_a0 (by decide)).trans ((hg75750 a0 13 0 62 hs_a0 (by decide)).trans ((hg48910 a0 13 0 62 hs_a0 (by decide)).trans ewc))))))))) hs_wc) hs_a0 ⟨by decide, rfl⟩ kd46_33.2.2.2.2.2.2.1 rfl rfl (by simp [Value.category]) (by decide) (by decide) (by decide) (by decide) (fun r84214 S84216 g84215 pr84214 qr84214 hg84215 => ?_)
                                obtain ⟨rfl, rfl, z84217, rfl, lz84217, uz84217, k84218⟩ := pr84214
                                refine X_st [.int (iI z84217)] rfl ?_
                                have huh84219 : xuc (xv g84083 wc) = xuc (xv g84213 wc) + 1 := xuc_s (j := z84081) (by omega) (v84180 (by omega)) (show xv g84213 wc z84081 = 1 from by rw [(xv_a hg84213 (xne hs_wc hs_b84199 (by decide))), (xv_m hg84196 hs_wc (by decide) (by decide)), (xv_m hg84193 hs_wc (by decide) (by decide)), (xv_a hg84191 (xne hs_wc hs_b84190 (by decide))), xv_s hg84182 (by omega)]) (fun i9 hi9 h09 => (show xv g84213 wc i9 = xv g84083 wc i9 from by rw [(xv_a hg84213 (xne hs_wc hs_b84199 (by decide))), (xv_m hg84196 hs_wc (by decide) (by decide)), (xv_m hg84193 hs_wc (by decide) (by decide)), (xv_a hg84191 (xne hs_wc hs_b84190 (by decide))), (xv_k (i := i9) hg84182 (by omega) (by omega) (by omega))]))
                                refine X_istore hK (i := 6) [(6, .int (iI z84217)), (8, .int (iI z84198)), (5, .int (iI z84189)), (7, .int (iI z84082)), (4, .int (iI z83059)), (3, .int (iI z75749)), (0, .ref a0), (1, .int (iI x1)), (2, .int (iI x2))] kd46_33.2.2.2.2.2.2.2.1 (by decide) rfl ?_
                                refine X_goto hK 128 kd46_33.2.2.2.2.2.2.2.2.1 (by decide) ?_
                                refine X_lv [(6, .int (iI z84217)), (5, .int (iI z84189)), (4, .int (iI z83059)), (3, .int (iI z75749)), (0, .ref a0), (1, .int (iI x1)), (2, .int (iI x2))] [0, 2, 4, 5, 6, 7, 8] rfl ?_
                                exact ihP84179  g84213 (xM_ua (xM.tr (xM.tr (xM_ua (xM_ua (xM.tr xM.rf xLe.rf hg84083 (by decide)) hg84182 hs_wc (by decide) (by decide)) hg84191 hs_b84190 (by decide) (by decide)) xLe.rf hg84193 (by decide)) xLe.rf hg84196 (by decide)) hg84213 hs_b84199 (by decide) (by decide)) z84217 (by omega) (by omega) z84189 (by omega) (by omega) (fun h9 => (k84218 h9).2) (by omega)
                            · refine X_aloadn hK (i := 0) 4 kd46_29.2.2.2.2.2.2.2.2.1 rfl rfl ?_
                              refine X_getK hK fl_X12_99_13 hs_a0 eb84186 kd46_29.2.2.2.2.2.2.2.2.2.1 ?_
                              refine X_iload hK (i := 6) 0 kd46_29.2.2.2.2.2.2.2.2.2.2.1 rfl ?_
                              refine X_ialdK hK hs_b84186 (by decide) (by omega) (by omega) ez84187 kd46_29.2.2.2.2.2.2.2.2.2.2.2 ?_
                              refine X_goto hK 180 kd46_30.1 (by decide) ?_
                              refine X_istore hK (i := 7) [(7, .int (iI z84187)), (6, .int (iI z84081)), (5, .int (iI z84082)), (4, .int (iI z83059)), (3, .int (iI z75749)), (0, .ref a0), (1, .int (iI x1)), (2, .int (iI x2))] kd46_30.2.2.1 (by decide) rfl ?_
                              refine X_iload hK (i := 5) 2 kd46_30.2.2.2.1 rfl ?_
                              refine X_iload hK (i := 7) 0 kd46_30.2.2.2.2.1 rfl ?_
                              refine X_isub hK kd46_30.2.2.2.2.2.1 ?_
                              refine X_norm (fun z84220 ez84220 lz84220 uz84220 => ?_)
                              refine X_istore hK (i := 5) [(5, .int (iI z84220)), (7, .int (iI z84187)), (6, .int (iI z84081)), (4, .int (iI z83059)), (3, .int (iI z75749)), (0, .ref a0), (1, .int (iI x1)), (2, .int (iI x2))] kd46_30.2.2.2.2.2.2.1 (by decide) rfl ?_
                              refine X_aloadn hK (i := 0) 5 kd46_30.2.2.2.2.2.2.2.1 rfl rfl ?_
                              refine X_getr hK 17400 200 fl_X12_123_13 hs_a0 sl_13_60 kd46_30.2.2.2.2.2.2.2.2.1 (fun b84221 eb84221 hs_b84221 => ?_)
                              refine X_iload hK (i := 6) 2 kd46_30.2.2.2.2.2.2.2.2.2.1 rfl ?_
                              refine X_iload hK (i := 7) 1 kd46_30.2.2.2.2.2.2.2.2.2.2.1 rfl ?_
                              refine X_iast hK hs_b84221 (by decide) (by decide) sl_17400 (by omega) (by omega) (by omega) (by omega) kd46_30.2.2.2.2.2.2.2.2.2.2.2 (fun g84222 hg84222 => ?_)
                              refine X_aloadn hK (i := 0) 5 kd46_31.1 rfl rfl ?_
                              refine X_iload hK (i := 6) 2 kd46_31.2.1 rfl ?_
                              refine X_callV hK [.int (iI z84081)] [] lk_X12_402 (c_X12_askOf _ _ _ _ _ S g84222 a0 z84081 hs_a0 (by omega)) hs_a0 ⟨by decide, rfl⟩ kd46_31.2.2.1 rfl rfl (by simp [Value.category]) (by decide) (by decide) (by decide) (by decide) (fun r84223 S84225 g84224 pr84223 qr84223 hg84224 => ?_)
                              obtain ⟨rfl, rfl⟩ := pr84223
                              refine X_st [] rfl ?_
                              refine X_aloadn hK (i := 0) 5 kd46_31.2.2.2.1 rfl rfl ?_
                              refine X_iloadn hK (i := 2) 7 kd46_31.2.2.2.2.1 rfl rfl ?_
                              refine X_iconst hK kd46_31.2.2.2.2.2.1 ?_
                              refine X_callV hK [.int (iI x2), .int (iI 2)] [] lk_X12_395 (c_X12_tells _ _ _ _ _ S g84224 a0 x2 2 wo wf wu wp hs_a0 (by omega) (by omega) ((hg84224 a0 13 0 29 hs_a0 (by decide)).trans ((xs_a hg84222 (xne hs_a0 hs_b84221 (by decide))).trans ((xs_a hg84182 (xne hs_a0 hs_wc (by decide))).trans ((hg84083 a0 13 0 29 hs_a0 (by decide)).trans ((hg83060 a0 13 0 29 hs_a0 (by decide)).trans ((hg75750 a0 13 0 29 hs_a0 (by decide)).trans ((hg48910 a0 13 0 29 hs_a0 (by decide)).trans ewo))))))) hs_wo ((hg84224 a0 13 0 33 hs_a0 (by decide)).trans ((xs_a hg84222 (xne hs_a0 hs_b84221 (by decide))).trans ((xs_a hg84182 (xne hs_a0 hs_wc (by decide))).trans ((hg84083 a0 13 0 33 hs_a0 (by decide)).trans ((hg83060 a0 13 0 33 hs_a0 (by decide)).trans ((hg75750 a0 13 0 33 hs_a0 (by decide)).trans ((hg48910 a0 13 0 33 hs_a0 (by decide)).trans ewf))))))) hs_wf ((hg84224 a0 13 0 34 hs_a0 (by decide)).trans ((xs_a hg84222 (xne hs_a0 hs_b84221 (by decide))).trans ((xs_a hg84182 (xne hs_a0 hs_wc (by decide))).trans ((hg84083 a0 13 0 34 hs_a0 (by decide)).trans ((hg83060 a0 13 0 34 hs_a0 (by decide)).trans ((hg75750 a0 13 0 34 hs_a0 (by decide)).trans ((hg48910 a0 13 0 34 hs_a0 (by decide)).trans ewu))))))) hs_wu ((hg84224 a0 13 0 35 hs_a0 (by decide)).trans ((xs_a hg84222 (xne hs_a0 hs_b84221 (by decide))).trans ((xs_a hg84182 (xne hs_a0 hs_wc (by decide))).trans ((hg84083 a0 13 0 35 hs_a0 (by decide)).trans ((hg83060 a0 13 0 35 hs_a0 (by decide)).trans ((hg75750 a0 13 0 35 hs_a0 (by decide)).trans ((hg48910 a0 13 0 35 hs_a0 (by decide)).trans ewp))))))) hs_wp (by rw [(Eq.trans (Eq.trans (Eq.trans (Eq.trans (Eq.trans (Eq.trans (xv_m hg84224 hs_wo (by decide) (by decide)) (xv_a hg84222 (xne hs_wo hs_b84221 (by decide)))) (xv_a hg84182 (xne hs_wo hs_wc (by decide)))) (xv_m hg84083 hs_wo (by decide) (by decide))) (xv_m hg83060 hs_wo (by decide) (by decide))) (xv_m hg75750 hs_wo (by decide) (by decide))) (xv_m hg48910 hs_wo (by decide) (by decide))), (Eq.trans (Eq.trans (Eq.trans (Eq.trans (Eq.trans (Eq.trans (xv_m hg84224 hs_wf (by decide) (by decide)) (xv_a hg84222 (xne hs_wf hs_b84221 (by decide)))) (xv_a hg84182 (xne hs_wf hs_wc (by decide)))) (xv_m hg84083 hs_wf (by decide) (by decide))) (xv_m hg83060 hs_wf (by decide) (by decide))) (xv_m hg75750 hs_wf (by decide) (by decide))) (xv_m hg48910 hs_wf (by decide) (by decide))), (Eq.trans (Eq.trans (Eq.trans (Eq.trans (Eq.trans (Eq.trans (xv_m hg84224 hs_wu (by decide) (by decide)) (xv_a hg84222 (xne hs_wu hs_b84221 (by decide)))) (xv_a hg84182 (xne hs_wu hs_wc (by decide)))) (xv_m hg84083 hs_wu (by decide) (by decide))) (xv_m hg83060 hs_wu (by decide) (by decide))) (xv_m hg75750 hs_wu (by decide) (by decide))) (xv_m hg48910 hs_wu (by decide) (by decide))), (Eq.trans (Eq.trans (Eq.trans (Eq.trans (Eq.trans (Eq.trans (xv_m hg84224 hs_wp (by decide) (by decide)) (xv_a hg84222 (xne hs_wp hs_b84221 (by decide)))) (xv_a hg84182 (xne hs_wp hs_wc (by decide)))) (xv_m hg84083 hs_wp (by decide) (by decide))) (xv_m hg83060 hs_wp (by decide) (by decide))) (xv_m hg75750 hs_wp (by decide) (by decide))) (xv_m hg48910 hs_wp (by decide) (by decide)))]; exact hp0)) hs_a0 ⟨by decide, rfl⟩ kd46_31.2.2.2.2.2.2.1 rfl rfl (by simp [Value.category]) (by decide) (by decide) (by decide) (by decide) (fun r84226 S84228 g84227 pr84226 qr84226 hg84227 => ?_)
                              obtain ⟨rfl, z84229, rfl, lz84229, uz84229⟩ := pr84226
                              refine X_st [.int (iI z84229)] rfl ?_
                              refine X_istore hK (i := 8) [(8, .int (iI z84229)), (5, .int (iI z84220)), (7, .int (iI z84187)), (6, .int (iI z84081)), (4, .int (iI z83059)), (3, .int (iI z75749)), (0, .ref a0), (1, .int (iI x1)), (2, .int (iI x2))] kd46_31.2.2.2.2.2.2.2.1 (by decide) rfl ?_
                              refine X_aloadn hK (i := 0) 6 kd46_31.2.2.2.2.2.2.2.2.1 rfl rfl ?_
                              refine X_getr hK 17500 200 fl_X12_126_13 hs_a0 sl_13_61 kd46_31.2.2.2.2.2.2.2.2.2.1 (fun b84230 eb84230 hs_b84230 => ?_)
                              refine X_iload hK (i := 6) 3 kd46_31.2.2.2.2.2.2.2.2.2.2.1 rfl ?_
                              refine X_aloadn hK (i := 0) 6 kd46_31.2.2.2.2.2.2.2.2.2.2.2 rfl rfl ?_
                              refine X_getK hK fl_X12_99_13 hs_a0 ((hg84227 a0 13 0 51 hs_a0 (by decide)).trans ((hg84224 a0 13 0 51 hs_a0 (by decide)).trans ((xs_a hg84222 (xne hs_a0 hs_b84221 (by decide))).trans eb84186))) kd46_32.1 ?_
                              refine X_iload hK (i := 6) 3 kd46_32.2.1 rfl ?_
                              refine X_ialdK hK hs_b84186 (by decide) (by omega) (by omega) ((hg84227 _ _ _ _ hs_b84186 (by rw [xky_a (by decide)]; decide)).trans ((hg84224 _ _ _ _ hs_b84186 (by rw [xky_a (by decide)]; decide)).trans ((xs_a hg84222 (xne hs_b84186 hs_b84221 (by decide))).trans ez84187))) kd46_32.2.2.1 ?_
                              refine X_iload hK (i := 7) 2 kd46_32.2.2.2.1 rfl ?_
                              refine X_isub hK kd46_32.2.2.2.2.1 ?_
                              refine X_norm (fun z84231 ez84231 lz84231 uz84231 => ?_)
                              refine X_iload hK (i := 8) 0 kd46_32.2.2.2.2.2.1 rfl ?_
                              refine X_bipush hK kd46_32.2.2.2.2.2.2.1 (by decide) ?_
                              refine X_icmp_le hK 240 (by omega) (by omega) kd46_32.2.2.2.2.2.2.2.1 (by decide) (fun c84232 => ?_) (fun c84232 => ?_)
                              · refine X_iload hK (i := 8) 0 kd46_32.2.2.2.2.2.2.2.2.2.2.1 rfl ?_
                                refine X_imul hK kd46_32.2.2.2.2.2.2.2.2.2.2.2 ?_
                                refine X_norm (fun z84233 ez84233 lz84233 uz84233 => ?_)
                                refine X_bipush hK kd46_33.1 (by decide) ?_
                                refine X_idiv hK (by omega) (by omega) kd46_33.2.1 (fun z84234 ez84234 fz84234 => ?_)
                                have bz84234 : -21474836 ≤ z84234 ∧ z84234 ≤ 21474836 := by omega
                                refine X_iast hK hs_b84230 (by decide) (by decide) sl_17500 (by omega) (by omega) (by omega) (by omega) kd46_33.2.2.1 (fun g84235 hg84235 => ?_)
                                refine X_aloadn hK (i := 0) 6 kd46_33.2.2.2.1 rfl rfl ?_
                                refine X_iloadn hK (i := 3) 5 kd46_33.2.2.2.2.1 rfl rfl ?_
                                refine X_iload hK (i := 4) 4 kd46_33.2.2.2.2.2.1 rfl ?_
                                refine X_callV hK [.int (iI z75749), .int (iI z83059)] [] lk_X12_405 (c2_firstAt _ _ _ _ _ S g84235 a0 z75749 z83059 wc hs_a0 (by omega) (by omega) ((xs_a hg84235 (xne hs_a0 hs_b84230 (by decide))).trans ((hg84227 a0 13 0 62 hs_a0 (by decide)).trans ((hg84224 a0 13 0 62 hs_a0 (by decide)).trans ((xs_a hg84222 (xne hs_a0 hs_b84221 (by decide))).trans ((xs_a hg84182 (xne hs_a0 hs_wc (by decide))).trans ((hg84083 a0 13 0 62 hs_a0 (by decide)).trans ((hg83060 a0 13 0 62 hs_a0 (by decide)).trans ((hg75750 a0 13 0 62 hs_a0 (by decide)).trans ((hg48910 a0 13 0 62 hs_a0 (by decide)).trans ewc))))))))) hs_wc) hs_a0 ⟨by decide, rfl⟩ kd46_33.2.2.2.2.2.2.1 rfl rfl (by simp [Value.category]) (by decide) (by decide) (by decide) (by decide) (fun r84236 S84238 g84237 pr84236 qr84236 hg84237 => ?_)
                                obtain ⟨rfl, rfl, z84239, rfl, lz84239, uz84239, k84240⟩ := pr84236
                                refine X_st [.int (iI z84239)] rfl ?_
                                have huh84241 : xuc (xv g84083 wc) = xuc (xv g84235 wc) + 1 := xuc_s (j := z84081) (by omega) (v84180 (by omega)) (show xv g84235 wc z84081 = 1 from by rw [(xv_a hg84235 (xne hs_wc hs_b84230 (by decide))), (xv_m hg84227 hs_wc (by decide) (by decide)), (xv_m hg84224 hs_wc (by decide) (by decide)), (xv_a hg84222 (xne hs_wc hs_b84221 (by decide))), xv_s hg84182 (by omega)]) (fun i9 hi9 h09 => (show xv g84235 wc i9 = xv g84083 wc i9 from by rw [(xv_a hg84235 (xne hs_wc hs_b84230 (by decide))), (xv_m hg84227 hs_wc (by decide) (by decide)), (xv_m hg84224 hs_wc (by decide) (by decide)), (xv_a hg84222 (xne hs_wc hs_b84221 (by decide))), (xv_k (i := i9) hg84182 (by omega) (by omega) (by omega))]))
                                refine X_istore hK (i := 6) [(6, .int (iI z84239)), (8, .int (iI z84229)), (5, .int (iI z84220)), (7, .int (iI z84187)), (4, .int (iI z83059)), (3, .int (iI z75749)), (0, .ref a0), (1, .int (iI x1)), (2, .int (iI x2))] kd46_33.2.2.2.2.2.2.2.1 (by decide) rfl ?_
                                refine X_goto hK 128 kd46_33.2.2.2.2.2.2.2.2.1 (by decide) ?_
                                refine X_lv [(6, .int (iI z84239)), (5, .int (iI z84220)), (4, .int (iI z83059)), (3, .int (iI z75749)), (0, .ref a0), (1, .int (iI x1)), (2, .int (iI x2))] [0, 2, 4, 5, 6, 7, 8] rfl ?_
                                exact ihP84179  g84235 (xM_ua (xM.tr (xM.tr (xM_ua (xM_ua (xM.tr xM.rf xLe.rf hg84083 (by decide)) hg84182 hs_wc (by decide) (by decide)) hg84222 hs_b84221 (by decide) (by decide)) xLe.rf hg84224 (by decide)) xLe.rf hg84227 (by decide)) hg84235 hs_b84230 (by decide) (by decide)) z84239 (by omega) (by omega) z84220 (by omega) (by omega) (fun h9 => (k84240 h9).2) (by omega)
                              · refine X_bipush hK kd46_32.2.2.2.2.2.2.2.2.1 (by decide) ?_
                                refine X_goto hK 242 kd46_32.2.2.2.2.2.2.2.2.2.1 (by decide) ?_
                                refine X_imul hK kd46_32.2.2.2.2.2.2.2.2.2.2.2 ?_
                                refine X_norm (fun z84242 ez84242 lz84242 uz84242 => ?_)
                                refine X_bipush hK kd46_33.1 (by decide) ?_
                                refine X_idiv hK (by omega) (by omega) kd46_33.2.1 (fun z84243 ez84243 fz84243 => ?_)
                                have bz84243 : -21474836 ≤ z84243 ∧ z84243 ≤ 21474836 := by omega
                                refine X_iast hK hs_b84230 (by decide) (by decide) sl_17500 (by omega) (by omega) (by omega) (by omega) kd46_33.2.2.1 (fun g84244 hg84244 => ?_)
                                refine X_aloadn hK (i := 0) 6 kd46_33.2.2.2.1 rfl rfl ?_
                                refine X_iloadn hK (i := 3) 5 kd46_33.2.2.2.2.1 rfl rfl ?_
                                refine X_iload hK (i := 4) 4 kd46_33.2.2.2.2.2.1 rfl ?_
                                refine X_callV hK [.int (iI z75749), .int (iI z83059)] [] lk_X12_405 (c2_firstAt _ _ _ _ _ S g84244 a0 z75749 z83059 wc hs_a0 (by omega) (by omega) ((xs_a hg84244 (xne hs_a0 hs_b84230 (by decide))).trans ((hg84227 a0 13 0 62 hs_a0 (by decide)).trans ((hg84224 a0 13 0 62 hs_a0 (by decide)).trans ((xs_a hg84222 (xne hs_a0 hs_b84221 (by decide))).trans ((xs_a hg84182 (xne hs_a0 hs_wc (by decide))).trans ((hg84083 a0 13 0 62 hs_a0 (by decide)).trans ((hg83060 a0 13 0 62 hs_a0 (by decide)).trans ((hg75750 a0 13 0 62 hs_a0 (by decide)).trans ((hg48910 a0 13 0 62 hs_a0 (by decide)).trans ewc))))))))) hs_wc) hs_a0 ⟨by decide, rfl⟩ kd46_33.2.2.2.2.2.2.1 rfl rfl (by simp [Value.category]) (by decide) (by decide) (by decide) (by decide) (fun r84245 S84247 g84246 pr84245 qr84245 hg84246 => ?_)
                                obtain ⟨rfl, rfl, z84248, rfl, lz84248, uz84248, k84249⟩ := pr84245
                                refine X_st [.int (iI z84248)] rfl ?_
                                have huh84250 : xuc (xv g84083 wc) = xuc (xv g84244 wc) + 1 := xuc_s (j := z84081) (by omega) (v84180 (by omega)) (show xv g84244 wc z84081 = 1 from by rw [(xv_a hg84244 (xne hs_wc hs_b84230 (by decide))), (xv_m hg84227 hs_wc (by decide) (by decide)), (xv_m hg84224 hs_wc (by decide) (by decide)), (xv_a hg84222 (xne hs_wc hs_b84221 (by decide))), xv_s hg84182 (by omega)]) (fun i9 hi9 h09 => (show xv g84244 wc i9 = xv g84083 wc i9 from by rw [(xv_a hg84244 (xne hs_wc hs_b84230 (by decide))), (xv_m hg84227 hs_wc (by decide) (by decide)), (xv_m hg84224 hs_wc (by decide) (by decide)), (xv_a hg84222 (xne hs_wc hs_b84221 (by decide))), (xv_k (i := i9) hg84182 (by omega) (by omega) (by omega))]))
                                refine X_istore hK (i := 6) [(6, .int (iI z84248)), (8, .int (iI z84229)), (5, .int (iI z84220)), (7, .int (iI z84187)), (4, .int (iI z83059)), (3, .int (iI z75749)), (0, .ref a0), (1, .int (iI x1)), (2, .int (iI x2))] kd46_33.2.2.2.2.2.2.2.1 (by decide) rfl ?_
                                refine X_goto hK 128 kd46_33.2.2.2.2.2.2.2.2.1 (by decide) ?_
                                refine X_lv [(6, .int (iI z84248)), (5, .int (iI z84220)), (4, .int (iI z83059)), (3, .int (iI z75749)), (0, .ref a0), (1, .int (iI x1)), (2, .int (iI x2))] [0, 2, 4, 5, 6, 7, 8] rfl ?_
                                exact ihP84179  g84244 (xM_ua (xM.tr (xM.tr (xM_ua (xM_ua (xM.tr xM.rf xLe.rf hg84083 (by decide)) hg84182 hs_wc (by decide) (by decide)) hg84222 hs_b84221 (by decide) (by decide)) xLe.rf hg84224 (by decide)) xLe.rf hg84227 (by decide)) hg84244 hs_b84230 (by decide) (by decide)) z84248 (by omega) (by omega) z84220 (by omega) (by omega) (fun h9 => (k84249 h9).2) (by omega)
                          · refine X_iconst hK kd46_29.1 ?_
                            refine X_goto hK 180 kd46_29.2.1 (by decide) ?_
                            refine X_istore hK (i := 7) [(7, .int (iI 0)), (6, .int (iI z84081)), (5, .int (iI z84082)), (4, .int (iI z83059)), (3, .int (iI z75749)), (0, .ref a0), (1, .int (iI x1)), (2, .int (iI x2))] kd46_30.2.2.1 (by decide) rfl ?_
                            refine X_iload hK (i := 5) 2 kd46_30.2.2.2.1 rfl ?_
                            refine X_iload hK (i := 7) 0 kd46_30.2.2.2.2.1 rfl ?_
                            refine X_isub hK kd46_30.2.2.2.2.2.1 ?_
                            refine X_istore hK (i := 5) [(5, .int (iI (z84082 - 0))), (7, .int (iI 0)), (6, .int (iI z84081)), (4, .int (iI z83059)), (3, .int (iI z75749)), (0, .ref a0), (1, .int (iI x1)), (2, .int (iI x2))] kd46_30.2.2.2.2.2.2.1 (by decide) rfl ?_
                            refine X_aloadn hK (i := 0) 5 kd46_30.2.2.2.2.2.2.2.1 rfl rfl ?_
                            refine X_getr hK 17400 200 fl_X12_123_13 hs_a0 sl_13_60 kd46_30.2.2.2.2.2.2.2.2.1 (fun b84251 eb84251 hs_b84251 => ?_)
                            refine X_iload hK (i := 6) 2 kd46_30.2.2.2.2.2.2.2.2.2.1 rfl ?_
                            refine X_iload hK (i := 7) 1 kd46_30.2.2.2.2.2.2.2.2.2.2.1 rfl ?_
                            refine X_iast hK hs_b84251 (by decide) (by decide) sl_17400 (by omega) (by omega) (by omega) (by omega) kd46_30.2.2.2.2.2.2.2.2.2.2.2 (fun g84252 hg84252 => ?_)
                            refine X_aloadn hK (i := 0) 5 kd46_31.1 rfl rfl ?_
                            refine X_iload hK (i := 6) 2 kd46_31.2.1 rfl ?_
                            refine X_callV hK [.int (iI z84081)] [] lk_X12_402 (c_X12_askOf _ _ _ _ _ S g84252 a0 z84081 hs_a0 (by omega)) hs_a0 ⟨by decide, rfl⟩ kd46_31.2.2.1 rfl rfl (by simp [Value.category]) (by decide) (by decide) (by decide) (by decide) (fun r84253 S84255 g84254 pr84253 qr84253 hg84254 => ?_)
                            obtain ⟨rfl, rfl⟩ := pr84253
                            refine X_st [] rfl ?_
                            refine X_aloadn hK (i := 0) 5 kd46_31.2.2.2.1 rfl rfl ?_
                            refine X_iloadn hK (i := 2) 7 kd46_31.2.2.2.2.1 rfl rfl ?_
                            refine X_iconst hK kd46_31.2.2.2.2.2.1 ?_
                            refine X_callV hK [.int (iI x2), .int (iI 2)] [] lk_X12_395 (c_X12_tells _ _ _ _ _ S g84254 a0 x2 2 wo wf wu wp hs_a0 (by omega) (by omega) ((hg84254 a0 13 0 29 hs_a0 (by decide)).trans ((xs_a hg84252 (xne hs_a0 hs_b84251 (by decide))).trans ((xs_a hg84182 (xne hs_a0 hs_wc (by decide))).trans ((hg84083 a0 13 0 29 hs_a0 (by decide)).trans ((hg83060 a0 13 0 29 hs_a0 (by decide)).trans ((hg75750 a0 13 0 29 hs_a0 (by decide)).trans ((hg48910 a0 13 0 29 hs_a0 (by decide)).trans ewo))))))) hs_wo ((hg84254 a0 13 0 33 hs_a0 (by decide)).trans ((xs_a hg84252 (xne hs_a0 hs_b84251 (by decide))).trans ((xs_a hg84182 (xne hs_a0 hs_wc (by decide))).trans ((hg84083 a0 13 0 33 hs_a0 (by decide)).trans ((hg83060 a0 13 0 33 hs_a0 (by decide)).trans ((hg75750 a0 13 0 33 hs_a0 (by decide)).trans ((hg48910 a0 13 0 33 hs_a0 (by decide)).trans ewf))))))) hs_wf ((hg84254 a0 13 0 34 hs_a0 (by decide)).trans ((xs_a hg84252 (xne hs_a0 hs_b84251 (by decide))).trans ((xs_a hg84182 (xne hs_a0 hs_wc (by decide))).trans ((hg84083 a0 13 0 34 hs_a0 (by decide)).trans ((hg83060 a0 13 0 34 hs_a0 (by decide)).trans ((hg75750 a0 13 0 34 hs_a0 (by decide)).trans ((hg48910 a0 13 0 34 hs_a0 (by decide)).trans ewu))))))) hs_wu ((hg84254 a0 13 0 35 hs_a0 (by decide)).trans ((xs_a hg84252 (xne hs_a0 hs_b84251 (by decide))).trans ((xs_a hg84182 (xne hs_a0 hs_wc (by decide))).trans ((hg84083 a0 13 0 35 hs_a0 (by decide)).trans ((hg83060 a0 13 0 35 hs_a0 (by decide)).trans ((hg75750 a0 13 0 35 hs_a0 (by decide)).trans ((hg48910 a0 13 0 35 hs_a0 (by decide)).trans ewp))))))) hs_wp (by rw [(Eq.trans (Eq.trans (Eq.trans (Eq.trans (Eq.trans (Eq.trans (xv_m hg84254 hs_wo (by decide) (by decide)) (xv_a hg84252 (xne hs_wo hs_b84251 (by decide)))) (xv_a hg84182 (xne hs_wo hs_wc (by decide)))) (xv_m hg84083 hs_wo (by decide) (by decide))) (xv_m hg83060 hs_wo (by decide) (by decide))) (xv_m hg75750 hs_wo (by decide) (by decide))) (xv_m hg48910 hs_wo (by decide) (by decide))), (Eq.trans (Eq.trans (Eq.trans (Eq.trans (Eq.trans (Eq.trans (xv_m hg84254 hs_wf (by decide) (by decide)) (xv_a hg84252 (xne hs_wf hs_b84251 (by decide)))) (xv_a hg84182 (xne hs_wf hs_wc (by decide)))) (xv_m hg84083 hs_wf (by decide) (by decide))) (xv_m hg83060 hs_wf (by decide) (by decide))) (xv_m hg75750 hs_wf (by decide) (by decide))) (xv_m hg48910 hs_wf (by decide) (by decide))), (Eq.trans (Eq.trans (Eq.trans (Eq.trans (Eq.trans (Eq.trans (xv_m hg84254 hs_wu (by decide) (by decide)) (xv_a hg84252 (xne hs_wu hs_b84251 (by decide)))) (xv_a hg84182 (xne hs_wu hs_wc (by decide)))) (xv_m hg84083 hs_wu (by decide) (by decide))) (xv_m hg83060 hs_wu (by decide) (by decide))) (xv_m hg75750 hs_wu (by decide) (by decide))) (xv_m hg48910 hs_wu (by decide) (by decide))), (Eq.trans (Eq.trans (Eq.trans (Eq.trans (Eq.trans (Eq.trans (xv_m hg84254 hs_wp (by decide) (by decide)) (xv_a hg84252 (xne hs_wp hs_b84251 (by decide)))) (xv_a hg84182 (xne hs_wp hs_wc (by decide)))) (xv_m hg84083 hs_wp (by decide) (by decide))) (xv_m hg83060 hs_wp (by decide) (by decide))) (xv_m hg75750 hs_wp (by decide) (by decide))) (xv_m hg48910 hs_wp (by decide) (by decide)))]; exact hp0)) hs_a0 ⟨by decide, rfl⟩ kd46_31.2.2.2.2.2.2.1 rfl rfl (by simp [Value.category]) (by decide) (by decide) (by decide) (by decide) (fun r84256 S84258 g84257 pr84256 qr84256 hg84257 => ?_)
                            obtain ⟨rfl, z84259, rfl, lz84259, uz84259⟩ := pr84256
                            refine X_st [.int (iI z84259)] rfl ?_
                            refine X_istore hK (i := 8) [(8, .int (iI z84259)), (5, .int (iI (z84082 - 0))), (7, .int (iI 0)), (6, .int (iI z84081)), (4, .int (iI z83059)), (3, .int (iI z75749)), (0, .ref a0), (1, .int (iI x1)), (2, .int (iI x2))] kd46_31.2.2.2.2.2.2.2.1 (by decide) rfl ?_
                            refine X_aloadn hK (i := 0) 6 kd46_31.2.2.2.2.2.2.2.2.1 rfl rfl ?_
                            refine X_getr hK 17500 200 fl_X12_126_13 hs_a0 sl_13_61 kd46_31.2.2.2.2.2.2.2.2.2.1 (fun b84260 eb84260 hs_b84260 => ?_)
                            refine X_iload hK (i := 6) 3 kd46_31.2.2.2.2.2.2.2.2.2.2.1 rfl ?_
                            refine X_aloadn hK (i := 0) 6 kd46_31.2.2.2.2.2.2.2.2.2.2.2 rfl rfl ?_
                            refine X_getr hK 16700 200 fl_X12_99_13 hs_a0 sl_13_51 kd46_32.1 (fun b84261 eb84261 hs_b84261 => ?_)
                            refine X_iload hK (i := 6) 3 kd46_32.2.1 rfl ?_
                            refine X_iald hK hs_b84261 (by decide) sl_16700 (by omega) (by omega) kd46_32.2.2.1 (fun z84262 ez84262 lz84262 uz84262 => ?_)
                            refine X_iload hK (i := 7) 2 kd46_32.2.2.2.1 rfl ?_
                            refine X_isub hK kd46_32.2.2.2.2.1 ?_
                            refine X_iload hK (i := 8) 0 kd46_32.2.2.2.2.2.1 rfl ?_
                            refine X_bipush hK kd46_32.2.2.2.2.2.2.1 (by decide) ?_
                            refine X_icmp_le hK 240 (by omega) (by omega) kd46_32.2.2.2.2.2.2.2.1 (by decide) (fun c84263 => ?_) (fun c84263 => ?_)
                            · refine X_iload hK (i := 8) 0 kd46_32.2.2.2.2.2.2.2.2.2.2.1 rfl ?_
                              refine X_imul hK kd46_32.2.2.2.2.2.2.2.2.2.2.2 ?_
                              refine X_norm (fun z84264 ez84264 lz84264 uz84264 => ?_)
                              refine X_bipush hK kd46_33.1 (by decide) ?_
                              refine X_idiv hK (by omega) (by omega) kd46_33.2.1 (fun z84265 ez84265 fz84265 => ?_)
                              have bz84265 : -21474836 ≤ z84265 ∧ z84265 ≤ 21474836 := by omega
                              refine X_iast hK hs_b84260 (by decide) (by decide) sl_17500 (by omega) (by omega) (by omega) (by omega) kd46_33.2.2.1 (fun g84266 hg84266 => ?_)
                              refine X_aloadn hK (i := 0) 6 kd46_33.2.2.2.1 rfl rfl ?_
                              refine X_iloadn hK (i := 3) 5 kd46_33.2.2.2.2.1 rfl rfl ?_
                              refine X_iload hK (i := 4) 4 kd46_33.2.2.2.2.2.1 rfl ?_
                              refine X_callV hK [.int (iI z75749), .int (iI z83059)] [] lk_X12_405 (c2_firstAt _ _ _ _ _ S g84266 a0 z75749 z83059 wc hs_a0 (by omega) (by omega) ((xs_a hg84266 (xne hs_a0 hs_b84260 (by decide))).trans ((hg84257 a0 13 0 62 hs_a0 (by decide)).trans ((hg84254 a0 13 0 62 hs_a0 (by decide)).trans ((xs_a hg84252 (xne hs_a0 hs_b84251 (by decide))).trans ((xs_a hg84182 (xne hs_a0 hs_wc (by decide))).trans ((hg84083 a0 13 0 62 hs_a0 (by decide)).trans ((hg83060 a0 13 0 62 hs_a0 (by decide)).trans ((hg75750 a0 13 0 62 hs_a0 (by decide)).trans ((hg48910 a0 13 0 62 hs_a0 (by decide)).trans ewc))))))))) hs_wc) hs_a0 ⟨by decide, rfl⟩ kd46_33.2.2.2.2.2.2.1 rfl rfl (by simp [Value.category]) (by decide) (by decide) (by decide) (by decide) (fun r84267 S84269 g84268 pr84267 qr84267 hg84268 => ?_)
                              obtain ⟨rfl, rfl, z84270, rfl, lz84270, uz84270, k84271⟩ := pr84267
                              refine X_st [.int (iI z84270)] rfl ?_
                              have huh84272 : xuc (xv g84083 wc) = xuc (xv g84266 wc) + 1 := xuc_s (j := z84081) (by omega) (v84180 (by omega)) (show xv g84266 wc z84081 = 1 from by rw [(xv_a hg84266 (xne hs_wc hs_b84260 (by decide))), (xv_m hg84257 hs_wc (by decide) (by decide)), (xv_m hg84254 hs_wc (by decide) (by decide)), (xv_a hg84252 (xne hs_wc hs_b84251 (by decide))), xv_s hg84182 (by omega)]) (fun i9 hi9 h09 => (show xv g84266 wc i9 = xv g84083 wc i9 from by rw [(xv_a hg84266 (xne hs_wc hs_b84260 (by decide))), (xv_m hg84257 hs_wc (by decide) (by decide)), (xv_m hg84254 hs_wc (by decide) (by decide)), (xv_a hg84252 (xne hs_wc hs_b84251 (by decide))), (xv_k (i := i9) hg84182 (by omega) (by omega) (by omega))]))
                              refine X_istore hK (i := 6) [(6, .int (iI z84270)), (8, .int (iI z84259)), (5, .int (iI (z84082 - 0))), (7, .int (iI 0)), (4, .int (iI z83059)), (3, .int (iI z75749)), (0, .ref a0), (1, .int (iI x1)), (2, .int (iI x2))] kd46_33.2.2.2.2.2.2.2.1 (by decide) rfl ?_
                              refine X_goto hK 128 kd46_33.2.2.2.2.2.2.2.2.1 (by decide) ?_
                              refine X_lv [(6, .int (iI z84270)), (5, .int (iI (z84082 - 0))), (4, .int (iI z83059)), (3, .int (iI z75749)), (0, .ref a0), (1, .int (iI x1)), (2, .int (iI x2))] [0, 2, 4, 5, 6, 7, 8] rfl ?_
                              exact ihP84179  g84266 (xM_ua (xM.tr (xM.tr (xM_ua (xM_ua (xM.tr xM.rf xLe.rf hg84083 (by decide)) hg84182 hs_wc (by decide) (by decide)) hg84252 hs_b84251 (by decide) (by decide)) xLe.rf hg84254 (by decide)) xLe.rf hg84257 (by decide)) hg84266 hs_b84260 (by decide) (by decide)) z84270 (by omega) (by omega) (z84082 - 0) (by omega) (by omega) (fun h9 => (k84271 h9).2) (by omega)
                            · refine X_bipush hK kd46_32.2.2.2.2.2.2.2.2.1 (by decide) ?_
                              refine X_goto hK 242 kd46_32.2.2.2.2.2.2.2.2.2.1 (by decide) ?_
                              refine X_imul hK kd46_32.2.2.2.2.2.2.2.2.2.2.2 ?_
                              refine X_norm (fun z84273 ez84273 lz84273 uz84273 => ?_)
                              refine X_bipush hK kd46_33.1 (by decide) ?_
                              refine X_idiv hK (by omega) (by omega) kd46_33.2.1 (fun z84274 ez84274 fz84274 => ?_)
                              have bz84274 : -21474836 ≤ z84274 ∧ z84274 ≤ 21474836 := by omega
                              refine X_iast hK hs_b84260 (by decide) (by decide) sl_17500 (by omega) (by omega) (by omega) (by omega) kd46_33.2.2.1 (fun g84275 hg84275 => ?_)
                              refine X_aloadn hK (i := 0) 6 kd46_33.2.2.2.1 rfl rfl ?_
                              refine X_iloadn hK (i := 3) 5 kd46_33.2.2.2.2.1 rfl rfl ?_
                              refine X_iload hK (i := 4) 4 kd46_33.2.2.2.2.2.1 rfl ?_
                              refine X_callV hK [.int (iI z75749), .int (iI z83059)] [] lk_X12_405 (c2_firstAt _ _ _ _ _ S g84275 a0 z75749 z83059 wc hs_a0 (by omega) (by omega) ((xs_a hg84275 (xne hs_a0 hs_b84260 (by decide))).trans ((hg84257 a0 13 0 62 hs_a0 (by decide)).trans ((hg84254 a0 13 0 62 hs_a0 (by decide)).trans ((xs_a hg84252 (xne hs_a0 hs_b84251 (by decide))).trans ((xs_a hg84182 (xne hs_a0 hs_wc (by decide))).trans ((hg84083 a0 13 0 62 hs_a0 (by decide)).trans ((hg83060 a0 13 0 62 hs_a0 (by decide)).trans ((hg75750 a0 13 0 62 hs_a0 (by decide)).trans ((hg48910 a0 13 0 62 hs_a0 (by decide)).trans ewc))))))))) hs_wc) hs_a0 ⟨by decide, rfl⟩ kd46_33.2.2.2.2.2.2.1 rfl rfl (by simp [Value.category]) (by decide) (by decide) (by decide) (by decide) (fun r84276 S84278 g84277 pr84276 qr84276 hg84277 => ?_)
                              obtain ⟨rfl, rfl, z84279, rfl, lz84279, uz84279, k84280⟩ := pr84276
                              refine X_st [.int (iI z84279)] rfl ?_
                              have huh84281 : xuc (xv g84083 wc) = xuc (xv g84275 wc) + 1 := xuc_s (j := z84081) (by omega) (v84180 (by omega)) (show xv g84275 wc z84081 = 1 from by rw [(xv_a hg84275 (xne hs_wc hs_b84260 (by decide))), (xv_m hg84257 hs_wc (by decide) (by decide)), (xv_m hg84254 hs_wc (by decide) (by decide)), (xv_a hg84252 (xne hs_wc hs_b84251 (by decide))), xv_s hg84182 (by omega)]) (fun i9 hi9 h09 => (show xv g84275 wc i9 = xv g84083 wc i9 from by rw [(xv_a hg84275 (xne hs_wc hs_b84260 (by decide))), (xv_m hg84257 hs_wc (by decide) (by decide)), (xv_m hg84254 hs_wc (by decide) (by decide)), (xv_a hg84252 (xne hs_wc hs_b84251 (by decide))), (xv_k (i := i9) hg84182 (by omega) (by omega) (by omega))]))
                              refine X_istore hK (i := 6) [(6, .int (iI z84279)), (8, .int (iI z84259)), (5, .int (iI (z84082 - 0))), (7, .int (iI 0)), (4, .int (iI z83059)), (3, .int (iI z75749)), (0, .ref a0), (1, .int (iI x1)), (2, .int (iI x2))] kd46_33.2.2.2.2.2.2.2.1 (by decide) rfl ?_
                              refine X_goto hK 128 kd46_33.2.2.2.2.2.2.2.2.1 (by decide) ?_
                              refine X_lv [(6, .int (iI z84279)), (5, .int (iI (z84082 - 0))), (4, .int (iI z83059)), (3, .int (iI z75749)), (0, .ref a0), (1, .int (iI x1)), (2, .int (iI x2))] [0, 2, 4, 5, 6, 7, 8] rfl ?_
                              exact ihP84179  g84275 (xM_ua (xM.tr (xM.tr (xM_ua (xM_ua (xM.tr xM.rf xLe.rf hg84083 (by decide)) hg84182 hs_wc (by decide) (by decide)) hg84252 hs_b84251 (by decide) (by decide)) xLe.rf hg84254 (by decide)) xLe.rf hg84257 (by decide)) hg84275 hs_b84260 (by decide) (by decide)) z84279 (by omega) (by omega) (z84082 - 0) (by omega) (by omega) (fun h9 => (k84280 h9).2) (by omega)
                    exact P84179 ((((xuc (xv g83060 wc) : Nat) : Int) : Int).toNat + 1) g83060 xM.rf z83690 (by omega) (by omega) z83685 (by omega) (by omega) (fun h9 => (k83691 h9).2) (by omega)
              exact P83668 ((20 - 0 : Int).toNat + 1) g75750 xM.rf 0 (by omega) (by omega) (by omega)
        exact P80013 ((26 - 0 : Int).toNat + 1) g48910 xM.rf 0 (by omega) (by omega) (by omega)
      · refine X_aloadn hK (i := 0) 1 kd46_22.2.2.2.1 rfl rfl ?_
        refine X_getK hK fl_X12_129_13 hs_a0 ((hg48910 a0 13 0 62 hs_a0 (by decide)).trans ewc) kd46_22.2.2.2.2.1 ?_
        refine X_iloadn hK (i := 3) 0 kd46_22.2.2.2.2.2.1 rfl rfl ?_
        refine X_aloadn hK (i := 0) 1 kd46_22.2.2.2.2.2.2.1 rfl rfl ?_
        refine X_getr hK 16900 200 fl_X12_105_13 hs_a0 sl_13_53 kd46_22.2.2.2.2.2.2.2.1 (fun b84282 eb84282 hs_b84282 => ?_)
        refine X_iloadn hK (i := 3) 0 kd46_22.2.2.2.2.2.2.2.2.1 rfl rfl ?_
        refine X_iald hK hs_b84282 (by decide) sl_16900 (by omega) (by omega) kd46_22.2.2.2.2.2.2.2.2.2.1 (fun z84283 ez84283 lz84283 uz84283 => ?_)
        refine X_iloadn hK (i := 1) 2 kd46_22.2.2.2.2.2.2.2.2.2.2.1 rfl rfl ?_
        refine X_icmp_eq hK 29 (by omega) (by omega) kd46_22.2.2.2.2.2.2.2.2.2.2.2 (by decide) (fun c84284 => ?_) (fun c84284 => ?_)
        · refine X_iconst hK kd46_23.2.2.1 ?_
          refine X_zast hK hs_wc (by decide) (by decide) sl_19501 (by omega) (by omega) (by omega) (by omega) kd46_23.2.2.2.1 (fun g84285 hg84285 => ?_)
          refine X_aloadn hK (i := 0) 1 kd46_23.2.2.2.2.1 rfl rfl ?_
          refine X_getK hK fl_X12_129_13 hs_a0 ((xs_a hg84285 (xne hs_a0 hs_wc (by decide))).trans ((hg48910 a0 13 0 62 hs_a0 (by decide)).trans ewc)) kd46_23.2.2.2.2.2.1 ?_
          refine X_iloadn hK (i := 3) 0 kd46_23.2.2.2.2.2.2.1 rfl rfl ?_
          refine X_zald hK hs_wc (by decide) sl_19501 (by omega) (by omega) kd46_23.2.2.2.2.2.2.2.1 (fun z84286 ez84286 lz84286 uz84286 => ?_)
          refine X_if_eq hK 43 (by omega) kd46_23.2.2.2.2.2.2.2.2.1 (by decide) (fun c84287 => ?_) (fun c84287 => ?_)
          · refine X_aloadn hK (i := 0) 1 kd46_23.2.2.2.2.2.2.2.2.2.2.1 rfl rfl ?_
            refine X_iloadn hK (i := 3) 0 kd46_23.2.2.2.2.2.2.2.2.2.2.2 rfl rfl ?_
            refine X_callV hK [.int (iI z48909)] [] lk_X12_402 (c_X12_askOf _ _ _ _ _ S g84285 a0 z48909 hs_a0 (by omega)) hs_a0 ⟨by decide, rfl⟩ kd46_24.1 rfl rfl (by simp [Value.category]) (by decide) (by decide) (by decide) (by decide) (fun r84288 S84290 g84289 pr84288 qr84288 hg84289 => ?_)
            obtain ⟨rfl, rfl⟩ := pr84288
            refine X_st [] rfl ?_
            refine X_aloadn hK (i := 0) 1 kd46_24.2.1 rfl rfl ?_
            refine X_getr hK 19601 200 fl_X12_132_13 hs_a0 sl_13_63 kd46_24.2.2.1 (fun b84291 eb84291 hs_b84291 => ?_)
            refine X_iloadn hK (i := 3) 0 kd46_24.2.2.2.1 rfl rfl ?_
            refine X_aloadn hK (i := 0) 1 kd46_24.2.2.2.2.1 rfl rfl ?_
            refine X_iloadn hK (i := 2) 3 kd46_24.2.2.2.2.2.1 rfl rfl ?_
            refine X_iconst hK kd46_24.2.2.2.2.2.2.1 ?_
            refine X_callV hK [.int (iI x2), .int (iI 4)] [.int (iI z48909), .ref b84291] lk_X12_395 (c_X12_tells _ _ _ _ _ S g84289 a0 x2 4 wo wf wu wp hs_a0 (by omega) (by omega) ((hg84289 a0 13 0 29 hs_a0 (by decide)).trans ((xs_a hg84285 (xne hs_a0 hs_wc (by decide))).trans ((hg48910 a0 13 0 29 hs_a0 (by decide)).trans ewo))) hs_wo ((hg84289 a0 13 0 33 hs_a0 (by decide)).trans ((xs_a hg84285 (xne hs_a0 hs_wc (by decide))).trans ((hg48910 a0 13 0 33 hs_a0 (by decide)).trans ewf))) hs_wf ((hg84289 a0 13 0 34 hs_a0 (by decide)).trans ((xs_a hg84285 (xne hs_a0 hs_wc (by decide))).trans ((hg48910 a0 13 0 34 hs_a0 (by decide)).trans ewu))) hs_wu ((hg84289 a0 13 0 35 hs_a0 (by decide)).trans ((xs_a hg84285 (xne hs_a0 hs_wc (by decide))).trans ((hg48910 a0 13 0 35 hs_a0 (by decide)).trans ewp))) hs_wp (by rw [(Eq.trans (Eq.trans (xv_m hg84289 hs_wo (by decide) (by decide)) (xv_a hg84285 (xne hs_wo hs_wc (by decide)))) (xv_m hg48910 hs_wo (by decide) (by decide))), (Eq.trans (Eq.trans (xv_m hg84289 hs_wf (by decide) (by decide)) (xv_a hg84285 (xne hs_wf hs_wc (by decide)))) (xv_m hg48910 hs_wf (by decide) (by decide))), (Eq.trans (Eq.trans (xv_m hg84289 hs_wu (by decide) (by decide)) (xv_a hg84285 (xne hs_wu hs_wc (by decide)))) (xv_m hg48910 hs_wu (by decide) (by decide))), (Eq.trans (Eq.trans (xv_m hg84289 hs_wp (by decide) (by decide)) (xv_a hg84285 (xne hs_wp hs_wc (by decide)))) (xv_m hg48910 hs_wp (by decide) (by decide)))]; exact hp0)) hs_a0 ⟨by decide, rfl⟩ kd46_24.2.2.2.2.2.2.2.1 rfl rfl (by simp [Value.category]) (by decide) (by decide) (by decide) (by decide) (fun r84292 S84294 g84293 pr84292 qr84292 hg84293 => ?_)
            obtain ⟨rfl, z84295, rfl, lz84295, uz84295⟩ := pr84292
            refine X_st [.int (iI z84295), .int (iI z48909), .ref b84291] rfl ?_
            refine X_iconst hK kd46_24.2.2.2.2.2.2.2.2.1 ?_
            refine X_icmp_ne hK 67 (by omega) (by omega) kd46_24.2.2.2.2.2.2.2.2.2.1 (by decide) (fun c84296 => ?_) (fun c84296 => ?_)
            · refine X_iconst hK kd46_25.1 ?_
              refine X_zast hK hs_b84291 (by decide) (by decide) sl_19601 (by omega) (by omega) (by omega) (by omega) kd46_25.2.1 (fun g84297 hg84297 => ?_)
              refine X_iinc hK (i := 3) (z := z48909) (n := 1) 0 [(3, .int (iI (z48909 + 1))), (0, .ref a0), (1, .int (iI x1)), (2, .int (iI x2))] kd46_25.2.2.1 rfl (by decide) rfl ?_
              refine X_goto hK 2 kd46_25.2.2.2.1 (by decide) ?_
              exact ihP54427  g84297 (xM_ua (xM.tr (xM.tr (xM_ua (xM.tr xM.rf xLe.rf hg48910 (by decide)) hg84285 hs_wc (by decide) (by decide)) xLe.rf hg84289 (by decide)) xLe.rf hg84293 (by decide)) hg84297 hs_b84291 (by decide) (by decide)) (z48909 + 1) (by omega) (by omega) (by omega)
            · refine X_iconst hK kd46_24.2.2.2.2.2.2.2.2.2.2.1 ?_
              refine X_goto hK 68 kd46_24.2.2.2.2.2.2.2.2.2.2.2 (by decide) ?_
              refine X_zast hK hs_b84291 (by decide) (by decide) sl_19601 (by omega) (by omega) (by omega) (by omega) kd46_25.2.1 (fun g84298 hg84298 => ?_)
              refine X_iinc hK (i := 3) (z := z48909) (n := 1) 0 [(3, .int (iI (z48909 + 1))), (0, .ref a0), (1, .int (iI x1)), (2, .int (iI x2))] kd46_25.2.2.1 rfl (by decide) rfl ?_
              refine X_goto hK 2 kd46_25.2.2.2.1 (by decide) ?_
              exact ihP54427  g84298 (xM_ua (xM.tr (xM.tr (xM_ua (xM.tr xM.rf xLe.rf hg48910 (by decide)) hg84285 hs_wc (by decide) (by decide)) xLe.rf hg84289 (by decide)) xLe.rf hg84293 (by decide)) hg84298 hs_b84291 (by decide) (by decide)) (z48909 + 1) (by omega) (by omega) (by omega)
          · refine X_goto hK 69 kd46_23.2.2.2.2.2.2.2.2.2.1 (by decide) ?_
            refine X_iinc hK (i := 3) (z := z48909) (n := 1) 0 [(3, .int (iI (z48909 + 1))), (0, .ref a0), (1, .int (iI x1)), (2, .int (iI x2))] kd46_25.2.2.1 rfl (by decide) rfl ?_
            refine X_goto hK 2 kd46_25.2.2.2.1 (by decide) ?_
            exact ihP54427  g84285 (xM_ua (xM.tr xM.rf xLe.rf hg48910 (by decide)) hg84285 hs_wc (by decide) (by decide)) (z48909 + 1) (by omega) (by omega) (by omega)
        · refine X_iconst hK kd46_23.1 ?_
          refine X_goto hK 30 kd46_23.2.1 (by decide) ?_
          refine X_zast hK hs_wc (by decide) (by decide) sl_19501 (by omega) (by omega) (by omega) (by omega) kd46_23.2.2.2.1 (fun g84299 hg84299 => ?_)
          refine X_aloadn hK (i := 0) 1 kd46_23.2.2.2.2.1 rfl rfl ?_
          refine X_getK hK fl_X12_129_13 hs_a0 ((xs_a hg84299 (xne hs_a0 hs_wc (by decide))).trans ((hg48910 a0 13 0 62 hs_a0 (by decide)).trans ewc)) kd46_23.2.2.2.2.2.1 ?_
          refine X_iloadn hK (i := 3) 0 kd46_23.2.2.2.2.2.2.1 rfl rfl ?_
          refine X_zald hK hs_wc (by decide) sl_19501 (by omega) (by omega) kd46_23.2.2.2.2.2.2.2.1 (fun z84300 ez84300 lz84300 uz84300 => ?_)
          refine X_if_eq hK 43 (by omega) kd46_23.2.2.2.2.2.2.2.2.1 (by decide) (fun c84301 => ?_) (fun c84301 => ?_)
          · refine X_aloadn hK (i := 0) 1 kd46_23.2.2.2.2.2.2.2.2.2.2.1 rfl rfl ?_
            refine X_iloadn hK (i := 3) 0 kd46_23.2.2.2.2.2.2.2.2.2.2.2 rfl rfl ?_
            refine X_callV hK [.int (iI z48909)] [] lk_X12_402 (c_X12_askOf _ _ _ _ _ S g84299 a0 z48909 hs_a0 (by omega)) hs_a0 ⟨by decide, rfl⟩ kd46_24.1 rfl rfl (by simp [Value.category]) (by decide) (by decide) (by decide) (by decide) (fun r84302 S84304 g84303 pr84302 qr84302 hg84303 => ?_)
            obtain ⟨rfl, rfl⟩ := pr84302
            refine X_st [] rfl ?_
            refine X_aloadn hK (i := 0) 1 kd46_24.2.1 rfl rfl ?_
            refine X_getr hK 19601 200 fl_X12_132_13 hs_a0 sl_13_63 kd46_24.2.2.1 (fun b84305 eb84305 hs_b84305 => ?_)
            refine X_iloadn hK (i := 3) 0 kd46_24.2.2.2.1 rfl rfl ?_
            refine X_aloadn hK (i := 0) 1 kd46_24.2.2.2.2.1 rfl rfl ?_
            refine X_iloadn hK (i := 2) 3 kd46_24.2.2.2.2.2.1 rfl rfl ?_
            refine X_iconst hK kd46_24.2.2.2.2.2.2.1 ?_
            refine X_callV hK [.int (iI x2), .int (iI 4)] [.int (iI z48909), .ref b84305] lk_X12_395 (c_X12_tells _ _ _ _ _ S g84303 a0 x2 4 wo wf wu wp hs_a0 (by omega) (by omega) ((hg84303 a0 13 0 29 hs_a0 (by decide)).trans ((xs_a hg84299 (xne hs_a0 hs_wc (by decide))).trans ((hg48910 a0 13 0 29 hs_a0 (by decide)).trans ewo))) hs_wo ((hg84303 a0 13 0 33 hs_a0 (by decide)).trans ((xs_a hg84299 (xne hs_a0 hs_wc (by decide))).trans ((hg48910 a0 13 0 33 hs_a0 (by decide)).trans ewf))) hs_wf ((hg84303 a0 13 0 34 hs_a0 (by decide)).trans ((xs_a hg84299 (xne hs_a0 hs_wc (by decide))).trans ((hg48910 a0 13 0 34 hs_a0 (by decide)).trans ewu))) hs_wu ((hg84303 a0 13 0 35 hs_a0 (by decide)).trans ((xs_a hg84299 (xne hs_a0 hs_wc (by decide))).trans ((hg48910 a0 13 0 35 hs_a0 (by decide)).trans ewp))) hs_wp (by rw [(Eq.trans (Eq.trans (xv_m hg84303 hs_wo (by decide) (by decide)) (xv_a hg84299 (xne hs_wo hs_wc (by decide)))) (xv_m hg48910 hs_wo (by decide) (by decide))), (Eq.trans (Eq.trans (xv_m hg84303 hs_wf (by decide) (by decide)) (xv_a hg84299 (xne hs_wf hs_wc (by decide)))) (xv_m hg48910 hs_wf (by decide) (by decide))), (Eq.trans (Eq.trans (xv_m hg84303 hs_wu (by decide) (by decide)) (xv_a hg84299 (xne hs_wu hs_wc (by decide)))) (xv_m hg48910 hs_wu (by decide) (by decide))), (Eq.trans (Eq.trans (xv_m hg84303 hs_wp (by decide) (by decide)) (xv_a hg84299 (xne hs_wp hs_wc (by decide)))) (xv_m hg48910 hs_wp (by decide) (by decide)))]; exact hp0)) hs_a0 ⟨by decide, rfl⟩ kd46_24.2.2.2.2.2.2.2.1 rfl rfl (by simp [Value.category]) (by decide) (by decide) (by decide) (by decide) (fun r84306 S84308 g84307 pr84306 qr84306 hg84307 => ?_)
            obtain ⟨rfl, z84309, rfl, lz84309, uz84309⟩ := pr84306
            refine X_st [.int (iI z84309), .int (iI z48909), .ref b84305] rfl ?_
            refine X_iconst hK kd46_24.2.2.2.2.2.2.2.2.1 ?_
            refine X_icmp_ne hK 67 (by omega) (by omega) kd46_24.2.2.2.2.2.2.2.2.2.1 (by decide) (fun c84310 => ?_) (fun c84310 => ?_)
            · refine X_iconst hK kd46_25.1 ?_
              refine X_zast hK hs_b84305 (by decide) (by decide) sl_19601 (by omega) (by omega) (by omega) (by omega) kd46_25.2.1 (fun g84311 hg84311 => ?_)
              refine X_iinc hK (i := 3) (z := z48909) (n := 1) 0 [(3, .int (iI (z48909 + 1))), (0, .ref a0), (1, .int (iI x1)), (2, .int (iI x2))] kd46_25.2.2.1 rfl (by decide) rfl ?_
              refine X_goto hK 2 kd46_25.2.2.2.1 (by decide) ?_
              exact ihP54427  g84311 (xM_ua (xM.tr (xM.tr (xM_ua (xM.tr xM.rf xLe.rf hg48910 (by decide)) hg84299 hs_wc (by decide) (by decide)) xLe.rf hg84303 (by decide)) xLe.rf hg84307 (by decide)) hg84311 hs_b84305 (by decide) (by decide)) (z48909 + 1) (by omega) (by omega) (by omega)
            · refine X_iconst hK kd46_24.2.2.2.2.2.2.2.2.2.2.1 ?_
              refine X_goto hK 68 kd46_24.2.2.2.2.2.2.2.2.2.2.2 (by decide) ?_
              refine X_zast hK hs_b84305 (by decide) (by decide) sl_19601 (by omega) (by omega) (by omega) (by omega) kd46_25.2.1 (fun g84312 hg84312 => ?_)
              refine X_iinc hK (i := 3) (z := z48909) (n := 1) 0 [(3, .int (iI (z48909 + 1))), (0, .ref a0), (1, .int (iI x1)), (2, .int (iI x2))] kd46_25.2.2.1 rfl (by decide) rfl ?_
              refine X_goto hK 2 kd46_25.2.2.2.1 (by decide) ?_
              exact ihP54427  g84312 (xM_ua (xM.tr (xM.tr (xM_ua (xM.tr xM.rf xLe.rf hg48910 (by decide)) hg84299 hs_wc (by decide) (by decide)) xLe.rf hg84303 (by decide)) xLe.rf hg84307 (by decide)) hg84312 hs_b84305 (by decide) (by decide)) (z48909 + 1) (by omega) (by omega) (by omega)
          · refine X_goto hK 69 kd46_23.2.2.2.2.2.2.2.2.2.1 (by decide) ?_
            refine X_iinc hK (i := 3) (z := z48909) (n := 1) 0 [(3, .int (iI (z48909 + 1))), (0, .ref a0), (1, .int (iI x1)), (2, .int (iI x2))] kd46_25.2.2.1 rfl (by decide) rfl ?_
            refine X_goto hK 2 kd46_25.2.2.2.1 (by decide) ?_
            exact ihP54427  g84299 (xM_ua (xM.tr xM.rf xLe.rf hg48910 (by decide)) hg84299 hs_wc (by decide) (by decide)) (z48909 + 1) (by omega) (by omega) (by omega)
  exact P54427 ((216 - 0 : Int).toNat + 1) g xM.rf 0 (by omega) (by omega) (by omega)

set_option maxHeartbeats 4000000 in
set_option maxRecDepth 100000 in
theorem c_X12_comes (l : Launch) (D : va_G) (kA : Nat → ClassId) (b0 : Nat) (t0 : Nat → Nat) (S : xT) (g : xG) (a0 : Nat) (x1 : Int) (x2 : Int) (wo : Nat) (wf : Nat) (wu : Nat) (wp : Nat) (hs_a0 : S a0 = some (13, 0)) (hx1 : 0 ≤ x1 ∧ x1 ≤ 199) (hx2 : (-1) ≤ x2 ∧ x2 ≤ 10) (ewo : g a0 29 = .ref wo) (hs_wo : S wo = some (15300, 11)) (ewf : g a0 33 = .ref wf) (hs_wf : S wf = some (15700, 176)) (ewu : g a0 34 = .ref wu) (hs_wu : S wu = some (15800, 176)) (ewp : g a0 35 = .ref wp) (hs_wp : S wp = some (15900, 1320)) (hp0 : xTq (xv g wo) (xv g wf) (xv g wu) (xv g wp) x2) : xMt l yX12_comes cX12_comes 3 (some .int) 3 0 0 68 D kA b0 t0 [(16300, 0), (13, 47), (19401, 0)] [.ref a0, .int (iI x1), .int (iI x2)] S g (fun (r : Option Value) (S1 : xT) (g1 : xG) => S = S1 ∧ ∃ z : Int, r = some (.int (iI z)) ∧ (-2147483648) ≤ z ∧ z ≤ 2147483647) := by
  refine xEnterI (by decide) (by simp [lg_sl, Value.category]) [(0, .ref a0), (1, .int (iI x1)), (2, .int (iI x2))] rfl ?_
  intro K E hK hret _ _ _
  refine X_aloadn hK (i := 0) 0 kd46_19.2.2.2.2.2.2.2.2.1 rfl rfl ?_
  refine X_iloadn hK (i := 1) 1 kd46_19.2.2.2.2.2.2.2.2.2.1 rfl rfl ?_
  refine X_callV hK [.int (iI x1)] [] lk_X12_402 (c_X12_askOf _ _ _ _ _ S g a0 x1 hs_a0 (by omega)) hs_a0 ⟨by decide, rfl⟩ kd46_19.2.2.2.2.2.2.2.2.2.2.1 rfl rfl (by simp [Value.category]) (by decide) (by decide) (by decide) (by decide) (fun r1 S3 g2 pr1 qr1 hg2 => ?_)
  obtain ⟨rfl, rfl⟩ := pr1
  refine X_st [] rfl ?_
  refine X_aloadn hK (i := 0) 0 kd46_19.2.2.2.2.2.2.2.2.2.2.2 rfl rfl ?_
  refine X_getr hK 17400 200 fl_X12_123_13 hs_a0 sl_13_60 kd46_20.1 (fun b4 eb4 hs_b4 => ?_)
  refine X_iloadn hK (i := 1) 1 kd46_20.2.1 rfl rfl ?_
  refine X_iald hK hs_b4 (by decide) sl_17400 (by omega) (by omega) kd46_20.2.2.1 (fun z5 ez5 lz5 uz5 => ?_)
  refine X_aloadn hK (i := 0) 0 kd46_20.2.2.2.1 rfl rfl ?_
  refine X_iloadn hK (i := 2) 2 kd46_20.2.2.2.2.1 rfl rfl ?_
  refine X_iconst hK kd46_20.2.2.2.2.2.1 ?_
  refine X_callV hK [.int (iI x2), .int (iI 1)] [.int (iI z5)] lk_X12_395 (c_X12_tells _ _ _ _ _ S g2 a0 x2 1 wo wf wu wp hs_a0 (by omega) (by omega) ((hg2 a0 13 0 29 hs_a0 (by decide)).trans ewo) hs_wo ((hg2 a0 13 0 33 hs_a0 (by decide)).trans ewf) hs_wf ((hg2 a0 13 0 34 hs_a0 (by decide)).trans ewu) hs_wu ((hg2 a0 13 0 35 hs_a0 (by decide)).trans ewp) hs_wp (by rw [(xv_m hg2 hs_wo (by decide) (by decide)), (xv_m hg2 hs_wf (by decide) (by decide)), (xv_m hg2 hs_wu (by decide) (by decide)), (xv_m hg2 hs_wp (by decide) (by decide))]; exact hp0)) hs_a0 ⟨by decide, rfl⟩ kd46_20.2.2.2.2.2.2.1 rfl rfl (by simp [Value.category]) (by decide) (by decide) (by decide) (by decide) (fun r6 S8 g7 pr6 qr6 hg7 => ?_)
  obtain ⟨rfl, z9, rfl, lz9, uz9⟩ := pr6
  refine X_st [.int (iI z9), .int (iI z5)] rfl ?_
  refine X_imul hK kd46_20.2.2.2.2.2.2.2.1 ?_
  refine X_norm (fun z10 ez10 lz10 uz10 => ?_)
  refine X_aloadn hK (i := 0) 0 kd46_20.2.2.2.2.2.2.2.2.1 rfl rfl ?_
  refine X_getr hK 17500 200 fl_X12_126_13 hs_a0 sl_13_61 kd46_20.2.2.2.2.2.2.2.2.2.1 (fun b11 eb11 hs_b11 => ?_)
  refine X_iloadn hK (i := 1) 1 kd46_20.2.2.2.2.2.2.2.2.2.2.1 rfl rfl ?_
  refine X_iald hK hs_b11 (by decide) sl_17500 (by omega) (by omega) kd46_20.2.2.2.2.2.2.2.2.2.2.2 (fun z12 ez12 lz12 uz12 => ?_)
  refine X_aloadn hK (i := 0) 0 kd46_21.1 rfl rfl ?_
  refine X_iloadn hK (i := 2) 2 kd46_21.2.1 rfl rfl ?_
  refine X_iconst hK kd46_21.2.2.1 ?_
  refine X_callV hK [.int (iI x2), .int (iI 0)] [.int (iI z12), .int (iI z10)] lk_X12_395 (c_X12_tells _ _ _ _ _ S g7 a0 x2 0 wo wf wu wp hs_a0 (by omega) (by omega) ((hg7 a0 13 0 29 hs_a0 (by decide)).trans ((hg2 a0 13 0 29 hs_a0 (by decide)).trans ewo)) hs_wo ((hg7 a0 13 0 33 hs_a0 (by decide)).trans ((hg2 a0 13 0 33 hs_a0 (by decide)).trans ewf)) hs_wf ((hg7 a0 13 0 34 hs_a0 (by decide)).trans ((hg2 a0 13 0 34 hs_a0 (by decide)).trans ewu)) hs_wu ((hg7 a0 13 0 35 hs_a0 (by decide)).trans ((hg2 a0 13 0 35 hs_a0 (by decide)).trans ewp)) hs_wp (by rw [(Eq.trans (xv_m hg7 hs_wo (by decide) (by decide)) (xv_m hg2 hs_wo (by decide) (by decide))), (Eq.trans (xv_m hg7 hs_wf (by decide) (by decide)) (xv_m hg2 hs_wf (by decide) (by decide))), (Eq.trans (xv_m hg7 hs_wu (by decide) (by decide)) (xv_m hg2 hs_wu (by decide) (by decide))), (Eq.trans (xv_m hg7 hs_wp (by decide) (by decide)) (xv_m hg2 hs_wp (by decide) (by decide)))]; exact hp0)) hs_a0 ⟨by decide, rfl⟩ kd46_21.2.2.2.1 rfl rfl (by simp [Value.category]) (by decide) (by decide) (by decide) (by decide) (fun r13 S15 g14 pr13 qr13 hg14 => ?_)
  obtain ⟨rfl, z16, rfl, lz16, uz16⟩ := pr13
  refine X_st [.int (iI z16), .int (iI z12), .int (iI z10)] rfl ?_
  refine X_imul hK kd46_21.2.2.2.2.1 ?_
  refine X_norm (fun z17 ez17 lz17 uz17 => ?_)
  refine X_bipush hK kd46_21.2.2.2.2.2.1 (by decide) ?_
  refine X_idiv hK (by omega) (by omega) kd46_21.2.2.2.2.2.2.1 (fun z18 ez18 fz18 => ?_)
  have bz18 : -21474836 ≤ z18 ∧ z18 ≤ 21474836 := by omega
  refine X_iadd hK kd46_21.2.2.2.2.2.2.2.1 ?_
  refine X_norm (fun z19 ez19 lz19 uz19 => ?_)
  exact hret _ _ _ _ _ _ _ kd46_21.2.2.2.2.2.2.2.2.1 ⟨rfl, z19, rfl, (by omega), (by omega)⟩ (Nat.le_refl _) (Nat.le_refl _)

set_option maxHeartbeats 4000000 in
set_option maxRecDepth 100000 in
theorem c_X12_close (l : Launch) (D : va_G) (kA : Nat → ClassId) (b0 : Nat) (t0 : Nat → Nat) (S : xT) (g : xG) (a0 : Nat) (td : Int) (hs_a0 : S a0 = some (13, 0)) (htd : 0 ≤ td ∧ td ≤ 400) (etd : g a0 3 = .int (iI td)) (hp0 : xTw S g a0) : xMt l yX12_close cX12_close 4 (some .int) 4 0 0 96 D kA b0 t0 [(13, 0), (19501, 0), (17400, 0), (16300, 0), (13, 47), (19401, 0), (17500, 0), (19601, 0), (13, 3), (17100, 0), (17200, 0), (17300, 0), (14500, 0)] [.ref a0] S g (fun (r : Option Value) (S1 : xT) (g1 : xG) => S = S1 ∧ ∃ z : Int, r = some (.int (iI z)) ∧ (-2147483648) ≤ z ∧ z ≤ 2147483647 ∧ (g1 a0 3 = .int (iI (if td < 400 then td + 1 else td)))) := by
  refine xEnterI (by decide) (by simp [lg_sl, Value.category]) [(0, .ref a0)] rfl ?_
  intro K E hK hret _ _ _
  refine X_aloadn hK (i := 0) 0 kd46_11.2.2.2.2.1 rfl rfl ?_
  obtain ⟨wo, wf, wu, wp, n8, hpi1, hpi2, hs_wo, hpi4, hs_wf, hpi6, hs_wu, hpi8, hs_wp, hpi10, hpi11, hpi12, hta⟩ := hp0
  refine X_wt (fun hW => ?_)
  have hlo : ∀ t : Int, 0 ≤ t → t < 11 → 0 ≤ xv g wo t ∧ xv g wo t ≤ 16 := fun k q1 q2 => xv_r hW hs_wo (by decide) sl_15300 (by decide) k q1 (by omega)
  refine X_iconst hK kd46_11.2.2.2.2.2.1 ?_
  refine X_puti hK fl_X12_198_13 hs_a0 (by decide) sl_13_0 (by omega) (by omega) kd46_11.2.2.2.2.2.2.1 (fun g1 hg1 => ?_)
  refine X_aloadn hK (i := 0) 0 kd46_11.2.2.2.2.2.2.2.1 rfl rfl ?_
  refine X_getK hK fl_X12_239_13 hs_a0 ((xs_k hg1 (by decide)).trans etd) kd46_11.2.2.2.2.2.2.2.2.1 ?_
  refine X_sipush hK kd46_11.2.2.2.2.2.2.2.2.2.1 (by decide) ?_
  refine X_icmp_ne hK 17 (by omega) (by omega) kd46_11.2.2.2.2.2.2.2.2.2.2.1 (by decide) (fun c2 => ?_) (fun c2 => ?_)
  · refine X_aloadn hK (i := 0) 0 kd46_12.2.1 rfl rfl ?_
    refine X_aloadn hK (i := 0) 0 kd46_12.2.2.1 rfl rfl ?_
    refine X_getK hK fl_X12_239_13 hs_a0 ((xs_k hg1 (by decide)).trans etd) kd46_12.2.2.2.1 ?_
    refine X_callV hK [.int (iI td)] [] lk_X12_392 (c2_termsFor _ _ _ _ _ S g1 a0 td n8 hs_a0 (by omega) (by omega) ((xs_k hg1 (by decide)).trans hpi10)) hs_a0 ⟨by decide, rfl⟩ kd46_12.2.2.2.2.1 rfl rfl (by simp [Value.category]) (by decide) (by decide) (by decide) (by decide) (fun r3 S5 g4 pr3 qr3 hg4 => ?_)
    obtain ⟨rfl, rfl, z6, rfl, lz6, uz6, k7⟩ := pr3
    refine X_st [.int (iI z6)] rfl ?_
    have tq8 : xTq (xv g1 wo) (xv g1 wf) (xv g1 wu) (xv g1 wp) z6 := xTa.q (by rw [(xv_a hg1 (xne hs_wo hs_a0 (by decide))), (xv_a hg1 (xne hs_wf hs_a0 (by decide))), (xv_a hg1 (xne hs_wu hs_a0 (by decide))), (xv_a hg1 (xne hs_wp hs_a0 (by decide)))]; exact hta) (by omega) (by omega)
    refine X_istoren hK (i := 1) [(1, .int (iI z6)), (0, .ref a0)] kd46_12.2.2.2.2.2.1 rfl (by decide) rfl ?_
    refine X_aloadn hK (i := 0) 1 kd46_12.2.2.2.2.2.2.1 rfl rfl ?_
    refine X_aloadn hK (i := 0) 1 kd46_12.2.2.2.2.2.2.2.1 rfl rfl ?_
    refine X_getK hK fl_X12_239_13 hs_a0 ((xs_k hg1 (by decide)).trans etd) kd46_12.2.2.2.2.2.2.2.2.1 ?_
    refine X_iloadn hK (i := 1) 0 kd46_12.2.2.2.2.2.2.2.2.2.1 rfl rfl ?_
    refine X_knowr 19501 200 hs_a0 (by decide) sl_13_62 (fun b9 eb9 hs_b9 => ?_)
    refine X_callV hK [.int (iI td), .int (iI z6)] [] lk_X12_412 (c_X12_cry _ _ _ _ _ S g1 a0 td z6 wo wf wu wp b9 hs_a0 (by omega) (by omega) ((xs_k hg1 (by decide)).trans hpi2) hs_wo ((xs_k hg1 (by decide)).trans hpi4) hs_wf ((xs_k hg1 (by decide)).trans hpi6) hs_wu ((xs_k hg1 (by decide)).trans hpi8) hs_wp eb9 hs_b9 tq8) hs_a0 ⟨by decide, rfl⟩ kd46_12.2.2.2.2.2.2.2.2.2.2.1 rfl rfl (by simp [Value.category]) (by decide) (by decide) (by decide) (by decide) (fun r10 S12 g11 pr10 qr10 hg11 => ?_)
    obtain ⟨rfl, rfl⟩ := pr10
    refine X_st [] rfl ?_
    refine X_iconst hK kd46_12.2.2.2.2.2.2.2.2.2.2.2 ?_
    refine X_istoren hK (i := 2) [(2, .int (iI 0)), (1, .int (iI z6)), (0, .ref a0)] kd46_13.1 rfl (by decide) rfl ?_
    refine X_iconst hK kd46_13.2.1 ?_
    refine X_istoren hK (i := 3) [(3, .int (iI 0)), (2, .int (iI 0)), (1, .int (iI z6)), (0, .ref a0)] kd46_13.2.2.1 rfl (by decide) rfl ?_
    have P215 : ∀ (nP215 : Nat) (g183 : xG) (_ : xM [(14500, 0), (16300, 0), (13, 47), (19401, 0), (17300, 0), (17200, 0), (17100, 0)] S g11 g183) (z181 : Int) (_ : 0 ≤ z181) (_ : z181 ≤ 200) (z182 : Int) (_ : (-2147483648) ≤ z182) (_ : z182 ≤ 2147483647) (_ : 216 - z181 < (nP215 : Int)), X K E 39 [(3, .int (iI z181)), (2, .int (iI z182)), (1, .int (iI z6)), (0, .ref a0)] [] S g183 0 0 := by
      intro nP215
      induction nP215 with
      | zero => intro g183 hg183 z181 lz181 uz181 z182 lz182 uz182 mP215; exact False.elim (by omega)
      | succ nP215 ihP215 =>
        intro g183 hg183 z181 lz181 uz181 z182 lz182 uz182 mP215
        refine X_iloadn hK (i := 3) 0 kd46_13.2.2.2.1 rfl rfl ?_
        refine X_aloadn hK (i := 0) 3 kd46_13.2.2.2.2.1 rfl rfl ?_
        refine X_geti hK fl_X12_389_13 hs_a0 sl_13_58 kd46_13.2.2.2.2.2.1 (fun z216 ez216 lz216 uz216 => ?_)
        refine X_icmp_ge hK 148 (by omega) (by omega) kd46_13.2.2.2.2.2.2.1 (by decide) (fun c217 => ?_) (fun c217 => ?_)
        · refine X_aloadn hK (i := 0) 3 kd46_19.1 rfl rfl ?_
          refine X_dup hK kd46_19.2.1 rfl ?_
          refine X_getK hK fl_X12_239_13 hs_a0 ((hg183 a0 13 0 3 hs_a0 (by decide)).trans ((hg11 a0 13 0 3 hs_a0 (by decide)).trans ((xs_k hg1 (by decide)).trans etd))) kd46_19.2.2.1 ?_
          refine X_iconst hK kd46_19.2.2.2.1 ?_
          refine X_iadd hK kd46_19.2.2.2.2.1 ?_
          refine X_puti hK fl_X12_239_13 hs_a0 (by decide) sl_13_3 (by omega) (by omega) kd46_19.2.2.2.2.2.1 (fun g218 hg218 => ?_)
          refine X_iloadn hK (i := 2) 1 kd46_19.2.2.2.2.2.2.1 rfl rfl ?_
          exact hret _ _ _ _ _ _ _ kd46_19.2.2.2.2.2.2.2.1 ⟨rfl, z182, rfl, (by omega), (by omega), ((xs_s hg218).trans (by congr 2 <;> omega))⟩ (Nat.le_refl _) (Nat.le_refl _)
        · refine X_aloadn hK (i := 0) 3 kd46_13.2.2.2.2.2.2.2.1 rfl rfl ?_
          refine X_getr hK 16900 200 fl_X12_105_13 hs_a0 sl_13_53 kd46_13.2.2.2.2.2.2.2.2.1 (fun b219 eb219 hs_b219 => ?_)
          refine X_iloadn hK (i := 3) 0 kd46_13.2.2.2.2.2.2.2.2.2.1 rfl rfl ?_
          refine X_iald hK hs_b219 (by decide) sl_16900 (by omega) (by omega) kd46_13.2.2.2.2.2.2.2.2.2.2.1 (fun z220 ez220 lz220 uz220 => ?_)
          refine X_aloadn hK (i := 0) 3 kd46_13.2.2.2.2.2.2.2.2.2.2.2 rfl rfl ?_
          refine X_getK hK fl_X12_239_13 hs_a0 ((hg183 a0 13 0 3 hs_a0 (by decide)).trans ((hg11 a0 13 0 3 hs_a0 (by decide)).trans ((xs_k hg1 (by decide)).trans etd))) kd46_14.1 ?_
          refine X_icmp_eq hK 63 (by omega) (by omega) kd46_14.2.1 (by decide) (fun c221 => ?_) (fun c221 => ?_)
          · refine X_aloadn hK (i := 0) 3 kd46_14.2.2.2.1 rfl rfl ?_
            refine X_getr hK 17100 200 fl_X12_111_13 hs_a0 sl_13_55 kd46_14.2.2.2.2.1 (fun b222 eb222 hs_b222 => ?_)
            refine X_iloadn hK (i := 3) 0 kd46_14.2.2.2.2.2.1 rfl rfl ?_
            refine X_aloadn hK (i := 0) 3 kd46_14.2.2.2.2.2.2.1 rfl rfl ?_
            refine X_getr hK 17400 200 fl_X12_123_13 hs_a0 sl_13_60 kd46_14.2.2.2.2.2.2.2.1 (fun b223 eb223 hs_b223 => ?_)
            refine X_iloadn hK (i := 3) 0 kd46_14.2.2.2.2.2.2.2.2.1 rfl rfl ?_
            refine X_iald hK hs_b223 (by decide) sl_17400 (by omega) (by omega) kd46_14.2.2.2.2.2.2.2.2.2.1 (fun z224 ez224 lz224 uz224 => ?_)
            refine X_iast hK hs_b222 (by decide) (by decide) sl_17100 (by omega) (by omega) (by omega) (by omega) kd46_14.2.2.2.2.2.2.2.2.2.2.1 (fun g225 hg225 => ?_)
            refine X_aloadn hK (i := 0) 3 kd46_14.2.2.2.2.2.2.2.2.2.2.2 rfl rfl ?_
            refine X_getr hK 17200 200 fl_X12_114_13 hs_a0 sl_13_56 kd46_15.1 (fun b226 eb226 hs_b226 => ?_)
            refine X_iloadn hK (i := 3) 0 kd46_15.2.1 rfl rfl ?_
            refine X_aloadn hK (i := 0) 3 kd46_15.2.2.1 rfl rfl ?_
            refine X_getr hK 17500 200 fl_X12_126_13 hs_a0 sl_13_61 kd46_15.2.2.2.1 (fun b227 eb227 hs_b227 => ?_)
            refine X_iloadn hK (i := 3) 0 kd46_15.2.2.2.2.1 rfl rfl ?_
            refine X_iald hK hs_b227 (by decide) sl_17500 (by omega) (by omega) kd46_15.2.2.2.2.2.1 (fun z228 ez228 lz228 uz228 => ?_)
            refine X_iast hK hs_b226 (by decide) (by decide) sl_17200 (by omega) (by omega) (by omega) (by omega) kd46_15.2.2.2.2.2.2.1 (fun g229 hg229 => ?_)
            refine X_aloadn hK (i := 0) 3 kd46_15.2.2.2.2.2.2.2.1 rfl rfl ?_
            refine X_getr hK 17300 200 fl_X12_117_13 hs_a0 sl_13_57 kd46_15.2.2.2.2.2.2.2.2.1 (fun b230 eb230 hs_b230 => ?_)
            refine X_iloadn hK (i := 3) 0 kd46_15.2.2.2.2.2.2.2.2.2.1 rfl rfl ?_
            refine X_aloadn hK (i := 0) 3 kd46_15.2.2.2.2.2.2.2.2.2.2.1 rfl rfl ?_
            refine X_getr hK 16700 200 fl_X12_99_13 hs_a0 sl_13_51 kd46_15.2.2.2.2.2.2.2.2.2.2.2 (fun b231 eb231 hs_b231 => ?_)
            refine X_iloadn hK (i := 3) 0 kd46_16.1 rfl rfl ?_
            refine X_iald hK hs_b231 (by decide) sl_16700 (by omega) (by omega) kd46_16.2.1 (fun z232 ez232 lz232 uz232 => ?_)
            refine X_aloadn hK (i := 0) 3 kd46_16.2.2.1 rfl rfl ?_
            refine X_getK hK fl_X12_111_13 hs_a0 ((xs_a hg229 (xne hs_a0 hs_b226 (by decide))).trans ((xs_a hg225 (xne hs_a0 hs_b222 (by decide))).trans eb222)) kd46_16.2.2.2.1 ?_
            refine X_iloadn hK (i := 3) 0 kd46_16.2.2.2.2.1 rfl rfl ?_
            refine X_ialdK hK hs_b222 (by decide) (by omega) (by omega) ((xs_a hg229 (xne hs_b222 hs_b226 (by decide))).trans (xs_s hg225)) kd46_16.2.2.2.2.2.1 ?_
            refine X_isub hK kd46_16.2.2.2.2.2.2.1 ?_
            refine X_norm (fun z233 ez233 lz233 uz233 => ?_)
            refine X_aloadn hK (i := 0) 3 kd46_16.2.2.2.2.2.2.2.1 rfl rfl ?_
            refine X_getK hK fl_X12_114_13 hs_a0 ((xs_a hg229 (xne hs_a0 hs_b226 (by decide))).trans eb226) kd46_16.2.2.2.2.2.2.2.2.1 ?_
            refine X_iloadn hK (i := 3) 0 kd46_16.2.2.2.2.2.2.2.2.2.1 rfl rfl ?_
            refine X_ialdK hK hs_b226 (by decide) (by omega) (by omega) (xs_s hg229) kd46_16.2.2.2.2.2.2.2.2.2.2.1 ?_
            refine X_isub hK kd46_16.2.2.2.2.2.2.2.2.2.2.2 ?_
            refine X_norm (fun z234 ez234 lz234 uz234 => ?_)
            refine X_iast hK hs_b230 (by decide) (by decide) sl_17300 (by omega) (by omega) (by omega) (by omega) kd46_17.1 (fun g235 hg235 => ?_)
            refine X_aloadn hK (i := 0) 3 kd46_17.2.1 rfl rfl ?_
            refine X_getr hK 14500 40 fl_X12_22_13 hs_a0 sl_13_7 kd46_17.2.2.1 (fun b236 eb236 hs_b236 => ?_)
            refine X_aloadn hK (i := 0) 3 kd46_17.2.2.2.1 rfl rfl ?_
            refine X_getr hK 16400 200 fl_X12_90_13 hs_a0 sl_13_48 kd46_17.2.2.2.2.1 (fun b237 eb237 hs_b237 => ?_)
            refine X_iloadn hK (i := 3) 0 kd46_17.2.2.2.2.2.1 rfl rfl ?_
            refine X_iald hK hs_b237 (by decide) sl_16400 (by omega) (by omega) kd46_17.2.2.2.2.2.2.1 (fun z238 ez238 lz238 uz238 => ?_)
            refine X_dup2 hK kd46_17.2.2.2.2.2.2.2.1 rfl rfl ?_
            refine X_iald hK hs_b236 (by decide) sl_14500 (by omega) (by omega) kd46_17.2.2.2.2.2.2.2.2.1 (fun z239 ez239 lz239 uz239 => ?_)
            refine X_aloadn hK (i := 0) 3 kd46_17.2.2.2.2.2.2.2.2.2.1 rfl rfl ?_
            refine X_iloadn hK (i := 3) 0 kd46_17.2.2.2.2.2.2.2.2.2.2.1 rfl rfl ?_
            refine X_iloadn hK (i := 1) 2 kd46_17.2.2.2.2.2.2.2.2.2.2.2 rfl rfl ?_
            refine X_callV hK [.int (iI z181), .int (iI z6)] [.int (iI z239), .int (iI z238), .ref b236] lk_X12_415 (c_X12_comes _ _ _ _ _ S g235 a0 z181 z6 wo wf wu wp hs_a0 (by omega) (by omega) ((xs_a hg235 (xne hs_a0 hs_b230 (by decide))).trans ((xs_a hg229 (xne hs_a0 hs_b226 (by decide))).trans ((xs_a hg225 (xne hs_a0 hs_b222 (by decide))).trans ((hg183 a0 13 0 29 hs_a0 (by decide)).trans ((hg11 a0 13 0 29 hs_a0 (by decide)).trans ((xs_k hg1 (by decide)).trans hpi2)))))) hs_wo ((xs_a hg235 (xne hs_a0 hs_b230 (by decide))).trans ((xs_a hg229 (xne hs_a0 hs_b226 (by decide))).trans ((xs_a hg225 (xne hs_a0 hs_b222 (by decide))).trans ((hg183 a0 13 0 33 hs_a0 (by decide)).trans ((hg11 a0 13 0 33 hs_a0 (by decide)).trans ((xs_k hg1 (by decide)).trans hpi4)))))) hs_wf ((xs_a hg235 (xne hs_a0 hs_b230 (by decide))).trans ((xs_a hg229 (xne hs_a0 hs_b226 (by decide))).trans ((xs_a hg225 (xne hs_a0 hs_b222 (by decide))).trans ((hg183 a0 13 0 34 hs_a0 (by decide)).trans ((hg11 a0 13 0 34 hs_a0 (by decide)).trans ((xs_k hg1 (by decide)).trans hpi6)))))) hs_wu ((xs_a hg235 (xne hs_a0 hs_b230 (by decide))).trans ((xs_a hg229 (xne hs_a0 hs_b226 (by decide))).trans ((xs_a hg225 (xne hs_a0 hs_b222 (by decide))).trans ((hg183 a0 13 0 35 hs_a0 (by decide)).trans ((hg11 a0 13 0 35 hs_a0 (by decide)).trans ((xs_k hg1 (by decide)).trans hpi8)))))) hs_wp (by rw [(Eq.trans (Eq.trans (Eq.trans (Eq.trans (xv_a hg235 (xne hs_wo hs_b230 (by decide))) (xv_a hg229 (xne hs_wo hs_b226 (by decide)))) (xv_a hg225 (xne hs_wo hs_b222 (by decide)))) (xv_m hg183 hs_wo (by decide) (by decide))) (xv_m hg11 hs_wo (by decide) (by decide))), (Eq.trans (Eq.trans (Eq.trans (Eq.trans (xv_a hg235 (xne hs_wf hs_b230 (by decide))) (xv_a hg229 (xne hs_wf hs_b226 (by decide)))) (xv_a hg225 (xne hs_wf hs_b222 (by decide)))) (xv_m hg183 hs_wf (by decide) (by decide))) (xv_m hg11 hs_wf (by decide) (by decide))), (Eq.trans (Eq.trans (Eq.trans (Eq.trans (xv_a hg235 (xne hs_wu hs_b230 (by decide))) (xv_a hg229 (xne hs_wu hs_b226 (by decide)))) (xv_a hg225 (xne hs_wu hs_b222 (by decide)))) (xv_m hg183 hs_wu (by decide) (by decide))) (xv_m hg11 hs_wu (by decide) (by decide))), (Eq.trans (Eq.trans (Eq.trans (Eq.trans (xv_a hg235 (xne hs_wp hs_b230 (by decide))) (xv_a hg229 (xne hs_wp hs_b226 (by decide)))) (xv_a hg225 (xne hs_wp hs_b222 (by decide)))) (xv_m hg183 hs_wp (by decide) (by decide))) (xv_m hg11 hs_wp (by decide) (by decide)))]; exact tq8)) hs_a0 ⟨by decide, rfl⟩ kd46_18.1 rfl rfl (by simp [Value.category]) (by decide) (by decide) (by decide) (by decide) (fun r240 S242 g241 pr240 qr240 hg241 => ?_)
            obtain ⟨rfl, z243, rfl, lz243, uz243⟩ := pr240
            refine X_st [.int (iI z243), .int (iI z239), .int (iI z238), .ref b236] rfl ?_
            refine X_iadd hK kd46_18.2.1 ?_
            refine X_norm (fun z244 ez244 lz244 uz244 => ?_)
            refine X_iast hK hs_b236 (by decide) (by decide) sl_14500 (by omega) (by omega) (by omega) (by omega) kd46_18.2.2.1 (fun g245 hg245 => ?_)
            refine X_iloadn hK (i := 2) 1 kd46_18.2.2.2.1 rfl rfl ?_
            refine X_aloadn hK (i := 0) 3 kd46_18.2.2.2.2.1 rfl rfl ?_
            refine X_getK hK fl_X12_111_13 hs_a0 ((xs_a hg245 (xne hs_a0 hs_b236 (by decide))).trans ((hg241 a0 13 0 55 hs_a0 (by decide)).trans ((xs_a hg235 (xne hs_a0 hs_b230 (by decide))).trans ((xs_a hg229 (xne hs_a0 hs_b226 (by decide))).trans ((xs_a hg225 (xne hs_a0 hs_b222 (by decide))).trans eb222))))) kd46_18.2.2.2.2.2.1 ?_
            refine X_iloadn hK (i := 3) 0 kd46_18.2.2.2.2.2.2.1 rfl rfl ?_
            refine X_ialdK hK hs_b222 (by decide) (by omega) (by omega) ((xs_a hg245 (xne hs_b222 hs_b236 (by decide))).trans ((hg241 _ _ _ _ hs_b222 (by rw [xky_a (by decide)]; decide)).trans ((xs_a hg235 (xne hs_b222 hs_b230 (by decide))).trans ((xs_a hg229 (xne hs_b222 hs_b226 (by decide))).trans (xs_s hg225))))) kd46_18.2.2.2.2.2.2.2.1 ?_
            refine X_iadd hK kd46_18.2.2.2.2.2.2.2.2.1 ?_
            refine X_norm (fun z246 ez246 lz246 uz246 => ?_)
            refine X_istoren hK (i := 2) [(2, .int (iI z246)), (3, .int (iI z181)), (1, .int (iI z6)), (0, .ref a0)] kd46_18.2.2.2.2.2.2.2.2.2.1 rfl (by decide) rfl ?_
            refine X_iinc hK (i := 3) (z := z181) (n := 1) 1 [(3, .int (iI (z181 + 1))), (2, .int (iI z246)), (1, .int (iI z6)), (0, .ref a0)] kd46_18.2.2.2.2.2.2.2.2.2.2.1 rfl (by decide) rfl ?_
            refine X_goto hK 39 kd46_18.2.2.2.2.2.2.2.2.2.2.2 (by decide) ?_
            exact ihP215  g245 (xM_ua (xM.tr (xM_ua (xM_ua (xM_ua (xM.tr xM.rf xLe.rf hg183 (by decide)) hg225 hs_b222 (by decide) (by decide)) hg229 hs_b226 (by decide) (by decide)) hg235 hs_b230 (by decide) (by decide)) xLe.rf hg241 (by decide)) hg245 hs_b236 (by decide) (by decide)) (z181 + 1) (by omega) (by omega) z246 (by omega) (by omega) (by omega)
          · refine X_goto hK 142 kd46_14.2.2.1 (by decide) ?_
            refine X_iinc hK (i := 3) (z := z181) (n := 1) 0 [(3, .int (iI (z181 + 1))), (2, .int (iI z182)), (1, .int (iI z6)), (0, .ref a0)] kd46_18.2.2.2.2.2.2.2.2.2.2.1 rfl (by decide) rfl ?_
            refine X_goto hK 39 kd46_18.2.2.2.2.2.2.2.2.2.2.2 (by decide) ?_
            exact ihP215  g183 (xM.tr xM.rf xLe.rf hg183 (by decide)) (z181 + 1) (by omega) (by omega) z182 (by omega) (by omega) (by omega)
    exact P215 ((216 - 0 : Int).toNat + 1) g11 xM.rf 0 (by omega) (by omega) 0 (by omega) (by omega) (by omega)
  · refine X_iconst hK kd46_11.2.2.2.2.2.2.2.2.2.2.2 ?_
    exact hret _ _ _ _ _ _ _ kd46_12.1 ⟨rfl, (-1), rfl, (by omega), (by omega), (((xs_k hg1 (by decide)).trans etd).trans (by congr 2 <;> omega))⟩ (Nat.le_refl _) (Nat.le_refl _)

set_option maxHeartbeats 4000000 in
set_option maxRecDepth 100000 in
theorem c_X12_tried (l : Launch) (D : va_G) (kA : Nat → ClassId) (b0 : Nat) (t0 : Nat → Nat) (S : xT) (g : xG) (a0 : Nat) (n0 : Int) (hs_a0 : S a0 = some (13, 0)) (hn0 : 0 ≤ n0 ∧ n0 ≤ 420) (en0 : g a0 2 = .int (iI n0)) (hp0 : xTw S g a0) : xMt l yX12_tried cX12_tried 5 (some .int) 6 0 0 132 D kA b0 t0 [(13, 0), (13, 2), (13, 19), (13, 25), (13, 27), (13, 40), (13, 41), (13, 43), (13, 44), (13, 20), (13, 21), (13, 28), (13, 23), (13, 22), (13, 24), (15300, 0), (13, 26), (15500, 0), (15600, 0), (15700, 0), (15800, 0), (13, 42), (15900, 0), (16000, 0), (16100, 0), (16200, 0), (13, 71), (19501, 0), (17400, 0), (16300, 0), (13, 47), (19401, 0), (17500, 0), (19601, 0)] [.ref a0] S g (fun (r : Option Value) (S1 : xT) (g1 : xG) => S = S1 ∧ ∃ z : Int, r = some (.int (iI z)) ∧ (-2147483648) ≤ z ∧ z ≤ 2147483647 ∧ (g1 a0 2 = .int (iI (0))) ∧ (xTw S g1 a0)) := by
  refine xEnterI (by decide) (by simp [lg_sl, Value.category]) [(0, .ref a0)] rfl ?_
  intro K E hK hret _ _ _
  refine X_aloadn hK (i := 0) 0 kd46_84.2.2.2.2.2.2.2.2.2.2.1 rfl rfl ?_
  obtain ⟨wo, wf, wu, wp, n8, hpi1, hpi2, hs_wo, hpi4, hs_wf, hpi6, hs_wu, hpi8, hs_wp, hpi10, hpi11, hpi12, hta⟩ := hp0
  refine X_wt (fun hW => ?_)
  have hlo : ∀ t : Int, 0 ≤ t → t < 11 → 0 ≤ xv g wo t ∧ xv g wo t ≤ 16 := fun k q1 q2 => xv_r hW hs_wo (by decide) sl_15300 (by decide) k q1 (by omega)
  refine X_iconst hK kd46_84.2.2.2.2.2.2.2.2.2.2.2 ?_
  refine X_puti hK fl_X12_198_13 hs_a0 (by decide) sl_13_0 (by omega) (by omega) kd46_85.1 (fun g1 hg1 => ?_)
  refine X_aloadn hK (i := 0) 0 kd46_85.2.1 rfl rfl ?_
  refine X_aloadn hK (i := 0) 0 kd46_85.2.2.1 rfl rfl ?_
  refine X_callV hK [] [.ref a0] lk_X12_222 (c_X12_take _ _ _ _ _ S g1 a0 n0 hs_a0 (by omega) ((xs_k hg1 (by decide)).trans en0)) hs_a0 ⟨by decide, rfl⟩ kd46_85.2.2.2.1 rfl rfl (by simp [Value.category]) (by decide) (by decide) (by decide) (by decide) (fun r2 S4 g3 pr2 qr2 hg3 => ?_)
  obtain ⟨rfl, z5, rfl, lz5, uz5, k6, k7⟩ := pr2
  refine X_st [.int (iI z5), .ref a0] rfl ?_
  refine X_callV hK [.int (iI z5)] [] lk_X12_376 (c_X12_readTerms _ _ _ _ _ S g3 a0 z5 wo wf wu wp hs_a0 (by omega) ((hg3 a0 13 0 29 hs_a0 (by decide)).trans ((xs_k hg1 (by decide)).trans hpi2)) hs_wo ((hg3 a0 13 0 33 hs_a0 (by decide)).trans ((xs_k hg1 (by decide)).trans hpi4)) hs_wf ((hg3 a0 13 0 34 hs_a0 (by decide)).trans ((xs_k hg1 (by decide)).trans hpi6)) hs_wu ((hg3 a0 13 0 35 hs_a0 (by decide)).trans ((xs_k hg1 (by decide)).trans hpi8)) hs_wp) hs_a0 ⟨by decide, rfl⟩ kd46_85.2.2.2.2.1 rfl rfl (by simp [Value.category]) (by decide) (by decide) (by decide) (by decide) (fun r8 S10 g9 pr8 qr8 hg9 => ?_)
  obtain ⟨rfl, z11, rfl, lz11, uz11, k12⟩ := pr8
  refine X_st [.int (iI z11)] rfl ?_
  obtain ⟨z13, z14, ez13, lz13, uz13, ez14, lz14, uz14, Rz13, oz13, yz13, xz13, vz13⟩ := k12
  have ta15 : xTa n8 (xv g9 wo) (xv g9 wf) (xv g9 wu) (xv g9 wp) := xTa.low (by rw [(Eq.trans (xv_m hg3 hs_wo (by decide) (by decide)) (xv_a hg1 (xne hs_wo hs_a0 (by decide)))), (Eq.trans (xv_m hg3 hs_wf (by decide) (by decide)) (xv_a hg1 (xne hs_wf hs_a0 (by decide)))), (Eq.trans (xv_m hg3 hs_wu (by decide) (by decide)) (xv_a hg1 (xne hs_wu hs_a0 (by decide)))), (Eq.trans (xv_m hg3 hs_wp (by decide) (by decide)) (xv_a hg1 (xne hs_wp hs_a0 (by decide))))]; exact hta) (by omega) (fun t q1 q2 => by rw [(Eq.trans (xv_m hg3 hs_wo (by decide) (by decide)) (xv_a hg1 (xne hs_wo hs_a0 (by decide))))]; exact (hlo t q1 q2).2) oz13 yz13 xz13 vz13
  have tq16 : z11 = 1 → xTq (xv g9 wo) (xv g9 wf) (xv g9 wu) (xv g9 wp) 10 := fun h9 => Or.inr (xRl.tr (Rz13 h9).1 (Rz13 h9).2 (by omega))
  refine X_if_ne hK 25 (by omega) kd46_85.2.2.2.2.2.1 (by decide) (fun c17 => ?_) (fun c17 => ?_)
  · refine X_iconst hK kd46_85.2.2.2.2.2.2.2.2.2.2.2 ?_
    refine X_istoren hK (i := 1) [(1, .int (iI 0)), (0, .ref a0)] kd46_86.1 rfl (by decide) rfl ?_
    refine X_iconst hK kd46_86.2.1 ?_
    refine X_istoren hK (i := 2) [(2, .int (iI 0)), (1, .int (iI 0)), (0, .ref a0)] kd46_86.2.2.1 rfl (by decide) rfl ?_
    refine X_iconst hK kd46_86.2.2.2.1 ?_
    refine X_istoren hK (i := 3) [(3, .int (iI 0)), (2, .int (iI 0)), (1, .int (iI 0)), (0, .ref a0)] kd46_86.2.2.2.2.1 rfl (by decide) rfl ?_
    have P1429 : ∀ (nP1429 : Nat) (g1196 : xG) (_ : xM [(13, 47), (19401, 0), (16300, 0), (19501, 0), (17400, 0), (17500, 0), (19601, 0)] S g9 g1196) (z1193 : Int) (_ : 0 ≤ z1193) (_ : z1193 ≤ 400) (z1194 : Int) (_ : (-2147483648) ≤ z1194) (_ : z1194 ≤ 2147483647) (z1195 : Int) (_ : (-2147483648) ≤ z1195) (_ : z1195 ≤ 2147483647) (_ : 416 - z1193 < (nP1429 : Int)), X K E 31 [(3, .int (iI z1193)), (2, .int (iI z1194)), (1, .int (iI z1195)), (0, .ref a0)] [] S g1196 0 0 := by
      intro nP1429
      induction nP1429 with
      | zero => intro g1196 hg1196 z1193 lz1193 uz1193 z1194 lz1194 uz1194 z1195 lz1195 uz1195 mP1429; exact False.elim (by omega)
      | succ nP1429 ihP1429 =>
        intro g1196 hg1196 z1193 lz1193 uz1193 z1194 lz1194 uz1194 z1195 lz1195 uz1195 mP1429
        refine X_iloadn hK (i := 3) 0 kd46_86.2.2.2.2.2.1 rfl rfl ?_
        refine X_aloadn hK (i := 0) 3 kd46_86.2.2.2.2.2.2.1 rfl rfl ?_
        refine X_geti hK fl_X12_239_13 hs_a0 sl_13_3 kd46_86.2.2.2.2.2.2.2.1 (fun z1430 ez1430 lz1430 uz1430 => ?_)
        refine X_icmp_ge hK 150 (by omega) (by omega) kd46_86.2.2.2.2.2.2.2.2.1 (by decide) (fun c1431 => ?_) (fun c1431 => ?_)
        · refine X_aloadn hK (i := 0) 3 kd46_91.2.2.2.2.2.2.2.2.2.1 rfl rfl ?_
          refine X_iloadn hK (i := 2) 1 kd46_91.2.2.2.2.2.2.2.2.2.2.1 rfl rfl ?_
          refine X_puti hK fl_X12_150_13 hs_a0 (by decide) sl_13_71 (by omega) (by omega) kd46_91.2.2.2.2.2.2.2.2.2.2.2 (fun g1432 hg1432 => ?_)
          refine X_iloadn hK (i := 1) 2 kd46_92.1 rfl rfl ?_
          exact hret _ _ _ _ _ _ _ kd46_92.2 ⟨rfl, z1195, rfl, (by omega), (by omega), (((xs_k hg1432 (by decide)).trans ((hg1196 a0 13 0 2 hs_a0 (by decide)).trans ((hg9 a0 13 0 2 hs_a0 (by decide)).trans k7))).trans (by congr 2 <;> omega)), ⟨wo, wf, wu, wp, n8, hs_a0, ((xs_k hg1432 (by decide)).trans ((hg1196 a0 13 0 29 hs_a0 (by decide)).trans ((hg9 a0 13 0 29 hs_a0 (by decide)).trans ((hg3 a0 13 0 29 hs_a0 (by decide)).trans ((xs_k hg1 (by decide)).trans hpi2))))), hs_wo, ((xs_k hg1432 (by decide)).trans ((hg1196 a0 13 0 33 hs_a0 (by decide)).trans ((hg9 a0 13 0 33 hs_a0 (by decide)).trans ((hg3 a0 13 0 33 hs_a0 (by decide)).trans ((xs_k hg1 (by decide)).trans hpi4))))), hs_wf, ((xs_k hg1432 (by decide)).trans ((hg1196 a0 13 0 34 hs_a0 (by decide)).trans ((hg9 a0 13 0 34 hs_a0 (by decide)).trans ((hg3 a0 13 0 34 hs_a0 (by decide)).trans ((xs_k hg1 (by decide)).trans hpi6))))), hs_wu, ((xs_k hg1432 (by decide)).trans ((hg1196 a0 13 0 35 hs_a0 (by decide)).trans ((hg9 a0 13 0 35 hs_a0 (by decide)).trans ((hg3 a0 13 0 35 hs_a0 (by decide)).trans ((xs_k hg1 (by decide)).trans hpi8))))), hs_wp, ((xs_k hg1432 (by decide)).trans ((hg1196 a0 13 0 39 hs_a0 (by decide)).trans ((hg9 a0 13 0 39 hs_a0 (by decide)).trans ((hg3 a0 13 0 39 hs_a0 (by decide)).trans ((xs_k hg1 (by decide)).trans hpi10))))), by omega, by omega, (by rw [(Eq.trans (xv_a hg1432 (xne hs_wo hs_a0 (by decide))) (xv_m hg1196 hs_wo (by decide) (by decide))), (Eq.trans (xv_a hg1432 (xne hs_wf hs_a0 (by decide))) (xv_m hg1196 hs_wf (by decide) (by decide))), (Eq.trans (xv_a hg1432 (xne hs_wu hs_a0 (by decide))) (xv_m hg1196 hs_wu (by decide) (by decide))), (Eq.trans (xv_a hg1432 (xne hs_wp hs_a0 (by decide))) (xv_m hg1196 hs_wp (by decide) (by decide)))]; exact ta15)⟩⟩ (Nat.le_refl _) (Nat.le_refl _)
        · refine X_aloadn hK (i := 0) 3 kd46_86.2.2.2.2.2.2.2.2.2.1 rfl rfl ?_
          refine X_iloadn hK (i := 3) 0 kd46_86.2.2.2.2.2.2.2.2.2.2.1 rfl rfl ?_
          refine X_callV hK [.int (iI z1193)] [] lk_X12_438 (c_X12_isBought _ _ _ _ _ S g1196 a0 z1193 hs_a0 (by omega)) hs_a0 ⟨by decide, rfl⟩ kd46_86.2.2.2.2.2.2.2.2.2.2.2 rfl rfl (by simp [Value.category]) (by decide) (by decide) (by decide) (by decide) (fun r1433 S1435 g1434 pr1433 qr1433 hg1434 => ?_)
          obtain ⟨rfl, rfl, z1436, rfl, lz1436, uz1436⟩ := pr1433
          refine X_st [.int (iI z1436)] rfl ?_
          refine X_if_ne hK 50 (by omega) kd46_87.1 (by decide) (fun c1437 => ?_) (fun c1437 => ?_)
          · refine X_aloadn hK (i := 0) 3 kd46_87.2.2.1 rfl rfl ?_
            refine X_iloadn hK (i := 3) 0 kd46_87.2.2.2.1 rfl rfl ?_
            refine X_bipush hK kd46_87.2.2.2.2.1 (by decide) ?_
            refine X_knowr 19501 200 hs_a0 (by decide) sl_13_62 (fun b1438 eb1438 hs_b1438 => ?_)
            refine X_callV hK [.int (iI z1193), .int (iI 10)] [] lk_X12_412 (c_X12_cry _ _ _ _ _ S g1196 a0 z1193 10 wo wf wu wp b1438 hs_a0 (by omega) (by omega) ((hg1196 a0 13 0 29 hs_a0 (by decide)).trans ((hg9 a0 13 0 29 hs_a0 (by decide)).trans ((hg3 a0 13 0 29 hs_a0 (by decide)).trans ((xs_k hg1 (by decide)).trans hpi2)))) hs_wo ((hg1196 a0 13 0 33 hs_a0 (by decide)).trans ((hg9 a0 13 0 33 hs_a0 (by decide)).trans ((hg3 a0 13 0 33 hs_a0 (by decide)).trans ((xs_k hg1 (by decide)).trans hpi4)))) hs_wf ((hg1196 a0 13 0 34 hs_a0 (by decide)).trans ((hg9 a0 13 0 34 hs_a0 (by decide)).trans ((hg3 a0 13 0 34 hs_a0 (by decide)).trans ((xs_k hg1 (by decide)).trans hpi6)))) hs_wu ((hg1196 a0 13 0 35 hs_a0 (by decide)).trans ((hg9 a0 13 0 35 hs_a0 (by decide)).trans ((hg3 a0 13 0 35 hs_a0 (by decide)).trans ((xs_k hg1 (by decide)).trans hpi8)))) hs_wp eb1438 hs_b1438 (by rw [(xv_m hg1196 hs_wo (by decide) (by decide)), (xv_m hg1196 hs_wf (by decide) (by decide)), (xv_m hg1196 hs_wu (by decide) (by decide)), (xv_m hg1196 hs_wp (by decide) (by decide))]; exact (tq16 (by omega)))) hs_a0 ⟨by decide, rfl⟩ kd46_87.2.2.2.2.2.1 rfl rfl (by simp [Value.category]) (by decide) (by decide) (by decide) (by decide) (fun r1439 S1441 g1440 pr1439 qr1439 hg1440 => ?_)
            obtain ⟨rfl, rfl⟩ := pr1439
            refine X_st [] rfl ?_
            refine X_iconst hK kd46_87.2.2.2.2.2.2.1 ?_
            refine X_istore hK (i := 4) [(4, .int (iI 0)), (3, .int (iI z1193)), (2, .int (iI z1194)), (1, .int (iI z1195)), (0, .ref a0)] kd46_87.2.2.2.2.2.2.2.1 (by decide) rfl ?_
            have P1633 : ∀ (nP1633 : Nat) (g1604 : xG) (_ : xM [(13, 47), (19401, 0), (16300, 0)] S g1440 g1604) (z1601 : Int) (_ : 0 ≤ z1601) (_ : z1601 ≤ 200) (z1602 : Int) (_ : (-2147483648) ≤ z1602) (_ : z1602 ≤ 2147483647) (z1603 : Int) (_ : (-2147483648) ≤ z1603) (_ : z1603 ≤ 2147483647) (_ : 216 - z1601 < (nP1633 : Int)), X K E 60 [(4, .int (iI z1601)), (3, .int (iI z1193)), (2, .int (iI z1602)), (1, .int (iI z1603)), (0, .ref a0)] [] S g1604 0 0 := by
              intro nP1633
              induction nP1633 with
              | zero => intro g1604 hg1604 z1601 lz1601 uz1601 z1602 lz1602 uz1602 z1603 lz1603 uz1603 mP1633; exact False.elim (by omega)
              | succ nP1633 ihP1633 =>
                intro g1604 hg1604 z1601 lz1601 uz1601 z1602 lz1602 uz1602 z1603 lz1603 uz1603 mP1633
                refine X_iload hK (i := 4) 0 kd46_87.2.2.2.2.2.2.2.2.1 rfl ?_
                refine X_aloadn hK (i := 0) 4 kd46_87.2.2.2.2.2.2.2.2.2.1 rfl rfl ?_
                refine X_geti hK fl_X12_389_13 hs_a0 sl_13_58 kd46_87.2.2.2.2.2.2.2.2.2.2.1 (fun z1634 ez1634 lz1634 uz1634 => ?_)
                refine X_icmp_ge hK 144 (by omega) (by omega) kd46_87.2.2.2.2.2.2.2.2.2.2.2 (by decide) (fun c1635 => ?_) (fun c1635 => ?_)
                · refine X_iinc hK (i := 3) (z := z1193) (n := 1) 1 [(3, .int (iI (z1193 + 1))), (4, .int (iI z1601)), (2, .int (iI z1602)), (1, .int (iI z1603)), (0, .ref a0)] kd46_91.2.2.2.2.2.2.2.1 rfl (by decide) rfl ?_
                  refine X_goto hK 31 kd46_91.2.2.2.2.2.2.2.2.1 (by decide) ?_
                  refine X_lv [(3, .int (iI (z1193 + 1))), (2, .int (iI z1602)), (1, .int (iI z1603)), (0, .ref a0)] [0, 2, 3, 4] rfl ?_
                  exact ihP1429  g1604 (xM.tr (xM.tr (xM.tr xM.rf xLe.rf hg1196 (by decide)) xLe.rf hg1440 (by decide)) xLe.rf hg1604 (by decide)) (z1193 + 1) (by omega) (by omega) z1602 (by omega) (by omega) z1603 (by omega) (by omega) (by omega)
                · refine X_aloadn hK (i := 0) 4 kd46_88.1 rfl rfl ?_
                  refine X_getr hK 16900 200 fl_X12_105_13 hs_a0 sl_13_53 kd46_88.2.1 (fun b1636 eb1636 hs_b1636 => ?_)
                  refine X_iload hK (i := 4) 0 kd46_88.2.2.1 rfl ?_
                  refine X_iald hK hs_b1636 (by decide) sl_16900 (by omega) (by omega) kd46_88.2.2.2.1 (fun z1637 ez1637 lz1637 uz1637 => ?_)
                  refine X_iloadn hK (i := 3) 1 kd46_88.2.2.2.2.1 rfl rfl ?_
                  refine X_icmp_eq hK 83 (by omega) (by omega) kd46_88.2.2.2.2.2.1 (by decide) (fun c1638 => ?_) (fun c1638 => ?_)
                  · refine X_iloadn hK (i := 1) 3 kd46_88.2.2.2.2.2.2.2.1 rfl rfl ?_
                    refine X_aloadn hK (i := 0) 4 kd46_88.2.2.2.2.2.2.2.2.1 rfl rfl ?_
                    refine X_iload hK (i := 4) 0 kd46_88.2.2.2.2.2.2.2.2.2.1 rfl ?_
                    refine X_bipush hK kd46_88.2.2.2.2.2.2.2.2.2.2.1 (by decide) ?_
                    refine X_callV hK [.int (iI z1601), .int (iI 10)] [.int (iI z1603)] lk_X12_415 (c_X12_comes _ _ _ _ _ S g1604 a0 z1601 10 wo wf wu wp hs_a0 (by omega) (by omega) ((hg1604 a0 13 0 29 hs_a0 (by decide)).trans ((hg1440 a0 13 0 29 hs_a0 (by decide)).trans ((hg1196 a0 13 0 29 hs_a0 (by decide)).trans ((hg9 a0 13 0 29 hs_a0 (by decide)).trans ((hg3 a0 13 0 29 hs_a0 (by decide)).trans ((xs_k hg1 (by decide)).trans hpi2)))))) hs_wo ((hg1604 a0 13 0 33 hs_a0 (by decide)).trans ((hg1440 a0 13 0 33 hs_a0 (by decide)).trans ((hg1196 a0 13 0 33 hs_a0 (by decide)).trans ((hg9 a0 13 0 33 hs_a0 (by decide)).trans ((hg3 a0 13 0 33 hs_a0 (by decide)).trans ((xs_k hg1 (by decide)).trans hpi4)))))) hs_wf ((hg1604 a0 13 0 34 hs_a0 (by decide)).trans ((hg1440 a0 13 0 34 hs_a0 (by decide)).trans ((hg1196 a0 13 0 34 hs_a0 (by decide)).trans ((hg9 a0 13 0 34 hs_a0 (by decide)).trans ((hg3 a0 13 0 34 hs_a0 (by decide)).trans ((xs_k hg1 (by decide)).trans hpi6)))))) hs_wu ((hg1604 a0 13 0 35 hs_a0 (by decide)).trans ((hg1440 a0 13 0 35 hs_a0 (by decide)).trans ((hg1196 a0 13 0 35 hs_a0 (by decide)).trans ((hg9 a0 13 0 35 hs_a0 (by decide)).trans ((hg3 a0 13 0 35 hs_a0 (by decide)).trans ((xs_k hg1 (by decide)).trans hpi8)))))) hs_wp (by rw [(Eq.trans (Eq.trans (xv_m hg1604 hs_wo (by decide) (by decide)) (xv_m hg1440 hs_wo (by decide) (by decide))) (xv_m hg1196 hs_wo (by decide) (by decide))), (Eq.trans (Eq.trans (xv_m hg1604 hs_wf (by decide) (by decide)) (xv_m hg1440 hs_wf (by decide) (by decide))) (xv_m hg1196 hs_wf (by decide) (by decide))), (Eq.trans (Eq.trans (xv_m hg1604 hs_wu (by decide) (by decide)) (xv_m hg1440 hs_wu (by decide) (by decide))) (xv_m hg1196 hs_wu (by decide) (by decide))), (Eq.trans (Eq.trans (xv_m hg1604 hs_wp (by decide) (by decide)) (xv_m hg1440 hs_wp (by decide) (by decide))) (xv_m hg1196 hs_wp (by decide) (by decide)))]; exact (tq16 (by omega)))) hs_a0 ⟨by decide, rfl⟩ kd46_88.2.2.2.2.2.2.2.2.2.2.2 rfl rfl (by simp [Value.category]) (by decide) (by decide) (by decide) (by decide) (fun r1639 S1641 g1640 pr1639 qr1639 hg1640 => ?_)
                    obtain ⟨rfl, z1642, rfl, lz1642, uz1642⟩ := pr1639
                    refine X_st [.int (iI z1642), .int (iI z1603)] rfl ?_
                    refine X_aloadn hK (i := 0) 4 kd46_89.1 rfl rfl ?_
                    refine X_getr hK 16700 200 fl_X12_99_13 hs_a0 sl_13_51 kd46_89.2.1 (fun b1643 eb1643 hs_b1643 => ?_)
                    refine X_iload hK (i := 4) 0 kd46_89.2.2.1 rfl ?_
                    refine X_iald hK hs_b1643 (by decide) sl_16700 (by omega) (by omega) kd46_89.2.2.2.1 (fun z1644 ez1644 lz1644 uz1644 => ?_)
                    refine X_aloadn hK (i := 0) 4 kd46_89.2.2.2.2.1 rfl rfl ?_
                    refine X_bipush hK kd46_89.2.2.2.2.2.1 (by decide) ?_
                    refine X_iconst hK kd46_89.2.2.2.2.2.2.1 ?_
                    refine X_callV hK [.int (iI 10), .int (iI 0)] [.int (iI z1644), .int (iI z1642), .int (iI z1603)] lk_X12_395 (c_X12_tells _ _ _ _ _ S g1640 a0 10 0 wo wf wu wp hs_a0 (by omega) (by omega) ((hg1640 a0 13 0 29 hs_a0 (by decide)).trans ((hg1604 a0 13 0 29 hs_a0 (by decide)).trans ((hg1440 a0 13 0 29 hs_a0 (by decide)).trans ((hg1196 a0 13 0 29 hs_a0 (by decide)).trans ((hg9 a0 13 0 29 hs_a0 (by decide)).trans ((hg3 a0 13 0 29 hs_a0 (by decide)).trans ((xs_k hg1 (by decide)).trans hpi2))))))) hs_wo ((hg1640 a0 13 0 33 hs_a0 (by decide)).trans ((hg1604 a0 13 0 33 hs_a0 (by decide)).trans ((hg1440 a0 13 0 33 hs_a0 (by decide)).trans ((hg1196 a0 13 0 33 hs_a0 (by decide)).trans ((hg9 a0 13 0 33 hs_a0 (by decide)).trans ((hg3 a0 13 0 33 hs_a0 (by decide)).trans ((xs_k hg1 (by decide)).trans hpi4))))))) hs_wf ((hg1640 a0 13 0 34 hs_a0 (by decide)).trans ((hg1604 a0 13 0 34 hs_a0 (by decide)).trans ((hg1440 a0 13 0 34 hs_a0 (by decide)).trans ((hg1196 a0 13 0 34 hs_a0 (by decide)).trans ((hg9 a0 13 0 34 hs_a0 (by decide)).trans ((hg3 a0 13 0 34 hs_a0 (by decide)).trans ((xs_k hg1 (by decide)).trans hpi6))))))) hs_wu ((hg1640 a0 13 0 35 hs_a0 (by decide)).trans ((hg1604 a0 13 0 35 hs_a0 (by decide)).trans ((hg1440 a0 13 0 35 hs_a0 (by decide)).trans ((hg1196 a0 13 0 35 hs_a0 (by decide)).trans ((hg9 a0 13 0 35 hs_a0 (by decide)).trans ((hg3 a0 13 0 35 hs_a0 (by decide)).trans ((xs_k hg1 (by decide)).trans hpi8))))))) hs_wp (by rw [(Eq.trans (Eq.trans (Eq.trans (xv_m hg1640 hs_wo (by decide) (by decide)) (xv_m hg1604 hs_wo (by decide) (by decide))) (xv_m hg1440 hs_wo (by decide) (by decide))) (xv_m hg1196 hs_wo (by decide) (by decide))), (Eq.trans (Eq.trans (Eq.trans (xv_m hg1640 hs_wf (by decide) (by decide)) (xv_m hg1604 hs_wf (by decide) (by decide))) (xv_m hg1440 hs_wf (by decide) (by decide))) (xv_m hg1196 hs_wf (by decide) (by decide))), (Eq.trans (Eq.trans (Eq.trans (xv_m hg1640 hs_wu (by decide) (by decide)) (xv_m hg1604 hs_wu (by decide) (by decide))) (xv_m hg1440 hs_wu (by decide) (by decide))) (xv_m hg1196 hs_wu (by decide) (by decide))), (Eq.trans (Eq.trans (Eq.trans (xv_m hg1640 hs_wp (by decide) (by decide)) (xv_m hg1604 hs_wp (by decide) (by decide))) (xv_m hg1440 hs_wp (by decide) (by decide))) (xv_m hg1196 hs_wp (by decide) (by decide)))]; exact (tq16 (by omega)))) hs_a0 ⟨by decide, rfl⟩ kd46_89.2.2.2.2.2.2.2.1 rfl rfl (by simp [Value.category]) (by decide) (by decide) (by decide) (by decide) (fun r1645 S1647 g1646 pr1645 qr1645 hg1646 => ?_)
                    obtain ⟨rfl, z1648, rfl, lz1648, uz1648⟩ := pr1645
                    refine X_st [.int (iI z1648), .int (iI z1644), .int (iI z1642), .int (iI z1603)] rfl ?_
                    refine X_callS hK [.int (iI z1644), .int (iI z1648)] [.int (iI z1642), .int (iI z1603)] lk_X12_399 (c_X12_cost _ _ _ _ _ S g1646 z1644 z1648 (by omega) (by omega)) kd46_89.2.2.2.2.2.2.2.2.1 rfl rfl (by simp [Value.category]) (by decide) (by decide) (by decide) (by decide) (fun r1649 S1651 g1650 pr1649 qr1649 hg1650 => ?_)
                    obtain ⟨rfl, rfl, z1652, rfl, lz1652, uz1652⟩ := pr1649
                    refine X_st [.int (iI z1652), .int (iI z1642), .int (iI z1603)] rfl ?_
                    refine X_isub hK kd46_89.2.2.2.2.2.2.2.2.2.1 ?_
                    refine X_norm (fun z1653 ez1653 lz1653 uz1653 => ?_)
                    refine X_iadd hK kd46_89.2.2.2.2.2.2.2.2.2.2.1 ?_
                    refine X_norm (fun z1654 ez1654 lz1654 uz1654 => ?_)
                    refine X_istoren hK (i := 1) [(1, .int (iI z1654)), (4, .int (iI z1601)), (3, .int (iI z1193)), (2, .int (iI z1602)), (0, .ref a0)] kd46_89.2.2.2.2.2.2.2.2.2.2.2 rfl (by decide) rfl ?_
                    refine X_iloadn hK (i := 2) 3 kd46_90.1 rfl rfl ?_
                    refine X_aloadn hK (i := 0) 4 kd46_90.2.1 rfl rfl ?_
                    refine X_getK hK fl_X12_99_13 hs_a0 ((hg1646 a0 13 0 51 hs_a0 (by decide)).trans eb1643) kd46_90.2.2.1 ?_
                    refine X_iload hK (i := 4) 1 kd46_90.2.2.2.1 rfl ?_
                    refine X_ialdK hK hs_b1643 (by decide) (by omega) (by omega) ((hg1646 _ _ _ _ hs_b1643 (by rw [xky_a (by decide)]; decide)).trans ez1644) kd46_90.2.2.2.2.1 ?_
                    refine X_aloadn hK (i := 0) 4 kd46_90.2.2.2.2.2.1 rfl rfl ?_
                    refine X_getr hK 17400 200 fl_X12_123_13 hs_a0 sl_13_60 kd46_90.2.2.2.2.2.2.1 (fun b1655 eb1655 hs_b1655 => ?_)
                    refine X_iload hK (i := 4) 1 kd46_90.2.2.2.2.2.2.2.1 rfl ?_
                    refine X_iald hK hs_b1655 (by decide) sl_17400 (by omega) (by omega) kd46_90.2.2.2.2.2.2.2.2.1 (fun z1656 ez1656 lz1656 uz1656 => ?_)
                    refine X_isub hK kd46_90.2.2.2.2.2.2.2.2.2.1 ?_
                    refine X_norm (fun z1657 ez1657 lz1657 uz1657 => ?_)
                    refine X_aloadn hK (i := 0) 4 kd46_90.2.2.2.2.2.2.2.2.2.2.1 rfl rfl ?_
                    refine X_getr hK 17500 200 fl_X12_126_13 hs_a0 sl_13_61 kd46_90.2.2.2.2.2.2.2.2.2.2.2 (fun b1658 eb1658 hs_b1658 => ?_)
                    refine X_iload hK (i := 4) 1 kd46_91.1 rfl ?_
                    refine X_iald hK hs_b1658 (by decide) sl_17500 (by omega) (by omega) kd46_91.2.1 (fun z1659 ez1659 lz1659 uz1659 => ?_)
                    refine X_isub hK kd46_91.2.2.1 ?_
                    refine X_norm (fun z1660 ez1660 lz1660 uz1660 => ?_)
                    refine X_iadd hK kd46_91.2.2.2.1 ?_
                    refine X_norm (fun z1661 ez1661 lz1661 uz1661 => ?_)
                    refine X_istoren hK (i := 2) [(2, .int (iI z1661)), (1, .int (iI z1654)), (4, .int (iI z1601)), (3, .int (iI z1193)), (0, .ref a0)] kd46_91.2.2.2.2.1 rfl (by decide) rfl ?_
                    refine X_iinc hK (i := 4) (z := z1601) (n := 1) 2 [(4, .int (iI (z1601 + 1))), (2, .int (iI z1661)), (1, .int (iI z1654)), (3, .int (iI z1193)), (0, .ref a0)] kd46_91.2.2.2.2.2.1 rfl (by decide) rfl ?_
                    refine X_goto hK 60 kd46_91.2.2.2.2.2.2.1 (by decide) ?_
                    refine X_lv [(4, .int (iI (z1601 + 1))), (3, .int (iI z1193)), (2, .int (iI z1661)), (1, .int (iI z1654)), (0, .ref a0)] [0, 3, 1, 2, 4] rfl ?_
                    exact ihP1633  g1646 (xM.tr (xM.tr (xM.tr xM.rf xLe.rf hg1604 (by decide)) xLe.rf hg1640 (by decide)) xLe.rf hg1646 (by decide)) (z1601 + 1) (by omega) (by omega) z1661 (by omega) (by omega) z1654 (by omega) (by omega) (by omega)
                  · refine X_goto hK 138 kd46_88.2.2.2.2.2.2.1 (by decide) ?_
                    refine X_iinc hK (i := 4) (z := z1601) (n := 1) 0 [(4, .int (iI (z1601 + 1))), (3, .int (iI z1193)), (2, .int (iI z1602)), (1, .int (iI z1603)), (0, .ref a0)] kd46_91.2.2.2.2.2.1 rfl (by decide) rfl ?_
                    refine X_goto hK 60 kd46_91.2.2.2.2.2.2.1 (by decide) ?_
                    exact ihP1633  g1604 (xM.tr xM.rf xLe.rf hg1604 (by decide)) (z1601 + 1) (by omega) (by omega) z1602 (by omega) (by omega) z1603 (by omega) (by omega) (by omega)
            exact P1633 ((216 - 0 : Int).toNat + 1) g1440 xM.rf 0 (by omega) (by omega) z1194 (by omega) (by omega) z1195 (by omega) (by omega) (by omega)
          · refine X_goto hK 144 kd46_87.2.1 (by decide) ?_
            refine X_iinc hK (i := 3) (z := z1193) (n := 1) 0 [(3, .int (iI (z1193 + 1))), (2, .int (iI z1194)), (1, .int (iI z1195)), (0, .ref a0)] kd46_91.2.2.2.2.2.2.2.1 rfl (by decide) rfl ?_
            refine X_goto hK 31 kd46_91.2.2.2.2.2.2.2.2.1 (by decide) ?_
            exact ihP1429  g1196 (xM.tr xM.rf xLe.rf hg1196 (by decide)) (z1193 + 1) (by omega) (by omega) z1194 (by omega) (by omega) z1195 (by omega) (by omega) (by omega)
    exact P1429 ((416 - 0 : Int).toNat + 1) g9 xM.rf 0 (by omega) (by omega) 0 (by omega) (by omega) 0 (by omega) (by omega) (by omega)
  · refine X_ldcw hK (n := -1000000000) kd46_85.2.2.2.2.2.2.1 m_48_7 (by decide) ?_
    refine X_aloadn hK (i := 0) 0 kd46_85.2.2.2.2.2.2.2.1 rfl rfl ?_
    refine X_geti hK fl_X12_294_13 hs_a0 sl_13_26 kd46_85.2.2.2.2.2.2.2.2.1 (fun z1662 ez1662 lz1662 uz1662 => ?_)
    refine X_isub hK kd46_85.2.2.2.2.2.2.2.2.2.1 ?_
    exact hret _ _ _ _ _ _ _ kd46_85.2.2.2.2.2.2.2.2.2.2.1 ⟨rfl, ((-1000000000) - z1662), rfl, (by omega), (by omega), (((hg9 a0 13 0 2 hs_a0 (by decide)).trans k7).trans (by congr 2 <;> omega)), ⟨wo, wf, wu, wp, n8, hs_a0, ((hg9 a0 13 0 29 hs_a0 (by decide)).trans ((hg3 a0 13 0 29 hs_a0 (by decide)).trans ((xs_k hg1 (by decide)).trans hpi2))), hs_wo, ((hg9 a0 13 0 33 hs_a0 (by decide)).trans ((hg3 a0 13 0 33 hs_a0 (by decide)).trans ((xs_k hg1 (by decide)).trans hpi4))), hs_wf, ((hg9 a0 13 0 34 hs_a0 (by decide)).trans ((hg3 a0 13 0 34 hs_a0 (by decide)).trans ((xs_k hg1 (by decide)).trans hpi6))), hs_wu, ((hg9 a0 13 0 35 hs_a0 (by decide)).trans ((hg3 a0 13 0 35 hs_a0 (by decide)).trans ((xs_k hg1 (by decide)).trans hpi8))), hs_wp, ((hg9 a0 13 0 39 hs_a0 (by decide)).trans ((hg3 a0 13 0 39 hs_a0 (by decide)).trans ((xs_k hg1 (by decide)).trans hpi10))), by omega, by omega, ta15⟩⟩ (Nat.le_refl _) (Nat.le_refl _)
