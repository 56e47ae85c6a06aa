theorem m_8_15 : Cond.fieldLink RX12 50 "PaperBoysModel" "linesOf" "[I" ∈ wsL_law := ch_8 _ (List.mem_of_getElem? (i := 15) rfl)
theorem m_8_17 : Cond.fieldLink RX12 56 "PaperBoysModel" "sort" "[I" ∈ wsL_law := ch_8 _ (List.mem_of_getElem? (i := 17) rfl)
theorem m_8_18 : Cond.fieldLink RX12 59 "PaperBoysModel" "amount" "[I" ∈ wsL_law := ch_8 _ (List.mem_of_getElem? (i := 18) rfl)
theorem m_8_19 : Cond.fieldLink RX12 62 "PaperBoysModel" "condFrom" "[I" ∈ wsL_law := ch_8 _ (List.mem_of_getElem? (i := 19) rfl)
theorem m_8_20 : Cond.fieldLink RX12 65 "PaperBoysModel" "condTo" "[I" ∈ wsL_law := ch_8 _ (List.mem_of_getElem? (i := 20) rfl)
theorem m_9_2 : Cond.fieldLink RX12 83 "PaperBoysModel" "value" "[Z" ∈ wsL_law := ch_9 _ (List.mem_of_getElem? (i := 2) rfl)
theorem m_9_3 : Cond.fieldLink RX12 86 "PaperBoysModel" "teller" "I" ∈ wsL_law := ch_9 _ (List.mem_of_getElem? (i := 3) rfl)
theorem m_9_15 : Cond.fieldLink RX12 123 "PaperBoysModel" "soldNow" "[I" ∈ wsL_law := ch_9 _ (List.mem_of_getElem? (i := 15) rfl)
theorem m_9_16 : Cond.fieldLink RX12 126 "PaperBoysModel" "backNow" "[I" ∈ wsL_law := ch_9 _ (List.mem_of_getElem? (i := 16) rfl)
theorem m_9_18 : Cond.fieldLink RX12 132 "PaperBoysModel" "maySell" "[Z" ∈ wsL_law := ch_9 _ (List.mem_of_getElem? (i := 18) rfl)
theorem m_28_9 : Cond.fieldLink RX12 361 "PaperBoysModel" "lines" "I" ∈ wsL_law := ch_28 _ (List.mem_of_getElem? (i := 9) rfl)
theorem m_28_11 : Cond.methodLink RX12 376 yX12_readTerms ∈ wsL_law := ch_28 _ (List.mem_of_getElem? (i := 11) rfl)
theorem m_28_12 : Cond.instanceMethod yX12_readTerms ∈ wsL_law := ch_28 _ (List.mem_of_getElem? (i := 12) rfl)
theorem m_28_13 : Cond.selects RX12 yX12_readTerms yX12_readTerms ∈ wsL_law := ch_28 _ (List.mem_of_getElem? (i := 13) rfl)
theorem m_28_14 : Cond.code yX12_readTerms cX12_readTerms 2 (some .boolean) ∈ wsL_law := ch_28 _ (List.mem_of_getElem? (i := 14) rfl)
theorem m_28_17 : Cond.fieldLink RX12 364 "PaperBoysModel" "told" "I" ∈ wsL_law := ch_28 _ (List.mem_of_getElem? (i := 17) rfl)
theorem m_29_21 : Cond.methodLink RX12 370 yX12_readLine ∈ wsL_law := ch_29 _ (List.mem_of_getElem? (i := 21) rfl)
theorem m_29_22 : Cond.instanceMethod yX12_readLine ∈ wsL_law := ch_29 _ (List.mem_of_getElem? (i := 22) rfl)
theorem m_29_23 : Cond.selects RX12 yX12_readLine yX12_readLine ∈ wsL_law := ch_29 _ (List.mem_of_getElem? (i := 23) rfl)
theorem m_30_0 : Cond.code yX12_readLine cX12_readLine 3 (some .boolean) ∈ wsL_law := ch_30 _ (List.mem_of_getElem? (i := 0) rfl)
theorem m_30_1 : Cond.methodLink RX12 358 yX12_sortAtHand ∈ wsL_law := ch_30 _ (List.mem_of_getElem? (i := 1) rfl)
theorem m_30_2 : Cond.instanceMethod yX12_sortAtHand ∈ wsL_law := ch_30 _ (List.mem_of_getElem? (i := 2) rfl)
theorem m_30_3 : Cond.selects RX12 yX12_sortAtHand yX12_sortAtHand ∈ wsL_law := ch_30 _ (List.mem_of_getElem? (i := 3) rfl)
theorem m_30_4 : Cond.code yX12_sortAtHand cX12_sortAtHand 1 (some .int) ∈ wsL_law := ch_30 _ (List.mem_of_getElem? (i := 4) rfl)
theorem m_30_20 : Cond.methodLink RX12 367 yX12_readCond ∈ wsL_law := ch_30 _ (List.mem_of_getElem? (i := 20) rfl)
theorem m_30_21 : Cond.instanceMethod yX12_readCond ∈ wsL_law := ch_30 _ (List.mem_of_getElem? (i := 21) rfl)
theorem m_30_22 : Cond.selects RX12 yX12_readCond yX12_readCond ∈ wsL_law := ch_30 _ (List.mem_of_getElem? (i := 22) rfl)
theorem m_30_23 : Cond.code yX12_readCond cX12_readCond 2 (some .boolean) ∈ wsL_law := ch_30 _ (List.mem_of_getElem? (i := 23) rfl)
theorem m_36_10 : Cond.methodLink RX12 392 yX12_termsFor ∈ wsL_law := ch_36 _ (List.mem_of_getElem? (i := 10) rfl)
theorem m_36_11 : Cond.instanceMethod yX12_termsFor ∈ wsL_law := ch_36 _ (List.mem_of_getElem? (i := 11) rfl)
theorem m_36_12 : Cond.selects RX12 yX12_termsFor yX12_termsFor ∈ wsL_law := ch_36 _ (List.mem_of_getElem? (i := 12) rfl)
theorem m_36_13 : Cond.code yX12_termsFor cX12_termsFor 4 (some .int) ∈ wsL_law := ch_36 _ (List.mem_of_getElem? (i := 13) rfl)
theorem m_36_14 : Cond.methodLink RX12 395 yX12_tells ∈ wsL_law := ch_36 _ (List.mem_of_getElem? (i := 14) rfl)
theorem m_36_15 : Cond.instanceMethod yX12_tells ∈ wsL_law := ch_36 _ (List.mem_of_getElem? (i := 15) rfl)
theorem m_36_16 : Cond.selects RX12 yX12_tells yX12_tells ∈ wsL_law := ch_36 _ (List.mem_of_getElem? (i := 16) rfl)
theorem m_36_17 : Cond.code yX12_tells cX12_tells 5 (some .int) ∈ wsL_law := ch_36 _ (List.mem_of_getElem? (i := 17) rfl)
theorem m_36_18 : Cond.methodLink RX12 379 yX12_holds ∈ wsL_law := ch_36 _ (List.mem_of_getElem? (i := 18) rfl)
theorem m_36_19 : Cond.instanceMethod yX12_holds ∈ wsL_law := ch_36 _ (List.mem_of_getElem? (i := 19) rfl)
theorem m_36_20 : Cond.selects RX12 yX12_holds yX12_holds ∈ wsL_law := ch_36 _ (List.mem_of_getElem? (i := 20) rfl)
theorem m_36_21 : Cond.code yX12_holds cX12_holds 10 (some .boolean) ∈ wsL_law := ch_36 _ (List.mem_of_getElem? (i := 21) rfl)
theorem m_36_22 : Cond.methodLink RX12 382 yX12_usual ∈ wsL_law := ch_36 _ (List.mem_of_getElem? (i := 22) rfl)
theorem m_36_23 : Cond.static yX12_usual ∈ wsL_law := ch_36 _ (List.mem_of_getElem? (i := 23) rfl)
theorem m_37_0 : Cond.code yX12_usual cX12_usual 1 (some .int) ∈ wsL_law := ch_37 _ (List.mem_of_getElem? (i := 0) rfl)
theorem m_37_22 : Cond.methodLink RX12 402 yX12_askOf ∈ wsL_law := ch_37 _ (List.mem_of_getElem? (i := 22) rfl)
theorem m_37_23 : Cond.instanceMethod yX12_askOf ∈ wsL_law := ch_37 _ (List.mem_of_getElem? (i := 23) rfl)
theorem m_38_0 : Cond.selects RX12 yX12_askOf yX12_askOf ∈ wsL_law := ch_38 _ (List.mem_of_getElem? (i := 0) rfl)
theorem m_38_1 : Cond.code yX12_askOf cX12_askOf 2 none ∈ wsL_law := ch_38 _ (List.mem_of_getElem? (i := 1) rfl)
theorem m_40_20 : Cond.methodLink RX12 412 yX12_cry ∈ wsL_law := ch_40 _ (List.mem_of_getElem? (i := 20) rfl)
theorem m_40_21 : Cond.instanceMethod yX12_cry ∈ wsL_law := ch_40 _ (List.mem_of_getElem? (i := 21) rfl)
theorem m_40_22 : Cond.selects RX12 yX12_cry yX12_cry ∈ wsL_law := ch_40 _ (List.mem_of_getElem? (i := 22) rfl)
theorem m_40_23 : Cond.code yX12_cry cX12_cry 9 none ∈ wsL_law := ch_40 _ (List.mem_of_getElem? (i := 23) rfl)
theorem m_41_0 : Cond.methodLink RX12 405 yX12_firstAt ∈ wsL_law := ch_41 _ (List.mem_of_getElem? (i := 0) rfl)
theorem m_41_1 : Cond.instanceMethod yX12_firstAt ∈ wsL_law := ch_41 _ (List.mem_of_getElem? (i := 1) rfl)
theorem m_41_2 : Cond.selects RX12 yX12_firstAt yX12_firstAt ∈ wsL_law := ch_41 _ (List.mem_of_getElem? (i := 2) rfl)
theorem m_41_3 : Cond.code yX12_firstAt cX12_firstAt 5 (some .int) ∈ wsL_law := ch_41 _ (List.mem_of_getElem? (i := 3) rfl)
theorem m_41_8 : Cond.methodLink RX12 415 yX12_comes ∈ wsL_law := ch_41 _ (List.mem_of_getElem? (i := 8) rfl)
theorem m_41_9 : Cond.instanceMethod yX12_comes ∈ wsL_law := ch_41 _ (List.mem_of_getElem? (i := 9) rfl)
theorem m_41_10 : Cond.selects RX12 yX12_comes yX12_comes ∈ wsL_law := ch_41 _ (List.mem_of_getElem? (i := 10) rfl)
theorem m_41_11 : Cond.code yX12_comes cX12_comes 3 (some .int) ∈ wsL_law := ch_41 _ (List.mem_of_getElem? (i := 11) rfl)
theorem m_48_11 : Cond.constant RX12 437 (-1000000000) ∈ wsL_law := ch_48 _ (List.mem_of_getElem? (i := 11) rfl)
theorem m_48_12 : Cond.methodLink RX12 438 yX12_isBought ∈ wsL_law := ch_48 _ (List.mem_of_getElem? (i := 12) rfl)
theorem m_48_13 : Cond.instanceMethod yX12_isBought ∈ wsL_law := ch_48 _ (List.mem_of_getElem? (i := 13) rfl)
theorem m_48_14 : Cond.selects RX12 yX12_isBought yX12_isBought ∈ wsL_law := ch_48 _ (List.mem_of_getElem? (i := 14) rfl)
theorem m_48_15 : Cond.code yX12_isBought cX12_isBought 3 (some .boolean) ∈ wsL_law := ch_48 _ (List.mem_of_getElem? (i := 15) rfl)
theorem kd53_0 : (decode cX12_bundle 0 = .ok (.aload_n 0, 1)) ∧ (decode cX12_bundle 1 = .ok (.iconst 0, 1)) ∧ (decode cX12_bundle 2 = .ok (.putfield 198, 3)) ∧ (decode cX12_bundle 5 = .ok (.aload_n 0, 1)) ∧ (decode cX12_bundle 6 = .ok (.getfield 389, 3)) ∧ (decode cX12_bundle 9 = .ok (.sipush 200, 3)) ∧ (decode cX12_bundle 12 = .ok (.if_icmp .eq 58, 3)) ∧ (decode cX12_bundle 15 = .ok (.aload_n 0, 1)) ∧ (decode cX12_bundle 16 = .ok (.getfield 239, 3)) ∧ (decode cX12_bundle 19 = .ok (.sipush 400, 3)) ∧ (decode cX12_bundle 22 = .ok (.if_icmp .eq 48, 3)) ∧ (decode cX12_bundle 25 = .ok (.aload_n 0, 1)) := by decide +kernel
theorem kd53_1 : (decode cX12_bundle 26 = .ok (.iload_n 1, 1)) ∧ (decode cX12_bundle 27 = .ok (.invokevirtual 215, 3)) ∧ (decode cX12_bundle 30 = .ok (.ifCond .eq 40, 3)) ∧ (decode cX12_bundle 33 = .ok (.iload_n 2, 1)) ∧ (decode cX12_bundle 34 = .ok (.invokestatic 236, 3)) ∧ (decode cX12_bundle 37 = .ok (.ifCond .eq 33, 3)) ∧ (decode cX12_bundle 40 = .ok (.iload_n 3, 1)) ∧ (decode cX12_bundle 41 = .ok (.invokestatic 219, 3)) ∧ (decode cX12_bundle 44 = .ok (.ifCond .eq 26, 3)) ∧ (decode cX12_bundle 47 = .ok (.iload 4, 2)) ∧ (decode cX12_bundle 49 = .ok (.iconst 1, 1)) ∧ (decode cX12_bundle 50 = .ok (.sipush 1000, 3)) := by decide +kernel
theorem kd53_2 : (decode cX12_bundle 53 = .ok (.invokestatic 211, 3)) ∧ (decode cX12_bundle 56 = .ok (.ifCond .eq 14, 3)) ∧ (decode cX12_bundle 59 = .ok (.iload 5, 2)) ∧ (decode cX12_bundle 61 = .ok (.iconst 4, 1)) ∧ (decode cX12_bundle 62 = .ok (.bipush 20, 2)) ∧ (decode cX12_bundle 64 = .ok (.invokestatic 211, 3)) ∧ (decode cX12_bundle 67 = .ok (.ifCond .ne 5, 3)) ∧ (decode cX12_bundle 70 = .ok (.iconst (-1), 1)) ∧ (decode cX12_bundle 71 = .ok (.ireturn, 1)) ∧ (decode cX12_bundle 72 = .ok (.aload_n 0, 1)) ∧ (decode cX12_bundle 73 = .ok (.iload_n 1, 1)) ∧ (decode cX12_bundle 74 = .ok (.iload_n 2, 1)) := by decide +kernel
theorem kd53_3 : (decode cX12_bundle 75 = .ok (.iload_n 3, 1)) ∧ (decode cX12_bundle 76 = .ok (.iload 4, 2)) ∧ (decode cX12_bundle 78 = .ok (.iload 5, 2)) ∧ (decode cX12_bundle 80 = .ok (.aload_n 0, 1)) ∧ (decode cX12_bundle 81 = .ok (.getfield 239, 3)) ∧ (decode cX12_bundle 84 = .ok (.invokevirtual 385, 3)) ∧ (decode cX12_bundle 87 = .ok (.aload_n 0, 1)) ∧ (decode cX12_bundle 88 = .ok (.aload_n 0, 1)) ∧ (decode cX12_bundle 89 = .ok (.getfield 239, 3)) ∧ (decode cX12_bundle 92 = .ok (.invokevirtual 392, 3)) ∧ (decode cX12_bundle 95 = .ok (.istore 6, 2)) ∧ (decode cX12_bundle 97 = .ok (.iload 4, 2)) := by decide +kernel
theorem kd53_4 : (decode cX12_bundle 99 = .ok (.aload_n 0, 1)) ∧ (decode cX12_bundle 100 = .ok (.iload 6, 2)) ∧ (decode cX12_bundle 102 = .ok (.iconst 0, 1)) ∧ (decode cX12_bundle 103 = .ok (.invokevirtual 395, 3)) ∧ (decode cX12_bundle 106 = .ok (.invokestatic 399, 3)) ∧ (decode cX12_bundle 109 = .ok (.istore 7, 2)) ∧ (decode cX12_bundle 111 = .ok (.iload 4, 2)) ∧ (decode cX12_bundle 113 = .ok (.aload_n 0, 1)) ∧ (decode cX12_bundle 114 = .ok (.iload 6, 2)) ∧ (decode cX12_bundle 116 = .ok (.iconst 3, 1)) ∧ (decode cX12_bundle 117 = .ok (.invokevirtual 395, 3)) ∧ (decode cX12_bundle 120 = .ok (.if_icmp .gt 23, 3)) := by decide +kernel
theorem kd53_5 : (decode cX12_bundle 123 = .ok (.aload_n 0, 1)) ∧ (decode cX12_bundle 124 = .ok (.getfield 22, 3)) ∧ (decode cX12_bundle 127 = .ok (.iload_n 1, 1)) ∧ (decode cX12_bundle 128 = .ok (.iaload, 1)) ∧ (decode cX12_bundle 129 = .ok (.iload 7, 2)) ∧ (decode cX12_bundle 131 = .ok (.isub, 1)) ∧ (decode cX12_bundle 132 = .ok (.aload_n 0, 1)) ∧ (decode cX12_bundle 133 = .ok (.iload 6, 2)) ∧ (decode cX12_bundle 135 = .ok (.iconst 5, 1)) ∧ (decode cX12_bundle 136 = .ok (.invokevirtual 395, 3)) ∧ (decode cX12_bundle 139 = .ok (.ineg, 1)) ∧ (decode cX12_bundle 140 = .ok (.if_icmp .ge 5, 3)) := by decide +kernel
theorem kd53_6 : (decode cX12_bundle 143 = .ok (.iconst (-1), 1)) ∧ (decode cX12_bundle 144 = .ok (.ireturn, 1)) ∧ (decode cX12_bundle 145 = .ok (.aload_n 0, 1)) ∧ (decode cX12_bundle 146 = .ok (.getfield 22, 3)) ∧ (decode cX12_bundle 149 = .ok (.iload_n 1, 1)) ∧ (decode cX12_bundle 150 = .ok (.dup2, 1)) ∧ (decode cX12_bundle 151 = .ok (.iaload, 1)) ∧ (decode cX12_bundle 152 = .ok (.iload 7, 2)) ∧ (decode cX12_bundle 154 = .ok (.isub, 1)) ∧ (decode cX12_bundle 155 = .ok (.iastore, 1)) ∧ (decode cX12_bundle 156 = .ok (.aload_n 0, 1)) ∧ (decode cX12_bundle 157 = .ok (.getfield 90, 3)) := by decide +kernel
theorem kd53_7 : (decode cX12_bundle 160 = .ok (.aload_n 0, 1)) ∧ (decode cX12_bundle 161 = .ok (.getfield 389, 3)) ∧ (decode cX12_bundle 164 = .ok (.iload_n 1, 1)) ∧ (decode cX12_bundle 165 = .ok (.iastore, 1)) ∧ (decode cX12_bundle 166 = .ok (.aload_n 0, 1)) ∧ (decode cX12_bundle 167 = .ok (.getfield 93, 3)) ∧ (decode cX12_bundle 170 = .ok (.aload_n 0, 1)) ∧ (decode cX12_bundle 171 = .ok (.getfield 389, 3)) ∧ (decode cX12_bundle 174 = .ok (.iload_n 2, 1)) ∧ (decode cX12_bundle 175 = .ok (.iastore, 1)) ∧ (decode cX12_bundle 176 = .ok (.aload_n 0, 1)) ∧ (decode cX12_bundle 177 = .ok (.getfield 96, 3)) := by decide +kernel
theorem kd53_8 : (decode cX12_bundle 180 = .ok (.aload_n 0, 1)) ∧ (decode cX12_bundle 181 = .ok (.getfield 389, 3)) ∧ (decode cX12_bundle 184 = .ok (.iload_n 3, 1)) ∧ (decode cX12_bundle 185 = .ok (.iastore, 1)) ∧ (decode cX12_bundle 186 = .ok (.aload_n 0, 1)) ∧ (decode cX12_bundle 187 = .ok (.getfield 99, 3)) ∧ (decode cX12_bundle 190 = .ok (.aload_n 0, 1)) ∧ (decode cX12_bundle 191 = .ok (.getfield 389, 3)) ∧ (decode cX12_bundle 194 = .ok (.iload 4, 2)) ∧ (decode cX12_bundle 196 = .ok (.iastore, 1)) ∧ (decode cX12_bundle 197 = .ok (.aload_n 0, 1)) ∧ (decode cX12_bundle 198 = .ok (.getfield 102, 3)) := by decide +kernel
theorem kd53_9 : (decode cX12_bundle 201 = .ok (.aload_n 0, 1)) ∧ (decode cX12_bundle 202 = .ok (.getfield 389, 3)) ∧ (decode cX12_bundle 205 = .ok (.iload 5, 2)) ∧ (decode cX12_bundle 207 = .ok (.iastore, 1)) ∧ (decode cX12_bundle 208 = .ok (.aload_n 0, 1)) ∧ (decode cX12_bundle 209 = .ok (.getfield 105, 3)) ∧ (decode cX12_bundle 212 = .ok (.aload_n 0, 1)) ∧ (decode cX12_bundle 213 = .ok (.getfield 389, 3)) ∧ (decode cX12_bundle 216 = .ok (.aload_n 0, 1)) ∧ (decode cX12_bundle 217 = .ok (.getfield 239, 3)) ∧ (decode cX12_bundle 220 = .ok (.iastore, 1)) ∧ (decode cX12_bundle 221 = .ok (.aload_n 0, 1)) := by decide +kernel
theorem kd53_10 : (decode cX12_bundle 222 = .ok (.getfield 108, 3)) ∧ (decode cX12_bundle 225 = .ok (.aload_n 0, 1)) ∧ (decode cX12_bundle 226 = .ok (.getfield 389, 3)) ∧ (decode cX12_bundle 229 = .ok (.iload 7, 2)) ∧ (decode cX12_bundle 231 = .ok (.iastore, 1)) ∧ (decode cX12_bundle 232 = .ok (.aload_n 0, 1)) ∧ (decode cX12_bundle 233 = .ok (.dup, 1)) ∧ (decode cX12_bundle 234 = .ok (.getfield 389, 3)) ∧ (decode cX12_bundle 237 = .ok (.iconst 1, 1)) ∧ (decode cX12_bundle 238 = .ok (.iadd, 1)) ∧ (decode cX12_bundle 239 = .ok (.putfield 389, 3)) ∧ (decode cX12_bundle 242 = .ok (.aload_n 0, 1)) := by decide +kernel
theorem kd53_11 : (decode cX12_bundle 243 = .ok (.getfield 389, 3)) ∧ (decode cX12_bundle 246 = .ok (.iconst 1, 1)) ∧ (decode cX12_bundle 247 = .ok (.isub, 1)) ∧ (decode cX12_bundle 248 = .ok (.ireturn, 1)) ∧ (decode cX12_close 0 = .ok (.aload_n 0, 1)) ∧ (decode cX12_close 1 = .ok (.iconst 0, 1)) ∧ (decode cX12_close 2 = .ok (.putfield 198, 3)) ∧ (decode cX12_close 5 = .ok (.aload_n 0, 1)) ∧ (decode cX12_close 6 = .ok (.getfield 239, 3)) ∧ (decode cX12_close 9 = .ok (.sipush 400, 3)) ∧ (decode cX12_close 12 = .ok (.if_icmp .ne 5, 3)) ∧ (decode cX12_close 15 = .ok (.iconst (-1), 1)) := by decide +kernel
theorem kd53_12 : (decode cX12_close 16 = .ok (.ireturn, 1)) ∧ (decode cX12_close 17 = .ok (.aload_n 0, 1)) ∧ (decode cX12_close 18 = .ok (.aload_n 0, 1)) ∧ (decode cX12_close 19 = .ok (.getfield 239, 3)) ∧ (decode cX12_close 22 = .ok (.invokevirtual 392, 3)) ∧ (decode cX12_close 25 = .ok (.istore_n 1, 1)) ∧ (decode cX12_close 26 = .ok (.aload_n 0, 1)) ∧ (decode cX12_close 27 = .ok (.aload_n 0, 1)) ∧ (decode cX12_close 28 = .ok (.getfield 239, 3)) ∧ (decode cX12_close 31 = .ok (.iload_n 1, 1)) ∧ (decode cX12_close 32 = .ok (.invokevirtual 412, 3)) ∧ (decode cX12_close 35 = .ok (.iconst 0, 1)) := by decide +kernel
theorem kd53_13 : (decode cX12_close 36 = .ok (.istore_n 2, 1)) ∧ (decode cX12_close 37 = .ok (.iconst 0, 1)) ∧ (decode cX12_close 38 = .ok (.istore_n 3, 1)) ∧ (decode cX12_close 39 = .ok (.iload_n 3, 1)) ∧ (decode cX12_close 40 = .ok (.aload_n 0, 1)) ∧ (decode cX12_close 41 = .ok (.getfield 389, 3)) ∧ (decode cX12_close 44 = .ok (.if_icmp .ge 104, 3)) ∧ (decode cX12_close 47 = .ok (.aload_n 0, 1)) ∧ (decode cX12_close 48 = .ok (.getfield 105, 3)) ∧ (decode cX12_close 51 = .ok (.iload_n 3, 1)) ∧ (decode cX12_close 52 = .ok (.iaload, 1)) ∧ (decode cX12_close 53 = .ok (.aload_n 0, 1)) := by decide +kernel
theorem kd53_14 : (decode cX12_close 54 = .ok (.getfield 239, 3)) ∧ (decode cX12_close 57 = .ok (.if_icmp .eq 6, 3)) ∧ (decode cX12_close 60 = .ok (.goto 82, 3)) ∧ (decode cX12_close 63 = .ok (.aload_n 0, 1)) ∧ (decode cX12_close 64 = .ok (.getfield 111, 3)) ∧ (decode cX12_close 67 = .ok (.iload_n 3, 1)) ∧ (decode cX12_close 68 = .ok (.aload_n 0, 1)) ∧ (decode cX12_close 69 = .ok (.getfield 123, 3)) ∧ (decode cX12_close 72 = .ok (.iload_n 3, 1)) ∧ (decode cX12_close 73 = .ok (.iaload, 1)) ∧ (decode cX12_close 74 = .ok (.iastore, 1)) ∧ (decode cX12_close 75 = .ok (.aload_n 0, 1)) := by decide +kernel
theorem kd53_15 : (decode cX12_close 76 = .ok (.getfield 114, 3)) ∧ (decode cX12_close 79 = .ok (.iload_n 3, 1)) ∧ (decode cX12_close 80 = .ok (.aload_n 0, 1)) ∧ (decode cX12_close 81 = .ok (.getfield 126, 3)) ∧ (decode cX12_close 84 = .ok (.iload_n 3, 1)) ∧ (decode cX12_close 85 = .ok (.iaload, 1)) ∧ (decode cX12_close 86 = .ok (.iastore, 1)) ∧ (decode cX12_close 87 = .ok (.aload_n 0, 1)) ∧ (decode cX12_close 88 = .ok (.getfield 117, 3)) ∧ (decode cX12_close 91 = .ok (.iload_n 3, 1)) ∧ (decode cX12_close 92 = .ok (.aload_n 0, 1)) ∧ (decode cX12_close 93 = .ok (.getfield 99, 3)) := by decide +kernel
theorem kd53_16 : (decode cX12_close 96 = .ok (.iload_n 3, 1)) ∧ (decode cX12_close 97 = .ok (.iaload, 1)) ∧ (decode cX12_close 98 = .ok (.aload_n 0, 1)) ∧ (decode cX12_close 99 = .ok (.getfield 111, 3)) ∧ (decode cX12_close 102 = .ok (.iload_n 3, 1)) ∧ (decode cX12_close 103 = .ok (.iaload, 1)) ∧ (decode cX12_close 104 = .ok (.isub, 1)) ∧ (decode cX12_close 105 = .ok (.aload_n 0, 1)) ∧ (decode cX12_close 106 = .ok (.getfield 114, 3)) ∧ (decode cX12_close 109 = .ok (.iload_n 3, 1)) ∧ (decode cX12_close 110 = .ok (.iaload, 1)) ∧ (decode cX12_close 111 = .ok (.isub, 1)) := by decide +kernel
theorem kd53_17 : (decode cX12_close 112 = .ok (.iastore, 1)) ∧ (decode cX12_close 113 = .ok (.aload_n 0, 1)) ∧ (decode cX12_close 114 = .ok (.getfield 22, 3)) ∧ (decode cX12_close 117 = .ok (.aload_n 0, 1)) ∧ (decode cX12_close 118 = .ok (.getfield 90, 3)) ∧ (decode cX12_close 121 = .ok (.iload_n 3, 1)) ∧ (decode cX12_close 122 = .ok (.iaload, 1)) ∧ (decode cX12_close 123 = .ok (.dup2, 1)) ∧ (decode cX12_close 124 = .ok (.iaload, 1)) ∧ (decode cX12_close 125 = .ok (.aload_n 0, 1)) ∧ (decode cX12_close 126 = .ok (.iload_n 3, 1)) ∧ (decode cX12_close 127 = .ok (.iload_n 1, 1)) := by decide +kernel
theorem kd53_18 : (decode cX12_close 128 = .ok (.invokevirtual 415, 3)) ∧ (decode cX12_close 131 = .ok (.iadd, 1)) ∧ (decode cX12_close 132 = .ok (.iastore, 1)) ∧ (decode cX12_close 133 = .ok (.iload_n 2, 1)) ∧ (decode cX12_close 134 = .ok (.aload_n 0, 1)) ∧ (decode cX12_close 135 = .ok (.getfield 111, 3)) ∧ (decode cX12_close 138 = .ok (.iload_n 3, 1)) ∧ (decode cX12_close 139 = .ok (.iaload, 1)) ∧ (decode cX12_close 140 = .ok (.iadd, 1)) ∧ (decode cX12_close 141 = .ok (.istore_n 2, 1)) ∧ (decode cX12_close 142 = .ok (.iinc 3 1, 3)) ∧ (decode cX12_close 145 = .ok (.goto (-106), 3)) := by decide +kernel
theorem kd53_19 : (decode cX12_close 148 = .ok (.aload_n 0, 1)) ∧ (decode cX12_close 149 = .ok (.dup, 1)) ∧ (decode cX12_close 150 = .ok (.getfield 239, 3)) ∧ (decode cX12_close 153 = .ok (.iconst 1, 1)) ∧ (decode cX12_close 154 = .ok (.iadd, 1)) ∧ (decode cX12_close 155 = .ok (.putfield 239, 3)) ∧ (decode cX12_close 158 = .ok (.iload_n 2, 1)) ∧ (decode cX12_close 159 = .ok (.ireturn, 1)) ∧ (decode cX12_comes 0 = .ok (.aload_n 0, 1)) ∧ (decode cX12_comes 1 = .ok (.iload_n 1, 1)) ∧ (decode cX12_comes 2 = .ok (.invokevirtual 402, 3)) ∧ (decode cX12_comes 5 = .ok (.aload_n 0, 1)) := by decide +kernel
theorem kd53_20 : (decode cX12_comes 6 = .ok (.getfield 123, 3)) ∧ (decode cX12_comes 9 = .ok (.iload_n 1, 1)) ∧ (decode cX12_comes 10 = .ok (.iaload, 1)) ∧ (decode cX12_comes 11 = .ok (.aload_n 0, 1)) ∧ (decode cX12_comes 12 = .ok (.iload_n 2, 1)) ∧ (decode cX12_comes 13 = .ok (.iconst 1, 1)) ∧ (decode cX12_comes 14 = .ok (.invokevirtual 395, 3)) ∧ (decode cX12_comes 17 = .ok (.imul, 1)) ∧ (decode cX12_comes 18 = .ok (.aload_n 0, 1)) ∧ (decode cX12_comes 19 = .ok (.getfield 126, 3)) ∧ (decode cX12_comes 22 = .ok (.iload_n 1, 1)) ∧ (decode cX12_comes 23 = .ok (.iaload, 1)) := by decide +kernel
theorem kd53_21 : (decode cX12_comes 24 = .ok (.aload_n 0, 1)) ∧ (decode cX12_comes 25 = .ok (.iload_n 2, 1)) ∧ (decode cX12_comes 26 = .ok (.iconst 0, 1)) ∧ (decode cX12_comes 27 = .ok (.invokevirtual 395, 3)) ∧ (decode cX12_comes 30 = .ok (.imul, 1)) ∧ (decode cX12_comes 31 = .ok (.bipush 100, 2)) ∧ (decode cX12_comes 33 = .ok (.idiv, 1)) ∧ (decode cX12_comes 34 = .ok (.iadd, 1)) ∧ (decode cX12_comes 35 = .ok (.ireturn, 1)) ∧ (decode cX12_cry 0 = .ok (.iconst 0, 1)) ∧ (decode cX12_cry 1 = .ok (.istore_n 3, 1)) ∧ (decode cX12_cry 2 = .ok (.iload_n 3, 1)) := by decide +kernel
theorem kd53_22 : (decode cX12_cry 3 = .ok (.aload_n 0, 1)) ∧ (decode cX12_cry 4 = .ok (.getfield 389, 3)) ∧ (decode cX12_cry 7 = .ok (.if_icmp .ge 68, 3)) ∧ (decode cX12_cry 10 = .ok (.aload_n 0, 1)) ∧ (decode cX12_cry 11 = .ok (.getfield 129, 3)) ∧ (decode cX12_cry 14 = .ok (.iload_n 3, 1)) ∧ (decode cX12_cry 15 = .ok (.aload_n 0, 1)) ∧ (decode cX12_cry 16 = .ok (.getfield 105, 3)) ∧ (decode cX12_cry 19 = .ok (.iload_n 3, 1)) ∧ (decode cX12_cry 20 = .ok (.iaload, 1)) ∧ (decode cX12_cry 21 = .ok (.iload_n 1, 1)) ∧ (decode cX12_cry 22 = .ok (.if_icmp .eq 7, 3)) := by decide +kernel
theorem kd53_23 : (decode cX12_cry 25 = .ok (.iconst 1, 1)) ∧ (decode cX12_cry 26 = .ok (.goto 4, 3)) ∧ (decode cX12_cry 29 = .ok (.iconst 0, 1)) ∧ (decode cX12_cry 30 = .ok (.bastore, 1)) ∧ (decode cX12_cry 31 = .ok (.aload_n 0, 1)) ∧ (decode cX12_cry 32 = .ok (.getfield 129, 3)) ∧ (decode cX12_cry 35 = .ok (.iload_n 3, 1)) ∧ (decode cX12_cry 36 = .ok (.baload, 1)) ∧ (decode cX12_cry 37 = .ok (.ifCond .eq 6, 3)) ∧ (decode cX12_cry 40 = .ok (.goto 29, 3)) ∧ (decode cX12_cry 43 = .ok (.aload_n 0, 1)) ∧ (decode cX12_cry 44 = .ok (.iload_n 3, 1)) := by decide +kernel
theorem kd53_24 : (decode cX12_cry 45 = .ok (.invokevirtual 402, 3)) ∧ (decode cX12_cry 48 = .ok (.aload_n 0, 1)) ∧ (decode cX12_cry 49 = .ok (.getfield 132, 3)) ∧ (decode cX12_cry 52 = .ok (.iload_n 3, 1)) ∧ (decode cX12_cry 53 = .ok (.aload_n 0, 1)) ∧ (decode cX12_cry 54 = .ok (.iload_n 2, 1)) ∧ (decode cX12_cry 55 = .ok (.iconst 4, 1)) ∧ (decode cX12_cry 56 = .ok (.invokevirtual 395, 3)) ∧ (decode cX12_cry 59 = .ok (.iconst 1, 1)) ∧ (decode cX12_cry 60 = .ok (.if_icmp .ne 7, 3)) ∧ (decode cX12_cry 63 = .ok (.iconst 1, 1)) ∧ (decode cX12_cry 64 = .ok (.goto 4, 3)) := by decide +kernel
theorem kd53_25 : (decode cX12_cry 67 = .ok (.iconst 0, 1)) ∧ (decode cX12_cry 68 = .ok (.bastore, 1)) ∧ (decode cX12_cry 69 = .ok (.iinc 3 1, 3)) ∧ (decode cX12_cry 72 = .ok (.goto (-70), 3)) ∧ (decode cX12_cry 75 = .ok (.iconst 0, 1)) ∧ (decode cX12_cry 76 = .ok (.istore_n 3, 1)) ∧ (decode cX12_cry 77 = .ok (.iload_n 3, 1)) ∧ (decode cX12_cry 78 = .ok (.bipush 10, 2)) ∧ (decode cX12_cry 80 = .ok (.if_icmp .ge 191, 3)) ∧ (decode cX12_cry 83 = .ok (.iconst 0, 1)) ∧ (decode cX12_cry 84 = .ok (.istore 4, 2)) ∧ (decode cX12_cry 86 = .ok (.iload 4, 2)) := by decide +kernel
theorem kd53_26 : (decode cX12_cry 88 = .ok (.iconst 4, 1)) ∧ (decode cX12_cry 89 = .ok (.if_icmp .ge 176, 3)) ∧ (decode cX12_cry 92 = .ok (.aload_n 0, 1)) ∧ (decode cX12_cry 93 = .ok (.iload_n 3, 1)) ∧ (decode cX12_cry 94 = .ok (.iload 4, 2)) ∧ (decode cX12_cry 96 = .ok (.aload_n 0, 1)) ∧ (decode cX12_cry 97 = .ok (.iload_n 1, 1)) ∧ (decode cX12_cry 98 = .ok (.invokevirtual 232, 3)) ∧ (decode cX12_cry 101 = .ok (.aload_n 0, 1)) ∧ (decode cX12_cry 102 = .ok (.getfield 35, 3)) ∧ (decode cX12_cry 105 = .ok (.sipush 400, 3)) ∧ (decode cX12_cry 108 = .ok (.iload 4, 2)) := by decide +kernel
theorem kd53_27 : (decode cX12_cry 110 = .ok (.imul, 1)) ∧ (decode cX12_cry 111 = .ok (.iload_n 1, 1)) ∧ (decode cX12_cry 112 = .ok (.iadd, 1)) ∧ (decode cX12_cry 113 = .ok (.iaload, 1)) ∧ (decode cX12_cry 114 = .ok (.invokevirtual 242, 3)) ∧ (decode cX12_cry 117 = .ok (.istore 5, 2)) ∧ (decode cX12_cry 119 = .ok (.aload_n 0, 1)) ∧ (decode cX12_cry 120 = .ok (.iload_n 3, 1)) ∧ (decode cX12_cry 121 = .ok (.iload 4, 2)) ∧ (decode cX12_cry 123 = .ok (.invokevirtual 405, 3)) ∧ (decode cX12_cry 126 = .ok (.istore 6, 2)) ∧ (decode cX12_cry 128 = .ok (.iload 6, 2)) := by decide +kernel
theorem kd53_28 : (decode cX12_cry 130 = .ok (.iconst (-1), 1)) ∧ (decode cX12_cry 131 = .ok (.if_icmp .eq 128, 3)) ∧ (decode cX12_cry 134 = .ok (.aload_n 0, 1)) ∧ (decode cX12_cry 135 = .ok (.getfield 129, 3)) ∧ (decode cX12_cry 138 = .ok (.iload 6, 2)) ∧ (decode cX12_cry 140 = .ok (.iconst 1, 1)) ∧ (decode cX12_cry 141 = .ok (.bastore, 1)) ∧ (decode cX12_cry 142 = .ok (.aload_n 0, 1)) ∧ (decode cX12_cry 143 = .ok (.getfield 132, 3)) ∧ (decode cX12_cry 146 = .ok (.iload 6, 2)) ∧ (decode cX12_cry 148 = .ok (.baload, 1)) ∧ (decode cX12_cry 149 = .ok (.ifCond .ne 7, 3)) := by decide +kernel
theorem kd53_29 : (decode cX12_cry 152 = .ok (.iconst 0, 1)) ∧ (decode cX12_cry 153 = .ok (.goto 27, 3)) ∧ (decode cX12_cry 156 = .ok (.aload_n 0, 1)) ∧ (decode cX12_cry 157 = .ok (.getfield 99, 3)) ∧ (decode cX12_cry 160 = .ok (.iload 6, 2)) ∧ (decode cX12_cry 162 = .ok (.iaload, 1)) ∧ (decode cX12_cry 163 = .ok (.iload 5, 2)) ∧ (decode cX12_cry 165 = .ok (.if_icmp .ge 13, 3)) ∧ (decode cX12_cry 168 = .ok (.aload_n 0, 1)) ∧ (decode cX12_cry 169 = .ok (.getfield 99, 3)) ∧ (decode cX12_cry 172 = .ok (.iload 6, 2)) ∧ (decode cX12_cry 174 = .ok (.iaload, 1)) := by decide +kernel
theorem kd53_30 : (decode cX12_cry 175 = .ok (.goto 5, 3)) ∧ (decode cX12_cry 178 = .ok (.iload 5, 2)) ∧ (decode cX12_cry 180 = .ok (.istore 7, 2)) ∧ (decode cX12_cry 182 = .ok (.iload 5, 2)) ∧ (decode cX12_cry 184 = .ok (.iload 7, 2)) ∧ (decode cX12_cry 186 = .ok (.isub, 1)) ∧ (decode cX12_cry 187 = .ok (.istore 5, 2)) ∧ (decode cX12_cry 189 = .ok (.aload_n 0, 1)) ∧ (decode cX12_cry 190 = .ok (.getfield 123, 3)) ∧ (decode cX12_cry 193 = .ok (.iload 6, 2)) ∧ (decode cX12_cry 195 = .ok (.iload 7, 2)) ∧ (decode cX12_cry 197 = .ok (.iastore, 1)) := by decide +kernel
theorem kd53_31 : (decode cX12_cry 198 = .ok (.aload_n 0, 1)) ∧ (decode cX12_cry 199 = .ok (.iload 6, 2)) ∧ (decode cX12_cry 201 = .ok (.invokevirtual 402, 3)) ∧ (decode cX12_cry 204 = .ok (.aload_n 0, 1)) ∧ (decode cX12_cry 205 = .ok (.iload_n 2, 1)) ∧ (decode cX12_cry 206 = .ok (.iconst 2, 1)) ∧ (decode cX12_cry 207 = .ok (.invokevirtual 395, 3)) ∧ (decode cX12_cry 210 = .ok (.istore 8, 2)) ∧ (decode cX12_cry 212 = .ok (.aload_n 0, 1)) ∧ (decode cX12_cry 213 = .ok (.getfield 126, 3)) ∧ (decode cX12_cry 216 = .ok (.iload 6, 2)) ∧ (decode cX12_cry 218 = .ok (.aload_n 0, 1)) := by decide +kernel
theorem kd53_32 : (decode cX12_cry 219 = .ok (.getfield 99, 3)) ∧ (decode cX12_cry 222 = .ok (.iload 6, 2)) ∧ (decode cX12_cry 224 = .ok (.iaload, 1)) ∧ (decode cX12_cry 225 = .ok (.iload 7, 2)) ∧ (decode cX12_cry 227 = .ok (.isub, 1)) ∧ (decode cX12_cry 228 = .ok (.iload 8, 2)) ∧ (decode cX12_cry 230 = .ok (.bipush 100, 2)) ∧ (decode cX12_cry 232 = .ok (.if_icmp .le 8, 3)) ∧ (decode cX12_cry 235 = .ok (.bipush 100, 2)) ∧ (decode cX12_cry 237 = .ok (.goto 5, 3)) ∧ (decode cX12_cry 240 = .ok (.iload 8, 2)) ∧ (decode cX12_cry 242 = .ok (.imul, 1)) := by decide +kernel
theorem kd53_33 : (decode cX12_cry 243 = .ok (.bipush 100, 2)) ∧ (decode cX12_cry 245 = .ok (.idiv, 1)) ∧ (decode cX12_cry 246 = .ok (.iastore, 1)) ∧ (decode cX12_cry 247 = .ok (.aload_n 0, 1)) ∧ (decode cX12_cry 248 = .ok (.iload_n 3, 1)) ∧ (decode cX12_cry 249 = .ok (.iload 4, 2)) ∧ (decode cX12_cry 251 = .ok (.invokevirtual 405, 3)) ∧ (decode cX12_cry 254 = .ok (.istore 6, 2)) ∧ (decode cX12_cry 256 = .ok (.goto (-128), 3)) ∧ (decode cX12_cry 259 = .ok (.iinc 4 1, 3)) ∧ (decode cX12_cry 262 = .ok (.goto (-176), 3)) ∧ (decode cX12_cry 265 = .ok (.iinc 3 1, 3)) := by decide +kernel
theorem kd53_34 : (decode cX12_cry 268 = .ok (.goto (-191), 3)) ∧ (decode cX12_cry 271 = .ok (.return_, 1)) ∧ (decode cX12_holds 0 = .ok (.iconst 0, 1)) ∧ (decode cX12_holds 1 = .ok (.istore 4, 2)) ∧ (decode cX12_holds 3 = .ok (.iload_n 2, 1)) ∧ (decode cX12_holds 4 = .ok (.istore 5, 2)) ∧ (decode cX12_holds 6 = .ok (.iload 5, 2)) ∧ (decode cX12_holds 8 = .ok (.iload_n 3, 1)) ∧ (decode cX12_holds 9 = .ok (.if_icmp .ge 275, 3)) ∧ (decode cX12_holds 12 = .ok (.bipush 120, 2)) ∧ (decode cX12_holds 14 = .ok (.iload_n 1, 1)) ∧ (decode cX12_holds 15 = .ok (.imul, 1)) := by decide +kernel
theorem kd53_35 : (decode cX12_holds 16 = .ok (.iload 5, 2)) ∧ (decode cX12_holds 18 = .ok (.iadd, 1)) ∧ (decode cX12_holds 19 = .ok (.istore 6, 2)) ∧ (decode cX12_holds 21 = .ok (.aload_n 0, 1)) ∧ (decode cX12_holds 22 = .ok (.getfield 68, 3)) ∧ (decode cX12_holds 25 = .ok (.iload 6, 2)) ∧ (decode cX12_holds 27 = .ok (.iaload, 1)) ∧ (decode cX12_holds 28 = .ok (.istore 7, 2)) ∧ (decode cX12_holds 30 = .ok (.iload 7, 2)) ∧ (decode cX12_holds 32 = .ok (.bipush 12, 2)) ∧ (decode cX12_holds 34 = .ok (.if_icmp .ne 32, 3)) ∧ (decode cX12_holds 37 = .ok (.aload_n 0, 1)) := by decide +kernel
theorem kd53_36 : (decode cX12_holds 38 = .ok (.getfield 83, 3)) ∧ (decode cX12_holds 41 = .ok (.iload 4, 2)) ∧ (decode cX12_holds 43 = .ok (.iconst 1, 1)) ∧ (decode cX12_holds 44 = .ok (.isub, 1)) ∧ (decode cX12_holds 45 = .ok (.aload_n 0, 1)) ∧ (decode cX12_holds 46 = .ok (.getfield 83, 3)) ∧ (decode cX12_holds 49 = .ok (.iload 4, 2)) ∧ (decode cX12_holds 51 = .ok (.iconst 1, 1)) ∧ (decode cX12_holds 52 = .ok (.isub, 1)) ∧ (decode cX12_holds 53 = .ok (.baload, 1)) ∧ (decode cX12_holds 54 = .ok (.ifCond .ne 7, 3)) ∧ (decode cX12_holds 57 = .ok (.iconst 1, 1)) := by decide +kernel
theorem kd53_37 : (decode cX12_holds 58 = .ok (.goto 4, 3)) ∧ (decode cX12_holds 61 = .ok (.iconst 0, 1)) ∧ (decode cX12_holds 62 = .ok (.bastore, 1)) ∧ (decode cX12_holds 63 = .ok (.goto 215, 3)) ∧ (decode cX12_holds 66 = .ok (.iload 7, 2)) ∧ (decode cX12_holds 68 = .ok (.bipush 13, 2)) ∧ (decode cX12_holds 70 = .ok (.if_icmp .eq 10, 3)) ∧ (decode cX12_holds 73 = .ok (.iload 7, 2)) ∧ (decode cX12_holds 75 = .ok (.bipush 14, 2)) ∧ (decode cX12_holds 77 = .ok (.if_icmp .ne 82, 3)) ∧ (decode cX12_holds 80 = .ok (.iinc 4 (-1), 3)) ∧ (decode cX12_holds 83 = .ok (.aload_n 0, 1)) := by decide +kernel
theorem kd53_38 : (decode cX12_holds 84 = .ok (.getfield 83, 3)) ∧ (decode cX12_holds 87 = .ok (.iload 4, 2)) ∧ (decode cX12_holds 89 = .ok (.iconst 1, 1)) ∧ (decode cX12_holds 90 = .ok (.isub, 1)) ∧ (decode cX12_holds 91 = .ok (.iload 7, 2)) ∧ (decode cX12_holds 93 = .ok (.bipush 13, 2)) ∧ (decode cX12_holds 95 = .ok (.if_icmp .ne 33, 3)) ∧ (decode cX12_holds 98 = .ok (.aload_n 0, 1)) ∧ (decode cX12_holds 99 = .ok (.getfield 83, 3)) ∧ (decode cX12_holds 102 = .ok (.iload 4, 2)) ∧ (decode cX12_holds 104 = .ok (.iconst 1, 1)) ∧ (decode cX12_holds 105 = .ok (.isub, 1)) := by decide +kernel
theorem kd53_39 : (decode cX12_holds 106 = .ok (.baload, 1)) ∧ (decode cX12_holds 107 = .ok (.ifCond .eq 17, 3)) ∧ (decode cX12_holds 110 = .ok (.aload_n 0, 1)) ∧ (decode cX12_holds 111 = .ok (.getfield 83, 3)) ∧ (decode cX12_holds 114 = .ok (.iload 4, 2)) ∧ (decode cX12_holds 116 = .ok (.baload, 1)) ∧ (decode cX12_holds 117 = .ok (.ifCond .eq 7, 3)) ∧ (decode cX12_holds 120 = .ok (.iconst 1, 1)) ∧ (decode cX12_holds 121 = .ok (.goto 34, 3)) ∧ (decode cX12_holds 124 = .ok (.iconst 0, 1)) ∧ (decode cX12_holds 125 = .ok (.goto 30, 3)) ∧ (decode cX12_holds 128 = .ok (.aload_n 0, 1)) := by decide +kernel
theorem kd53_40 : (decode cX12_holds 129 = .ok (.getfield 83, 3)) ∧ (decode cX12_holds 132 = .ok (.iload 4, 2)) ∧ (decode cX12_holds 134 = .ok (.iconst 1, 1)) ∧ (decode cX12_holds 135 = .ok (.isub, 1)) ∧ (decode cX12_holds 136 = .ok (.baload, 1)) ∧ (decode cX12_holds 137 = .ok (.ifCond .ne 13, 3)) ∧ (decode cX12_holds 140 = .ok (.aload_n 0, 1)) ∧ (decode cX12_holds 141 = .ok (.getfield 83, 3)) ∧ (decode cX12_holds 144 = .ok (.iload 4, 2)) ∧ (decode cX12_holds 146 = .ok (.baload, 1)) ∧ (decode cX12_holds 147 = .ok (.ifCond .eq 7, 3)) ∧ (decode cX12_holds 150 = .ok (.iconst 1, 1)) := by decide +kernel
theorem kd53_41 : (decode cX12_holds 151 = .ok (.goto 4, 3)) ∧ (decode cX12_holds 154 = .ok (.iconst 0, 1)) ∧ (decode cX12_holds 155 = .ok (.bastore, 1)) ∧ (decode cX12_holds 156 = .ok (.goto 122, 3)) ∧ (decode cX12_holds 159 = .ok (.aload_n 0, 1)) ∧ (decode cX12_holds 160 = .ok (.getfield 80, 3)) ∧ (decode cX12_holds 163 = .ok (.iload 7, 2)) ∧ (decode cX12_holds 165 = .ok (.iaload, 1)) ∧ (decode cX12_holds 166 = .ok (.istore 8, 2)) ∧ (decode cX12_holds 168 = .ok (.aload_n 0, 1)) ∧ (decode cX12_holds 169 = .ok (.getfield 71, 3)) ∧ (decode cX12_holds 172 = .ok (.iload 6, 2)) := by decide +kernel
theorem kd53_42 : (decode cX12_holds 174 = .ok (.iaload, 1)) ∧ (decode cX12_holds 175 = .ok (.istore 9, 2)) ∧ (decode cX12_holds 177 = .ok (.aload_n 0, 1)) ∧ (decode cX12_holds 178 = .ok (.getfield 83, 3)) ∧ (decode cX12_holds 181 = .ok (.iload 4, 2)) ∧ (decode cX12_holds 183 = .ok (.iload 7, 2)) ∧ (decode cX12_holds 185 = .ok (.iconst 3, 1)) ∧ (decode cX12_holds 186 = .ok (.if_icmp .ge 17, 3)) ∧ (decode cX12_holds 189 = .ok (.iload 8, 2)) ∧ (decode cX12_holds 191 = .ok (.iconst 1, 1)) ∧ (decode cX12_holds 192 = .ok (.if_icmp .ne 7, 3)) ∧ (decode cX12_holds 195 = .ok (.iconst 1, 1)) := by decide +kernel
theorem kd53_43 : (decode cX12_holds 196 = .ok (.goto 78, 3)) ∧ (decode cX12_holds 199 = .ok (.iconst 0, 1)) ∧ (decode cX12_holds 200 = .ok (.goto 74, 3)) ∧ (decode cX12_holds 203 = .ok (.iload 9, 2)) ∧ (decode cX12_holds 205 = .ok (.bipush 60, 2)) ∧ (decode cX12_holds 207 = .ok (.if_icmp .ne 23, 3)) ∧ (decode cX12_holds 210 = .ok (.iload 8, 2)) ∧ (decode cX12_holds 212 = .ok (.aload_n 0, 1)) ∧ (decode cX12_holds 213 = .ok (.getfield 74, 3)) ∧ (decode cX12_holds 216 = .ok (.iload 6, 2)) ∧ (decode cX12_holds 218 = .ok (.iaload, 1)) ∧ (decode cX12_holds 219 = .ok (.if_icmp .ge 7, 3)) := by decide +kernel
theorem kd53_44 : (decode cX12_holds 222 = .ok (.iconst 1, 1)) ∧ (decode cX12_holds 223 = .ok (.goto 51, 3)) ∧ (decode cX12_holds 226 = .ok (.iconst 0, 1)) ∧ (decode cX12_holds 227 = .ok (.goto 47, 3)) ∧ (decode cX12_holds 230 = .ok (.iload 9, 2)) ∧ (decode cX12_holds 232 = .ok (.bipush 61, 2)) ∧ (decode cX12_holds 234 = .ok (.if_icmp .ne 23, 3)) ∧ (decode cX12_holds 237 = .ok (.iload 8, 2)) ∧ (decode cX12_holds 239 = .ok (.aload_n 0, 1)) ∧ (decode cX12_holds 240 = .ok (.getfield 74, 3)) ∧ (decode cX12_holds 243 = .ok (.iload 6, 2)) ∧ (decode cX12_holds 245 = .ok (.iaload, 1)) := by decide +kernel
theorem kd53_45 : (decode cX12_holds 246 = .ok (.if_icmp .ne 7, 3)) ∧ (decode cX12_holds 249 = .ok (.iconst 1, 1)) ∧ (decode cX12_holds 250 = .ok (.goto 24, 3)) ∧ (decode cX12_holds 253 = .ok (.iconst 0, 1)) ∧ (decode cX12_holds 254 = .ok (.goto 20, 3)) ∧ (decode cX12_holds 257 = .ok (.iload 8, 2)) ∧ (decode cX12_holds 259 = .ok (.aload_n 0, 1)) ∧ (decode cX12_holds 260 = .ok (.getfield 74, 3)) ∧ (decode cX12_holds 263 = .ok (.iload 6, 2)) ∧ (decode cX12_holds 265 = .ok (.iaload, 1)) ∧ (decode cX12_holds 266 = .ok (.if_icmp .le 7, 3)) ∧ (decode cX12_holds 269 = .ok (.iconst 1, 1)) := by decide +kernel
theorem kd53_46 : (decode cX12_holds 270 = .ok (.goto 4, 3)) ∧ (decode cX12_holds 273 = .ok (.iconst 0, 1)) ∧ (decode cX12_holds 274 = .ok (.bastore, 1)) ∧ (decode cX12_holds 275 = .ok (.iinc 4 1, 3)) ∧ (decode cX12_holds 278 = .ok (.iinc 5 1, 3)) ∧ (decode cX12_holds 281 = .ok (.goto (-275), 3)) ∧ (decode cX12_holds 284 = .ok (.iload 4, 2)) ∧ (decode cX12_holds 286 = .ok (.ifCond .eq 12, 3)) ∧ (decode cX12_holds 289 = .ok (.aload_n 0, 1)) ∧ (decode cX12_holds 290 = .ok (.getfield 83, 3)) ∧ (decode cX12_holds 293 = .ok (.iconst 0, 1)) ∧ (decode cX12_holds 294 = .ok (.baload, 1)) := by decide +kernel
theorem kd53_47 : (decode cX12_holds 295 = .ok (.ifCond .eq 7, 3)) ∧ (decode cX12_holds 298 = .ok (.iconst 1, 1)) ∧ (decode cX12_holds 299 = .ok (.goto 4, 3)) ∧ (decode cX12_holds 302 = .ok (.iconst 0, 1)) ∧ (decode cX12_holds 303 = .ok (.ireturn, 1)) ∧ (decode cX12_readLine 0 = .ok (.aload_n 0, 1)) ∧ (decode cX12_readLine 1 = .ok (.invokevirtual 358, 3)) ∧ (decode cX12_readLine 4 = .ok (.istore_n 1, 1)) ∧ (decode cX12_readLine 5 = .ok (.iload_n 1, 1)) ∧ (decode cX12_readLine 6 = .ok (.iconst (-1), 1)) ∧ (decode cX12_readLine 7 = .ok (.if_icmp .ne 9, 3)) ∧ (decode cX12_readLine 10 = .ok (.aload_n 0, 1)) := by decide +kernel
theorem kd53_48 : (decode cX12_readLine 11 = .ok (.iconst 1, 1)) ∧ (decode cX12_readLine 12 = .ok (.invokevirtual 333, 3)) ∧ (decode cX12_readLine 15 = .ok (.ireturn, 1)) ∧ (decode cX12_readLine 16 = .ok (.aload_n 0, 1)) ∧ (decode cX12_readLine 17 = .ok (.getfield 361, 3)) ∧ (decode cX12_readLine 20 = .ok (.bipush 16, 2)) ∧ (decode cX12_readLine 22 = .ok (.if_icmp .eq 18, 3)) ∧ (decode cX12_readLine 25 = .ok (.iload_n 1, 1)) ∧ (decode cX12_readLine 26 = .ok (.iconst 5, 1)) ∧ (decode cX12_readLine 27 = .ok (.if_icmp .ne 19, 3)) ∧ (decode cX12_readLine 30 = .ok (.aload_n 0, 1)) ∧ (decode cX12_readLine 31 = .ok (.getfield 364, 3)) := by decide +kernel
theorem kd53_49 : (decode cX12_readLine 34 = .ok (.iconst 1, 1)) ∧ (decode cX12_readLine 35 = .ok (.iand, 1)) ∧ (decode cX12_readLine 36 = .ok (.iconst 1, 1)) ∧ (decode cX12_readLine 37 = .ok (.if_icmp .ne 9, 3)) ∧ (decode cX12_readLine 40 = .ok (.aload_n 0, 1)) ∧ (decode cX12_readLine 41 = .ok (.iconst 3, 1)) ∧ (decode cX12_readLine 42 = .ok (.invokevirtual 333, 3)) ∧ (decode cX12_readLine 45 = .ok (.ireturn, 1)) ∧ (decode cX12_readLine 46 = .ok (.sipush 160, 3)) ∧ (decode cX12_readLine 49 = .ok (.aload_n 0, 1)) ∧ (decode cX12_readLine 50 = .ok (.getfield 361, 3)) ∧ (decode cX12_readLine 53 = .ok (.iadd, 1)) := by decide +kernel
theorem kd53_50 : (decode cX12_readLine 54 = .ok (.istore_n 2, 1)) ∧ (decode cX12_readLine 55 = .ok (.aload_n 0, 1)) ∧ (decode cX12_readLine 56 = .ok (.getfield 56, 3)) ∧ (decode cX12_readLine 59 = .ok (.iload_n 2, 1)) ∧ (decode cX12_readLine 60 = .ok (.iload_n 1, 1)) ∧ (decode cX12_readLine 61 = .ok (.iastore, 1)) ∧ (decode cX12_readLine 62 = .ok (.aload_n 0, 1)) ∧ (decode cX12_readLine 63 = .ok (.getfield 59, 3)) ∧ (decode cX12_readLine 66 = .ok (.iload_n 2, 1)) ∧ (decode cX12_readLine 67 = .ok (.iconst 1, 1)) ∧ (decode cX12_readLine 68 = .ok (.iastore, 1)) ∧ (decode cX12_readLine 69 = .ok (.aload_n 0, 1)) := by decide +kernel
theorem kd53_51 : (decode cX12_readLine 70 = .ok (.getfield 62, 3)) ∧ (decode cX12_readLine 73 = .ok (.iload_n 2, 1)) ∧ (decode cX12_readLine 74 = .ok (.aload_n 0, 1)) ∧ (decode cX12_readLine 75 = .ok (.getfield 313, 3)) ∧ (decode cX12_readLine 78 = .ok (.iastore, 1)) ∧ (decode cX12_readLine 79 = .ok (.iload_n 1, 1)) ∧ (decode cX12_readLine 80 = .ok (.iconst 5, 1)) ∧ (decode cX12_readLine 81 = .ok (.if_icmp .ne 8, 3)) ∧ (decode cX12_readLine 84 = .ok (.aload_n 0, 1)) ∧ (decode cX12_readLine 85 = .ok (.iconst 1, 1)) ∧ (decode cX12_readLine 86 = .ok (.putfield 364, 3)) ∧ (decode cX12_readLine 89 = .ok (.aload_n 0, 1)) := by decide +kernel
theorem kd53_52 : (decode cX12_readLine 90 = .ok (.invokevirtual 342, 3)) ∧ (decode cX12_readLine 93 = .ok (.iload_n 1, 1)) ∧ (decode cX12_readLine 94 = .ok (.iconst 4, 1)) ∧ (decode cX12_readLine 95 = .ok (.if_icmp .ne 24, 3)) ∧ (decode cX12_readLine 98 = .ok (.aload_n 0, 1)) ∧ (decode cX12_readLine 99 = .ok (.invokevirtual 326, 3)) ∧ (decode cX12_readLine 102 = .ok (.ifCond .eq 61, 3)) ∧ (decode cX12_readLine 105 = .ok (.aload_n 0, 1)) ∧ (decode cX12_readLine 106 = .ok (.getfield 59, 3)) ∧ (decode cX12_readLine 109 = .ok (.iload_n 2, 1)) ∧ (decode cX12_readLine 110 = .ok (.iconst 0, 1)) ∧ (decode cX12_readLine 111 = .ok (.iastore, 1)) := by decide +kernel
theorem kd53_53 : (decode cX12_readLine 112 = .ok (.aload_n 0, 1)) ∧ (decode cX12_readLine 113 = .ok (.invokevirtual 342, 3)) ∧ (decode cX12_readLine 116 = .ok (.goto 47, 3)) ∧ (decode cX12_readLine 119 = .ok (.aload_n 0, 1)) ∧ (decode cX12_readLine 120 = .ok (.getfield 262, 3)) ∧ (decode cX12_readLine 123 = .ok (.iconst 3, 1)) ∧ (decode cX12_readLine 124 = .ok (.if_icmp .eq 9, 3)) ∧ (decode cX12_readLine 127 = .ok (.aload_n 0, 1)) ∧ (decode cX12_readLine 128 = .ok (.iconst 1, 1)) ∧ (decode cX12_readLine 129 = .ok (.invokevirtual 333, 3)) ∧ (decode cX12_readLine 132 = .ok (.ireturn, 1)) ∧ (decode cX12_readLine 133 = .ok (.aload_n 0, 1)) := by decide +kernel
theorem kd53_54 : (decode cX12_readLine 134 = .ok (.getfield 281, 3)) ∧ (decode cX12_readLine 137 = .ok (.sipush 1000, 3)) ∧ (decode cX12_readLine 140 = .ok (.if_icmp .le 9, 3)) ∧ (decode cX12_readLine 143 = .ok (.aload_n 0, 1)) ∧ (decode cX12_readLine 144 = .ok (.iconst 2, 1)) ∧ (decode cX12_readLine 145 = .ok (.invokevirtual 333, 3)) ∧ (decode cX12_readLine 148 = .ok (.ireturn, 1)) ∧ (decode cX12_readLine 149 = .ok (.aload_n 0, 1)) ∧ (decode cX12_readLine 150 = .ok (.getfield 59, 3)) ∧ (decode cX12_readLine 153 = .ok (.iload_n 2, 1)) ∧ (decode cX12_readLine 154 = .ok (.aload_n 0, 1)) ∧ (decode cX12_readLine 155 = .ok (.getfield 281, 3)) := by decide +kernel
theorem kd53_55 : (decode cX12_readLine 158 = .ok (.iastore, 1)) ∧ (decode cX12_readLine 159 = .ok (.aload_n 0, 1)) ∧ (decode cX12_readLine 160 = .ok (.invokevirtual 342, 3)) ∧ (decode cX12_readLine 163 = .ok (.iload_n 1, 1)) ∧ (decode cX12_readLine 164 = .ok (.iconst 5, 1)) ∧ (decode cX12_readLine 165 = .ok (.if_icmp .eq 33, 3)) ∧ (decode cX12_readLine 168 = .ok (.aload_n 0, 1)) ∧ (decode cX12_readLine 169 = .ok (.bipush 105, 2)) ∧ (decode cX12_readLine 171 = .ok (.bipush 102, 2)) ∧ (decode cX12_readLine 173 = .ok (.iconst 0, 1)) ∧ (decode cX12_readLine 174 = .ok (.iconst 0, 1)) ∧ (decode cX12_readLine 175 = .ok (.iconst 0, 1)) := by decide +kernel
theorem kd53_56 : (decode cX12_readLine 176 = .ok (.invokestatic 297, 3)) ∧ (decode cX12_readLine 179 = .ok (.invokevirtual 301, 3)) ∧ (decode cX12_readLine 182 = .ok (.ifCond .eq 16, 3)) ∧ (decode cX12_readLine 185 = .ok (.aload_n 0, 1)) ∧ (decode cX12_readLine 186 = .ok (.invokevirtual 342, 3)) ∧ (decode cX12_readLine 189 = .ok (.aload_n 0, 1)) ∧ (decode cX12_readLine 190 = .ok (.invokevirtual 367, 3)) ∧ (decode cX12_readLine 193 = .ok (.ifCond .ne 5, 3)) ∧ (decode cX12_readLine 196 = .ok (.iconst 0, 1)) ∧ (decode cX12_readLine 197 = .ok (.ireturn, 1)) ∧ (decode cX12_readLine 198 = .ok (.aload_n 0, 1)) ∧ (decode cX12_readLine 199 = .ok (.getfield 65, 3)) := by decide +kernel
theorem kd53_57 : (decode cX12_readLine 202 = .ok (.iload_n 2, 1)) ∧ (decode cX12_readLine 203 = .ok (.aload_n 0, 1)) ∧ (decode cX12_readLine 204 = .ok (.getfield 313, 3)) ∧ (decode cX12_readLine 207 = .ok (.iastore, 1)) ∧ (decode cX12_readLine 208 = .ok (.aload_n 0, 1)) ∧ (decode cX12_readLine 209 = .ok (.dup, 1)) ∧ (decode cX12_readLine 210 = .ok (.getfield 361, 3)) ∧ (decode cX12_readLine 213 = .ok (.iconst 1, 1)) ∧ (decode cX12_readLine 214 = .ok (.iadd, 1)) ∧ (decode cX12_readLine 215 = .ok (.putfield 361, 3)) ∧ (decode cX12_readLine 218 = .ok (.aload_n 0, 1)) ∧ (decode cX12_readLine 219 = .ok (.bipush 59, 2)) := by decide +kernel
theorem kd53_58 : (decode cX12_readLine 221 = .ok (.invokevirtual 330, 3)) ∧ (decode cX12_readLine 224 = .ok (.ifCond .ne 11, 3)) ∧ (decode cX12_readLine 227 = .ok (.aload_n 0, 1)) ∧ (decode cX12_readLine 228 = .ok (.iconst 1, 1)) ∧ (decode cX12_readLine 229 = .ok (.invokevirtual 333, 3)) ∧ (decode cX12_readLine 232 = .ok (.ifCond .eq 7, 3)) ∧ (decode cX12_readLine 235 = .ok (.iconst 1, 1)) ∧ (decode cX12_readLine 236 = .ok (.goto 4, 3)) ∧ (decode cX12_readLine 239 = .ok (.iconst 0, 1)) ∧ (decode cX12_readLine 240 = .ok (.ireturn, 1)) ∧ (decode cX12_readTerms 0 = .ok (.aload_n 0, 1)) ∧ (decode cX12_readTerms 1 = .ok (.iload_n 1, 1)) := by decide +kernel
theorem kd53_59 : (decode cX12_readTerms 2 = .ok (.putfield 253, 3)) ∧ (decode cX12_readTerms 5 = .ok (.aload_n 0, 1)) ∧ (decode cX12_readTerms 6 = .ok (.iconst 0, 1)) ∧ (decode cX12_readTerms 7 = .ok (.putfield 291, 3)) ∧ (decode cX12_readTerms 10 = .ok (.aload_n 0, 1)) ∧ (decode cX12_readTerms 11 = .ok (.iconst 0, 1)) ∧ (decode cX12_readTerms 12 = .ok (.putfield 364, 3)) ∧ (decode cX12_readTerms 15 = .ok (.aload_n 0, 1)) ∧ (decode cX12_readTerms 16 = .ok (.iconst 0, 1)) ∧ (decode cX12_readTerms 17 = .ok (.putfield 361, 3)) ∧ (decode cX12_readTerms 20 = .ok (.aload_n 0, 1)) ∧ (decode cX12_readTerms 21 = .ok (.iconst 0, 1)) := by decide +kernel
theorem kd53_60 : (decode cX12_readTerms 22 = .ok (.putfield 313, 3)) ∧ (decode cX12_readTerms 25 = .ok (.aload_n 0, 1)) ∧ (decode cX12_readTerms 26 = .ok (.iconst 0, 1)) ∧ (decode cX12_readTerms 27 = .ok (.putfield 336, 3)) ∧ (decode cX12_readTerms 30 = .ok (.aload_n 0, 1)) ∧ (decode cX12_readTerms 31 = .ok (.iconst 0, 1)) ∧ (decode cX12_readTerms 32 = .ok (.putfield 339, 3)) ∧ (decode cX12_readTerms 35 = .ok (.aload_n 0, 1)) ∧ (decode cX12_readTerms 36 = .ok (.iconst 0, 1)) ∧ (decode cX12_readTerms 37 = .ok (.putfield 256, 3)) ∧ (decode cX12_readTerms 40 = .ok (.aload_n 0, 1)) ∧ (decode cX12_readTerms 41 = .ok (.invokevirtual 342, 3)) := by decide +kernel
theorem kd53_61 : (decode cX12_readTerms 44 = .ok (.aload_n 0, 1)) ∧ (decode cX12_readTerms 45 = .ok (.getfield 262, 3)) ∧ (decode cX12_readTerms 48 = .ok (.ifCond .eq 19, 3)) ∧ (decode cX12_readTerms 51 = .ok (.aload_n 0, 1)) ∧ (decode cX12_readTerms 52 = .ok (.invokevirtual 370, 3)) ∧ (decode cX12_readTerms 55 = .ok (.ifCond .ne 5, 3)) ∧ (decode cX12_readTerms 58 = .ok (.iconst 0, 1)) ∧ (decode cX12_readTerms 59 = .ok (.ireturn, 1)) ∧ (decode cX12_readTerms 60 = .ok (.aload_n 0, 1)) ∧ (decode cX12_readTerms 61 = .ok (.invokevirtual 342, 3)) ∧ (decode cX12_readTerms 64 = .ok (.goto (-20), 3)) ∧ (decode cX12_readTerms 67 = .ok (.aload_n 0, 1)) := by decide +kernel
theorem kd53_62 : (decode cX12_readTerms 68 = .ok (.getfield 50, 3)) ∧ (decode cX12_readTerms 71 = .ok (.bipush 10, 2)) ∧ (decode cX12_readTerms 73 = .ok (.aload_n 0, 1)) ∧ (decode cX12_readTerms 74 = .ok (.getfield 361, 3)) ∧ (decode cX12_readTerms 77 = .ok (.iastore, 1)) ∧ (decode cX12_readTerms 78 = .ok (.iconst 1, 1)) ∧ (decode cX12_readTerms 79 = .ok (.ireturn, 1)) ∧ (decode cX12_tells 0 = .ok (.aload_n 0, 1)) ∧ (decode cX12_tells 1 = .ok (.iconst (-1), 1)) ∧ (decode cX12_tells 2 = .ok (.putfield 86, 3)) ∧ (decode cX12_tells 5 = .ok (.iconst 0, 1)) ∧ (decode cX12_tells 6 = .ok (.istore_n 3, 1)) := by decide +kernel
theorem kd53_63 : (decode cX12_tells 7 = .ok (.iload_n 1, 1)) ∧ (decode cX12_tells 8 = .ok (.iconst (-1), 1)) ∧ (decode cX12_tells 9 = .ok (.if_icmp .eq 76, 3)) ∧ (decode cX12_tells 12 = .ok (.iload_n 3, 1)) ∧ (decode cX12_tells 13 = .ok (.aload_n 0, 1)) ∧ (decode cX12_tells 14 = .ok (.getfield 50, 3)) ∧ (decode cX12_tells 17 = .ok (.iload_n 1, 1)) ∧ (decode cX12_tells 18 = .ok (.iaload, 1)) ∧ (decode cX12_tells 19 = .ok (.if_icmp .ge 66, 3)) ∧ (decode cX12_tells 22 = .ok (.bipush 16, 2)) ∧ (decode cX12_tells 24 = .ok (.iload_n 1, 1)) ∧ (decode cX12_tells 25 = .ok (.imul, 1)) := by decide +kernel
theorem kd53_64 : (decode cX12_tells 26 = .ok (.iload_n 3, 1)) ∧ (decode cX12_tells 27 = .ok (.iadd, 1)) ∧ (decode cX12_tells 28 = .ok (.istore 4, 2)) ∧ (decode cX12_tells 30 = .ok (.aload_n 0, 1)) ∧ (decode cX12_tells 31 = .ok (.getfield 56, 3)) ∧ (decode cX12_tells 34 = .ok (.iload 4, 2)) ∧ (decode cX12_tells 36 = .ok (.iaload, 1)) ∧ (decode cX12_tells 37 = .ok (.iload_n 2, 1)) ∧ (decode cX12_tells 38 = .ok (.if_icmp .ne 41, 3)) ∧ (decode cX12_tells 41 = .ok (.aload_n 0, 1)) ∧ (decode cX12_tells 42 = .ok (.iload_n 1, 1)) ∧ (decode cX12_tells 43 = .ok (.aload_n 0, 1)) := by decide +kernel
theorem kd53_65 : (decode cX12_tells 44 = .ok (.getfield 62, 3)) ∧ (decode cX12_tells 47 = .ok (.iload 4, 2)) ∧ (decode cX12_tells 49 = .ok (.iaload, 1)) ∧ (decode cX12_tells 50 = .ok (.aload_n 0, 1)) ∧ (decode cX12_tells 51 = .ok (.getfield 65, 3)) ∧ (decode cX12_tells 54 = .ok (.iload 4, 2)) ∧ (decode cX12_tells 56 = .ok (.iaload, 1)) ∧ (decode cX12_tells 57 = .ok (.invokevirtual 379, 3)) ∧ (decode cX12_tells 60 = .ok (.ifCond .ne 6, 3)) ∧ (decode cX12_tells 63 = .ok (.goto 16, 3)) ∧ (decode cX12_tells 66 = .ok (.aload_n 0, 1)) ∧ (decode cX12_tells 67 = .ok (.iload_n 3, 1)) := by decide +kernel
theorem kd53_66 : (decode cX12_tells 68 = .ok (.putfield 86, 3)) ∧ (decode cX12_tells 71 = .ok (.aload_n 0, 1)) ∧ (decode cX12_tells 72 = .ok (.getfield 59, 3)) ∧ (decode cX12_tells 75 = .ok (.iload 4, 2)) ∧ (decode cX12_tells 77 = .ok (.iaload, 1)) ∧ (decode cX12_tells 78 = .ok (.ireturn, 1)) ∧ (decode cX12_tells 79 = .ok (.iinc 3 1, 3)) ∧ (decode cX12_tells 82 = .ok (.goto (-75), 3)) ∧ (decode cX12_tells 85 = .ok (.iload_n 2, 1)) ∧ (decode cX12_tells 86 = .ok (.invokestatic 382, 3)) ∧ (decode cX12_tells 89 = .ok (.ireturn, 1)) ∧ (decode cX12_terms 0 = .ok (.aload_n 0, 1)) := by decide +kernel
theorem kd53_67 : (decode cX12_terms 1 = .ok (.iconst 0, 1)) ∧ (decode cX12_terms 2 = .ok (.putfield 198, 3)) ∧ (decode cX12_terms 5 = .ok (.aload_n 0, 1)) ∧ (decode cX12_terms 6 = .ok (.invokevirtual 222, 3)) ∧ (decode cX12_terms 9 = .ok (.istore_n 2, 1)) ∧ (decode cX12_terms 10 = .ok (.aload_n 0, 1)) ∧ (decode cX12_terms 11 = .ok (.getfield 373, 3)) ∧ (decode cX12_terms 14 = .ok (.bipush 10, 2)) ∧ (decode cX12_terms 16 = .ok (.if_icmp .eq 17, 3)) ∧ (decode cX12_terms 19 = .ok (.iload_n 1, 1)) ∧ (decode cX12_terms 20 = .ok (.aload_n 0, 1)) ∧ (decode cX12_terms 21 = .ok (.getfield 239, 3)) := by decide +kernel
theorem kd53_68 : (decode cX12_terms 24 = .ok (.sipush 399, 3)) ∧ (decode cX12_terms 27 = .ok (.invokestatic 211, 3)) ∧ (decode cX12_terms 30 = .ok (.ifCond .ne 7, 3)) ∧ (decode cX12_terms 33 = .ok (.sipush (-1000), 3)) ∧ (decode cX12_terms 36 = .ok (.ireturn, 1)) ∧ (decode cX12_terms 37 = .ok (.aload_n 0, 1)) ∧ (decode cX12_terms 38 = .ok (.iload_n 2, 1)) ∧ (decode cX12_terms 39 = .ok (.invokevirtual 376, 3)) ∧ (decode cX12_terms 42 = .ok (.ifCond .ne 10, 3)) ∧ (decode cX12_terms 45 = .ok (.iconst (-1), 1)) ∧ (decode cX12_terms 46 = .ok (.aload_n 0, 1)) ∧ (decode cX12_terms 47 = .ok (.getfield 294, 3)) := by decide +kernel
theorem kd53_69 : (decode cX12_terms 50 = .ok (.isub, 1)) ∧ (decode cX12_terms 51 = .ok (.ireturn, 1)) ∧ (decode cX12_terms 52 = .ok (.aload_n 0, 1)) ∧ (decode cX12_terms 53 = .ok (.getfield 50, 3)) ∧ (decode cX12_terms 56 = .ok (.aload_n 0, 1)) ∧ (decode cX12_terms 57 = .ok (.getfield 373, 3)) ∧ (decode cX12_terms 60 = .ok (.aload_n 0, 1)) ∧ (decode cX12_terms 61 = .ok (.getfield 361, 3)) ∧ (decode cX12_terms 64 = .ok (.iastore, 1)) ∧ (decode cX12_terms 65 = .ok (.aload_n 0, 1)) ∧ (decode cX12_terms 66 = .ok (.getfield 53, 3)) ∧ (decode cX12_terms 69 = .ok (.aload_n 0, 1)) := by decide +kernel
theorem kd53_70 : (decode cX12_terms 70 = .ok (.getfield 373, 3)) ∧ (decode cX12_terms 73 = .ok (.iload_n 1, 1)) ∧ (decode cX12_terms 74 = .ok (.iastore, 1)) ∧ (decode cX12_terms 75 = .ok (.iconst 0, 1)) ∧ (decode cX12_terms 76 = .ok (.istore_n 3, 1)) ∧ (decode cX12_terms 77 = .ok (.iload_n 3, 1)) ∧ (decode cX12_terms 78 = .ok (.aload_n 0, 1)) ∧ (decode cX12_terms 79 = .ok (.getfield 361, 3)) ∧ (decode cX12_terms 82 = .ok (.if_icmp .ge 105, 3)) ∧ (decode cX12_terms 85 = .ok (.aload_n 0, 1)) ∧ (decode cX12_terms 86 = .ok (.getfield 56, 3)) ∧ (decode cX12_terms 89 = .ok (.bipush 16, 2)) := by decide +kernel
theorem kd53_71 : (decode cX12_terms 91 = .ok (.aload_n 0, 1)) ∧ (decode cX12_terms 92 = .ok (.getfield 373, 3)) ∧ (decode cX12_terms 95 = .ok (.imul, 1)) ∧ (decode cX12_terms 96 = .ok (.iload_n 3, 1)) ∧ (decode cX12_terms 97 = .ok (.iadd, 1)) ∧ (decode cX12_terms 98 = .ok (.aload_n 0, 1)) ∧ (decode cX12_terms 99 = .ok (.getfield 56, 3)) ∧ (decode cX12_terms 102 = .ok (.sipush 160, 3)) ∧ (decode cX12_terms 105 = .ok (.iload_n 3, 1)) ∧ (decode cX12_terms 106 = .ok (.iadd, 1)) ∧ (decode cX12_terms 107 = .ok (.iaload, 1)) ∧ (decode cX12_terms 108 = .ok (.iastore, 1)) := by decide +kernel
theorem kd53_72 : (decode cX12_terms 109 = .ok (.aload_n 0, 1)) ∧ (decode cX12_terms 110 = .ok (.getfield 59, 3)) ∧ (decode cX12_terms 113 = .ok (.bipush 16, 2)) ∧ (decode cX12_terms 115 = .ok (.aload_n 0, 1)) ∧ (decode cX12_terms 116 = .ok (.getfield 373, 3)) ∧ (decode cX12_terms 119 = .ok (.imul, 1)) ∧ (decode cX12_terms 120 = .ok (.iload_n 3, 1)) ∧ (decode cX12_terms 121 = .ok (.iadd, 1)) ∧ (decode cX12_terms 122 = .ok (.aload_n 0, 1)) ∧ (decode cX12_terms 123 = .ok (.getfield 59, 3)) ∧ (decode cX12_terms 126 = .ok (.sipush 160, 3)) ∧ (decode cX12_terms 129 = .ok (.iload_n 3, 1)) := by decide +kernel
theorem kd53_73 : (decode cX12_terms 130 = .ok (.iadd, 1)) ∧ (decode cX12_terms 131 = .ok (.iaload, 1)) ∧ (decode cX12_terms 132 = .ok (.iastore, 1)) ∧ (decode cX12_terms 133 = .ok (.aload_n 0, 1)) ∧ (decode cX12_terms 134 = .ok (.getfield 62, 3)) ∧ (decode cX12_terms 137 = .ok (.bipush 16, 2)) ∧ (decode cX12_terms 139 = .ok (.aload_n 0, 1)) ∧ (decode cX12_terms 140 = .ok (.getfield 373, 3)) ∧ (decode cX12_terms 143 = .ok (.imul, 1)) ∧ (decode cX12_terms 144 = .ok (.iload_n 3, 1)) ∧ (decode cX12_terms 145 = .ok (.iadd, 1)) ∧ (decode cX12_terms 146 = .ok (.aload_n 0, 1)) := by decide +kernel
theorem kd53_74 : (decode cX12_terms 147 = .ok (.getfield 62, 3)) ∧ (decode cX12_terms 150 = .ok (.sipush 160, 3)) ∧ (decode cX12_terms 153 = .ok (.iload_n 3, 1)) ∧ (decode cX12_terms 154 = .ok (.iadd, 1)) ∧ (decode cX12_terms 155 = .ok (.iaload, 1)) ∧ (decode cX12_terms 156 = .ok (.iastore, 1)) ∧ (decode cX12_terms 157 = .ok (.aload_n 0, 1)) ∧ (decode cX12_terms 158 = .ok (.getfield 65, 3)) ∧ (decode cX12_terms 161 = .ok (.bipush 16, 2)) ∧ (decode cX12_terms 163 = .ok (.aload_n 0, 1)) ∧ (decode cX12_terms 164 = .ok (.getfield 373, 3)) ∧ (decode cX12_terms 167 = .ok (.imul, 1)) := by decide +kernel
theorem kd53_75 : (decode cX12_terms 168 = .ok (.iload_n 3, 1)) ∧ (decode cX12_terms 169 = .ok (.iadd, 1)) ∧ (decode cX12_terms 170 = .ok (.aload_n 0, 1)) ∧ (decode cX12_terms 171 = .ok (.getfield 65, 3)) ∧ (decode cX12_terms 174 = .ok (.sipush 160, 3)) ∧ (decode cX12_terms 177 = .ok (.iload_n 3, 1)) ∧ (decode cX12_terms 178 = .ok (.iadd, 1)) ∧ (decode cX12_terms 179 = .ok (.iaload, 1)) ∧ (decode cX12_terms 180 = .ok (.iastore, 1)) ∧ (decode cX12_terms 181 = .ok (.iinc 3 1, 3)) ∧ (decode cX12_terms 184 = .ok (.goto (-107), 3)) ∧ (decode cX12_terms 187 = .ok (.iconst 0, 1)) := by decide +kernel
theorem kd53_76 : (decode cX12_terms 188 = .ok (.istore_n 3, 1)) ∧ (decode cX12_terms 189 = .ok (.iload_n 3, 1)) ∧ (decode cX12_terms 190 = .ok (.aload_n 0, 1)) ∧ (decode cX12_terms 191 = .ok (.getfield 313, 3)) ∧ (decode cX12_terms 194 = .ok (.if_icmp .ge 81, 3)) ∧ (decode cX12_terms 197 = .ok (.aload_n 0, 1)) ∧ (decode cX12_terms 198 = .ok (.getfield 68, 3)) ∧ (decode cX12_terms 201 = .ok (.bipush 120, 2)) ∧ (decode cX12_terms 203 = .ok (.aload_n 0, 1)) ∧ (decode cX12_terms 204 = .ok (.getfield 373, 3)) ∧ (decode cX12_terms 207 = .ok (.imul, 1)) ∧ (decode cX12_terms 208 = .ok (.iload_n 3, 1)) := by decide +kernel
theorem kd53_77 : (decode cX12_terms 209 = .ok (.iadd, 1)) ∧ (decode cX12_terms 210 = .ok (.aload_n 0, 1)) ∧ (decode cX12_terms 211 = .ok (.getfield 68, 3)) ∧ (decode cX12_terms 214 = .ok (.sipush 1200, 3)) ∧ (decode cX12_terms 217 = .ok (.iload_n 3, 1)) ∧ (decode cX12_terms 218 = .ok (.iadd, 1)) ∧ (decode cX12_terms 219 = .ok (.iaload, 1)) ∧ (decode cX12_terms 220 = .ok (.iastore, 1)) ∧ (decode cX12_terms 221 = .ok (.aload_n 0, 1)) ∧ (decode cX12_terms 222 = .ok (.getfield 71, 3)) ∧ (decode cX12_terms 225 = .ok (.bipush 120, 2)) ∧ (decode cX12_terms 227 = .ok (.aload_n 0, 1)) := by decide +kernel
theorem kd53_78 : (decode cX12_terms 228 = .ok (.getfield 373, 3)) ∧ (decode cX12_terms 231 = .ok (.imul, 1)) ∧ (decode cX12_terms 232 = .ok (.iload_n 3, 1)) ∧ (decode cX12_terms 233 = .ok (.iadd, 1)) ∧ (decode cX12_terms 234 = .ok (.aload_n 0, 1)) ∧ (decode cX12_terms 235 = .ok (.getfield 71, 3)) ∧ (decode cX12_terms 238 = .ok (.sipush 1200, 3)) ∧ (decode cX12_terms 241 = .ok (.iload_n 3, 1)) ∧ (decode cX12_terms 242 = .ok (.iadd, 1)) ∧ (decode cX12_terms 243 = .ok (.iaload, 1)) ∧ (decode cX12_terms 244 = .ok (.iastore, 1)) ∧ (decode cX12_terms 245 = .ok (.aload_n 0, 1)) := by decide +kernel
theorem kd53_79 : (decode cX12_terms 246 = .ok (.getfield 74, 3)) ∧ (decode cX12_terms 249 = .ok (.bipush 120, 2)) ∧ (decode cX12_terms 251 = .ok (.aload_n 0, 1)) ∧ (decode cX12_terms 252 = .ok (.getfield 373, 3)) ∧ (decode cX12_terms 255 = .ok (.imul, 1)) ∧ (decode cX12_terms 256 = .ok (.iload_n 3, 1)) ∧ (decode cX12_terms 257 = .ok (.iadd, 1)) ∧ (decode cX12_terms 258 = .ok (.aload_n 0, 1)) ∧ (decode cX12_terms 259 = .ok (.getfield 74, 3)) ∧ (decode cX12_terms 262 = .ok (.sipush 1200, 3)) ∧ (decode cX12_terms 265 = .ok (.iload_n 3, 1)) ∧ (decode cX12_terms 266 = .ok (.iadd, 1)) := by decide +kernel
theorem kd53_80 : (decode cX12_terms 267 = .ok (.iaload, 1)) ∧ (decode cX12_terms 268 = .ok (.iastore, 1)) ∧ (decode cX12_terms 269 = .ok (.iinc 3 1, 3)) ∧ (decode cX12_terms 272 = .ok (.goto (-83), 3)) ∧ (decode cX12_terms 275 = .ok (.aload_n 0, 1)) ∧ (decode cX12_terms 276 = .ok (.dup, 1)) ∧ (decode cX12_terms 277 = .ok (.getfield 373, 3)) ∧ (decode cX12_terms 280 = .ok (.iconst 1, 1)) ∧ (decode cX12_terms 281 = .ok (.iadd, 1)) ∧ (decode cX12_terms 282 = .ok (.putfield 373, 3)) ∧ (decode cX12_terms 285 = .ok (.aload_n 0, 1)) ∧ (decode cX12_terms 286 = .ok (.getfield 361, 3)) := by decide +kernel
theorem kd53_81 : (decode cX12_terms 289 = .ok (.ireturn, 1)) ∧ (decode cX12_told 0 = .ok (.aload_n 0, 1)) ∧ (decode cX12_told 1 = .ok (.iconst 0, 1)) ∧ (decode cX12_told 2 = .ok (.putfield 198, 3)) ∧ (decode cX12_told 5 = .ok (.iload_n 1, 1)) ∧ (decode cX12_told 6 = .ok (.iconst 0, 1)) ∧ (decode cX12_told 7 = .ok (.aload_n 0, 1)) ∧ (decode cX12_told 8 = .ok (.getfield 389, 3)) ∧ (decode cX12_told 11 = .ok (.iconst 1, 1)) ∧ (decode cX12_told 12 = .ok (.isub, 1)) ∧ (decode cX12_told 13 = .ok (.invokestatic 211, 3)) ∧ (decode cX12_told 16 = .ok (.ifCond .eq 12, 3)) := by decide +kernel
theorem kd53_82 : (decode cX12_told 19 = .ok (.iload_n 2, 1)) ∧ (decode cX12_told 20 = .ok (.iconst 0, 1)) ∧ (decode cX12_told 21 = .ok (.iconst 5, 1)) ∧ (decode cX12_told 22 = .ok (.invokestatic 211, 3)) ∧ (decode cX12_told 25 = .ok (.ifCond .ne 5, 3)) ∧ (decode cX12_told 28 = .ok (.iconst (-1), 1)) ∧ (decode cX12_told 29 = .ok (.ireturn, 1)) ∧ (decode cX12_told 30 = .ok (.aload_n 0, 1)) ∧ (decode cX12_told 31 = .ok (.iload_n 1, 1)) ∧ (decode cX12_told 32 = .ok (.invokevirtual 402, 3)) ∧ (decode cX12_told 35 = .ok (.aload_n 0, 1)) ∧ (decode cX12_told 36 = .ok (.aload_n 0, 1)) := by decide +kernel
theorem kd53_83 : (decode cX12_told 37 = .ok (.aload_n 0, 1)) ∧ (decode cX12_told 38 = .ok (.getfield 105, 3)) ∧ (decode cX12_told 41 = .ok (.iload_n 1, 1)) ∧ (decode cX12_told 42 = .ok (.iaload, 1)) ∧ (decode cX12_told 43 = .ok (.invokevirtual 392, 3)) ∧ (decode cX12_told 46 = .ok (.iload_n 2, 1)) ∧ (decode cX12_told 47 = .ok (.invokevirtual 395, 3)) ∧ (decode cX12_told 50 = .ok (.istore_n 3, 1)) ∧ (decode cX12_told 51 = .ok (.aload_n 0, 1)) ∧ (decode cX12_told 52 = .ok (.aload_n 0, 1)) ∧ (decode cX12_told 53 = .ok (.getfield 86, 3)) ∧ (decode cX12_told 56 = .ok (.putfield 120, 3)) := by decide +kernel
theorem kd53_84 : (decode cX12_told 59 = .ok (.iload_n 2, 1)) ∧ (decode cX12_told 60 = .ok (.iconst 2, 1)) ∧ (decode cX12_told 61 = .ok (.if_icmp .ne 14, 3)) ∧ (decode cX12_told 64 = .ok (.iload_n 3, 1)) ∧ (decode cX12_told 65 = .ok (.bipush 100, 2)) ∧ (decode cX12_told 67 = .ok (.if_icmp .le 8, 3)) ∧ (decode cX12_told 70 = .ok (.bipush 100, 2)) ∧ (decode cX12_told 72 = .ok (.goto 4, 3)) ∧ (decode cX12_told 75 = .ok (.iload_n 3, 1)) ∧ (decode cX12_told 76 = .ok (.ireturn, 1)) ∧ (decode cX12_tried 0 = .ok (.aload_n 0, 1)) ∧ (decode cX12_tried 1 = .ok (.iconst 0, 1)) := by decide +kernel
theorem kd53_85 : (decode cX12_tried 2 = .ok (.putfield 198, 3)) ∧ (decode cX12_tried 5 = .ok (.aload_n 0, 1)) ∧ (decode cX12_tried 6 = .ok (.aload_n 0, 1)) ∧ (decode cX12_tried 7 = .ok (.invokevirtual 222, 3)) ∧ (decode cX12_tried 10 = .ok (.invokevirtual 376, 3)) ∧ (decode cX12_tried 13 = .ok (.ifCond .ne 12, 3)) ∧ (decode cX12_tried 16 = .ok (.ldc_w 437, 3)) ∧ (decode cX12_tried 19 = .ok (.aload_n 0, 1)) ∧ (decode cX12_tried 20 = .ok (.getfield 294, 3)) ∧ (decode cX12_tried 23 = .ok (.isub, 1)) ∧ (decode cX12_tried 24 = .ok (.ireturn, 1)) ∧ (decode cX12_tried 25 = .ok (.iconst 0, 1)) := by decide +kernel
theorem kd53_86 : (decode cX12_tried 26 = .ok (.istore_n 1, 1)) ∧ (decode cX12_tried 27 = .ok (.iconst 0, 1)) ∧ (decode cX12_tried 28 = .ok (.istore_n 2, 1)) ∧ (decode cX12_tried 29 = .ok (.iconst 0, 1)) ∧ (decode cX12_tried 30 = .ok (.istore_n 3, 1)) ∧ (decode cX12_tried 31 = .ok (.iload_n 3, 1)) ∧ (decode cX12_tried 32 = .ok (.aload_n 0, 1)) ∧ (decode cX12_tried 33 = .ok (.getfield 239, 3)) ∧ (decode cX12_tried 36 = .ok (.if_icmp .ge 114, 3)) ∧ (decode cX12_tried 39 = .ok (.aload_n 0, 1)) ∧ (decode cX12_tried 40 = .ok (.iload_n 3, 1)) ∧ (decode cX12_tried 41 = .ok (.invokevirtual 438, 3)) := by decide +kernel
theorem kd53_87 : (decode cX12_tried 44 = .ok (.ifCond .ne 6, 3)) ∧ (decode cX12_tried 47 = .ok (.goto 97, 3)) ∧ (decode cX12_tried 50 = .ok (.aload_n 0, 1)) ∧ (decode cX12_tried 51 = .ok (.iload_n 3, 1)) ∧ (decode cX12_tried 52 = .ok (.bipush 10, 2)) ∧ (decode cX12_tried 54 = .ok (.invokevirtual 412, 3)) ∧ (decode cX12_tried 57 = .ok (.iconst 0, 1)) ∧ (decode cX12_tried 58 = .ok (.istore 4, 2)) ∧ (decode cX12_tried 60 = .ok (.iload 4, 2)) ∧ (decode cX12_tried 62 = .ok (.aload_n 0, 1)) ∧ (decode cX12_tried 63 = .ok (.getfield 389, 3)) ∧ (decode cX12_tried 66 = .ok (.if_icmp .ge 78, 3)) := by decide +kernel
theorem kd53_88 : (decode cX12_tried 69 = .ok (.aload_n 0, 1)) ∧ (decode cX12_tried 70 = .ok (.getfield 105, 3)) ∧ (decode cX12_tried 73 = .ok (.iload 4, 2)) ∧ (decode cX12_tried 75 = .ok (.iaload, 1)) ∧ (decode cX12_tried 76 = .ok (.iload_n 3, 1)) ∧ (decode cX12_tried 77 = .ok (.if_icmp .eq 6, 3)) ∧ (decode cX12_tried 80 = .ok (.goto 58, 3)) ∧ (decode cX12_tried 83 = .ok (.iload_n 1, 1)) ∧ (decode cX12_tried 84 = .ok (.aload_n 0, 1)) ∧ (decode cX12_tried 85 = .ok (.iload 4, 2)) ∧ (decode cX12_tried 87 = .ok (.bipush 10, 2)) ∧ (decode cX12_tried 89 = .ok (.invokevirtual 415, 3)) := by decide +kernel
theorem kd53_89 : (decode cX12_tried 92 = .ok (.aload_n 0, 1)) ∧ (decode cX12_tried 93 = .ok (.getfield 99, 3)) ∧ (decode cX12_tried 96 = .ok (.iload 4, 2)) ∧ (decode cX12_tried 98 = .ok (.iaload, 1)) ∧ (decode cX12_tried 99 = .ok (.aload_n 0, 1)) ∧ (decode cX12_tried 100 = .ok (.bipush 10, 2)) ∧ (decode cX12_tried 102 = .ok (.iconst 0, 1)) ∧ (decode cX12_tried 103 = .ok (.invokevirtual 395, 3)) ∧ (decode cX12_tried 106 = .ok (.invokestatic 399, 3)) ∧ (decode cX12_tried 109 = .ok (.isub, 1)) ∧ (decode cX12_tried 110 = .ok (.iadd, 1)) ∧ (decode cX12_tried 111 = .ok (.istore_n 1, 1)) := by decide +kernel
theorem kd53_90 : (decode cX12_tried 112 = .ok (.iload_n 2, 1)) ∧ (decode cX12_tried 113 = .ok (.aload_n 0, 1)) ∧ (decode cX12_tried 114 = .ok (.getfield 99, 3)) ∧ (decode cX12_tried 117 = .ok (.iload 4, 2)) ∧ (decode cX12_tried 119 = .ok (.iaload, 1)) ∧ (decode cX12_tried 120 = .ok (.aload_n 0, 1)) ∧ (decode cX12_tried 121 = .ok (.getfield 123, 3)) ∧ (decode cX12_tried 124 = .ok (.iload 4, 2)) ∧ (decode cX12_tried 126 = .ok (.iaload, 1)) ∧ (decode cX12_tried 127 = .ok (.isub, 1)) ∧ (decode cX12_tried 128 = .ok (.aload_n 0, 1)) ∧ (decode cX12_tried 129 = .ok (.getfield 126, 3)) := by decide +kernel
theorem kd53_91 : (decode cX12_tried 132 = .ok (.iload 4, 2)) ∧ (decode cX12_tried 134 = .ok (.iaload, 1)) ∧ (decode cX12_tried 135 = .ok (.isub, 1)) ∧ (decode cX12_tried 136 = .ok (.iadd, 1)) ∧ (decode cX12_tried 137 = .ok (.istore_n 2, 1)) ∧ (decode cX12_tried 138 = .ok (.iinc 4 1, 3)) ∧ (decode cX12_tried 141 = .ok (.goto (-81), 3)) ∧ (decode cX12_tried 144 = .ok (.iinc 3 1, 3)) ∧ (decode cX12_tried 147 = .ok (.goto (-116), 3)) ∧ (decode cX12_tried 150 = .ok (.aload_n 0, 1)) ∧ (decode cX12_tried 151 = .ok (.iload_n 2, 1)) ∧ (decode cX12_tried 152 = .ok (.putfield 150, 3)) := by decide +kernel
theorem kd53_92 : (decode cX12_tried 155 = .ok (.iload_n 1, 1)) ∧ (decode cX12_tried 156 = .ok (.ireturn, 1)) := by decide +kernel
theorem fl_X12_123_13 : xF RX12 123 13 60 (.array .int) true := ⟨by decide, RX12, TX12, 91, tyX12, "PaperBoysModel", rfl, inlX12, tyX12_ok, nmX12, by decide, rfl, rfl, m_9_15, Or.inl rfl⟩
theorem fl_X12_126_13 : xF RX12 126 13 61 (.array .int) true := ⟨by decide, RX12, TX12, 91, tyX12, "PaperBoysModel", rfl, inlX12, tyX12_ok, nmX12, by decide, rfl, rfl, m_9_16, Or.inl rfl⟩
theorem fl_X12_132_13 : xF RX12 132 13 63 (.array .boolean) true := ⟨by decide, RX12, TX12, 91, tyX12, "PaperBoysModel", rfl, inlX12, tyX12_ok, nmX12, by decide, rfl, rfl, m_9_18, Or.inl rfl⟩
theorem fl_X12_361_13 : xF RX12 361 13 40 .int false := ⟨by decide, RX12, TX12, 91, tyX12, "PaperBoysModel", rfl, inlX12, tyX12_ok, nmX12, by decide, rfl, rfl, m_28_9, Or.inl rfl⟩
theorem fl_X12_364_13 : xF RX12 364 13 27 .int false := ⟨by decide, RX12, TX12, 91, tyX12, "PaperBoysModel", rfl, inlX12, tyX12_ok, nmX12, by decide, rfl, rfl, m_28_17, Or.inl rfl⟩
theorem fl_X12_50_13 : xF RX12 50 13 29 (.array .int) true := ⟨by decide, RX12, TX12, 91, tyX12, "PaperBoysModel", rfl, inlX12, tyX12_ok, nmX12, by decide, rfl, rfl, m_8_15, Or.inl rfl⟩
theorem fl_X12_56_13 : xF RX12 56 13 31 (.array .int) true := ⟨by decide, RX12, TX12, 91, tyX12, "PaperBoysModel", rfl, inlX12, tyX12_ok, nmX12, by decide, rfl, rfl, m_8_17, Or.inl rfl⟩
theorem fl_X12_59_13 : xF RX12 59 13 32 (.array .int) true := ⟨by decide, RX12, TX12, 91, tyX12, "PaperBoysModel", rfl, inlX12, tyX12_ok, nmX12, by decide, rfl, rfl, m_8_18, Or.inl rfl⟩
theorem fl_X12_62_13 : xF RX12 62 13 33 (.array .int) true := ⟨by decide, RX12, TX12, 91, tyX12, "PaperBoysModel", rfl, inlX12, tyX12_ok, nmX12, by decide, rfl, rfl, m_8_19, Or.inl rfl⟩
theorem fl_X12_65_13 : xF RX12 65 13 34 (.array .int) true := ⟨by decide, RX12, TX12, 91, tyX12, "PaperBoysModel", rfl, inlX12, tyX12_ok, nmX12, by decide, rfl, rfl, m_8_20, Or.inl rfl⟩
theorem fl_X12_83_13 : xF RX12 83 13 46 (.array .boolean) true := ⟨by decide, RX12, TX12, 91, tyX12, "PaperBoysModel", rfl, inlX12, tyX12_ok, nmX12, by decide, rfl, rfl, m_9_2, Or.inl rfl⟩
theorem fl_X12_86_13 : xF RX12 86 13 47 .int false := ⟨by decide, RX12, TX12, 91, tyX12, "PaperBoysModel", rfl, inlX12, tyX12_ok, nmX12, by decide, rfl, rfl, m_9_3, Or.inl rfl⟩
theorem lk_X12_358 : xLV RX12 358 yX12_sortAtHand cX12_sortAtHand 1 (some .int) 0 := ⟨m_30_1, m_30_2, m_30_3, m_1_5, m_30_4, by decide +kernel⟩
theorem lk_X12_367 : xLV RX12 367 yX12_readCond cX12_readCond 2 (some .boolean) 0 := ⟨m_30_20, m_30_21, m_30_22, m_1_5, m_30_23, by decide +kernel⟩
theorem lk_X12_370 : xLV RX12 370 yX12_readLine cX12_readLine 3 (some .boolean) 0 := ⟨m_29_21, m_29_22, m_29_23, m_1_5, m_30_0, by decide +kernel⟩
theorem lk_X12_376 : xLV RX12 376 yX12_readTerms cX12_readTerms 2 (some .boolean) 1 := ⟨m_28_11, m_28_12, m_28_13, m_1_5, m_28_14, by decide +kernel⟩
theorem lk_X12_379 : xLV RX12 379 yX12_holds cX12_holds 10 (some .boolean) 3 := ⟨m_36_18, m_36_19, m_36_20, m_1_5, m_36_21, by decide +kernel⟩
theorem lk_X12_382 : xLS RX12 382 yX12_usual cX12_usual 1 (some .int) 1 := ⟨m_36_22, m_36_23, m_1_5, m_37_0, by decide +kernel⟩
theorem lk_X12_392 : xLV RX12 392 yX12_termsFor cX12_termsFor 4 (some .int) 1 := ⟨m_36_10, m_36_11, m_36_12, m_1_5, m_36_13, by decide +kernel⟩
theorem lk_X12_395 : xLV RX12 395 yX12_tells cX12_tells 5 (some .int) 2 := ⟨m_36_14, m_36_15, m_36_16, m_1_5, m_36_17, by decide +kernel⟩
theorem lk_X12_402 : xLV RX12 402 yX12_askOf cX12_askOf 2 none 1 := ⟨m_37_22, m_37_23, m_38_0, m_1_5, m_38_1, by decide +kernel⟩
theorem lk_X12_405 : xLV RX12 405 yX12_firstAt cX12_firstAt 5 (some .int) 2 := ⟨m_41_0, m_41_1, m_41_2, m_1_5, m_41_3, by decide +kernel⟩
theorem lk_X12_412 : xLV RX12 412 yX12_cry cX12_cry 9 none 2 := ⟨m_40_20, m_40_21, m_40_22, m_1_5, m_40_23, by decide +kernel⟩
theorem lk_X12_415 : xLV RX12 415 yX12_comes cX12_comes 3 (some .int) 2 := ⟨m_41_8, m_41_9, m_41_10, m_1_5, m_41_11, by decide +kernel⟩
theorem lk_X12_438 : xLV RX12 438 yX12_isBought cX12_isBought 3 (some .boolean) 1 := ⟨m_48_12, m_48_13, m_48_14, m_1_5, m_48_15, by decide +kernel⟩
theorem xRl.cg {cf ct p cf' ct' p' : Int → Int} {nl np : Int} (h : xRl cf ct p nl np) (h1 : ∀ i, 160 ≤ i → cf' i = cf i) (h2 : ∀ i, 160 ≤ i → ct' i = ct i) (h3 : ∀ i, 1200 ≤ i → p' i = p i) : xRl cf' ct' p' nl np := fun k q1 q2 => by
  rw [h1 _ (by omega), h2 _ (by omega)]
  obtain ⟨r1, r2, r3, r4⟩ := h k q1 q2
  refine ⟨r1, r2, r3, ?_⟩
  rw [xhf_cg (p := p) (F := 1200 + cf (160 + k)) (fun i hi => h3 _ (by omega))]
  exact r4
def xTa (n : Int) (lo cf ct p : Int → Int) : Prop := ∀ t, 0 ≤ t → t < n → xTr lo cf ct p t
theorem xTa.low {lo cf ct p lo' cf' ct' p' : Int → Int} {n : Int} (h : xTa n lo cf ct p) (hn : n ≤ 10) (hk : ∀ t, 0 ≤ t → t < 11 → lo t ≤ 16) (h1 : xLow 10 lo' lo) (h2 : xLow 160 cf' cf) (h3 : xLow 160 ct' ct) (h4 : xLow 1200 p' p) : xTa n lo' cf' ct' p' := fun t q1 q2 =>
  (h t q1 q2).low (by omega) (h1 t q1 (by omega)) (hk t q1 (by omega)) (fun k r1 r2 => h2 _ (by omega) (by omega)) (fun k r1 r2 => h3 _ (by omega) (by omega)) (fun k r1 r2 => h4 _ (by omega) (by omega))
theorem xTa.new {lo cf ct p lo' cf' ct' p' : Int → Int} {n l a : Int} (h : xTa n lo cf ct p) (hn : 0 ≤ n ∧ n < 10) (hk : ∀ t, 0 ≤ t → t < 11 → lo t ≤ 16) (R : xRl cf ct p l a) (ha : a ≤ 120) (hl : l ≤ 16) (o1 : ∀ t, 0 ≤ t → t ≠ n → lo' t = lo t) (o2 : lo' n = l) (c1 : ∀ i, 0 ≤ i → i < 16 * n ∨ 160 ≤ i → cf' i = cf i) (c2 : ∀ k, 0 ≤ k → k < l → cf' (16 * n + k) = cf (160 + k)) (d1 : ∀ i, 0 ≤ i → i < 16 * n ∨ 160 ≤ i → ct' i = ct i) (d2 : ∀ k, 0 ≤ k → k < l → ct' (16 * n + k) = ct (160 + k)) (e1 : ∀ i, 0 ≤ i → i < 120 * n ∨ 1200 ≤ i → p' i = p i) (e2 : ∀ k, 0 ≤ k → k < a → p' (120 * n + k) = p (1200 + k)) : xTa (n + 1) lo' cf' ct' p' := fun t q1 q2 => by
  by_cases e : t = n
  · subst e
    refine xRl.new (nl := l) (np := a) (R.cg (fun i r => c1 i (by omega) (Or.inr r)) (fun i r => d1 i (by omega) (Or.inr r)) (fun i r => e1 i (by omega) (Or.inr r))) ha o2 (fun k r1 r2 => ?_) (fun k r1 r2 => ?_) (fun k r1 r2 => ?_)
    · rw [c2 k r1 r2, c1 _ (by omega) (Or.inr (by omega))]
    · rw [d2 k r1 r2, d1 _ (by omega) (Or.inr (by omega))]
    · rw [e2 k r1 r2, e1 _ (by omega) (Or.inr (by omega))]
  · exact (h t q1 (by omega)).low (by omega) (o1 t q1 e) (hk t q1 (by omega)) (fun k r1 r2 => c1 _ (by omega) (Or.inl (by omega))) (fun k r1 r2 => d1 _ (by omega) (Or.inl (by omega))) (fun k r1 r2 => e1 _ (by omega) (Or.inl (by omega)))
def xTq (lo cf ct p : Int → Int) (t : Int) : Prop := t = -1 ∨ xTr lo cf ct p t
theorem xTa.q {lo cf ct p : Int → Int} {n t : Int} (h : xTa n lo cf ct p) (h1 : -1 ≤ t) (h2 : t < n) : xTq lo cf ct p t := by
  by_cases e : t = -1
  · exact Or.inl e
  · exact Or.inr (h t (by omega) h2)
def xTw (S : xT) (g : xG) (a : Nat) : Prop := ∃ (lo cf ct p : Nat) (n : Int), S a = some (13, 0) ∧ g a 29 = .ref lo ∧ S lo = some (15300, 11) ∧ g a 33 = .ref cf ∧ S cf = some (15700, 176) ∧ g a 34 = .ref ct ∧ S ct = some (15800, 176) ∧ g a 35 = .ref p ∧ S p = some (15900, 1320) ∧ g a 39 = .int (iI n) ∧ 0 ≤ n ∧ n ≤ 10 ∧ xTa n (xv g lo) (xv g cf) (xv g ct) (xv g p)
def xuc (f : Int → Int) : Nat := xct (fun k => decide (f k = 0)) 200
theorem xuc_s {f f' : Int → Int} {j : Int} (hj : 0 ≤ j ∧ j < 200) (h0 : f j = 0) (h1 : f' j = 1) (h : ∀ i, 0 ≤ i → i ≠ j → f' i = f i) : xuc f = xuc f' + 1 := by
  have e : ((j.toNat : Nat) : Int) = j := by omega
  exact xct_up (j := j.toNat) (by omega) (by simp only [e, h1]; rfl) (by simp only [e, h0]; rfl) (fun k hk hn => by simp only [h k (by omega) (by omega)])
def xSrt (c r : Int) : Prop := (0 ≤ c ∧ c < 6 ∧ r = c) ∨ (6 ≤ c ∧ r = -1)
theorem xSrt.no {c r : Int} (h : xSrt c r) (e : r = -1) : 6 ≤ c := by unfold xSrt at h; omega
theorem xSrt.yes {c r : Int} (h : xSrt c r) (e : r ≠ -1) : c = r ∧ 0 ≤ c ∧ c < 6 := by unfold xSrt at h; omega
def xIf9 (z : Int) (P : Prop) : Prop := z = 1 ↔ P
theorem xIf9.y {z : Int} {P : Prop} (h : xIf9 z P) (e : z = 1) : P := h.mp e
theorem xIf9.n {z : Int} {P : Prop} (h : xIf9 z P) (e : z ≠ 1) : ¬ P := fun q => e (h.mpr q)
def xn51 (s t : Int) : Prop := ¬ (s = 5 ∧ t = 1)
def xow9 (s t : Int) : Int := if s = 5 then 1 else t
theorem xand1 {t z : Int} (e : iI t &&& iI 1 = iI z) (hz : -2147483648 ≤ z ∧ z ≤ 2147483647) (ht : 0 ≤ t ∧ t ≤ 1) : z = t := by
  have b := xandB e hz (by omega)
  rcases (show t = 0 ∨ t = 1 by omega) with q | q <;> subst q <;> rcases (show z = 0 ∨ z = 1 by omega) with p | p <;> subst p
  · rfl
  · exact absurd e (by decide +kernel)
  · exact absurd e (by decide +kernel)
  · rfl
def xLO (g : xG) (m : Nat) (f : Int → Int) (n b k nm sg fr to a0 o0 nl ow o1 nl1 ow1 c : Int) : Prop := (b = 1 → g m 25 = .int (iI 0) ∧ xHk g m f n k nm sg fr to (fun a8 => xtk f n a8 = 24 ∧ c = 0 ∧ xLn (xtk f n) (xtl f n) a0 o0 nl ow 0 (a8 + 1) o1 nl1 ow1 0)) ∧ (b = 0 → ∃ F q : Int, (1 ≤ F ∧ F ≤ 4) ∧ g m 25 = .int (iI F) ∧ g m 26 = .int (iI q) ∧ (0 ≤ q ∧ q ≤ 420) ∧ xLn (xtk f n) (xtl f n) a0 o0 nl ow F 0 0 0 0 q)
theorem xLn.l6 {tk tl : Int → Int} {a o nl ow F a1 o1 nl1 ow1 q : Int} (h : xLn tk tl a o nl ow F a1 o1 nl1 ow1 q) (e : F = 0) : tk a < 6 := by
  rcases h with ⟨x1, x2, x3⟩ | ⟨x1, x2, x3⟩ | ⟨x1, x2, x3⟩
  · omega
  · exact x1
  · exact x1
theorem xLn.f6 {tk tl : Int → Int} {a o nl ow F a1 o1 nl1 ow1 q : Int} (h : xLn tk tl a o nl ow F a1 o1 nl1 ow1 q) (e : 6 ≤ tk a) : F = 1 ∧ q = tl a := by
  rcases h with ⟨x1, x2, x3⟩ | ⟨x1, x2, x3⟩ | ⟨x1, x2, x3⟩
  · exact ⟨x2, x3⟩
  · omega
  · omega
theorem xTX.done {f : Int → Int} {n a o nl ow k nm sg fr to : Int} {w : Int64} (ti : xTi (xtk f n) (xtl f n) 0 a o nl ow 0) (hd : xHd f n a k nm w sg fr to) (e : k = 0) : xTX f n 0 nl 0 := by
  have s := hd.stop e
  exact ⟨0, _, xTi.e ti (fun _ => s.1), Or.inl ⟨fun q => by omega, rfl, fun q => absurd rfl q⟩⟩
theorem xTX.fail {f : Int → Int} {n a o nl ow k nm sg fr to F q : Int} {w : Int64} (ti : xTi (xtk f n) (xtl f n) 0 a o nl ow 0) (hd : xHd f n a k nm w sg fr to) (hk : k ≠ 0) (ln : xLn (xtk f n) (xtl f n) a o nl ow F 0 0 0 0 q) (hF : 1 ≤ F) : ∃ m, xTX f n F m q := by
  by_cases e : xtk f n a = 23
  · have b := hd.e23 e hk
    obtain ⟨e1, e2⟩ := ln.f6 (by omega)
    refine ⟨nl, 0, _, xTi.e ti (fun _ => e), Or.inr ⟨⟨b, rfl⟩, e1, ?_⟩⟩
    rw [if_pos rfl]
    exact e2
  · have t2 := xTi.s ti rfl e ln
    refine ⟨0, F, _, xTi.e t2 (fun q => by omega), Or.inl ⟨fun q => by omega, rfl, fun _ => ?_⟩⟩
    rw [if_neg (by omega)]
set_option maxHeartbeats 4000000 in
set_option maxRecDepth 100000 in
theorem c_X12_holds (l : Launch) (D : va_G) (kA : Nat → ClassId) (b0 : Nat) (t0 : Nat → Nat) (S : xT) (g : xG) (a0 : Nat) (x1 : Int) (x2 : Int) (x3 : Int) (wp : Nat) (hs_a0 : S a0 = some (13, 0)) (hx1 : 0 ≤ x1 ∧ x1 ≤ 10) (hx2 : 0 ≤ x2 ∧ x2 ≤ 120) (hx3 : 0 ≤ x3 ∧ x3 ≤ 120) (ewp : g a0 35 = .ref wp) (hs_wp : S wp = some (15900, 1320)) (hp0 : x2 ≤ x3) (hp1 : xhf (xv g wp) (120 * x1 + x2) (x3 - x2).toNat ≠ none) : xMt l yX12_holds cX12_holds 10 (some .boolean) 0 0 0 0 D kA b0 t0 [(19401, 0)] [.ref a0, .int (iI x1), .int (iI x2), .int (iI x3)] S g (fun (r : Option Value) (S1 : xT) (g1 : xG) => S = S1 ∧ ∃ z : Int, r = some (.int (iI z)) ∧ 0 ≤ z ∧ z ≤ 1) := by
  refine xEnterZ (by decide) (by simp [lg_sl, Value.category]) [(0, .ref a0), (1, .int (iI x1)), (2, .int (iI x2)), (3, .int (iI x3))] rfl ?_
  intro K E hK hret _ _ _
  refine X_iconst hK kd53_34.2.2.1 ?_
  refine X_istore hK (i := 4) [(4, .int (iI 0)), (0, .ref a0), (1, .int (iI x1)), (2, .int (iI x2)), (3, .int (iI x3))] kd53_34.2.2.2.1 (by decide) rfl ?_
  refine X_iloadn hK (i := 2) 3 kd53_34.2.2.2.2.1 rfl rfl ?_
  refine X_istore hK (i := 5) [(5, .int (iI x2)), (4, .int (iI 0)), (0, .ref a0), (1, .int (iI x1)), (2, .int (iI x2)), (3, .int (iI x3))] kd53_34.2.2.2.2.2.1 (by decide) rfl ?_
  have P305 : ∀ (nP305 : Nat) (g246 : xG) (_ : xM [(19401, 0)] S g g246) (z244 : Int) (_ : 0 ≤ z244) (_ : z244 ≤ 120) (z245 : Int) (_ : 0 ≤ z245) (_ : z245 ≤ 60) (_ : x2 ≤ z244) (_ : z244 ≤ x3) (_ : xhf (xv g wp) (120 * x1 + x2) (z244 - x2).toNat = some (z245 : Int).toNat) (_ : 136 - z244 < (nP305 : Int)), X K E 6 [(5, .int (iI z244)), (4, .int (iI z245)), (0, .ref a0), (1, .int (iI x1)), (2, .int (iI x2)), (3, .int (iI x3))] [] S g246 0 0 := by
    intro nP305
    induction nP305 with
    | zero => intro g246 hg246 z244 lz244 uz244 z245 lz245 uz245 v306 v307 v308 mP305; exact False.elim (by omega)
    | succ nP305 ihP305 =>
      intro g246 hg246 z244 lz244 uz244 z245 lz245 uz245 v306 v307 v308 mP305
      refine X_iload hK (i := 5) 0 kd53_34.2.2.2.2.2.2.1 rfl ?_
      refine X_iloadn hK (i := 3) 5 kd53_34.2.2.2.2.2.2.2.1 rfl rfl ?_
      refine X_icmp_ge hK 284 (by omega) (by omega) kd53_34.2.2.2.2.2.2.2.2.1 (by decide) (fun c309 => ?_) (fun c309 => ?_)
      · refine X_iload hK (i := 4) 1 kd53_46.2.2.2.2.2.2.1 rfl ?_
        refine X_if_eq hK 298 (by omega) kd53_46.2.2.2.2.2.2.2.1 (by decide) (fun c310 => ?_) (fun c310 => ?_)
        · refine X_iconst hK kd53_47.2.1 ?_
          refine X_goto hK 303 kd53_47.2.2.1 (by decide) ?_
          exact hret _ _ _ _ _ _ _ kd53_47.2.2.2.2.1 (by omega) (by omega) ⟨rfl, 1, rfl, (by omega), (by omega)⟩ (Nat.le_refl _) (Nat.le_refl _)
        · refine X_aloadn hK (i := 0) 2 kd53_46.2.2.2.2.2.2.2.2.1 rfl rfl ?_
          refine X_getr hK 19401 64 fl_X12_83_13 hs_a0 sl_13_46 kd53_46.2.2.2.2.2.2.2.2.2.1 (fun b311 eb311 hs_b311 => ?_)
          refine X_iconst hK kd53_46.2.2.2.2.2.2.2.2.2.2.1 ?_
          refine X_zald hK hs_b311 (by decide) sl_19401 (by omega) (by omega) kd53_46.2.2.2.2.2.2.2.2.2.2.2 (fun z312 ez312 lz312 uz312 => ?_)
          refine X_if_eq hK 302 (by omega) kd53_47.1 (by decide) (fun c313 => ?_) (fun c313 => ?_)
          · refine X_iconst hK kd53_47.2.2.2.1 ?_
            exact hret _ _ _ _ _ _ _ kd53_47.2.2.2.2.1 (by omega) (by omega) ⟨rfl, 0, rfl, (by omega), (by omega)⟩ (Nat.le_refl _) (Nat.le_refl _)
          · refine X_iconst hK kd53_47.2.1 ?_
            refine X_goto hK 303 kd53_47.2.2.1 (by decide) ?_
            exact hret _ _ _ _ _ _ _ kd53_47.2.2.2.2.1 (by omega) (by omega) ⟨rfl, 1, rfl, (by omega), (by omega)⟩ (Nat.le_refl _) (Nat.le_refl _)
      · refine X_bipush hK kd53_34.2.2.2.2.2.2.2.2.2.1 (by decide) ?_
        refine X_iloadn hK (i := 1) 3 kd53_34.2.2.2.2.2.2.2.2.2.2.1 rfl rfl ?_
        refine X_imul hK kd53_34.2.2.2.2.2.2.2.2.2.2.2 ?_
        refine X_iload hK (i := 5) 0 kd53_35.1 rfl ?_
        refine X_iadd hK kd53_35.2.1 ?_
        refine X_istore hK (i := 6) [(6, .int (iI ((120 * x1) + z244))), (5, .int (iI z244)), (4, .int (iI z245)), (0, .ref a0), (1, .int (iI x1)), (2, .int (iI x2)), (3, .int (iI x3))] kd53_35.2.2.1 (by decide) rfl ?_
        refine X_aloadn hK (i := 0) 3 kd53_35.2.2.2.1 rfl rfl ?_
        refine X_getK hK fl_X12_68_13 hs_a0 ((hg246 a0 13 0 35 hs_a0 (by decide)).trans ewp) kd53_35.2.2.2.2.1 ?_
        refine X_iload hK (i := 6) 0 kd53_35.2.2.2.2.2.1 rfl ?_
        refine X_iald hK hs_wp (by decide) sl_15900 (by omega) (by omega) kd53_35.2.2.2.2.2.2.1 (fun z314 ez314 lz314 uz314 => ?_)
        have vhx315 : xv g wp (120 * x1 + z244) = z314 := (by have h9 := (xv_e (j := ((120 * x1) + z244)) ez314 (by omega)); rw [(xv_m hg246 hs_wp (by decide) (by decide))] at h9; exact h9)
        have hx315 := xhf_step v308 (xhf_pre hp1 (show (z244 - x2).toNat + 1 ≤ (x3 - x2).toNat by omega))
        rw [show 120 * x1 + x2 + (((z244 - x2).toNat : Nat) : Int) = 120 * x1 + z244 by omega, vhx315, show (z244 - x2).toNat + 1 = (z244 + 1 - x2).toNat by omega] at hx315
        refine X_istore hK (i := 7) [(7, .int (iI z314)), (6, .int (iI ((120 * x1) + z244))), (5, .int (iI z244)), (4, .int (iI z245)), (0, .ref a0), (1, .int (iI x1)), (2, .int (iI x2)), (3, .int (iI x3))] kd53_35.2.2.2.2.2.2.2.1 (by decide) rfl ?_
        refine X_iload hK (i := 7) 0 kd53_35.2.2.2.2.2.2.2.2.1 rfl ?_
        refine X_bipush hK kd53_35.2.2.2.2.2.2.2.2.2.1 (by decide) ?_
        refine X_icmp_ne hK 66 (by omega) (by omega) kd53_35.2.2.2.2.2.2.2.2.2.2.1 (by decide) (fun c316 => ?_) (fun c316 => ?_)
        · refine X_iload hK (i := 7) 0 kd53_37.2.2.2.2.1 rfl ?_
          refine X_bipush hK kd53_37.2.2.2.2.2.1 (by decide) ?_
          refine X_icmp_eq hK 80 (by omega) (by omega) kd53_37.2.2.2.2.2.2.1 (by decide) (fun c317 => ?_) (fun c317 => ?_)
          · refine X_iinc hK (i := 4) (z := z245) (n := (-1)) 3 [(4, .int (iI (z245 + (-1)))), (7, .int (iI z314)), (6, .int (iI ((120 * x1) + z244))), (5, .int (iI z244)), (0, .ref a0), (1, .int (iI x1)), (2, .int (iI x2)), (3, .int (iI x3))] kd53_37.2.2.2.2.2.2.2.2.2.2.1 rfl (by decide) rfl ?_
            refine X_aloadn hK (i := 0) 4 kd53_37.2.2.2.2.2.2.2.2.2.2.2 rfl rfl ?_
            refine X_getr hK 19401 64 fl_X12_83_13 hs_a0 sl_13_46 kd53_38.1 (fun b318 eb318 hs_b318 => ?_)
            refine X_iload hK (i := 4) 0 kd53_38.2.1 rfl ?_
            refine X_iconst hK kd53_38.2.2.1 ?_
            refine X_isub hK kd53_38.2.2.2.1 ?_
            refine X_iload hK (i := 7) 1 kd53_38.2.2.2.2.1 rfl ?_
            refine X_bipush hK kd53_38.2.2.2.2.2.1 (by decide) ?_
            refine X_icmp_ne hK 128 (by omega) (by omega) kd53_38.2.2.2.2.2.2.1 (by decide) (fun c319 => False.elim (by omega)) (fun c319 => ?_)
            refine X_aloadn hK (i := 0) 4 kd53_38.2.2.2.2.2.2.2.1 rfl rfl ?_
            refine X_getK hK fl_X12_83_13 hs_a0 eb318 kd53_38.2.2.2.2.2.2.2.2.1 ?_
            refine X_iload hK (i := 4) 0 kd53_38.2.2.2.2.2.2.2.2.2.1 rfl ?_
            refine X_iconst hK kd53_38.2.2.2.2.2.2.2.2.2.2.1 ?_
            refine X_isub hK kd53_38.2.2.2.2.2.2.2.2.2.2.2 ?_
            refine X_zald hK hs_b318 (by decide) sl_19401 (by omega) (by omega) kd53_39.1 (fun z320 ez320 lz320 uz320 => ?_)
            refine X_if_eq hK 124 (by omega) kd53_39.2.1 (by decide) (fun c321 => ?_) (fun c321 => ?_)
            · refine X_iconst hK kd53_39.2.2.2.2.2.2.2.2.2.1 ?_
              refine X_goto hK 155 kd53_39.2.2.2.2.2.2.2.2.2.2.1 (by decide) ?_
              refine X_zast hK hs_b318 (by decide) (by decide) sl_19401 (by omega) (by omega) (by omega) (by omega) kd53_41.2.2.1 (fun g322 hg322 => ?_)
              refine X_goto hK 278 kd53_41.2.2.2.1 (by decide) ?_
              refine X_iinc hK (i := 5) (z := z244) (n := 1) 3 [(5, .int (iI (z244 + 1))), (4, .int (iI (z245 + (-1)))), (7, .int (iI z314)), (6, .int (iI ((120 * x1) + z244))), (0, .ref a0), (1, .int (iI x1)), (2, .int (iI x2)), (3, .int (iI x3))] kd53_46.2.2.2.2.1 rfl (by decide) rfl ?_
              refine X_goto hK 6 kd53_46.2.2.2.2.2.1 (by decide) ?_
              refine X_lv [(5, .int (iI (z244 + 1))), (4, .int (iI (z245 + (-1)))), (0, .ref a0), (1, .int (iI x1)), (2, .int (iI x2)), (3, .int (iI x3))] [0, 1, 4, 5, 6, 7] rfl ?_
              exact ihP305  g322 (xM_ua (xM.tr xM.rf xLe.rf hg246 (by decide)) hg322 hs_b318 (by decide) (by decide)) (z244 + 1) (by omega) (by omega) (z245 + (-1)) (by omega) (by omega) (by omega) (by omega) (by rcases hx315 with ⟨a9, b9, c9⟩ | ⟨a9, b9, c9⟩ | ⟨a9, b9, c9⟩ <;> first | (exfalso; omega) | exact c9 | (rw [c9]; exact congrArg some (by omega))) (by omega)
            · refine X_aloadn hK (i := 0) 4 kd53_39.2.2.1 rfl rfl ?_
              refine X_getK hK fl_X12_83_13 hs_a0 eb318 kd53_39.2.2.2.1 ?_
              refine X_iload hK (i := 4) 0 kd53_39.2.2.2.2.1 rfl ?_
              refine X_zald hK hs_b318 (by decide) sl_19401 (by omega) (by omega) kd53_39.2.2.2.2.2.1 (fun z323 ez323 lz323 uz323 => ?_)
              refine X_if_eq hK 124 (by omega) kd53_39.2.2.2.2.2.2.1 (by decide) (fun c324 => ?_) (fun c324 => ?_)
              · refine X_iconst hK kd53_39.2.2.2.2.2.2.2.2.2.1 ?_
                refine X_goto hK 155 kd53_39.2.2.2.2.2.2.2.2.2.2.1 (by decide) ?_
                refine X_zast hK hs_b318 (by decide) (by decide) sl_19401 (by omega) (by omega) (by omega) (by omega) kd53_41.2.2.1 (fun g325 hg325 => ?_)
                refine X_goto hK 278 kd53_41.2.2.2.1 (by decide) ?_
                refine X_iinc hK (i := 5) (z := z244) (n := 1) 3 [(5, .int (iI (z244 + 1))), (4, .int (iI (z245 + (-1)))), (7, .int (iI z314)), (6, .int (iI ((120 * x1) + z244))), (0, .ref a0), (1, .int (iI x1)), (2, .int (iI x2)), (3, .int (iI x3))] kd53_46.2.2.2.2.1 rfl (by decide) rfl ?_
                refine X_goto hK 6 kd53_46.2.2.2.2.2.1 (by decide) ?_
                refine X_lv [(5, .int (iI (z244 + 1))), (4, .int (iI (z245 + (-1)))), (0, .ref a0), (1, .int (iI x1)), (2, .int (iI x2)), (3, .int (iI x3))] [0, 1, 4, 5, 6, 7] rfl ?_
                exact ihP305  g325 (xM_ua (xM.tr xM.rf xLe.rf hg246 (by decide)) hg325 hs_b318 (by decide) (by decide)) (z244 + 1) (by omega) (by omega) (z245 + (-1)) (by omega) (by omega) (by omega) (by omega) (by rcases hx315 with ⟨a9, b9, c9⟩ | ⟨a9, b9, c9⟩ | ⟨a9, b9, c9⟩ <;> first | (exfalso; omega) | exact c9 | (rw [c9]; exact congrArg some (by omega))) (by omega)
              · refine X_iconst hK kd53_39.2.2.2.2.2.2.2.1 ?_
                refine X_goto hK 155 kd53_39.2.2.2.2.2.2.2.2.1 (by decide) ?_
                refine X_zast hK hs_b318 (by decide) (by decide) sl_19401 (by omega) (by omega) (by omega) (by omega) kd53_41.2.2.1 (fun g326 hg326 => ?_)
                refine X_goto hK 278 kd53_41.2.2.2.1 (by decide) ?_
                refine X_iinc hK (i := 5) (z := z244) (n := 1) 3 [(5, .int (iI (z244 + 1))), (4, .int (iI (z245 + (-1)))), (7, .int (iI z314)), (6, .int (iI ((120 * x1) + z244))), (0, .ref a0), (1, .int (iI x1)), (2, .int (iI x2)), (3, .int (iI x3))] kd53_46.2.2.2.2.1 rfl (by decide) rfl ?_
                refine X_goto hK 6 kd53_46.2.2.2.2.2.1 (by decide) ?_
                refine X_lv [(5, .int (iI (z244 + 1))), (4, .int (iI (z245 + (-1)))), (0, .ref a0), (1, .int (iI x1)), (2, .int (iI x2)), (3, .int (iI x3))] [0, 1, 4, 5, 6, 7] rfl ?_
                exact ihP305  g326 (xM_ua (xM.tr xM.rf xLe.rf hg246 (by decide)) hg326 hs_b318 (by decide) (by decide)) (z244 + 1) (by omega) (by omega) (z245 + (-1)) (by omega) (by omega) (by omega) (by omega) (by rcases hx315 with ⟨a9, b9, c9⟩ | ⟨a9, b9, c9⟩ | ⟨a9, b9, c9⟩ <;> first | (exfalso; omega) | exact c9 | (rw [c9]; exact congrArg some (by omega))) (by omega)
          · refine X_iload hK (i := 7) 0 kd53_37.2.2.2.2.2.2.2.1 rfl ?_
            refine X_bipush hK kd53_37.2.2.2.2.2.2.2.2.1 (by decide) ?_
            refine X_icmp_ne hK 159 (by omega) (by omega) kd53_37.2.2.2.2.2.2.2.2.2.1 (by decide) (fun c327 => ?_) (fun c327 => ?_)
            · refine X_aloadn hK (i := 0) 4 kd53_41.2.2.2.2.1 rfl rfl ?_
              refine X_getr hK 16300 12 fl_X12_80_13 hs_a0 sl_13_45 kd53_41.2.2.2.2.2.1 (fun b328 eb328 hs_b328 => ?_)
              refine X_iload hK (i := 7) 0 kd53_41.2.2.2.2.2.2.1 rfl ?_
              refine X_iald hK hs_b328 (by decide) sl_16300 (by omega) (by omega) kd53_41.2.2.2.2.2.2.2.1 (fun z329 ez329 lz329 uz329 => ?_)
              refine X_istore hK (i := 8) [(8, .int (iI z329)), (7, .int (iI z314)), (6, .int (iI ((120 * x1) + z244))), (5, .int (iI z244)), (4, .int (iI z245)), (0, .ref a0), (1, .int (iI x1)), (2, .int (iI x2)), (3, .int (iI x3))] kd53_41.2.2.2.2.2.2.2.2.1 (by decide) rfl ?_
              refine X_aloadn hK (i := 0) 5 kd53_41.2.2.2.2.2.2.2.2.2.1 rfl rfl ?_
              refine X_getr hK 16000 1320 fl_X12_71_13 hs_a0 sl_13_36 kd53_41.2.2.2.2.2.2.2.2.2.2.1 (fun b330 eb330 hs_b330 => ?_)
              refine X_iload hK (i := 6) 2 kd53_41.2.2.2.2.2.2.2.2.2.2.2 rfl ?_
              refine X_iald hK hs_b330 (by decide) sl_16000 (by omega) (by omega) kd53_42.1 (fun z331 ez331 lz331 uz331 => ?_)
              refine X_istore hK (i := 9) [(9, .int (iI z331)), (8, .int (iI z329)), (7, .int (iI z314)), (6, .int (iI ((120 * x1) + z244))), (5, .int (iI z244)), (4, .int (iI z245)), (0, .ref a0), (1, .int (iI x1)), (2, .int (iI x2)), (3, .int (iI x3))] kd53_42.2.1 (by decide) rfl ?_
              refine X_aloadn hK (i := 0) 6 kd53_42.2.2.1 rfl rfl ?_
              refine X_getr hK 19401 64 fl_X12_83_13 hs_a0 sl_13_46 kd53_42.2.2.2.1 (fun b332 eb332 hs_b332 => ?_)
              refine X_iload hK (i := 4) 5 kd53_42.2.2.2.2.1 rfl ?_
              refine X_iload hK (i := 7) 2 kd53_42.2.2.2.2.2.1 rfl ?_
              refine X_iconst hK kd53_42.2.2.2.2.2.2.1 ?_
              refine X_icmp_ge hK 203 (by omega) (by omega) kd53_42.2.2.2.2.2.2.2.1 (by decide) (fun c333 => ?_) (fun c333 => ?_)
              · refine X_iload hK (i := 9) 0 kd53_43.2.2.2.1 rfl ?_
                refine X_bipush hK kd53_43.2.2.2.2.1 (by decide) ?_
                refine X_icmp_ne hK 230 (by omega) (by omega) kd53_43.2.2.2.2.2.1 (by decide) (fun c334 => ?_) (fun c334 => ?_)
                · refine X_iload hK (i := 9) 0 kd53_44.2.2.2.2.1 rfl ?_
                  refine X_bipush hK kd53_44.2.2.2.2.2.1 (by decide) ?_
                  refine X_icmp_ne hK 257 (by omega) (by omega) kd53_44.2.2.2.2.2.2.1 (by decide) (fun c335 => ?_) (fun c335 => ?_)
                  · refine X_iload hK (i := 8) 1 kd53_45.2.2.2.2.2.1 rfl ?_
                    refine X_aloadn hK (i := 0) 6 kd53_45.2.2.2.2.2.2.1 rfl rfl ?_
                    refine X_getr hK 16100 1320 fl_X12_74_13 hs_a0 sl_13_37 kd53_45.2.2.2.2.2.2.2.1 (fun b336 eb336 hs_b336 => ?_)
                    refine X_iload hK (i := 6) 3 kd53_45.2.2.2.2.2.2.2.2.1 rfl ?_
                    refine X_iald hK hs_b336 (by decide) sl_16100 (by omega) (by omega) kd53_45.2.2.2.2.2.2.2.2.2.1 (fun z337 ez337 lz337 uz337 => ?_)
                    refine X_icmp_le hK 273 (by omega) (by omega) kd53_45.2.2.2.2.2.2.2.2.2.2.1 (by decide) (fun c338 => ?_) (fun c338 => ?_)
                    · refine X_iconst hK kd53_46.2.1 ?_
                      refine X_zast hK hs_b332 (by decide) (by decide) sl_19401 (by omega) (by omega) (by omega) (by omega) kd53_46.2.2.1 (fun g339 hg339 => ?_)
                      refine X_iinc hK (i := 4) (z := z245) (n := 1) 5 [(4, .int (iI (z245 + 1))), (9, .int (iI z331)), (8, .int (iI z329)), (7, .int (iI z314)), (6, .int (iI ((120 * x1) + z244))), (5, .int (iI z244)), (0, .ref a0), (1, .int (iI x1)), (2, .int (iI x2)), (3, .int (iI x3))] kd53_46.2.2.2.1 rfl (by decide) rfl ?_
                      refine X_iinc hK (i := 5) (z := z244) (n := 1) 5 [(5, .int (iI (z244 + 1))), (4, .int (iI (z245 + 1))), (9, .int (iI z331)), (8, .int (iI z329)), (7, .int (iI z314)), (6, .int (iI ((120 * x1) + z244))), (0, .ref a0), (1, .int (iI x1)), (2, .int (iI x2)), (3, .int (iI x3))] kd53_46.2.2.2.2.1 rfl (by decide) rfl ?_
                      refine X_goto hK 6 kd53_46.2.2.2.2.2.1 (by decide) ?_
                      refine X_lv [(5, .int (iI (z244 + 1))), (4, .int (iI (z245 + 1))), (0, .ref a0), (1, .int (iI x1)), (2, .int (iI x2)), (3, .int (iI x3))] [0, 1, 6, 7, 8, 9] rfl ?_
                      exact ihP305  g339 (xM_ua (xM.tr xM.rf xLe.rf hg246 (by decide)) hg339 hs_b332 (by decide) (by decide)) (z244 + 1) (by omega) (by omega) (z245 + 1) (by omega) (by omega) (by omega) (by omega) (by rcases hx315 with ⟨a9, b9, c9⟩ | ⟨a9, b9, c9⟩ | ⟨a9, b9, c9⟩ <;> first | (exfalso; omega) | exact c9 | (rw [c9]; exact congrArg some (by omega))) (by omega)
                    · refine X_iconst hK kd53_45.2.2.2.2.2.2.2.2.2.2.2 ?_
                      refine X_goto hK 274 kd53_46.1 (by decide) ?_
                      refine X_zast hK hs_b332 (by decide) (by decide) sl_19401 (by omega) (by omega) (by omega) (by omega) kd53_46.2.2.1 (fun g340 hg340 => ?_)
                      refine X_iinc hK (i := 4) (z := z245) (n := 1) 5 [(4, .int (iI (z245 + 1))), (9, .int (iI z331)), (8, .int (iI z329)), (7, .int (iI z314)), (6, .int (iI ((120 * x1) + z244))), (5, .int (iI z244)), (0, .ref a0), (1, .int (iI x1)), (2, .int (iI x2)), (3, .int (iI x3))] kd53_46.2.2.2.1 rfl (by decide) rfl ?_
                      refine X_iinc hK (i := 5) (z := z244) (n := 1) 5 [(5, .int (iI (z244 + 1))), (4, .int (iI (z245 + 1))), (9, .int (iI z331)), (8, .int (iI z329)), (7, .int (iI z314)), (6, .int (iI ((120 * x1) + z244))), (0, .ref a0), (1, .int (iI x1)), (2, .int (iI x2)), (3, .int (iI x3))] kd53_46.2.2.2.2.1 rfl (by decide) rfl ?_
                      refine X_goto hK 6 kd53_46.2.2.2.2.2.1 (by decide) ?_
                      refine X_lv [(5, .int (iI (z244 + 1))), (4, .int (iI (z245 + 1))), (0, .ref a0), (1, .int (iI x1)), (2, .int (iI x2)), (3, .int (iI x3))] [0, 1, 6, 7, 8, 9] rfl ?_
                      exact ihP305  g340 (xM_ua (xM.tr xM.rf xLe.rf hg246 (by decide)) hg340 hs_b332 (by decide) (by decide)) (z244 + 1) (by omega) (by omega) (z245 + 1) (by omega) (by omega) (by omega) (by omega) (by rcases hx315 with ⟨a9, b9, c9⟩ | ⟨a9, b9, c9⟩ | ⟨a9, b9, c9⟩ <;> first | (exfalso; omega) | exact c9 | (rw [c9]; exact congrArg some (by omega))) (by omega)
                  · refine X_iload hK (i := 8) 1 kd53_44.2.2.2.2.2.2.2.1 rfl ?_
                    refine X_aloadn hK (i := 0) 6 kd53_44.2.2.2.2.2.2.2.2.1 rfl rfl ?_
                    refine X_getr hK 16100 1320 fl_X12_74_13 hs_a0 sl_13_37 kd53_44.2.2.2.2.2.2.2.2.2.1 (fun b341 eb341 hs_b341 => ?_)
                    refine X_iload hK (i := 6) 3 kd53_44.2.2.2.2.2.2.2.2.2.2.1 rfl ?_
                    refine X_iald hK hs_b341 (by decide) sl_16100 (by omega) (by omega) kd53_44.2.2.2.2.2.2.2.2.2.2.2 (fun z342 ez342 lz342 uz342 => ?_)
                    refine X_icmp_ne hK 253 (by omega) (by omega) kd53_45.1 (by decide) (fun c343 => ?_) (fun c343 => ?_)
                    · refine X_iconst hK kd53_45.2.2.2.1 ?_
                      refine X_goto hK 274 kd53_45.2.2.2.2.1 (by decide) ?_
                      refine X_zast hK hs_b332 (by decide) (by decide) sl_19401 (by omega) (by omega) (by omega) (by omega) kd53_46.2.2.1 (fun g344 hg344 => ?_)
                      refine X_iinc hK (i := 4) (z := z245) (n := 1) 5 [(4, .int (iI (z245 + 1))), (9, .int (iI z331)), (8, .int (iI z329)), (7, .int (iI z314)), (6, .int (iI ((120 * x1) + z244))), (5, .int (iI z244)), (0, .ref a0), (1, .int (iI x1)), (2, .int (iI x2)), (3, .int (iI x3))] kd53_46.2.2.2.1 rfl (by decide) rfl ?_
                      refine X_iinc hK (i := 5) (z := z244) (n := 1) 5 [(5, .int (iI (z244 + 1))), (4, .int (iI (z245 + 1))), (9, .int (iI z331)), (8, .int (iI z329)), (7, .int (iI z314)), (6, .int (iI ((120 * x1) + z244))), (0, .ref a0), (1, .int (iI x1)), (2, .int (iI x2)), (3, .int (iI x3))] kd53_46.2.2.2.2.1 rfl (by decide) rfl ?_
                      refine X_goto hK 6 kd53_46.2.2.2.2.2.1 (by decide) ?_
                      refine X_lv [(5, .int (iI (z244 + 1))), (4, .int (iI (z245 + 1))), (0, .ref a0), (1, .int (iI x1)), (2, .int (iI x2)), (3, .int (iI x3))] [0, 1, 6, 7, 8, 9] rfl ?_
                      exact ihP305  g344 (xM_ua (xM.tr xM.rf xLe.rf hg246 (by decide)) hg344 hs_b332 (by decide) (by decide)) (z244 + 1) (by omega) (by omega) (z245 + 1) (by omega) (by omega) (by omega) (by omega) (by rcases hx315 with ⟨a9, b9, c9⟩ | ⟨a9, b9, c9⟩ | ⟨a9, b9, c9⟩ <;> first | (exfalso; omega) | exact c9 | (rw [c9]; exact congrArg some (by omega))) (by omega)
                    · refine X_iconst hK kd53_45.2.1 ?_
                      refine X_goto hK 274 kd53_45.2.2.1 (by decide) ?_
                      refine X_zast hK hs_b332 (by decide) (by decide) sl_19401 (by omega) (by omega) (by omega) (by omega) kd53_46.2.2.1 (fun g345 hg345 => ?_)
                      refine X_iinc hK (i := 4) (z := z245) (n := 1) 5 [(4, .int (iI (z245 + 1))), (9, .int (iI z331)), (8, .int (iI z329)), (7, .int (iI z314)), (6, .int (iI ((120 * x1) + z244))), (5, .int (iI z244)), (0, .ref a0), (1, .int (iI x1)), (2, .int (iI x2)), (3, .int (iI x3))] kd53_46.2.2.2.1 rfl (by decide) rfl ?_
                      refine X_iinc hK (i := 5) (z := z244) (n := 1) 5 [(5, .int (iI (z244 + 1))), (4, .int (iI (z245 + 1))), (9, .int (iI z331)), (8, .int (iI z329)), (7, .int (iI z314)), (6, .int (iI ((120 * x1) + z244))), (0, .ref a0), (1, .int (iI x1)), (2, .int (iI x2)), (3, .int (iI x3))] kd53_46.2.2.2.2.1 rfl (by decide) rfl ?_
                      refine X_goto hK 6 kd53_46.2.2.2.2.2.1 (by decide) ?_
                      refine X_lv [(5, .int (iI (z244 + 1))), (4, .int (iI (z245 + 1))), (0, .ref a0), (1, .int (iI x1)), (2, .int (iI x2)), (3, .int (iI x3))] [0, 1, 6, 7, 8, 9] rfl ?_
                      exact ihP305  g345 (xM_ua (xM.tr xM.rf xLe.rf hg246 (by decide)) hg345 hs_b332 (by decide) (by decide)) (z244 + 1) (by omega) (by omega) (z245 + 1) (by omega) (by omega) (by omega) (by omega) (by rcases hx315 with ⟨a9, b9, c9⟩ | ⟨a9, b9, c9⟩ | ⟨a9, b9, c9⟩ <;> first | (exfalso; omega) | exact c9 | (rw [c9]; exact congrArg some (by omega))) (by omega)
                · refine X_iload hK (i := 8) 1 kd53_43.2.2.2.2.2.2.1 rfl ?_
                  refine X_aloadn hK (i := 0) 6 kd53_43.2.2.2.2.2.2.2.1 rfl rfl ?_
                  refine X_getr hK 16100 1320 fl_X12_74_13 hs_a0 sl_13_37 kd53_43.2.2.2.2.2.2.2.2.1 (fun b346 eb346 hs_b346 => ?_)
                  refine X_iload hK (i := 6) 3 kd53_43.2.2.2.2.2.2.2.2.2.1 rfl ?_
                  refine X_iald hK hs_b346 (by decide) sl_16100 (by omega) (by omega) kd53_43.2.2.2.2.2.2.2.2.2.2.1 (fun z347 ez347 lz347 uz347 => ?_)
                  refine X_icmp_ge hK 226 (by omega) (by omega) kd53_43.2.2.2.2.2.2.2.2.2.2.2 (by decide) (fun c348 => ?_) (fun c348 => ?_)
                  · refine X_iconst hK kd53_44.2.2.1 ?_
                    refine X_goto hK 274 kd53_44.2.2.2.1 (by decide) ?_
                    refine X_zast hK hs_b332 (by decide) (by decide) sl_19401 (by omega) (by omega) (by omega) (by omega) kd53_46.2.2.1 (fun g349 hg349 => ?_)
                    refine X_iinc hK (i := 4) (z := z245) (n := 1) 5 [(4, .int (iI (z245 + 1))), (9, .int (iI z331)), (8, .int (iI z329)), (7, .int (iI z314)), (6, .int (iI ((120 * x1) + z244))), (5, .int (iI z244)), (0, .ref a0), (1, .int (iI x1)), (2, .int (iI x2)), (3, .int (iI x3))] kd53_46.2.2.2.1 rfl (by decide) rfl ?_
                    refine X_iinc hK (i := 5) (z := z244) (n := 1) 5 [(5, .int (iI (z244 + 1))), (4, .int (iI (z245 + 1))), (9, .int (iI z331)), (8, .int (iI z329)), (7, .int (iI z314)), (6, .int (iI ((120 * x1) + z244))), (0, .ref a0), (1, .int (iI x1)), (2, .int (iI x2)), (3, .int (iI x3))] kd53_46.2.2.2.2.1 rfl (by decide) rfl ?_
                    refine X_goto hK 6 kd53_46.2.2.2.2.2.1 (by decide) ?_
                    refine X_lv [(5, .int (iI (z244 + 1))), (4, .int (iI (z245 + 1))), (0, .ref a0), (1, .int (iI x1)), (2, .int (iI x2)), (3, .int (iI x3))] [0, 1, 6, 7, 8, 9] rfl ?_
                    exact ihP305  g349 (xM_ua (xM.tr xM.rf xLe.rf hg246 (by decide)) hg349 hs_b332 (by decide) (by decide)) (z244 + 1) (by omega) (by omega) (z245 + 1) (by omega) (by omega) (by omega) (by omega) (by rcases hx315 with ⟨a9, b9, c9⟩ | ⟨a9, b9, c9⟩ | ⟨a9, b9, c9⟩ <;> first | (exfalso; omega) | exact c9 | (rw [c9]; exact congrArg some (by omega))) (by omega)
                  · refine X_iconst hK kd53_44.1 ?_
                    refine X_goto hK 274 kd53_44.2.1 (by decide) ?_
                    refine X_zast hK hs_b332 (by decide) (by decide) sl_19401 (by omega) (by omega) (by omega) (by omega) kd53_46.2.2.1 (fun g350 hg350 => ?_)
                    refine X_iinc hK (i := 4) (z := z245) (n := 1) 5 [(4, .int (iI (z245 + 1))), (9, .int (iI z331)), (8, .int (iI z329)), (7, .int (iI z314)), (6, .int (iI ((120 * x1) + z244))), (5, .int (iI z244)), (0, .ref a0), (1, .int (iI x1)), (2, .int (iI x2)), (3, .int (iI x3))] kd53_46.2.2.2.1 rfl (by decide) rfl ?_
                    refine X_iinc hK (i := 5) (z := z244) (n := 1) 5 [(5, .int (iI (z244 + 1))), (4, .int (iI (z245 + 1))), (9, .int (iI z331)), (8, .int (iI z329)), (7, .int (iI z314)), (6, .int (iI ((120 * x1) + z244))), (0, .ref a0), (1, .int (iI x1)), (2, .int (iI x2)), (3, .int (iI x3))] kd53_46.2.2.2.2.1 rfl (by decide) rfl ?_
                    refine X_goto hK 6 kd53_46.2.2.2.2.2.1 (by decide) ?_
                    refine X_lv [(5, .int (iI (z244 + 1))), (4, .int (iI (z245 + 1))), (0, .ref a0), (1, .int (iI x1)), (2, .int (iI x2)), (3, .int (iI x3))] [0, 1, 6, 7, 8, 9] rfl ?_
                    exact ihP305  g350 (xM_ua (xM.tr xM.rf xLe.rf hg246 (by decide)) hg350 hs_b332 (by decide) (by decide)) (z244 + 1) (by omega) (by omega) (z245 + 1) (by omega) (by omega) (by omega) (by omega) (by rcases hx315 with ⟨a9, b9, c9⟩ | ⟨a9, b9, c9⟩ | ⟨a9, b9, c9⟩ <;> first | (exfalso; omega) | exact c9 | (rw [c9]; exact congrArg some (by omega))) (by omega)
              · refine X_iload hK (i := 8) 1 kd53_42.2.2.2.2.2.2.2.2.1 rfl ?_
                refine X_iconst hK kd53_42.2.2.2.2.2.2.2.2.2.1 ?_
                refine X_icmp_ne hK 199 (by omega) (by omega) kd53_42.2.2.2.2.2.2.2.2.2.2.1 (by decide) (fun c351 => ?_) (fun c351 => ?_)
                · refine X_iconst hK kd53_43.2.1 ?_
                  refine X_goto hK 274 kd53_43.2.2.1 (by decide) ?_
                  refine X_zast hK hs_b332 (by decide) (by decide) sl_19401 (by omega) (by omega) (by omega) (by omega) kd53_46.2.2.1 (fun g352 hg352 => ?_)
                  refine X_iinc hK (i := 4) (z := z245) (n := 1) 5 [(4, .int (iI (z245 + 1))), (9, .int (iI z331)), (8, .int (iI z329)), (7, .int (iI z314)), (6, .int (iI ((120 * x1) + z244))), (5, .int (iI z244)), (0, .ref a0), (1, .int (iI x1)), (2, .int (iI x2)), (3, .int (iI x3))] kd53_46.2.2.2.1 rfl (by decide) rfl ?_
                  refine X_iinc hK (i := 5) (z := z244) (n := 1) 5 [(5, .int (iI (z244 + 1))), (4, .int (iI (z245 + 1))), (9, .int (iI z331)), (8, .int (iI z329)), (7, .int (iI z314)), (6, .int (iI ((120 * x1) + z244))), (0, .ref a0), (1, .int (iI x1)), (2, .int (iI x2)), (3, .int (iI x3))] kd53_46.2.2.2.2.1 rfl (by decide) rfl ?_
                  refine X_goto hK 6 kd53_46.2.2.2.2.2.1 (by decide) ?_
                  refine X_lv [(5, .int (iI (z244 + 1))), (4, .int (iI (z245 + 1))), (0, .ref a0), (1, .int (iI x1)), (2, .int (iI x2)), (3, .int (iI x3))] [0, 1, 6, 7, 8, 9] rfl ?_
                  exact ihP305  g352 (xM_ua (xM.tr xM.rf xLe.rf hg246 (by decide)) hg352 hs_b332 (by decide) (by decide)) (z244 + 1) (by omega) (by omega) (z245 + 1) (by omega) (by omega) (by omega) (by omega) (by rcases hx315 with ⟨a9, b9, c9⟩ | ⟨a9, b9, c9⟩ | ⟨a9, b9, c9⟩ <;> first | (exfalso; omega) | exact c9 | (rw [c9]; exact congrArg some (by omega))) (by omega)
                · refine X_iconst hK kd53_42.2.2.2.2.2.2.2.2.2.2.2 ?_
                  refine X_goto hK 274 kd53_43.1 (by decide) ?_
                  refine X_zast hK hs_b332 (by decide) (by decide) sl_19401 (by omega) (by omega) (by omega) (by omega) kd53_46.2.2.1 (fun g353 hg353 => ?_)
                  refine X_iinc hK (i := 4) (z := z245) (n := 1) 5 [(4, .int (iI (z245 + 1))), (9, .int (iI z331)), (8, .int (iI z329)), (7, .int (iI z314)), (6, .int (iI ((120 * x1) + z244))), (5, .int (iI z244)), (0, .ref a0), (1, .int (iI x1)), (2, .int (iI x2)), (3, .int (iI x3))] kd53_46.2.2.2.1 rfl (by decide) rfl ?_
                  refine X_iinc hK (i := 5) (z := z244) (n := 1) 5 [(5, .int (iI (z244 + 1))), (4, .int (iI (z245 + 1))), (9, .int (iI z331)), (8, .int (iI z329)), (7, .int (iI z314)), (6, .int (iI ((120 * x1) + z244))), (0, .ref a0), (1, .int (iI x1)), (2, .int (iI x2)), (3, .int (iI x3))] kd53_46.2.2.2.2.1 rfl (by decide) rfl ?_
                  refine X_goto hK 6 kd53_46.2.2.2.2.2.1 (by decide) ?_
                  refine X_lv [(5, .int (iI (z244 + 1))), (4, .int (iI (z245 + 1))), (0, .ref a0), (1, .int (iI x1)), (2, .int (iI x2)), (3, .int (iI x3))] [0, 1, 6, 7, 8, 9] rfl ?_
                  exact ihP305  g353 (xM_ua (xM.tr xM.rf xLe.rf hg246 (by decide)) hg353 hs_b332 (by decide) (by decide)) (z244 + 1) (by omega) (by omega) (z245 + 1) (by omega) (by omega) (by omega) (by omega) (by rcases hx315 with ⟨a9, b9, c9⟩ | ⟨a9, b9, c9⟩ | ⟨a9, b9, c9⟩ <;> first | (exfalso; omega) | exact c9 | (rw [c9]; exact congrArg some (by omega))) (by omega)
            · refine X_iinc hK (i := 4) (z := z245) (n := (-1)) 3 [(4, .int (iI (z245 + (-1)))), (7, .int (iI z314)), (6, .int (iI ((120 * x1) + z244))), (5, .int (iI z244)), (0, .ref a0), (1, .int (iI x1)), (2, .int (iI x2)), (3, .int (iI x3))] kd53_37.2.2.2.2.2.2.2.2.2.2.1 rfl (by decide) rfl ?_
              refine X_aloadn hK (i := 0) 4 kd53_37.2.2.2.2.2.2.2.2.2.2.2 rfl rfl ?_
              refine X_getr hK 19401 64 fl_X12_83_13 hs_a0 sl_13_46 kd53_38.1 (fun b354 eb354 hs_b354 => ?_)
              refine X_iload hK (i := 4) 0 kd53_38.2.1 rfl ?_
              refine X_iconst hK kd53_38.2.2.1 ?_
              refine X_isub hK kd53_38.2.2.2.1 ?_
              refine X_iload hK (i := 7) 1 kd53_38.2.2.2.2.1 rfl ?_
              refine X_bipush hK kd53_38.2.2.2.2.2.1 (by decide) ?_
              refine X_icmp_ne hK 128 (by omega) (by omega) kd53_38.2.2.2.2.2.2.1 (by decide) (fun c355 => ?_) (fun c355 => False.elim (by omega))
              refine X_aloadn hK (i := 0) 4 kd53_39.2.2.2.2.2.2.2.2.2.2.2 rfl rfl ?_
              refine X_getK hK fl_X12_83_13 hs_a0 eb354 kd53_40.1 ?_
              refine X_iload hK (i := 4) 0 kd53_40.2.1 rfl ?_
              refine X_iconst hK kd53_40.2.2.1 ?_
              refine X_isub hK kd53_40.2.2.2.1 ?_
              refine X_zald hK hs_b354 (by decide) sl_19401 (by omega) (by omega) kd53_40.2.2.2.2.1 (fun z356 ez356 lz356 uz356 => ?_)
              refine X_if_ne hK 150 (by omega) kd53_40.2.2.2.2.2.1 (by decide) (fun c357 => ?_) (fun c357 => ?_)
              · refine X_iconst hK kd53_40.2.2.2.2.2.2.2.2.2.2.2 ?_
                refine X_goto hK 155 kd53_41.1 (by decide) ?_
                refine X_zast hK hs_b354 (by decide) (by decide) sl_19401 (by omega) (by omega) (by omega) (by omega) kd53_41.2.2.1 (fun g358 hg358 => ?_)
                refine X_goto hK 278 kd53_41.2.2.2.1 (by decide) ?_
                refine X_iinc hK (i := 5) (z := z244) (n := 1) 3 [(5, .int (iI (z244 + 1))), (4, .int (iI (z245 + (-1)))), (7, .int (iI z314)), (6, .int (iI ((120 * x1) + z244))), (0, .ref a0), (1, .int (iI x1)), (2, .int (iI x2)), (3, .int (iI x3))] kd53_46.2.2.2.2.1 rfl (by decide) rfl ?_
                refine X_goto hK 6 kd53_46.2.2.2.2.2.1 (by decide) ?_
                refine X_lv [(5, .int (iI (z244 + 1))), (4, .int (iI (z245 + (-1)))), (0, .ref a0), (1, .int (iI x1)), (2, .int (iI x2)), (3, .int (iI x3))] [0, 1, 4, 5, 6, 7] rfl ?_
                exact ihP305  g358 (xM_ua (xM.tr xM.rf xLe.rf hg246 (by decide)) hg358 hs_b354 (by decide) (by decide)) (z244 + 1) (by omega) (by omega) (z245 + (-1)) (by omega) (by omega) (by omega) (by omega) (by rcases hx315 with ⟨a9, b9, c9⟩ | ⟨a9, b9, c9⟩ | ⟨a9, b9, c9⟩ <;> first | (exfalso; omega) | exact c9 | (rw [c9]; exact congrArg some (by omega))) (by omega)
              · refine X_aloadn hK (i := 0) 4 kd53_40.2.2.2.2.2.2.1 rfl rfl ?_
                refine X_getK hK fl_X12_83_13 hs_a0 eb354 kd53_40.2.2.2.2.2.2.2.1 ?_
                refine X_iload hK (i := 4) 0 kd53_40.2.2.2.2.2.2.2.2.1 rfl ?_
                refine X_zald hK hs_b354 (by decide) sl_19401 (by omega) (by omega) kd53_40.2.2.2.2.2.2.2.2.2.1 (fun z359 ez359 lz359 uz359 => ?_)
                refine X_if_eq hK 154 (by omega) kd53_40.2.2.2.2.2.2.2.2.2.2.1 (by decide) (fun c360 => ?_) (fun c360 => ?_)
                · refine X_iconst hK kd53_41.2.1 ?_
                  refine X_zast hK hs_b354 (by decide) (by decide) sl_19401 (by omega) (by omega) (by omega) (by omega) kd53_41.2.2.1 (fun g361 hg361 => ?_)
                  refine X_goto hK 278 kd53_41.2.2.2.1 (by decide) ?_
                  refine X_iinc hK (i := 5) (z := z244) (n := 1) 3 [(5, .int (iI (z244 + 1))), (4, .int (iI (z245 + (-1)))), (7, .int (iI z314)), (6, .int (iI ((120 * x1) + z244))), (0, .ref a0), (1, .int (iI x1)), (2, .int (iI x2)), (3, .int (iI x3))] kd53_46.2.2.2.2.1 rfl (by decide) rfl ?_
                  refine X_goto hK 6 kd53_46.2.2.2.2.2.1 (by decide) ?_
                  refine X_lv [(5, .int (iI (z244 + 1))), (4, .int (iI (z245 + (-1)))), (0, .ref a0), (1, .int (iI x1)), (2, .int (iI x2)), (3, .int (iI x3))] [0, 1, 4, 5, 6, 7] rfl ?_
                  exact ihP305  g361 (xM_ua (xM.tr xM.rf xLe.rf hg246 (by decide)) hg361 hs_b354 (by decide) (by decide)) (z244 + 1) (by omega) (by omega) (z245 + (-1)) (by omega) (by omega) (by omega) (by omega) (by rcases hx315 with ⟨a9, b9, c9⟩ | ⟨a9, b9, c9⟩ | ⟨a9, b9, c9⟩ <;> first | (exfalso; omega) | exact c9 | (rw [c9]; exact congrArg some (by omega))) (by omega)
                · refine X_iconst hK kd53_40.2.2.2.2.2.2.2.2.2.2.2 ?_
                  refine X_goto hK 155 kd53_41.1 (by decide) ?_
                  refine X_zast hK hs_b354 (by decide) (by decide) sl_19401 (by omega) (by omega) (by omega) (by omega) kd53_41.2.2.1 (fun g362 hg362 => ?_)
                  refine X_goto hK 278 kd53_41.2.2.2.1 (by decide) ?_
                  refine X_iinc hK (i := 5) (z := z244) (n := 1) 3 [(5, .int (iI (z244 + 1))), (4, .int (iI (z245 + (-1)))), (7, .int (iI z314)), (6, .int (iI ((120 * x1) + z244))), (0, .ref a0), (1, .int (iI x1)), (2, .int (iI x2)), (3, .int (iI x3))] kd53_46.2.2.2.2.1 rfl (by decide) rfl ?_
                  refine X_goto hK 6 kd53_46.2.2.2.2.2.1 (by decide) ?_
                  refine X_lv [(5, .int (iI (z244 + 1))), (4, .int (iI (z245 + (-1)))), (0, .ref a0), (1, .int (iI x1)), (2, .int (iI x2)), (3, .int (iI x3))] [0, 1, 4, 5, 6, 7] rfl ?_
                  exact ihP305  g362 (xM_ua (xM.tr xM.rf xLe.rf hg246 (by decide)) hg362 hs_b354 (by decide) (by decide)) (z244 + 1) (by omega) (by omega) (z245 + (-1)) (by omega) (by omega) (by omega) (by omega) (by rcases hx315 with ⟨a9, b9, c9⟩ | ⟨a9, b9, c9⟩ | ⟨a9, b9, c9⟩ <;> first | (exfalso; omega) | exact c9 | (rw [c9]; exact congrArg some (by omega))) (by omega)
        · refine X_aloadn hK (i := 0) 4 kd53_35.2.2.2.2.2.2.2.2.2.2.2 rfl rfl ?_
          refine X_getr hK 19401 64 fl_X12_83_13 hs_a0 sl_13_46 kd53_36.1 (fun b363 eb363 hs_b363 => ?_)
          refine X_iload hK (i := 4) 3 kd53_36.2.1 rfl ?_
          refine X_iconst hK kd53_36.2.2.1 ?_
          refine X_isub hK kd53_36.2.2.2.1 ?_
          refine X_aloadn hK (i := 0) 4 kd53_36.2.2.2.2.1 rfl rfl ?_
          refine X_getK hK fl_X12_83_13 hs_a0 eb363 kd53_36.2.2.2.2.2.1 ?_
          refine X_iload hK (i := 4) 3 kd53_36.2.2.2.2.2.2.1 rfl ?_
          refine X_iconst hK kd53_36.2.2.2.2.2.2.2.1 ?_
          refine X_isub hK kd53_36.2.2.2.2.2.2.2.2.1 ?_
          refine X_zald hK hs_b363 (by decide) sl_19401 (by omega) (by omega) kd53_36.2.2.2.2.2.2.2.2.2.1 (fun z364 ez364 lz364 uz364 => ?_)
          refine X_if_ne hK 61 (by omega) kd53_36.2.2.2.2.2.2.2.2.2.2.1 (by decide) (fun c365 => ?_) (fun c365 => ?_)
          · refine X_iconst hK kd53_37.2.1 ?_
            refine X_zast hK hs_b363 (by decide) (by decide) sl_19401 (by omega) (by omega) (by omega) (by omega) kd53_37.2.2.1 (fun g366 hg366 => ?_)
            refine X_goto hK 278 kd53_37.2.2.2.1 (by decide) ?_
            refine X_iinc hK (i := 5) (z := z244) (n := 1) 2 [(5, .int (iI (z244 + 1))), (7, .int (iI z314)), (6, .int (iI ((120 * x1) + z244))), (4, .int (iI z245)), (0, .ref a0), (1, .int (iI x1)), (2, .int (iI x2)), (3, .int (iI x3))] kd53_46.2.2.2.2.1 rfl (by decide) rfl ?_
            refine X_goto hK 6 kd53_46.2.2.2.2.2.1 (by decide) ?_
            refine X_lv [(5, .int (iI (z244 + 1))), (4, .int (iI z245)), (0, .ref a0), (1, .int (iI x1)), (2, .int (iI x2)), (3, .int (iI x3))] [0, 3, 4, 5, 6, 7] rfl ?_
            exact ihP305  g366 (xM_ua (xM.tr xM.rf xLe.rf hg246 (by decide)) hg366 hs_b363 (by decide) (by decide)) (z244 + 1) (by omega) (by omega) z245 (by omega) (by omega) (by omega) (by omega) (by rcases hx315 with ⟨a9, b9, c9⟩ | ⟨a9, b9, c9⟩ | ⟨a9, b9, c9⟩ <;> first | (exfalso; omega) | exact c9 | (rw [c9]; exact congrArg some (by omega))) (by omega)
          · refine X_iconst hK kd53_36.2.2.2.2.2.2.2.2.2.2.2 ?_
            refine X_goto hK 62 kd53_37.1 (by decide) ?_
            refine X_zast hK hs_b363 (by decide) (by decide) sl_19401 (by omega) (by omega) (by omega) (by omega) kd53_37.2.2.1 (fun g367 hg367 => ?_)
            refine X_goto hK 278 kd53_37.2.2.2.1 (by decide) ?_
            refine X_iinc hK (i := 5) (z := z244) (n := 1) 2 [(5, .int (iI (z244 + 1))), (7, .int (iI z314)), (6, .int (iI ((120 * x1) + z244))), (4, .int (iI z245)), (0, .ref a0), (1, .int (iI x1)), (2, .int (iI x2)), (3, .int (iI x3))] kd53_46.2.2.2.2.1 rfl (by decide) rfl ?_
            refine X_goto hK 6 kd53_46.2.2.2.2.2.1 (by decide) ?_
            refine X_lv [(5, .int (iI (z244 + 1))), (4, .int (iI z245)), (0, .ref a0), (1, .int (iI x1)), (2, .int (iI x2)), (3, .int (iI x3))] [0, 3, 4, 5, 6, 7] rfl ?_
            exact ihP305  g367 (xM_ua (xM.tr xM.rf xLe.rf hg246 (by decide)) hg367 hs_b363 (by decide) (by decide)) (z244 + 1) (by omega) (by omega) z245 (by omega) (by omega) (by omega) (by omega) (by rcases hx315 with ⟨a9, b9, c9⟩ | ⟨a9, b9, c9⟩ | ⟨a9, b9, c9⟩ <;> first | (exfalso; omega) | exact c9 | (rw [c9]; exact congrArg some (by omega))) (by omega)
  exact P305 ((136 - x2 : Int).toNat + 1) g xM.rf x2 (by omega) (by omega) 0 (by omega) (by omega) (by omega) (by omega) (by rw [show (x2 - x2).toNat = 0 by omega]; rfl) (by omega)

set_option maxHeartbeats 4000000 in
set_option maxRecDepth 100000 in
theorem c_X12_tells (l : Launch) (D : va_G) (kA : Nat → ClassId) (b0 : Nat) (t0 : Nat → Nat) (S : xT) (g : xG) (a0 : Nat) (x1 : Int) (x2 : Int) (wo : Nat) (wf : Nat) (wu : Nat) (wp : Nat) (hs_a0 : S a0 = some (13, 0)) (hx1 : (-1) ≤ x1 ∧ x1 ≤ 10) (hx2 : (-2147483648) ≤ x2 ∧ x2 ≤ 2147483647) (ewo : g a0 29 = .ref wo) (hs_wo : S wo = some (15300, 11)) (ewf : g a0 33 = .ref wf) (hs_wf : S wf = some (15700, 176)) (ewu : g a0 34 = .ref wu) (hs_wu : S wu = some (15800, 176)) (ewp : g a0 35 = .ref wp) (hs_wp : S wp = some (15900, 1320)) (hp0 : xTq (xv g wo) (xv g wf) (xv g wu) (xv g wp) x1) : xMt l yX12_tells cX12_tells 5 (some .int) 1 0 0 29 D kA b0 t0 [(13, 47), (19401, 0)] [.ref a0, .int (iI x1), .int (iI x2)] S g (fun (r : Option Value) (S1 : xT) (g1 : xG) => S = S1 ∧ ∃ z : Int, r = some (.int (iI z)) ∧ (-2147483648) ≤ z ∧ z ≤ 2147483647) := by
  refine xEnterI (by decide) (by simp [lg_sl, Value.category]) [(0, .ref a0), (1, .int (iI x1)), (2, .int (iI x2))] rfl ?_
  intro K E hK hret _ _ _
  refine X_aloadn hK (i := 0) 0 kd53_62.2.2.2.2.2.2.2.1 rfl rfl ?_
  refine X_iconst hK kd53_62.2.2.2.2.2.2.2.2.1 ?_
  refine X_puti hK fl_X12_86_13 hs_a0 (by decide) sl_13_47 (by omega) (by omega) kd53_62.2.2.2.2.2.2.2.2.2.1 (fun g1 hg1 => ?_)
  refine X_iconst hK kd53_62.2.2.2.2.2.2.2.2.2.2.1 ?_
  refine X_istoren hK (i := 3) [(3, .int (iI 0)), (0, .ref a0), (1, .int (iI x1)), (2, .int (iI x2))] kd53_62.2.2.2.2.2.2.2.2.2.2.2 rfl (by decide) rfl ?_
  have P157 : ∀ (nP157 : Nat) (g132 : xG) (_ : xM [(19401, 0)] S g1 g132) (z131 : Int) (_ : 0 ≤ z131) (_ : z131 ≤ 16) (_ : 32 - z131 < (nP157 : Int)), X K E 7 [(3, .int (iI z131)), (0, .ref a0), (1, .int (iI x1)), (2, .int (iI x2))] [] S g132 0 0 := by
    intro nP157
    induction nP157 with
    | zero => intro g132 hg132 z131 lz131 uz131 mP157; exact False.elim (by omega)
    | succ nP157 ihP157 =>
      intro g132 hg132 z131 lz131 uz131 mP157
      refine X_iloadn hK (i := 1) 2 kd53_63.1 rfl rfl ?_
      refine X_iconst hK kd53_63.2.1 ?_
      refine X_icmp_eq hK 85 (by omega) (by omega) kd53_63.2.2.1 (by decide) (fun c158 => ?_) (fun c158 => ?_)
      · refine X_iloadn hK (i := 2) 3 kd53_66.2.2.2.2.2.2.2.2.1 rfl rfl ?_
        refine X_callS hK [.int (iI x2)] [] lk_X12_382 (c_X12_usual _ _ _ _ _ S g132 x2 (by omega)) kd53_66.2.2.2.2.2.2.2.2.2.1 rfl rfl (by simp [Value.category]) (by decide) (by decide) (by decide) (by decide) (fun r159 S161 g160 pr159 qr159 hg160 => ?_)
        obtain ⟨rfl, rfl, z162, rfl, lz162, uz162⟩ := pr159
        refine X_st [.int (iI z162)] rfl ?_
        exact hret _ _ _ _ _ _ _ kd53_66.2.2.2.2.2.2.2.2.2.2.1 ⟨rfl, z162, rfl, (by omega), (by omega)⟩ (Nat.le_refl _) (Nat.le_refl _)
      · refine X_iloadn hK (i := 3) 0 kd53_63.2.2.2.1 rfl rfl ?_
        refine X_aloadn hK (i := 0) 1 kd53_63.2.2.2.2.1 rfl rfl ?_
        refine X_getK hK fl_X12_50_13 hs_a0 ((hg132 a0 13 0 29 hs_a0 (by decide)).trans ((xs_k hg1 (by decide)).trans ewo)) kd53_63.2.2.2.2.2.1 ?_
        refine X_iloadn hK (i := 1) 2 kd53_63.2.2.2.2.2.2.1 rfl rfl ?_
        refine X_iald hK hs_wo (by decide) sl_15300 (by omega) (by omega) kd53_63.2.2.2.2.2.2.2.1 (fun z163 ez163 lz163 uz163 => ?_)
        have hvz163 := xv_e (j := x1) ez163 (by omega)
        refine X_icmp_ge hK 85 (by omega) (by omega) kd53_63.2.2.2.2.2.2.2.2.1 (by decide) (fun c164 => ?_) (fun c164 => ?_)
        · refine X_iloadn hK (i := 2) 3 kd53_66.2.2.2.2.2.2.2.2.1 rfl rfl ?_
          refine X_callS hK [.int (iI x2)] [] lk_X12_382 (c_X12_usual _ _ _ _ _ S g132 x2 (by omega)) kd53_66.2.2.2.2.2.2.2.2.2.1 rfl rfl (by simp [Value.category]) (by decide) (by decide) (by decide) (by decide) (fun r165 S167 g166 pr165 qr165 hg166 => ?_)
          obtain ⟨rfl, rfl, z168, rfl, lz168, uz168⟩ := pr165
          refine X_st [.int (iI z168)] rfl ?_
          exact hret _ _ _ _ _ _ _ kd53_66.2.2.2.2.2.2.2.2.2.2.1 ⟨rfl, z168, rfl, (by omega), (by omega)⟩ (Nat.le_refl _) (Nat.le_refl _)
        · refine X_bipush hK kd53_63.2.2.2.2.2.2.2.2.2.1 (by decide) ?_
          refine X_iloadn hK (i := 1) 2 kd53_63.2.2.2.2.2.2.2.2.2.2.1 rfl rfl ?_
          refine X_imul hK kd53_63.2.2.2.2.2.2.2.2.2.2.2 ?_
          refine X_iloadn hK (i := 3) 0 kd53_64.1 rfl rfl ?_
          refine X_iadd hK kd53_64.2.1 ?_
          refine X_istore hK (i := 4) [(4, .int (iI ((16 * x1) + z131))), (3, .int (iI z131)), (0, .ref a0), (1, .int (iI x1)), (2, .int (iI x2))] kd53_64.2.2.1 (by decide) rfl ?_
          refine X_aloadn hK (i := 0) 2 kd53_64.2.2.2.1 rfl rfl ?_
          refine X_getr hK 15500 176 fl_X12_56_13 hs_a0 sl_13_31 kd53_64.2.2.2.2.1 (fun b169 eb169 hs_b169 => ?_)
          refine X_iload hK (i := 4) 0 kd53_64.2.2.2.2.2.1 rfl ?_
          refine X_iald hK hs_b169 (by decide) sl_15500 (by omega) (by omega) kd53_64.2.2.2.2.2.2.1 (fun z170 ez170 lz170 uz170 => ?_)
          refine X_iloadn hK (i := 2) 4 kd53_64.2.2.2.2.2.2.2.1 rfl rfl ?_
          refine X_icmp_ne hK 79 (by omega) (by omega) kd53_64.2.2.2.2.2.2.2.2.1 (by decide) (fun c171 => ?_) (fun c171 => ?_)
          · refine X_iinc hK (i := 3) (z := z131) (n := 1) 1 [(3, .int (iI (z131 + 1))), (4, .int (iI ((16 * x1) + z131))), (0, .ref a0), (1, .int (iI x1)), (2, .int (iI x2))] kd53_66.2.2.2.2.2.2.1 rfl (by decide) rfl ?_
            refine X_goto hK 7 kd53_66.2.2.2.2.2.2.2.1 (by decide) ?_
            refine X_lv [(3, .int (iI (z131 + 1))), (0, .ref a0), (1, .int (iI x1)), (2, .int (iI x2))] [0, 2, 3, 4] rfl ?_
            exact ihP157  g132 (xM.tr xM.rf xLe.rf hg132 (by decide)) (z131 + 1) (by omega) (by omega) (by omega)
          · refine X_aloadn hK (i := 0) 2 kd53_64.2.2.2.2.2.2.2.2.2.1 rfl rfl ?_
            refine X_iloadn hK (i := 1) 3 kd53_64.2.2.2.2.2.2.2.2.2.2.1 rfl rfl ?_
            refine X_aloadn hK (i := 0) 2 kd53_64.2.2.2.2.2.2.2.2.2.2.2 rfl rfl ?_
            refine X_getK hK fl_X12_62_13 hs_a0 ((hg132 a0 13 0 33 hs_a0 (by decide)).trans ((xs_k hg1 (by decide)).trans ewf)) kd53_65.1 ?_
            refine X_iload hK (i := 4) 0 kd53_65.2.1 rfl ?_
            refine X_iald hK hs_wf (by decide) sl_15700 (by omega) (by omega) kd53_65.2.2.1 (fun z172 ez172 lz172 uz172 => ?_)
            refine X_aloadn hK (i := 0) 2 kd53_65.2.2.2.1 rfl rfl ?_
            refine X_getK hK fl_X12_65_13 hs_a0 ((hg132 a0 13 0 34 hs_a0 (by decide)).trans ((xs_k hg1 (by decide)).trans ewu)) kd53_65.2.2.2.2.1 ?_
            refine X_iload hK (i := 4) 0 kd53_65.2.2.2.2.2.1 rfl ?_
            refine X_iald hK hs_wu (by decide) sl_15800 (by omega) (by omega) kd53_65.2.2.2.2.2.2.1 (fun z173 ez173 lz173 uz173 => ?_)
            have thT174 : xTq (xv g132 wo) (xv g132 wf) (xv g132 wu) (xv g132 wp) x1 := (by rw [(Eq.trans (xv_m hg132 hs_wo (by decide) (by decide)) (xv_a hg1 (xne hs_wo hs_a0 (by decide)))), (Eq.trans (xv_m hg132 hs_wf (by decide) (by decide)) (xv_a hg1 (xne hs_wf hs_a0 (by decide)))), (Eq.trans (xv_m hg132 hs_wu (by decide) (by decide)) (xv_a hg1 (xne hs_wu hs_a0 (by decide)))), (Eq.trans (xv_m hg132 hs_wp (by decide) (by decide)) (xv_a hg1 (xne hs_wp hs_a0 (by decide))))]; exact hp0)
            have ahT174 : xTv (xv g132 wf) (xv g132 wu) (xv g132 wp) x1 z131 := (Or.resolve_left thT174 (by omega)) z131 (by omega) (by omega)
            unfold xTv at ahT174
            rw [show xv g132 wf (16 * x1 + z131) = z172 from xv_e ez172 (by omega), show xv g132 wu (16 * x1 + z131) = z173 from xv_e ez173 (by omega)] at ahT174
            obtain ⟨bhT174, chT174, dhT174, hT174⟩ := ahT174
            refine X_callV hK [.int (iI x1), .int (iI z172), .int (iI z173)] [] lk_X12_379 (c_X12_holds _ _ _ _ _ S g132 a0 x1 z172 z173 wp hs_a0 (by omega) (by omega) (by omega) ((hg132 a0 13 0 35 hs_a0 (by decide)).trans ((xs_k hg1 (by decide)).trans ewp)) hs_wp (by omega) hT174) hs_a0 ⟨by decide, rfl⟩ kd53_65.2.2.2.2.2.2.2.1 rfl rfl (by simp [Value.category]) (by decide) (by decide) (by decide) (by decide) (fun r175 S177 g176 pr175 qr175 hg176 => ?_)
            obtain ⟨rfl, z178, rfl, lz178, uz178⟩ := pr175
            refine X_st [.int (iI z178)] rfl ?_
            refine X_if_ne hK 66 (by omega) kd53_65.2.2.2.2.2.2.2.2.1 (by decide) (fun c179 => ?_) (fun c179 => ?_)
            · refine X_aloadn hK (i := 0) 2 kd53_65.2.2.2.2.2.2.2.2.2.2.1 rfl rfl ?_
              refine X_iloadn hK (i := 3) 1 kd53_65.2.2.2.2.2.2.2.2.2.2.2 rfl rfl ?_
              refine X_puti hK fl_X12_86_13 hs_a0 (by decide) sl_13_47 (by omega) (by omega) kd53_66.1 (fun g180 hg180 => ?_)
              refine X_aloadn hK (i := 0) 2 kd53_66.2.1 rfl rfl ?_
              refine X_getr hK 15600 176 fl_X12_59_13 hs_a0 sl_13_32 kd53_66.2.2.1 (fun b181 eb181 hs_b181 => ?_)
              refine X_iload hK (i := 4) 0 kd53_66.2.2.2.1 rfl ?_
              refine X_iald hK hs_b181 (by decide) sl_15600 (by omega) (by omega) kd53_66.2.2.2.2.1 (fun z182 ez182 lz182 uz182 => ?_)
              exact hret _ _ _ _ _ _ _ kd53_66.2.2.2.2.2.1 ⟨rfl, z182, rfl, (by omega), (by omega)⟩ (Nat.le_refl _) (Nat.le_refl _)
            · refine X_goto hK 79 kd53_65.2.2.2.2.2.2.2.2.2.1 (by decide) ?_
              refine X_iinc hK (i := 3) (z := z131) (n := 1) 1 [(3, .int (iI (z131 + 1))), (4, .int (iI ((16 * x1) + z131))), (0, .ref a0), (1, .int (iI x1)), (2, .int (iI x2))] kd53_66.2.2.2.2.2.2.1 rfl (by decide) rfl ?_
              refine X_goto hK 7 kd53_66.2.2.2.2.2.2.2.1 (by decide) ?_
              refine X_lv [(3, .int (iI (z131 + 1))), (0, .ref a0), (1, .int (iI x1)), (2, .int (iI x2))] [0, 2, 3, 4] rfl ?_
              exact ihP157  g176 (xM.tr (xM.tr xM.rf xLe.rf hg132 (by decide)) xLe.rf hg176 (by decide)) (z131 + 1) (by omega) (by omega) (by omega)
  exact P157 ((32 - 0 : Int).toNat + 1) g1 xM.rf 0 (by omega) (by omega) (by omega)

set_option maxHeartbeats 4000000 in
set_option maxRecDepth 100000 in
theorem c2_firstAt (l : Launch) (D : va_G) (kA : Nat → ClassId) (b0 : Nat) (t0 : Nat → Nat) (S : xT) (g : xG) (a0 : Nat) (x1 : Int) (x2 : Int) (wc : Nat) (hs_a0 : S a0 = some (13, 0)) (hx1 : (-2147483648) ≤ x1 ∧ x1 ≤ 2147483647) (hx2 : (-2147483648) ≤ x2 ∧ x2 ≤ 2147483647) (ewc : g a0 62 = .ref wc) (hs_wc : S wc = some (19501, 200)) : xMt l yX12_firstAt cX12_firstAt 5 (some .int) 1 0 0 24 D kA b0 t0 [] [.ref a0, .int (iI x1), .int (iI x2)] S g (fun (r : Option Value) (S1 : xT) (g1 : xG) => S = S1 ∧ g = g1 ∧ ∃ z : Int, r = some (.int (iI z)) ∧ (-1) ≤ z ∧ z ≤ 199 ∧ (z ≠ -1 → z ≤ 199 ∧ xv g wc z = 0)) := by
  refine xEnterI (by decide) (by simp [lg_sl, Value.category]) [(0, .ref a0), (1, .int (iI x1)), (2, .int (iI x2))] rfl ?_
  intro K E hK hret _ _ _
  refine X_iconst hK kd28_66.2.2.2.2.2.1 ?_
  refine X_istoren hK (i := 3) [(3, .int (iI (-1))), (0, .ref a0), (1, .int (iI x1)), (2, .int (iI x2))] kd28_66.2.2.2.2.2.2.1 rfl (by decide) rfl ?_
  refine X_iconst hK kd28_66.2.2.2.2.2.2.2.1 ?_
  refine X_istore hK (i := 4) [(4, .int (iI 0)), (3, .int (iI (-1))), (0, .ref a0), (1, .int (iI x1)), (2, .int (iI x2))] kd28_66.2.2.2.2.2.2.2.2.1 (by decide) rfl ?_
  have P109 : ∀ (nP109 : Nat) (z91 : Int) (_ : 0 ≤ z91) (_ : z91 ≤ 200) (z92 : Int) (_ : (-1) ≤ z92) (_ : z92 ≤ 199) (_ : z92 ≠ -1 → z92 ≤ 199 ∧ xv g wc z92 = 0) (_ : 216 - z91 < (nP109 : Int)), X K E 5 [(4, .int (iI z91)), (3, .int (iI z92)), (0, .ref a0), (1, .int (iI x1)), (2, .int (iI x2))] [] S g 0 0 := by
    intro nP109
    induction nP109 with
    | zero => intro z91 lz91 uz91 z92 lz92 uz92 v110 mP109; exact False.elim (by omega)
    | succ nP109 ihP109 =>
      intro z91 lz91 uz91 z92 lz92 uz92 v110 mP109
      refine X_iload hK (i := 4) 0 kd28_66.2.2.2.2.2.2.2.2.2.1 rfl ?_
      refine X_aloadn hK (i := 0) 2 kd28_66.2.2.2.2.2.2.2.2.2.2.1 rfl rfl ?_
      refine X_geti hK fl_X12_389_13 hs_a0 sl_13_58 kd28_66.2.2.2.2.2.2.2.2.2.2.2 (fun z111 ez111 lz111 uz111 => ?_)
      refine X_icmp_ge hK 70 (by omega) (by omega) kd28_67.1 (by decide) (fun c112 => ?_) (fun c112 => ?_)
      · refine X_iloadn hK (i := 3) 1 kd28_69.2.2.2.2.2.2.1 rfl rfl ?_
        exact hret _ _ _ _ _ _ _ kd28_69.2.2.2.2.2.2.2.1 ⟨rfl, rfl, z92, rfl, (by omega), (by omega), (fun h9 => by have h8 := v110 h9; exact h8)⟩ (Nat.le_refl _) (Nat.le_refl _)
      · refine X_aloadn hK (i := 0) 2 kd28_67.2.1 rfl rfl ?_
        refine X_getK hK fl_X12_129_13 hs_a0 ewc kd28_67.2.2.1 ?_
        refine X_iload hK (i := 4) 0 kd28_67.2.2.2.1 rfl ?_
        refine X_zald hK hs_wc (by decide) sl_19501 (by omega) (by omega) kd28_67.2.2.2.2.1 (fun z113 ez113 lz113 uz113 => ?_)
        have hvz113 := xv_e (j := z91) ez113 (by omega)
        refine X_if_ne hK 64 (by omega) kd28_67.2.2.2.2.2.1 (by decide) (fun c114 => ?_) (fun c114 => ?_)
        · refine X_iinc hK (i := 4) (z := z91) (n := 1) 0 [(4, .int (iI (z91 + 1))), (3, .int (iI z92)), (0, .ref a0), (1, .int (iI x1)), (2, .int (iI x2))] kd28_69.2.2.2.2.1 rfl (by decide) rfl ?_
          refine X_goto hK 5 kd28_69.2.2.2.2.2.1 (by decide) ?_
          exact ihP109  (z91 + 1) (by omega) (by omega) z92 (by omega) (by omega) (fun h9 => by first | exact v110 h9 | exact ⟨by omega, by omega⟩) (by omega)
        · refine X_aloadn hK (i := 0) 2 kd28_67.2.2.2.2.2.2.1 rfl rfl ?_
          refine X_getr hK 16600 200 fl_X12_96_13 hs_a0 sl_13_50 kd28_67.2.2.2.2.2.2.2.1 (fun b115 eb115 hs_b115 => ?_)
          refine X_iload hK (i := 4) 0 kd28_67.2.2.2.2.2.2.2.2.1 rfl ?_
          refine X_iald hK hs_b115 (by decide) sl_16600 (by omega) (by omega) kd28_67.2.2.2.2.2.2.2.2.2.1 (fun z116 ez116 lz116 uz116 => ?_)
          refine X_iloadn hK (i := 1) 3 kd28_67.2.2.2.2.2.2.2.2.2.2.1 rfl rfl ?_
          refine X_icmp_ne hK 64 (by omega) (by omega) kd28_67.2.2.2.2.2.2.2.2.2.2.2 (by decide) (fun c117 => ?_) (fun c117 => ?_)
          · refine X_iinc hK (i := 4) (z := z91) (n := 1) 0 [(4, .int (iI (z91 + 1))), (3, .int (iI z92)), (0, .ref a0), (1, .int (iI x1)), (2, .int (iI x2))] kd28_69.2.2.2.2.1 rfl (by decide) rfl ?_
            refine X_goto hK 5 kd28_69.2.2.2.2.2.1 (by decide) ?_
            exact ihP109  (z91 + 1) (by omega) (by omega) z92 (by omega) (by omega) (fun h9 => by first | exact v110 h9 | exact ⟨by omega, by omega⟩) (by omega)
          · refine X_aloadn hK (i := 0) 2 kd28_68.1 rfl rfl ?_
            refine X_getr hK 16500 200 fl_X12_93_13 hs_a0 sl_13_49 kd28_68.2.1 (fun b118 eb118 hs_b118 => ?_)
            refine X_iload hK (i := 4) 0 kd28_68.2.2.1 rfl ?_
            refine X_iald hK hs_b118 (by decide) sl_16500 (by omega) (by omega) kd28_68.2.2.2.1 (fun z119 ez119 lz119 uz119 => ?_)
            refine X_iloadn hK (i := 2) 4 kd28_68.2.2.2.2.1 rfl rfl ?_
            refine X_icmp_ne hK 64 (by omega) (by omega) kd28_68.2.2.2.2.2.1 (by decide) (fun c120 => ?_) (fun c120 => ?_)
            · refine X_iinc hK (i := 4) (z := z91) (n := 1) 0 [(4, .int (iI (z91 + 1))), (3, .int (iI z92)), (0, .ref a0), (1, .int (iI x1)), (2, .int (iI x2))] kd28_69.2.2.2.2.1 rfl (by decide) rfl ?_
              refine X_goto hK 5 kd28_69.2.2.2.2.2.1 (by decide) ?_
              exact ihP109  (z91 + 1) (by omega) (by omega) z92 (by omega) (by omega) (fun h9 => by first | exact v110 h9 | exact ⟨by omega, by omega⟩) (by omega)
            · refine X_iloadn hK (i := 3) 1 kd28_68.2.2.2.2.2.2.1 rfl rfl ?_
              refine X_iconst hK kd28_68.2.2.2.2.2.2.2.1 ?_
              refine X_icmp_eq hK 61 (by omega) (by omega) kd28_68.2.2.2.2.2.2.2.2.1 (by decide) (fun c121 => ?_) (fun c121 => ?_)
              · refine X_iload hK (i := 4) 0 kd28_69.2.2.1 rfl ?_
                refine X_istoren hK (i := 3) [(3, .int (iI z91)), (4, .int (iI z91)), (0, .ref a0), (1, .int (iI x1)), (2, .int (iI x2))] kd28_69.2.2.2.1 rfl (by decide) rfl ?_
                refine X_iinc hK (i := 4) (z := z91) (n := 1) 1 [(4, .int (iI (z91 + 1))), (3, .int (iI z91)), (0, .ref a0), (1, .int (iI x1)), (2, .int (iI x2))] kd28_69.2.2.2.2.1 rfl (by decide) rfl ?_
                refine X_goto hK 5 kd28_69.2.2.2.2.2.1 (by decide) ?_
                exact ihP109  (z91 + 1) (by omega) (by omega) z91 (by omega) (by omega) (fun h9 => by first | exact v110 h9 | exact ⟨by omega, by omega⟩) (by omega)
              · refine X_aloadn hK (i := 0) 2 kd28_68.2.2.2.2.2.2.2.2.2.1 rfl rfl ?_
                refine X_iload hK (i := 4) 0 kd28_68.2.2.2.2.2.2.2.2.2.2.1 rfl ?_
                refine X_iloadn hK (i := 3) 1 kd28_68.2.2.2.2.2.2.2.2.2.2.2 rfl rfl ?_
                refine X_callV hK [.int (iI z91), .int (iI z92)] [] lk_X12_408 (c_X12_isAhead _ _ _ _ _ S g a0 z91 z92 hs_a0 (by omega) (by omega)) hs_a0 ⟨by decide, rfl⟩ kd28_69.1 rfl rfl (by simp [Value.category]) (by decide) (by decide) (by decide) (by decide) (fun r122 S124 g123 pr122 qr122 hg123 => ?_)
                obtain ⟨rfl, rfl, z125, rfl, lz125, uz125⟩ := pr122
                refine X_st [.int (iI z125)] rfl ?_
                refine X_if_eq hK 64 (by omega) kd28_69.2.1 (by decide) (fun c126 => ?_) (fun c126 => ?_)
                · refine X_iinc hK (i := 4) (z := z91) (n := 1) 0 [(4, .int (iI (z91 + 1))), (3, .int (iI z92)), (0, .ref a0), (1, .int (iI x1)), (2, .int (iI x2))] kd28_69.2.2.2.2.1 rfl (by decide) rfl ?_
                  refine X_goto hK 5 kd28_69.2.2.2.2.2.1 (by decide) ?_
                  exact ihP109  (z91 + 1) (by omega) (by omega) z92 (by omega) (by omega) (fun h9 => by first | exact v110 h9 | exact ⟨by omega, by omega⟩) (by omega)
                · refine X_iload hK (i := 4) 0 kd28_69.2.2.1 rfl ?_
                  refine X_istoren hK (i := 3) [(3, .int (iI z91)), (4, .int (iI z91)), (0, .ref a0), (1, .int (iI x1)), (2, .int (iI x2))] kd28_69.2.2.2.1 rfl (by decide) rfl ?_
                  refine X_iinc hK (i := 4) (z := z91) (n := 1) 1 [(4, .int (iI (z91 + 1))), (3, .int (iI z91)), (0, .ref a0), (1, .int (iI x1)), (2, .int (iI x2))] kd28_69.2.2.2.2.1 rfl (by decide) rfl ?_
                  refine X_goto hK 5 kd28_69.2.2.2.2.2.1 (by decide) ?_
                  exact ihP109  (z91 + 1) (by omega) (by omega) z91 (by omega) (by omega) (fun h9 => by first | exact v110 h9 | exact ⟨by omega, by omega⟩) (by omega)
  exact P109 ((216 - 0 : Int).toNat + 1) 0 (by omega) (by omega) (-1) (by omega) (by omega) (fun h9 => by omega) (by omega)

set_option maxHeartbeats 4000000 in
set_option maxRecDepth 100000 in
theorem c_X12_cry (l : Launch) (D : va_G) (kA : Nat → ClassId) (b0 : Nat) (t0 : Nat → Nat) (S : xT) (g : xG) (a0 : Nat) (x1 : Int) (x2 : Int) (wo : Nat) (wf : Nat) (wu : Nat) (wp : Nat) (wc : Nat) (hs_a0 : S a0 = some (13, 0)) (hx1 : 0 ≤ x1 ∧ x1 ≤ 399) (hx2 : (-1) ≤ x2 ∧ x2 ≤ 10) (ewo : g a0 29 = .ref wo) (hs_wo : S wo = some (15300, 11)) (ewf : g a0 33 = .ref wf) (hs_wf : S wf = some (15700, 176)) (ewu : g a0 34 = .ref wu) (hs_wu : S wu = some (15800, 176)) (ewp : g a0 35 = .ref wp) (hs_wp : S wp = some (15900, 1320)) (ewc : g a0 62 = .ref wc) (hs_wc : S wc = some (19501, 200)) (hp0 : xTq (xv g wo) (xv g wf) (xv g wu) (xv g wp) x2) : xMt l yX12_cry cX12_cry 9 none 3 0 0 68 D kA b0 t0 [(19501, 0), (17400, 0), (16300, 0), (13, 47), (19401, 0), (17500, 0), (19601, 0)] [.ref a0, .int (iI x1), .int (iI x2)] S g (fun (r : Option Value) (S1 : xT) (g1 : xG) => S = S1 ∧ r = none) := by
  refine xEnterV (by decide) (by simp [lg_sl, Value.category]) [(0, .ref a0), (1, .int (iI x1)), (2, .int (iI x2))] rfl ?_
  intro K E hK hret _ _ _
  refine X_iconst hK kd53_21.2.2.2.2.2.2.2.2.2.1 ?_
  refine X_istoren hK (i := 3) [(3, .int (iI 0)), (0, .ref a0), (1, .int (iI x1)), (2, .int (iI x2))] kd53_21.2.2.2.2.2.2.2.2.2.2.1 rfl (by decide) rfl ?_
  have P54427 : ∀ (nP54427 : Nat) (g48910 : xG) (_ : xM [(19601, 0), (13, 47), (19401, 0), (16300, 0), (19501, 0)] S g g48910) (z48909 : Int) (_ : 0 ≤ z48909) (_ : z48909 ≤ 200) (_ : 216 - z48909 < (nP54427 : Int)), X K E 2 [(3, .int (iI z48909)), (0, .ref a0), (1, .int (iI x1)), (2, .int (iI x2))] [] S g48910 0 0 := by
    intro nP54427
    induction nP54427 with
    | zero => intro g48910 hg48910 z48909 lz48909 uz48909 mP54427; exact False.elim (by omega)
    | succ nP54427 ihP54427 =>
      intro g48910 hg48910 z48909 lz48909 uz48909 mP54427
      refine X_iloadn hK (i := 3) 0 kd53_21.2.2.2.2.2.2.2.2.2.2.2 rfl rfl ?_
      refine X_aloadn hK (i := 0) 1 kd53_22.1 rfl rfl ?_
      refine X_geti hK fl_X12_389_13 hs_a0 sl_13_58 kd53_22.2.1 (fun z54428 ez54428 lz54428 uz54428 => ?_)
      refine X_icmp_ge hK 75 (by omega) (by omega) kd53_22.2.2.1 (by decide) (fun c54429 => ?_) (fun c54429 => ?_)
      · refine X_iconst hK kd53_25.2.2.2.2.1 ?_
        refine X_istoren hK (i := 3) [(3, .int (iI 0)), (0, .ref a0), (1, .int (iI x1)), (2, .int (iI x2))] kd53_25.2.2.2.2.2.1 rfl (by decide) rfl ?_
        have P80013 : ∀ (nP80013 : Nat) (g75750 : xG) (_ : xM [(17500, 0), (13, 47), (19401, 0), (16300, 0), (17400, 0), (19501, 0)] S g48910 g75750) (z75749 : Int) (_ : 0 ≤ z75749) (_ : z75749 ≤ 10) (_ : 26 - z75749 < (nP80013 : Int)), X K E 77 [(3, .int (iI z75749)), (0, .ref a0), (1, .int (iI x1)), (2, .int (iI x2))] [] S g75750 0 0 := by
          intro nP80013
          induction nP80013 with
          | zero => intro g75750 hg75750 z75749 lz75749 uz75749 mP80013; exact False.elim (by omega)
          | succ nP80013 ihP80013 =>
            intro g75750 hg75750 z75749 lz75749 uz75749 mP80013
            refine X_iloadn hK (i := 3) 0 kd53_25.2.2.2.2.2.2.1 rfl rfl ?_
            refine X_bipush hK kd53_25.2.2.2.2.2.2.2.1 (by decide) ?_
            refine X_icmp_ge hK 271 (by omega) (by omega) kd53_25.2.2.2.2.2.2.2.2.1 (by decide) (fun c80014 => ?_) (fun c80014 => ?_)
            · exact hret _ _ _ _ _ _ kd53_34.2.1 ⟨rfl, rfl⟩ (Nat.le_refl _) (Nat.le_refl _)
            · refine X_iconst hK kd53_25.2.2.2.2.2.2.2.2.2.1 ?_
              refine X_istore hK (i := 4) [(4, .int (iI 0)), (3, .int (iI z75749)), (0, .ref a0), (1, .int (iI x1)), (2, .int (iI x2))] kd53_25.2.2.2.2.2.2.2.2.2.2.1 (by decide) rfl ?_
              have P83668 : ∀ (nP83668 : Nat) (g83060 : xG) (_ : xM [(17500, 0), (13, 47), (19401, 0), (16300, 0), (17400, 0), (19501, 0)] S g75750 g83060) (z83059 : Int) (_ : 0 ≤ z83059) (_ : z83059 ≤ 4) (_ : 20 - z83059 < (nP83668 : Int)), X K E 86 [(4, .int (iI z83059)), (3, .int (iI z75749)), (0, .ref a0), (1, .int (iI x1)), (2, .int (iI x2))] [] S g83060 0 0 := by
                intro nP83668
                induction nP83668 with
                | zero => intro g83060 hg83060 z83059 lz83059 uz83059 mP83668; exact False.elim (by omega)
                | succ nP83668 ihP83668 =>
                  intro g83060 hg83060 z83059 lz83059 uz83059 mP83668
                  refine X_iload hK (i := 4) 0 kd53_25.2.2.2.2.2.2.2.2.2.2.2 rfl ?_
                  refine X_iconst hK kd53_26.1 ?_
                  refine X_icmp_ge hK 265 (by omega) (by omega) kd53_26.2.1 (by decide) (fun c83669 => ?_) (fun c83669 => ?_)
                  · refine X_iinc hK (i := 3) (z := z75749) (n := 1) 1 [(3, .int (iI (z75749 + 1))), (4, .int (iI z83059)), (0, .ref a0), (1, .int (iI x1)), (2, .int (iI x2))] kd53_33.2.2.2.2.2.2.2.2.2.2.2 rfl (by decide) rfl ?_
                    refine X_goto hK 77 kd53_34.1 (by decide) ?_
                    refine X_lv [(3, .int (iI (z75749 + 1))), (0, .ref a0), (1, .int (iI x1)), (2, .int (iI x2))] [0, 2, 3, 4] rfl ?_
                    exact ihP80013  g83060 (xM.tr (xM.tr xM.rf xLe.rf hg75750 (by decide)) xLe.rf hg83060 (by decide)) (z75749 + 1) (by omega) (by omega) (by omega)
                  · refine X_aloadn hK (i := 0) 2 kd53_26.2.2.1 rfl rfl ?_
                    refine X_iloadn hK (i := 3) 1 kd53_26.2.2.2.1 rfl rfl ?_
                    refine X_iload hK (i := 4) 0 kd53_26.2.2.2.2.1 rfl ?_
                    refine X_aloadn hK (i := 0) 2 kd53_26.2.2.2.2.2.1 rfl rfl ?_
                    refine X_iloadn hK (i := 1) 3 kd53_26.2.2.2.2.2.2.1 rfl rfl ?_
                    refine X_know hs_a0 (by decide) sl_13_17 (fun z83670 ez83670 lz83670 uz83670 => ?_)
                    refine X_knowr 14700 400 hs_a0 (by decide) sl_13_10 (fun b83671 eb83671 hs_b83671 => ?_)
                    refine X_callV hK [.int (iI x1)] [.int (iI z83059), .int (iI z75749), .ref a0] lk_X12_232 (c_X12_skyOf _ _ _ _ _ S g83060 a0 x1 z83670 b83671 hs_a0 (by omega) (by omega) ez83670 eb83671 hs_b83671) hs_a0 ⟨by decide, rfl⟩ kd53_26.2.2.2.2.2.2.2.1 rfl rfl (by simp [Value.category]) (by decide) (by decide) (by decide) (by decide) (fun r83672 S83674 g83673 pr83672 qr83672 hg83673 => ?_)
                    obtain ⟨rfl, rfl, z83675, rfl, lz83675, uz83675, k83676⟩ := pr83672
                    refine X_st [.int (iI z83675), .int (iI z83059), .int (iI z75749), .ref a0] rfl ?_
                    refine X_aloadn hK (i := 0) 2 kd53_26.2.2.2.2.2.2.2.2.1 rfl rfl ?_
                    refine X_getr hK 14800 1600 fl_X12_35_13 hs_a0 sl_13_11 kd53_26.2.2.2.2.2.2.2.2.2.1 (fun b83677 eb83677 hs_b83677 => ?_)
                    refine X_sipush hK kd53_26.2.2.2.2.2.2.2.2.2.2.1 (by decide) ?_
                    refine X_iload hK (i := 4) 0 kd53_26.2.2.2.2.2.2.2.2.2.2.2 rfl ?_
                    refine X_imul hK kd53_27.1 ?_
                    refine X_iloadn hK (i := 1) 3 kd53_27.2.1 rfl rfl ?_
                    refine X_iadd hK kd53_27.2.2.1 ?_
                    refine X_iald hK hs_b83677 (by decide) sl_14800 (by omega) (by omega) kd53_27.2.2.2.1 (fun z83678 ez83678 lz83678 uz83678 => ?_)
                    refine X_knowr 14900 40 hs_a0 (by decide) sl_13_12 (fun b83679 eb83679 hs_b83679 => ?_)
                    refine X_knowr 15000 4 hs_a0 (by decide) sl_13_13 (fun b83680 eb83680 hs_b83680 => ?_)
                    refine X_knowr 15100 6 hs_a0 (by decide) sl_13_14 (fun b83681 eb83681 hs_b83681 => ?_)
                    refine X_callV hK [.int (iI z75749), .int (iI z83059), .int (iI z83675), .int (iI z83678)] [] lk_X12_242 (c_X12_askedOf _ _ _ _ _ S g83060 a0 z75749 z83059 z83675 z83678 b83679 b83680 b83681 hs_a0 (by omega) (by omega) (by omega) (by omega) eb83679 hs_b83679 eb83680 hs_b83680 eb83681 hs_b83681) hs_a0 ⟨by decide, rfl⟩ kd53_27.2.2.2.2.1 rfl rfl (by simp [Value.category]) (by decide) (by decide) (by decide) (by decide) (fun r83682 S83684 g83683 pr83682 qr83682 hg83683 => ?_)
                    obtain ⟨rfl, rfl, z83685, rfl, lz83685, uz83685, k83686⟩ := pr83682
                    refine X_st [.int (iI z83685)] rfl ?_
                    refine X_istore hK (i := 5) [(5, .int (iI z83685)), (4, .int (iI z83059)), (3, .int (iI z75749)), (0, .ref a0), (1, .int (iI x1)), (2, .int (iI x2))] kd53_27.2.2.2.2.2.1 (by decide) rfl ?_
                    refine X_aloadn hK (i := 0) 3 kd53_27.2.2.2.2.2.2.1 rfl rfl ?_
                    refine X_iloadn hK (i := 3) 2 kd53_27.2.2.2.2.2.2.2.1 rfl rfl ?_
                    refine X_iload hK (i := 4) 1 kd53_27.2.2.2.2.2.2.2.2.1 rfl ?_
                    refine X_callV hK [.int (iI z75749), .int (iI z83059)] [] lk_X12_405 (c2_firstAt _ _ _ _ _ S g83060 a0 z75749 z83059 wc hs_a0 (by omega) (by omega) ((hg83060 a0 13 0 62 hs_a0 (by decide)).trans ((hg75750 a0 13 0 62 hs_a0 (by decide)).trans ((hg48910 a0 13 0 62 hs_a0 (by decide)).trans ewc))) hs_wc) hs_a0 ⟨by decide, rfl⟩ kd53_27.2.2.2.2.2.2.2.2.2.1 rfl rfl (by simp [Value.category]) (by decide) (by decide) (by decide) (by decide) (fun r83687 S83689 g83688 pr83687 qr83687 hg83688 => ?_)
                    obtain ⟨rfl, rfl, z83690, rfl, lz83690, uz83690, k83691⟩ := pr83687
                    refine X_st [.int (iI z83690)] rfl ?_
                    refine X_istore hK (i := 6) [(6, .int (iI z83690)), (5, .int (iI z83685)), (4, .int (iI z83059)), (3, .int (iI z75749)), (0, .ref a0), (1, .int (iI x1)), (2, .int (iI x2))] kd53_27.2.2.2.2.2.2.2.2.2.2.1 (by decide) rfl ?_
                    have P84179 : ∀ (nP84179 : Nat) (g84083 : xG) (_ : xM [(17500, 0), (13, 47), (19401, 0), (16300, 0), (17400, 0), (19501, 0)] S g83060 g84083) (z84081 : Int) (_ : (-1) ≤ z84081) (_ : z84081 ≤ 199) (z84082 : Int) (_ : (-2147483648) ≤ z84082) (_ : z84082 ≤ 2147483647) (_ : z84081 ≠ -1 → xv g84083 wc z84081 = 0) (_ : ((xuc (xv g84083 wc) : Nat) : Int) < (nP84179 : Int)), X K E 128 [(6, .int (iI z84081)), (5, .int (iI z84082)), (4, .int (iI z83059)), (3, .int (iI z75749)), (0, .ref a0), (1, .int (iI x1)), (2, .int (iI x2))] [] S g84083 0 0 := by
                      intro nP84179
                      induction nP84179 with
                      | zero => intro g84083 hg84083 z84081 lz84081 uz84081 z84082 lz84082 uz84082 v84180 mP84179; exact False.elim (by omega)
                      | succ nP84179 ihP84179 =>
                        intro g84083 hg84083 z84081 lz84081 uz84081 z84082 lz84082 uz84082 v84180 mP84179
                        refine X_iload hK (i := 6) 0 kd53_27.2.2.2.2.2.2.2.2.2.2.2 rfl ?_
                        refine X_iconst hK kd53_28.1 ?_
                        refine X_icmp_eq hK 259 (by omega) (by omega) kd53_28.2.1 (by decide) (fun c84181 => ?_) (fun c84181 => ?_)
                        · refine X_iinc hK (i := 4) (z := z83059) (n := 1) 2 [(4, .int (iI (z83059 + 1))), (6, .int (iI z84081)), (5, .int (iI z84082)), (3, .int (iI z75749)), (0, .ref a0), (1, .int (iI x1)), (2, .int (iI x2))] kd53_33.2.2.2.2.2.2.2.2.2.1 rfl (by decide) rfl ?_
                          refine X_goto hK 86 kd53_33.2.2.2.2.2.2.2.2.2.2.1 (by decide) ?_
                          refine X_lv [(4, .int (iI (z83059 + 1))), (3, .int (iI z75749)), (0, .ref a0), (1, .int (iI x1)), (2, .int (iI x2))] [0, 3, 4, 5, 6] rfl ?_
                          exact ihP83668  g84083 (xM.tr (xM.tr xM.rf xLe.rf hg83060 (by decide)) xLe.rf hg84083 (by decide)) (z83059 + 1) (by omega) (by omega) (by omega)
                        · refine X_aloadn hK (i := 0) 4 kd53_28.2.2.1 rfl rfl ?_
                          refine X_getK hK fl_X12_129_13 hs_a0 ((hg84083 a0 13 0 62 hs_a0 (by decide)).trans ((hg83060 a0 13 0 62 hs_a0 (by decide)).trans ((hg75750 a0 13 0 62 hs_a0 (by decide)).trans ((hg48910 a0 13 0 62 hs_a0 (by decide)).trans ewc)))) kd53_28.2.2.2.1 ?_
                          refine X_iload hK (i := 6) 0 kd53_28.2.2.2.2.1 rfl ?_
                          refine X_iconst hK kd53_28.2.2.2.2.2.1 ?_
                          refine X_zast hK hs_wc (by decide) (by decide) sl_19501 (by omega) (by omega) (by omega) (by omega) kd53_28.2.2.2.2.2.2.1 (fun g84182 hg84182 => ?_)
                          refine X_aloadn hK (i := 0) 4 kd53_28.2.2.2.2.2.2.2.1 rfl rfl ?_
                          refine X_getr hK 19601 200 fl_X12_132_13 hs_a0 sl_13_63 kd53_28.2.2.2.2.2.2.2.2.1 (fun b84183 eb84183 hs_b84183 => ?_)
                          refine X_iload hK (i := 6) 0 kd53_28.2.2.2.2.2.2.2.2.2.1 rfl ?_
                          refine X_zald hK hs_b84183 (by decide) sl_19601 (by omega) (by omega) kd53_28.2.2.2.2.2.2.2.2.2.2.1 (fun z84184 ez84184 lz84184 uz84184 => ?_)
                          refine X_if_ne hK 156 (by omega) kd53_28.2.2.2.2.2.2.2.2.2.2.2 (by decide) (fun c84185 => ?_) (fun c84185 => ?_)
                          · refine X_aloadn hK (i := 0) 4 kd53_29.2.2.1 rfl rfl ?_
                            refine X_getr hK 16700 200 fl_X12_99_13 hs_a0 sl_13_51 kd53_29.2.2.2.1 (fun b84186 eb84186 hs_b84186 => ?_)
                            refine X_iload hK (i := 6) 0 kd53_29.2.2.2.2.1 rfl ?_
                            refine X_iald hK hs_b84186 (by decide) sl_16700 (by omega) (by omega) kd53_29.2.2.2.2.2.1 (fun z84187 ez84187 lz84187 uz84187 => ?_)
                            refine X_iload hK (i := 5) 1 kd53_29.2.2.2.2.2.2.1 rfl ?_
                            refine X_icmp_ge hK 178 (by omega) (by omega) kd53_29.2.2.2.2.2.2.2.1 (by decide) (fun c84188 => ?_) (fun c84188 => ?_)
                            · refine X_iload hK (i := 5) 1 kd53_30.2.1 rfl ?_
                              refine X_istore hK (i := 7) [(7, .int (iI z84082)), (6, .int (iI z84081)), (5, .int (iI z84082)), (4, .int (iI z83059)), (3, .int (iI z75749)), (0, .ref a0), (1, .int (iI x1)), (2, .int (iI x2))] kd53_30.2.2.1 (by decide) rfl ?_
                              refine X_iload hK (i := 5) 2 kd53_30.2.2.2.1 rfl ?_
                              refine X_iload hK (i := 7) 0 kd53_30.2.2.2.2.1 rfl ?_
                              refine X_isub hK kd53_30.2.2.2.2.2.1 ?_
                              refine X_norm (fun z84189 ez84189 lz84189 uz84189 => ?_)
                              refine X_istore hK (i := 5) [(5, .int (iI z84189)), (7, .int (iI z84082)), (6, .int (iI z84081)), (4, .int (iI z83059)), (3, .int (iI z75749)), (0, .ref a0), (1, .int (iI x1)), (2, .int (iI x2))] kd53_30.2.2.2.2.2.2.1 (by decide) rfl ?_
                              refine X_aloadn hK (i := 0) 5 kd53_30.2.2.2.2.2.2.2.1 rfl rfl ?_
                              refine X_getr hK 17400 200 fl_X12_123_13 hs_a0 sl_13_60 kd53_30.2.2.2.2.2.2.2.2.1 (fun b84190 eb84190 hs_b84190 => ?_)
                              refine X_iload hK (i := 6) 2 kd53_30.2.2.2.2.2.2.2.2.2.1 rfl ?_
                              refine X_iload hK (i := 7) 1 kd53_30.2.2.2.2.2.2.2.2.2.2.1 rfl ?_
                              refine X_iast hK hs_b84190 (by decide) (by decide) sl_17400 (by omega) (by omega) (by omega) (by omega) kd53_30.2.2.2.2.2.2.2.2.2.2.2 (fun g84191 hg84191 => ?_)
                              refine X_aloadn hK (i := 0) 5 kd53_31.1 rfl rfl ?_
                              refine X_iload hK (i := 6) 2 kd53_31.2.1 rfl ?_
                              refine X_callV hK [.int (iI z84081)] [] lk_X12_402 (c_X12_askOf _ _ _ _ _ S g84191 a0 z84081 hs_a0 (by omega)) hs_a0 ⟨by decide, rfl⟩ kd53_31.2.2.1 rfl rfl (by simp [Value.category]) (by decide) (by decide) (by decide) (by decide) (fun r84192 S84194 g84193 pr84192 qr84192 hg84193 => ?_)
                              obtain ⟨rfl, rfl⟩ := pr84192
                              refine X_st [] rfl ?_
                              refine X_aloadn hK (i := 0) 5 kd53_31.2.2.2.1 rfl rfl ?_
                              refine X_iloadn hK (i := 2) 7 kd53_31.2.2.2.2.1 rfl rfl ?_
                              refine X_iconst hK kd53_31.2.2.2.2.2.1 ?_
                              refine X_callV hK [.int (iI x2), .int (iI 2)] [] lk_X12_395 (c_X12_tells _ _ _ _ _ S g84193 a0 x2 2 wo wf wu wp hs_a0 (by omega) (by omega) ((hg84193 a0 13 0 29 hs_a0 (by decide)).trans ((xs_a hg84191 (xne hs_a0 hs_b84190 (by decide))).trans ((xs_a hg84182 (xne hs_a0 hs_wc (by decide))).trans ((hg84083 a0 13 0 29 hs_a0 (by decide)).trans ((hg83060 a0 13 0 29 hs_a0 (by decide)).trans ((hg75750 a0 13 0 29 hs_a0 (by decide)).trans ((hg48910 a0 13 0 29 hs_a0 (by decide)).trans ewo))))))) hs_wo ((hg84193 a0 13 0 33 hs_a0 (by decide)).trans ((xs_a hg84191 (xne hs_a0 hs_b84190 (by decide))).trans ((xs_a hg84182 (xne hs_a0 hs_wc (by decide))).trans ((hg84083 a0 13 0 33 hs_a0 (by decide)).trans ((hg83060 a0 13 0 33 hs_a0 (by decide)).trans ((hg75750 a0 13 0 33 hs_a0 (by decide)).trans ((hg48910 a0 13 0 33 hs_a0 (by decide)).trans ewf))))))) hs_wf ((hg84193 a0 13 0 34 hs_a0 (by decide)).trans ((xs_a hg84191 (xne hs_a0 hs_b84190 (by decide))).trans ((xs_a hg84182 (xne hs_a0 hs_wc (by decide))).trans ((hg84083 a0 13 0 34 hs_a0 (by decide)).trans ((hg83060 a0 13 0 34 hs_a0 (by decide)).trans ((hg75750 a0 13 0 34 hs_a0 (by decide)).trans ((hg48910 a0 13 0 34 hs_a0 (by decide)).trans ewu))))))) hs_wu ((hg84193 a0 13 0 35 hs_a0 (by decide)).trans ((xs_a hg84191 (xne hs_a0 hs_b84190 (by decide))).trans ((xs_a hg84182 (xne hs_a0 hs_wc (by decide))).trans ((hg84083 a0 13 0 35 hs_a0 (by decide)).trans ((hg83060 a0 13 0 35 hs_a0 (by decide)).trans ((hg75750 a0 13 0 35 hs_a0 (by decide)).trans ((hg48910 a0 13 0 35 hs_a0 (by decide)).trans ewp))))))) hs_wp (by rw [(Eq.trans (Eq.trans (Eq.trans (Eq.trans (Eq.trans (Eq.trans (xv_m hg84193 hs_wo (by decide) (by decide)) (xv_a hg84191 (xne hs_wo hs_b84190 (by decide)))) (xv_a hg84182 (xne hs_wo hs_wc (by decide)))) (xv_m hg84083 hs_wo (by decide) (by decide))) (xv_m hg83060 hs_wo (by decide) (by decide))) (xv_m hg75750 hs_wo (by decide) (by decide))) (xv_m hg48910 hs_wo (by decide) (by decide))), (Eq.trans (Eq.trans (Eq.trans (Eq.trans (Eq.trans (Eq.trans (xv_m hg84193 hs_wf (by decide) (by decide)) (xv_a hg84191 (xne hs_wf hs_b84190 (by decide)))) (xv_a hg84182 (xne hs_wf hs_wc (by decide)))) (xv_m hg84083 hs_wf (by decide) (by decide))) (xv_m hg83060 hs_wf (by decide) (by decide))) (xv_m hg75750 hs_wf (by decide) (by decide))) (xv_m hg48910 hs_wf (by decide) (by decide))), (Eq.trans (Eq.trans (Eq.trans (Eq.trans (Eq.trans (Eq.trans (xv_m hg84193 hs_wu (by decide) (by decide)) (xv_a hg84191 (xne hs_wu hs_b84190 (by decide)))) (xv_a hg84182 (xne hs_wu hs_wc (by decide)))) (xv_m hg84083 hs_wu (by decide) (by decide))) (xv_m hg83060 hs_wu (by decide) (by decide))) (xv_m hg75750 hs_wu (by decide) (by decide))) (xv_m hg48910 hs_wu (by decide) (by decide))), (Eq.trans (Eq.trans (Eq.trans (Eq.trans (Eq.trans (Eq.trans (xv_m hg84193 hs_wp (by decide) (by decide)) (xv_a hg84191 (xne hs_wp hs_b84190 (by decide)))) (xv_a hg84182 (xne hs_wp hs_wc (by decide)))) (xv_m hg84083 hs_wp (by decide) (by decide))) (xv_m hg83060 hs_wp (by decide) (by decide))) (xv_m hg75750 hs_wp (by decide) (by decide))) (xv_m hg48910 hs_wp (by decide) (by decide)))]; exact hp0)) hs_a0 ⟨by decide, rfl⟩ kd53_31.2.2.2.2.2.2.1 rfl rfl (by simp [Value.category]) (by decide) (by decide) (by decide) (by decide) (fun r84195 S84197 g84196 pr84195 qr84195 hg84196 => ?_)
                              obtain ⟨rfl, z84198, rfl, lz84198, uz84198⟩ := pr84195
                              refine X_st [.int (iI z84198)] rfl ?_
                              refine X_istore hK (i := 8) [(8, .int (iI z84198)), (5, .int (iI z84189)), (7, .int (iI z84082)), (6, .int (iI z84081)), (4, .int (iI z83059)), (3, .int (iI z75749)), (0, .ref a0), (1, .int (iI x1)), (2, .int (iI x2))] kd53_31.2.2.2.2.2.2.2.1 (by decide) rfl ?_
                              refine X_aloadn hK (i := 0) 6 kd53_31.2.2.2.2.2.2.2.2.1 rfl rfl ?_
                              refine X_getr hK 17500 200 fl_X12_126_13 hs_a0 sl_13_61 kd53_31.2.2.2.2.2.2.2.2.2.1 (fun b84199 eb84199 hs_b84199 => ?_)
                              refine X_iload hK (i := 6) 3 kd53_31.2.2.2.2.2.2.2.2.2.2.1 rfl ?_
                              refine X_aloadn hK (i := 0) 6 kd53_31.2.2.2.2.2.2.2.2.2.2.2 rfl rfl ?_
                              refine X_getK hK fl_X12_99_13 hs_a0 ((hg84196 a0 13 0 51 hs_a0 (by decide)).trans ((hg84193 a0 13 0 51 hs_a0 (by decide)).trans ((xs_a hg84191 (xne hs_a0 hs_b84190 (by decide))).trans eb84186))) kd53_32.1 ?_
                              refine X_iload hK (i := 6) 3 kd53_32.2.1 rfl ?_
                              refine X_ialdK hK hs_b84186 (by decide) (by omega) (by omega) ((hg84196 _ _ _ _ hs_b84186 (by rw [xky_a (by decide)]; decide)).trans ((hg84193 _ _ _ _ hs_b84186 (by rw [xky_a (by decide)]; decide)).trans ((xs_a hg84191 (xne hs_b84186 hs_b84190 (by decide))).trans ez84187))) kd53_32.2.2.1 ?_
                              refine X_iload hK (i := 7) 2 kd53_32.2.2.2.1 rfl ?_
                              refine X_isub hK kd53_32.2.2.2.2.1 ?_
                              refine X_norm (fun z84200 ez84200 lz84200 uz84200 => ?_)
                              refine X_iload hK (i := 8) 0 kd53_32.2.2.2.2.2.1 rfl ?_
                              refine X_bipush hK kd53_32.2.2.2.2.2.2.1 (by decide) ?_
                              refine X_icmp_le hK 240 (by omega) (by omega) kd53_32.2.2.2.2.2.2.2.1 (by decide) (fun c84201 => ?_) (fun c84201 => ?_)
                              · refine X_iload hK (i := 8) 0 kd53_32.2.2.2.2.2.2.2.2.2.2.1 rfl ?_
                                refine X_imul hK kd53_32.2.2.2.2.2.2.2.2.2.2.2 ?_
                                refine X_norm (fun z84202 ez84202 lz84202 uz84202 => ?_)
                                refine X_bipush hK kd53_33.1 (by decide) ?_
                                refine X_idiv hK (by omega) (by omega) kd53_33.2.1 (fun z84203 ez84203 fz84203 => ?_)
                                have bz84203 : -21474836 ≤ z84203 ∧ z84203 ≤ 21474836 := by omega
                                refine X_iast hK hs_b84199 (by decide) (by decide) sl_17500 (by omega) (by omega) (by omega) (by omega) kd53_33.2.2.1 (fun g84204 hg84204 => ?_)
                                refine X_aloadn hK (i := 0) 6 kd53_33.2.2.2.1 rfl rfl ?_
                                refine X_iloadn hK (i := 3) 5 kd53_33.2.2.2.2.1 rfl rfl ?_
                                refine X_iload hK (i := 4) 4 kd53_33.2.2.2.2.2.1 rfl ?_
                                refine X_callV hK [.int (iI z75749), .int (iI z83059)] [] lk_X12_405 (c2_firstAt _ _ _ _ _ S g84204 a0 z75749 z83059 wc hs_a0 (by omega) (by omega) ((xs_a hg84204 (xne hs_a0 hs_b84199 (by decide))).trans ((hg84196 a0 13 0 62 hs_a0 (by decide)).trans ((hg84193 a0 13 0 62 hs_a0 (by decide)).trans ((xs_a hg84191 (xne hs_a0 hs_b84190 (by decide))).trans ((xs_a hg84182 (xne hs_a0 hs_wc (by decide))).trans ((hg84083 a0 13 0 62 hs_a0 (by decide)).trans ((hg83060 a0 13 0 62 hs_a0 (by decide)).trans ((hg75750 a0 13 0 62 hs_a0 (by decide)).trans ((hg48910 a0 13 0 62 hs_a0 (by decide)).trans ewc))))))))) hs_wc) hs_a0 ⟨by decide, rfl⟩ kd53_33.2.2.2.2.2.2.1 rfl rfl (by simp [Value.category]) (by decide) (by decide) (by decide) (by decide) (fun r84205 S84207 g84206 pr84205 qr84205 hg84206 => ?_)
                                obtain ⟨rfl, rfl, z84208, rfl, lz84208, uz84208, k84209⟩ := pr84205
                                refine X_st [.int (iI z84208)] rfl ?_
                                have huh84210 : xuc (xv g84083 wc) = xuc (xv g84204 wc) + 1 := xuc_s (j := z84081) (by omega) (v84180 (by omega)) (show xv g84204 wc z84081 = 1 from by rw [(xv_a hg84204 (xne hs_wc hs_b84199 (by decide))), (xv_m hg84196 hs_wc (by decide) (by decide)), (xv_m hg84193 hs_wc (by decide) (by decide)), (xv_a hg84191 (xne hs_wc hs_b84190 (by decide))), xv_s hg84182 (by omega)]) (fun i9 hi9 h09 => (show xv g84204 wc i9 = xv g84083 wc i9 from by rw [(xv_a hg84204 (xne hs_wc hs_b84199 (by decide))), (xv_m hg84196 hs_wc (by decide) (by decide)), (xv_m hg84193 hs_wc (by decide) (by decide)), (xv_a hg84191 (xne hs_wc hs_b84190 (by decide))), (xv_k (i := i9) hg84182 (by omega) (by omega) (by omega))]))
                                refine X_istore hK (i := 6) [(6, .int (iI z84208)), (8, .int (iI z84198)), (5, .int (iI z84189)), (7, .int (iI z84082)), (4, .int (iI z83059)), (3, .int (iI z75749)), (0, .ref a0), (1, .int (iI x1)), (2, .int (iI x2))] kd53_33.2.2.2.2.2.2.2.1 (by decide) rfl ?_
                                refine X_goto hK 128 kd53_33.2.2.2.2.2.2.2.2.1 (by decide) ?_
                                refine X_lv [(6, .int (iI z84208)), (5, .int (iI z84189)), (4, .int (iI z83059)), (3, .int (iI z75749)), (0, .ref a0), (1, .int (iI x1)), (2, .int (iI x2))] [0, 2, 4, 5, 6, 7, 8] rfl ?_
                                exact ihP84179  g84204 (xM_ua (xM.tr (xM.tr (xM_ua (xM_ua (xM.tr xM.rf xLe.rf hg84083 (by decide)) hg84182 hs_wc (by decide) (by decide)) hg84191 hs_b84190 (by decide) (by decide)) xLe.rf hg84193 (by decide)) xLe.rf hg84196 (by decide)) hg84204 hs_b84199 (by decide) (by decide)) z84208 (by omega) (by omega) z84189 (by omega) (by omega) (fun h9 => (k84209 h9).2) (by omega)
                              · refine X_bipush hK kd53_32.2.2.2.2.2.2.2.2.1 (by decide) ?_
                                refine X_goto hK 242 kd53_32.2.2.2.2.2.2.2.2.2.1 (by decide) ?_
                                refine X_imul hK kd53_32.2.2.2.2.2.2.2.2.2.2.2 ?_
                                refine X_norm (fun z84211 ez84211 lz84211 uz84211 => ?_)
                                refine X_bipush hK kd53_33.1 (by decide) ?_
                                refine X_idiv hK (by omega) (by omega) kd53_33.2.1 (fun z84212 ez84212 fz84212 => ?_)
                                have bz84212 : -21474836 ≤ z84212 ∧ z84212 ≤ 21474836 := by omega
                                refine X_iast hK hs_b84199 (by decide) (by decide) sl_17500 (by omega) (by omega) (by omega) (by omega) kd53_33.2.2.1 (fun g84213 hg84213 => ?_)
                                refine X_aloadn hK (i := 0) 6 kd53_33.2.2.2.1 rfl rfl ?_
                                refine X_iloadn hK (i := 3) 5 kd53_33.2.2.2.2.1 rfl rfl ?_
                                refine X_iload hK (i := 4) 4 kd53_33.2.2.2.2.2.1 rfl ?_
                                refine X_callV hK [.int (iI z75749), .int (iI z83059)] [] lk_X12_405 (c2_firstAt _ _ _ _ _ S g84213 a0 z75749 z83059 wc hs_a0 (by omega) (by omega) ((xs_a hg84213 (xne hs_a0 hs_b84199 (by decide))).trans ((hg84196 a0 13 0 62 hs_a0 (by decide)).trans ((hg84193 a0 13 0 62 hs_a0 (by decide)).trans ((xs_a hg84191 (xne hs_a0 hs_b84190 (by decide))).trans ((xs_a hg84182 (xne hs_a0 hs_wc (by decide))).trans ((hg84083 a0 13 0 62 hs_a0 (by decide)).trans ((hg83060 a0 13 0 62 hs_a0 (by decide)).trans ((hg75750 a0 13 0 62 hs_a0 (by decide)).trans ((hg48910 a0 13 0 62 hs_a0 (by decide)).trans ewc))))))))) hs_wc) hs_a0 ⟨by decide, rfl⟩ kd53_33.2.2.2.2.2.2.1 rfl rfl (by simp [Value.category]) (by decide) (by decide) (by decide) (by decide) (fun r84214 S84216 g84215 pr84214 qr84214 hg84215 => ?_)
                                obtain ⟨rfl, rfl, z84217, rfl, lz84217, uz84217, k84218⟩ := pr84214
                                refine X_st [.int (iI z84217)] rfl ?_
                                have huh84219 : xuc (xv g84083 wc) = xuc (xv g84213 wc) + 1 := xuc_s (j := z84081) (by omega) (v84180 (by omega)) (show xv g84213 wc z84081 = 1 from by rw [(xv_a hg84213 (xne hs_wc hs_b84199 (by decide))), (xv_m hg84196 hs_wc (by decide) (by decide)), (xv_m hg84193 hs_wc (by decide) (by decide)), (xv_a hg84191 (xne hs_wc hs_b84190 (by decide))), xv_s hg84182 (by omega)]) (fun i9 hi9 h09 => (show xv g84213 wc i9 = xv g84083 wc i9 from by rw [(xv_a hg84213 (xne hs_wc hs_b84199 (by decide))), (xv_m hg84196 hs_wc (by decide) (by decide)), (xv_m hg84193 hs_wc (by decide) (by decide)), (xv_a hg84191 (xne hs_wc hs_b84190 (by decide))), (xv_k (i := i9) hg84182 (by omega) (by omega) (by omega))]))
                                refine X_istore hK (i := 6) [(6, .int (iI z84217)), (8, .int (iI z84198)), (5, .int (iI z84189)), (7, .int (iI z84082)), (4, .int (iI z83059)), (3, .int (iI z75749)), (0, .ref a0), (1, .int (iI x1)), (2, .int (iI x2))] kd53_33.2.2.2.2.2.2.2.1 (by decide) rfl ?_
                                refine X_goto hK 128 kd53_33.2.2.2.2.2.2.2.2.1 (by decide) ?_
                                refine X_lv [(6, .int (iI z84217)), (5, .int (iI z84189)), (4, .int (iI z83059)), (3, .int (iI z75749)), (0, .ref a0), (1, .int (iI x1)), (2, .int (iI x2))] [0, 2, 4, 5, 6, 7, 8] rfl ?_
                                exact ihP84179  g84213 (xM_ua (xM.tr (xM.tr (xM_ua (xM_ua (xM.tr xM.rf xLe.rf hg84083 (by decide)) hg84182 hs_wc (by decide) (by decide)) hg84191 hs_b84190 (by decide) (by decide)) xLe.rf hg84193 (by decide)) xLe.rf hg84196 (by decide)) hg84213 hs_b84199 (by decide) (by decide)) z84217 (by omega) (by omega) z84189 (by omega) (by omega) (fun h9 => (k84218 h9).2) (by omega)
                            · refine X_aloadn hK (i := 0) 4 kd53_29.2.2.2.2.2.2.2.2.1 rfl rfl ?_
                              refine X_getK hK fl_X12_99_13 hs_a0 eb84186 kd53_29.2.2.2.2.2.2.2.2.2.1 ?_
                              refine X_iload hK (i := 6) 0 kd53_29.2.2.2.2.2.2.2.2.2.2.1 rfl ?_
                              refine X_ialdK hK hs_b84186 (by decide) (by omega) (by omega) ez84187 kd53_29.2.2.2.2.2.2.2.2.2.2.2 ?_
                              refine X_goto hK 180 kd53_30.1 (by decide) ?_
                              refine X_istore hK (i := 7) [(7, .int (iI z84187)), (6, .int (iI z84081)), (5, .int (iI z84082)), (4, .int (iI z83059)), (3, .int (iI z75749)), (0, .ref a0), (1, .int (iI x1)), (2, .int (iI x2))] kd53_30.2.2.1 (by decide) rfl ?_
                              refine X_iload hK (i := 5) 2 kd53_30.2.2.2.1 rfl ?_
                              refine X_iload hK (i := 7) 0 kd53_30.2.2.2.2.1 rfl ?_
                              refine X_isub hK kd53_30.2.2.2.2.2.1 ?_
                              refine X_norm (fun z84220 ez84220 lz84220 uz84220 => ?_)
                              refine X_istore hK (i := 5) [(5, .int (iI z84220)), (7, .int (iI z84187)), (6, .int (iI z84081)), (4, .int (iI z83059)), (3, .int (iI z75749)), (0, .ref a0), (1, .int (iI x1)), (2, .int (iI x2))] kd53_30.2.2.2.2.2.2.1 (by decide) rfl ?_
                              refine X_aloadn hK (i := 0) 5 kd53_30.2.2.2.2.2.2.2.1 rfl rfl ?_
                              refine X_getr hK 17400 200 fl_X12_123_13 hs_a0 sl_13_60 kd53_30.2.2.2.2.2.2.2.2.1 (fun b84221 eb84221 hs_b84221 => ?_)
                              refine X_iload hK (i := 6) 2 kd53_30.2.2.2.2.2.2.2.2.2.1 rfl ?_
                              refine X_iload hK (i := 7) 1 kd53_30.2.2.2.2.2.2.2.2.2.2.1 rfl ?_
                              refine X_iast hK hs_b84221 (by decide) (by decide) sl_17400 (by omega) (by omega) (by omega) (by omega) kd53_30.2.2.2.2.2.2.2.2.2.2.2 (fun g84222 hg84222 => ?_)
                              refine X_aloadn hK (i := 0) 5 kd53_31.1 rfl rfl ?_
                              refine X_iload hK (i := 6) 2 kd53_31.2.1 rfl ?_
                              refine X_callV hK [.int (iI z84081)] [] lk_X12_402 (c_X12_askOf _ _ _ _ _ S g84222 a0 z84081 hs_a0 (by omega)) hs_a0 ⟨by decide, rfl⟩ kd53_31.2.2.1 rfl rfl (by simp [Value.category]) (by decide) (by decide) (by decide) (by decide) (fun r84223 S84225 g84224 pr84223 qr84223 hg84224 => ?_)
                              obtain ⟨rfl, rfl⟩ := pr84223
                              refine X_st [] rfl ?_
                              refine X_aloadn hK (i := 0) 5 kd53_31.2.2.2.1 rfl rfl ?_
                              refine X_iloadn hK (i := 2) 7 kd53_31.2.2.2.2.1 rfl rfl ?_
                              refine X_iconst hK kd53_31.2.2.2.2.2.1 ?_
                              refine X_callV hK [.int (iI x2), .int (iI 2)] [] lk_X12_395 (c_X12_tells _ _ _ _ _ S g84224 a0 x2 2 wo wf wu wp hs_a0 (by omega) (by omega) ((hg84224 a0 13 0 29 hs_a0 (by decide)).trans ((xs_a hg84222 (xne hs_a0 hs_b84221 (by decide))).trans ((xs_a hg84182 (xne hs_a0 hs_wc (by decide))).trans ((hg84083 a0 13 0 29 hs_a0 (by decide)).trans ((hg83060 a0 13 0 29 hs_a0 (by decide)).trans ((hg75750 a0 13 0 29 hs_a0 (by decide)).trans ((hg48910 a0 13 0 29 hs_a0 (by decide)).trans ewo))))))) hs_wo ((hg84224 a0 13 0 33 hs_a0 (by decide)).trans ((xs_a hg84222 (xne hs_a0 hs_b84221 (by decide))).trans ((xs_a hg84182 (xne hs_a0 hs_wc (by decide))).trans ((hg84083 a0 13 0 33 hs_a0 (by decide)).trans ((hg83060 a0 13 0 33 hs_a0 (by decide)).trans ((hg75750 a0 13 0 33 hs_a0 (by decide)).trans ((hg48910 a0 13 0 33 hs_a0 (by decide)).trans ewf))))))) hs_wf ((hg84224 a0 13 0 34 hs_a0 (by decide)).trans ((xs_a hg84222 (xne hs_a0 hs_b84221 (by decide))).trans ((xs_a hg84182 (xne hs_a0 hs_wc (by decide))).trans ((hg84083 a0 13 0 34 hs_a0 (by decide)).trans ((hg83060 a0 13 0 34 hs_a0 (by decide)).trans ((hg75750 a0 13 0 34 hs_a0 (by decide)).trans ((hg48910 a0 13 0 34 hs_a0 (by decide)).trans ewu))))))) hs_wu ((hg84224 a0 13 0 35 hs_a0 (by decide)).trans ((xs_a hg84222 (xne hs_a0 hs_b84221 (by decide))).trans ((xs_a hg84182 (xne hs_a0 hs_wc (by decide))).trans ((hg84083 a0 13 0 35 hs_a0 (by decide)).trans ((hg83060 a0 13 0 35 hs_a0 (by decide)).trans ((hg75750 a0 13 0 35 hs_a0 (by decide)).trans ((hg48910 a0 13 0 35 hs_a0 (by decide)).trans ewp))))))) hs_wp (by rw [(Eq.trans (Eq.trans (Eq.trans (Eq.trans (Eq.trans (Eq.trans (xv_m hg84224 hs_wo (by decide) (by decide)) (xv_a hg84222 (xne hs_wo hs_b84221 (by decide)))) (xv_a hg84182 (xne hs_wo hs_wc (by decide)))) (xv_m hg84083 hs_wo (by decide) (by decide))) (xv_m hg83060 hs_wo (by decide) (by decide))) (xv_m hg75750 hs_wo (by decide) (by decide))) (xv_m hg48910 hs_wo (by decide) (by decide))), (Eq.trans (Eq.trans (Eq.trans (Eq.trans (Eq.trans (Eq.trans (xv_m hg84224 hs_wf (by decide) (by decide)) (xv_a hg84222 (xne hs_wf hs_b84221 (by decide)))) (xv_a hg84182 (xne hs_wf hs_wc (by decide)))) (xv_m hg84083 hs_wf (by decide) (by decide))) (xv_m hg83060 hs_wf (by decide) (by decide))) (xv_m hg75750 hs_wf (by decide) (by decide))) (xv_m hg48910 hs_wf (by decide) (by decide))), (Eq.trans (Eq.trans (Eq.trans (Eq.trans (Eq.trans (Eq.trans (xv_m hg84224 hs_wu (by decide) (by decide)) (xv_a hg84222 (xne hs_wu hs_b84221 (by decide)))) (xv_a hg84182 (xne hs_wu hs_wc (by decide)))) (xv_m hg84083 hs_wu (by decide) (by decide))) (xv_m hg83060 hs_wu (by decide) (by decide))) (xv_m hg75750 hs_wu (by decide) (by decide))) (xv_m hg48910 hs_wu (by decide) (by decide))), (Eq.trans (Eq.trans (Eq.trans (Eq.trans (Eq.trans (Eq.trans (xv_m hg84224 hs_wp (by decide) (by decide)) (xv_a hg84222 (xne hs_wp hs_b84221 (by decide)))) (xv_a hg84182 (xne hs_wp hs_wc (by decide)))) (xv_m hg84083 hs_wp (by decide) (by decide))) (xv_m hg83060 hs_wp (by decide) (by decide))) (xv_m hg75750 hs_wp (by decide) (by decide))) (xv_m hg48910 hs_wp (by decide) (by decide)))]; exact hp0)) hs_a0 ⟨by decide, rfl⟩ kd53_31.2.2.2.2.2.2.1 rfl rfl (by simp [Value.category]) (by decide) (by decide) (by decide) (by decide) (fun r84226 S84228 g84227 pr84226 qr84226 hg84227 => ?_)
                              obtain ⟨rfl, z84229, rfl, lz84229, uz84229⟩ := pr84226
                              refine X_st [.int (iI z84229)] rfl ?_
                              refine X_istore hK (i := 8) [(8, .int (iI z84229)), (5, .int (iI z84220)), (7, .int (iI z84187)), (6, .int (iI z84081)), (4, .int (iI z83059)), (3, .int (iI z75749)), (0, .ref a0), (1, .int (iI x1)), (2, .int (iI x2))] kd53_31.2.2.2.2.2.2.2.1 (by decide) rfl ?_
                              refine X_aloadn hK (i := 0) 6 kd53_31.2.2.2.2.2.2.2.2.1 rfl rfl ?_
                              refine X_getr hK 17500 200 fl_X12_126_13 hs_a0 sl_13_61 kd53_31.2.2.2.2.2.2.2.2.2.1 (fun b84230 eb84230 hs_b84230 => ?_)
                              refine X_iload hK (i := 6) 3 kd53_31.2.2.2.2.2.2.2.2.2.2.1 rfl ?_
                              refine X_aloadn hK (i := 0) 6 kd53_31.2.2.2.2.2.2.2.2.2.2.2 rfl rfl ?_
                              refine X_getK hK fl_X12_99_13 hs_a0 ((hg84227 a0 13 0 51 hs_a0 (by decide)).trans ((hg84224 a0 13 0 51 hs_a0 (by decide)).trans ((xs_a hg84222 (xne hs_a0 hs_b84221 (by decide))).trans eb84186))) kd53_32.1 ?_
                              refine X_iload hK (i := 6) 3 kd53_32.2.1 rfl ?_
                              refine X_ialdK hK hs_b84186 (by decide) (by omega) (by omega) ((hg84227 _ _ _ _ hs_b84186 (by rw [xky_a (by decide)]; decide)).trans ((hg84224 _ _ _ _ hs_b84186 (by rw [xky_a (by decide)]; decide)).trans ((xs_a hg84222 (xne hs_b84186 hs_b84221 (by decide))).trans ez84187))) kd53_32.2.2.1 ?_
                              refine X_iload hK (i := 7) 2 kd53_32.2.2.2.1 rfl ?_
                              refine X_isub hK kd53_32.2.2.2.2.1 ?_
                              refine X_norm (fun z84231 ez84231 lz84231 uz84231 => ?_)
                              refine X_iload hK (i := 8) 0 kd53_32.2.2.2.2.2.1 rfl ?_
                              refine X_bipush hK kd53_32.2.2.2.2.2.2.1 (by decide) ?_
                              refine X_icmp_le hK 240 (by omega) (by omega) kd53_32.2.2.2.2.2.2.2.1 (by decide) (fun c84232 => ?_) (fun c84232 => ?_)
                              · refine X_iload hK (i := 8) 0 kd53_32.2.2.2.2.2.2.2.2.2.2.1 rfl ?_
                                refine X_imul hK kd53_32.2.2.2.2.2.2.2.2.2.2.2 ?_
                                refine X_norm (fun z84233 ez84233 lz84233 uz84233 => ?_)
                                refine X_bipush hK kd53_33.1 (by decide) ?_
                                refine X_idiv hK (by omega) (by omega) kd53_33.2.1 (fun z84234 ez84234 fz84234 => ?_)
                                have bz84234 : -21474836 ≤ z84234 ∧ z84234 ≤ 21474836 := by omega
                                refine X_iast hK hs_b84230 (by decide) (by decide) sl_17500 (by omega) (by omega) (by omega) (by omega) kd53_33.2.2.1 (fun g84235 hg84235 => ?_)
                                refine X_aloadn hK (i := 0) 6 kd53_33.2.2.2.1 rfl rfl ?_
                                refine X_iloadn hK (i := 3) 5 kd53_33.2.2.2.2.1 rfl rfl ?_
                                refine X_iload hK (i := 4) 4 kd53_33.2.2.2.2.2.1 rfl ?_
                                refine X_callV hK [.int (iI z75749), .int (iI z83059)] [] lk_X12_405 (c2_firstAt _ _ _ _ _ S g84235 a0 z75749 z83059 wc hs_a0 (by omega) (by omega) ((xs_a hg84235 (xne hs_a0 hs_b84230 (by decide))).trans ((hg84227 a0 13 0 62 hs_a0 (by decide)).trans ((hg84224 a0 13 0 62 hs_a0 (by decide)).trans ((xs_a hg84222 (xne hs_a0 hs_b84221 (by decide))).trans ((xs_a hg84182 (xne hs_a0 hs_wc (by decide))).trans ((hg84083 a0 13 0 62 hs_a0 (by decide)).trans ((hg83060 a0 13 0 62 hs_a0 (by decide)).trans ((hg75750 a0 13 0 62 hs_a0 (by decide)).trans ((hg48910 a0 13 0 62 hs_a0 (by decide)).trans ewc))))))))) hs_wc) hs_a0 ⟨by decide, rfl⟩ kd53_33.2.2.2.2.2.2.1 rfl rfl (by simp [Value.category]) (by decide) (by decide) (by decide) (by decide) (fun r84236 S84238 g84237 pr84236 qr84236 hg84237 => ?_)
                                obtain ⟨rfl, rfl, z84239, rfl, lz84239, uz84239, k84240⟩ := pr84236
                                refine X_st [.int (iI z84239)] rfl ?_
                                have huh84241 : xuc (xv g84083 wc) = xuc (xv g84235 wc) + 1 := xuc_s (j := z84081) (by omega) (v84180 (by omega)) (show xv g84235 wc z84081 = 1 from by rw [(xv_a hg84235 (xne hs_wc hs_b84230 (by decide))), (xv_m hg84227 hs_wc (by decide) (by decide)), (xv_m hg84224 hs_wc (by decide) (by decide)), (xv_a hg84222 (xne hs_wc hs_b84221 (by decide))), xv_s hg84182 (by omega)]) (fun i9 hi9 h09 => (show xv g84235 wc i9 = xv g84083 wc i9 from by rw [(xv_a hg84235 (xne hs_wc hs_b84230 (by decide))), (xv_m hg84227 hs_wc (by decide) (by decide)), (xv_m hg84224 hs_wc (by decide) (by decide)), (xv_a hg84222 (xne hs_wc hs_b84221 (by decide))), (xv_k (i := i9) hg84182 (by omega) (by omega) (by omega))]))
                                refine X_istore hK (i := 6) [(6, .int (iI z84239)), (8, .int (iI z84229)), (5, .int (iI z84220)), (7, .int (iI z84187)), (4, .int (iI z83059)), (3, .int (iI z75749)), (0, .ref a0), (1, .int (iI x1)), (2, .int (iI x2))] kd53_33.2.2.2.2.2.2.2.1 (by decide) rfl ?_
                                refine X_goto hK 128 kd53_33.2.2.2.2.2.2.2.2.1 (by decide) ?_
                                refine X_lv [(6, .int (iI z84239)), (5, .int (iI z84220)), (4, .int (iI z83059)), (3, .int (iI z75749)), (0, .ref a0), (1, .int (iI x1)), (2, .int (iI x2))] [0, 2, 4, 5, 6, 7, 8] rfl ?_
                                exact ihP84179  g84235 (xM_ua (xM.tr (xM.tr (xM_ua (xM_ua (xM.tr xM.rf xLe.rf hg84083 (by decide)) hg84182 hs_wc (by decide) (by decide)) hg84222 hs_b84221 (by decide) (by decide)) xLe.rf hg84224 (by decide)) xLe.rf hg84227 (by decide)) hg84235 hs_b84230 (by decide) (by decide)) z84239 (by omega) (by omega) z84220 (by omega) (by omega) (fun h9 => (k84240 h9).2) (by omega)
                              · refine X_bipush hK kd53_32.2.2.2.2.2.2.2.2.1 (by decide) ?_
                                refine X_goto hK 242 kd53_32.2.2.2.2.2.2.2.2.2.1 (by decide) ?_
                                refine X_imul hK kd53_32.2.2.2.2.2.2.2.2.2.2.2 ?_
                                refine X_norm (fun z84242 ez84242 lz84242 uz84242 => ?_)
                                refine X_bipush hK kd53_33.1 (by decide) ?_
                                refine X_idiv hK (by omega) (by omega) kd53_33.2.1 (fun z84243 ez84243 fz84243 => ?_)
                                have bz84243 : -21474836 ≤ z84243 ∧ z84243 ≤ 21474836 := by omega
                                refine X_iast hK hs_b84230 (by decide) (by decide) sl_17500 (by omega) (by omega) (by omega) (by omega) kd53_33.2.2.1 (fun g84244 hg84244 => ?_)
                                refine X_aloadn hK (i := 0) 6 kd53_33.2.2.2.1 rfl rfl ?_
                                refine X_iloadn hK (i := 3) 5 kd53_33.2.2.2.2.1 rfl rfl ?_
                                refine X_iload hK (i := 4) 4 kd53_33.2.2.2.2.2.1 rfl ?_
                                refine X_callV hK [.int (iI z75749), .int (iI z83059)] [] lk_X12_405 (c2_firstAt _ _ _ _ _ S g84244 a0 z75749 z83059 wc hs_a0 (by omega) (by omega) ((xs_a hg84244 (xne hs_a0 hs_b84230 (by decide))).trans ((hg84227 a0 13 0 62 hs_a0 (by decide)).trans ((hg84224 a0 13 0 62 hs_a0 (by decide)).trans ((xs_a hg84222 (xne hs_a0 hs_b84221 (by decide))).trans ((xs_a hg84182 (xne hs_a0 hs_wc (by decide))).trans ((hg84083 a0 13 0 62 hs_a0 (by decide)).trans ((hg83060 a0 13 0 62 hs_a0 (by decide)).trans ((hg75750 a0 13 0 62 hs_a0 (by decide)).trans ((hg48910 a0 13 0 62 hs_a0 (by decide)).trans ewc))))))))) hs_wc) hs_a0 ⟨by decide, rfl⟩ kd53_33.2.2.2.2.2.2.1 rfl rfl (by simp [Value.category]) (by decide) (by decide) (by decide) (by decide) (fun r84245 S84247 g84246 pr84245 qr84245 hg84246 => ?_)
                                obtain ⟨rfl, rfl, z84248, rfl, lz84248, uz84248, k84249⟩ := pr84245
                                refine X_st [.int (iI z84248)] rfl ?_
                                have huh84250 : xuc (xv g84083 wc) = xuc (xv g84244 wc) + 1 := xuc_s (j := z84081) (by omega) (v84180 (by omega)) (show xv g84244 wc z84081 = 1 from by rw [(xv_a hg84244 (xne hs_wc hs_b84230 (by decide))), (xv_m hg84227 hs_wc (by decide) (by decide)), (xv_m hg84224 hs_wc (by decide) (by decide)), (xv_a hg84222 (xne hs_wc hs_b84221 (by decide))), xv_s hg84182 (by omega)]) (fun i9 hi9 h09 => (show xv g84244 wc i9 = xv g84083 wc i9 from by rw [(xv_a hg84244 (xne hs_wc hs_b84230 (by decide))), (xv_m hg84227 hs_wc (by decide) (by decide)), (xv_m hg84224 hs_wc (by decide) (by decide)), (xv_a hg84222 (xne hs_wc hs_b84221 (by decide))), (xv_k (i := i9) hg84182 (by omega) (by omega) (by omega))]))
                                refine X_istore hK (i := 6) [(6, .int (iI z84248)), (8, .int (iI z84229)), (5, .int (iI z84220)), (7, .int (iI z84187)), (4, .int (iI z83059)), (3, .int (iI z75749)), (0, .ref a0), (1, .int (iI x1)), (2, .int (iI x2))] kd53_33.2.2.2.2.2.2.2.1 (by decide) rfl ?_
                                refine X_goto hK 128 kd53_33.2.2.2.2.2.2.2.2.1 (by decide) ?_
                                refine X_lv [(6, .int (iI z84248)), (5, .int (iI z84220)), (4, .int (iI z83059)), (3, .int (iI z75749)), (0, .ref a0), (1, .int (iI x1)), (2, .int (iI x2))] [0, 2, 4, 5, 6, 7, 8] rfl ?_
                                exact ihP84179  g84244 (xM_ua (xM.tr (xM.tr (xM_ua (xM_ua (xM.tr xM.rf xLe.rf hg84083 (by decide)) hg84182 hs_wc (by decide) (by decide)) hg84222 hs_b84221 (by decide) (by decide)) xLe.rf hg84224 (by decide)) xLe.rf hg84227 (by decide)) hg84244 hs_b84230 (by decide) (by decide)) z84248 (by omega) (by omega) z84220 (by omega) (by omega) (fun h9 => (k84249 h9).2) (by omega)
                          · refine X_iconst hK kd53_29.1 ?_
                            refine X_goto hK 180 kd53_29.2.1 (by decide) ?_
                            refine X_istore hK (i := 7) [(7, .int (iI 0)), (6, .int (iI z84081)), (5, .int (iI z84082)), (4, .int (iI z83059)), (3, .int (iI z75749)), (0, .ref a0), (1, .int (iI x1)), (2, .int (iI x2))] kd53_30.2.2.1 (by decide) rfl ?_
                            refine X_iload hK (i := 5) 2 kd53_30.2.2.2.1 rfl ?_
                            refine X_iload hK (i := 7) 0 kd53_30.2.2.2.2.1 rfl ?_
                            refine X_isub hK kd53_30.2.2.2.2.2.1 ?_
                            refine X_istore hK (i := 5) [(5, .int (iI (z84082 - 0))), (7, .int (iI 0)), (6, .int (iI z84081)), (4, .int (iI z83059)), (3, .int (iI z75749)), (0, .ref a0), (1, .int (iI x1)), (2, .int (iI x2))] kd53_30.2.2.2.2.2.2.1 (by decide) rfl ?_
                            refine X_aloadn hK (i := 0) 5 kd53_30.2.2.2.2.2.2.2.1 rfl rfl ?_
                            refine X_getr hK 17400 200 fl_X12_123_13 hs_a0 sl_13_60 kd53_30.2.2.2.2.2.2.2.2.1 (fun b84251 eb84251 hs_b84251 => ?_)
                            refine X_iload hK (i := 6) 2 kd53_30.2.2.2.2.2.2.2.2.2.1 rfl ?_
                            refine X_iload hK (i := 7) 1 kd53_30.2.2.2.2.2.2.2.2.2.2.1 rfl ?_
                            refine X_iast hK hs_b84251 (by decide) (by decide) sl_17400 (by omega) (by omega) (by omega) (by omega) kd53_30.2.2.2.2.2.2.2.2.2.2.2 (fun g84252 hg84252 => ?_)
                            refine X_aloadn hK (i := 0) 5 kd53_31.1 rfl rfl ?_
                            refine X_iload hK (i := 6) 2 kd53_31.2.1 rfl ?_
                            refine X_callV hK [.int (iI z84081)] [] lk_X12_402 (c_X12_askOf _ _ _ _ _ S g84252 a0 z84081 hs_a0 (by omega)) hs_a0 ⟨by decide, rfl⟩ kd53_31.2.2.1 rfl rfl (by simp [Value.category]) (by decide) (by decide) (by decide) (by decide) (fun r84253 S84255 g84254 pr84253 qr84253 hg84254 => ?_)
                            obtain ⟨rfl, rfl⟩ := pr84253
                            refine X_st [] rfl ?_
                            refine X_aloadn hK (i := 0) 5 kd53_31.2.2.2.1 rfl rfl ?_
                            refine X_iloadn hK (i := 2) 7 kd53_31.2.2.2.2.1 rfl rfl ?_
                            refine X_iconst hK kd53_31.2.2.2.2.2.1 ?_
                            refine X_callV hK [.int (iI x2), .int (iI 2)] [] lk_X12_395 (c_X12_tells _ _ _ _ _ S g84254 a0 x2 2 wo wf wu wp hs_a0 (by omega) (by omega) ((hg84254 a0 13 0 29 hs_a0 (by decide)).trans ((xs_a hg84252 (xne hs_a0 hs_b84251 (by decide))).trans ((xs_a hg84182 (xne hs_a0 hs_wc (by decide))).trans ((hg84083 a0 13 0 29 hs_a0 (by decide)).trans ((hg83060 a0 13 0 29 hs_a0 (by decide)).trans ((hg75750 a0 13 0 29 hs_a0 (by decide)).trans ((hg48910 a0 13 0 29 hs_a0 (by decide)).trans ewo))))))) hs_wo ((hg84254 a0 13 0 33 hs_a0 (by decide)).trans ((xs_a hg84252 (xne hs_a0 hs_b84251 (by decide))).trans ((xs_a hg84182 (xne hs_a0 hs_wc (by decide))).trans ((hg84083 a0 13 0 33 hs_a0 (by decide)).trans ((hg83060 a0 13 0 33 hs_a0 (by decide)).trans ((hg75750 a0 13 0 33 hs_a0 (by decide)).trans ((hg48910 a0 13 0 33 hs_a0 (by decide)).trans ewf))))))) hs_wf ((hg84254 a0 13 0 34 hs_a0 (by decide)).trans ((xs_a hg84252 (xne hs_a0 hs_b84251 (by decide))).trans ((xs_a hg84182 (xne hs_a0 hs_wc (by decide))).trans ((hg84083 a0 13 0 34 hs_a0 (by decide)).trans ((hg83060 a0 13 0 34 hs_a0 (by decide)).trans ((hg75750 a0 13 0 34 hs_a0 (by decide)).trans ((hg48910 a0 13 0 34 hs_a0 (by decide)).trans ewu))))))) hs_wu ((hg84254 a0 13 0 35 hs_a0 (by decide)).trans ((xs_a hg84252 (xne hs_a0 hs_b84251 (by decide))).trans ((xs_a hg84182 (xne hs_a0 hs_wc (by decide))).trans ((hg84083 a0 13 0 35 hs_a0 (by decide)).trans ((hg83060 a0 13 0 35 hs_a0 (by decide)).trans ((hg75750 a0 13 0 35 hs_a0 (by decide)).trans ((hg48910 a0 13 0 35 hs_a0 (by decide)).trans ewp))))))) hs_wp (by rw [(Eq.trans (Eq.trans (Eq.trans (Eq.trans (Eq.trans (Eq.trans (xv_m hg84254 hs_wo (by decide) (by decide)) (xv_a hg84252 (xne hs_wo hs_b84251 (by decide)))) (xv_a hg84182 (xne hs_wo hs_wc (by decide)))) (xv_m hg84083 hs_wo (by decide) (by decide))) (xv_m hg83060 hs_wo (by decide) (by decide))) (xv_m hg75750 hs_wo (by decide) (by decide))) (xv_m hg48910 hs_wo (by decide) (by decide))), (Eq.trans (Eq.trans (Eq.trans (Eq.trans (Eq.trans (Eq.trans (xv_m hg84254 hs_wf (by decide) (by decide)) (xv_a hg84252 (xne hs_wf hs_b84251 (by decide)))) (xv_a hg84182 (xne hs_wf hs_wc (by decide)))) (xv_m hg84083 hs_wf (by decide) (by decide))) (xv_m hg83060 hs_wf (by decide) (by decide))) (xv_m hg75750 hs_wf (by decide) (by decide))) (xv_m hg48910 hs_wf (by decide) (by decide))), (Eq.trans (Eq.trans (Eq.trans (Eq.trans (Eq.trans (Eq.trans (xv_m hg84254 hs_wu (by decide) (by decide)) (xv_a hg84252 (xne hs_wu hs_b84251 (by decide)))) (xv_a hg84182 (xne hs_wu hs_wc (by decide)))) (xv_m hg84083 hs_wu (by decide) (by decide))) (xv_m hg83060 hs_wu (by decide) (by decide))) (xv_m hg75750 hs_wu (by decide) (by decide))) (xv_m hg48910 hs_wu (by decide) (by decide))), (Eq.trans (Eq.trans (Eq.trans (Eq.trans (Eq.trans (Eq.trans (xv_m hg84254 hs_wp (by decide) (by decide)) (xv_a hg84252 (xne hs_wp hs_b84251 (by decide)))) (xv_a hg84182 (xne hs_wp hs_wc (by decide)))) (xv_m hg84083 hs_wp (by decide) (by decide))) (xv_m hg83060 hs_wp (by decide) (by decide))) (xv_m hg75750 hs_wp (by decide) (by decide))) (xv_m hg48910 hs_wp (by decide) (by decide)))]; exact hp0)) hs_a0 ⟨by decide, rfl⟩ kd53_31.2.2.2.2.2.2.1 rfl rfl (by simp [Value.category]) (by decide) (by decide) (by decide) (by decide) (fun r84256 S84258 g84257 pr84256 qr84256 hg84257 => ?_)
                            obtain ⟨rfl, z84259, rfl, lz84259, uz84259⟩ := pr84256
                            refine X_st [.int (iI z84259)] rfl ?_
                            refine X_istore hK (i := 8) [(8, .int (iI z84259)), (5, .int (iI (z84082 - 0))), (7, .int (iI 0)), (6, .int (iI z84081)), (4, .int (iI z83059)), (3, .int (iI z75749)), (0, .ref a0), (1, .int (iI x1)), (2, .int (iI x2))] kd53_31.2.2.2.2.2.2.2.1 (by decide) rfl ?_
                            refine X_aloadn hK (i := 0) 6 kd53_31.2.2.2.2.2.2.2.2.1 rfl rfl ?_
                            refine X_getr hK 17500 200 fl_X12_126_13 hs_a0 sl_13_61 kd53_31.2.2.2.2.2.2.2.2.2.1 (fun b84260 eb84260 hs_b84260 => ?_)
                            refine X_iload hK (i := 6) 3 kd53_31.2.2.2.2.2.2.2.2.2.2.1 rfl ?_
                            refine X_aloadn hK (i := 0) 6 kd53_31.2.2.2.2.2.2.2.2.2.2.2 rfl rfl ?_
                            refine X_getr hK 16700 200 fl_X12_99_13 hs_a0 sl_13_51 kd53_32.1 (fun b84261 eb84261 hs_b84261 => ?_)
                            refine X_iload hK (i := 6) 3 kd53_32.2.1 rfl ?_
                            refine X_iald hK hs_b84261 (by decide) sl_16700 (by omega) (by omega) kd53_32.2.2.1 (fun z84262 ez84262 lz84262 uz84262 => ?_)
                            refine X_iload hK (i := 7) 2 kd53_32.2.2.2.1 rfl ?_
                            refine X_isub hK kd53_32.2.2.2.2.1 ?_
                            refine X_iload hK (i := 8) 0 kd53_32.2.2.2.2.2.1 rfl ?_
                            refine X_bipush hK kd53_32.2.2.2.2.2.2.1 (by decide) ?_
                            refine X_icmp_le hK 240 (by omega) (by omega) kd53_32.2.2.2.2.2.2.2.1 (by decide) (fun c84263 => ?_) (fun c84263 => ?_)
                            · refine X_iload hK (i := 8) 0 kd53_32.2.2.2.2.2.2.2.2.2.2.1 rfl ?_
                              refine X_imul hK kd53_32.2.2.2.2.2.2.2.2.2.2.2 ?_
                              refine X_norm (fun z84264 ez84264 lz84264 uz84264 => ?_)
                              refine X_bipush hK kd53_33.1 (by decide) ?_
                              refine X_idiv hK (by omega) (by omega) kd53_33.2.1 (fun z84265 ez84265 fz84265 => ?_)
                              have bz84265 : -21474836 ≤ z84265 ∧ z84265 ≤ 21474836 := by omega
                              refine X_iast hK hs_b84260 (by decide) (by decide) sl_17500 (by omega) (by omega) (by omega) (by omega) kd53_33.2.2.1 (fun g84266 hg84266 => ?_)
                              refine X_aloadn hK (i := 0) 6 kd53_33.2.2.2.1 rfl rfl ?_
                              refine X_iloadn hK (i := 3) 5 kd53_33.2.2.2.2.1 rfl rfl ?_
                              refine X_iload hK (i := 4) 4 kd53_33.2.2.2.2.2.1 rfl ?_
                              refine X_callV hK [.int (iI z75749), .int (iI z83059)] [] lk_X12_405 (c2_firstAt _ _ _ _ _ S g84266 a0 z75749 z83059 wc hs_a0 (by omega) (by omega) ((xs_a hg84266 (xne hs_a0 hs_b84260 (by decide))).trans ((hg84257 a0 13 0 62 hs_a0 (by decide)).trans ((hg84254 a0 13 0 62 hs_a0 (by decide)).trans ((xs_a hg84252 (xne hs_a0 hs_b84251 (by decide))).trans ((xs_a hg84182 (xne hs_a0 hs_wc (by decide))).trans ((hg84083 a0 13 0 62 hs_a0 (by decide)).trans ((hg83060 a0 13 0 62 hs_a0 (by decide)).trans ((hg75750 a0 13 0 62 hs_a0 (by decide)).trans ((hg48910 a0 13 0 62 hs_a0 (by decide)).trans ewc))))))))) hs_wc) hs_a0 ⟨by decide, rfl⟩ kd53_33.2.2.2.2.2.2.1 rfl rfl (by simp [Value.category]) (by decide) (by decide) (by decide) (by decide) (fun r84267 S84269 g84268 pr84267 qr84267 hg84268 => ?_)
                              obtain ⟨rfl, rfl, z84270, rfl, lz84270, uz84270, k84271⟩ := pr84267
                              refine X_st [.int (iI z84270)] rfl ?_
                              have huh84272 : xuc (xv g84083 wc) = xuc (xv g84266 wc) + 1 := xuc_s (j := z84081) (by omega) (v84180 (by omega)) (show xv g84266 wc z84081 = 1 from by rw [(xv_a hg84266 (xne hs_wc hs_b84260 (by decide))), (xv_m hg84257 hs_wc (by decide) (by decide)), (xv_m hg84254 hs_wc (by decide) (by decide)), (xv_a hg84252 (xne hs_wc hs_b84251 (by decide))), xv_s hg84182 (by omega)]) (fun i9 hi9 h09 => (show xv g84266 wc i9 = xv g84083 wc i9 from by rw [(xv_a hg84266 (xne hs_wc hs_b84260 (by decide))), (xv_m hg84257 hs_wc (by decide) (by decide)), (xv_m hg84254 hs_wc (by decide) (by decide)), (xv_a hg84252 (xne hs_wc hs_b84251 (by decide))), (xv_k (i := i9) hg84182 (by omega) (by omega) (by omega))]))
                              refine X_istore hK (i := 6) [(6, .int (iI z84270)), (8, .int (iI z84259)), (5, .int (iI (z84082 - 0))), (7, .int (iI 0)), (4, .int (iI z83059)), (3, .int (iI z75749)), (0, .ref a0), (1, .int (iI x1)), (2, .int (iI x2))] kd53_33.2.2.2.2.2.2.2.1 (by decide) rfl ?_
                              refine X_goto hK 128 kd53_33.2.2.2.2.2.2.2.2.1 (by decide) ?_
                              refine X_lv [(6, .int (iI z84270)), (5, .int (iI (z84082 - 0))), (4, .int (iI z83059)), (3, .int (iI z75749)), (0, .ref a0), (1, .int (iI x1)), (2, .int (iI x2))] [0, 2, 4, 5, 6, 7, 8] rfl ?_
                              exact ihP84179  g84266 (xM_ua (xM.tr (xM.tr (xM_ua (xM_ua (xM.tr xM.rf xLe.rf hg84083 (by decide)) hg84182 hs_wc (by decide) (by decide)) hg84252 hs_b84251 (by decide) (by decide)) xLe.rf hg84254 (by decide)) xLe.rf hg84257 (by decide)) hg84266 hs_b84260 (by decide) (by decide)) z84270 (by omega) (by omega) (z84082 - 0) (by omega) (by omega) (fun h9 => (k84271 h9).2) (by omega)
                            · refine X_bipush hK kd53_32.2.2.2.2.2.2.2.2.1 (by decide) ?_
                              refine X_goto hK 242 kd53_32.2.2.2.2.2.2.2.2.2.1 (by decide) ?_
                              refine X_imul hK kd53_32.2.2.2.2.2.2.2.2.2.2.2 ?_
                              refine X_norm (fun z84273 ez84273 lz84273 uz84273 => ?_)
                              refine X_bipush hK kd53_33.1 (by decide) ?_
                              refine X_idiv hK (by omega) (by omega) kd53_33.2.1 (fun z84274 ez84274 fz84274 => ?_)
                              have bz84274 : -21474836 ≤ z84274 ∧ z84274 ≤ 21474836 := by omega
                              refine X_iast hK hs_b84260 (by decide) (by decide) sl_17500 (by omega) (by omega) (by omega) (by omega) kd53_33.2.2.1 (fun g84275 hg84275 => ?_)
                              refine X_aloadn hK (i := 0) 6 kd53_33.2.2.2.1 rfl rfl ?_
                              refine X_iloadn hK (i := 3) 5 kd53_33.2.2.2.2.1 rfl rfl ?_
                              refine X_iload hK (i := 4) 4 kd53_33.2.2.2.2.2.1 rfl ?_
                              refine X_callV hK [.int (iI z75749), .int (iI z83059)] [] lk_X12_405 (c2_firstAt _ _ _ _ _ S g84275 a0 z75749 z83059 wc hs_a0 (by omega) (by omega) ((xs_a hg84275 (xne hs_a0 hs_b84260 (by decide))).trans ((hg84257 a0 13 0 62 hs_a0 (by decide)).trans ((hg84254 a0 13 0 62 hs_a0 (by decide)).trans ((xs_a hg84252 (xne hs_a0 hs_b84251 (by decide))).trans ((xs_a hg84182 (xne hs_a0 hs_wc (by decide))).trans ((hg84083 a0 13 0 62 hs_a0 (by decide)).trans ((hg83060 a0 13 0 62 hs_a0 (by decide)).trans ((hg75750 a0 13 0 62 hs_a0 (by decide)).trans ((hg48910 a0 13 0 62 hs_a0 (by decide)).trans ewc))))))))) hs_wc) hs_a0 ⟨by decide, rfl⟩ kd53_33.2.2.2.2.2.2.1 rfl rfl (by simp [Value.category]) (by decide) (by decide) (by decide) (by decide) (fun r84276 S84278 g84277 pr84276 qr84276 hg84277 => ?_)
                              obtain ⟨rfl, rfl, z84279, rfl, lz84279, uz84279, k84280⟩ := pr84276
                              refine X_st [.int (iI z84279)] rfl ?_
                              have huh84281 : xuc (xv g84083 wc) = xuc (xv g84275 wc) + 1 := xuc_s (j := z84081) (by omega) (v84180 (by omega)) (show xv g84275 wc z84081 = 1 from by rw [(xv_a hg84275 (xne hs_wc hs_b84260 (by decide))), (xv_m hg84257 hs_wc (by decide) (by decide)), (xv_m hg84254 hs_wc (by decide) (by decide)), (xv_a hg84252 (xne hs_wc hs_b84251 (by decide))), xv_s hg84182 (by omega)]) (fun i9 hi9 h09 => (show xv g84275 wc i9 = xv g84083 wc i9 from by rw [(xv_a hg84275 (xne hs_wc hs_b84260 (by decide))), (xv_m hg84257 hs_wc (by decide) (by decide)), (xv_m hg84254 hs_wc (by decide) (by decide)), (xv_a hg84252 (xne hs_wc hs_b84251 (by decide))), (xv_k (i := i9) hg84182 (by omega) (by omega) (by omega))]))
                              refine X_istore hK (i := 6) [(6, .int (iI z84279)), (8, .int (iI z84259)), (5, .int (iI (z84082 - 0))), (7, .int (iI 0)), (4, .int (iI z83059)), (3, .int (iI z75749)), (0, .ref a0), (1, .int (iI x1)), (2, .int (iI x2))] kd53_33.2.2.2.2.2.2.2.1 (by decide) rfl ?_
                              refine X_goto hK 128 kd53_33.2.2.2.2.2.2.2.2.1 (by decide) ?_
                              refine X_lv [(6, .int (iI z84279)), (5, .int (iI (z84082 - 0))), (4, .int (iI z83059)), (3, .int (iI z75749)), (0, .ref a0), (1, .int (iI x1)), (2, .int (iI x2))] [0, 2, 4, 5, 6, 7, 8] rfl ?_
                              exact ihP84179  g84275 (xM_ua (xM.tr (xM.tr (xM_ua (xM_ua (xM.tr xM.rf xLe.rf hg84083 (by decide)) hg84182 hs_wc (by decide) (by decide)) hg84252 hs_b84251 (by decide) (by decide)) xLe.rf hg84254 (by decide)) xLe.rf hg84257 (by decide)) hg84275 hs_b84260 (by decide) (by decide)) z84279 (by omega) (by omega) (z84082 - 0) (by omega) (by omega) (fun h9 => (k84280 h9).2) (by omega)
                    exact P84179 ((((xuc (xv g83060 wc) : Nat) : Int) : Int).toNat + 1) g83060 xM.rf z83690 (by omega) (by omega) z83685 (by omega) (by omega) (fun h9 => (k83691 h9).2) (by omega)
              exact P83668 ((20 - 0 : Int).toNat + 1) g75750 xM.rf 0 (by omega) (by omega) (by omega)
        exact P80013 ((26 - 0 : Int).toNat + 1) g48910 xM.rf 0 (by omega) (by omega) (by omega)
      · refine X_aloadn hK (i := 0) 1 kd53_22.2.2.2.1 rfl rfl ?_
        refine X_getK hK fl_X12_129_13 hs_a0 ((hg48910 a0 13 0 62 hs_a0 (by decide)).trans ewc) kd53_22.2.2.2.2.1 ?_
        refine X_iloadn hK (i := 3) 0 kd53_22.2.2.2.2.2.1 rfl rfl ?_
        refine X_aloadn hK (i := 0) 1 kd53_22.2.2.2.2.2.2.1 rfl rfl ?_
        refine X_getr hK 16900 200 fl_X12_105_13 hs_a0 sl_13_53 kd53_22.2.2.2.2.2.2.2.1 (fun b84282 eb84282 hs_b84282 => ?_)
        refine X_iloadn hK (i := 3) 0 kd53_22.2.2.2.2.2.2.2.2.1 rfl rfl ?_
        refine X_iald hK hs_b84282 (by decide) sl_16900 (by omega) (by omega) kd53_22.2.2.2.2.2.2.2.2.2.1 (fun z84283 ez84283 lz84283 uz84283 => ?_)
        refine X_iloadn hK (i := 1) 2 kd53_22.2.2.2.2.2.2.2.2.2.2.1 rfl rfl ?_
        refine X_icmp_eq hK 29 (by omega) (by omega) kd53_22.2.2.2.2.2.2.2.2.2.2.2 (by decide) (fun c84284 => ?_) (fun c84284 => ?_)
        · refine X_iconst hK kd53_23.2.2.1 ?_
          refine X_zast hK hs_wc (by decide) (by decide) sl_19501 (by omega) (by omega) (by omega) (by omega) kd53_23.2.2.2.1 (fun g84285 hg84285 => ?_)
          refine X_aloadn hK (i := 0) 1 kd53_23.2.2.2.2.1 rfl rfl ?_
          refine X_getK hK fl_X12_129_13 hs_a0 ((xs_a hg84285 (xne hs_a0 hs_wc (by decide))).trans ((hg48910 a0 13 0 62 hs_a0 (by decide)).trans ewc)) kd53_23.2.2.2.2.2.1 ?_
          refine X_iloadn hK (i := 3) 0 kd53_23.2.2.2.2.2.2.1 rfl rfl ?_
          refine X_zald hK hs_wc (by decide) sl_19501 (by omega) (by omega) kd53_23.2.2.2.2.2.2.2.1 (fun z84286 ez84286 lz84286 uz84286 => ?_)
          refine X_if_eq hK 43 (by omega) kd53_23.2.2.2.2.2.2.2.2.1 (by decide) (fun c84287 => ?_) (fun c84287 => ?_)
          · refine X_aloadn hK (i := 0) 1 kd53_23.2.2.2.2.2.2.2.2.2.2.1 rfl rfl ?_
            refine X_iloadn hK (i := 3) 0 kd53_23.2.2.2.2.2.2.2.2.2.2.2 rfl rfl ?_
            refine X_callV hK [.int (iI z48909)] [] lk_X12_402 (c_X12_askOf _ _ _ _ _ S g84285 a0 z48909 hs_a0 (by omega)) hs_a0 ⟨by decide, rfl⟩ kd53_24.1 rfl rfl (by simp [Value.category]) (by decide) (by decide) (by decide) (by decide) (fun r84288 S84290 g84289 pr84288 qr84288 hg84289 => ?_)
            obtain ⟨rfl, rfl⟩ := pr84288
            refine X_st [] rfl ?_
            refine X_aloadn hK (i := 0) 1 kd53_24.2.1 rfl rfl ?_
            refine X_getr hK 19601 200 fl_X12_132_13 hs_a0 sl_13_63 kd53_24.2.2.1 (fun b84291 eb84291 hs_b84291 => ?_)
            refine X_iloadn hK (i := 3) 0 kd53_24.2.2.2.1 rfl rfl ?_
            refine X_aloadn hK (i := 0) 1 kd53_24.2.2.2.2.1 rfl rfl ?_
            refine X_iloadn hK (i := 2) 3 kd53_24.2.2.2.2.2.1 rfl rfl ?_
            refine X_iconst hK kd53_24.2.2.2.2.2.2.1 ?_
            refine X_callV hK [.int (iI x2), .int (iI 4)] [.int (iI z48909), .ref b84291] lk_X12_395 (c_X12_tells _ _ _ _ _ S g84289 a0 x2 4 wo wf wu wp hs_a0 (by omega) (by omega) ((hg84289 a0 13 0 29 hs_a0 (by decide)).trans ((xs_a hg84285 (xne hs_a0 hs_wc (by decide))).trans ((hg48910 a0 13 0 29 hs_a0 (by decide)).trans ewo))) hs_wo ((hg84289 a0 13 0 33 hs_a0 (by decide)).trans ((xs_a hg84285 (xne hs_a0 hs_wc (by decide))).trans ((hg48910 a0 13 0 33 hs_a0 (by decide)).trans ewf))) hs_wf ((hg84289 a0 13 0 34 hs_a0 (by decide)).trans ((xs_a hg84285 (xne hs_a0 hs_wc (by decide))).trans ((hg48910 a0 13 0 34 hs_a0 (by decide)).trans ewu))) hs_wu ((hg84289 a0 13 0 35 hs_a0 (by decide)).trans ((xs_a hg84285 (xne hs_a0 hs_wc (by decide))).trans ((hg48910 a0 13 0 35 hs_a0 (by decide)).trans ewp))) hs_wp (by rw [(Eq.trans (Eq.trans (xv_m hg84289 hs_wo (by decide) (by decide)) (xv_a hg84285 (xne hs_wo hs_wc (by decide)))) (xv_m hg48910 hs_wo (by decide) (by decide))), (Eq.trans (Eq.trans (xv_m hg84289 hs_wf (by decide) (by decide)) (xv_a hg84285 (xne hs_wf hs_wc (by decide)))) (xv_m hg48910 hs_wf (by decide) (by decide))), (Eq.trans (Eq.trans (xv_m hg84289 hs_wu (by decide) (by decide)) (xv_a hg84285 (xne hs_wu hs_wc (by decide)))) (xv_m hg48910 hs_wu (by decide) (by decide))), (Eq.trans (Eq.trans (xv_m hg84289 hs_wp (by decide) (by decide)) (xv_a hg84285 (xne hs_wp hs_wc (by decide)))) (xv_m hg48910 hs_wp (by decide) (by decide)))]; exact hp0)) hs_a0 ⟨by decide, rfl⟩ kd53_24.2.2.2.2.2.2.2.1 rfl rfl (by simp [Value.category]) (by decide) (by decide) (by decide) (by decide) (fun r84292 S84294 g84293 pr84292 qr84292 hg84293 => ?_)
            obtain ⟨rfl, z84295, rfl, lz84295, uz84295⟩ := pr84292
            refine X_st [.int (iI z84295), .int (iI z48909), .ref b84291] rfl ?_
            refine X_iconst hK kd53_24.2.2.2.2.2.2.2.2.1 ?_
            refine X_icmp_ne hK 67 (by omega) (by omega) kd53_24.2.2.2.2.2.2.2.2.2.1 (by decide) (fun c84296 => ?_) (fun c84296 => ?_)
            · refine X_iconst hK kd53_25.1 ?_
              refine X_zast hK hs_b84291 (by decide) (by decide) sl_19601 (by omega) (by omega) (by omega) (by omega) kd53_25.2.1 (fun g84297 hg84297 => ?_)
              refine X_iinc hK (i := 3) (z := z48909) (n := 1) 0 [(3, .int (iI (z48909 + 1))), (0, .ref a0), (1, .int (iI x1)), (2, .int (iI x2))] kd53_25.2.2.1 rfl (by decide) rfl ?_
              refine X_goto hK 2 kd53_25.2.2.2.1 (by decide) ?_
              exact ihP54427  g84297 (xM_ua (xM.tr (xM.tr (xM_ua (xM.tr xM.rf xLe.rf hg48910 (by decide)) hg84285 hs_wc (by decide) (by decide)) xLe.rf hg84289 (by decide)) xLe.rf hg84293 (by decide)) hg84297 hs_b84291 (by decide) (by decide)) (z48909 + 1) (by omega) (by omega) (by omega)
            · refine X_iconst hK kd53_24.2.2.2.2.2.2.2.2.2.2.1 ?_
              refine X_goto hK 68 kd53_24.2.2.2.2.2.2.2.2.2.2.2 (by decide) ?_
              refine X_zast hK hs_b84291 (by decide) (by decide) sl_19601 (by omega) (by omega) (by omega) (by omega) kd53_25.2.1 (fun g84298 hg84298 => ?_)
              refine X_iinc hK (i := 3) (z := z48909) (n := 1) 0 [(3, .int (iI (z48909 + 1))), (0, .ref a0), (1, .int (iI x1)), (2, .int (iI x2))] kd53_25.2.2.1 rfl (by decide) rfl ?_
              refine X_goto hK 2 kd53_25.2.2.2.1 (by decide) ?_
              exact ihP54427  g84298 (xM_ua (xM.tr (xM.tr (xM_ua (xM.tr xM.rf xLe.rf hg48910 (by decide)) hg84285 hs_wc (by decide) (by decide)) xLe.rf hg84289 (by decide)) xLe.rf hg84293 (by decide)) hg84298 hs_b84291 (by decide) (by decide)) (z48909 + 1) (by omega) (by omega) (by omega)
          · refine X_goto hK 69 kd53_23.2.2.2.2.2.2.2.2.2.1 (by decide) ?_
            refine X_iinc hK (i := 3) (z := z48909) (n := 1) 0 [(3, .int (iI (z48909 + 1))), (0, .ref a0), (1, .int (iI x1)), (2, .int (iI x2))] kd53_25.2.2.1 rfl (by decide) rfl ?_
            refine X_goto hK 2 kd53_25.2.2.2.1 (by decide) ?_
            exact ihP54427  g84285 (xM_ua (xM.tr xM.rf xLe.rf hg48910 (by decide)) hg84285 hs_wc (by decide) (by decide)) (z48909 + 1) (by omega) (by omega) (by omega)
        · refine X_iconst hK kd53_23.1 ?_
          refine X_goto hK 30 kd53_23.2.1 (by decide) ?_
          refine X_zast hK hs_wc (by decide) (by decide) sl_19501 (by omega) (by omega) (by omega) (by omega) kd53_23.2.2.2.1 (fun g84299 hg84299 => ?_)
          refine X_aloadn hK (i := 0) 1 kd53_23.2.2.2.2.1 rfl rfl ?_
          refine X_getK hK fl_X12_129_13 hs_a0 ((xs_a hg84299 (xne hs_a0 hs_wc (by decide))).trans ((hg48910 a0 13 0 62 hs_a0 (by decide)).trans ewc)) kd53_23.2.2.2.2.2.1 ?_
          refine X_iloadn hK (i := 3) 0 kd53_23.2.2.2.2.2.2.1 rfl rfl ?_
          refine X_zald hK hs_wc (by decide) sl_19501 (by omega) (by omega) kd53_23.2.2.2.2.2.2.2.1 (fun z84300 ez84300 lz84300 uz84300 => ?_)
          refine X_if_eq hK 43 (by omega) kd53_23.2.2.2.2.2.2.2.2.1 (by decide) (fun c84301 => ?_) (fun c84301 => ?_)
          · refine X_aloadn hK (i := 0) 1 kd53_23.2.2.2.2.2.2.2.2.2.2.1 rfl rfl ?_
            refine X_iloadn hK (i := 3) 0 kd53_23.2.2.2.2.2.2.2.2.2.2.2 rfl rfl ?_
            refine X_callV hK [.int (iI z48909)] [] lk_X12_402 (c_X12_askOf _ _ _ _ _ S g84299 a0 z48909 hs_a0 (by omega)) hs_a0 ⟨by decide, rfl⟩ kd53_24.1 rfl rfl (by simp [Value.category]) (by decide) (by decide) (by decide) (by decide) (fun r84302 S84304 g84303 pr84302 qr84302 hg84303 => ?_)
            obtain ⟨rfl, rfl⟩ := pr84302
            refine X_st [] rfl ?_
            refine X_aloadn hK (i := 0) 1 kd53_24.2.1 rfl rfl ?_
            refine X_getr hK 19601 200 fl_X12_132_13 hs_a0 sl_13_63 kd53_24.2.2.1 (fun b84305 eb84305 hs_b84305 => ?_)
            refine X_iloadn hK (i := 3) 0 kd53_24.2.2.2.1 rfl rfl ?_
            refine X_aloadn hK (i := 0) 1 kd53_24.2.2.2.2.1 rfl rfl ?_
            refine X_iloadn hK (i := 2) 3 kd53_24.2.2.2.2.2.1 rfl rfl ?_
            refine X_iconst hK kd53_24.2.2.2.2.2.2.1 ?_
            refine X_callV hK [.int (iI x2), .int (iI 4)] [.int (iI z48909), .ref b84305] lk_X12_395 (c_X12_tells _ _ _ _ _ S g84303 a0 x2 4 wo wf wu wp hs_a0 (by omega) (by omega) ((hg84303 a0 13 0 29 hs_a0 (by decide)).trans ((xs_a hg84299 (xne hs_a0 hs_wc (by decide))).trans ((hg48910 a0 13 0 29 hs_a0 (by decide)).trans ewo))) hs_wo ((hg84303 a0 13 0 33 hs_a0 (by decide)).trans ((xs_a hg84299 (xne hs_a0 hs_wc (by decide))).trans ((hg48910 a0 13 0 33 hs_a0 (by decide)).trans ewf))) hs_wf ((hg84303 a0 13 0 34 hs_a0 (by decide)).trans ((xs_a hg84299 (xne hs_a0 hs_wc (by decide))).trans ((hg48910 a0 13 0 34 hs_a0 (by decide)).trans ewu))) hs_wu ((hg84303 a0 13 0 35 hs_a0 (by decide)).trans ((xs_a hg84299 (xne hs_a0 hs_wc (by decide))).trans ((hg48910 a0 13 0 35 hs_a0 (by decide)).trans ewp))) hs_wp (by rw [(Eq.trans (Eq.trans (xv_m hg84303 hs_wo (by decide) (by decide)) (xv_a hg84299 (xne hs_wo hs_wc (by decide)))) (xv_m hg48910 hs_wo (by decide) (by decide))), (Eq.trans (Eq.trans (xv_m hg84303 hs_wf (by decide) (by decide)) (xv_a hg84299 (xne hs_wf hs_wc (by decide)))) (xv_m hg48910 hs_wf (by decide) (by decide))), (Eq.trans (Eq.trans (xv_m hg84303 hs_wu (by decide) (by decide)) (xv_a hg84299 (xne hs_wu hs_wc (by decide)))) (xv_m hg48910 hs_wu (by decide) (by decide))), (Eq.trans (Eq.trans (xv_m hg84303 hs_wp (by decide) (by decide)) (xv_a hg84299 (xne hs_wp hs_wc (by decide)))) (xv_m hg48910 hs_wp (by decide) (by decide)))]; exact hp0)) hs_a0 ⟨by decide, rfl⟩ kd53_24.2.2.2.2.2.2.2.1 rfl rfl (by simp [Value.category]) (by decide) (by decide) (by decide) (by decide) (fun r84306 S84308 g84307 pr84306 qr84306 hg84307 => ?_)
            obtain ⟨rfl, z84309, rfl, lz84309, uz84309⟩ := pr84306
            refine X_st [.int (iI z84309), .int (iI z48909), .ref b84305] rfl ?_
            refine X_iconst hK kd53_24.2.2.2.2.2.2.2.2.1 ?_
            refine X_icmp_ne hK 67 (by omega) (by omega) kd53_24.2.2.2.2.2.2.2.2.2.1 (by decide) (fun c84310 => ?_) (fun c84310 => ?_)
            · refine X_iconst hK kd53_25.1 ?_
              refine X_zast hK hs_b84305 (by decide) (by decide) sl_19601 (by omega) (by omega) (by omega) (by omega) kd53_25.2.1 (fun g84311 hg84311 => ?_)
              refine X_iinc hK (i := 3) (z := z48909) (n := 1) 0 [(3, .int (iI (z48909 + 1))), (0, .ref a0), (1, .int (iI x1)), (2, .int (iI x2))] kd53_25.2.2.1 rfl (by decide) rfl ?_
              refine X_goto hK 2 kd53_25.2.2.2.1 (by decide) ?_
              exact ihP54427  g84311 (xM_ua (xM.tr (xM.tr (xM_ua (xM.tr xM.rf xLe.rf hg48910 (by decide)) hg84299 hs_wc (by decide) (by decide)) xLe.rf hg84303 (by decide)) xLe.rf hg84307 (by decide)) hg84311 hs_b84305 (by decide) (by decide)) (z48909 + 1) (by omega) (by omega) (by omega)
            · refine X_iconst hK kd53_24.2.2.2.2.2.2.2.2.2.2.1 ?_
              refine X_goto hK 68 kd53_24.2.2.2.2.2.2.2.2.2.2.2 (by decide) ?_
              refine X_zast hK hs_b84305 (by decide) (by decide) sl_19601 (by omega) (by omega) (by omega) (by omega) kd53_25.2.1 (fun g84312 hg84312 => ?_)
              refine X_iinc hK (i := 3) (z := z48909) (n := 1) 0 [(3, .int (iI (z48909 + 1))), (0, .ref a0), (1, .int (iI x1)), (2, .int (iI x2))] kd53_25.2.2.1 rfl (by decide) rfl ?_
              refine X_goto hK 2 kd53_25.2.2.2.1 (by decide) ?_
              exact ihP54427  g84312 (xM_ua (xM.tr (xM.tr (xM_ua (xM.tr xM.rf xLe.rf hg48910 (by decide)) hg84299 hs_wc (by decide) (by decide)) xLe.rf hg84303 (by decide)) xLe.rf hg84307 (by decide)) hg84312 hs_b84305 (by decide) (by decide)) (z48909 + 1) (by omega) (by omega) (by omega)
          · refine X_goto hK 69 kd53_23.2.2.2.2.2.2.2.2.2.1 (by decide) ?_
            refine X_iinc hK (i := 3) (z := z48909) (n := 1) 0 [(3, .int (iI (z48909 + 1))), (0, .ref a0), (1, .int (iI x1)), (2, .int (iI x2))] kd53_25.2.2.1 rfl (by decide) rfl ?_
            refine X_goto hK 2 kd53_25.2.2.2.1 (by decide) ?_
            exact ihP54427  g84299 (xM_ua (xM.tr xM.rf xLe.rf hg48910 (by decide)) hg84299 hs_wc (by decide) (by decide)) (z48909 + 1) (by omega) (by omega) (by omega)
  exact P54427 ((216 - 0 : Int).toNat + 1) g xM.rf 0 (by omega) (by omega) (by omega)

set_option maxHeartbeats 4000000 in
set_option maxRecDepth 100000 in
theorem c_X12_comes (l : Launch) (D : va_G) (kA : Nat → ClassId) (b0 : Nat) (t0 : Nat → Nat) (S : xT) (g : xG) (a0 : Nat) (x1 : Int) (x2 : Int) (wo : Nat) (wf : Nat) (wu : Nat) (wp : Nat) (hs_a0 : S a0 = some (13, 0)) (hx1 : 0 ≤ x1 ∧ x1 ≤ 199) (hx2 : (-1) ≤ x2 ∧ x2 ≤ 10) (ewo : g a0 29 = .ref wo) (hs_wo : S wo = some (15300, 11)) (ewf : g a0 33 = .ref wf) (hs_wf : S wf = some (15700, 176)) (ewu : g a0 34 = .ref wu) (hs_wu : S wu = some (15800, 176)) (ewp : g a0 35 = .ref wp) (hs_wp : S wp = some (15900, 1320)) (hp0 : xTq (xv g wo) (xv g wf) (xv g wu) (xv g wp) x2) : xMt l yX12_comes cX12_comes 3 (some .int) 3 0 0 68 D kA b0 t0 [(16300, 0), (13, 47), (19401, 0)] [.ref a0, .int (iI x1), .int (iI x2)] S g (fun (r : Option Value) (S1 : xT) (g1 : xG) => S = S1 ∧ ∃ z : Int, r = some (.int (iI z)) ∧ (-2147483648) ≤ z ∧ z ≤ 2147483647) := by
  refine xEnterI (by decide) (by simp [lg_sl, Value.category]) [(0, .ref a0), (1, .int (iI x1)), (2, .int (iI x2))] rfl ?_
  intro K E hK hret _ _ _
  refine X_aloadn hK (i := 0) 0 kd53_19.2.2.2.2.2.2.2.2.1 rfl rfl ?_
  refine X_iloadn hK (i := 1) 1 kd53_19.2.2.2.2.2.2.2.2.2.1 rfl rfl ?_
  refine X_callV hK [.int (iI x1)] [] lk_X12_402 (c_X12_askOf _ _ _ _ _ S g a0 x1 hs_a0 (by omega)) hs_a0 ⟨by decide, rfl⟩ kd53_19.2.2.2.2.2.2.2.2.2.2.1 rfl rfl (by simp [Value.category]) (by decide) (by decide) (by decide) (by decide) (fun r1 S3 g2 pr1 qr1 hg2 => ?_)
  obtain ⟨rfl, rfl⟩ := pr1
  refine X_st [] rfl ?_
  refine X_aloadn hK (i := 0) 0 kd53_19.2.2.2.2.2.2.2.2.2.2.2 rfl rfl ?_
  refine X_getr hK 17400 200 fl_X12_123_13 hs_a0 sl_13_60 kd53_20.1 (fun b4 eb4 hs_b4 => ?_)
  refine X_iloadn hK (i := 1) 1 kd53_20.2.1 rfl rfl ?_
  refine X_iald hK hs_b4 (by decide) sl_17400 (by omega) (by omega) kd53_20.2.2.1 (fun z5 ez5 lz5 uz5 => ?_)
  refine X_aloadn hK (i := 0) 0 kd53_20.2.2.2.1 rfl rfl ?_
  refine X_iloadn hK (i := 2) 2 kd53_20.2.2.2.2.1 rfl rfl ?_
  refine X_iconst hK kd53_20.2.2.2.2.2.1 ?_
  refine X_callV hK [.int (iI x2), .int (iI 1)] [.int (iI z5)] lk_X12_395 (c_X12_tells _ _ _ _ _ S g2 a0 x2 1 wo wf wu wp hs_a0 (by omega) (by omega) ((hg2 a0 13 0 29 hs_a0 (by decide)).trans ewo) hs_wo ((hg2 a0 13 0 33 hs_a0 (by decide)).trans ewf) hs_wf ((hg2 a0 13 0 34 hs_a0 (by decide)).trans ewu) hs_wu ((hg2 a0 13 0 35 hs_a0 (by decide)).trans ewp) hs_wp (by rw [(xv_m hg2 hs_wo (by decide) (by decide)), (xv_m hg2 hs_wf (by decide) (by decide)), (xv_m hg2 hs_wu (by decide) (by decide)), (xv_m hg2 hs_wp (by decide) (by decide))]; exact hp0)) hs_a0 ⟨by decide, rfl⟩ kd53_20.2.2.2.2.2.2.1 rfl rfl (by simp [Value.category]) (by decide) (by decide) (by decide) (by decide) (fun r6 S8 g7 pr6 qr6 hg7 => ?_)
  obtain ⟨rfl, z9, rfl, lz9, uz9⟩ := pr6
  refine X_st [.int (iI z9), .int (iI z5)] rfl ?_
  refine X_imul hK kd53_20.2.2.2.2.2.2.2.1 ?_
  refine X_norm (fun z10 ez10 lz10 uz10 => ?_)
  refine X_aloadn hK (i := 0) 0 kd53_20.2.2.2.2.2.2.2.2.1 rfl rfl ?_
  refine X_getr hK 17500 200 fl_X12_126_13 hs_a0 sl_13_61 kd53_20.2.2.2.2.2.2.2.2.2.1 (fun b11 eb11 hs_b11 => ?_)
  refine X_iloadn hK (i := 1) 1 kd53_20.2.2.2.2.2.2.2.2.2.2.1 rfl rfl ?_
  refine X_iald hK hs_b11 (by decide) sl_17500 (by omega) (by omega) kd53_20.2.2.2.2.2.2.2.2.2.2.2 (fun z12 ez12 lz12 uz12 => ?_)
  refine X_aloadn hK (i := 0) 0 kd53_21.1 rfl rfl ?_
  refine X_iloadn hK (i := 2) 2 kd53_21.2.1 rfl rfl ?_
  refine X_iconst hK kd53_21.2.2.1 ?_
  refine X_callV hK [.int (iI x2), .int (iI 0)] [.int (iI z12), .int (iI z10)] lk_X12_395 (c_X12_tells _ _ _ _ _ S g7 a0 x2 0 wo wf wu wp hs_a0 (by omega) (by omega) ((hg7 a0 13 0 29 hs_a0 (by decide)).trans ((hg2 a0 13 0 29 hs_a0 (by decide)).trans ewo)) hs_wo ((hg7 a0 13 0 33 hs_a0 (by decide)).trans ((hg2 a0 13 0 33 hs_a0 (by decide)).trans ewf)) hs_wf ((hg7 a0 13 0 34 hs_a0 (by decide)).trans ((hg2 a0 13 0 34 hs_a0 (by decide)).trans ewu)) hs_wu ((hg7 a0 13 0 35 hs_a0 (by decide)).trans ((hg2 a0 13 0 35 hs_a0 (by decide)).trans ewp)) hs_wp (by rw [(Eq.trans (xv_m hg7 hs_wo (by decide) (by decide)) (xv_m hg2 hs_wo (by decide) (by decide))), (Eq.trans (xv_m hg7 hs_wf (by decide) (by decide)) (xv_m hg2 hs_wf (by decide) (by decide))), (Eq.trans (xv_m hg7 hs_wu (by decide) (by decide)) (xv_m hg2 hs_wu (by decide) (by decide))), (Eq.trans (xv_m hg7 hs_wp (by decide) (by decide)) (xv_m hg2 hs_wp (by decide) (by decide)))]; exact hp0)) hs_a0 ⟨by decide, rfl⟩ kd53_21.2.2.2.1 rfl rfl (by simp [Value.category]) (by decide) (by decide) (by decide) (by decide) (fun r13 S15 g14 pr13 qr13 hg14 => ?_)
  obtain ⟨rfl, z16, rfl, lz16, uz16⟩ := pr13
  refine X_st [.int (iI z16), .int (iI z12), .int (iI z10)] rfl ?_
  refine X_imul hK kd53_21.2.2.2.2.1 ?_
  refine X_norm (fun z17 ez17 lz17 uz17 => ?_)
  refine X_bipush hK kd53_21.2.2.2.2.2.1 (by decide) ?_
  refine X_idiv hK (by omega) (by omega) kd53_21.2.2.2.2.2.2.1 (fun z18 ez18 fz18 => ?_)
  have bz18 : -21474836 ≤ z18 ∧ z18 ≤ 21474836 := by omega
  refine X_iadd hK kd53_21.2.2.2.2.2.2.2.1 ?_
  refine X_norm (fun z19 ez19 lz19 uz19 => ?_)
  exact hret _ _ _ _ _ _ _ kd53_21.2.2.2.2.2.2.2.2.1 ⟨rfl, z19, rfl, (by omega), (by omega)⟩ (Nat.le_refl _) (Nat.le_refl _)
