theorem m_8_21 : Cond.fieldLink RX12 68 "PaperBoysModel" "piece" "[I" ∈ wsL_law := ch_8 _ (List.mem_of_getElem? (i := 21) rfl)
theorem m_8_22 : Cond.fieldLink RX12 71 "PaperBoysModel" "pieceSign" "[I" ∈ wsL_law := ch_8 _ (List.mem_of_getElem? (i := 22) rfl)
theorem m_8_23 : Cond.fieldLink RX12 74 "PaperBoysModel" "pieceNumber" "[I" ∈ wsL_law := ch_8 _ (List.mem_of_getElem? (i := 23) rfl)
theorem m_9_0 : Cond.fieldLink RX12 77 "PaperBoysModel" "pile" "[I" ∈ wsL_law := ch_9 _ (List.mem_of_getElem? (i := 0) rfl)
theorem m_28_10 : Cond.fieldLink RX12 313 "PaperBoysModel" "pieces" "I" ∈ wsL_law := ch_28 _ (List.mem_of_getElem? (i := 10) rfl)
theorem m_28_18 : Cond.fieldLink RX12 336 "PaperBoysModel" "ones" "I" ∈ wsL_law := ch_28 _ (List.mem_of_getElem? (i := 18) rfl)
theorem m_28_19 : Cond.fieldLink RX12 339 "PaperBoysModel" "within" "I" ∈ wsL_law := ch_28 _ (List.mem_of_getElem? (i := 19) rfl)
theorem m_28_22 : Cond.methodLink RX12 342 yX12_go ∈ wsL_law := ch_28 _ (List.mem_of_getElem? (i := 22) rfl)
theorem m_28_23 : Cond.instanceMethod yX12_go ∈ wsL_law := ch_28 _ (List.mem_of_getElem? (i := 23) rfl)
theorem m_29_0 : Cond.selects RX12 yX12_go yX12_go ∈ wsL_law := ch_29 _ (List.mem_of_getElem? (i := 0) rfl)
theorem m_29_1 : Cond.code yX12_go cX12_go 5 none ∈ wsL_law := ch_29 _ (List.mem_of_getElem? (i := 1) rfl)
theorem m_30_12 : Cond.methodLink RX12 333 yX12_bad ∈ wsL_law := ch_30 _ (List.mem_of_getElem? (i := 12) rfl)
theorem m_30_13 : Cond.instanceMethod yX12_bad ∈ wsL_law := ch_30 _ (List.mem_of_getElem? (i := 13) rfl)
theorem m_30_14 : Cond.selects RX12 yX12_bad yX12_bad ∈ wsL_law := ch_30 _ (List.mem_of_getElem? (i := 14) rfl)
theorem m_30_15 : Cond.code yX12_bad cX12_bad 2 (some .boolean) ∈ wsL_law := ch_30 _ (List.mem_of_getElem? (i := 15) rfl)
theorem m_30_16 : Cond.methodLink RX12 326 yX12_isNot ∈ wsL_law := ch_30 _ (List.mem_of_getElem? (i := 16) rfl)
theorem m_30_17 : Cond.instanceMethod yX12_isNot ∈ wsL_law := ch_30 _ (List.mem_of_getElem? (i := 17) rfl)
theorem m_30_18 : Cond.selects RX12 yX12_isNot yX12_isNot ∈ wsL_law := ch_30 _ (List.mem_of_getElem? (i := 18) rfl)
theorem m_30_19 : Cond.code yX12_isNot cX12_isNot 1 (some .boolean) ∈ wsL_law := ch_30 _ (List.mem_of_getElem? (i := 19) rfl)
theorem m_31_0 : Cond.fieldLink RX12 316 "PaperBoysModel" "top" "I" ∈ wsL_law := ch_31 _ (List.mem_of_getElem? (i := 0) rfl)
theorem m_31_1 : Cond.methodLink RX12 348 yX12_readOne ∈ wsL_law := ch_31 _ (List.mem_of_getElem? (i := 1) rfl)
theorem m_31_2 : Cond.instanceMethod yX12_readOne ∈ wsL_law := ch_31 _ (List.mem_of_getElem? (i := 2) rfl)
theorem m_31_3 : Cond.selects RX12 yX12_readOne yX12_readOne ∈ wsL_law := ch_31 _ (List.mem_of_getElem? (i := 3) rfl)
theorem m_31_4 : Cond.code yX12_readOne cX12_readOne 3 (some .boolean) ∈ wsL_law := ch_31 _ (List.mem_of_getElem? (i := 4) rfl)
theorem m_31_5 : Cond.methodLink RX12 323 yX12_atom ∈ wsL_law := ch_31 _ (List.mem_of_getElem? (i := 5) rfl)
theorem m_31_6 : Cond.instanceMethod yX12_atom ∈ wsL_law := ch_31 _ (List.mem_of_getElem? (i := 6) rfl)
theorem m_31_7 : Cond.selects RX12 yX12_atom yX12_atom ∈ wsL_law := ch_31 _ (List.mem_of_getElem? (i := 7) rfl)
theorem m_31_8 : Cond.code yX12_atom cX12_atom 1 (some .int) ∈ wsL_law := ch_31 _ (List.mem_of_getElem? (i := 8) rfl)
theorem m_31_13 : Cond.methodLink RX12 330 yX12_isSign ∈ wsL_law := ch_31 _ (List.mem_of_getElem? (i := 13) rfl)
theorem m_31_14 : Cond.instanceMethod yX12_isSign ∈ wsL_law := ch_31 _ (List.mem_of_getElem? (i := 14) rfl)
theorem m_31_15 : Cond.selects RX12 yX12_isSign yX12_isSign ∈ wsL_law := ch_31 _ (List.mem_of_getElem? (i := 15) rfl)
theorem m_31_16 : Cond.code yX12_isSign cX12_isSign 2 (some .boolean) ∈ wsL_law := ch_31 _ (List.mem_of_getElem? (i := 16) rfl)
theorem m_31_17 : Cond.methodLink RX12 319 yX12_emit ∈ wsL_law := ch_31 _ (List.mem_of_getElem? (i := 17) rfl)
theorem m_31_18 : Cond.instanceMethod yX12_emit ∈ wsL_law := ch_31 _ (List.mem_of_getElem? (i := 18) rfl)
theorem m_31_19 : Cond.selects RX12 yX12_emit yX12_emit ∈ wsL_law := ch_31 _ (List.mem_of_getElem? (i := 19) rfl)
theorem m_31_20 : Cond.code yX12_emit cX12_emit 5 none ∈ wsL_law := ch_31 _ (List.mem_of_getElem? (i := 20) rfl)
theorem m_31_21 : Cond.methodLink RX12 345 yX12_dropNots ∈ wsL_law := ch_31 _ (List.mem_of_getElem? (i := 21) rfl)
theorem m_31_22 : Cond.instanceMethod yX12_dropNots ∈ wsL_law := ch_31 _ (List.mem_of_getElem? (i := 22) rfl)
theorem m_31_23 : Cond.selects RX12 yX12_dropNots yX12_dropNots ∈ wsL_law := ch_31 _ (List.mem_of_getElem? (i := 23) rfl)
theorem m_32_0 : Cond.code yX12_dropNots cX12_dropNots 1 none ∈ wsL_law := ch_32 _ (List.mem_of_getElem? (i := 0) rfl)
theorem m_32_1 : Cond.methodLink RX12 351 yX12_isOpen ∈ wsL_law := ch_32 _ (List.mem_of_getElem? (i := 1) rfl)
theorem m_32_2 : Cond.instanceMethod yX12_isOpen ∈ wsL_law := ch_32 _ (List.mem_of_getElem? (i := 2) rfl)
theorem m_32_3 : Cond.selects RX12 yX12_isOpen yX12_isOpen ∈ wsL_law := ch_32 _ (List.mem_of_getElem? (i := 3) rfl)
theorem m_32_4 : Cond.code yX12_isOpen cX12_isOpen 2 (some .boolean) ∈ wsL_law := ch_32 _ (List.mem_of_getElem? (i := 4) rfl)
theorem m_32_5 : Cond.methodLink RX12 354 yX12_drop ∈ wsL_law := ch_32 _ (List.mem_of_getElem? (i := 5) rfl)
theorem m_32_6 : Cond.instanceMethod yX12_drop ∈ wsL_law := ch_32 _ (List.mem_of_getElem? (i := 6) rfl)
theorem m_32_7 : Cond.selects RX12 yX12_drop yX12_drop ∈ wsL_law := ch_32 _ (List.mem_of_getElem? (i := 7) rfl)
theorem m_32_8 : Cond.code yX12_drop cX12_drop 3 none ∈ wsL_law := ch_32 _ (List.mem_of_getElem? (i := 8) rfl)
theorem kd52_0 : (decode cX12_drop 0 = .ok (.aload_n 0, 1)) ∧ (decode cX12_drop 1 = .ok (.getfield 316, 3)) ∧ (decode cX12_drop 4 = .ok (.ifCond .le 50, 3)) ∧ (decode cX12_drop 7 = .ok (.aload_n 0, 1)) ∧ (decode cX12_drop 8 = .ok (.getfield 77, 3)) ∧ (decode cX12_drop 11 = .ok (.aload_n 0, 1)) ∧ (decode cX12_drop 12 = .ok (.getfield 316, 3)) ∧ (decode cX12_drop 15 = .ok (.iconst 1, 1)) ∧ (decode cX12_drop 16 = .ok (.isub, 1)) ∧ (decode cX12_drop 17 = .ok (.iaload, 1)) ∧ (decode cX12_drop 18 = .ok (.iload_n 1, 1)) ∧ (decode cX12_drop 19 = .ok (.iload_n 2, 1)) := by decide +kernel
theorem kd52_1 : (decode cX12_drop 20 = .ok (.invokestatic 211, 3)) ∧ (decode cX12_drop 23 = .ok (.ifCond .eq 31, 3)) ∧ (decode cX12_drop 26 = .ok (.aload_n 0, 1)) ∧ (decode cX12_drop 27 = .ok (.dup, 1)) ∧ (decode cX12_drop 28 = .ok (.getfield 316, 3)) ∧ (decode cX12_drop 31 = .ok (.iconst 1, 1)) ∧ (decode cX12_drop 32 = .ok (.isub, 1)) ∧ (decode cX12_drop 33 = .ok (.putfield 316, 3)) ∧ (decode cX12_drop 36 = .ok (.aload_n 0, 1)) ∧ (decode cX12_drop 37 = .ok (.aload_n 0, 1)) ∧ (decode cX12_drop 38 = .ok (.getfield 77, 3)) ∧ (decode cX12_drop 41 = .ok (.aload_n 0, 1)) := by decide +kernel
theorem kd52_2 : (decode cX12_drop 42 = .ok (.getfield 316, 3)) ∧ (decode cX12_drop 45 = .ok (.iaload, 1)) ∧ (decode cX12_drop 46 = .ok (.iconst 0, 1)) ∧ (decode cX12_drop 47 = .ok (.iconst 0, 1)) ∧ (decode cX12_drop 48 = .ok (.invokevirtual 319, 3)) ∧ (decode cX12_drop 51 = .ok (.goto (-51), 3)) ∧ (decode cX12_drop 54 = .ok (.return_, 1)) ∧ (decode cX12_dropNots 0 = .ok (.aload_n 0, 1)) ∧ (decode cX12_dropNots 1 = .ok (.getfield 316, 3)) ∧ (decode cX12_dropNots 4 = .ok (.ifCond .le 50, 3)) ∧ (decode cX12_dropNots 7 = .ok (.aload_n 0, 1)) ∧ (decode cX12_dropNots 8 = .ok (.getfield 77, 3)) := by decide +kernel
theorem kd52_3 : (decode cX12_dropNots 11 = .ok (.aload_n 0, 1)) ∧ (decode cX12_dropNots 12 = .ok (.getfield 316, 3)) ∧ (decode cX12_dropNots 15 = .ok (.iconst 1, 1)) ∧ (decode cX12_dropNots 16 = .ok (.isub, 1)) ∧ (decode cX12_dropNots 17 = .ok (.iaload, 1)) ∧ (decode cX12_dropNots 18 = .ok (.bipush 12, 2)) ∧ (decode cX12_dropNots 20 = .ok (.if_icmp .ne 34, 3)) ∧ (decode cX12_dropNots 23 = .ok (.aload_n 0, 1)) ∧ (decode cX12_dropNots 24 = .ok (.dup, 1)) ∧ (decode cX12_dropNots 25 = .ok (.getfield 316, 3)) ∧ (decode cX12_dropNots 28 = .ok (.iconst 1, 1)) ∧ (decode cX12_dropNots 29 = .ok (.isub, 1)) := by decide +kernel
theorem kd52_4 : (decode cX12_dropNots 30 = .ok (.putfield 316, 3)) ∧ (decode cX12_dropNots 33 = .ok (.aload_n 0, 1)) ∧ (decode cX12_dropNots 34 = .ok (.dup, 1)) ∧ (decode cX12_dropNots 35 = .ok (.getfield 339, 3)) ∧ (decode cX12_dropNots 38 = .ok (.iconst 1, 1)) ∧ (decode cX12_dropNots 39 = .ok (.isub, 1)) ∧ (decode cX12_dropNots 40 = .ok (.putfield 339, 3)) ∧ (decode cX12_dropNots 43 = .ok (.aload_n 0, 1)) ∧ (decode cX12_dropNots 44 = .ok (.bipush 12, 2)) ∧ (decode cX12_dropNots 46 = .ok (.iconst 0, 1)) ∧ (decode cX12_dropNots 47 = .ok (.iconst 0, 1)) ∧ (decode cX12_dropNots 48 = .ok (.invokevirtual 319, 3)) := by decide +kernel
theorem kd52_5 : (decode cX12_dropNots 51 = .ok (.goto (-51), 3)) ∧ (decode cX12_dropNots 54 = .ok (.return_, 1)) ∧ (decode cX12_emit 0 = .ok (.sipush 1200, 3)) ∧ (decode cX12_emit 3 = .ok (.aload_n 0, 1)) ∧ (decode cX12_emit 4 = .ok (.getfield 313, 3)) ∧ (decode cX12_emit 7 = .ok (.iadd, 1)) ∧ (decode cX12_emit 8 = .ok (.istore 4, 2)) ∧ (decode cX12_emit 10 = .ok (.aload_n 0, 1)) ∧ (decode cX12_emit 11 = .ok (.getfield 68, 3)) ∧ (decode cX12_emit 14 = .ok (.iload 4, 2)) ∧ (decode cX12_emit 16 = .ok (.iload_n 1, 1)) ∧ (decode cX12_emit 17 = .ok (.iastore, 1)) := by decide +kernel
theorem kd52_6 : (decode cX12_emit 18 = .ok (.aload_n 0, 1)) ∧ (decode cX12_emit 19 = .ok (.getfield 71, 3)) ∧ (decode cX12_emit 22 = .ok (.iload 4, 2)) ∧ (decode cX12_emit 24 = .ok (.iload_n 2, 1)) ∧ (decode cX12_emit 25 = .ok (.iastore, 1)) ∧ (decode cX12_emit 26 = .ok (.aload_n 0, 1)) ∧ (decode cX12_emit 27 = .ok (.getfield 74, 3)) ∧ (decode cX12_emit 30 = .ok (.iload 4, 2)) ∧ (decode cX12_emit 32 = .ok (.iload_n 3, 1)) ∧ (decode cX12_emit 33 = .ok (.iastore, 1)) ∧ (decode cX12_emit 34 = .ok (.aload_n 0, 1)) ∧ (decode cX12_emit 35 = .ok (.dup, 1)) := by decide +kernel
theorem kd52_7 : (decode cX12_emit 36 = .ok (.getfield 313, 3)) ∧ (decode cX12_emit 39 = .ok (.iconst 1, 1)) ∧ (decode cX12_emit 40 = .ok (.iadd, 1)) ∧ (decode cX12_emit 41 = .ok (.putfield 313, 3)) ∧ (decode cX12_emit 44 = .ok (.return_, 1)) ∧ (decode cX12_isOpen 0 = .ok (.iconst 0, 1)) ∧ (decode cX12_isOpen 1 = .ok (.istore_n 1, 1)) ∧ (decode cX12_isOpen 2 = .ok (.iload_n 1, 1)) ∧ (decode cX12_isOpen 3 = .ok (.aload_n 0, 1)) ∧ (decode cX12_isOpen 4 = .ok (.getfield 316, 3)) ∧ (decode cX12_isOpen 7 = .ok (.if_icmp .ge 22, 3)) ∧ (decode cX12_isOpen 10 = .ok (.aload_n 0, 1)) := by decide +kernel
theorem kd52_8 : (decode cX12_isOpen 11 = .ok (.getfield 77, 3)) ∧ (decode cX12_isOpen 14 = .ok (.iload_n 1, 1)) ∧ (decode cX12_isOpen 15 = .ok (.iaload, 1)) ∧ (decode cX12_isOpen 16 = .ok (.bipush 15, 2)) ∧ (decode cX12_isOpen 18 = .ok (.if_icmp .ne 5, 3)) ∧ (decode cX12_isOpen 21 = .ok (.iconst 1, 1)) ∧ (decode cX12_isOpen 22 = .ok (.ireturn, 1)) ∧ (decode cX12_isOpen 23 = .ok (.iinc 1 1, 3)) ∧ (decode cX12_isOpen 26 = .ok (.goto (-24), 3)) ∧ (decode cX12_isOpen 29 = .ok (.iconst 0, 1)) ∧ (decode cX12_isOpen 30 = .ok (.ireturn, 1)) ∧ (decode cX12_readCond 0 = .ok (.aload_n 0, 1)) := by decide +kernel
theorem kd52_9 : (decode cX12_readCond 1 = .ok (.iconst 0, 1)) ∧ (decode cX12_readCond 2 = .ok (.putfield 316, 3)) ∧ (decode cX12_readCond 5 = .ok (.aload_n 0, 1)) ∧ (decode cX12_readCond 6 = .ok (.invokevirtual 348, 3)) ∧ (decode cX12_readCond 9 = .ok (.ifCond .ne 5, 3)) ∧ (decode cX12_readCond 12 = .ok (.iconst 0, 1)) ∧ (decode cX12_readCond 13 = .ok (.ireturn, 1)) ∧ (decode cX12_readCond 14 = .ok (.aload_n 0, 1)) ∧ (decode cX12_readCond 15 = .ok (.bipush 41, 2)) ∧ (decode cX12_readCond 17 = .ok (.invokevirtual 330, 3)) ∧ (decode cX12_readCond 20 = .ok (.ifCond .eq 49, 3)) ∧ (decode cX12_readCond 23 = .ok (.aload_n 0, 1)) := by decide +kernel
theorem kd52_10 : (decode cX12_readCond 24 = .ok (.invokevirtual 351, 3)) ∧ (decode cX12_readCond 27 = .ok (.ifCond .eq 42, 3)) ∧ (decode cX12_readCond 30 = .ok (.aload_n 0, 1)) ∧ (decode cX12_readCond 31 = .ok (.bipush 13, 2)) ∧ (decode cX12_readCond 33 = .ok (.bipush 14, 2)) ∧ (decode cX12_readCond 35 = .ok (.invokevirtual 354, 3)) ∧ (decode cX12_readCond 38 = .ok (.aload_n 0, 1)) ∧ (decode cX12_readCond 39 = .ok (.dup, 1)) ∧ (decode cX12_readCond 40 = .ok (.getfield 316, 3)) ∧ (decode cX12_readCond 43 = .ok (.iconst 1, 1)) ∧ (decode cX12_readCond 44 = .ok (.isub, 1)) ∧ (decode cX12_readCond 45 = .ok (.putfield 316, 3)) := by decide +kernel
theorem kd52_11 : (decode cX12_readCond 48 = .ok (.aload_n 0, 1)) ∧ (decode cX12_readCond 49 = .ok (.dup, 1)) ∧ (decode cX12_readCond 50 = .ok (.getfield 339, 3)) ∧ (decode cX12_readCond 53 = .ok (.iconst 1, 1)) ∧ (decode cX12_readCond 54 = .ok (.isub, 1)) ∧ (decode cX12_readCond 55 = .ok (.putfield 339, 3)) ∧ (decode cX12_readCond 58 = .ok (.aload_n 0, 1)) ∧ (decode cX12_readCond 59 = .ok (.invokevirtual 342, 3)) ∧ (decode cX12_readCond 62 = .ok (.aload_n 0, 1)) ∧ (decode cX12_readCond 63 = .ok (.invokevirtual 345, 3)) ∧ (decode cX12_readCond 66 = .ok (.goto (-52), 3)) ∧ (decode cX12_readCond 69 = .ok (.aload_n 0, 1)) := by decide +kernel
theorem kd52_12 : (decode cX12_readCond 70 = .ok (.bipush 97, 2)) ∧ (decode cX12_readCond 72 = .ok (.bipush 110, 2)) ∧ (decode cX12_readCond 74 = .ok (.bipush 100, 2)) ∧ (decode cX12_readCond 76 = .ok (.iconst 0, 1)) ∧ (decode cX12_readCond 77 = .ok (.iconst 0, 1)) ∧ (decode cX12_readCond 78 = .ok (.invokestatic 297, 3)) ∧ (decode cX12_readCond 81 = .ok (.invokevirtual 301, 3)) ∧ (decode cX12_readCond 84 = .ok (.istore_n 1, 1)) ∧ (decode cX12_readCond 85 = .ok (.iload_n 1, 1)) ∧ (decode cX12_readCond 86 = .ok (.ifCond .ne 43, 3)) ∧ (decode cX12_readCond 89 = .ok (.aload_n 0, 1)) ∧ (decode cX12_readCond 90 = .ok (.bipush 111, 2)) := by decide +kernel
theorem kd52_13 : (decode cX12_readCond 92 = .ok (.bipush 114, 2)) ∧ (decode cX12_readCond 94 = .ok (.iconst 0, 1)) ∧ (decode cX12_readCond 95 = .ok (.iconst 0, 1)) ∧ (decode cX12_readCond 96 = .ok (.iconst 0, 1)) ∧ (decode cX12_readCond 97 = .ok (.invokestatic 297, 3)) ∧ (decode cX12_readCond 100 = .ok (.invokevirtual 301, 3)) ∧ (decode cX12_readCond 103 = .ok (.ifCond .ne 26, 3)) ∧ (decode cX12_readCond 106 = .ok (.aload_n 0, 1)) ∧ (decode cX12_readCond 107 = .ok (.invokevirtual 351, 3)) ∧ (decode cX12_readCond 110 = .ok (.ifCond .eq 9, 3)) ∧ (decode cX12_readCond 113 = .ok (.aload_n 0, 1)) ∧ (decode cX12_readCond 114 = .ok (.iconst 1, 1)) := by decide +kernel
theorem kd52_14 : (decode cX12_readCond 115 = .ok (.invokevirtual 333, 3)) ∧ (decode cX12_readCond 118 = .ok (.ireturn, 1)) ∧ (decode cX12_readCond 119 = .ok (.aload_n 0, 1)) ∧ (decode cX12_readCond 120 = .ok (.bipush 13, 2)) ∧ (decode cX12_readCond 122 = .ok (.bipush 14, 2)) ∧ (decode cX12_readCond 124 = .ok (.invokevirtual 354, 3)) ∧ (decode cX12_readCond 127 = .ok (.iconst 1, 1)) ∧ (decode cX12_readCond 128 = .ok (.ireturn, 1)) ∧ (decode cX12_readCond 129 = .ok (.aload_n 0, 1)) ∧ (decode cX12_readCond 130 = .ok (.bipush 13, 2)) ∧ (decode cX12_readCond 132 = .ok (.iload_n 1, 1)) ∧ (decode cX12_readCond 133 = .ok (.ifCond .eq 8, 3)) := by decide +kernel
theorem kd52_15 : (decode cX12_readCond 136 = .ok (.bipush 13, 2)) ∧ (decode cX12_readCond 138 = .ok (.goto 5, 3)) ∧ (decode cX12_readCond 141 = .ok (.bipush 14, 2)) ∧ (decode cX12_readCond 143 = .ok (.invokevirtual 354, 3)) ∧ (decode cX12_readCond 146 = .ok (.aload_n 0, 1)) ∧ (decode cX12_readCond 147 = .ok (.getfield 77, 3)) ∧ (decode cX12_readCond 150 = .ok (.aload_n 0, 1)) ∧ (decode cX12_readCond 151 = .ok (.getfield 316, 3)) ∧ (decode cX12_readCond 154 = .ok (.iload_n 1, 1)) ∧ (decode cX12_readCond 155 = .ok (.ifCond .eq 8, 3)) ∧ (decode cX12_readCond 158 = .ok (.bipush 13, 2)) ∧ (decode cX12_readCond 160 = .ok (.goto 5, 3)) := by decide +kernel
theorem kd52_16 : (decode cX12_readCond 163 = .ok (.bipush 14, 2)) ∧ (decode cX12_readCond 165 = .ok (.iastore, 1)) ∧ (decode cX12_readCond 166 = .ok (.aload_n 0, 1)) ∧ (decode cX12_readCond 167 = .ok (.dup, 1)) ∧ (decode cX12_readCond 168 = .ok (.getfield 316, 3)) ∧ (decode cX12_readCond 171 = .ok (.iconst 1, 1)) ∧ (decode cX12_readCond 172 = .ok (.iadd, 1)) ∧ (decode cX12_readCond 173 = .ok (.putfield 316, 3)) ∧ (decode cX12_readCond 176 = .ok (.aload_n 0, 1)) ∧ (decode cX12_readCond 177 = .ok (.invokevirtual 342, 3)) ∧ (decode cX12_readCond 180 = .ok (.goto (-175), 3)) ∧ (decode cX12_readOne 0 = .ok (.aload_n 0, 1)) := by decide +kernel
theorem kd52_17 : (decode cX12_readOne 1 = .ok (.invokevirtual 323, 3)) ∧ (decode cX12_readOne 4 = .ok (.istore_n 1, 1)) ∧ (decode cX12_readOne 5 = .ok (.iload_n 1, 1)) ∧ (decode cX12_readOne 6 = .ok (.iconst (-1), 1)) ∧ (decode cX12_readOne 7 = .ok (.if_icmp .ne 25, 3)) ∧ (decode cX12_readOne 10 = .ok (.aload_n 0, 1)) ∧ (decode cX12_readOne 11 = .ok (.invokevirtual 326, 3)) ∧ (decode cX12_readOne 14 = .ok (.ifCond .ne 18, 3)) ∧ (decode cX12_readOne 17 = .ok (.aload_n 0, 1)) ∧ (decode cX12_readOne 18 = .ok (.bipush 40, 2)) ∧ (decode cX12_readOne 20 = .ok (.invokevirtual 330, 3)) ∧ (decode cX12_readOne 23 = .ok (.ifCond .ne 9, 3)) := by decide +kernel
theorem kd52_18 : (decode cX12_readOne 26 = .ok (.aload_n 0, 1)) ∧ (decode cX12_readOne 27 = .ok (.iconst 1, 1)) ∧ (decode cX12_readOne 28 = .ok (.invokevirtual 333, 3)) ∧ (decode cX12_readOne 31 = .ok (.ireturn, 1)) ∧ (decode cX12_readOne 32 = .ok (.aload_n 0, 1)) ∧ (decode cX12_readOne 33 = .ok (.getfield 336, 3)) ∧ (decode cX12_readOne 36 = .ok (.bipush 50, 2)) ∧ (decode cX12_readOne 38 = .ok (.if_icmp .eq 12, 3)) ∧ (decode cX12_readOne 41 = .ok (.aload_n 0, 1)) ∧ (decode cX12_readOne 42 = .ok (.getfield 339, 3)) ∧ (decode cX12_readOne 45 = .ok (.bipush 10, 2)) ∧ (decode cX12_readOne 47 = .ok (.if_icmp .ne 9, 3)) := by decide +kernel
theorem kd52_19 : (decode cX12_readOne 50 = .ok (.aload_n 0, 1)) ∧ (decode cX12_readOne 51 = .ok (.iconst 4, 1)) ∧ (decode cX12_readOne 52 = .ok (.invokevirtual 333, 3)) ∧ (decode cX12_readOne 55 = .ok (.ireturn, 1)) ∧ (decode cX12_readOne 56 = .ok (.aload_n 0, 1)) ∧ (decode cX12_readOne 57 = .ok (.dup, 1)) ∧ (decode cX12_readOne 58 = .ok (.getfield 336, 3)) ∧ (decode cX12_readOne 61 = .ok (.iconst 1, 1)) ∧ (decode cX12_readOne 62 = .ok (.iadd, 1)) ∧ (decode cX12_readOne 63 = .ok (.putfield 336, 3)) ∧ (decode cX12_readOne 66 = .ok (.iload_n 1, 1)) ∧ (decode cX12_readOne 67 = .ok (.iconst (-1), 1)) := by decide +kernel
theorem kd52_20 : (decode cX12_readOne 68 = .ok (.if_icmp .ne 53, 3)) ∧ (decode cX12_readOne 71 = .ok (.aload_n 0, 1)) ∧ (decode cX12_readOne 72 = .ok (.dup, 1)) ∧ (decode cX12_readOne 73 = .ok (.getfield 339, 3)) ∧ (decode cX12_readOne 76 = .ok (.iconst 1, 1)) ∧ (decode cX12_readOne 77 = .ok (.iadd, 1)) ∧ (decode cX12_readOne 78 = .ok (.putfield 339, 3)) ∧ (decode cX12_readOne 81 = .ok (.aload_n 0, 1)) ∧ (decode cX12_readOne 82 = .ok (.getfield 77, 3)) ∧ (decode cX12_readOne 85 = .ok (.aload_n 0, 1)) ∧ (decode cX12_readOne 86 = .ok (.getfield 316, 3)) ∧ (decode cX12_readOne 89 = .ok (.aload_n 0, 1)) := by decide +kernel
theorem kd52_21 : (decode cX12_readOne 90 = .ok (.invokevirtual 326, 3)) ∧ (decode cX12_readOne 93 = .ok (.ifCond .eq 8, 3)) ∧ (decode cX12_readOne 96 = .ok (.bipush 12, 2)) ∧ (decode cX12_readOne 98 = .ok (.goto 5, 3)) ∧ (decode cX12_readOne 101 = .ok (.bipush 15, 2)) ∧ (decode cX12_readOne 103 = .ok (.iastore, 1)) ∧ (decode cX12_readOne 104 = .ok (.aload_n 0, 1)) ∧ (decode cX12_readOne 105 = .ok (.dup, 1)) ∧ (decode cX12_readOne 106 = .ok (.getfield 316, 3)) ∧ (decode cX12_readOne 109 = .ok (.iconst 1, 1)) ∧ (decode cX12_readOne 110 = .ok (.iadd, 1)) ∧ (decode cX12_readOne 111 = .ok (.putfield 316, 3)) := by decide +kernel
theorem kd52_22 : (decode cX12_readOne 114 = .ok (.aload_n 0, 1)) ∧ (decode cX12_readOne 115 = .ok (.invokevirtual 342, 3)) ∧ (decode cX12_readOne 118 = .ok (.goto (-118), 3)) ∧ (decode cX12_readOne 121 = .ok (.aload_n 0, 1)) ∧ (decode cX12_readOne 122 = .ok (.invokevirtual 342, 3)) ∧ (decode cX12_readOne 125 = .ok (.iload_n 1, 1)) ∧ (decode cX12_readOne 126 = .ok (.iconst 3, 1)) ∧ (decode cX12_readOne 127 = .ok (.if_icmp .ge 13, 3)) ∧ (decode cX12_readOne 130 = .ok (.aload_n 0, 1)) ∧ (decode cX12_readOne 131 = .ok (.iload_n 1, 1)) ∧ (decode cX12_readOne 132 = .ok (.iconst 0, 1)) ∧ (decode cX12_readOne 133 = .ok (.iconst 0, 1)) := by decide +kernel
theorem kd52_23 : (decode cX12_readOne 134 = .ok (.invokevirtual 319, 3)) ∧ (decode cX12_readOne 137 = .ok (.goto 76, 3)) ∧ (decode cX12_readOne 140 = .ok (.aload_n 0, 1)) ∧ (decode cX12_readOne 141 = .ok (.bipush 60, 2)) ∧ (decode cX12_readOne 143 = .ok (.invokevirtual 330, 3)) ∧ (decode cX12_readOne 146 = .ok (.ifCond .ne 27, 3)) ∧ (decode cX12_readOne 149 = .ok (.aload_n 0, 1)) ∧ (decode cX12_readOne 150 = .ok (.bipush 61, 2)) ∧ (decode cX12_readOne 152 = .ok (.invokevirtual 330, 3)) ∧ (decode cX12_readOne 155 = .ok (.ifCond .ne 18, 3)) ∧ (decode cX12_readOne 158 = .ok (.aload_n 0, 1)) ∧ (decode cX12_readOne 159 = .ok (.bipush 62, 2)) := by decide +kernel
theorem kd52_24 : (decode cX12_readOne 161 = .ok (.invokevirtual 330, 3)) ∧ (decode cX12_readOne 164 = .ok (.ifCond .ne 9, 3)) ∧ (decode cX12_readOne 167 = .ok (.aload_n 0, 1)) ∧ (decode cX12_readOne 168 = .ok (.iconst 1, 1)) ∧ (decode cX12_readOne 169 = .ok (.invokevirtual 333, 3)) ∧ (decode cX12_readOne 172 = .ok (.ireturn, 1)) ∧ (decode cX12_readOne 173 = .ok (.aload_n 0, 1)) ∧ (decode cX12_readOne 174 = .ok (.getfield 274, 3)) ∧ (decode cX12_readOne 177 = .ok (.istore_n 2, 1)) ∧ (decode cX12_readOne 178 = .ok (.aload_n 0, 1)) ∧ (decode cX12_readOne 179 = .ok (.invokevirtual 342, 3)) ∧ (decode cX12_readOne 182 = .ok (.aload_n 0, 1)) := by decide +kernel
theorem kd52_25 : (decode cX12_readOne 183 = .ok (.getfield 262, 3)) ∧ (decode cX12_readOne 186 = .ok (.iconst 3, 1)) ∧ (decode cX12_readOne 187 = .ok (.if_icmp .eq 9, 3)) ∧ (decode cX12_readOne 190 = .ok (.aload_n 0, 1)) ∧ (decode cX12_readOne 191 = .ok (.iconst 1, 1)) ∧ (decode cX12_readOne 192 = .ok (.invokevirtual 333, 3)) ∧ (decode cX12_readOne 195 = .ok (.ireturn, 1)) ∧ (decode cX12_readOne 196 = .ok (.aload_n 0, 1)) ∧ (decode cX12_readOne 197 = .ok (.iload_n 1, 1)) ∧ (decode cX12_readOne 198 = .ok (.iload_n 2, 1)) ∧ (decode cX12_readOne 199 = .ok (.aload_n 0, 1)) ∧ (decode cX12_readOne 200 = .ok (.getfield 281, 3)) := by decide +kernel
theorem kd52_26 : (decode cX12_readOne 203 = .ok (.invokevirtual 319, 3)) ∧ (decode cX12_readOne 206 = .ok (.aload_n 0, 1)) ∧ (decode cX12_readOne 207 = .ok (.invokevirtual 342, 3)) ∧ (decode cX12_readOne 210 = .ok (.goto 3, 3)) ∧ (decode cX12_readOne 213 = .ok (.aload_n 0, 1)) ∧ (decode cX12_readOne 214 = .ok (.invokevirtual 345, 3)) ∧ (decode cX12_readOne 217 = .ok (.iconst 1, 1)) ∧ (decode cX12_readOne 218 = .ok (.ireturn, 1)) := by decide +kernel
theorem fl_X12_313_13 : xF RX12 313 13 41 .int false := ⟨by decide, RX12, TX12, 91, tyX12, "PaperBoysModel", rfl, inlX12, tyX12_ok, nmX12, by decide, rfl, rfl, m_28_10, Or.inl rfl⟩
theorem fl_X12_316_13 : xF RX12 316 13 42 .int false := ⟨by decide, RX12, TX12, 91, tyX12, "PaperBoysModel", rfl, inlX12, tyX12_ok, nmX12, by decide, rfl, rfl, m_31_0, Or.inl rfl⟩
theorem fl_X12_336_13 : xF RX12 336 13 43 .int false := ⟨by decide, RX12, TX12, 91, tyX12, "PaperBoysModel", rfl, inlX12, tyX12_ok, nmX12, by decide, rfl, rfl, m_28_18, Or.inl rfl⟩
theorem fl_X12_339_13 : xF RX12 339 13 44 .int false := ⟨by decide, RX12, TX12, 91, tyX12, "PaperBoysModel", rfl, inlX12, tyX12_ok, nmX12, by decide, rfl, rfl, m_28_19, Or.inl rfl⟩
theorem fl_X12_68_13 : xF RX12 68 13 35 (.array .int) true := ⟨by decide, RX12, TX12, 91, tyX12, "PaperBoysModel", rfl, inlX12, tyX12_ok, nmX12, by decide, rfl, rfl, m_8_21, Or.inl rfl⟩
theorem fl_X12_71_13 : xF RX12 71 13 36 (.array .int) true := ⟨by decide, RX12, TX12, 91, tyX12, "PaperBoysModel", rfl, inlX12, tyX12_ok, nmX12, by decide, rfl, rfl, m_8_22, Or.inl rfl⟩
theorem fl_X12_74_13 : xF RX12 74 13 37 (.array .int) true := ⟨by decide, RX12, TX12, 91, tyX12, "PaperBoysModel", rfl, inlX12, tyX12_ok, nmX12, by decide, rfl, rfl, m_8_23, Or.inl rfl⟩
theorem fl_X12_77_13 : xF RX12 77 13 38 (.array .int) true := ⟨by decide, RX12, TX12, 91, tyX12, "PaperBoysModel", rfl, inlX12, tyX12_ok, nmX12, by decide, rfl, rfl, m_9_0, Or.inl rfl⟩
theorem lk_X12_319 : xLV RX12 319 yX12_emit cX12_emit 5 none 3 := ⟨m_31_17, m_31_18, m_31_19, m_1_5, m_31_20, by decide +kernel⟩
theorem lk_X12_323 : xLV RX12 323 yX12_atom cX12_atom 1 (some .int) 0 := ⟨m_31_5, m_31_6, m_31_7, m_1_5, m_31_8, by decide +kernel⟩
theorem lk_X12_326 : xLV RX12 326 yX12_isNot cX12_isNot 1 (some .boolean) 0 := ⟨m_30_16, m_30_17, m_30_18, m_1_5, m_30_19, by decide +kernel⟩
theorem lk_X12_330 : xLV RX12 330 yX12_isSign cX12_isSign 2 (some .boolean) 1 := ⟨m_31_13, m_31_14, m_31_15, m_1_5, m_31_16, by decide +kernel⟩
theorem lk_X12_333 : xLV RX12 333 yX12_bad cX12_bad 2 (some .boolean) 1 := ⟨m_30_12, m_30_13, m_30_14, m_1_5, m_30_15, by decide +kernel⟩
theorem lk_X12_342 : xLV RX12 342 yX12_go cX12_go 5 none 0 := ⟨m_28_22, m_28_23, m_29_0, m_1_5, m_29_1, by decide +kernel⟩
theorem lk_X12_345 : xLV RX12 345 yX12_dropNots cX12_dropNots 1 none 0 := ⟨m_31_21, m_31_22, m_31_23, m_1_5, m_32_0, by decide +kernel⟩
theorem lk_X12_348 : xLV RX12 348 yX12_readOne cX12_readOne 3 (some .boolean) 0 := ⟨m_31_1, m_31_2, m_31_3, m_1_5, m_31_4, by decide +kernel⟩
theorem lk_X12_351 : xLV RX12 351 yX12_isOpen cX12_isOpen 2 (some .boolean) 0 := ⟨m_32_1, m_32_2, m_32_3, m_1_5, m_32_4, by decide +kernel⟩
theorem lk_X12_354 : xLV RX12 354 yX12_drop cX12_drop 3 none 2 := ⟨m_32_5, m_32_6, m_32_7, m_1_5, m_32_8, by decide +kernel⟩
def xst (h : Nat) (v : Int) : Option Nat := if 0 ≤ v ∧ v ≤ 11 then (if h < 60 then some (h + 1) else none) else if v = 12 then (if 1 ≤ h then some h else none) else if v = 13 ∨ v = 14 then (if 2 ≤ h then some (h - 1) else none) else none
def xhf (p : Int → Int) (F : Int) : Nat → Option Nat
  | 0 => some 0
  | m + 1 => match xhf p F m with
    | none => none
    | some h => xst h (p (F + m))
theorem xhf_cg {p p' : Int → Int} {F F' : Int} {m : Nat} (h : ∀ k : Nat, k < m → p' (F' + k) = p (F + k)) : xhf p' F' m = xhf p F m := by
  induction m with
  | zero => rfl
  | succ m ih => unfold xhf; rw [ih (fun k hk => h k (by omega)), h m (by omega)]
theorem xhf_s {p : Int → Int} {F : Int} {m h h' : Nat} (e : xhf p F m = some h) (e' : xst h (p (F + m)) = some h') : xhf p F (m + 1) = some h' := by
  show (match xhf p F m with
    | none => none
    | some h => xst h (p (F + m))) = some h'
  rw [e]
  exact e'
theorem xhf_0 (p : Int → Int) (F n : Int) : xhf p F (n - n).toNat ≠ none := by
  rw [show (n - n).toNat = 0 by omega]
  exact fun h => by cases h
def xPl (f : Int → Int) : Nat → Nat → Nat → Nat → Prop
  | 0, c, s, d => c = 0 ∧ s = 0 ∧ d = 0
  | t + 1, c, s, d => ((f t = 12 ∨ f t = 15) ∧ s = 0 ∧ ∃ c' s', c = c' + 1 ∧ xPl f t c' s' d) ∨ (f t = 14 ∧ s = 1 ∧ ∃ d', d = d' + 1 ∧ xPl f t c 0 d') ∨ (f t = 13 ∧ s = 2 ∧ ∃ d' s', d = d' + 1 ∧ s' ≤ 1 ∧ xPl f t c s' d')
theorem xPl.z {f : Int → Int} : xPl f 0 0 0 0 := ⟨rfl, rfl, rfl⟩
theorem xPl.one {f : Int → Int} {t c s d : Nat} (h : xPl f t c s d) (e : f t = 12 ∨ f t = 15) : xPl f (t + 1) (c + 1) 0 d := Or.inl ⟨e, rfl, c, s, rfl, h⟩
theorem xPl.or {f : Int → Int} {t c d : Nat} (h : xPl f t c 0 d) (e : f t = 14) : xPl f (t + 1) c 1 (d + 1) := Or.inr (Or.inl ⟨e, rfl, d, rfl, h⟩)
theorem xPl.and {f : Int → Int} {t c s d : Nat} (h : xPl f t c s d) (hs : s ≤ 1) (e : f t = 13) : xPl f (t + 1) c 2 (d + 1) := Or.inr (Or.inr ⟨e, rfl, d, s, rfl, hs, h⟩)
theorem xPl.cg {f f' : Int → Int} {t : Nat} (hf : ∀ k : Nat, k < t → f' k = f k) : ∀ {c s d : Nat}, xPl f t c s d → xPl f' t c s d := by
  induction t with
  | zero => intro c s d h; exact h
  | succ t ih =>
    intro c s d h
    have ih' : ∀ {c s d : Nat}, xPl f t c s d → xPl f' t c s d := ih (fun k hk => hf k (by omega))
    have e := hf t (by omega)
    rcases h with ⟨h1, h2, c', s', h3, h4⟩ | ⟨h1, h2, d', h3, h4⟩ | ⟨h1, h2, d', s', h3, h5, h4⟩
    · exact Or.inl ⟨by rw [e]; exact h1, h2, c', s', h3, ih' h4⟩
    · exact Or.inr (Or.inl ⟨by rw [e]; exact h1, h2, d', h3, ih' h4⟩)
    · exact Or.inr (Or.inr ⟨by rw [e]; exact h1, h2, d', s', h3, h5, ih' h4⟩)
theorem xPl.le {f : Int → Int} {t : Nat} : ∀ {c s d : Nat}, xPl f t c s d → t ≤ 3 * c + s ∧ d ≤ 2 * c + s ∧ s ≤ 2 := by
  induction t with
  | zero => intro c s d h; obtain ⟨h1, h2, h3⟩ := h; omega
  | succ t ih =>
    intro c s d h
    rcases h with ⟨h1, h2, c', s', h3, h4⟩ | ⟨h1, h2, d', h3, h4⟩ | ⟨h1, h2, d', s', h3, h5, h4⟩
    · have := ih h4; omega
    · have := ih h4; omega
    · have := ih h4; omega
theorem xPl.not {f : Int → Int} {t c s d : Nat} (h : xPl f (t + 1) c s d) (e : f t ≠ 13 ∧ f t ≠ 14) : ∃ c' s', c = c' + 1 ∧ xPl f t c' s' d := by
  rcases h with ⟨h1, h2, c', s', h3, h4⟩ | ⟨h1, h2, d', h3, h4⟩ | ⟨h1, h2, d', s', h3, h5, h4⟩
  · exact ⟨c', s', h3, h4⟩
  · exact absurd h1 e.2
  · exact absurd h1 e.1
theorem xPl.join {f : Int → Int} {t c s d : Nat} (h : xPl f (t + 1) c s d) (e : f t = 13 ∨ f t = 14) : ∃ s' d', d = d' + 1 ∧ xPl f t c s' d' := by
  rcases h with ⟨h1, h2, c', s', h3, h4⟩ | ⟨h1, h2, d', h3, h4⟩ | ⟨h1, h2, d', s', h3, h5, h4⟩
  · omega
  · exact ⟨0, d', h3, h4⟩
  · exact ⟨s', d', h3, h4⟩
theorem xPl.s0 {f : Int → Int} {t c s d : Nat} (h : xPl f t c s d) (e : t = 0 ∨ (f (t - 1 : Int) ≠ 13 ∧ f (t - 1 : Int) ≠ 14)) : s = 0 := by
  cases t with
  | zero => exact h.2.1
  | succ t =>
    rw [show ((t + 1 : Nat) : Int) - 1 = (t : Int) by omega] at e
    rcases h with ⟨h1, h2, c', s', h3, h4⟩ | ⟨h1, h2, d', h3, h4⟩ | ⟨h1, h2, d', s', h3, h5, h4⟩ <;> omega
theorem xPl.s1 {f : Int → Int} {t c s d : Nat} (h : xPl f t c s d) (e : t = 0 ∨ f (t - 1 : Int) ≠ 13) : s ≤ 1 := by
  cases t with
  | zero => have := h.2.1; omega
  | succ t =>
    rw [show ((t + 1 : Nat) : Int) - 1 = (t : Int) by omega] at e
    rcases h with ⟨h1, h2, c', s', h3, h4⟩ | ⟨h1, h2, d', h3, h4⟩ | ⟨h1, h2, d', s', h3, h5, h4⟩ <;> omega
def xRd (p f : Int → Int) (F np nt no nw : Int) (o : Nat) : Prop := ∃ c s d : Nat, xPl f nt.toNat c s d ∧ (c : Int) ≤ nw ∧ nw ≤ 10 ∧ xhf p (1200 + F) (np - F).toNat = some (d + 1 - o) ∧ np + nt + 1 ≤ 2 * no + o ∧ no ≤ 50 ∧ 0 ≤ F ∧ F ≤ np ∧ 0 ≤ nt
theorem xRd.bd {p f : Int → Int} {F np nt no nw : Int} {o : Nat} (h : xRd p f F np nt no nw o) (ho : o ≤ 1) : 0 ≤ np ∧ np ≤ 100 ∧ 0 ≤ nt ∧ nt ≤ 32 ∧ 0 ≤ nw ∧ nw ≤ 10 ∧ no ≤ 50 ∧ 0 ≤ F ∧ F ≤ np := by
  obtain ⟨c, s, d, h1, h2, h3, h4, h5, h6, h7, h8, h9⟩ := h
  have := h1.le
  omega
theorem xRd.start {p f : Int → Int} {np no nw : Int} (h0 : 0 ≤ np) (h1 : np ≤ 2 * no) (h2 : no ≤ 50) (h3 : 0 ≤ nw) (h4 : nw ≤ 10) : xRd p f np np 0 no nw 1 :=
  ⟨0, 0, 0, xPl.z, by omega, h4, by rw [show (np - np).toNat = 0 by omega]; rfl, by omega, h2, h0, by omega, by omega⟩
theorem xRd.push {p f f' : Int → Int} {F np nt no nw : Int} (h : xRd p f F np nt no nw 1) (h1 : nw ≤ 9) (h2 : no ≤ 49) (e : f' nt = 12 ∨ f' nt = 15) (hf : ∀ i, 0 ≤ i → i ≠ nt → f' i = f i) : xRd p f' F np (nt + 1) (no + 1) (nw + 1) 1 := by
  obtain ⟨c, s, d, q1, q2, q3, q4, q5, q6, q7, q8, q9⟩ := h
  have et : ((nt.toNat : Nat) : Int) = nt := by omega
  refine ⟨c + 1, 0, d, ?_, by omega, by omega, q4, by omega, by omega, q7, q8, by omega⟩
  rw [show (nt + 1).toNat = nt.toNat + 1 by omega]
  exact xPl.one (xPl.cg (fun k hk => hf k (by omega) (by omega)) q1) (by rw [et]; exact e)
theorem xhf_up {p p' : Int → Int} {F np a : Int} {h h' : Nat} (hu : xUp p' p (1200 + np) a) (hF : 0 ≤ F) (hn : F ≤ np) (e : xhf p (1200 + F) (np - F).toNat = some h) (e' : xst h a = some h') : xhf p' (1200 + F) (np + 1 - F).toNat = some h' := by
  rw [show (np + 1 - F).toNat = (np - F).toNat + 1 by omega]
  refine xhf_s (h := h) ?_ ?_
  · rw [xhf_cg (p := p) (F := 1200 + F) (fun k hk => hu.2 _ (by omega) (by omega))]; exact e
  · rw [show 1200 + F + ((np - F).toNat : Int) = 1200 + np by omega, hu.1]; exact e'
theorem xRd.atom {p p' f : Int → Int} {F np nt no nw a : Int} (h : xRd p f F np nt no nw 1) (h2 : no ≤ 49) (ha : 0 ≤ a ∧ a ≤ 11) (hu : xUp p' p (1200 + np) a) : xRd p' f F (np + 1) nt (no + 1) nw 0 := by
  obtain ⟨c, s, d, q1, q2, q3, q4, q5, q6, q7, q8, q9⟩ := h
  have hl := q1.le
  refine ⟨c, s, d, q1, q2, q3, xhf_up hu q7 q8 q4 ?_, by omega, by omega, q7, by omega, q9⟩
  unfold xst
  rw [if_pos ha, if_pos (by omega)]
  rfl
theorem xRd.not {p p' f : Int → Int} {F np nt no nw : Int} (h : xRd p f F np nt no nw 0) (h1 : 1 ≤ nt) (e : f (nt - 1) = 12) (hu : xUp p' p (1200 + np) 12) : xRd p' f F (np + 1) (nt - 1) no (nw - 1) 0 := by
  obtain ⟨c, s, d, q1, q2, q3, q4, q5, q6, q7, q8, q9⟩ := h
  rw [show nt.toNat = (nt - 1).toNat + 1 by omega] at q1
  have et : (((nt - 1).toNat : Nat) : Int) = nt - 1 := by omega
  obtain ⟨c', s', r1, r2⟩ := q1.not (by rw [et]; omega)
  refine ⟨c', s', d, r2, by omega, by omega, xhf_up hu q7 q8 q4 ?_, by omega, q6, q7, by omega, by omega⟩
  unfold xst
  rw [if_neg (by omega), if_pos rfl, if_pos (by omega)]
theorem xRd.join {p p' f : Int → Int} {F np nt no nw a : Int} (h : xRd p f F np nt no nw 0) (h1 : 1 ≤ nt) (e : f (nt - 1) = a) (ha : a = 13 ∨ a = 14) (hu : xUp p' p (1200 + np) a) : xRd p' f F (np + 1) (nt - 1) no nw 0 := by
  obtain ⟨c, s, d, q1, q2, q3, q4, q5, q6, q7, q8, q9⟩ := h
  rw [show nt.toNat = (nt - 1).toNat + 1 by omega] at q1
  have et : (((nt - 1).toNat : Nat) : Int) = nt - 1 := by omega
  obtain ⟨s', d', r1, r2⟩ := q1.join (by rw [et, e]; exact ha)
  refine ⟨c, s', d', r2, q2, q3, xhf_up hu q7 q8 q4 ?_, by omega, q6, q7, by omega, by omega⟩
  unfold xst
  rw [if_neg (by omega), if_neg (by omega), if_pos ha, if_pos (by omega)]
  exact congrArg some (by omega)
theorem xRd.paren {p f : Int → Int} {F np nt no nw : Int} (h : xRd p f F np nt no nw 0) (h1 : 1 ≤ nt) (e : f (nt - 1) ≠ 13 ∧ f (nt - 1) ≠ 14) : xRd p f F np (nt - 1) no (nw - 1) 0 := by
  obtain ⟨c, s, d, q1, q2, q3, q4, q5, q6, q7, q8, q9⟩ := h
  rw [show nt.toNat = (nt - 1).toNat + 1 by omega] at q1
  have et : (((nt - 1).toNat : Nat) : Int) = nt - 1 := by omega
  obtain ⟨c', s', r1, r2⟩ := q1.not (by rw [et]; exact e)
  exact ⟨c', s', d, r2, by omega, by omega, q4, by omega, q6, q7, q8, by omega⟩
theorem xRd.or {p f f' : Int → Int} {F np nt no nw : Int} (h : xRd p f F np nt no nw 0) (e : nt = 0 ∨ (f (nt - 1) ≠ 13 ∧ f (nt - 1) ≠ 14)) (e' : f' nt = 14) (hf : ∀ i, 0 ≤ i → i ≠ nt → f' i = f i) : xRd p f' F np (nt + 1) no nw 1 := by
  obtain ⟨c, s, d, q1, q2, q3, q4, q5, q6, q7, q8, q9⟩ := h
  have et : ((nt.toNat : Nat) : Int) = nt := by omega
  have hs := q1.s0 (by rw [et]; exact e.imp (fun h => by omega) id)
  subst hs
  refine ⟨c, 1, d + 1, ?_, q2, q3, q4, by omega, q6, q7, q8, by omega⟩
  rw [show (nt + 1).toNat = nt.toNat + 1 by omega]
  exact xPl.or (xPl.cg (fun k hk => hf k (by omega) (by omega)) q1) (by rw [et]; exact e')
theorem xRd.and {p f f' : Int → Int} {F np nt no nw : Int} (h : xRd p f F np nt no nw 0) (e : nt = 0 ∨ f (nt - 1) ≠ 13) (e' : f' nt = 13) (hf : ∀ i, 0 ≤ i → i ≠ nt → f' i = f i) : xRd p f' F np (nt + 1) no nw 1 := by
  obtain ⟨c, s, d, q1, q2, q3, q4, q5, q6, q7, q8, q9⟩ := h
  have et : ((nt.toNat : Nat) : Int) = nt := by omega
  have hs := q1.s1 (by rw [et]; exact e.imp (fun h => by omega) id)
  refine ⟨c, 2, d + 1, ?_, q2, q3, q4, by omega, q6, q7, q8, by omega⟩
  rw [show (nt + 1).toNat = nt.toNat + 1 by omega]
  exact xPl.and (xPl.cg (fun k hk => hf k (by omega) (by omega)) q1) hs (by rw [et]; exact e')
theorem xRd.fin {p f : Int → Int} {F np nt no nw : Int} (h : xRd p f F np nt no nw 0) : xhf p (1200 + F) (np - F).toNat ≠ none ∧ np ≤ 2 * no := by
  obtain ⟨c, s, d, q1, q2, q3, q4, q5, q6, q7, q8, q9⟩ := h
  exact ⟨(by rw [q4]; exact fun h => (by cases h)), by omega⟩
def xLow (m : Int) (f' f : Int → Int) : Prop := ∀ i, 0 ≤ i → i < m → f' i = f i
theorem xLow.rf {m : Int} {f : Int → Int} : xLow m f f := fun _ _ _ => rfl
theorem xLow.tr {m m' : Int} {f f' f'' : Int → Int} (h : xLow m f' f) (h2 : xLow m' f'' f') (hm : m ≤ m') : xLow m f'' f := fun i q1 q2 => (h2 i q1 (by omega)).trans (h i q1 q2)
theorem xLow.up {m j z : Int} {f f' f'' : Int → Int} (h : xLow m f' f) (hu : xUp f'' f' j z) (hm : m ≤ j) : xLow m f'' f := fun i q1 q2 => (hu.2 i q1 (by omega)).trans (h i q1 q2)
theorem xLow.mono {m m' : Int} {f f' : Int → Int} (h : xLow m' f' f) (hm : m ≤ m') : xLow m f' f := fun i q1 q2 => h i q1 (by omega)
def xRl (cf ct p : Int → Int) (nl np : Int) : Prop := ∀ k, 0 ≤ k → k < nl → 0 ≤ cf (160 + k) ∧ cf (160 + k) ≤ ct (160 + k) ∧ ct (160 + k) ≤ np ∧ xhf p (1200 + cf (160 + k)) (ct (160 + k) - cf (160 + k)).toNat ≠ none
theorem xRl.s {cf ct p cf' ct' p' : Int → Int} {nl np np1 : Int} (h : xRl cf ct p nl np) (h0 : 0 ≤ nl) (hp0 : 0 ≤ np) (u1 : xUp cf' cf (160 + nl) np) (u2 : xUp ct' ct (160 + nl) np1) (hl : xLow (1200 + np) p' p) (hn : np ≤ np1) (hx : xhf p' (1200 + np) (np1 - np).toNat ≠ none) : xRl cf' ct' p' (nl + 1) np1 := fun k q1 q2 => by
  by_cases e : k = nl
  · subst e
    rw [u1.1, u2.1]
    exact ⟨hp0, hn, Int.le_refl _, hx⟩
  · rw [u1.2 _ (by omega) (by omega), u2.2 _ (by omega) (by omega)]
    obtain ⟨r1, r2, r3, r4⟩ := h k q1 (by omega)
    refine ⟨r1, r2, by omega, ?_⟩
    rw [xhf_cg (p := p) (F := 1200 + cf (160 + k)) (fun i hi => hl _ (by omega) (by omega))]
    exact r4
def xTv (cf ct p : Int → Int) (t k : Int) : Prop := 0 ≤ cf (16 * t + k) ∧ cf (16 * t + k) ≤ ct (16 * t + k) ∧ ct (16 * t + k) ≤ 120 ∧ xhf p (120 * t + cf (16 * t + k)) (ct (16 * t + k) - cf (16 * t + k)).toNat ≠ none
def xTr (lo cf ct p : Int → Int) (t : Int) : Prop := ∀ k, 0 ≤ k → k < lo t → xTv cf ct p t k
theorem xRl.tr {lo cf ct p : Int → Int} {nl np : Int} (h : xRl cf ct p nl np) (e : lo 10 = nl) (hn : np ≤ 120) : xTr lo cf ct p 10 := fun k q1 q2 => by
  rw [e] at q2
  obtain ⟨r1, r2, r3, r4⟩ := h k q1 q2
  exact ⟨r1, r2, by show ct (160 + k) ≤ 120; omega, r4⟩
theorem xTr.low {lo cf ct p lo' cf' ct' p' : Int → Int} {t : Int} (h : xTr lo cf ct p t) (ht : 0 ≤ t ∧ t < 10) (h1 : lo' t = lo t) (hk : lo t ≤ 16) (h2 : ∀ k, 0 ≤ k → k < 16 → cf' (16 * t + k) = cf (16 * t + k)) (h3 : ∀ k, 0 ≤ k → k < 16 → ct' (16 * t + k) = ct (16 * t + k)) (h4 : ∀ k, 0 ≤ k → k < 120 → p' (120 * t + k) = p (120 * t + k)) : xTr lo' cf' ct' p' t := fun k q1 q2 => by
  rw [h1] at q2
  obtain ⟨r1, r2, r3, r4⟩ := h k q1 q2
  unfold xTv
  rw [h2 k q1 (by omega), h3 k q1 (by omega)]
  refine ⟨r1, r2, r3, ?_⟩
  rw [xhf_cg (p := p) (F := 120 * t + cf (16 * t + k)) (fun i hi => by
    have := h4 (cf (16 * t + k) + i) (by omega) (by omega)
    rw [Int.add_assoc]
    exact this)]
  exact r4
theorem xRl.new {lo cf ct p : Int → Int} {t nl np : Int} (h : xRl cf ct p nl np) (hn : np ≤ 120) (h1 : lo t = nl) (h2 : ∀ k, 0 ≤ k → k < nl → cf (16 * t + k) = cf (160 + k)) (h3 : ∀ k, 0 ≤ k → k < nl → ct (16 * t + k) = ct (160 + k)) (h4 : ∀ k, 0 ≤ k → k < np → p (120 * t + k) = p (1200 + k)) : xTr lo cf ct p t := fun k q1 q2 => by
  rw [h1] at q2
  obtain ⟨r1, r2, r3, r4⟩ := h k q1 q2
  unfold xTv
  rw [h2 k q1 q2, h3 k q1 q2]
  refine ⟨r1, r2, by omega, ?_⟩
  rw [xhf_cg (p := p) (F := 1200 + cf (160 + k)) (fun i hi => by
    have := h4 (cf (160 + k) + i) (by omega) (by omega)
    rw [Int.add_assoc, Int.add_assoc]
    exact this)]
  exact r4
def xOp (n : Int) (f : Int → Int) : Prop := ∃ k : Int, 0 ≤ k ∧ k < n ∧ f k = 15
theorem xKm.hd2 {tk : Int → Int} {x d : Int} {p : List Int} {r1 r : xRr9} (h : xKm tk (x :: p) 2 d r1 r) : x = 15 := by
  unfold xKm at h
  rw [if_neg (by decide), if_neg (by decide)] at h
  by_cases c2 : x = 15
  · exact c2
  · rw [if_neg c2] at h; exact h.elim
theorem xKf.hd {tk : Int → Int} {x d : Int} {p : List Int} {r1 r : xRr9} (h : xKf tk (x :: p) d r1 r) : x = 14 ∨ x = 15 := by
  rcases h with h | h
  · unfold xKm at h
    rw [if_neg (by decide), if_pos rfl] at h
    by_cases c : x = 14
    · exact Or.inl c
    · rw [if_neg c] at h
      by_cases c2 : x = 15
      · exact Or.inr c2
      · rw [if_neg c2] at h; exact h.elim
  · exact Or.inr h.hd2
def xPz (h : Int → Int) : List Int → Int → Prop
  | [], n => n = 0
  | x :: p, n => 0 < n ∧ 12 ≤ x ∧ x ≤ 15 ∧ h (n - 1) = x ∧ xPz h p (n - 1)
def xcn9 : List Int → Int
  | [] => 0
  | x :: p => (if x = 12 ∨ x = 15 then 1 else 0) + xcn9 p
theorem xcn9.o {x : Int} {p : List Int} (hx : x = 13 ∨ x = 14) : xcn9 (x :: p) = xcn9 p := by
  show (if x = 12 ∨ x = 15 then (1 : Int) else 0) + xcn9 p = xcn9 p
  rw [if_neg (by omega)]
  omega
theorem xcn9.i {x : Int} {p : List Int} (hx : x = 12 ∨ x = 15) : xcn9 (x :: p) = xcn9 p + 1 := by
  show (if x = 12 ∨ x = 15 then (1 : Int) else 0) + xcn9 p = xcn9 p + 1
  rw [if_pos hx]
  omega
section XPZ
variable {h h' : Int → Int} {P : List Int} {n x b m : Int}
theorem xPz.nn (w : xPz h P n) : 0 ≤ n := by
  cases P with
  | nil => have e : n = 0 := w; omega
  | cons y p => have e : 0 < n := w.1; omega
theorem xPz.nil (w : xPz h P n) (z : n = 0) : P = [] := by
  cases P with
  | nil => rfl
  | cons y p => have e : 0 < n := w.1; omega
theorem xPz.top (w : xPz h P n) (e : 0 < n) : ∃ p, P = h (n - 1) :: p ∧ 12 ≤ h (n - 1) ∧ h (n - 1) ≤ 15 ∧ xPz h p (n - 1) := by
  cases P with
  | nil => have e' : n = 0 := w; omega
  | cons y p =>
    obtain ⟨a1, a2, a3, a4, a5⟩ := w
    exact ⟨p, by rw [a4], by omega, by omega, a5⟩
theorem xPz.cg : ∀ (P : List Int) (n : Int), (∀ i, 0 ≤ i → i < n → h' i = h i) → xPz h P n → xPz h' P n := by
  intro P
  induction P with
  | nil => intro n _ w; exact w
  | cons y p ih =>
    intro n hc w
    obtain ⟨a1, a2, a3, a4, a5⟩ := w
    exact ⟨a1, a2, a3, by rw [hc (n - 1) (by omega) (by omega)]; exact a4, ih (n - 1) (fun i q1 q2 => hc i q1 (by omega)) a5⟩
theorem xPz.push (w : xPz h P n) (hu : h' n = x) (hf : ∀ i, 0 ≤ i → i ≠ n → h' i = h i) (hx : 12 ≤ x ∧ x ≤ 15) : xPz h' (x :: P) (n + 1) := by
  have nn := w.nn
  refine ⟨by omega, hx.1, hx.2, ?_, ?_⟩
  · rw [show n + 1 - 1 = n by omega]; exact hu
  · rw [show n + 1 - 1 = n by omega]; exact xPz.cg P n (fun i q1 q2 => hf i q1 (by omega)) w
theorem xPz.rng : ∀ (P : List Int) (n : Int), xPz h P n → ∀ y ∈ P, 12 ≤ y ∧ y ≤ 15 := by
  intro P
  induction P with
  | nil => intro n _ y hy; cases hy
  | cons z p ih =>
    intro n w y hy
    obtain ⟨a1, a2, a3, a4, a5⟩ := w
    rcases List.mem_cons.mp hy with e | e
    · rw [e]; exact ⟨a2, a3⟩
    · exact ih _ a5 y e
theorem xPz.op : ∀ (P : List Int) (n : Int), xPz h P n → (15 ∈ P ↔ xOp n h) := by
  intro P
  induction P with
  | nil =>
    intro n w
    have e : n = 0 := w
    refine ⟨fun q => (by cases q), fun q => ?_⟩
    obtain ⟨k, k1, k2, k3⟩ := q
    omega
  | cons z p ih =>
    intro n w
    obtain ⟨a1, a2, a3, a4, a5⟩ := w
    have i := ih _ a5
    rw [List.mem_cons]
    constructor
    · rintro (e | e)
      · exact ⟨n - 1, by omega, by omega, by rw [a4, e]⟩
      · obtain ⟨k, k1, k2, k3⟩ := i.mp e
        exact ⟨k, k1, by omega, k3⟩
    · rintro ⟨k, k1, k2, k3⟩
      by_cases e : k = n - 1
      · rw [e, a4] at k3; exact Or.inl k3.symm
      · exact Or.inr (i.mpr ⟨k, k1, by omega, k3⟩)
theorem xdrb0 (hb : b ≤ n) (hr : ∀ k, b ≤ k → k < n → 13 ≤ h k ∧ h k ≤ m) (c : ¬ (13 ≤ h (n - 1) ∧ h (n - 1) ≤ m)) : b = n := by
  by_cases q : b = n
  · exact q
  · exact absurd (hr (n - 1) (by omega) (by omega)) c
theorem xdrb1 (hb : b ≤ n) (h0 : 0 < n) (hs : b = 0 ∨ h (b - 1) < 13 ∨ m < h (b - 1)) (c : 13 ≤ h (n - 1) ∧ h (n - 1) ≤ m) : b ≤ n - 1 := by
  by_cases q : b = n
  · rw [q] at hs; omega
  · omega
end XPZ
def xKs (tk h : Int → Int) (nt d a o : Int) (r : xRr9) : Prop := ∃ (P : List Int) (L : List (Int × Int × Int)), xPz h P nt ∧ d = xcn9 P ∧ xKm tk P 0 (d + 1) (0, a, o, L) r
def xKo (tk h : Int → Int) (nt d a o : Int) (r : xRr9) : Prop := ∃ (P : List Int) (L : List (Int × Int × Int)) (r1 : xRr9), xPz h P nt ∧ d = xcn9 P ∧ xQ tk 0 (d + 1) a o L r1 ∧ xKm tk P 0 (d + 1) r1 r
section XKO
variable {tk h h' : Int → Int} {nt d a o b c x : Int} {r : xRr9}
theorem xKo.start (w : xQ tk 2 1 a o [] r) (hn : nt = 0) (hd : d = 0) : xKo tk h nt d a o r := by
  obtain ⟨r1, w1, w2⟩ := xKm.start w
  refine ⟨[], [], r1, hn, hd, ?_, ?_⟩
  · rw [show d + 1 = 1 by omega]; exact w1
  · rw [show d + 1 = 1 by omega]; exact w2
theorem xKo.f1 (k : xKo tk h nt d a o r) (c : ¬ (10 ≤ tk a ∧ tk a ≤ 21) ∧ tk a ≠ 7 ∧ tk a ≠ 25) : r = xfq9 1 a := by
  obtain ⟨P, L, r1, h1, h2, h3, h4⟩ := k
  have e := h3.det (xQ.f1 c)
  subst e
  exact xKm.flt _ _ _ _ _ (xn9 (by decide)) h4
theorem xKo.f4 (k : xKo tk h nt d a o r) (c : ¬ (¬ (10 ≤ tk a ∧ tk a ≤ 21) ∧ tk a ≠ 7 ∧ tk a ≠ 25)) (c2 : 50 ≤ o ∨ 10 < d + 1) : r = xfq9 4 a := by
  obtain ⟨P, L, r1, h1, h2, h3, h4⟩ := k
  have e := h3.det (xQ.f4 c c2)
  subst e
  exact xKm.flt _ _ _ _ _ (xn9 (by decide)) h4
theorem xKo.fs (k : xKo tk h nt d a o r) (c : 13 ≤ tk a ∧ tk a ≤ 21) (c2 : ¬ (50 ≤ o ∨ 10 < d + 1)) (eb : b = a + 1) (c3 : ¬ (27 ≤ tk b ∧ tk b ≤ 29)) : r = xfq9 1 b := by
  subst eb
  obtain ⟨P, L, r1, h1, h2, h3, h4⟩ := k
  have e := h3.det (xQ.fs c c2 c3)
  subst e
  exact xKm.flt _ _ _ _ _ (xn9 (by decide)) h4
theorem xKo.fn (k : xKo tk h nt d a o r) (c1 : 13 ≤ tk a ∧ tk a ≤ 21) (c2 : ¬ (50 ≤ o ∨ 10 < d + 1)) (eb : b = a + 1) (ec : c = a + 2) (c3 : 27 ≤ tk b ∧ tk b ≤ 29) (c4 : tk c < 100) : r = xfq9 1 c := by
  subst eb
  subst ec
  obtain ⟨P, L, r1, h1, h2, h3, h4⟩ := k
  have e := h3.det (xQ.fn c1 c2 c3 c4)
  subst e
  exact xKm.flt _ _ _ _ _ (xn9 (by decide)) h4
theorem xKo.flag (k : xKo tk h nt d a o r) (c : 10 ≤ tk a ∧ tk a ≤ 12) (c2 : ¬ (50 ≤ o ∨ 10 < d + 1)) (eb : b = a + 1) : xKs tk h nt d b (o + 1) r := by
  subst eb
  obtain ⟨P, L, r1, h1, h2, h3, h4⟩ := k
  have e := h3.det (xQ.flag c c2)
  subst e
  exact ⟨P, _, h1, h2, h4⟩
theorem xKo.cmp (k : xKo tk h nt d a o r) (c1 : 13 ≤ tk a ∧ tk a ≤ 21) (c2 : ¬ (50 ≤ o ∨ 10 < d + 1)) (eb : b = a + 1) (ec : c = a + 2) (c3 : 27 ≤ tk b ∧ tk b ≤ 29) (c4 : 100 ≤ tk c) (ex : x = a + 3) : xKs tk h nt d x (o + 1) r := by
  subst eb
  subst ec
  subst ex
  obtain ⟨P, L, r1, h1, h2, h3, h4⟩ := k
  have e := h3.det (xQ.cmp c1 c2 c3 c4)
  subst e
  exact ⟨P, _, h1, h2, h4⟩
theorem xKo.nnt (k : xKo tk h nt d a o r) (e : tk a = 7) (c2 : ¬ (50 ≤ o ∨ 10 < d + 1)) (hu : h' nt = 12) (hf : ∀ i, 0 ≤ i → i ≠ nt → h' i = h i) : xKo tk h' (nt + 1) (d + 1) (a + 1) (o + 1) r := by
  obtain ⟨P, L, r1, h1, h2, h3, h4⟩ := k
  obtain ⟨q, w1, w2⟩ := xKm.nt e c2 h3 h4
  exact ⟨12 :: P, L, q, h1.push hu hf (by omega), by rw [xcn9.i (Or.inl rfl)]; omega, w1, w2⟩
theorem xKo.par (k : xKo tk h nt d a o r) (e : tk a = 25) (c2 : ¬ (50 ≤ o ∨ 10 < d + 1)) (hu : h' nt = 15) (hf : ∀ i, 0 ≤ i → i ≠ nt → h' i = h i) : xKo tk h' (nt + 1) (d + 1) (a + 1) (o + 1) r := by
  obtain ⟨P, L, r1, h1, h2, h3, h4⟩ := k
  obtain ⟨q, w1, w2⟩ := xKm.par e c2 h3 h4
  exact ⟨15 :: P, L, q, h1.push hu hf (by omega), by rw [xcn9.i (Or.inr rfl)]; omega, w1, w2⟩
theorem xKs.nots : ∀ (k : Nat) (nt d : Int), nt - b = k → 0 ≤ b → xKs tk h nt d a o r → (∀ j, b ≤ j → j < nt → h j = 12) → xKs tk h b (d - (nt - b)) a o r := by
  intro k
  induction k with
  | zero =>
    intro nt d e hb w _
    have e' : nt = b := by omega
    subst e'
    rw [show d - (nt - nt) = d by omega]
    exact w
  | succ k ih =>
    intro nt d e hb w hr
    obtain ⟨P, L, h1, h2, h3⟩ := w
    obtain ⟨p, e1, e2, e3, e4⟩ := h1.top (by omega)
    rw [hr (nt - 1) (by omega) (by omega)] at e1
    subst e1
    have v : xKs tk h (nt - 1) (d - 1) a o r := by
      refine ⟨p, L ++ [(12, 0, 0)], e4, ?_, ?_⟩
      · rw [xcn9.i (Or.inl rfl)] at h2; omega
      · have w := xKm.dn h3
        rw [show d + 1 - 1 = d - 1 + 1 by omega] at w
        exact w
    have u := ih (nt - 1) (d - 1) (by omega) hb v (fun j q1 q2 => hr j q1 (by omega))
    rw [show d - 1 - (nt - 1 - b) = d - (nt - b) by omega] at u
    exact u
theorem xKs.drop : ∀ (k : Nat) (P : List Int) (n : Int) (L : List (Int × Int × Int)), n - b = k + 1 → 0 ≤ b → xPz h P n → (∀ j, b ≤ j → j < n → 13 ≤ h j ∧ h j ≤ 14) → xKe tk P d (0, a, o, L) r → tk a ≠ 8 → tk a ≠ 9 → ∃ (P' : List Int) (L' : List (Int × Int × Int)), xPz h P' b ∧ xcn9 P' = xcn9 P ∧ xKf tk P' d (0, a, o, L') r := by
  intro k
  induction k with
  | zero =>
    intro P n L e hb w hr hk e8 e9
    obtain ⟨p, e1, e2, e3, e4⟩ := w.top (by omega)
    have q := hr (n - 1) (by omega) (by omega)
    subst e1
    have v := xKe.drop (by omega) hk e8 e9
    refine ⟨p, _, ?_, (xcn9.o (by omega)).symm, v⟩
    rw [show b = n - 1 by omega]
    exact e4
  | succ k ih =>
    intro P n L e hb w hr hk e8 e9
    obtain ⟨p, e1, e2, e3, e4⟩ := w.top (by omega)
    have q := hr (n - 1) (by omega) (by omega)
    subst e1
    have v := xKe.drop (by omega) hk e8 e9
    obtain ⟨P', L', u1, u2, u3⟩ := ih p (n - 1) _ (by omega) hb e4 (fun j q1 q2 => hr j q1 (by omega)) (Or.inr v) e8 e9
    exact ⟨P', L', u1, by rw [u2]; exact (xcn9.o (by omega)).symm, u3⟩
theorem xKs.shut (w : xKs tk h nt d a o r) (hn : nt = 0 ∨ h (nt - 1) ≠ 12) (ho : xOp nt h) (e : tk a = 26) (hb : 0 ≤ b ∧ b ≤ nt) (hs : b = 0 ∨ h (b - 1) < 13 ∨ 14 < h (b - 1)) (hr : ∀ k, b ≤ k → k < nt → 13 ≤ h k ∧ h k ≤ 14) : 1 ≤ b ∧ xKs tk h (b - 1) (d - 1) (a + 1) o r := by
  have b1 : 1 ≤ b := by
    obtain ⟨k, k1, k2, k3⟩ := ho
    by_cases q : k < b
    · omega
    · have := hr k (by omega) k2; omega
  refine ⟨b1, ?_⟩
  obtain ⟨P, L, h1, h2, h3⟩ := w
  have key : ∃ (P' : List Int) (L' : List (Int × Int × Int)), xPz h P' b ∧ xcn9 P' = xcn9 P ∧ xKe tk P' (d + 1) (0, a, o, L') r ∧ h (b - 1) ≠ 12 := by
    by_cases q : b = nt
    · subst q
      exact ⟨P, L, h1, rfl, Or.inl h3, by omega⟩
    · obtain ⟨P', L', u1, u2, u3⟩ := xKs.drop (nt - b - 1).toNat P nt L (by omega) hb.1 h1 hr (Or.inl h3) (by omega) (by omega)
      refine ⟨P', L', u1, u2, Or.inr u3, fun q2 => ?_⟩
      obtain ⟨p, e1, _⟩ := u1.top (by omega)
      rw [e1] at u3
      have := u3.hd
      omega
  obtain ⟨P', L', u1, u2, u3, u4⟩ := key
  obtain ⟨p, e1, e2, e3, e4⟩ := u1.top (by omega)
  have e15 : h (b - 1) = 15 := by omega
  rw [e15] at e1
  subst e1
  have v := xKm.shut (xKe.shut u3 (by omega) (by omega)) e
  rw [xcn9.i (Or.inr rfl)] at u2
  refine ⟨p, L', e4, by omega, ?_⟩
  rw [show d - 1 + 1 = d + 1 - 1 by omega]
  exact v
theorem xKe.opn : ∀ (P : List Int) (L : List (Int × Int × Int)), (∀ y ∈ P, 12 ≤ y ∧ y ≤ 15) → 15 ∈ P → (∀ p, P ≠ 12 :: p) → xKe tk P d (0, a, o, L) r → tk a ≠ 8 → tk a ≠ 9 → tk a ≠ 26 → r = xfq9 1 a := by
  intro P
  induction P with
  | nil => intro L _ q; cases q
  | cons y p ih =>
    intro L hy q h12 hk e8 e9 e26
    have ry := hy y (List.mem_cons_self ..)
    by_cases c : y = 15
    · subst c
      exact xKm.opq (xKe.shut hk e8 e9) e26
    · have n12 : y ≠ 12 := fun z => h12 p (by rw [z])
      have v := xKe.drop (by omega) hk e8 e9
      refine ih _ (fun z hz => hy z (List.mem_cons_of_mem _ hz)) ?_ ?_ (Or.inr v) e8 e9 e26
      · rcases List.mem_cons.mp q with z | z
        · exact absurd z.symm c
        · exact z
      · intro p' z
        rw [z] at v
        have := v.hd
        omega
theorem xKe.fin : ∀ (P : List Int) (L : List (Int × Int × Int)), (∀ y ∈ P, 12 ≤ y ∧ y ≤ 15) → ¬ 15 ∈ P → (∀ p, P ≠ 12 :: p) → xKe tk P d (0, a, o, L) r → tk a ≠ 8 → tk a ≠ 9 → (r.1 = 0 ∧ r.2.1 = a ∧ r.2.2.1 = o) ∧ xcn9 P = 0 := by
  intro P
  induction P with
  | nil =>
    intro L _ _ _ hk e8 e9
    rw [xKe.nil hk e8 e9]
    exact ⟨⟨rfl, rfl, rfl⟩, rfl⟩
  | cons y p ih =>
    intro L hy q h12 hk e8 e9
    have ry := hy y (List.mem_cons_self ..)
    have n12 : y ≠ 12 := fun z => h12 p (by rw [z])
    have n15 : y ≠ 15 := fun z => q (by rw [z]; exact List.mem_cons_self ..)
    have v := xKe.drop (by omega) hk e8 e9
    have u := ih _ (fun z hz => hy z (List.mem_cons_of_mem _ hz)) (fun z => q (List.mem_cons_of_mem _ z)) ?_ (Or.inr v) e8 e9
    · rw [xcn9.o (by omega)]; exact u
    · intro p' z
      rw [z] at v
      have := v.hd
      omega
theorem xKs.n12 {P : List Int} (h1 : xPz h P nt) (hn : nt = 0 ∨ h (nt - 1) ≠ 12) : ∀ p, P ≠ 12 :: p := fun p e => by
  rw [e] at h1
  obtain ⟨a1, a2, a3, a4, a5⟩ := h1
  omega
theorem xKs.opn (w : xKs tk h nt d a o r) (hn : nt = 0 ∨ h (nt - 1) ≠ 12) (ho : xOp nt h) (e8 : tk a ≠ 8) (e9 : tk a ≠ 9) (e26 : tk a ≠ 26) : r = xfq9 1 a := by
  obtain ⟨P, L, h1, h2, h3⟩ := w
  exact xKe.opn P L (xPz.rng P nt h1) ((xPz.op P nt h1).mpr ho) (xKs.n12 h1 hn) (Or.inl h3) e8 e9 e26
theorem xKs.fin (w : xKs tk h nt d a o r) (hn : nt = 0 ∨ h (nt - 1) ≠ 12) (ho : ¬ xOp nt h) (e8 : tk a ≠ 8) (e9 : tk a ≠ 9) : (r.1 = 0 ∧ r.2.1 = a ∧ r.2.2.1 = o) ∧ d = 0 := by
  obtain ⟨P, L, h1, h2, h3⟩ := w
  have u := xKe.fin P L (xPz.rng P nt h1) (fun q => ho ((xPz.op P nt h1).mp q)) (xKs.n12 h1 hn) (Or.inl h3) e8 e9
  exact ⟨u.1, by rw [h2]; exact u.2⟩
theorem xKs.and (w : xKs tk h nt d a o r) (hn : nt = 0 ∨ h (nt - 1) ≠ 12) (e : tk a = 8) (hb : 0 ≤ b ∧ b ≤ nt) (hs : b = 0 ∨ h (b - 1) < 13 ∨ 13 < h (b - 1)) (hr : ∀ k, b ≤ k → k < nt → 13 ≤ h k ∧ h k ≤ 13) (hu : h' b = 13) (hf : ∀ i, 0 ≤ i → i ≠ b → h' i = h i) : xKo tk h' (b + 1) d (a + 1) o r := by
  obtain ⟨P, L, h1, h2, h3⟩ := w
  have nn := h1.nn
  by_cases z : nt = 0
  · have e0 := h1.nil z
    subst e0
    obtain ⟨r1, w1, w2⟩ := xKm.and e (Or.inl rfl) h3
    have hb0 : b = nt := by omega
    subst hb0
    exact ⟨[13], L, r1, xPz.push h1 hu hf (by omega), by rw [xcn9.o (Or.inl rfl)]; exact h2, w1, w2⟩
  · obtain ⟨p, e1, e2, e3, e4⟩ := h1.top (by omega)
    by_cases c : h (nt - 1) = 13
    · have b1 := xdrb1 (m := 13) hb.2 (by omega) hs (by omega)
      rw [c] at e1
      subst e1
      obtain ⟨r1, w1, w2⟩ := xKm.and2 e h3
      have bb : b = nt - 1 := by
        by_cases zz : nt - 1 = 0
        · omega
        · obtain ⟨p2, f1, _⟩ := e4.top (by omega)
          unfold xKm at h3
          rw [if_pos rfl, if_neg (by decide), if_pos rfl] at h3
          obtain ⟨r2, _, q⟩ := h3
          rw [f1] at q
          have g := xKf.hd (Or.inl q)
          exact xdrb0 (m := 13) b1 (fun k q1 q2 => hr k q1 (by omega)) (by omega)
      subst bb
      exact ⟨13 :: p, _, r1, xPz.push e4 hu hf (by omega), h2, w1, w2⟩
    · have bb := xdrb0 (m := 13) hb.2 hr (by omega)
      subst bb
      have hp : P = [] ∨ ∃ q, P = 14 :: q ∨ P = 15 :: q := Or.inr ⟨p, by
        rcases (show h (b - 1) = 14 ∨ h (b - 1) = 15 by omega) with q | q
        · rw [q] at e1; exact Or.inl e1
        · rw [q] at e1; exact Or.inr e1⟩
      obtain ⟨r1, w1, w2⟩ := xKm.and e hp h3
      exact ⟨13 :: P, L, r1, xPz.push h1 hu hf (by omega), by rw [xcn9.o (Or.inl rfl)]; exact h2, w1, w2⟩
theorem xKo.or1 {P : List Int} {L : List (Int × Int × Int)} {n : Int} (h1 : xPz h P n) (h2 : d = xcn9 P) (h3 : xKm tk P 1 (d + 1) (0, a, o, L) r) (e : tk a = 9) (hb : 0 ≤ b ∧ b ≤ n) (hs : b = 0 ∨ h (b - 1) < 13 ∨ 14 < h (b - 1)) (hr : ∀ k, b ≤ k → k < n → 13 ≤ h k ∧ h k ≤ 14) (hu : h' b = 14) (hf : ∀ i, 0 ≤ i → i ≠ b → h' i = h i) : xKo tk h' (b + 1) d (a + 1) o r := by
  have nn := h1.nn
  by_cases z : n = 0
  · have e0 := h1.nil z
    subst e0
    obtain ⟨r1, w1, w2⟩ := xKm.or e (Or.inl rfl) h3
    have hb0 : b = n := by omega
    subst hb0
    exact ⟨[14], L, r1, xPz.push h1 hu hf (by omega), by rw [xcn9.o (Or.inr rfl)]; exact h2, w1, w2⟩
  · obtain ⟨p, e1, e2, e3, e4⟩ := h1.top (by omega)
    have g : h (n - 1) = 14 ∨ h (n - 1) = 15 := by
      rw [e1] at h3
      exact xKf.hd (Or.inl h3)
    rcases g with c | c
    · have b1 := xdrb1 (m := 14) hb.2 (by omega) hs (by omega)
      rw [c] at e1
      subst e1
      obtain ⟨r1, w1, w2⟩ := xKm.or2 e h3
      have bb : b = n - 1 := by
        by_cases zz : n - 1 = 0
        · omega
        · obtain ⟨p2, f1, _⟩ := e4.top (by omega)
          unfold xKm at h3
          rw [if_neg (by decide), if_pos rfl, if_pos rfl] at h3
          obtain ⟨r2, _, q⟩ := h3
          rw [f1] at q
          have g := q.hd2
          exact xdrb0 (m := 14) b1 (fun k q1 q2 => hr k q1 (by omega)) (by omega)
      subst bb
      exact ⟨14 :: p, _, r1, xPz.push e4 hu hf (by omega), h2, w1, w2⟩
    · have bb := xdrb0 (m := 14) hb.2 hr (by omega)
      subst bb
      rw [c] at e1
      obtain ⟨r1, w1, w2⟩ := xKm.or e (Or.inr ⟨p, e1⟩) h3
      exact ⟨14 :: P, L, r1, xPz.push h1 hu hf (by omega), by rw [xcn9.o (Or.inr rfl)]; exact h2, w1, w2⟩
theorem xKs.or (w : xKs tk h nt d a o r) (hn : nt = 0 ∨ h (nt - 1) ≠ 12) (e : tk a = 9) (hb : 0 ≤ b ∧ b ≤ nt) (hs : b = 0 ∨ h (b - 1) < 13 ∨ 14 < h (b - 1)) (hr : ∀ k, b ≤ k → k < nt → 13 ≤ h k ∧ h k ≤ 14) (hu : h' b = 14) (hf : ∀ i, 0 ≤ i → i ≠ b → h' i = h i) : xKo tk h' (b + 1) d (a + 1) o r := by
  obtain ⟨P, L, h1, h2, h3⟩ := w
  have nn := h1.nn
  have e8 : tk a ≠ 8 := by omega
  by_cases z : nt = 0
  · have e0 := h1.nil z
    subst e0
    exact xKo.or1 h1 h2 (xKm.d0 e8 (Or.inl rfl) h3) e hb hs hr hu hf
  · obtain ⟨p, e1, e2, e3, e4⟩ := h1.top (by omega)
    by_cases c : h (nt - 1) = 13
    · have b1 := xdrb1 (m := 14) hb.2 (by omega) hs (by omega)
      rw [c] at e1
      subst e1
      rw [xcn9.o (Or.inl rfl)] at h2
      exact xKo.or1 e4 h2 (xKm.da e8 h3) e ⟨hb.1, b1⟩ hs (fun k q1 q2 => hr k q1 (by omega)) hu hf
    · have hp : P = [] ∨ ∃ q, P = 14 :: q ∨ P = 15 :: q := Or.inr ⟨p, by
        rcases (show h (nt - 1) = 14 ∨ h (nt - 1) = 15 by omega) with q | q
        · rw [q] at e1; exact Or.inl e1
        · rw [q] at e1; exact Or.inr e1⟩
      exact xKo.or1 h1 h2 (xKm.d0 e8 hp h3) e hb hs hr hu hf
end XKO
set_option maxHeartbeats 4000000 in
set_option maxRecDepth 100000 in
theorem c2_isOpen (l : Launch) (D : va_G) (kA : Nat → ClassId) (b0 : Nat) (t0 : Nat → Nat) (S : xT) (g : xG) (a0 : Nat) (nt : Int) (wl : Nat) (hs_a0 : S a0 = some (13, 0)) (hnt : 0 ≤ nt ∧ nt ≤ 64) (ent : g a0 42 = .int (iI nt)) (ewl : g a0 38 = .ref wl) (hs_wl : S wl = some (16200, 64)) : xMt l yX12_isOpen cX12_isOpen 2 (some .boolean) 0 0 0 0 D kA b0 t0 [] [.ref a0] S g (fun (r : Option Value) (S1 : xT) (g1 : xG) => S = S1 ∧ g = g1 ∧ ∃ z : Int, r = some (.int (iI z)) ∧ 0 ≤ z ∧ z ≤ 1 ∧ (z = 1 → xOp nt (xv g wl)) ∧ (z = 0 → ¬ xOp nt (xv g wl))) := by
  refine xEnterZ (by decide) (by simp [lg_sl, Value.category]) [(0, .ref a0)] rfl ?_
  intro K E hK hret _ _ _
  refine X_iconst hK kd52_7.2.2.2.2.2.1 ?_
  refine X_istoren hK (i := 1) [(1, .int (iI 0)), (0, .ref a0)] kd52_7.2.2.2.2.2.2.1 rfl (by decide) rfl ?_
  have P25 : ∀ (nP25 : Nat) (z21 : Int) (_ : 0 ≤ z21) (_ : z21 ≤ 64) (_ : ∀ j : Int, 0 ≤ j → j < z21 → xv g wl j ≠ 15) (_ : 80 - z21 < (nP25 : Int)), X K E 2 [(1, .int (iI z21)), (0, .ref a0)] [] S g 0 0 := by
    intro nP25
    induction nP25 with
    | zero => intro z21 lz21 uz21 v26 mP25; exact False.elim (by omega)
    | succ nP25 ihP25 =>
      intro z21 lz21 uz21 v26 mP25
      refine X_iloadn hK (i := 1) 0 kd52_7.2.2.2.2.2.2.2.1 rfl rfl ?_
      refine X_aloadn hK (i := 0) 1 kd52_7.2.2.2.2.2.2.2.2.1 rfl rfl ?_
      refine X_getK hK fl_X12_316_13 hs_a0 ent kd52_7.2.2.2.2.2.2.2.2.2.1 ?_
      refine X_icmp_ge hK 29 (by omega) (by omega) kd52_7.2.2.2.2.2.2.2.2.2.2.1 (by decide) (fun c27 => ?_) (fun c27 => ?_)
      · refine X_iconst hK kd52_8.2.2.2.2.2.2.2.2.2.1 ?_
        exact hret _ _ _ _ _ _ _ kd52_8.2.2.2.2.2.2.2.2.2.2.1 (by omega) (by omega) ⟨rfl, rfl, 0, rfl, (by omega), (by omega), (fun h => by omega), (fun _ h9 => by obtain ⟨k9, h1, h2, h3⟩ := h9; exact v26 k9 h1 (by omega) h3)⟩ (Nat.le_refl _) (Nat.le_refl _)
      · refine X_aloadn hK (i := 0) 1 kd52_7.2.2.2.2.2.2.2.2.2.2.2 rfl rfl ?_
        refine X_getK hK fl_X12_77_13 hs_a0 ewl kd52_8.1 ?_
        refine X_iloadn hK (i := 1) 0 kd52_8.2.1 rfl rfl ?_
        refine X_iald hK hs_wl (by decide) sl_16200 (by omega) (by omega) kd52_8.2.2.1 (fun z28 ez28 lz28 uz28 => ?_)
        have hvz28 := xv_e (j := z21) ez28 (by omega)
        refine X_bipush hK kd52_8.2.2.2.1 (by decide) ?_
        refine X_icmp_ne hK 23 (by omega) (by omega) kd52_8.2.2.2.2.1 (by decide) (fun c29 => ?_) (fun c29 => ?_)
        · refine X_iinc hK (i := 1) (z := z21) (n := 1) 0 [(1, .int (iI (z21 + 1))), (0, .ref a0)] kd52_8.2.2.2.2.2.2.2.1 rfl (by decide) rfl ?_
          refine X_goto hK 2 kd52_8.2.2.2.2.2.2.2.2.1 (by decide) ?_
          exact ihP25  (z21 + 1) (by omega) (by omega) (fun j q1 q2 => by rcases (show j = z21 ∨ j < z21 by omega) with c9 | c9 <;> first | (rw [c9]; omega) | exact v26 j q1 c9) (by omega)
        · refine X_iconst hK kd52_8.2.2.2.2.2.1 ?_
          exact hret _ _ _ _ _ _ _ kd52_8.2.2.2.2.2.2.1 (by omega) (by omega) ⟨rfl, rfl, 1, rfl, (by omega), (by omega), (fun _ => ⟨z21, by omega, by omega, by omega⟩), (fun h => by omega)⟩ (Nat.le_refl _) (Nat.le_refl _)
  exact P25 ((80 - 0 : Int).toNat + 1) 0 (by omega) (by omega) (fun j q1 q2 => by omega) (by omega)
