theorem m_8_21 : Cond.fieldLink RX12 68 "PaperBoysModel" "piece" "[I" ∈ wsL_law := ch_8 _ (List.mem_of_getElem? (i := 21) rfl)
theorem m_8_22 : Cond.fieldLink RX12 71 "PaperBoysModel" "pieceSign" "[I" ∈ wsL_law := ch_8 _ (List.mem_of_getElem? (i := 22) rfl)
theorem m_8_23 : Cond.fieldLink RX12 74 "PaperBoysModel" "pieceNumber" "[I" ∈ wsL_law := ch_8 _ (List.mem_of_getElem? (i := 23) rfl)
theorem m_9_0 : Cond.fieldLink RX12 77 "PaperBoysModel" "pile" "[I" ∈ wsL_law := ch_9 _ (List.mem_of_getElem? (i := 0) rfl)
theorem m_28_10 : Cond.fieldLink RX12 313 "PaperBoysModel" "pieces" "I" ∈ wsL_law := ch_28 _ (List.mem_of_getElem? (i := 10) rfl)
theorem m_28_18 : Cond.fieldLink RX12 336 "PaperBoysModel" "ones" "I" ∈ wsL_law := ch_28 _ (List.mem_of_getElem? (i := 18) rfl)
theorem m_28_19 : Cond.fieldLink RX12 339 "PaperBoysModel" "within" "I" ∈ wsL_law := ch_28 _ (List.mem_of_getElem? (i := 19) rfl)
theorem m_28_22 : Cond.methodLink RX12 342 yX12_go ∈ wsL_law := ch_28 _ (List.mem_of_getElem? (i := 22) rfl)
theorem m_28_23 : Cond.instanceMethod yX12_go ∈ wsL_law := ch_28 _ (List.mem_of_getElem? (i := 23) rfl)
theorem m_29_0 : Cond.selects RX12 yX12_go yX12_go ∈ wsL_law := ch_29 _ (List.mem_of_getElem? (i := 0) rfl)
theorem m_29_1 : Cond.code yX12_go cX12_go 5 none ∈ wsL_law := ch_29 _ (List.mem_of_getElem? (i := 1) rfl)
theorem m_30_12 : Cond.methodLink RX12 333 yX12_bad ∈ wsL_law := ch_30 _ (List.mem_of_getElem? (i := 12) rfl)
theorem m_30_13 : Cond.instanceMethod yX12_bad ∈ wsL_law := ch_30 _ (List.mem_of_getElem? (i := 13) rfl)
theorem m_30_14 : Cond.selects RX12 yX12_bad yX12_bad ∈ wsL_law := ch_30 _ (List.mem_of_getElem? (i := 14) rfl)
theorem m_30_15 : Cond.code yX12_bad cX12_bad 2 (some .boolean) ∈ wsL_law := ch_30 _ (List.mem_of_getElem? (i := 15) rfl)
theorem m_30_16 : Cond.methodLink RX12 326 yX12_isNot ∈ wsL_law := ch_30 _ (List.mem_of_getElem? (i := 16) rfl)
theorem m_30_17 : Cond.instanceMethod yX12_isNot ∈ wsL_law := ch_30 _ (List.mem_of_getElem? (i := 17) rfl)
theorem m_30_18 : Cond.selects RX12 yX12_isNot yX12_isNot ∈ wsL_law := ch_30 _ (List.mem_of_getElem? (i := 18) rfl)
theorem m_30_19 : Cond.code yX12_isNot cX12_isNot 1 (some .boolean) ∈ wsL_law := ch_30 _ (List.mem_of_getElem? (i := 19) rfl)
theorem m_31_0 : Cond.fieldLink RX12 316 "PaperBoysModel" "top" "I" ∈ wsL_law := ch_31 _ (List.mem_of_getElem? (i := 0) rfl)
theorem m_31_1 : Cond.methodLink RX12 348 yX12_readOne ∈ wsL_law := ch_31 _ (List.mem_of_getElem? (i := 1) rfl)
theorem m_31_2 : Cond.instanceMethod yX12_readOne ∈ wsL_law := ch_31 _ (List.mem_of_getElem? (i := 2) rfl)
theorem m_31_3 : Cond.selects RX12 yX12_readOne yX12_readOne ∈ wsL_law := ch_31 _ (List.mem_of_getElem? (i := 3) rfl)
theorem m_31_4 : Cond.code yX12_readOne cX12_readOne 3 (some .boolean) ∈ wsL_law := ch_31 _ (List.mem_of_getElem? (i := 4) rfl)
theorem m_31_5 : Cond.methodLink RX12 323 yX12_atom ∈ wsL_law := ch_31 _ (List.mem_of_getElem? (i := 5) rfl)
theorem m_31_6 : Cond.instanceMethod yX12_atom ∈ wsL_law := ch_31 _ (List.mem_of_getElem? (i := 6) rfl)
theorem m_31_7 : Cond.selects RX12 yX12_atom yX12_atom ∈ wsL_law := ch_31 _ (List.mem_of_getElem? (i := 7) rfl)
theorem m_31_8 : Cond.code yX12_atom cX12_atom 1 (some .int) ∈ wsL_law := ch_31 _ (List.mem_of_getElem? (i := 8) rfl)
theorem m_31_13 : Cond.methodLink RX12 330 yX12_isSign ∈ wsL_law := ch_31 _ (List.mem_of_getElem? (i := 13) rfl)
theorem m_31_14 : Cond.instanceMethod yX12_isSign ∈ wsL_law := ch_31 _ (List.mem_of_getElem? (i := 14) rfl)
theorem m_31_15 : Cond.selects RX12 yX12_isSign yX12_isSign ∈ wsL_law := ch_31 _ (List.mem_of_getElem? (i := 15) rfl)
theorem m_31_16 : Cond.code yX12_isSign cX12_isSign 2 (some .boolean) ∈ wsL_law := ch_31 _ (List.mem_of_getElem? (i := 16) rfl)
theorem m_31_17 : Cond.methodLink RX12 319 yX12_emit ∈ wsL_law := ch_31 _ (List.mem_of_getElem? (i := 17) rfl)
theorem m_31_18 : Cond.instanceMethod yX12_emit ∈ wsL_law := ch_31 _ (List.mem_of_getElem? (i := 18) rfl)
theorem m_31_19 : Cond.selects RX12 yX12_emit yX12_emit ∈ wsL_law := ch_31 _ (List.mem_of_getElem? (i := 19) rfl)
theorem m_31_20 : Cond.code yX12_emit cX12_emit 5 none ∈ wsL_law := ch_31 _ (List.mem_of_getElem? (i := 20) rfl)
theorem m_31_21 : Cond.methodLink RX12 345 yX12_dropNots ∈ wsL_law := ch_31 _ (List.mem_of_getElem? (i := 21) rfl)
theorem m_31_22 : Cond.instanceMethod yX12_dropNots ∈ wsL_law := ch_31 _ (List.mem_of_getElem? (i := 22) rfl)
theorem m_31_23 : Cond.selects RX12 yX12_dropNots yX12_dropNots ∈ wsL_law := ch_31 _ (List.mem_of_getElem? (i := 23) rfl)
theorem m_32_0 : Cond.code yX12_dropNots cX12_dropNots 1 none ∈ wsL_law := ch_32 _ (List.mem_of_getElem? (i := 0) rfl)
theorem m_32_1 : Cond.methodLink RX12 351 yX12_isOpen ∈ wsL_law := ch_32 _ (List.mem_of_getElem? (i := 1) rfl)
theorem m_32_2 : Cond.instanceMethod yX12_isOpen ∈ wsL_law := ch_32 _ (List.mem_of_getElem? (i := 2) rfl)
theorem m_32_3 : Cond.selects RX12 yX12_isOpen yX12_isOpen ∈ wsL_law := ch_32 _ (List.mem_of_getElem? (i := 3) rfl)
theorem m_32_4 : Cond.code yX12_isOpen cX12_isOpen 2 (some .boolean) ∈ wsL_law := ch_32 _ (List.mem_of_getElem? (i := 4) rfl)
theorem m_32_5 : Cond.methodLink RX12 354 yX12_drop ∈ wsL_law := ch_32 _ (List.mem_of_getElem? (i := 5) rfl)
theorem m_32_6 : Cond.instanceMethod yX12_drop ∈ wsL_law := ch_32 _ (List.mem_of_getElem? (i := 6) rfl)
theorem m_32_7 : Cond.selects RX12 yX12_drop yX12_drop ∈ wsL_law := ch_32 _ (List.mem_of_getElem? (i := 7) rfl)
theorem m_32_8 : Cond.code yX12_drop cX12_drop 3 none ∈ wsL_law := ch_32 _ (List.mem_of_getElem? (i := 8) rfl)
theorem kd45_0 : (decode cX12_drop 0 = .ok (.aload_n 0, 1)) ∧ (decode cX12_drop 1 = .ok (.getfield 316, 3)) ∧ (decode cX12_drop 4 = .ok (.ifCond .le 50, 3)) ∧ (decode cX12_drop 7 = .ok (.aload_n 0, 1)) ∧ (decode cX12_drop 8 = .ok (.getfield 77, 3)) ∧ (decode cX12_drop 11 = .ok (.aload_n 0, 1)) ∧ (decode cX12_drop 12 = .ok (.getfield 316, 3)) ∧ (decode cX12_drop 15 = .ok (.iconst 1, 1)) ∧ (decode cX12_drop 16 = .ok (.isub, 1)) ∧ (decode cX12_drop 17 = .ok (.iaload, 1)) ∧ (decode cX12_drop 18 = .ok (.iload_n 1, 1)) ∧ (decode cX12_drop 19 = .ok (.iload_n 2, 1)) := by decide +kernel
theorem kd45_1 : (decode cX12_drop 20 = .ok (.invokestatic 211, 3)) ∧ (decode cX12_drop 23 = .ok (.ifCond .eq 31, 3)) ∧ (decode cX12_drop 26 = .ok (.aload_n 0, 1)) ∧ (decode cX12_drop 27 = .ok (.dup, 1)) ∧ (decode cX12_drop 28 = .ok (.getfield 316, 3)) ∧ (decode cX12_drop 31 = .ok (.iconst 1, 1)) ∧ (decode cX12_drop 32 = .ok (.isub, 1)) ∧ (decode cX12_drop 33 = .ok (.putfield 316, 3)) ∧ (decode cX12_drop 36 = .ok (.aload_n 0, 1)) ∧ (decode cX12_drop 37 = .ok (.aload_n 0, 1)) ∧ (decode cX12_drop 38 = .ok (.getfield 77, 3)) ∧ (decode cX12_drop 41 = .ok (.aload_n 0, 1)) := by decide +kernel
theorem kd45_2 : (decode cX12_drop 42 = .ok (.getfield 316, 3)) ∧ (decode cX12_drop 45 = .ok (.iaload, 1)) ∧ (decode cX12_drop 46 = .ok (.iconst 0, 1)) ∧ (decode cX12_drop 47 = .ok (.iconst 0, 1)) ∧ (decode cX12_drop 48 = .ok (.invokevirtual 319, 3)) ∧ (decode cX12_drop 51 = .ok (.goto (-51), 3)) ∧ (decode cX12_drop 54 = .ok (.return_, 1)) ∧ (decode cX12_dropNots 0 = .ok (.aload_n 0, 1)) ∧ (decode cX12_dropNots 1 = .ok (.getfield 316, 3)) ∧ (decode cX12_dropNots 4 = .ok (.ifCond .le 50, 3)) ∧ (decode cX12_dropNots 7 = .ok (.aload_n 0, 1)) ∧ (decode cX12_dropNots 8 = .ok (.getfield 77, 3)) := by decide +kernel
theorem kd45_3 : (decode cX12_dropNots 11 = .ok (.aload_n 0, 1)) ∧ (decode cX12_dropNots 12 = .ok (.getfield 316, 3)) ∧ (decode cX12_dropNots 15 = .ok (.iconst 1, 1)) ∧ (decode cX12_dropNots 16 = .ok (.isub, 1)) ∧ (decode cX12_dropNots 17 = .ok (.iaload, 1)) ∧ (decode cX12_dropNots 18 = .ok (.bipush 12, 2)) ∧ (decode cX12_dropNots 20 = .ok (.if_icmp .ne 34, 3)) ∧ (decode cX12_dropNots 23 = .ok (.aload_n 0, 1)) ∧ (decode cX12_dropNots 24 = .ok (.dup, 1)) ∧ (decode cX12_dropNots 25 = .ok (.getfield 316, 3)) ∧ (decode cX12_dropNots 28 = .ok (.iconst 1, 1)) ∧ (decode cX12_dropNots 29 = .ok (.isub, 1)) := by decide +kernel
theorem kd45_4 : (decode cX12_dropNots 30 = .ok (.putfield 316, 3)) ∧ (decode cX12_dropNots 33 = .ok (.aload_n 0, 1)) ∧ (decode cX12_dropNots 34 = .ok (.dup, 1)) ∧ (decode cX12_dropNots 35 = .ok (.getfield 339, 3)) ∧ (decode cX12_dropNots 38 = .ok (.iconst 1, 1)) ∧ (decode cX12_dropNots 39 = .ok (.isub, 1)) ∧ (decode cX12_dropNots 40 = .ok (.putfield 339, 3)) ∧ (decode cX12_dropNots 43 = .ok (.aload_n 0, 1)) ∧ (decode cX12_dropNots 44 = .ok (.bipush 12, 2)) ∧ (decode cX12_dropNots 46 = .ok (.iconst 0, 1)) ∧ (decode cX12_dropNots 47 = .ok (.iconst 0, 1)) ∧ (decode cX12_dropNots 48 = .ok (.invokevirtual 319, 3)) := by decide +kernel
theorem kd45_5 : (decode cX12_dropNots 51 = .ok (.goto (-51), 3)) ∧ (decode cX12_dropNots 54 = .ok (.return_, 1)) ∧ (decode cX12_emit 0 = .ok (.sipush 1200, 3)) ∧ (decode cX12_emit 3 = .ok (.aload_n 0, 1)) ∧ (decode cX12_emit 4 = .ok (.getfield 313, 3)) ∧ (decode cX12_emit 7 = .ok (.iadd, 1)) ∧ (decode cX12_emit 8 = .ok (.istore 4, 2)) ∧ (decode cX12_emit 10 = .ok (.aload_n 0, 1)) ∧ (decode cX12_emit 11 = .ok (.getfield 68, 3)) ∧ (decode cX12_emit 14 = .ok (.iload 4, 2)) ∧ (decode cX12_emit 16 = .ok (.iload_n 1, 1)) ∧ (decode cX12_emit 17 = .ok (.iastore, 1)) := by decide +kernel
theorem kd45_6 : (decode cX12_emit 18 = .ok (.aload_n 0, 1)) ∧ (decode cX12_emit 19 = .ok (.getfield 71, 3)) ∧ (decode cX12_emit 22 = .ok (.iload 4, 2)) ∧ (decode cX12_emit 24 = .ok (.iload_n 2, 1)) ∧ (decode cX12_emit 25 = .ok (.iastore, 1)) ∧ (decode cX12_emit 26 = .ok (.aload_n 0, 1)) ∧ (decode cX12_emit 27 = .ok (.getfield 74, 3)) ∧ (decode cX12_emit 30 = .ok (.iload 4, 2)) ∧ (decode cX12_emit 32 = .ok (.iload_n 3, 1)) ∧ (decode cX12_emit 33 = .ok (.iastore, 1)) ∧ (decode cX12_emit 34 = .ok (.aload_n 0, 1)) ∧ (decode cX12_emit 35 = .ok (.dup, 1)) := by decide +kernel
theorem kd45_7 : (decode cX12_emit 36 = .ok (.getfield 313, 3)) ∧ (decode cX12_emit 39 = .ok (.iconst 1, 1)) ∧ (decode cX12_emit 40 = .ok (.iadd, 1)) ∧ (decode cX12_emit 41 = .ok (.putfield 313, 3)) ∧ (decode cX12_emit 44 = .ok (.return_, 1)) ∧ (decode cX12_isOpen 0 = .ok (.iconst 0, 1)) ∧ (decode cX12_isOpen 1 = .ok (.istore_n 1, 1)) ∧ (decode cX12_isOpen 2 = .ok (.iload_n 1, 1)) ∧ (decode cX12_isOpen 3 = .ok (.aload_n 0, 1)) ∧ (decode cX12_isOpen 4 = .ok (.getfield 316, 3)) ∧ (decode cX12_isOpen 7 = .ok (.if_icmp .ge 22, 3)) ∧ (decode cX12_isOpen 10 = .ok (.aload_n 0, 1)) := by decide +kernel
theorem kd45_8 : (decode cX12_isOpen 11 = .ok (.getfield 77, 3)) ∧ (decode cX12_isOpen 14 = .ok (.iload_n 1, 1)) ∧ (decode cX12_isOpen 15 = .ok (.iaload, 1)) ∧ (decode cX12_isOpen 16 = .ok (.bipush 15, 2)) ∧ (decode cX12_isOpen 18 = .ok (.if_icmp .ne 5, 3)) ∧ (decode cX12_isOpen 21 = .ok (.iconst 1, 1)) ∧ (decode cX12_isOpen 22 = .ok (.ireturn, 1)) ∧ (decode cX12_isOpen 23 = .ok (.iinc 1 1, 3)) ∧ (decode cX12_isOpen 26 = .ok (.goto (-24), 3)) ∧ (decode cX12_isOpen 29 = .ok (.iconst 0, 1)) ∧ (decode cX12_isOpen 30 = .ok (.ireturn, 1)) ∧ (decode cX12_readCond 0 = .ok (.aload_n 0, 1)) := by decide +kernel
theorem kd45_9 : (decode cX12_readCond 1 = .ok (.iconst 0, 1)) ∧ (decode cX12_readCond 2 = .ok (.putfield 316, 3)) ∧ (decode cX12_readCond 5 = .ok (.aload_n 0, 1)) ∧ (decode cX12_readCond 6 = .ok (.invokevirtual 348, 3)) ∧ (decode cX12_readCond 9 = .ok (.ifCond .ne 5, 3)) ∧ (decode cX12_readCond 12 = .ok (.iconst 0, 1)) ∧ (decode cX12_readCond 13 = .ok (.ireturn, 1)) ∧ (decode cX12_readCond 14 = .ok (.aload_n 0, 1)) ∧ (decode cX12_readCond 15 = .ok (.bipush 41, 2)) ∧ (decode cX12_readCond 17 = .ok (.invokevirtual 330, 3)) ∧ (decode cX12_readCond 20 = .ok (.ifCond .eq 49, 3)) ∧ (decode cX12_readCond 23 = .ok (.aload_n 0, 1)) := by decide +kernel
theorem kd45_10 : (decode cX12_readCond 24 = .ok (.invokevirtual 351, 3)) ∧ (decode cX12_readCond 27 = .ok (.ifCond .eq 42, 3)) ∧ (decode cX12_readCond 30 = .ok (.aload_n 0, 1)) ∧ (decode cX12_readCond 31 = .ok (.bipush 13, 2)) ∧ (decode cX12_readCond 33 = .ok (.bipush 14, 2)) ∧ (decode cX12_readCond 35 = .ok (.invokevirtual 354, 3)) ∧ (decode cX12_readCond 38 = .ok (.aload_n 0, 1)) ∧ (decode cX12_readCond 39 = .ok (.dup, 1)) ∧ (decode cX12_readCond 40 = .ok (.getfield 316, 3)) ∧ (decode cX12_readCond 43 = .ok (.iconst 1, 1)) ∧ (decode cX12_readCond 44 = .ok (.isub, 1)) ∧ (decode cX12_readCond 45 = .ok (.putfield 316, 3)) := by decide +kernel
theorem kd45_11 : (decode cX12_readCond 48 = .ok (.aload_n 0, 1)) ∧ (decode cX12_readCond 49 = .ok (.dup, 1)) ∧ (decode cX12_readCond 50 = .ok (.getfield 339, 3)) ∧ (decode cX12_readCond 53 = .ok (.iconst 1, 1)) ∧ (decode cX12_readCond 54 = .ok (.isub, 1)) ∧ (decode cX12_readCond 55 = .ok (.putfield 339, 3)) ∧ (decode cX12_readCond 58 = .ok (.aload_n 0, 1)) ∧ (decode cX12_readCond 59 = .ok (.invokevirtual 342, 3)) ∧ (decode cX12_readCond 62 = .ok (.aload_n 0, 1)) ∧ (decode cX12_readCond 63 = .ok (.invokevirtual 345, 3)) ∧ (decode cX12_readCond 66 = .ok (.goto (-52), 3)) ∧ (decode cX12_readCond 69 = .ok (.aload_n 0, 1)) := by decide +kernel
theorem kd45_12 : (decode cX12_readCond 70 = .ok (.bipush 97, 2)) ∧ (decode cX12_readCond 72 = .ok (.bipush 110, 2)) ∧ (decode cX12_readCond 74 = .ok (.bipush 100, 2)) ∧ (decode cX12_readCond 76 = .ok (.iconst 0, 1)) ∧ (decode cX12_readCond 77 = .ok (.iconst 0, 1)) ∧ (decode cX12_readCond 78 = .ok (.invokestatic 297, 3)) ∧ (decode cX12_readCond 81 = .ok (.invokevirtual 301, 3)) ∧ (decode cX12_readCond 84 = .ok (.istore_n 1, 1)) ∧ (decode cX12_readCond 85 = .ok (.iload_n 1, 1)) ∧ (decode cX12_readCond 86 = .ok (.ifCond .ne 43, 3)) ∧ (decode cX12_readCond 89 = .ok (.aload_n 0, 1)) ∧ (decode cX12_readCond 90 = .ok (.bipush 111, 2)) := by decide +kernel
theorem kd45_13 : (decode cX12_readCond 92 = .ok (.bipush 114, 2)) ∧ (decode cX12_readCond 94 = .ok (.iconst 0, 1)) ∧ (decode cX12_readCond 95 = .ok (.iconst 0, 1)) ∧ (decode cX12_readCond 96 = .ok (.iconst 0, 1)) ∧ (decode cX12_readCond 97 = .ok (.invokestatic 297, 3)) ∧ (decode cX12_readCond 100 = .ok (.invokevirtual 301, 3)) ∧ (decode cX12_readCond 103 = .ok (.ifCond .ne 26, 3)) ∧ (decode cX12_readCond 106 = .ok (.aload_n 0, 1)) ∧ (decode cX12_readCond 107 = .ok (.invokevirtual 351, 3)) ∧ (decode cX12_readCond 110 = .ok (.ifCond .eq 9, 3)) ∧ (decode cX12_readCond 113 = .ok (.aload_n 0, 1)) ∧ (decode cX12_readCond 114 = .ok (.iconst 1, 1)) := by decide +kernel
theorem kd45_14 : (decode cX12_readCond 115 = .ok (.invokevirtual 333, 3)) ∧ (decode cX12_readCond 118 = .ok (.ireturn, 1)) ∧ (decode cX12_readCond 119 = .ok (.aload_n 0, 1)) ∧ (decode cX12_readCond 120 = .ok (.bipush 13, 2)) ∧ (decode cX12_readCond 122 = .ok (.bipush 14, 2)) ∧ (decode cX12_readCond 124 = .ok (.invokevirtual 354, 3)) ∧ (decode cX12_readCond 127 = .ok (.iconst 1, 1)) ∧ (decode cX12_readCond 128 = .ok (.ireturn, 1)) ∧ (decode cX12_readCond 129 = .ok (.aload_n 0, 1)) ∧ (decode cX12_readCond 130 = .ok (.bipush 13, 2)) ∧ (decode cX12_readCond 132 = .ok (.iload_n 1, 1)) ∧ (decode cX12_readCond 133 = .ok (.ifCond .eq 8, 3)) := by decide +kernel
theorem kd45_15 : (decode cX12_readCond 136 = .ok (.bipush 13, 2)) ∧ (decode cX12_readCond 138 = .ok (.goto 5, 3)) ∧ (decode cX12_readCond 141 = .ok (.bipush 14, 2)) ∧ (decode cX12_readCond 143 = .ok (.invokevirtual 354, 3)) ∧ (decode cX12_readCond 146 = .ok (.aload_n 0, 1)) ∧ (decode cX12_readCond 147 = .ok (.getfield 77, 3)) ∧ (decode cX12_readCond 150 = .ok (.aload_n 0, 1)) ∧ (decode cX12_readCond 151 = .ok (.getfield 316, 3)) ∧ (decode cX12_readCond 154 = .ok (.iload_n 1, 1)) ∧ (decode cX12_readCond 155 = .ok (.ifCond .eq 8, 3)) ∧ (decode cX12_readCond 158 = .ok (.bipush 13, 2)) ∧ (decode cX12_readCond 160 = .ok (.goto 5, 3)) := by decide +kernel
theorem kd45_16 : (decode cX12_readCond 163 = .ok (.bipush 14, 2)) ∧ (decode cX12_readCond 165 = .ok (.iastore, 1)) ∧ (decode cX12_readCond 166 = .ok (.aload_n 0, 1)) ∧ (decode cX12_readCond 167 = .ok (.dup, 1)) ∧ (decode cX12_readCond 168 = .ok (.getfield 316, 3)) ∧ (decode cX12_readCond 171 = .ok (.iconst 1, 1)) ∧ (decode cX12_readCond 172 = .ok (.iadd, 1)) ∧ (decode cX12_readCond 173 = .ok (.putfield 316, 3)) ∧ (decode cX12_readCond 176 = .ok (.aload_n 0, 1)) ∧ (decode cX12_readCond 177 = .ok (.invokevirtual 342, 3)) ∧ (decode cX12_readCond 180 = .ok (.goto (-175), 3)) ∧ (decode cX12_readOne 0 = .ok (.aload_n 0, 1)) := by decide +kernel
theorem kd45_17 : (decode cX12_readOne 1 = .ok (.invokevirtual 323, 3)) ∧ (decode cX12_readOne 4 = .ok (.istore_n 1, 1)) ∧ (decode cX12_readOne 5 = .ok (.iload_n 1, 1)) ∧ (decode cX12_readOne 6 = .ok (.iconst (-1), 1)) ∧ (decode cX12_readOne 7 = .ok (.if_icmp .ne 25, 3)) ∧ (decode cX12_readOne 10 = .ok (.aload_n 0, 1)) ∧ (decode cX12_readOne 11 = .ok (.invokevirtual 326, 3)) ∧ (decode cX12_readOne 14 = .ok (.ifCond .ne 18, 3)) ∧ (decode cX12_readOne 17 = .ok (.aload_n 0, 1)) ∧ (decode cX12_readOne 18 = .ok (.bipush 40, 2)) ∧ (decode cX12_readOne 20 = .ok (.invokevirtual 330, 3)) ∧ (decode cX12_readOne 23 = .ok (.ifCond .ne 9, 3)) := by decide +kernel
theorem kd45_18 : (decode cX12_readOne 26 = .ok (.aload_n 0, 1)) ∧ (decode cX12_readOne 27 = .ok (.iconst 1, 1)) ∧ (decode cX12_readOne 28 = .ok (.invokevirtual 333, 3)) ∧ (decode cX12_readOne 31 = .ok (.ireturn, 1)) ∧ (decode cX12_readOne 32 = .ok (.aload_n 0, 1)) ∧ (decode cX12_readOne 33 = .ok (.getfield 336, 3)) ∧ (decode cX12_readOne 36 = .ok (.bipush 50, 2)) ∧ (decode cX12_readOne 38 = .ok (.if_icmp .eq 12, 3)) ∧ (decode cX12_readOne 41 = .ok (.aload_n 0, 1)) ∧ (decode cX12_readOne 42 = .ok (.getfield 339, 3)) ∧ (decode cX12_readOne 45 = .ok (.bipush 10, 2)) ∧ (decode cX12_readOne 47 = .ok (.if_icmp .ne 9, 3)) := by decide +kernel
theorem kd45_19 : (decode cX12_readOne 50 = .ok (.aload_n 0, 1)) ∧ (decode cX12_readOne 51 = .ok (.iconst 4, 1)) ∧ (decode cX12_readOne 52 = .ok (.invokevirtual 333, 3)) ∧ (decode cX12_readOne 55 = .ok (.ireturn, 1)) ∧ (decode cX12_readOne 56 = .ok (.aload_n 0, 1)) ∧ (decode cX12_readOne 57 = .ok (.dup, 1)) ∧ (decode cX12_readOne 58 = .ok (.getfield 336, 3)) ∧ (decode cX12_readOne 61 = .ok (.iconst 1, 1)) ∧ (decode cX12_readOne 62 = .ok (.iadd, 1)) ∧ (decode cX12_readOne 63 = .ok (.putfield 336, 3)) ∧ (decode cX12_readOne 66 = .ok (.iload_n 1, 1)) ∧ (decode cX12_readOne 67 = .ok (.iconst (-1), 1)) := by decide +kernel
theorem kd45_20 : (decode cX12_readOne 68 = .ok (.if_icmp .ne 53, 3)) ∧ (decode cX12_readOne 71 = .ok (.aload_n 0, 1)) ∧ (decode cX12_readOne 72 = .ok (.dup, 1)) ∧ (decode cX12_readOne 73 = .ok (.getfield 339, 3)) ∧ (decode cX12_readOne 76 = .ok (.iconst 1, 1)) ∧ (decode cX12_readOne 77 = .ok (.iadd, 1)) ∧ (decode cX12_readOne 78 = .ok (.putfield 339, 3)) ∧ (decode cX12_readOne 81 = .ok (.aload_n 0, 1)) ∧ (decode cX12_readOne 82 = .ok (.getfield 77, 3)) ∧ (decode cX12_readOne 85 = .ok (.aload_n 0, 1)) ∧ (decode cX12_readOne 86 = .ok (.getfield 316, 3)) ∧ (decode cX12_readOne 89 = .ok (.aload_n 0, 1)) := by decide +kernel
theorem kd45_21 : (decode cX12_readOne 90 = .ok (.invokevirtual 326, 3)) ∧ (decode cX12_readOne 93 = .ok (.ifCond .eq 8, 3)) ∧ (decode cX12_readOne 96 = .ok (.bipush 12, 2)) ∧ (decode cX12_readOne 98 = .ok (.goto 5, 3)) ∧ (decode cX12_readOne 101 = .ok (.bipush 15, 2)) ∧ (decode cX12_readOne 103 = .ok (.iastore, 1)) ∧ (decode cX12_readOne 104 = .ok (.aload_n 0, 1)) ∧ (decode cX12_readOne 105 = .ok (.dup, 1)) ∧ (decode cX12_readOne 106 = .ok (.getfield 316, 3)) ∧ (decode cX12_readOne 109 = .ok (.iconst 1, 1)) ∧ (decode cX12_readOne 110 = .ok (.iadd, 1)) ∧ (decode cX12_readOne 111 = .ok (.putfield 316, 3)) := by decide +kernel
theorem kd45_22 : (decode cX12_readOne 114 = .ok (.aload_n 0, 1)) ∧ (decode cX12_readOne 115 = .ok (.invokevirtual 342, 3)) ∧ (decode cX12_readOne 118 = .ok (.goto (-118), 3)) ∧ (decode cX12_readOne 121 = .ok (.aload_n 0, 1)) ∧ (decode cX12_readOne 122 = .ok (.invokevirtual 342, 3)) ∧ (decode cX12_readOne 125 = .ok (.iload_n 1, 1)) ∧ (decode cX12_readOne 126 = .ok (.iconst 3, 1)) ∧ (decode cX12_readOne 127 = .ok (.if_icmp .ge 13, 3)) ∧ (decode cX12_readOne 130 = .ok (.aload_n 0, 1)) ∧ (decode cX12_readOne 131 = .ok (.iload_n 1, 1)) ∧ (decode cX12_readOne 132 = .ok (.iconst 0, 1)) ∧ (decode cX12_readOne 133 = .ok (.iconst 0, 1)) := by decide +kernel
theorem kd45_23 : (decode cX12_readOne 134 = .ok (.invokevirtual 319, 3)) ∧ (decode cX12_readOne 137 = .ok (.goto 76, 3)) ∧ (decode cX12_readOne 140 = .ok (.aload_n 0, 1)) ∧ (decode cX12_readOne 141 = .ok (.bipush 60, 2)) ∧ (decode cX12_readOne 143 = .ok (.invokevirtual 330, 3)) ∧ (decode cX12_readOne 146 = .ok (.ifCond .ne 27, 3)) ∧ (decode cX12_readOne 149 = .ok (.aload_n 0, 1)) ∧ (decode cX12_readOne 150 = .ok (.bipush 61, 2)) ∧ (decode cX12_readOne 152 = .ok (.invokevirtual 330, 3)) ∧ (decode cX12_readOne 155 = .ok (.ifCond .ne 18, 3)) ∧ (decode cX12_readOne 158 = .ok (.aload_n 0, 1)) ∧ (decode cX12_readOne 159 = .ok (.bipush 62, 2)) := by decide +kernel
theorem kd45_24 : (decode cX12_readOne 161 = .ok (.invokevirtual 330, 3)) ∧ (decode cX12_readOne 164 = .ok (.ifCond .ne 9, 3)) ∧ (decode cX12_readOne 167 = .ok (.aload_n 0, 1)) ∧ (decode cX12_readOne 168 = .ok (.iconst 1, 1)) ∧ (decode cX12_readOne 169 = .ok (.invokevirtual 333, 3)) ∧ (decode cX12_readOne 172 = .ok (.ireturn, 1)) ∧ (decode cX12_readOne 173 = .ok (.aload_n 0, 1)) ∧ (decode cX12_readOne 174 = .ok (.getfield 274, 3)) ∧ (decode cX12_readOne 177 = .ok (.istore_n 2, 1)) ∧ (decode cX12_readOne 178 = .ok (.aload_n 0, 1)) ∧ (decode cX12_readOne 179 = .ok (.invokevirtual 342, 3)) ∧ (decode cX12_readOne 182 = .ok (.aload_n 0, 1)) := by decide +kernel
theorem kd45_25 : (decode cX12_readOne 183 = .ok (.getfield 262, 3)) ∧ (decode cX12_readOne 186 = .ok (.iconst 3, 1)) ∧ (decode cX12_readOne 187 = .ok (.if_icmp .eq 9, 3)) ∧ (decode cX12_readOne 190 = .ok (.aload_n 0, 1)) ∧ (decode cX12_readOne 191 = .ok (.iconst 1, 1)) ∧ (decode cX12_readOne 192 = .ok (.invokevirtual 333, 3)) ∧ (decode cX12_readOne 195 = .ok (.ireturn, 1)) ∧ (decode cX12_readOne 196 = .ok (.aload_n 0, 1)) ∧ (decode cX12_readOne 197 = .ok (.iload_n 1, 1)) ∧ (decode cX12_readOne 198 = .ok (.iload_n 2, 1)) ∧ (decode cX12_readOne 199 = .ok (.aload_n 0, 1)) ∧ (decode cX12_readOne 200 = .ok (.getfield 281, 3)) := by decide +kernel
theorem kd45_26 : (decode cX12_readOne 203 = .ok (.invokevirtual 319, 3)) ∧ (decode cX12_readOne 206 = .ok (.aload_n 0, 1)) ∧ (decode cX12_readOne 207 = .ok (.invokevirtual 342, 3)) ∧ (decode cX12_readOne 210 = .ok (.goto 3, 3)) ∧ (decode cX12_readOne 213 = .ok (.aload_n 0, 1)) ∧ (decode cX12_readOne 214 = .ok (.invokevirtual 345, 3)) ∧ (decode cX12_readOne 217 = .ok (.iconst 1, 1)) ∧ (decode cX12_readOne 218 = .ok (.ireturn, 1)) := by decide +kernel
theorem fl_X12_313_13 : xF RX12 313 13 41 .int false := ⟨by decide, RX12, TX12, 91, tyX12, "PaperBoysModel", rfl, inlX12, tyX12_ok, nmX12, by decide, rfl, rfl, m_28_10, Or.inl rfl⟩
theorem fl_X12_316_13 : xF RX12 316 13 42 .int false := ⟨by decide, RX12, TX12, 91, tyX12, "PaperBoysModel", rfl, inlX12, tyX12_ok, nmX12, by decide, rfl, rfl, m_31_0, Or.inl rfl⟩
theorem fl_X12_336_13 : xF RX12 336 13 43 .int false := ⟨by decide, RX12, TX12, 91, tyX12, "PaperBoysModel", rfl, inlX12, tyX12_ok, nmX12, by decide, rfl, rfl, m_28_18, Or.inl rfl⟩
theorem fl_X12_339_13 : xF RX12 339 13 44 .int false := ⟨by decide, RX12, TX12, 91, tyX12, "PaperBoysModel", rfl, inlX12, tyX12_ok, nmX12, by decide, rfl, rfl, m_28_19, Or.inl rfl⟩
theorem fl_X12_68_13 : xF RX12 68 13 35 (.array .int) true := ⟨by decide, RX12, TX12, 91, tyX12, "PaperBoysModel", rfl, inlX12, tyX12_ok, nmX12, by decide, rfl, rfl, m_8_21, Or.inl rfl⟩
theorem fl_X12_71_13 : xF RX12 71 13 36 (.array .int) true := ⟨by decide, RX12, TX12, 91, tyX12, "PaperBoysModel", rfl, inlX12, tyX12_ok, nmX12, by decide, rfl, rfl, m_8_22, Or.inl rfl⟩
theorem fl_X12_74_13 : xF RX12 74 13 37 (.array .int) true := ⟨by decide, RX12, TX12, 91, tyX12, "PaperBoysModel", rfl, inlX12, tyX12_ok, nmX12, by decide, rfl, rfl, m_8_23, Or.inl rfl⟩
theorem fl_X12_77_13 : xF RX12 77 13 38 (.array .int) true := ⟨by decide, RX12, TX12, 91, tyX12, "PaperBoysModel", rfl, inlX12, tyX12_ok, nmX12, by decide, rfl, rfl, m_9_0, Or.inl rfl⟩
theorem lk_X12_319 : xLV RX12 319 yX12_emit cX12_emit 5 none 3 := ⟨m_31_17, m_31_18, m_31_19, m_1_5, m_31_20, by decide +kernel⟩
theorem lk_X12_323 : xLV RX12 323 yX12_atom cX12_atom 1 (some .int) 0 := ⟨m_31_5, m_31_6, m_31_7, m_1_5, m_31_8, by decide +kernel⟩
theorem lk_X12_326 : xLV RX12 326 yX12_isNot cX12_isNot 1 (some .boolean) 0 := ⟨m_30_16, m_30_17, m_30_18, m_1_5, m_30_19, by decide +kernel⟩
theorem lk_X12_330 : xLV RX12 330 yX12_isSign cX12_isSign 2 (some .boolean) 1 := ⟨m_31_13, m_31_14, m_31_15, m_1_5, m_31_16, by decide +kernel⟩
theorem lk_X12_333 : xLV RX12 333 yX12_bad cX12_bad 2 (some .boolean) 1 := ⟨m_30_12, m_30_13, m_30_14, m_1_5, m_30_15, by decide +kernel⟩
theorem lk_X12_342 : xLV RX12 342 yX12_go cX12_go 5 none 0 := ⟨m_28_22, m_28_23, m_29_0, m_1_5, m_29_1, by decide +kernel⟩
theorem lk_X12_345 : xLV RX12 345 yX12_dropNots cX12_dropNots 1 none 0 := ⟨m_31_21, m_31_22, m_31_23, m_1_5, m_32_0, by decide +kernel⟩
theorem lk_X12_348 : xLV RX12 348 yX12_readOne cX12_readOne 3 (some .boolean) 0 := ⟨m_31_1, m_31_2, m_31_3, m_1_5, m_31_4, by decide +kernel⟩
theorem lk_X12_351 : xLV RX12 351 yX12_isOpen cX12_isOpen 2 (some .boolean) 0 := ⟨m_32_1, m_32_2, m_32_3, m_1_5, m_32_4, by decide +kernel⟩
theorem lk_X12_354 : xLV RX12 354 yX12_drop cX12_drop 3 none 2 := ⟨m_32_5, m_32_6, m_32_7, m_1_5, m_32_8, by decide +kernel⟩
def xst (h : Nat) (v : Int) : Option Nat := if 0 ≤ v ∧ v ≤ 11 then (if h < 60 then some (h + 1) else none) else if v = 12 then (if 1 ≤ h then some h else none) else if v = 13 ∨ v = 14 then (if 2 ≤ h then some (h - 1) else none) else none
def xhf (p : Int → Int) (F : Int) : Nat → Option Nat
  | 0 => some 0
  | m + 1 => match xhf p F m with
    | none => none
    | some h => xst h (p (F + m))
theorem xhf_cg {p p' : Int → Int} {F F' : Int} {m : Nat} (h : ∀ k : Nat, k < m → p' (F' + k) = p (F + k)) : xhf p' F' m = xhf p F m := by
  induction m with
  | zero => rfl
  | succ m ih => unfold xhf; rw [ih (fun k hk => h k (by omega)), h m (by omega)]
theorem xhf_s {p : Int → Int} {F : Int} {m h h' : Nat} (e : xhf p F m = some h) (e' : xst h (p (F + m)) = some h') : xhf p F (m + 1) = some h' := by
  show (match xhf p F m with
    | none => none
    | some h => xst h (p (F + m))) = some h'
  rw [e]
  exact e'
theorem xhf_pre {p : Int → Int} {F : Int} {m k : Nat} (h : xhf p F m ≠ none) (hk : k ≤ m) : xhf p F k ≠ none := by
  induction m with
  | zero => rw [show k = 0 by omega]; exact h
  | succ m ih =>
    by_cases e : k = m + 1
    · rw [e]; exact h
    · refine ih (fun q => h ?_) (by omega)
      unfold xhf
      rw [q]
theorem xhf_step {p : Int → Int} {F : Int} {m h : Nat} (e : xhf p F m = some h) (hv : xhf p F (m + 1) ≠ none) : ((0 ≤ p (F + m) ∧ p (F + m) ≤ 11) ∧ h < 60 ∧ xhf p F (m + 1) = some (h + 1)) ∨ (p (F + m) = 12 ∧ 1 ≤ h ∧ xhf p F (m + 1) = some h) ∨ ((p (F + m) = 13 ∨ p (F + m) = 14) ∧ 2 ≤ h ∧ xhf p F (m + 1) = some (h - 1)) := by
  have k : xhf p F (m + 1) = xst h (p (F + m)) := by
    show (match xhf p F m with
      | none => none
      | some h => xst h (p (F + m))) = _
    rw [e]
  rw [k] at hv ⊢
  generalize p (F + m) = v at hv ⊢
  unfold xst at hv ⊢
  by_cases c1 : 0 ≤ v ∧ v ≤ 11
  · rw [if_pos c1] at hv ⊢
    by_cases c2 : h < 60
    · rw [if_pos c2]; exact Or.inl ⟨c1, c2, rfl⟩
    · rw [if_neg c2] at hv; exact absurd rfl hv
  · rw [if_neg c1] at hv ⊢
    by_cases c2 : v = 12
    · rw [if_pos c2] at hv ⊢
      by_cases c3 : 1 ≤ h
      · rw [if_pos c3]; exact Or.inr (Or.inl ⟨c2, c3, rfl⟩)
      · rw [if_neg c3] at hv; exact absurd rfl hv
    · rw [if_neg c2] at hv ⊢
      by_cases c3 : v = 13 ∨ v = 14
      · rw [if_pos c3] at hv ⊢
        by_cases c4 : 2 ≤ h
        · rw [if_pos c4]; exact Or.inr (Or.inr ⟨c3, c4, rfl⟩)
        · rw [if_neg c4] at hv; exact absurd rfl hv
      · rw [if_neg c3] at hv; exact absurd rfl hv
theorem xhf_0 (p : Int → Int) (F n : Int) : xhf p F (n - n).toNat ≠ none := by
  rw [show (n - n).toNat = 0 by omega]
  exact fun h => by cases h
def xPl (f : Int → Int) : Nat → Nat → Nat → Nat → Prop
  | 0, c, s, d => c = 0 ∧ s = 0 ∧ d = 0
  | t + 1, c, s, d => ((f t = 12 ∨ f t = 15) ∧ s = 0 ∧ ∃ c' s', c = c' + 1 ∧ xPl f t c' s' d) ∨ (f t = 14 ∧ s = 1 ∧ ∃ d', d = d' + 1 ∧ xPl f t c 0 d') ∨ (f t = 13 ∧ s = 2 ∧ ∃ d' s', d = d' + 1 ∧ s' ≤ 1 ∧ xPl f t c s' d')
theorem xPl.z {f : Int → Int} : xPl f 0 0 0 0 := ⟨rfl, rfl, rfl⟩
theorem xPl.one {f : Int → Int} {t c s d : Nat} (h : xPl f t c s d) (e : f t = 12 ∨ f t = 15) : xPl f (t + 1) (c + 1) 0 d := Or.inl ⟨e, rfl, c, s, rfl, h⟩
theorem xPl.or {f : Int → Int} {t c d : Nat} (h : xPl f t c 0 d) (e : f t = 14) : xPl f (t + 1) c 1 (d + 1) := Or.inr (Or.inl ⟨e, rfl, d, rfl, h⟩)
theorem xPl.and {f : Int → Int} {t c s d : Nat} (h : xPl f t c s d) (hs : s ≤ 1) (e : f t = 13) : xPl f (t + 1) c 2 (d + 1) := Or.inr (Or.inr ⟨e, rfl, d, s, rfl, hs, h⟩)
theorem xPl.cg {f f' : Int → Int} {t : Nat} (hf : ∀ k : Nat, k < t → f' k = f k) : ∀ {c s d : Nat}, xPl f t c s d → xPl f' t c s d := by
  induction t with
  | zero => intro c s d h; exact h
  | succ t ih =>
    intro c s d h
    have ih' : ∀ {c s d : Nat}, xPl f t c s d → xPl f' t c s d := ih (fun k hk => hf k (by omega))
    have e := hf t (by omega)
    rcases h with ⟨h1, h2, c', s', h3, h4⟩ | ⟨h1, h2, d', h3, h4⟩ | ⟨h1, h2, d', s', h3, h5, h4⟩
    · exact Or.inl ⟨by rw [e]; exact h1, h2, c', s', h3, ih' h4⟩
    · exact Or.inr (Or.inl ⟨by rw [e]; exact h1, h2, d', h3, ih' h4⟩)
    · exact Or.inr (Or.inr ⟨by rw [e]; exact h1, h2, d', s', h3, h5, ih' h4⟩)
theorem xPl.le {f : Int → Int} {t : Nat} : ∀ {c s d : Nat}, xPl f t c s d → t ≤ 3 * c + s ∧ d ≤ 2 * c + s ∧ s ≤ 2 := by
  induction t with
  | zero => intro c s d h; obtain ⟨h1, h2, h3⟩ := h; omega
  | succ t ih =>
    intro c s d h
    rcases h with ⟨h1, h2, c', s', h3, h4⟩ | ⟨h1, h2, d', h3, h4⟩ | ⟨h1, h2, d', s', h3, h5, h4⟩
    · have := ih h4; omega
    · have := ih h4; omega
    · have := ih h4; omega
theorem xPl.not {f : Int → Int} {t c s d : Nat} (h : xPl f (t + 1) c s d) (e : f t ≠ 13 ∧ f t ≠ 14) : ∃ c' s', c = c' + 1 ∧ xPl f t c' s' d := by
  rcases h with ⟨h1, h2, c', s', h3, h4⟩ | ⟨h1, h2, d', h3, h4⟩ | ⟨h1, h2, d', s', h3, h5, h4⟩
  · exact ⟨c', s', h3, h4⟩
  · exact absurd h1 e.2
  · exact absurd h1 e.1
theorem xPl.join {f : Int → Int} {t c s d : Nat} (h : xPl f (t + 1) c s d) (e : f t = 13 ∨ f t = 14) : ∃ s' d', d = d' + 1 ∧ xPl f t c s' d' := by
  rcases h with ⟨h1, h2, c', s', h3, h4⟩ | ⟨h1, h2, d', h3, h4⟩ | ⟨h1, h2, d', s', h3, h5, h4⟩
  · omega
  · exact ⟨0, d', h3, h4⟩
  · exact ⟨s', d', h3, h4⟩
theorem xPl.s0 {f : Int → Int} {t c s d : Nat} (h : xPl f t c s d) (e : t = 0 ∨ (f (t - 1 : Int) ≠ 13 ∧ f (t - 1 : Int) ≠ 14)) : s = 0 := by
  cases t with
  | zero => exact h.2.1
  | succ t =>
    rw [show ((t + 1 : Nat) : Int) - 1 = (t : Int) by omega] at e
    rcases h with ⟨h1, h2, c', s', h3, h4⟩ | ⟨h1, h2, d', h3, h4⟩ | ⟨h1, h2, d', s', h3, h5, h4⟩ <;> omega
theorem xPl.s1 {f : Int → Int} {t c s d : Nat} (h : xPl f t c s d) (e : t = 0 ∨ f (t - 1 : Int) ≠ 13) : s ≤ 1 := by
  cases t with
  | zero => have := h.2.1; omega
  | succ t =>
    rw [show ((t + 1 : Nat) : Int) - 1 = (t : Int) by omega] at e
    rcases h with ⟨h1, h2, c', s', h3, h4⟩ | ⟨h1, h2, d', h3, h4⟩ | ⟨h1, h2, d', s', h3, h5, h4⟩ <;> omega
def xRd (p f : Int → Int) (F np nt no nw : Int) (o : Nat) : Prop := ∃ c s d : Nat, xPl f nt.toNat c s d ∧ (c : Int) ≤ nw ∧ nw ≤ 10 ∧ xhf p (1200 + F) (np - F).toNat = some (d + 1 - o) ∧ np + nt + 1 ≤ 2 * no + o ∧ no ≤ 50 ∧ 0 ≤ F ∧ F ≤ np ∧ 0 ≤ nt
theorem xRd.bd {p f : Int → Int} {F np nt no nw : Int} {o : Nat} (h : xRd p f F np nt no nw o) (ho : o ≤ 1) : 0 ≤ np ∧ np ≤ 100 ∧ 0 ≤ nt ∧ nt ≤ 32 ∧ 0 ≤ nw ∧ nw ≤ 10 ∧ no ≤ 50 ∧ 0 ≤ F ∧ F ≤ np := by
  obtain ⟨c, s, d, h1, h2, h3, h4, h5, h6, h7, h8, h9⟩ := h
  have := h1.le
  omega
theorem xRd.start {p f : Int → Int} {np no nw : Int} (h0 : 0 ≤ np) (h1 : np ≤ 2 * no) (h2 : no ≤ 50) (h3 : 0 ≤ nw) (h4 : nw ≤ 10) : xRd p f np np 0 no nw 1 :=
  ⟨0, 0, 0, xPl.z, by omega, h4, by rw [show (np - np).toNat = 0 by omega]; rfl, by omega, h2, h0, by omega, by omega⟩
theorem xRd.push {p f f' : Int → Int} {F np nt no nw : Int} (h : xRd p f F np nt no nw 1) (h1 : nw ≤ 9) (h2 : no ≤ 49) (e : f' nt = 12 ∨ f' nt = 15) (hf : ∀ i, 0 ≤ i → i ≠ nt → f' i = f i) : xRd p f' F np (nt + 1) (no + 1) (nw + 1) 1 := by
  obtain ⟨c, s, d, q1, q2, q3, q4, q5, q6, q7, q8, q9⟩ := h
  have et : ((nt.toNat : Nat) : Int) = nt := by omega
  refine ⟨c + 1, 0, d, ?_, by omega, by omega, q4, by omega, by omega, q7, q8, by omega⟩
  rw [show (nt + 1).toNat = nt.toNat + 1 by omega]
  exact xPl.one (xPl.cg (fun k hk => hf k (by omega) (by omega)) q1) (by rw [et]; exact e)
theorem xhf_up {p p' : Int → Int} {F np a : Int} {h h' : Nat} (hu : xUp p' p (1200 + np) a) (hF : 0 ≤ F) (hn : F ≤ np) (e : xhf p (1200 + F) (np - F).toNat = some h) (e' : xst h a = some h') : xhf p' (1200 + F) (np + 1 - F).toNat = some h' := by
  rw [show (np + 1 - F).toNat = (np - F).toNat + 1 by omega]
  refine xhf_s (h := h) ?_ ?_
  · rw [xhf_cg (p := p) (F := 1200 + F) (fun k hk => hu.2 _ (by omega) (by omega))]; exact e
  · rw [show 1200 + F + ((np - F).toNat : Int) = 1200 + np by omega, hu.1]; exact e'
theorem xRd.atom {p p' f : Int → Int} {F np nt no nw a : Int} (h : xRd p f F np nt no nw 1) (h2 : no ≤ 49) (ha : 0 ≤ a ∧ a ≤ 11) (hu : xUp p' p (1200 + np) a) : xRd p' f F (np + 1) nt (no + 1) nw 0 := by
  obtain ⟨c, s, d, q1, q2, q3, q4, q5, q6, q7, q8, q9⟩ := h
  have hl := q1.le
  refine ⟨c, s, d, q1, q2, q3, xhf_up hu q7 q8 q4 ?_, by omega, by omega, q7, by omega, q9⟩
  unfold xst
  rw [if_pos ha, if_pos (by omega)]
  rfl
theorem xRd.not {p p' f : Int → Int} {F np nt no nw : Int} (h : xRd p f F np nt no nw 0) (h1 : 1 ≤ nt) (e : f (nt - 1) = 12) (hu : xUp p' p (1200 + np) 12) : xRd p' f F (np + 1) (nt - 1) no (nw - 1) 0 := by
  obtain ⟨c, s, d, q1, q2, q3, q4, q5, q6, q7, q8, q9⟩ := h
  rw [show nt.toNat = (nt - 1).toNat + 1 by omega] at q1
  have et : (((nt - 1).toNat : Nat) : Int) = nt - 1 := by omega
  obtain ⟨c', s', r1, r2⟩ := q1.not (by rw [et]; omega)
  refine ⟨c', s', d, r2, by omega, by omega, xhf_up hu q7 q8 q4 ?_, by omega, q6, q7, by omega, by omega⟩
  unfold xst
  rw [if_neg (by omega), if_pos rfl, if_pos (by omega)]
theorem xRd.join {p p' f : Int → Int} {F np nt no nw a : Int} (h : xRd p f F np nt no nw 0) (h1 : 1 ≤ nt) (e : f (nt - 1) = a) (ha : a = 13 ∨ a = 14) (hu : xUp p' p (1200 + np) a) : xRd p' f F (np + 1) (nt - 1) no nw 0 := by
  obtain ⟨c, s, d, q1, q2, q3, q4, q5, q6, q7, q8, q9⟩ := h
  rw [show nt.toNat = (nt - 1).toNat + 1 by omega] at q1
  have et : (((nt - 1).toNat : Nat) : Int) = nt - 1 := by omega
  obtain ⟨s', d', r1, r2⟩ := q1.join (by rw [et, e]; exact ha)
  refine ⟨c, s', d', r2, q2, q3, xhf_up hu q7 q8 q4 ?_, by omega, q6, q7, by omega, by omega⟩
  unfold xst
  rw [if_neg (by omega), if_neg (by omega), if_pos ha, if_pos (by omega)]
  exact congrArg some (by omega)
theorem xRd.paren {p f : Int → Int} {F np nt no nw : Int} (h : xRd p f F np nt no nw 0) (h1 : 1 ≤ nt) (e : f (nt - 1) ≠ 13 ∧ f (nt - 1) ≠ 14) : xRd p f F np (nt - 1) no (nw - 1) 0 := by
  obtain ⟨c, s, d, q1, q2, q3, q4, q5, q6, q7, q8, q9⟩ := h
  rw [show nt.toNat = (nt - 1).toNat + 1 by omega] at q1
  have et : (((nt - 1).toNat : Nat) : Int) = nt - 1 := by omega
  obtain ⟨c', s', r1, r2⟩ := q1.not (by rw [et]; exact e)
  exact ⟨c', s', d, r2, by omega, by omega, q4, by omega, q6, q7, q8, by omega⟩
theorem xRd.or {p f f' : Int → Int} {F np nt no nw : Int} (h : xRd p f F np nt no nw 0) (e : nt = 0 ∨ (f (nt - 1) ≠ 13 ∧ f (nt - 1) ≠ 14)) (e' : f' nt = 14) (hf : ∀ i, 0 ≤ i → i ≠ nt → f' i = f i) : xRd p f' F np (nt + 1) no nw 1 := by
  obtain ⟨c, s, d, q1, q2, q3, q4, q5, q6, q7, q8, q9⟩ := h
  have et : ((nt.toNat : Nat) : Int) = nt := by omega
  have hs := q1.s0 (by rw [et]; exact e.imp (fun h => by omega) id)
  subst hs
  refine ⟨c, 1, d + 1, ?_, q2, q3, q4, by omega, q6, q7, q8, by omega⟩
  rw [show (nt + 1).toNat = nt.toNat + 1 by omega]
  exact xPl.or (xPl.cg (fun k hk => hf k (by omega) (by omega)) q1) (by rw [et]; exact e')
theorem xRd.and {p f f' : Int → Int} {F np nt no nw : Int} (h : xRd p f F np nt no nw 0) (e : nt = 0 ∨ f (nt - 1) ≠ 13) (e' : f' nt = 13) (hf : ∀ i, 0 ≤ i → i ≠ nt → f' i = f i) : xRd p f' F np (nt + 1) no nw 1 := by
  obtain ⟨c, s, d, q1, q2, q3, q4, q5, q6, q7, q8, q9⟩ := h
  have et : ((nt.toNat : Nat) : Int) = nt := by omega
  have hs := q1.s1 (by rw [et]; exact e.imp (fun h => by omega) id)
  refine ⟨c, 2, d + 1, ?_, q2, q3, q4, by omega, q6, q7, q8, by omega⟩
  rw [show (nt + 1).toNat = nt.toNat + 1 by omega]
  exact xPl.and (xPl.cg (fun k hk => hf k (by omega) (by omega)) q1) hs (by rw [et]; exact e')
theorem xRd.fin {p f : Int → Int} {F np nt no nw : Int} (h : xRd p f F np nt no nw 0) : xhf p (1200 + F) (np - F).toNat ≠ none ∧ np ≤ 2 * no := by
  obtain ⟨c, s, d, q1, q2, q3, q4, q5, q6, q7, q8, q9⟩ := h
  exact ⟨(by rw [q4]; exact fun h => (by cases h)), by omega⟩
def xLow (m : Int) (f' f : Int → Int) : Prop := ∀ i, 0 ≤ i → i < m → f' i = f i
theorem xLow.rf {m : Int} {f : Int → Int} : xLow m f f := fun _ _ _ => rfl
theorem xLow.tr {m m' : Int} {f f' f'' : Int → Int} (h : xLow m f' f) (h2 : xLow m' f'' f') (hm : m ≤ m') : xLow m f'' f := fun i q1 q2 => (h2 i q1 (by omega)).trans (h i q1 q2)
theorem xLow.up {m j z : Int} {f f' f'' : Int → Int} (h : xLow m f' f) (hu : xUp f'' f' j z) (hm : m ≤ j) : xLow m f'' f := fun i q1 q2 => (hu.2 i q1 (by omega)).trans (h i q1 q2)
theorem xLow.mono {m m' : Int} {f f' : Int → Int} (h : xLow m' f' f) (hm : m ≤ m') : xLow m f' f := fun i q1 q2 => h i q1 (by omega)
def xRl (cf ct p : Int → Int) (nl np : Int) : Prop := ∀ k, 0 ≤ k → k < nl → 0 ≤ cf (160 + k) ∧ cf (160 + k) ≤ ct (160 + k) ∧ ct (160 + k) ≤ np ∧ xhf p (1200 + cf (160 + k)) (ct (160 + k) - cf (160 + k)).toNat ≠ none
theorem xRl.s {cf ct p cf' ct' p' : Int → Int} {nl np np1 : Int} (h : xRl cf ct p nl np) (h0 : 0 ≤ nl) (hp0 : 0 ≤ np) (u1 : xUp cf' cf (160 + nl) np) (u2 : xUp ct' ct (160 + nl) np1) (hl : xLow (1200 + np) p' p) (hn : np ≤ np1) (hx : xhf p' (1200 + np) (np1 - np).toNat ≠ none) : xRl cf' ct' p' (nl + 1) np1 := fun k q1 q2 => by
  by_cases e : k = nl
  · subst e
    rw [u1.1, u2.1]
    exact ⟨hp0, hn, Int.le_refl _, hx⟩
  · rw [u1.2 _ (by omega) (by omega), u2.2 _ (by omega) (by omega)]
    obtain ⟨r1, r2, r3, r4⟩ := h k q1 (by omega)
    refine ⟨r1, r2, by omega, ?_⟩
    rw [xhf_cg (p := p) (F := 1200 + cf (160 + k)) (fun i hi => hl _ (by omega) (by omega))]
    exact r4
def xTv (cf ct p : Int → Int) (t k : Int) : Prop := 0 ≤ cf (16 * t + k) ∧ cf (16 * t + k) ≤ ct (16 * t + k) ∧ ct (16 * t + k) ≤ 120 ∧ xhf p (120 * t + cf (16 * t + k)) (ct (16 * t + k) - cf (16 * t + k)).toNat ≠ none
def xTr (lo cf ct p : Int → Int) (t : Int) : Prop := ∀ k, 0 ≤ k → k < lo t → xTv cf ct p t k
theorem xRl.tr {lo cf ct p : Int → Int} {nl np : Int} (h : xRl cf ct p nl np) (e : lo 10 = nl) (hn : np ≤ 120) : xTr lo cf ct p 10 := fun k q1 q2 => by
  rw [e] at q2
  obtain ⟨r1, r2, r3, r4⟩ := h k q1 q2
  exact ⟨r1, r2, by show ct (160 + k) ≤ 120; omega, r4⟩
theorem xTr.low {lo cf ct p lo' cf' ct' p' : Int → Int} {t : Int} (h : xTr lo cf ct p t) (ht : 0 ≤ t ∧ t < 10) (h1 : lo' t = lo t) (hk : lo t ≤ 16) (h2 : ∀ k, 0 ≤ k → k < 16 → cf' (16 * t + k) = cf (16 * t + k)) (h3 : ∀ k, 0 ≤ k → k < 16 → ct' (16 * t + k) = ct (16 * t + k)) (h4 : ∀ k, 0 ≤ k → k < 120 → p' (120 * t + k) = p (120 * t + k)) : xTr lo' cf' ct' p' t := fun k q1 q2 => by
  rw [h1] at q2
  obtain ⟨r1, r2, r3, r4⟩ := h k q1 q2
  unfold xTv
  rw [h2 k q1 (by omega), h3 k q1 (by omega)]
  refine ⟨r1, r2, r3, ?_⟩
  rw [xhf_cg (p := p) (F := 120 * t + cf (16 * t + k)) (fun i hi => by
    have := h4 (cf (16 * t + k) + i) (by omega) (by omega)
    rw [Int.add_assoc]
    exact this)]
  exact r4
theorem xRl.new {lo cf ct p : Int → Int} {t nl np : Int} (h : xRl cf ct p nl np) (hn : np ≤ 120) (h1 : lo t = nl) (h2 : ∀ k, 0 ≤ k → k < nl → cf (16 * t + k) = cf (160 + k)) (h3 : ∀ k, 0 ≤ k → k < nl → ct (16 * t + k) = ct (160 + k)) (h4 : ∀ k, 0 ≤ k → k < np → p (120 * t + k) = p (1200 + k)) : xTr lo cf ct p t := fun k q1 q2 => by
  rw [h1] at q2
  obtain ⟨r1, r2, r3, r4⟩ := h k q1 q2
  unfold xTv
  rw [h2 k q1 q2, h3 k q1 q2]
  refine ⟨r1, r2, by omega, ?_⟩
  rw [xhf_cg (p := p) (F := 1200 + cf (160 + k)) (fun i hi => by
    have := h4 (cf (160 + k) + i) (by omega) (by omega)
    rw [Int.add_assoc, Int.add_assoc]
    exact this)]
  exact r4
def xOp (n : Int) (f : Int → Int) : Prop := ∃ k : Int, 0 ≤ k ∧ k < n ∧ f k = 15
set_option maxHeartbeats 4000000 in
set_option maxRecDepth 100000 in
theorem c_X12_emit (l : Launch) (D : va_G) (kA : Nat → ClassId) (b0 : Nat) (t0 : Nat → Nat) (S : xT) (g : xG) (a0 : Nat) (x1 : Int) (x2 : Int) (x3 : Int) (np : Int) (wp : Nat) (hs_a0 : S a0 = some (13, 0)) (hx1 : 0 ≤ x1 ∧ x1 ≤ 15) (hx2 : (-2147483648) ≤ x2 ∧ x2 ≤ 2147483647) (hx3 : (-2147483648) ≤ x3 ∧ x3 ≤ 2147483647) (hnp : 0 ≤ np ∧ np ≤ 119) (enp : g a0 41 = .int (iI np)) (ewp : g a0 35 = .ref wp) (hs_wp : S wp = some (15900, 1320)) : xMt l yX12_emit cX12_emit 5 none 0 0 0 0 D kA b0 t0 [(15900, 0), (16000, 0), (16100, 0), (13, 41)] [.ref a0, .int (iI x1), .int (iI x2), .int (iI x3)] S g (fun (r : Option Value) (S1 : xT) (g1 : xG) => S = S1 ∧ r = none ∧ (g1 a0 41 = .int (iI (np + 1))) ∧ (xUp (xv g1 wp) (xv g wp) (1200 + np) x1)) := by
  refine xEnterV (by decide) (by simp [lg_sl, Value.category]) [(0, .ref a0), (1, .int (iI x1)), (2, .int (iI x2)), (3, .int (iI x3))] rfl ?_
  intro K E hK hret _ _ _
  refine X_sipush hK kd45_5.2.2.1 (by decide) ?_
  refine X_aloadn hK (i := 0) 0 kd45_5.2.2.2.1 rfl rfl ?_
  refine X_getK hK fl_X12_313_13 hs_a0 enp kd45_5.2.2.2.2.1 ?_
  refine X_iadd hK kd45_5.2.2.2.2.2.1 ?_
  refine X_istore hK (i := 4) [(4, .int (iI (1200 + np))), (0, .ref a0), (1, .int (iI x1)), (2, .int (iI x2)), (3, .int (iI x3))] kd45_5.2.2.2.2.2.2.1 (by decide) rfl ?_
  refine X_aloadn hK (i := 0) 1 kd45_5.2.2.2.2.2.2.2.1 rfl rfl ?_
  refine X_getK hK fl_X12_68_13 hs_a0 ewp kd45_5.2.2.2.2.2.2.2.2.1 ?_
  refine X_iload hK (i := 4) 0 kd45_5.2.2.2.2.2.2.2.2.2.1 rfl ?_
  refine X_iloadn hK (i := 1) 2 kd45_5.2.2.2.2.2.2.2.2.2.2.1 rfl rfl ?_
  refine X_iast hK hs_wp (by decide) (by decide) sl_15900 (by omega) (by omega) (by omega) (by omega) kd45_5.2.2.2.2.2.2.2.2.2.2.2 (fun g1 hg1 => ?_)
  refine X_aloadn hK (i := 0) 1 kd45_6.1 rfl rfl ?_
  refine X_getr hK 16000 1320 fl_X12_71_13 hs_a0 sl_13_36 kd45_6.2.1 (fun b2 eb2 hs_b2 => ?_)
  refine X_iload hK (i := 4) 0 kd45_6.2.2.1 rfl ?_
  refine X_iloadn hK (i := 2) 3 kd45_6.2.2.2.1 rfl rfl ?_
  refine X_iast hK hs_b2 (by decide) (by decide) sl_16000 (by omega) (by omega) (by omega) (by omega) kd45_6.2.2.2.2.1 (fun g3 hg3 => ?_)
  refine X_aloadn hK (i := 0) 1 kd45_6.2.2.2.2.2.1 rfl rfl ?_
  refine X_getr hK 16100 1320 fl_X12_74_13 hs_a0 sl_13_37 kd45_6.2.2.2.2.2.2.1 (fun b4 eb4 hs_b4 => ?_)
  refine X_iload hK (i := 4) 0 kd45_6.2.2.2.2.2.2.2.1 rfl ?_
  refine X_iloadn hK (i := 3) 4 kd45_6.2.2.2.2.2.2.2.2.1 rfl rfl ?_
  refine X_iast hK hs_b4 (by decide) (by decide) sl_16100 (by omega) (by omega) (by omega) (by omega) kd45_6.2.2.2.2.2.2.2.2.2.1 (fun g5 hg5 => ?_)
  refine X_aloadn hK (i := 0) 1 kd45_6.2.2.2.2.2.2.2.2.2.2.1 rfl rfl ?_
  refine X_dup hK kd45_6.2.2.2.2.2.2.2.2.2.2.2 rfl ?_
  refine X_getK hK fl_X12_313_13 hs_a0 ((xs_a hg5 (xne hs_a0 hs_b4 (by decide))).trans ((xs_a hg3 (xne hs_a0 hs_b2 (by decide))).trans ((xs_a hg1 (xne hs_a0 hs_wp (by decide))).trans enp))) kd45_7.1 ?_
  refine X_iconst hK kd45_7.2.1 ?_
  refine X_iadd hK kd45_7.2.2.1 ?_
  refine X_puti hK fl_X12_313_13 hs_a0 (by decide) sl_13_41 (by omega) (by omega) kd45_7.2.2.2.1 (fun g6 hg6 => ?_)
  exact hret _ _ _ _ _ _ kd45_7.2.2.2.2.1 ⟨rfl, rfl, (xs_s hg6), ⟨(show xv g6 wp (1200 + np) = x1 from by rw [(xv_a hg6 (xne hs_wp hs_a0 (by decide))), (xv_a hg5 (xne hs_wp hs_b4 (by decide))), (xv_a hg3 (xne hs_wp hs_b2 (by decide))), xv_s hg1 (by omega)]), (fun i9 hi9 h09 => (show xv g6 wp i9 = xv g wp i9 from by rw [(xv_a hg6 (xne hs_wp hs_a0 (by decide))), (xv_a hg5 (xne hs_wp hs_b4 (by decide))), (xv_a hg3 (xne hs_wp hs_b2 (by decide))), (xv_k (i := i9) hg1 (by omega) (by omega) (by omega))]))⟩⟩ (Nat.le_refl _) (Nat.le_refl _)

set_option maxHeartbeats 4000000 in
set_option maxRecDepth 100000 in
theorem c2_bad (l : Launch) (D : va_G) (kA : Nat → ClassId) (b0 : Nat) (t0 : Nat → Nat) (S : xT) (g : xG) (a0 : Nat) (x1 : Int) (hs_a0 : S a0 = some (13, 0)) (hx1 : (-2147483648) ≤ x1 ∧ x1 ≤ 2147483647) : xMt l yX12_bad cX12_bad 2 (some .boolean) 0 0 0 0 D kA b0 t0 [(13, 25), (13, 26)] [.ref a0, .int (iI x1)] S g (fun (r : Option Value) (S1 : xT) (g1 : xG) => S = S1 ∧ ∃ z : Int, r = some (.int (iI z)) ∧ 0 ≤ z ∧ z ≤ 1 ∧ (z = 0)) := by
  refine xEnterZ (by decide) (by simp [lg_sl, Value.category]) [(0, .ref a0), (1, .int (iI x1))] rfl ?_
  intro K E hK hret _ _ _
  refine X_aloadn hK (i := 0) 0 kd28_24.2.2.2.2.2.2.2.2.2.2.2 rfl rfl ?_
  refine X_aloadn hK (i := 0) 0 kd28_25.1 rfl rfl ?_
  refine X_geti hK fl_X12_262_13 hs_a0 sl_13_22 kd28_25.2.1 (fun z1 ez1 lz1 uz1 => ?_)
  refine X_iconst hK kd28_25.2.2.1 ?_
  refine X_icmp_ne hK 13 (by omega) (by omega) kd28_25.2.2.2.1 (by decide) (fun c2 => ?_) (fun c2 => ?_)
  · refine X_iloadn hK (i := 1) 1 kd28_25.2.2.2.2.2.2.1 rfl rfl ?_
    refine X_puti hK fl_X12_291_13 hs_a0 (by decide) sl_13_25 (by omega) (by omega) kd28_25.2.2.2.2.2.2.2.1 (fun g3 hg3 => ?_)
    refine X_aloadn hK (i := 0) 0 kd28_25.2.2.2.2.2.2.2.2.1 rfl rfl ?_
    refine X_aloadn hK (i := 0) 0 kd28_25.2.2.2.2.2.2.2.2.2.1 rfl rfl ?_
    refine X_geti hK fl_X12_259_13 hs_a0 sl_13_21 kd28_25.2.2.2.2.2.2.2.2.2.2.1 (fun z4 ez4 lz4 uz4 => ?_)
    refine X_puti hK fl_X12_294_13 hs_a0 (by decide) sl_13_26 (by omega) (by omega) kd28_25.2.2.2.2.2.2.2.2.2.2.2 (fun g5 hg5 => ?_)
    refine X_iconst hK kd28_26.1 ?_
    exact hret _ _ _ _ _ _ _ kd28_26.2.1 (by omega) (by omega) ⟨rfl, 0, rfl, (by omega), (by omega), (by omega)⟩ (Nat.le_refl _) (Nat.le_refl _)
  · refine X_iconst hK kd28_25.2.2.2.2.1 ?_
    refine X_goto hK 14 kd28_25.2.2.2.2.2.1 (by decide) ?_
    refine X_puti hK fl_X12_291_13 hs_a0 (by decide) sl_13_25 (by omega) (by omega) kd28_25.2.2.2.2.2.2.2.1 (fun g6 hg6 => ?_)
    refine X_aloadn hK (i := 0) 0 kd28_25.2.2.2.2.2.2.2.2.1 rfl rfl ?_
    refine X_aloadn hK (i := 0) 0 kd28_25.2.2.2.2.2.2.2.2.2.1 rfl rfl ?_
    refine X_geti hK fl_X12_259_13 hs_a0 sl_13_21 kd28_25.2.2.2.2.2.2.2.2.2.2.1 (fun z7 ez7 lz7 uz7 => ?_)
    refine X_puti hK fl_X12_294_13 hs_a0 (by decide) sl_13_26 (by omega) (by omega) kd28_25.2.2.2.2.2.2.2.2.2.2.2 (fun g8 hg8 => ?_)
    refine X_iconst hK kd28_26.1 ?_
    exact hret _ _ _ _ _ _ _ kd28_26.2.1 (by omega) (by omega) ⟨rfl, 0, rfl, (by omega), (by omega), (by omega)⟩ (Nat.le_refl _) (Nat.le_refl _)

set_option maxHeartbeats 4000000 in
set_option maxRecDepth 100000 in
theorem c_X12_drop (l : Launch) (D : va_G) (kA : Nat → ClassId) (b0 : Nat) (t0 : Nat → Nat) (S : xT) (g : xG) (a0 : Nat) (x1 : Int) (x2 : Int) (np : Int) (nt : Int) (no : Int) (nw : Int) (wp : Nat) (wl : Nat) (F9 : Int) (hs_a0 : S a0 = some (13, 0)) (hx1 : 13 ≤ x1 ∧ x1 ≤ 13) (hx2 : 13 ≤ x2 ∧ x2 ≤ 14) (hnp : 0 ≤ np ∧ np ≤ 120) (enp : g a0 41 = .int (iI np)) (hnt : 0 ≤ nt ∧ nt ≤ 64) (ent : g a0 42 = .int (iI nt)) (hno : 0 ≤ no ∧ no ≤ 50) (eno : g a0 43 = .int (iI no)) (hnw : 0 ≤ nw ∧ nw ≤ 10) (enw : g a0 44 = .int (iI nw)) (ewp : g a0 35 = .ref wp) (hs_wp : S wp = some (15900, 1320)) (ewl : g a0 38 = .ref wl) (hs_wl : S wl = some (16200, 64)) (hp0 : xRd (xv g wp) (xv g wl) F9 np nt no nw 0) : xMt l yX12_drop cX12_drop 3 none 1 0 0 24 D kA b0 t0 [(13, 42), (15900, 0), (16000, 0), (16100, 0), (13, 41)] [.ref a0, .int (iI x1), .int (iI x2)] S g (fun (r : Option Value) (S1 : xT) (g1 : xG) => S = S1 ∧ r = none ∧ (∃ a b : Int, g1 a0 41 = .int (iI a) ∧ np ≤ a ∧ a ≤ 120 ∧ g1 a0 42 = .int (iI b) ∧ 0 ≤ b ∧ b ≤ nt ∧ xRd (xv g1 wp) (xv g wl) F9 a b no nw 0 ∧ (b = 0 ∨ xv g wl (b - 1) < 13 ∨ x2 < xv g wl (b - 1)) ∧ (∀ k, b ≤ k → k < nt → 13 ≤ xv g wl k ∧ xv g wl k ≤ x2) ∧ xLow (1200 + F9) (xv g1 wp) (xv g wp))) := by
  refine xEnterV (by decide) (by simp [lg_sl, Value.category]) [(0, .ref a0), (1, .int (iI x1)), (2, .int (iI x2))] rfl ?_
  intro K E hK hret _ _ _
  have P85 : ∀ (nP85 : Nat) (g68 : xG) (_ : xM [(15900, 0), (16000, 0), (16100, 0), (13, 41), (13, 42)] S g g68) (q69 : Int) (_ : 0 ≤ q69) (_ : q69 ≤ 120) (_ : g68 a0 41 = .int (iI q69)) (q70 : Int) (_ : 0 ≤ q70) (_ : q70 ≤ 64) (_ : g68 a0 42 = .int (iI q70)) (_ : xRd (xv g68 wp) (xv g wl) F9 q69 q70 no nw 0) (_ : q70 ≤ nt) (_ : np ≤ q69) (_ : ∀ k, q70 ≤ k → k < nt → 13 ≤ xv g wl k ∧ xv g wl k ≤ x2) (_ : xLow (1200 + F9) (xv g68 wp) (xv g wp)) (_ : q70 < (nP85 : Int)), X K E 0 [(0, .ref a0), (1, .int (iI x1)), (2, .int (iI x2))] [] S g68 0 0 := by
    intro nP85
    induction nP85 with
    | zero => intro g68 hg68 q69 lq69 uq69 eq69 q70 lq70 uq70 eq70 v86 v87 v88 v89 v90 mP85; exact False.elim (by omega)
    | succ nP85 ihP85 =>
      intro g68 hg68 q69 lq69 uq69 eq69 q70 lq70 uq70 eq70 v86 v87 v88 v89 v90 mP85
      refine X_aloadn hK (i := 0) 0 kd45_0.1 rfl rfl ?_
      have hbh91 := xRd.bd v86 (by omega)
      refine X_getK hK fl_X12_316_13 hs_a0 eq70 kd45_0.2.1 ?_
      refine X_if_le hK 54 (by omega) kd45_0.2.2.1 (by decide) (fun c92 => ?_) (fun c92 => ?_)
      · exact hret _ _ _ _ _ _ kd45_2.2.2.2.2.2.2.1 ⟨rfl, rfl, ⟨q69, q70, eq69, by omega, by omega, eq70, by omega, by omega, v86, by omega, v89, v90⟩⟩ (Nat.le_refl _) (Nat.le_refl _)
      · refine X_aloadn hK (i := 0) 0 kd45_0.2.2.2.1 rfl rfl ?_
        refine X_getK hK fl_X12_77_13 hs_a0 ((hg68 a0 13 0 38 hs_a0 (by decide)).trans ewl) kd45_0.2.2.2.2.1 ?_
        refine X_aloadn hK (i := 0) 0 kd45_0.2.2.2.2.2.1 rfl rfl ?_
        refine X_getK hK fl_X12_316_13 hs_a0 eq70 kd45_0.2.2.2.2.2.2.1 ?_
        refine X_iconst hK kd45_0.2.2.2.2.2.2.2.1 ?_
        refine X_isub hK kd45_0.2.2.2.2.2.2.2.2.1 ?_
        refine X_iald hK hs_wl (by decide) sl_16200 (by omega) (by omega) kd45_0.2.2.2.2.2.2.2.2.2.1 (fun z93 ez93 lz93 uz93 => ?_)
        have hzh94 : xv g wl (q70 - 1) = z93 := by have h9 := xv_e (j := (q70 - 1)) ez93 (by omega); rw [(xv_m hg68 hs_wl (by decide) (by decide))] at h9; exact h9
        refine X_iloadn hK (i := 1) 1 kd45_0.2.2.2.2.2.2.2.2.2.2.1 rfl rfl ?_
        refine X_iloadn hK (i := 2) 2 kd45_0.2.2.2.2.2.2.2.2.2.2.2 rfl rfl ?_
        refine X_callS hK [.int (iI z93), .int (iI x1), .int (iI x2)] [] lk_X12_211 (c_X12_isIn _ _ _ _ _ S g68 z93 x1 x2 (by omega) (by omega) (by omega)) kd45_1.1 rfl rfl (by simp [Value.category]) (by decide) (by decide) (by decide) (by decide) (fun r95 S97 g96 pr95 qr95 hg96 => ?_)
        obtain ⟨rfl, rfl, z98, rfl, lz98, uz98, k99⟩ := pr95
        refine X_st [.int (iI z98)] rfl ?_
        refine X_if_eq hK 54 (by omega) kd45_1.2.1 (by decide) (fun c100 => ?_) (fun c100 => ?_)
        · exact hret _ _ _ _ _ _ kd45_2.2.2.2.2.2.2.1 ⟨rfl, rfl, ⟨q69, q70, eq69, by omega, by omega, eq70, by omega, by omega, v86, by omega, v89, v90⟩⟩ (Nat.le_refl _) (Nat.le_refl _)
        · refine X_aloadn hK (i := 0) 0 kd45_1.2.2.1 rfl rfl ?_
          refine X_dup hK kd45_1.2.2.2.1 rfl ?_
          refine X_getK hK fl_X12_316_13 hs_a0 eq70 kd45_1.2.2.2.2.1 ?_
          refine X_iconst hK kd45_1.2.2.2.2.2.1 ?_
          refine X_isub hK kd45_1.2.2.2.2.2.2.1 ?_
          refine X_puti hK fl_X12_316_13 hs_a0 (by decide) sl_13_42 (by omega) (by omega) kd45_1.2.2.2.2.2.2.2.1 (fun g101 hg101 => ?_)
          refine X_aloadn hK (i := 0) 0 kd45_1.2.2.2.2.2.2.2.2.1 rfl rfl ?_
          refine X_aloadn hK (i := 0) 0 kd45_1.2.2.2.2.2.2.2.2.2.1 rfl rfl ?_
          refine X_getK hK fl_X12_77_13 hs_a0 ((xs_k hg101 (by decide)).trans ((hg68 a0 13 0 38 hs_a0 (by decide)).trans ewl)) kd45_1.2.2.2.2.2.2.2.2.2.2.1 ?_
          refine X_aloadn hK (i := 0) 0 kd45_1.2.2.2.2.2.2.2.2.2.2.2 rfl rfl ?_
          refine X_getK hK fl_X12_316_13 hs_a0 (xs_s hg101) kd45_2.1 ?_
          refine X_ialdK hK hs_wl (by decide) (by omega) (by omega) ((xs_a hg101 (xne hs_wl hs_a0 (by decide))).trans ez93) kd45_2.2.1 ?_
          have hzh102 : xv g wl (q70 - 1) = z93 := by have h9 := xv_e (j := (q70 - 1)) ((xs_a hg101 (xne hs_wl hs_a0 (by decide))).trans ez93) (by omega); rw [(Eq.trans (xv_a hg101 (xne hs_wl hs_a0 (by decide))) (xv_m hg68 hs_wl (by decide) (by decide)))] at h9; exact h9
          refine X_iconst hK kd45_2.2.2.1 ?_
          refine X_iconst hK kd45_2.2.2.2.1 ?_
          refine X_callV hK [.int (iI z93), .int (iI 0), .int (iI 0)] [] lk_X12_319 (c_X12_emit _ _ _ _ _ S g101 a0 z93 0 0 q69 wp hs_a0 (by omega) (by omega) (by omega) (by omega) ((xs_k hg101 (by decide)).trans eq69) ((xs_k hg101 (by decide)).trans ((hg68 a0 13 0 35 hs_a0 (by decide)).trans ewp)) hs_wp) hs_a0 ⟨by decide, rfl⟩ kd45_2.2.2.2.2.1 rfl rfl (by simp [Value.category]) (by decide) (by decide) (by decide) (by decide) (fun r103 S105 g104 pr103 qr103 hg104 => ?_)
          obtain ⟨rfl, rfl, k106, k107⟩ := pr103
          refine X_st [] rfl ?_
          refine X_goto hK 0 kd45_2.2.2.2.2.2.1 (by decide) ?_
          exact ihP85  g104 (xM.tr (xM_up (xM.tr xM.rf xLe.rf hg68 (by decide)) hg101 hs_a0 (by decide) (by decide)) xLe.rf hg104 (by decide)) (q69 + 1) (by omega) (by omega) k106 (q70 - 1) (by omega) (by omega) ((hg104 a0 13 0 42 hs_a0 (by decide)).trans (xs_s hg101)) (xRd.join v86 (by omega) (by omega) (by omega) (by have h9 := k107; rw [(xv_a hg101 (xne hs_wp hs_a0 (by decide)))] at h9; exact h9)) (by omega) (by omega) (fun k q1 q2 => by rcases (show k = (q70 - 1) ∨ (q70 - 1) < k by omega) with c9 | c9 <;> first | (rw [c9]; omega) | exact v89 k (by omega) q2) (xLow.up v90 (by have h9 := k107; rw [(xv_a hg101 (xne hs_wp hs_a0 (by decide)))] at h9; exact h9) (by omega)) (by omega)
  exact P85 ((nt : Int).toNat + 1) g xM.rf np (by omega) (by omega) enp nt (by omega) (by omega) ent hp0 (by omega) (by omega) (fun k q1 q2 => by omega) xLow.rf (by omega)

set_option maxHeartbeats 4000000 in
set_option maxRecDepth 100000 in
theorem c_X12_dropNots (l : Launch) (D : va_G) (kA : Nat → ClassId) (b0 : Nat) (t0 : Nat → Nat) (S : xT) (g : xG) (a0 : Nat) (np : Int) (nt : Int) (no : Int) (nw : Int) (wp : Nat) (wl : Nat) (F9 : Int) (hs_a0 : S a0 = some (13, 0)) (hnp : 0 ≤ np ∧ np ≤ 120) (enp : g a0 41 = .int (iI np)) (hnt : 0 ≤ nt ∧ nt ≤ 64) (ent : g a0 42 = .int (iI nt)) (hno : 0 ≤ no ∧ no ≤ 50) (eno : g a0 43 = .int (iI no)) (hnw : 0 ≤ nw ∧ nw ≤ 10) (enw : g a0 44 = .int (iI nw)) (ewp : g a0 35 = .ref wp) (hs_wp : S wp = some (15900, 1320)) (ewl : g a0 38 = .ref wl) (hs_wl : S wl = some (16200, 64)) (hp0 : xRd (xv g wp) (xv g wl) F9 np nt no nw 0) : xMt l yX12_dropNots cX12_dropNots 1 none 1 0 0 24 D kA b0 t0 [(13, 42), (13, 44), (15900, 0), (16000, 0), (16100, 0), (13, 41)] [.ref a0] S g (fun (r : Option Value) (S1 : xT) (g1 : xG) => S = S1 ∧ r = none ∧ (∃ a b c : Int, g1 a0 41 = .int (iI a) ∧ np ≤ a ∧ a ≤ 120 ∧ g1 a0 42 = .int (iI b) ∧ 0 ≤ b ∧ b ≤ nt ∧ g1 a0 44 = .int (iI c) ∧ 0 ≤ c ∧ c ≤ 10 ∧ xRd (xv g1 wp) (xv g wl) F9 a b no c 0 ∧ xLow (1200 + F9) (xv g1 wp) (xv g wp))) := by
  refine xEnterV (by decide) (by simp [lg_sl, Value.category]) [(0, .ref a0)] rfl ?_
  intro K E hK hret _ _ _
  have P70 : ∀ (nP70 : Nat) (g56 : xG) (_ : xM [(15900, 0), (16000, 0), (16100, 0), (13, 41), (13, 44), (13, 42)] S g g56) (q57 : Int) (_ : 0 ≤ q57) (_ : q57 ≤ 120) (_ : g56 a0 41 = .int (iI q57)) (q58 : Int) (_ : 0 ≤ q58) (_ : q58 ≤ 64) (_ : g56 a0 42 = .int (iI q58)) (q59 : Int) (_ : 0 ≤ q59) (_ : q59 ≤ 10) (_ : g56 a0 44 = .int (iI q59)) (_ : xRd (xv g56 wp) (xv g wl) F9 q57 q58 no q59 0) (_ : q58 ≤ nt) (_ : np ≤ q57) (_ : xLow (1200 + F9) (xv g56 wp) (xv g wp)) (_ : q58 < (nP70 : Int)), X K E 0 [(0, .ref a0)] [] S g56 0 0 := by
    intro nP70
    induction nP70 with
    | zero => intro g56 hg56 q57 lq57 uq57 eq57 q58 lq58 uq58 eq58 q59 lq59 uq59 eq59 v71 v72 v73 v74 mP70; exact False.elim (by omega)
    | succ nP70 ihP70 =>
      intro g56 hg56 q57 lq57 uq57 eq57 q58 lq58 uq58 eq58 q59 lq59 uq59 eq59 v71 v72 v73 v74 mP70
      refine X_aloadn hK (i := 0) 0 kd45_2.2.2.2.2.2.2.2.1 rfl rfl ?_
      have hbh75 := xRd.bd v71 (by omega)
      refine X_getK hK fl_X12_316_13 hs_a0 eq58 kd45_2.2.2.2.2.2.2.2.2.1 ?_
      refine X_if_le hK 54 (by omega) kd45_2.2.2.2.2.2.2.2.2.2.1 (by decide) (fun c76 => ?_) (fun c76 => ?_)
      · exact hret _ _ _ _ _ _ kd45_5.2.1 ⟨rfl, rfl, ⟨q57, q58, q59, eq57, by omega, by omega, eq58, by omega, by omega, eq59, by omega, by omega, v71, v74⟩⟩ (Nat.le_refl _) (Nat.le_refl _)
      · refine X_aloadn hK (i := 0) 0 kd45_2.2.2.2.2.2.2.2.2.2.2.1 rfl rfl ?_
        refine X_getK hK fl_X12_77_13 hs_a0 ((hg56 a0 13 0 38 hs_a0 (by decide)).trans ewl) kd45_2.2.2.2.2.2.2.2.2.2.2.2 ?_
        refine X_aloadn hK (i := 0) 0 kd45_3.1 rfl rfl ?_
        refine X_getK hK fl_X12_316_13 hs_a0 eq58 kd45_3.2.1 ?_
        refine X_iconst hK kd45_3.2.2.1 ?_
        refine X_isub hK kd45_3.2.2.2.1 ?_
        refine X_iald hK hs_wl (by decide) sl_16200 (by omega) (by omega) kd45_3.2.2.2.2.1 (fun z77 ez77 lz77 uz77 => ?_)
        have hzh78 : xv g wl (q58 - 1) = z77 := by have h9 := xv_e (j := (q58 - 1)) ez77 (by omega); rw [(xv_m hg56 hs_wl (by decide) (by decide))] at h9; exact h9
        refine X_bipush hK kd45_3.2.2.2.2.2.1 (by decide) ?_
        refine X_icmp_ne hK 54 (by omega) (by omega) kd45_3.2.2.2.2.2.2.1 (by decide) (fun c79 => ?_) (fun c79 => ?_)
        · exact hret _ _ _ _ _ _ kd45_5.2.1 ⟨rfl, rfl, ⟨q57, q58, q59, eq57, by omega, by omega, eq58, by omega, by omega, eq59, by omega, by omega, v71, v74⟩⟩ (Nat.le_refl _) (Nat.le_refl _)
        · refine X_aloadn hK (i := 0) 0 kd45_3.2.2.2.2.2.2.2.1 rfl rfl ?_
          refine X_dup hK kd45_3.2.2.2.2.2.2.2.2.1 rfl ?_
          have hwh80 := xRd.bd (xRd.paren v71 (by omega) (by omega)) (by omega)
          refine X_getK hK fl_X12_316_13 hs_a0 eq58 kd45_3.2.2.2.2.2.2.2.2.2.1 ?_
          refine X_iconst hK kd45_3.2.2.2.2.2.2.2.2.2.2.1 ?_
          refine X_isub hK kd45_3.2.2.2.2.2.2.2.2.2.2.2 ?_
          refine X_puti hK fl_X12_316_13 hs_a0 (by decide) sl_13_42 (by omega) (by omega) kd45_4.1 (fun g81 hg81 => ?_)
          refine X_aloadn hK (i := 0) 0 kd45_4.2.1 rfl rfl ?_
          refine X_dup hK kd45_4.2.2.1 rfl ?_
          refine X_getK hK fl_X12_339_13 hs_a0 ((xs_k hg81 (by decide)).trans eq59) kd45_4.2.2.2.1 ?_
          refine X_iconst hK kd45_4.2.2.2.2.1 ?_
          refine X_isub hK kd45_4.2.2.2.2.2.1 ?_
          refine X_puti hK fl_X12_339_13 hs_a0 (by decide) sl_13_44 (by omega) (by omega) kd45_4.2.2.2.2.2.2.1 (fun g82 hg82 => ?_)
          refine X_aloadn hK (i := 0) 0 kd45_4.2.2.2.2.2.2.2.1 rfl rfl ?_
          refine X_bipush hK kd45_4.2.2.2.2.2.2.2.2.1 (by decide) ?_
          refine X_iconst hK kd45_4.2.2.2.2.2.2.2.2.2.1 ?_
          refine X_iconst hK kd45_4.2.2.2.2.2.2.2.2.2.2.1 ?_
          refine X_callV hK [.int (iI 12), .int (iI 0), .int (iI 0)] [] lk_X12_319 (c_X12_emit _ _ _ _ _ S g82 a0 12 0 0 q57 wp hs_a0 (by omega) (by omega) (by omega) (by omega) ((xs_k hg82 (by decide)).trans ((xs_k hg81 (by decide)).trans eq57)) ((xs_k hg82 (by decide)).trans ((xs_k hg81 (by decide)).trans ((hg56 a0 13 0 35 hs_a0 (by decide)).trans ewp))) hs_wp) hs_a0 ⟨by decide, rfl⟩ kd45_4.2.2.2.2.2.2.2.2.2.2.2 rfl rfl (by simp [Value.category]) (by decide) (by decide) (by decide) (by decide) (fun r83 S85 g84 pr83 qr83 hg84 => ?_)
          obtain ⟨rfl, rfl, k86, k87⟩ := pr83
          refine X_st [] rfl ?_
          refine X_goto hK 0 kd45_5.1 (by decide) ?_
          exact ihP70  g84 (xM.tr (xM_up (xM_up (xM.tr xM.rf xLe.rf hg56 (by decide)) hg81 hs_a0 (by decide) (by decide)) hg82 hs_a0 (by decide) (by decide)) xLe.rf hg84 (by decide)) (q57 + 1) (by omega) (by omega) k86 (q58 - 1) (by omega) (by omega) ((hg84 a0 13 0 42 hs_a0 (by decide)).trans ((xs_k hg82 (by decide)).trans (xs_s hg81))) (q59 - 1) (by omega) (by omega) ((hg84 a0 13 0 44 hs_a0 (by decide)).trans (xs_s hg82)) (xRd.not v71 (by omega) (by omega) (by have h9 := k87; rw [(Eq.trans (xv_a hg82 (xne hs_wp hs_a0 (by decide))) (xv_a hg81 (xne hs_wp hs_a0 (by decide))))] at h9; exact h9)) (by omega) (by omega) (xLow.up v74 (by have h9 := k87; rw [(Eq.trans (xv_a hg82 (xne hs_wp hs_a0 (by decide))) (xv_a hg81 (xne hs_wp hs_a0 (by decide))))] at h9; exact h9) (by omega)) (by omega)
  exact P70 ((nt : Int).toNat + 1) g xM.rf np (by omega) (by omega) enp nt (by omega) (by omega) ent nw (by omega) (by omega) enw hp0 (by omega) (by omega) xLow.rf (by omega)

set_option maxHeartbeats 4000000 in
set_option maxRecDepth 100000 in
theorem c2_isOpen (l : Launch) (D : va_G) (kA : Nat → ClassId) (b0 : Nat) (t0 : Nat → Nat) (S : xT) (g : xG) (a0 : Nat) (nt : Int) (wl : Nat) (hs_a0 : S a0 = some (13, 0)) (hnt : 0 ≤ nt ∧ nt ≤ 64) (ent : g a0 42 = .int (iI nt)) (ewl : g a0 38 = .ref wl) (hs_wl : S wl = some (16200, 64)) : xMt l yX12_isOpen cX12_isOpen 2 (some .boolean) 0 0 0 0 D kA b0 t0 [] [.ref a0] S g (fun (r : Option Value) (S1 : xT) (g1 : xG) => S = S1 ∧ g = g1 ∧ ∃ z : Int, r = some (.int (iI z)) ∧ 0 ≤ z ∧ z ≤ 1 ∧ (z = 1 → xOp nt (xv g wl))) := by
  refine xEnterZ (by decide) (by simp [lg_sl, Value.category]) [(0, .ref a0)] rfl ?_
  intro K E hK hret _ _ _
  refine X_iconst hK kd45_7.2.2.2.2.2.1 ?_
  refine X_istoren hK (i := 1) [(1, .int (iI 0)), (0, .ref a0)] kd45_7.2.2.2.2.2.2.1 rfl (by decide) rfl ?_
  have P25 : ∀ (nP25 : Nat) (z21 : Int) (_ : 0 ≤ z21) (_ : z21 ≤ 64) (_ : 80 - z21 < (nP25 : Int)), X K E 2 [(1, .int (iI z21)), (0, .ref a0)] [] S g 0 0 := by
    intro nP25
    induction nP25 with
    | zero => intro z21 lz21 uz21 mP25; exact False.elim (by omega)
    | succ nP25 ihP25 =>
      intro z21 lz21 uz21 mP25
      refine X_iloadn hK (i := 1) 0 kd45_7.2.2.2.2.2.2.2.1 rfl rfl ?_
      refine X_aloadn hK (i := 0) 1 kd45_7.2.2.2.2.2.2.2.2.1 rfl rfl ?_
      refine X_getK hK fl_X12_316_13 hs_a0 ent kd45_7.2.2.2.2.2.2.2.2.2.1 ?_
      refine X_icmp_ge hK 29 (by omega) (by omega) kd45_7.2.2.2.2.2.2.2.2.2.2.1 (by decide) (fun c26 => ?_) (fun c26 => ?_)
      · refine X_iconst hK kd45_8.2.2.2.2.2.2.2.2.2.1 ?_
        exact hret _ _ _ _ _ _ _ kd45_8.2.2.2.2.2.2.2.2.2.2.1 (by omega) (by omega) ⟨rfl, rfl, 0, rfl, (by omega), (by omega), (fun h => by omega)⟩ (Nat.le_refl _) (Nat.le_refl _)
      · refine X_aloadn hK (i := 0) 1 kd45_7.2.2.2.2.2.2.2.2.2.2.2 rfl rfl ?_
        refine X_getK hK fl_X12_77_13 hs_a0 ewl kd45_8.1 ?_
        refine X_iloadn hK (i := 1) 0 kd45_8.2.1 rfl rfl ?_
        refine X_iald hK hs_wl (by decide) sl_16200 (by omega) (by omega) kd45_8.2.2.1 (fun z27 ez27 lz27 uz27 => ?_)
        have hvz27 := xv_e (j := z21) ez27 (by omega)
        refine X_bipush hK kd45_8.2.2.2.1 (by decide) ?_
        refine X_icmp_ne hK 23 (by omega) (by omega) kd45_8.2.2.2.2.1 (by decide) (fun c28 => ?_) (fun c28 => ?_)
        · refine X_iinc hK (i := 1) (z := z21) (n := 1) 0 [(1, .int (iI (z21 + 1))), (0, .ref a0)] kd45_8.2.2.2.2.2.2.2.1 rfl (by decide) rfl ?_
          refine X_goto hK 2 kd45_8.2.2.2.2.2.2.2.2.1 (by decide) ?_
          exact ihP25  (z21 + 1) (by omega) (by omega) (by omega)
        · refine X_iconst hK kd45_8.2.2.2.2.2.1 ?_
          exact hret _ _ _ _ _ _ _ kd45_8.2.2.2.2.2.2.1 (by omega) (by omega) ⟨rfl, rfl, 1, rfl, (by omega), (by omega), (fun _ => ⟨z21, by omega, by omega, by omega⟩)⟩ (Nat.le_refl _) (Nat.le_refl _)
  exact P25 ((80 - 0 : Int).toNat + 1) 0 (by omega) (by omega) (by omega)

set_option maxHeartbeats 4000000 in
set_option maxRecDepth 100000 in
theorem c_X12_readOne (l : Launch) (D : va_G) (kA : Nat → ClassId) (b0 : Nat) (t0 : Nat → Nat) (S : xT) (g : xG) (a0 : Nat) (np : Int) (nt : Int) (no : Int) (nw : Int) (wp : Nat) (wl : Nat) (F9 : Int) (hs_a0 : S a0 = some (13, 0)) (hnp : 0 ≤ np ∧ np ≤ 120) (enp : g a0 41 = .int (iI np)) (hnt : 0 ≤ nt ∧ nt ≤ 64) (ent : g a0 42 = .int (iI nt)) (hno : 0 ≤ no ∧ no ≤ 50) (eno : g a0 43 = .int (iI no)) (hnw : 0 ≤ nw ∧ nw ≤ 10) (enw : g a0 44 = .int (iI nw)) (ewp : g a0 35 = .ref wp) (hs_wp : S wp = some (15900, 1320)) (ewl : g a0 38 = .ref wl) (hs_wl : S wl = some (16200, 64)) (hp0 : xRd (xv g wp) (xv g wl) F9 np nt no nw 1) : xMt l yX12_readOne cX12_readOne 3 (some .boolean) 2 0 0 46 D kA b0 t0 [(13, 25), (13, 26), (13, 43), (13, 20), (13, 21), (13, 28), (13, 23), (13, 22), (13, 24), (15900, 0), (16000, 0), (16100, 0), (13, 41), (13, 42), (13, 44), (16200, 0)] [.ref a0] S g (fun (r : Option Value) (S1 : xT) (g1 : xG) => S = S1 ∧ ∃ z : Int, r = some (.int (iI z)) ∧ 0 ≤ z ∧ z ≤ 1 ∧ (∃ a b c d : Int, g1 a0 41 = .int (iI a) ∧ 0 ≤ a ∧ a ≤ 120 ∧ g1 a0 42 = .int (iI b) ∧ 0 ≤ b ∧ b ≤ 64 ∧ g1 a0 43 = .int (iI d) ∧ no ≤ d ∧ d ≤ 50 ∧ g1 a0 44 = .int (iI c) ∧ 0 ≤ c ∧ c ≤ 10 ∧ (z = 1 → xRd (xv g1 wp) (xv g1 wl) F9 a b d c 0 ∧ no < d) ∧ xLow (1200 + F9) (xv g1 wp) (xv g wp))) := by
  refine xEnterZ (by decide) (by simp [lg_sl, Value.category]) [(0, .ref a0)] rfl ?_
  intro K E hK hret _ _ _
  have P1075 : ∀ (nP1075 : Nat) (g860 : xG) (_ : xM [(13, 20), (13, 21), (13, 28), (13, 23), (13, 22), (13, 24), (13, 42), (16200, 0), (13, 44), (13, 43)] S g g860) (q861 : Int) (_ : 0 ≤ q861) (_ : q861 ≤ 64) (_ : g860 a0 42 = .int (iI q861)) (q862 : Int) (_ : 0 ≤ q862) (_ : q862 ≤ 50) (_ : g860 a0 43 = .int (iI q862)) (q863 : Int) (_ : 0 ≤ q863) (_ : q863 ≤ 10) (_ : g860 a0 44 = .int (iI q863)) (_ : xRd (xv g wp) (xv g860 wl) F9 np q861 q862 q863 1) (_ : no ≤ q862) (_ : 50 - q862 < (nP1075 : Int)), X K E 0 [(0, .ref a0)] [] S g860 0 0 := by
    intro nP1075
    induction nP1075 with
    | zero => intro g860 hg860 q861 lq861 uq861 eq861 q862 lq862 uq862 eq862 q863 lq863 uq863 eq863 v1076 v1077 mP1075; exact False.elim (by omega)
    | succ nP1075 ihP1075 =>
      intro g860 hg860 q861 lq861 uq861 eq861 q862 lq862 uq862 eq862 q863 lq863 uq863 eq863 v1076 v1077 mP1075
      refine X_aloadn hK (i := 0) 0 kd45_16.2.2.2.2.2.2.2.2.2.2.2 rfl rfl ?_
      have hbh1078 := xRd.bd v1076 (by omega)
      refine X_callV hK [] [] lk_X12_323 (c_X12_atom _ _ _ _ _ S g860 a0 hs_a0) hs_a0 ⟨by decide, rfl⟩ kd45_17.1 rfl rfl (by simp [Value.category]) (by decide) (by decide) (by decide) (by decide) (fun r1079 S1081 g1080 pr1079 qr1079 hg1080 => ?_)
      obtain ⟨rfl, rfl, z1082, rfl, lz1082, uz1082⟩ := pr1079
      refine X_st [.int (iI z1082)] rfl ?_
      refine X_istoren hK (i := 1) [(1, .int (iI z1082)), (0, .ref a0)] kd45_17.2.1 rfl (by decide) rfl ?_
      refine X_iloadn hK (i := 1) 0 kd45_17.2.2.1 rfl rfl ?_
      refine X_iconst hK kd45_17.2.2.2.1 ?_
      refine X_icmp_ne hK 32 (by omega) (by omega) kd45_17.2.2.2.2.1 (by decide) (fun c1083 => ?_) (fun c1083 => ?_)
      · refine X_aloadn hK (i := 0) 1 kd45_18.2.2.2.2.1 rfl rfl ?_
        refine X_getK hK fl_X12_336_13 hs_a0 eq862 kd45_18.2.2.2.2.2.1 ?_
        refine X_bipush hK kd45_18.2.2.2.2.2.2.1 (by decide) ?_
        refine X_icmp_eq hK 50 (by omega) (by omega) kd45_18.2.2.2.2.2.2.2.1 (by decide) (fun c1084 => ?_) (fun c1084 => ?_)
        · refine X_aloadn hK (i := 0) 1 kd45_19.1 rfl rfl ?_
          refine X_iconst hK kd45_19.2.1 ?_
          refine X_callV hK [.int (iI 4)] [] lk_X12_333 (c2_bad _ _ _ _ _ S g860 a0 4 hs_a0 (by omega)) hs_a0 ⟨by decide, rfl⟩ kd45_19.2.2.1 rfl rfl (by simp [Value.category]) (by decide) (by decide) (by decide) (by decide) (fun r1085 S1087 g1086 pr1085 qr1085 hg1086 => ?_)
          obtain ⟨rfl, z1088, rfl, lz1088, uz1088, k1089⟩ := pr1085
          refine X_st [.int (iI z1088)] rfl ?_
          exact hret _ _ _ _ _ _ _ kd45_19.2.2.2.1 (by omega) (by omega) ⟨rfl, z1088, rfl, (by omega), (by omega), ⟨np, q861, q863, q862, ((hg1086 a0 13 0 41 hs_a0 (by decide)).trans ((hg860 a0 13 0 41 hs_a0 (by decide)).trans enp)), by omega, by omega, ((hg1086 a0 13 0 42 hs_a0 (by decide)).trans eq861), by omega, by omega, ((hg1086 a0 13 0 43 hs_a0 (by decide)).trans eq862), by omega, by omega, ((hg1086 a0 13 0 44 hs_a0 (by decide)).trans eq863), by omega, by omega, (fun h => by omega), (by rw [(Eq.trans (xv_m hg1086 hs_wp (by decide) (by decide)) (xv_m hg860 hs_wp (by decide) (by decide)))]; exact xLow.rf)⟩⟩ (Nat.le_refl _) (Nat.le_refl _)
        · refine X_aloadn hK (i := 0) 1 kd45_18.2.2.2.2.2.2.2.2.1 rfl rfl ?_
          refine X_getK hK fl_X12_339_13 hs_a0 eq863 kd45_18.2.2.2.2.2.2.2.2.2.1 ?_
          refine X_bipush hK kd45_18.2.2.2.2.2.2.2.2.2.2.1 (by decide) ?_
          refine X_icmp_ne hK 56 (by omega) (by omega) kd45_18.2.2.2.2.2.2.2.2.2.2.2 (by decide) (fun c1090 => ?_) (fun c1090 => ?_)
          · refine X_aloadn hK (i := 0) 1 kd45_19.2.2.2.2.1 rfl rfl ?_
            refine X_dup hK kd45_19.2.2.2.2.2.1 rfl ?_
            refine X_getK hK fl_X12_336_13 hs_a0 eq862 kd45_19.2.2.2.2.2.2.1 ?_
            refine X_iconst hK kd45_19.2.2.2.2.2.2.2.1 ?_
            refine X_iadd hK kd45_19.2.2.2.2.2.2.2.2.1 ?_
            refine X_puti hK fl_X12_336_13 hs_a0 (by decide) sl_13_43 (by omega) (by omega) kd45_19.2.2.2.2.2.2.2.2.2.1 (fun g1091 hg1091 => ?_)
            refine X_iloadn hK (i := 1) 0 kd45_19.2.2.2.2.2.2.2.2.2.2.1 rfl rfl ?_
            refine X_iconst hK kd45_19.2.2.2.2.2.2.2.2.2.2.2 ?_
            refine X_icmp_ne hK 121 (by omega) (by omega) kd45_20.1 (by decide) (fun c1092 => ?_) (fun c1092 => False.elim (by omega))
            refine X_aloadn hK (i := 0) 1 kd45_22.2.2.2.1 rfl rfl ?_
            refine X_callV hK [] [] lk_X12_342 (c_X12_go _ _ _ _ _ S g1091 a0 hs_a0) hs_a0 ⟨by decide, rfl⟩ kd45_22.2.2.2.2.1 rfl rfl (by simp [Value.category]) (by decide) (by decide) (by decide) (by decide) (fun r1093 S1095 g1094 pr1093 qr1093 hg1094 => ?_)
            obtain ⟨rfl, rfl⟩ := pr1093
            refine X_st [] rfl ?_
            refine X_iloadn hK (i := 1) 0 kd45_22.2.2.2.2.2.1 rfl rfl ?_
            refine X_iconst hK kd45_22.2.2.2.2.2.2.1 ?_
            refine X_icmp_ge hK 140 (by omega) (by omega) kd45_22.2.2.2.2.2.2.2.1 (by decide) (fun c1096 => ?_) (fun c1096 => ?_)
            · refine X_aloadn hK (i := 0) 1 kd45_23.2.2.1 rfl rfl ?_
              refine X_bipush hK kd45_23.2.2.2.1 (by decide) ?_
              refine X_callV hK [.int (iI 60)] [] lk_X12_330 (c_X12_isSign _ _ _ _ _ S g1094 a0 60 hs_a0 (by omega)) hs_a0 ⟨by decide, rfl⟩ kd45_23.2.2.2.2.1 rfl rfl (by simp [Value.category]) (by decide) (by decide) (by decide) (by decide) (fun r1097 S1099 g1098 pr1097 qr1097 hg1098 => ?_)
              obtain ⟨rfl, rfl, z1100, rfl, lz1100, uz1100⟩ := pr1097
              refine X_st [.int (iI z1100)] rfl ?_
              refine X_if_ne hK 173 (by omega) kd45_23.2.2.2.2.2.1 (by decide) (fun c1101 => ?_) (fun c1101 => ?_)
              · refine X_aloadn hK (i := 0) 1 kd45_24.2.2.2.2.2.2.1 rfl rfl ?_
                refine X_geti hK fl_X12_274_13 hs_a0 sl_13_24 kd45_24.2.2.2.2.2.2.2.1 (fun z1102 ez1102 lz1102 uz1102 => ?_)
                refine X_istoren hK (i := 2) [(2, .int (iI z1102)), (1, .int (iI z1082)), (0, .ref a0)] kd45_24.2.2.2.2.2.2.2.2.1 rfl (by decide) rfl ?_
                refine X_aloadn hK (i := 0) 2 kd45_24.2.2.2.2.2.2.2.2.2.1 rfl rfl ?_
                refine X_callV hK [] [] lk_X12_342 (c_X12_go _ _ _ _ _ S g1094 a0 hs_a0) hs_a0 ⟨by decide, rfl⟩ kd45_24.2.2.2.2.2.2.2.2.2.2.1 rfl rfl (by simp [Value.category]) (by decide) (by decide) (by decide) (by decide) (fun r1103 S1105 g1104 pr1103 qr1103 hg1104 => ?_)
                obtain ⟨rfl, rfl⟩ := pr1103
                refine X_st [] rfl ?_
                refine X_aloadn hK (i := 0) 2 kd45_24.2.2.2.2.2.2.2.2.2.2.2 rfl rfl ?_
                refine X_geti hK fl_X12_262_13 hs_a0 sl_13_22 kd45_25.1 (fun z1106 ez1106 lz1106 uz1106 => ?_)
                refine X_iconst hK kd45_25.2.1 ?_
                refine X_icmp_eq hK 196 (by omega) (by omega) kd45_25.2.2.1 (by decide) (fun c1107 => ?_) (fun c1107 => ?_)
                · refine X_aloadn hK (i := 0) 2 kd45_25.2.2.2.2.2.2.2.1 rfl rfl ?_
                  refine X_iloadn hK (i := 1) 1 kd45_25.2.2.2.2.2.2.2.2.1 rfl rfl ?_
                  refine X_iloadn hK (i := 2) 0 kd45_25.2.2.2.2.2.2.2.2.2.1 rfl rfl ?_
                  refine X_aloadn hK (i := 0) 2 kd45_25.2.2.2.2.2.2.2.2.2.2.1 rfl rfl ?_
                  refine X_geti hK fl_X12_281_13 hs_a0 sl_13_23 kd45_25.2.2.2.2.2.2.2.2.2.2.2 (fun z1108 ez1108 lz1108 uz1108 => ?_)
                  refine X_callV hK [.int (iI z1082), .int (iI z1102), .int (iI z1108)] [] lk_X12_319 (c_X12_emit _ _ _ _ _ S g1104 a0 z1082 z1102 z1108 np wp hs_a0 (by omega) (by omega) (by omega) (by omega) ((hg1104 a0 13 0 41 hs_a0 (by decide)).trans ((hg1094 a0 13 0 41 hs_a0 (by decide)).trans ((xs_k hg1091 (by decide)).trans ((hg860 a0 13 0 41 hs_a0 (by decide)).trans enp)))) ((hg1104 a0 13 0 35 hs_a0 (by decide)).trans ((hg1094 a0 13 0 35 hs_a0 (by decide)).trans ((xs_k hg1091 (by decide)).trans ((hg860 a0 13 0 35 hs_a0 (by decide)).trans ewp)))) hs_wp) hs_a0 ⟨by decide, rfl⟩ kd45_26.1 rfl rfl (by simp [Value.category]) (by decide) (by decide) (by decide) (by decide) (fun r1109 S1111 g1110 pr1109 qr1109 hg1110 => ?_)
                  obtain ⟨rfl, rfl, k1112, k1113⟩ := pr1109
                  refine X_st [] rfl ?_
                  have uR1114 : xUp (xv g1110 wp) (xv g wp) (1200 + np) z1082 := (by have h9 := k1113; rw [(Eq.trans (Eq.trans (Eq.trans (xv_m hg1104 hs_wp (by decide) (by decide)) (xv_m hg1094 hs_wp (by decide) (by decide))) (xv_a hg1091 (xne hs_wp hs_a0 (by decide)))) (xv_m hg860 hs_wp (by decide) (by decide)))] at h9; exact h9)
                  have R1114 : xRd (xv g1110 wp) (xv g860 wl) F9 (np + 1) q861 (q862 + 1) q863 0 := xRd.atom v1076 (by omega) (by omega) uR1114
                  have hbR1114 := xRd.bd R1114 (by omega)
                  refine X_aloadn hK (i := 0) 2 kd45_26.2.1 rfl rfl ?_
                  refine X_callV hK [] [] lk_X12_342 (c_X12_go _ _ _ _ _ S g1110 a0 hs_a0) hs_a0 ⟨by decide, rfl⟩ kd45_26.2.2.1 rfl rfl (by simp [Value.category]) (by decide) (by decide) (by decide) (by decide) (fun r1115 S1117 g1116 pr1115 qr1115 hg1116 => ?_)
                  obtain ⟨rfl, rfl⟩ := pr1115
                  refine X_st [] rfl ?_
                  refine X_goto hK 213 kd45_26.2.2.2.1 (by decide) ?_
                  refine X_aloadn hK (i := 0) 2 kd45_26.2.2.2.2.1 rfl rfl ?_
                  refine X_callV hK [] [] lk_X12_345 (c_X12_dropNots _ _ _ _ _ S g1116 a0 (np + 1) q861 (q862 + 1) q863 wp wl F9 hs_a0 (by omega) ((hg1116 a0 13 0 41 hs_a0 (by decide)).trans k1112) (by omega) ((hg1116 a0 13 0 42 hs_a0 (by decide)).trans ((hg1110 a0 13 0 42 hs_a0 (by decide)).trans ((hg1104 a0 13 0 42 hs_a0 (by decide)).trans ((hg1094 a0 13 0 42 hs_a0 (by decide)).trans ((xs_k hg1091 (by decide)).trans eq861))))) (by omega) ((hg1116 a0 13 0 43 hs_a0 (by decide)).trans ((hg1110 a0 13 0 43 hs_a0 (by decide)).trans ((hg1104 a0 13 0 43 hs_a0 (by decide)).trans ((hg1094 a0 13 0 43 hs_a0 (by decide)).trans (xs_s hg1091))))) (by omega) ((hg1116 a0 13 0 44 hs_a0 (by decide)).trans ((hg1110 a0 13 0 44 hs_a0 (by decide)).trans ((hg1104 a0 13 0 44 hs_a0 (by decide)).trans ((hg1094 a0 13 0 44 hs_a0 (by decide)).trans ((xs_k hg1091 (by decide)).trans eq863))))) ((hg1116 a0 13 0 35 hs_a0 (by decide)).trans ((hg1110 a0 13 0 35 hs_a0 (by decide)).trans ((hg1104 a0 13 0 35 hs_a0 (by decide)).trans ((hg1094 a0 13 0 35 hs_a0 (by decide)).trans ((xs_k hg1091 (by decide)).trans ((hg860 a0 13 0 35 hs_a0 (by decide)).trans ewp)))))) hs_wp ((hg1116 a0 13 0 38 hs_a0 (by decide)).trans ((hg1110 a0 13 0 38 hs_a0 (by decide)).trans ((hg1104 a0 13 0 38 hs_a0 (by decide)).trans ((hg1094 a0 13 0 38 hs_a0 (by decide)).trans ((xs_k hg1091 (by decide)).trans ((hg860 a0 13 0 38 hs_a0 (by decide)).trans ewl)))))) hs_wl (by rw [(xv_m hg1116 hs_wp (by decide) (by decide)), (Eq.trans (Eq.trans (Eq.trans (Eq.trans (xv_m hg1116 hs_wl (by decide) (by decide)) (xv_m hg1110 hs_wl (by decide) (by decide))) (xv_m hg1104 hs_wl (by decide) (by decide))) (xv_m hg1094 hs_wl (by decide) (by decide))) (xv_a hg1091 (xne hs_wl hs_a0 (by decide))))]; exact R1114)) hs_a0 ⟨by decide, rfl⟩ kd45_26.2.2.2.2.2.1 rfl rfl (by simp [Value.category]) (by decide) (by decide) (by decide) (by decide) (fun r1118 S1120 g1119 pr1118 qr1118 hg1119 => ?_)
                  obtain ⟨rfl, rfl, k1121⟩ := pr1118
                  refine X_st [] rfl ?_
                  obtain ⟨z1122, z1123, z1124, ez1122, lz1122, uz1122, ez1123, lz1123, uz1123, ez1124, lz1124, uz1124, Rz1122, oz1122⟩ := k1121
                  have hbz1122 := xRd.bd Rz1122 (by omega)
                  refine X_iconst hK kd45_26.2.2.2.2.2.2.1 ?_
                  exact hret _ _ _ _ _ _ _ kd45_26.2.2.2.2.2.2.2 (by omega) (by omega) ⟨rfl, 1, rfl, (by omega), (by omega), ⟨z1122, z1123, z1124, (q862 + 1), ez1122, by omega, by omega, ez1123, by omega, by omega, ((hg1119 a0 13 0 43 hs_a0 (by decide)).trans ((hg1116 a0 13 0 43 hs_a0 (by decide)).trans ((hg1110 a0 13 0 43 hs_a0 (by decide)).trans ((hg1104 a0 13 0 43 hs_a0 (by decide)).trans ((hg1094 a0 13 0 43 hs_a0 (by decide)).trans (xs_s hg1091)))))), by omega, by omega, ez1124, by omega, by omega, (fun _ => ⟨(by rw [(xv_m hg1119 hs_wl (by decide) (by decide))]; exact Rz1122), by omega⟩), (xLow.tr (by rw [(xv_m hg1116 hs_wp (by decide) (by decide))]; exact (xLow.up xLow.rf uR1114 (by omega))) oz1122 (by omega))⟩⟩ (Nat.le_refl _) (Nat.le_refl _)
                · refine X_aloadn hK (i := 0) 2 kd45_25.2.2.2.1 rfl rfl ?_
                  refine X_iconst hK kd45_25.2.2.2.2.1 ?_
                  refine X_callV hK [.int (iI 1)] [] lk_X12_333 (c2_bad _ _ _ _ _ S g1104 a0 1 hs_a0 (by omega)) hs_a0 ⟨by decide, rfl⟩ kd45_25.2.2.2.2.2.1 rfl rfl (by simp [Value.category]) (by decide) (by decide) (by decide) (by decide) (fun r1125 S1127 g1126 pr1125 qr1125 hg1126 => ?_)
                  obtain ⟨rfl, z1128, rfl, lz1128, uz1128, k1129⟩ := pr1125
                  refine X_st [.int (iI z1128)] rfl ?_
                  exact hret _ _ _ _ _ _ _ kd45_25.2.2.2.2.2.2.1 (by omega) (by omega) ⟨rfl, z1128, rfl, (by omega), (by omega), ⟨np, q861, q863, (q862 + 1), ((hg1126 a0 13 0 41 hs_a0 (by decide)).trans ((hg1104 a0 13 0 41 hs_a0 (by decide)).trans ((hg1094 a0 13 0 41 hs_a0 (by decide)).trans ((xs_k hg1091 (by decide)).trans ((hg860 a0 13 0 41 hs_a0 (by decide)).trans enp))))), by omega, by omega, ((hg1126 a0 13 0 42 hs_a0 (by decide)).trans ((hg1104 a0 13 0 42 hs_a0 (by decide)).trans ((hg1094 a0 13 0 42 hs_a0 (by decide)).trans ((xs_k hg1091 (by decide)).trans eq861)))), by omega, by omega, ((hg1126 a0 13 0 43 hs_a0 (by decide)).trans ((hg1104 a0 13 0 43 hs_a0 (by decide)).trans ((hg1094 a0 13 0 43 hs_a0 (by decide)).trans (xs_s hg1091)))), by omega, by omega, ((hg1126 a0 13 0 44 hs_a0 (by decide)).trans ((hg1104 a0 13 0 44 hs_a0 (by decide)).trans ((hg1094 a0 13 0 44 hs_a0 (by decide)).trans ((xs_k hg1091 (by decide)).trans eq863)))), by omega, by omega, (fun h => by omega), (by rw [(Eq.trans (Eq.trans (Eq.trans (Eq.trans (xv_m hg1126 hs_wp (by decide) (by decide)) (xv_m hg1104 hs_wp (by decide) (by decide))) (xv_m hg1094 hs_wp (by decide) (by decide))) (xv_a hg1091 (xne hs_wp hs_a0 (by decide)))) (xv_m hg860 hs_wp (by decide) (by decide)))]; exact xLow.rf)⟩⟩ (Nat.le_refl _) (Nat.le_refl _)
              · refine X_aloadn hK (i := 0) 1 kd45_23.2.2.2.2.2.2.1 rfl rfl ?_
                refine X_bipush hK kd45_23.2.2.2.2.2.2.2.1 (by decide) ?_
                refine X_callV hK [.int (iI 61)] [] lk_X12_330 (c_X12_isSign _ _ _ _ _ S g1094 a0 61 hs_a0 (by omega)) hs_a0 ⟨by decide, rfl⟩ kd45_23.2.2.2.2.2.2.2.2.1 rfl rfl (by simp [Value.category]) (by decide) (by decide) (by decide) (by decide) (fun r1130 S1132 g1131 pr1130 qr1130 hg1131 => ?_)
                obtain ⟨rfl, rfl, z1133, rfl, lz1133, uz1133⟩ := pr1130
                refine X_st [.int (iI z1133)] rfl ?_
                refine X_if_ne hK 173 (by omega) kd45_23.2.2.2.2.2.2.2.2.2.1 (by decide) (fun c1134 => ?_) (fun c1134 => ?_)
                · refine X_aloadn hK (i := 0) 1 kd45_24.2.2.2.2.2.2.1 rfl rfl ?_
                  refine X_geti hK fl_X12_274_13 hs_a0 sl_13_24 kd45_24.2.2.2.2.2.2.2.1 (fun z1135 ez1135 lz1135 uz1135 => ?_)
                  refine X_istoren hK (i := 2) [(2, .int (iI z1135)), (1, .int (iI z1082)), (0, .ref a0)] kd45_24.2.2.2.2.2.2.2.2.1 rfl (by decide) rfl ?_
                  refine X_aloadn hK (i := 0) 2 kd45_24.2.2.2.2.2.2.2.2.2.1 rfl rfl ?_
                  refine X_callV hK [] [] lk_X12_342 (c_X12_go _ _ _ _ _ S g1094 a0 hs_a0) hs_a0 ⟨by decide, rfl⟩ kd45_24.2.2.2.2.2.2.2.2.2.2.1 rfl rfl (by simp [Value.category]) (by decide) (by decide) (by decide) (by decide) (fun r1136 S1138 g1137 pr1136 qr1136 hg1137 => ?_)
                  obtain ⟨rfl, rfl⟩ := pr1136
                  refine X_st [] rfl ?_
                  refine X_aloadn hK (i := 0) 2 kd45_24.2.2.2.2.2.2.2.2.2.2.2 rfl rfl ?_
                  refine X_geti hK fl_X12_262_13 hs_a0 sl_13_22 kd45_25.1 (fun z1139 ez1139 lz1139 uz1139 => ?_)
                  refine X_iconst hK kd45_25.2.1 ?_
                  refine X_icmp_eq hK 196 (by omega) (by omega) kd45_25.2.2.1 (by decide) (fun c1140 => ?_) (fun c1140 => ?_)
                  · refine X_aloadn hK (i := 0) 2 kd45_25.2.2.2.2.2.2.2.1 rfl rfl ?_
                    refine X_iloadn hK (i := 1) 1 kd45_25.2.2.2.2.2.2.2.2.1 rfl rfl ?_
                    refine X_iloadn hK (i := 2) 0 kd45_25.2.2.2.2.2.2.2.2.2.1 rfl rfl ?_
                    refine X_aloadn hK (i := 0) 2 kd45_25.2.2.2.2.2.2.2.2.2.2.1 rfl rfl ?_
                    refine X_geti hK fl_X12_281_13 hs_a0 sl_13_23 kd45_25.2.2.2.2.2.2.2.2.2.2.2 (fun z1141 ez1141 lz1141 uz1141 => ?_)
                    refine X_callV hK [.int (iI z1082), .int (iI z1135), .int (iI z1141)] [] lk_X12_319 (c_X12_emit _ _ _ _ _ S g1137 a0 z1082 z1135 z1141 np wp hs_a0 (by omega) (by omega) (by omega) (by omega) ((hg1137 a0 13 0 41 hs_a0 (by decide)).trans ((hg1094 a0 13 0 41 hs_a0 (by decide)).trans ((xs_k hg1091 (by decide)).trans ((hg860 a0 13 0 41 hs_a0 (by decide)).trans enp)))) ((hg1137 a0 13 0 35 hs_a0 (by decide)).trans ((hg1094 a0 13 0 35 hs_a0 (by decide)).trans ((xs_k hg1091 (by decide)).trans ((hg860 a0 13 0 35 hs_a0 (by decide)).trans ewp)))) hs_wp) hs_a0 ⟨by decide, rfl⟩ kd45_26.1 rfl rfl (by simp [Value.category]) (by decide) (by decide) (by decide) (by decide) (fun r1142 S1144 g1143 pr1142 qr1142 hg1143 => ?_)
                    obtain ⟨rfl, rfl, k1145, k1146⟩ := pr1142
                    refine X_st [] rfl ?_
                    have uR1147 : xUp (xv g1143 wp) (xv g wp) (1200 + np) z1082 := (by have h9 := k1146; rw [(Eq.trans (Eq.trans (Eq.trans (xv_m hg1137 hs_wp (by decide) (by decide)) (xv_m hg1094 hs_wp (by decide) (by decide))) (xv_a hg1091 (xne hs_wp hs_a0 (by decide)))) (xv_m hg860 hs_wp (by decide) (by decide)))] at h9; exact h9)
                    have R1147 : xRd (xv g1143 wp) (xv g860 wl) F9 (np + 1) q861 (q862 + 1) q863 0 := xRd.atom v1076 (by omega) (by omega) uR1147
                    have hbR1147 := xRd.bd R1147 (by omega)
                    refine X_aloadn hK (i := 0) 2 kd45_26.2.1 rfl rfl ?_
                    refine X_callV hK [] [] lk_X12_342 (c_X12_go _ _ _ _ _ S g1143 a0 hs_a0) hs_a0 ⟨by decide, rfl⟩ kd45_26.2.2.1 rfl rfl (by simp [Value.category]) (by decide) (by decide) (by decide) (by decide) (fun r1148 S1150 g1149 pr1148 qr1148 hg1149 => ?_)
                    obtain ⟨rfl, rfl⟩ := pr1148
                    refine X_st [] rfl ?_
                    refine X_goto hK 213 kd45_26.2.2.2.1 (by decide) ?_
                    refine X_aloadn hK (i := 0) 2 kd45_26.2.2.2.2.1 rfl rfl ?_
                    refine X_callV hK [] [] lk_X12_345 (c_X12_dropNots _ _ _ _ _ S g1149 a0 (np + 1) q861 (q862 + 1) q863 wp wl F9 hs_a0 (by omega) ((hg1149 a0 13 0 41 hs_a0 (by decide)).trans k1145) (by omega) ((hg1149 a0 13 0 42 hs_a0 (by decide)).trans ((hg1143 a0 13 0 42 hs_a0 (by decide)).trans ((hg1137 a0 13 0 42 hs_a0 (by decide)).trans ((hg1094 a0 13 0 42 hs_a0 (by decide)).trans ((xs_k hg1091 (by decide)).trans eq861))))) (by omega) ((hg1149 a0 13 0 43 hs_a0 (by decide)).trans ((hg1143 a0 13 0 43 hs_a0 (by decide)).trans ((hg1137 a0 13 0 43 hs_a0 (by decide)).trans ((hg1094 a0 13 0 43 hs_a0 (by decide)).trans (xs_s hg1091))))) (by omega) ((hg1149 a0 13 0 44 hs_a0 (by decide)).trans ((hg1143 a0 13 0 44 hs_a0 (by decide)).trans ((hg1137 a0 13 0 44 hs_a0 (by decide)).trans ((hg1094 a0 13 0 44 hs_a0 (by decide)).trans ((xs_k hg1091 (by decide)).trans eq863))))) ((hg1149 a0 13 0 35 hs_a0 (by decide)).trans ((hg1143 a0 13 0 35 hs_a0 (by decide)).trans ((hg1137 a0 13 0 35 hs_a0 (by decide)).trans ((hg1094 a0 13 0 35 hs_a0 (by decide)).trans ((xs_k hg1091 (by decide)).trans ((hg860 a0 13 0 35 hs_a0 (by decide)).trans ewp)))))) hs_wp ((hg1149 a0 13 0 38 hs_a0 (by decide)).trans ((hg1143 a0 13 0 38 hs_a0 (by decide)).trans ((hg1137 a0 13 0 38 hs_a0 (by decide)).trans ((hg1094 a0 13 0 38 hs_a0 (by decide)).trans ((xs_k hg1091 (by decide)).trans ((hg860 a0 13 0 38 hs_a0 (by decide)).trans ewl)))))) hs_wl (by rw [(xv_m hg1149 hs_wp (by decide) (by decide)), (Eq.trans (Eq.trans (Eq.trans (Eq.trans (xv_m hg1149 hs_wl (by decide) (by decide)) (xv_m hg1143 hs_wl (by decide) (by decide))) (xv_m hg1137 hs_wl (by decide) (by decide))) (xv_m hg1094 hs_wl (by decide) (by decide))) (xv_a hg1091 (xne hs_wl hs_a0 (by decide))))]; exact R1147)) hs_a0 ⟨by decide, rfl⟩ kd45_26.2.2.2.2.2.1 rfl rfl (by simp [Value.category]) (by decide) (by decide) (by decide) (by decide) (fun r1151 S1153 g1152 pr1151 qr1151 hg1152 => ?_)
                    obtain ⟨rfl, rfl, k1154⟩ := pr1151
                    refine X_st [] rfl ?_
                    obtain ⟨z1155, z1156, z1157, ez1155, lz1155, uz1155, ez1156, lz1156, uz1156, ez1157, lz1157, uz1157, Rz1155, oz1155⟩ := k1154
                    have hbz1155 := xRd.bd Rz1155 (by omega)
                    refine X_iconst hK kd45_26.2.2.2.2.2.2.1 ?_
                    exact hret _ _ _ _ _ _ _ kd45_26.2.2.2.2.2.2.2 (by omega) (by omega) ⟨rfl, 1, rfl, (by omega), (by omega), ⟨z1155, z1156, z1157, (q862 + 1), ez1155, by omega, by omega, ez1156, by omega, by omega, ((hg1152 a0 13 0 43 hs_a0 (by decide)).trans ((hg1149 a0 13 0 43 hs_a0 (by decide)).trans ((hg1143 a0 13 0 43 hs_a0 (by decide)).trans ((hg1137 a0 13 0 43 hs_a0 (by decide)).trans ((hg1094 a0 13 0 43 hs_a0 (by decide)).trans (xs_s hg1091)))))), by omega, by omega, ez1157, by omega, by omega, (fun _ => ⟨(by rw [(xv_m hg1152 hs_wl (by decide) (by decide))]; exact Rz1155), by omega⟩), (xLow.tr (by rw [(xv_m hg1149 hs_wp (by decide) (by decide))]; exact (xLow.up xLow.rf uR1147 (by omega))) oz1155 (by omega))⟩⟩ (Nat.le_refl _) (Nat.le_refl _)
                  · refine X_aloadn hK (i := 0) 2 kd45_25.2.2.2.1 rfl rfl ?_
                    refine X_iconst hK kd45_25.2.2.2.2.1 ?_
                    refine X_callV hK [.int (iI 1)] [] lk_X12_333 (c2_bad _ _ _ _ _ S g1137 a0 1 hs_a0 (by omega)) hs_a0 ⟨by decide, rfl⟩ kd45_25.2.2.2.2.2.1 rfl rfl (by simp [Value.category]) (by decide) (by decide) (by decide) (by decide) (fun r1158 S1160 g1159 pr1158 qr1158 hg1159 => ?_)
                    obtain ⟨rfl, z1161, rfl, lz1161, uz1161, k1162⟩ := pr1158
                    refine X_st [.int (iI z1161)] rfl ?_
                    exact hret _ _ _ _ _ _ _ kd45_25.2.2.2.2.2.2.1 (by omega) (by omega) ⟨rfl, z1161, rfl, (by omega), (by omega), ⟨np, q861, q863, (q862 + 1), ((hg1159 a0 13 0 41 hs_a0 (by decide)).trans ((hg1137 a0 13 0 41 hs_a0 (by decide)).trans ((hg1094 a0 13 0 41 hs_a0 (by decide)).trans ((xs_k hg1091 (by decide)).trans ((hg860 a0 13 0 41 hs_a0 (by decide)).trans enp))))), by omega, by omega, ((hg1159 a0 13 0 42 hs_a0 (by decide)).trans ((hg1137 a0 13 0 42 hs_a0 (by decide)).trans ((hg1094 a0 13 0 42 hs_a0 (by decide)).trans ((xs_k hg1091 (by decide)).trans eq861)))), by omega, by omega, ((hg1159 a0 13 0 43 hs_a0 (by decide)).trans ((hg1137 a0 13 0 43 hs_a0 (by decide)).trans ((hg1094 a0 13 0 43 hs_a0 (by decide)).trans (xs_s hg1091)))), by omega, by omega, ((hg1159 a0 13 0 44 hs_a0 (by decide)).trans ((hg1137 a0 13 0 44 hs_a0 (by decide)).trans ((hg1094 a0 13 0 44 hs_a0 (by decide)).trans ((xs_k hg1091 (by decide)).trans eq863)))), by omega, by omega, (fun h => by omega), (by rw [(Eq.trans (Eq.trans (Eq.trans (Eq.trans (xv_m hg1159 hs_wp (by decide) (by decide)) (xv_m hg1137 hs_wp (by decide) (by decide))) (xv_m hg1094 hs_wp (by decide) (by decide))) (xv_a hg1091 (xne hs_wp hs_a0 (by decide)))) (xv_m hg860 hs_wp (by decide) (by decide)))]; exact xLow.rf)⟩⟩ (Nat.le_refl _) (Nat.le_refl _)
                · refine X_aloadn hK (i := 0) 1 kd45_23.2.2.2.2.2.2.2.2.2.2.1 rfl rfl ?_
                  refine X_bipush hK kd45_23.2.2.2.2.2.2.2.2.2.2.2 (by decide) ?_
                  refine X_callV hK [.int (iI 62)] [] lk_X12_330 (c_X12_isSign _ _ _ _ _ S g1094 a0 62 hs_a0 (by omega)) hs_a0 ⟨by decide, rfl⟩ kd45_24.1 rfl rfl (by simp [Value.category]) (by decide) (by decide) (by decide) (by decide) (fun r1163 S1165 g1164 pr1163 qr1163 hg1164 => ?_)
                  obtain ⟨rfl, rfl, z1166, rfl, lz1166, uz1166⟩ := pr1163
                  refine X_st [.int (iI z1166)] rfl ?_
                  refine X_if_ne hK 173 (by omega) kd45_24.2.1 (by decide) (fun c1167 => ?_) (fun c1167 => ?_)
                  · refine X_aloadn hK (i := 0) 1 kd45_24.2.2.2.2.2.2.1 rfl rfl ?_
                    refine X_geti hK fl_X12_274_13 hs_a0 sl_13_24 kd45_24.2.2.2.2.2.2.2.1 (fun z1168 ez1168 lz1168 uz1168 => ?_)
                    refine X_istoren hK (i := 2) [(2, .int (iI z1168)), (1, .int (iI z1082)), (0, .ref a0)] kd45_24.2.2.2.2.2.2.2.2.1 rfl (by decide) rfl ?_
                    refine X_aloadn hK (i := 0) 2 kd45_24.2.2.2.2.2.2.2.2.2.1 rfl rfl ?_
                    refine X_callV hK [] [] lk_X12_342 (c_X12_go _ _ _ _ _ S g1094 a0 hs_a0) hs_a0 ⟨by decide, rfl⟩ kd45_24.2.2.2.2.2.2.2.2.2.2.1 rfl rfl (by simp [Value.category]) (by decide) (by decide) (by decide) (by decide) (fun r1169 S1171 g1170 pr1169 qr1169 hg1170 => ?_)
                    obtain ⟨rfl, rfl⟩ := pr1169
                    refine X_st [] rfl ?_
                    refine X_aloadn hK (i := 0) 2 kd45_24.2.2.2.2.2.2.2.2.2.2.2 rfl rfl ?_
                    refine X_geti hK fl_X12_262_13 hs_a0 sl_13_22 kd45_25.1 (fun z1172 ez1172 lz1172 uz1172 => ?_)
                    refine X_iconst hK kd45_25.2.1 ?_
                    refine X_icmp_eq hK 196 (by omega) (by omega) kd45_25.2.2.1 (by decide) (fun c1173 => ?_) (fun c1173 => ?_)
                    · refine X_aloadn hK (i := 0) 2 kd45_25.2.2.2.2.2.2.2.1 rfl rfl ?_
                      refine X_iloadn hK (i := 1) 1 kd45_25.2.2.2.2.2.2.2.2.1 rfl rfl ?_
                      refine X_iloadn hK (i := 2) 0 kd45_25.2.2.2.2.2.2.2.2.2.1 rfl rfl ?_
                      refine X_aloadn hK (i := 0) 2 kd45_25.2.2.2.2.2.2.2.2.2.2.1 rfl rfl ?_
                      refine X_geti hK fl_X12_281_13 hs_a0 sl_13_23 kd45_25.2.2.2.2.2.2.2.2.2.2.2 (fun z1174 ez1174 lz1174 uz1174 => ?_)
                      refine X_callV hK [.int (iI z1082), .int (iI z1168), .int (iI z1174)] [] lk_X12_319 (c_X12_emit _ _ _ _ _ S g1170 a0 z1082 z1168 z1174 np wp hs_a0 (by omega) (by omega) (by omega) (by omega) ((hg1170 a0 13 0 41 hs_a0 (by decide)).trans ((hg1094 a0 13 0 41 hs_a0 (by decide)).trans ((xs_k hg1091 (by decide)).trans ((hg860 a0 13 0 41 hs_a0 (by decide)).trans enp)))) ((hg1170 a0 13 0 35 hs_a0 (by decide)).trans ((hg1094 a0 13 0 35 hs_a0 (by decide)).trans ((xs_k hg1091 (by decide)).trans ((hg860 a0 13 0 35 hs_a0 (by decide)).trans ewp)))) hs_wp) hs_a0 ⟨by decide, rfl⟩ kd45_26.1 rfl rfl (by simp [Value.category]) (by decide) (by decide) (by decide) (by decide) (fun r1175 S1177 g1176 pr1175 qr1175 hg1176 => ?_)
                      obtain ⟨rfl, rfl, k1178, k1179⟩ := pr1175
                      refine X_st [] rfl ?_
                      have uR1180 : xUp (xv g1176 wp) (xv g wp) (1200 + np) z1082 := (by have h9 := k1179; rw [(Eq.trans (Eq.trans (Eq.trans (xv_m hg1170 hs_wp (by decide) (by decide)) (xv_m hg1094 hs_wp (by decide) (by decide))) (xv_a hg1091 (xne hs_wp hs_a0 (by decide)))) (xv_m hg860 hs_wp (by decide) (by decide)))] at h9; exact h9)
                      have R1180 : xRd (xv g1176 wp) (xv g860 wl) F9 (np + 1) q861 (q862 + 1) q863 0 := xRd.atom v1076 (by omega) (by omega) uR1180
                      have hbR1180 := xRd.bd R1180 (by omega)
                      refine X_aloadn hK (i := 0) 2 kd45_26.2.1 rfl rfl ?_
                      refine X_callV hK [] [] lk_X12_342 (c_X12_go _ _ _ _ _ S g1176 a0 hs_a0) hs_a0 ⟨by decide, rfl⟩ kd45_26.2.2.1 rfl rfl (by simp [Value.category]) (by decide) (by decide) (by decide) (by decide) (fun r1181 S1183 g1182 pr1181 qr1181 hg1182 => ?_)
                      obtain ⟨rfl, rfl⟩ := pr1181
                      refine X_st [] rfl ?_
                      refine X_goto hK 213 kd45_26.2.2.2.1 (by decide) ?_
                      refine X_aloadn hK (i := 0) 2 kd45_26.2.2.2.2.1 rfl rfl ?_
                      refine X_callV hK [] [] lk_X12_345 (c_X12_dropNots _ _ _ _ _ S g1182 a0 (np + 1) q861 (q862 + 1) q863 wp wl F9 hs_a0 (by omega) ((hg1182 a0 13 0 41 hs_a0 (by decide)).trans k1178) (by omega) ((hg1182 a0 13 0 42 hs_a0 (by decide)).trans ((hg1176 a0 13 0 42 hs_a0 (by decide)).trans ((hg1170 a0 13 0 42 hs_a0 (by decide)).trans ((hg1094 a0 13 0 42 hs_a0 (by decide)).trans ((xs_k hg1091 (by decide)).trans eq861))))) (by omega) ((hg1182 a0 13 0 43 hs_a0 (by decide)).trans ((hg1176 a0 13 0 43 hs_a0 (by decide)).trans ((hg1170 a0 13 0 43 hs_a0 (by decide)).trans ((hg1094 a0 13 0 43 hs_a0 (by decide)).trans (xs_s hg1091))))) (by omega) ((hg1182 a0 13 0 44 hs_a0 (by decide)).trans ((hg1176 a0 13 0 44 hs_a0 (by decide)).trans ((hg1170 a0 13 0 44 hs_a0 (by decide)).trans ((hg1094 a0 13 0 44 hs_a0 (by decide)).trans ((xs_k hg1091 (by decide)).trans eq863))))) ((hg1182 a0 13 0 35 hs_a0 (by decide)).trans ((hg1176 a0 13 0 35 hs_a0 (by decide)).trans ((hg1170 a0 13 0 35 hs_a0 (by decide)).trans ((hg1094 a0 13 0 35 hs_a0 (by decide)).trans ((xs_k hg1091 (by decide)).trans ((hg860 a0 13 0 35 hs_a0 (by decide)).trans ewp)))))) hs_wp ((hg1182 a0 13 0 38 hs_a0 (by decide)).trans ((hg1176 a0 13 0 38 hs_a0 (by decide)).trans ((hg1170 a0 13 0 38 hs_a0 (by decide)).trans ((hg1094 a0 13 0 38 hs_a0 (by decide)).trans ((xs_k hg1091 (by decide)).trans ((hg860 a0 13 0 38 hs_a0 (by decide)).trans ewl)))))) hs_wl (by rw [(xv_m hg1182 hs_wp (by decide) (by decide)), (Eq.trans (Eq.trans (Eq.trans (Eq.trans (xv_m hg1182 hs_wl (by decide) (by decide)) (xv_m hg1176 hs_wl (by decide) (by decide))) (xv_m hg1170 hs_wl (by decide) (by decide))) (xv_m hg1094 hs_wl (by decide) (by decide))) (xv_a hg1091 (xne hs_wl hs_a0 (by decide))))]; exact R1180)) hs_a0 ⟨by decide, rfl⟩ kd45_26.2.2.2.2.2.1 rfl rfl (by simp [Value.category]) (by decide) (by decide) (by decide) (by decide) (fun r1184 S1186 g1185 pr1184 qr1184 hg1185 => ?_)
                      obtain ⟨rfl, rfl, k1187⟩ := pr1184
                      refine X_st [] rfl ?_
                      obtain ⟨z1188, z1189, z1190, ez1188, lz1188, uz1188, ez1189, lz1189, uz1189, ez1190, lz1190, uz1190, Rz1188, oz1188⟩ := k1187
                      have hbz1188 := xRd.bd Rz1188 (by omega)
                      refine X_iconst hK kd45_26.2.2.2.2.2.2.1 ?_
                      exact hret _ _ _ _ _ _ _ kd45_26.2.2.2.2.2.2.2 (by omega) (by omega) ⟨rfl, 1, rfl, (by omega), (by omega), ⟨z1188, z1189, z1190, (q862 + 1), ez1188, by omega, by omega, ez1189, by omega, by omega, ((hg1185 a0 13 0 43 hs_a0 (by decide)).trans ((hg1182 a0 13 0 43 hs_a0 (by decide)).trans ((hg1176 a0 13 0 43 hs_a0 (by decide)).trans ((hg1170 a0 13 0 43 hs_a0 (by decide)).trans ((hg1094 a0 13 0 43 hs_a0 (by decide)).trans (xs_s hg1091)))))), by omega, by omega, ez1190, by omega, by omega, (fun _ => ⟨(by rw [(xv_m hg1185 hs_wl (by decide) (by decide))]; exact Rz1188), by omega⟩), (xLow.tr (by rw [(xv_m hg1182 hs_wp (by decide) (by decide))]; exact (xLow.up xLow.rf uR1180 (by omega))) oz1188 (by omega))⟩⟩ (Nat.le_refl _) (Nat.le_refl _)
                    · refine X_aloadn hK (i := 0) 2 kd45_25.2.2.2.1 rfl rfl ?_
                      refine X_iconst hK kd45_25.2.2.2.2.1 ?_
                      refine X_callV hK [.int (iI 1)] [] lk_X12_333 (c2_bad _ _ _ _ _ S g1170 a0 1 hs_a0 (by omega)) hs_a0 ⟨by decide, rfl⟩ kd45_25.2.2.2.2.2.1 rfl rfl (by simp [Value.category]) (by decide) (by decide) (by decide) (by decide) (fun r1191 S1193 g1192 pr1191 qr1191 hg1192 => ?_)
                      obtain ⟨rfl, z1194, rfl, lz1194, uz1194, k1195⟩ := pr1191
                      refine X_st [.int (iI z1194)] rfl ?_
                      exact hret _ _ _ _ _ _ _ kd45_25.2.2.2.2.2.2.1 (by omega) (by omega) ⟨rfl, z1194, rfl, (by omega), (by omega), ⟨np, q861, q863, (q862 + 1), ((hg1192 a0 13 0 41 hs_a0 (by decide)).trans ((hg1170 a0 13 0 41 hs_a0 (by decide)).trans ((hg1094 a0 13 0 41 hs_a0 (by decide)).trans ((xs_k hg1091 (by decide)).trans ((hg860 a0 13 0 41 hs_a0 (by decide)).trans enp))))), by omega, by omega, ((hg1192 a0 13 0 42 hs_a0 (by decide)).trans ((hg1170 a0 13 0 42 hs_a0 (by decide)).trans ((hg1094 a0 13 0 42 hs_a0 (by decide)).trans ((xs_k hg1091 (by decide)).trans eq861)))), by omega, by omega, ((hg1192 a0 13 0 43 hs_a0 (by decide)).trans ((hg1170 a0 13 0 43 hs_a0 (by decide)).trans ((hg1094 a0 13 0 43 hs_a0 (by decide)).trans (xs_s hg1091)))), by omega, by omega, ((hg1192 a0 13 0 44 hs_a0 (by decide)).trans ((hg1170 a0 13 0 44 hs_a0 (by decide)).trans ((hg1094 a0 13 0 44 hs_a0 (by decide)).trans ((xs_k hg1091 (by decide)).trans eq863)))), by omega, by omega, (fun h => by omega), (by rw [(Eq.trans (Eq.trans (Eq.trans (Eq.trans (xv_m hg1192 hs_wp (by decide) (by decide)) (xv_m hg1170 hs_wp (by decide) (by decide))) (xv_m hg1094 hs_wp (by decide) (by decide))) (xv_a hg1091 (xne hs_wp hs_a0 (by decide)))) (xv_m hg860 hs_wp (by decide) (by decide)))]; exact xLow.rf)⟩⟩ (Nat.le_refl _) (Nat.le_refl _)
                  · refine X_aloadn hK (i := 0) 1 kd45_24.2.2.1 rfl rfl ?_
                    refine X_iconst hK kd45_24.2.2.2.1 ?_
                    refine X_callV hK [.int (iI 1)] [] lk_X12_333 (c2_bad _ _ _ _ _ S g1094 a0 1 hs_a0 (by omega)) hs_a0 ⟨by decide, rfl⟩ kd45_24.2.2.2.2.1 rfl rfl (by simp [Value.category]) (by decide) (by decide) (by decide) (by decide) (fun r1196 S1198 g1197 pr1196 qr1196 hg1197 => ?_)
                    obtain ⟨rfl, z1199, rfl, lz1199, uz1199, k1200⟩ := pr1196
                    refine X_st [.int (iI z1199)] rfl ?_
                    exact hret _ _ _ _ _ _ _ kd45_24.2.2.2.2.2.1 (by omega) (by omega) ⟨rfl, z1199, rfl, (by omega), (by omega), ⟨np, q861, q863, (q862 + 1), ((hg1197 a0 13 0 41 hs_a0 (by decide)).trans ((hg1094 a0 13 0 41 hs_a0 (by decide)).trans ((xs_k hg1091 (by decide)).trans ((hg860 a0 13 0 41 hs_a0 (by decide)).trans enp)))), by omega, by omega, ((hg1197 a0 13 0 42 hs_a0 (by decide)).trans ((hg1094 a0 13 0 42 hs_a0 (by decide)).trans ((xs_k hg1091 (by decide)).trans eq861))), by omega, by omega, ((hg1197 a0 13 0 43 hs_a0 (by decide)).trans ((hg1094 a0 13 0 43 hs_a0 (by decide)).trans (xs_s hg1091))), by omega, by omega, ((hg1197 a0 13 0 44 hs_a0 (by decide)).trans ((hg1094 a0 13 0 44 hs_a0 (by decide)).trans ((xs_k hg1091 (by decide)).trans eq863))), by omega, by omega, (fun h => by omega), (by rw [(Eq.trans (Eq.trans (Eq.trans (xv_m hg1197 hs_wp (by decide) (by decide)) (xv_m hg1094 hs_wp (by decide) (by decide))) (xv_a hg1091 (xne hs_wp hs_a0 (by decide)))) (xv_m hg860 hs_wp (by decide) (by decide)))]; exact xLow.rf)⟩⟩ (Nat.le_refl _) (Nat.le_refl _)
            · refine X_aloadn hK (i := 0) 1 kd45_22.2.2.2.2.2.2.2.2.1 rfl rfl ?_
              refine X_iloadn hK (i := 1) 0 kd45_22.2.2.2.2.2.2.2.2.2.1 rfl rfl ?_
              refine X_iconst hK kd45_22.2.2.2.2.2.2.2.2.2.2.1 ?_
              refine X_iconst hK kd45_22.2.2.2.2.2.2.2.2.2.2.2 ?_
              refine X_callV hK [.int (iI z1082), .int (iI 0), .int (iI 0)] [] lk_X12_319 (c_X12_emit _ _ _ _ _ S g1094 a0 z1082 0 0 np wp hs_a0 (by omega) (by omega) (by omega) (by omega) ((hg1094 a0 13 0 41 hs_a0 (by decide)).trans ((xs_k hg1091 (by decide)).trans ((hg860 a0 13 0 41 hs_a0 (by decide)).trans enp))) ((hg1094 a0 13 0 35 hs_a0 (by decide)).trans ((xs_k hg1091 (by decide)).trans ((hg860 a0 13 0 35 hs_a0 (by decide)).trans ewp))) hs_wp) hs_a0 ⟨by decide, rfl⟩ kd45_23.1 rfl rfl (by simp [Value.category]) (by decide) (by decide) (by decide) (by decide) (fun r1201 S1203 g1202 pr1201 qr1201 hg1202 => ?_)
              obtain ⟨rfl, rfl, k1204, k1205⟩ := pr1201
              refine X_st [] rfl ?_
              have uR1206 : xUp (xv g1202 wp) (xv g wp) (1200 + np) z1082 := (by have h9 := k1205; rw [(Eq.trans (Eq.trans (xv_m hg1094 hs_wp (by decide) (by decide)) (xv_a hg1091 (xne hs_wp hs_a0 (by decide)))) (xv_m hg860 hs_wp (by decide) (by decide)))] at h9; exact h9)
              have R1206 : xRd (xv g1202 wp) (xv g860 wl) F9 (np + 1) q861 (q862 + 1) q863 0 := xRd.atom v1076 (by omega) (by omega) uR1206
              have hbR1206 := xRd.bd R1206 (by omega)
              refine X_goto hK 213 kd45_23.2.1 (by decide) ?_
              refine X_aloadn hK (i := 0) 1 kd45_26.2.2.2.2.1 rfl rfl ?_
              refine X_callV hK [] [] lk_X12_345 (c_X12_dropNots _ _ _ _ _ S g1202 a0 (np + 1) q861 (q862 + 1) q863 wp wl F9 hs_a0 (by omega) k1204 (by omega) ((hg1202 a0 13 0 42 hs_a0 (by decide)).trans ((hg1094 a0 13 0 42 hs_a0 (by decide)).trans ((xs_k hg1091 (by decide)).trans eq861))) (by omega) ((hg1202 a0 13 0 43 hs_a0 (by decide)).trans ((hg1094 a0 13 0 43 hs_a0 (by decide)).trans (xs_s hg1091))) (by omega) ((hg1202 a0 13 0 44 hs_a0 (by decide)).trans ((hg1094 a0 13 0 44 hs_a0 (by decide)).trans ((xs_k hg1091 (by decide)).trans eq863))) ((hg1202 a0 13 0 35 hs_a0 (by decide)).trans ((hg1094 a0 13 0 35 hs_a0 (by decide)).trans ((xs_k hg1091 (by decide)).trans ((hg860 a0 13 0 35 hs_a0 (by decide)).trans ewp)))) hs_wp ((hg1202 a0 13 0 38 hs_a0 (by decide)).trans ((hg1094 a0 13 0 38 hs_a0 (by decide)).trans ((xs_k hg1091 (by decide)).trans ((hg860 a0 13 0 38 hs_a0 (by decide)).trans ewl)))) hs_wl (by rw [(Eq.trans (Eq.trans (xv_m hg1202 hs_wl (by decide) (by decide)) (xv_m hg1094 hs_wl (by decide) (by decide))) (xv_a hg1091 (xne hs_wl hs_a0 (by decide))))]; exact R1206)) hs_a0 ⟨by decide, rfl⟩ kd45_26.2.2.2.2.2.1 rfl rfl (by simp [Value.category]) (by decide) (by decide) (by decide) (by decide) (fun r1207 S1209 g1208 pr1207 qr1207 hg1208 => ?_)
              obtain ⟨rfl, rfl, k1210⟩ := pr1207
              refine X_st [] rfl ?_
              obtain ⟨z1211, z1212, z1213, ez1211, lz1211, uz1211, ez1212, lz1212, uz1212, ez1213, lz1213, uz1213, Rz1211, oz1211⟩ := k1210
              have hbz1211 := xRd.bd Rz1211 (by omega)
              refine X_iconst hK kd45_26.2.2.2.2.2.2.1 ?_
              exact hret _ _ _ _ _ _ _ kd45_26.2.2.2.2.2.2.2 (by omega) (by omega) ⟨rfl, 1, rfl, (by omega), (by omega), ⟨z1211, z1212, z1213, (q862 + 1), ez1211, by omega, by omega, ez1212, by omega, by omega, ((hg1208 a0 13 0 43 hs_a0 (by decide)).trans ((hg1202 a0 13 0 43 hs_a0 (by decide)).trans ((hg1094 a0 13 0 43 hs_a0 (by decide)).trans (xs_s hg1091)))), by omega, by omega, ez1213, by omega, by omega, (fun _ => ⟨(by rw [(xv_m hg1208 hs_wl (by decide) (by decide))]; exact Rz1211), by omega⟩), (xLow.tr (xLow.up xLow.rf uR1206 (by omega)) oz1211 (by omega))⟩⟩ (Nat.le_refl _) (Nat.le_refl _)
          · refine X_aloadn hK (i := 0) 1 kd45_19.1 rfl rfl ?_
            refine X_iconst hK kd45_19.2.1 ?_
            refine X_callV hK [.int (iI 4)] [] lk_X12_333 (c2_bad _ _ _ _ _ S g860 a0 4 hs_a0 (by omega)) hs_a0 ⟨by decide, rfl⟩ kd45_19.2.2.1 rfl rfl (by simp [Value.category]) (by decide) (by decide) (by decide) (by decide) (fun r1214 S1216 g1215 pr1214 qr1214 hg1215 => ?_)
            obtain ⟨rfl, z1217, rfl, lz1217, uz1217, k1218⟩ := pr1214
            refine X_st [.int (iI z1217)] rfl ?_
            exact hret _ _ _ _ _ _ _ kd45_19.2.2.2.1 (by omega) (by omega) ⟨rfl, z1217, rfl, (by omega), (by omega), ⟨np, q861, q863, q862, ((hg1215 a0 13 0 41 hs_a0 (by decide)).trans ((hg860 a0 13 0 41 hs_a0 (by decide)).trans enp)), by omega, by omega, ((hg1215 a0 13 0 42 hs_a0 (by decide)).trans eq861), by omega, by omega, ((hg1215 a0 13 0 43 hs_a0 (by decide)).trans eq862), by omega, by omega, ((hg1215 a0 13 0 44 hs_a0 (by decide)).trans eq863), by omega, by omega, (fun h => by omega), (by rw [(Eq.trans (xv_m hg1215 hs_wp (by decide) (by decide)) (xv_m hg860 hs_wp (by decide) (by decide)))]; exact xLow.rf)⟩⟩ (Nat.le_refl _) (Nat.le_refl _)
      · refine X_aloadn hK (i := 0) 1 kd45_17.2.2.2.2.2.1 rfl rfl ?_
        refine X_callV hK [] [] lk_X12_326 (c_X12_isNot _ _ _ _ _ S g860 a0 hs_a0) hs_a0 ⟨by decide, rfl⟩ kd45_17.2.2.2.2.2.2.1 rfl rfl (by simp [Value.category]) (by decide) (by decide) (by decide) (by decide) (fun r1219 S1221 g1220 pr1219 qr1219 hg1220 => ?_)
        obtain ⟨rfl, rfl, z1222, rfl, lz1222, uz1222⟩ := pr1219
        refine X_st [.int (iI z1222)] rfl ?_
        refine X_if_ne hK 32 (by omega) kd45_17.2.2.2.2.2.2.2.1 (by decide) (fun c1223 => ?_) (fun c1223 => ?_)
        · refine X_aloadn hK (i := 0) 1 kd45_18.2.2.2.2.1 rfl rfl ?_
          refine X_getK hK fl_X12_336_13 hs_a0 eq862 kd45_18.2.2.2.2.2.1 ?_
          refine X_bipush hK kd45_18.2.2.2.2.2.2.1 (by decide) ?_
          refine X_icmp_eq hK 50 (by omega) (by omega) kd45_18.2.2.2.2.2.2.2.1 (by decide) (fun c1224 => ?_) (fun c1224 => ?_)
          · refine X_aloadn hK (i := 0) 1 kd45_19.1 rfl rfl ?_
            refine X_iconst hK kd45_19.2.1 ?_
            refine X_callV hK [.int (iI 4)] [] lk_X12_333 (c2_bad _ _ _ _ _ S g860 a0 4 hs_a0 (by omega)) hs_a0 ⟨by decide, rfl⟩ kd45_19.2.2.1 rfl rfl (by simp [Value.category]) (by decide) (by decide) (by decide) (by decide) (fun r1225 S1227 g1226 pr1225 qr1225 hg1226 => ?_)
            obtain ⟨rfl, z1228, rfl, lz1228, uz1228, k1229⟩ := pr1225
            refine X_st [.int (iI z1228)] rfl ?_
            exact hret _ _ _ _ _ _ _ kd45_19.2.2.2.1 (by omega) (by omega) ⟨rfl, z1228, rfl, (by omega), (by omega), ⟨np, q861, q863, q862, ((hg1226 a0 13 0 41 hs_a0 (by decide)).trans ((hg860 a0 13 0 41 hs_a0 (by decide)).trans enp)), by omega, by omega, ((hg1226 a0 13 0 42 hs_a0 (by decide)).trans eq861), by omega, by omega, ((hg1226 a0 13 0 43 hs_a0 (by decide)).trans eq862), by omega, by omega, ((hg1226 a0 13 0 44 hs_a0 (by decide)).trans eq863), by omega, by omega, (fun h => by omega), (by rw [(Eq.trans (xv_m hg1226 hs_wp (by decide) (by decide)) (xv_m hg860 hs_wp (by decide) (by decide)))]; exact xLow.rf)⟩⟩ (Nat.le_refl _) (Nat.le_refl _)
          · refine X_aloadn hK (i := 0) 1 kd45_18.2.2.2.2.2.2.2.2.1 rfl rfl ?_
            refine X_getK hK fl_X12_339_13 hs_a0 eq863 kd45_18.2.2.2.2.2.2.2.2.2.1 ?_
            refine X_bipush hK kd45_18.2.2.2.2.2.2.2.2.2.2.1 (by decide) ?_
            refine X_icmp_ne hK 56 (by omega) (by omega) kd45_18.2.2.2.2.2.2.2.2.2.2.2 (by decide) (fun c1230 => ?_) (fun c1230 => ?_)
            · refine X_aloadn hK (i := 0) 1 kd45_19.2.2.2.2.1 rfl rfl ?_
              refine X_dup hK kd45_19.2.2.2.2.2.1 rfl ?_
              refine X_getK hK fl_X12_336_13 hs_a0 eq862 kd45_19.2.2.2.2.2.2.1 ?_
              refine X_iconst hK kd45_19.2.2.2.2.2.2.2.1 ?_
              refine X_iadd hK kd45_19.2.2.2.2.2.2.2.2.1 ?_
              refine X_puti hK fl_X12_336_13 hs_a0 (by decide) sl_13_43 (by omega) (by omega) kd45_19.2.2.2.2.2.2.2.2.2.1 (fun g1231 hg1231 => ?_)
              refine X_iloadn hK (i := 1) 0 kd45_19.2.2.2.2.2.2.2.2.2.2.1 rfl rfl ?_
              refine X_iconst hK kd45_19.2.2.2.2.2.2.2.2.2.2.2 ?_
              refine X_icmp_ne hK 121 (by omega) (by omega) kd45_20.1 (by decide) (fun c1232 => False.elim (by omega)) (fun c1232 => ?_)
              refine X_aloadn hK (i := 0) 1 kd45_20.2.1 rfl rfl ?_
              refine X_dup hK kd45_20.2.2.1 rfl ?_
              refine X_getK hK fl_X12_339_13 hs_a0 ((xs_k hg1231 (by decide)).trans eq863) kd45_20.2.2.2.1 ?_
              refine X_iconst hK kd45_20.2.2.2.2.1 ?_
              refine X_iadd hK kd45_20.2.2.2.2.2.1 ?_
              refine X_puti hK fl_X12_339_13 hs_a0 (by decide) sl_13_44 (by omega) (by omega) kd45_20.2.2.2.2.2.2.1 (fun g1233 hg1233 => ?_)
              refine X_aloadn hK (i := 0) 1 kd45_20.2.2.2.2.2.2.2.1 rfl rfl ?_
              refine X_getK hK fl_X12_77_13 hs_a0 ((xs_k hg1233 (by decide)).trans ((xs_k hg1231 (by decide)).trans ((hg860 a0 13 0 38 hs_a0 (by decide)).trans ewl))) kd45_20.2.2.2.2.2.2.2.2.1 ?_
              refine X_aloadn hK (i := 0) 1 kd45_20.2.2.2.2.2.2.2.2.2.1 rfl rfl ?_
              refine X_getK hK fl_X12_316_13 hs_a0 ((xs_k hg1233 (by decide)).trans ((xs_k hg1231 (by decide)).trans eq861)) kd45_20.2.2.2.2.2.2.2.2.2.2.1 ?_
              refine X_aloadn hK (i := 0) 1 kd45_20.2.2.2.2.2.2.2.2.2.2.2 rfl rfl ?_
              refine X_callV hK [] [.int (iI q861), .ref wl] lk_X12_326 (c_X12_isNot _ _ _ _ _ S g1233 a0 hs_a0) hs_a0 ⟨by decide, rfl⟩ kd45_21.1 rfl rfl (by simp [Value.category]) (by decide) (by decide) (by decide) (by decide) (fun r1234 S1236 g1235 pr1234 qr1234 hg1235 => ?_)
              obtain ⟨rfl, rfl, z1237, rfl, lz1237, uz1237⟩ := pr1234
              refine X_st [.int (iI z1237), .int (iI q861), .ref wl] rfl ?_
              refine X_if_eq hK 101 (by omega) kd45_21.2.1 (by decide) (fun c1238 => ?_) (fun c1238 => ?_)
              · refine X_bipush hK kd45_21.2.2.2.2.1 (by decide) ?_
                refine X_iast hK hs_wl (by decide) (by decide) sl_16200 (by omega) (by omega) (by omega) (by omega) kd45_21.2.2.2.2.2.1 (fun g1239 hg1239 => ?_)
                refine X_aloadn hK (i := 0) 1 kd45_21.2.2.2.2.2.2.1 rfl rfl ?_
                refine X_dup hK kd45_21.2.2.2.2.2.2.2.1 rfl ?_
                refine X_getK hK fl_X12_316_13 hs_a0 ((xs_a hg1239 (xne hs_a0 hs_wl (by decide))).trans ((xs_k hg1233 (by decide)).trans ((xs_k hg1231 (by decide)).trans eq861))) kd45_21.2.2.2.2.2.2.2.2.1 ?_
                refine X_iconst hK kd45_21.2.2.2.2.2.2.2.2.2.1 ?_
                refine X_iadd hK kd45_21.2.2.2.2.2.2.2.2.2.2.1 ?_
                refine X_puti hK fl_X12_316_13 hs_a0 (by decide) sl_13_42 (by omega) (by omega) kd45_21.2.2.2.2.2.2.2.2.2.2.2 (fun g1240 hg1240 => ?_)
                refine X_aloadn hK (i := 0) 1 kd45_22.1 rfl rfl ?_
                refine X_callV hK [] [] lk_X12_342 (c_X12_go _ _ _ _ _ S g1240 a0 hs_a0) hs_a0 ⟨by decide, rfl⟩ kd45_22.2.1 rfl rfl (by simp [Value.category]) (by decide) (by decide) (by decide) (by decide) (fun r1241 S1243 g1242 pr1241 qr1241 hg1242 => ?_)
                obtain ⟨rfl, rfl⟩ := pr1241
                refine X_st [] rfl ?_
                refine X_goto hK 0 kd45_22.2.2.1 (by decide) ?_
                refine X_lv [(0, .ref a0)] [1] rfl ?_
                exact ihP1075  g1242 (xM.tr (xM_up (xM_ua (xM_up (xM_up (xM.tr xM.rf xLe.rf hg860 (by decide)) hg1231 hs_a0 (by decide) (by decide)) hg1233 hs_a0 (by decide) (by decide)) hg1239 hs_wl (by decide) (by decide)) hg1240 hs_a0 (by decide) (by decide)) xLe.rf hg1242 (by decide)) (q861 + 1) (by omega) (by omega) ((hg1242 a0 13 0 42 hs_a0 (by decide)).trans (xs_s hg1240)) (q862 + 1) (by omega) (by omega) ((hg1242 a0 13 0 43 hs_a0 (by decide)).trans ((xs_k hg1240 (by decide)).trans ((xs_a hg1239 (xne hs_a0 hs_wl (by decide))).trans ((xs_k hg1233 (by decide)).trans (xs_s hg1231))))) (q863 + 1) (by omega) (by omega) ((hg1242 a0 13 0 44 hs_a0 (by decide)).trans ((xs_k hg1240 (by decide)).trans ((xs_a hg1239 (xne hs_a0 hs_wl (by decide))).trans (xs_s hg1233)))) (xRd.push v1076 (by omega) (by omega) (by have h9 := (show xv g1242 wl q861 = 15 from by rw [(xv_m hg1242 hs_wl (by decide) (by decide)), (xv_a hg1240 (xne hs_wl hs_a0 (by decide))), xv_s hg1239 (by omega)]); omega) (fun i9 hi9 h09 => (show xv g1242 wl i9 = xv g860 wl i9 from by rw [(xv_m hg1242 hs_wl (by decide) (by decide)), (xv_a hg1240 (xne hs_wl hs_a0 (by decide))), (xv_k (i := i9) hg1239 (by omega) (by omega) (by omega)), (xv_a hg1233 (xne hs_wl hs_a0 (by decide))), (xv_a hg1231 (xne hs_wl hs_a0 (by decide)))]))) (by omega) (by omega)
              · refine X_bipush hK kd45_21.2.2.1 (by decide) ?_
                refine X_goto hK 103 kd45_21.2.2.2.1 (by decide) ?_
                refine X_iast hK hs_wl (by decide) (by decide) sl_16200 (by omega) (by omega) (by omega) (by omega) kd45_21.2.2.2.2.2.1 (fun g1244 hg1244 => ?_)
                refine X_aloadn hK (i := 0) 1 kd45_21.2.2.2.2.2.2.1 rfl rfl ?_
                refine X_dup hK kd45_21.2.2.2.2.2.2.2.1 rfl ?_
                refine X_getK hK fl_X12_316_13 hs_a0 ((xs_a hg1244 (xne hs_a0 hs_wl (by decide))).trans ((xs_k hg1233 (by decide)).trans ((xs_k hg1231 (by decide)).trans eq861))) kd45_21.2.2.2.2.2.2.2.2.1 ?_
                refine X_iconst hK kd45_21.2.2.2.2.2.2.2.2.2.1 ?_
                refine X_iadd hK kd45_21.2.2.2.2.2.2.2.2.2.2.1 ?_
                refine X_puti hK fl_X12_316_13 hs_a0 (by decide) sl_13_42 (by omega) (by omega) kd45_21.2.2.2.2.2.2.2.2.2.2.2 (fun g1245 hg1245 => ?_)
                refine X_aloadn hK (i := 0) 1 kd45_22.1 rfl rfl ?_
                refine X_callV hK [] [] lk_X12_342 (c_X12_go _ _ _ _ _ S g1245 a0 hs_a0) hs_a0 ⟨by decide, rfl⟩ kd45_22.2.1 rfl rfl (by simp [Value.category]) (by decide) (by decide) (by decide) (by decide) (fun r1246 S1248 g1247 pr1246 qr1246 hg1247 => ?_)
                obtain ⟨rfl, rfl⟩ := pr1246
                refine X_st [] rfl ?_
                refine X_goto hK 0 kd45_22.2.2.1 (by decide) ?_
                refine X_lv [(0, .ref a0)] [1] rfl ?_
                exact ihP1075  g1247 (xM.tr (xM_up (xM_ua (xM_up (xM_up (xM.tr xM.rf xLe.rf hg860 (by decide)) hg1231 hs_a0 (by decide) (by decide)) hg1233 hs_a0 (by decide) (by decide)) hg1244 hs_wl (by decide) (by decide)) hg1245 hs_a0 (by decide) (by decide)) xLe.rf hg1247 (by decide)) (q861 + 1) (by omega) (by omega) ((hg1247 a0 13 0 42 hs_a0 (by decide)).trans (xs_s hg1245)) (q862 + 1) (by omega) (by omega) ((hg1247 a0 13 0 43 hs_a0 (by decide)).trans ((xs_k hg1245 (by decide)).trans ((xs_a hg1244 (xne hs_a0 hs_wl (by decide))).trans ((xs_k hg1233 (by decide)).trans (xs_s hg1231))))) (q863 + 1) (by omega) (by omega) ((hg1247 a0 13 0 44 hs_a0 (by decide)).trans ((xs_k hg1245 (by decide)).trans ((xs_a hg1244 (xne hs_a0 hs_wl (by decide))).trans (xs_s hg1233)))) (xRd.push v1076 (by omega) (by omega) (by have h9 := (show xv g1247 wl q861 = 12 from by rw [(xv_m hg1247 hs_wl (by decide) (by decide)), (xv_a hg1245 (xne hs_wl hs_a0 (by decide))), xv_s hg1244 (by omega)]); omega) (fun i9 hi9 h09 => (show xv g1247 wl i9 = xv g860 wl i9 from by rw [(xv_m hg1247 hs_wl (by decide) (by decide)), (xv_a hg1245 (xne hs_wl hs_a0 (by decide))), (xv_k (i := i9) hg1244 (by omega) (by omega) (by omega)), (xv_a hg1233 (xne hs_wl hs_a0 (by decide))), (xv_a hg1231 (xne hs_wl hs_a0 (by decide)))]))) (by omega) (by omega)
            · refine X_aloadn hK (i := 0) 1 kd45_19.1 rfl rfl ?_
              refine X_iconst hK kd45_19.2.1 ?_
              refine X_callV hK [.int (iI 4)] [] lk_X12_333 (c2_bad _ _ _ _ _ S g860 a0 4 hs_a0 (by omega)) hs_a0 ⟨by decide, rfl⟩ kd45_19.2.2.1 rfl rfl (by simp [Value.category]) (by decide) (by decide) (by decide) (by decide) (fun r1249 S1251 g1250 pr1249 qr1249 hg1250 => ?_)
              obtain ⟨rfl, z1252, rfl, lz1252, uz1252, k1253⟩ := pr1249
              refine X_st [.int (iI z1252)] rfl ?_
              exact hret _ _ _ _ _ _ _ kd45_19.2.2.2.1 (by omega) (by omega) ⟨rfl, z1252, rfl, (by omega), (by omega), ⟨np, q861, q863, q862, ((hg1250 a0 13 0 41 hs_a0 (by decide)).trans ((hg860 a0 13 0 41 hs_a0 (by decide)).trans enp)), by omega, by omega, ((hg1250 a0 13 0 42 hs_a0 (by decide)).trans eq861), by omega, by omega, ((hg1250 a0 13 0 43 hs_a0 (by decide)).trans eq862), by omega, by omega, ((hg1250 a0 13 0 44 hs_a0 (by decide)).trans eq863), by omega, by omega, (fun h => by omega), (by rw [(Eq.trans (xv_m hg1250 hs_wp (by decide) (by decide)) (xv_m hg860 hs_wp (by decide) (by decide)))]; exact xLow.rf)⟩⟩ (Nat.le_refl _) (Nat.le_refl _)
        · refine X_aloadn hK (i := 0) 1 kd45_17.2.2.2.2.2.2.2.2.1 rfl rfl ?_
          refine X_bipush hK kd45_17.2.2.2.2.2.2.2.2.2.1 (by decide) ?_
          refine X_callV hK [.int (iI 40)] [] lk_X12_330 (c_X12_isSign _ _ _ _ _ S g860 a0 40 hs_a0 (by omega)) hs_a0 ⟨by decide, rfl⟩ kd45_17.2.2.2.2.2.2.2.2.2.2.1 rfl rfl (by simp [Value.category]) (by decide) (by decide) (by decide) (by decide) (fun r1254 S1256 g1255 pr1254 qr1254 hg1255 => ?_)
          obtain ⟨rfl, rfl, z1257, rfl, lz1257, uz1257⟩ := pr1254
          refine X_st [.int (iI z1257)] rfl ?_
          refine X_if_ne hK 32 (by omega) kd45_17.2.2.2.2.2.2.2.2.2.2.2 (by decide) (fun c1258 => ?_) (fun c1258 => ?_)
          · refine X_aloadn hK (i := 0) 1 kd45_18.2.2.2.2.1 rfl rfl ?_
            refine X_getK hK fl_X12_336_13 hs_a0 eq862 kd45_18.2.2.2.2.2.1 ?_
            refine X_bipush hK kd45_18.2.2.2.2.2.2.1 (by decide) ?_
            refine X_icmp_eq hK 50 (by omega) (by omega) kd45_18.2.2.2.2.2.2.2.1 (by decide) (fun c1259 => ?_) (fun c1259 => ?_)
            · refine X_aloadn hK (i := 0) 1 kd45_19.1 rfl rfl ?_
              refine X_iconst hK kd45_19.2.1 ?_
              refine X_callV hK [.int (iI 4)] [] lk_X12_333 (c2_bad _ _ _ _ _ S g860 a0 4 hs_a0 (by omega)) hs_a0 ⟨by decide, rfl⟩ kd45_19.2.2.1 rfl rfl (by simp [Value.category]) (by decide) (by decide) (by decide) (by decide) (fun r1260 S1262 g1261 pr1260 qr1260 hg1261 => ?_)
              obtain ⟨rfl, z1263, rfl, lz1263, uz1263, k1264⟩ := pr1260
              refine X_st [.int (iI z1263)] rfl ?_
              exact hret _ _ _ _ _ _ _ kd45_19.2.2.2.1 (by omega) (by omega) ⟨rfl, z1263, rfl, (by omega), (by omega), ⟨np, q861, q863, q862, ((hg1261 a0 13 0 41 hs_a0 (by decide)).trans ((hg860 a0 13 0 41 hs_a0 (by decide)).trans enp)), by omega, by omega, ((hg1261 a0 13 0 42 hs_a0 (by decide)).trans eq861), by omega, by omega, ((hg1261 a0 13 0 43 hs_a0 (by decide)).trans eq862), by omega, by omega, ((hg1261 a0 13 0 44 hs_a0 (by decide)).trans eq863), by omega, by omega, (fun h => by omega), (by rw [(Eq.trans (xv_m hg1261 hs_wp (by decide) (by decide)) (xv_m hg860 hs_wp (by decide) (by decide)))]; exact xLow.rf)⟩⟩ (Nat.le_refl _) (Nat.le_refl _)
            · refine X_aloadn hK (i := 0) 1 kd45_18.2.2.2.2.2.2.2.2.1 rfl rfl ?_
              refine X_getK hK fl_X12_339_13 hs_a0 eq863 kd45_18.2.2.2.2.2.2.2.2.2.1 ?_
              refine X_bipush hK kd45_18.2.2.2.2.2.2.2.2.2.2.1 (by decide) ?_
              refine X_icmp_ne hK 56 (by omega) (by omega) kd45_18.2.2.2.2.2.2.2.2.2.2.2 (by decide) (fun c1265 => ?_) (fun c1265 => ?_)
              · refine X_aloadn hK (i := 0) 1 kd45_19.2.2.2.2.1 rfl rfl ?_
                refine X_dup hK kd45_19.2.2.2.2.2.1 rfl ?_
                refine X_getK hK fl_X12_336_13 hs_a0 eq862 kd45_19.2.2.2.2.2.2.1 ?_
                refine X_iconst hK kd45_19.2.2.2.2.2.2.2.1 ?_
                refine X_iadd hK kd45_19.2.2.2.2.2.2.2.2.1 ?_
                refine X_puti hK fl_X12_336_13 hs_a0 (by decide) sl_13_43 (by omega) (by omega) kd45_19.2.2.2.2.2.2.2.2.2.1 (fun g1266 hg1266 => ?_)
                refine X_iloadn hK (i := 1) 0 kd45_19.2.2.2.2.2.2.2.2.2.2.1 rfl rfl ?_
                refine X_iconst hK kd45_19.2.2.2.2.2.2.2.2.2.2.2 ?_
                refine X_icmp_ne hK 121 (by omega) (by omega) kd45_20.1 (by decide) (fun c1267 => False.elim (by omega)) (fun c1267 => ?_)
                refine X_aloadn hK (i := 0) 1 kd45_20.2.1 rfl rfl ?_
                refine X_dup hK kd45_20.2.2.1 rfl ?_
                refine X_getK hK fl_X12_339_13 hs_a0 ((xs_k hg1266 (by decide)).trans eq863) kd45_20.2.2.2.1 ?_
                refine X_iconst hK kd45_20.2.2.2.2.1 ?_
                refine X_iadd hK kd45_20.2.2.2.2.2.1 ?_
                refine X_puti hK fl_X12_339_13 hs_a0 (by decide) sl_13_44 (by omega) (by omega) kd45_20.2.2.2.2.2.2.1 (fun g1268 hg1268 => ?_)
                refine X_aloadn hK (i := 0) 1 kd45_20.2.2.2.2.2.2.2.1 rfl rfl ?_
                refine X_getK hK fl_X12_77_13 hs_a0 ((xs_k hg1268 (by decide)).trans ((xs_k hg1266 (by decide)).trans ((hg860 a0 13 0 38 hs_a0 (by decide)).trans ewl))) kd45_20.2.2.2.2.2.2.2.2.1 ?_
                refine X_aloadn hK (i := 0) 1 kd45_20.2.2.2.2.2.2.2.2.2.1 rfl rfl ?_
                refine X_getK hK fl_X12_316_13 hs_a0 ((xs_k hg1268 (by decide)).trans ((xs_k hg1266 (by decide)).trans eq861)) kd45_20.2.2.2.2.2.2.2.2.2.2.1 ?_
                refine X_aloadn hK (i := 0) 1 kd45_20.2.2.2.2.2.2.2.2.2.2.2 rfl rfl ?_
                refine X_callV hK [] [.int (iI q861), .ref wl] lk_X12_326 (c_X12_isNot _ _ _ _ _ S g1268 a0 hs_a0) hs_a0 ⟨by decide, rfl⟩ kd45_21.1 rfl rfl (by simp [Value.category]) (by decide) (by decide) (by decide) (by decide) (fun r1269 S1271 g1270 pr1269 qr1269 hg1270 => ?_)
                obtain ⟨rfl, rfl, z1272, rfl, lz1272, uz1272⟩ := pr1269
                refine X_st [.int (iI z1272), .int (iI q861), .ref wl] rfl ?_
                refine X_if_eq hK 101 (by omega) kd45_21.2.1 (by decide) (fun c1273 => ?_) (fun c1273 => ?_)
                · refine X_bipush hK kd45_21.2.2.2.2.1 (by decide) ?_
                  refine X_iast hK hs_wl (by decide) (by decide) sl_16200 (by omega) (by omega) (by omega) (by omega) kd45_21.2.2.2.2.2.1 (fun g1274 hg1274 => ?_)
                  refine X_aloadn hK (i := 0) 1 kd45_21.2.2.2.2.2.2.1 rfl rfl ?_
                  refine X_dup hK kd45_21.2.2.2.2.2.2.2.1 rfl ?_
                  refine X_getK hK fl_X12_316_13 hs_a0 ((xs_a hg1274 (xne hs_a0 hs_wl (by decide))).trans ((xs_k hg1268 (by decide)).trans ((xs_k hg1266 (by decide)).trans eq861))) kd45_21.2.2.2.2.2.2.2.2.1 ?_
                  refine X_iconst hK kd45_21.2.2.2.2.2.2.2.2.2.1 ?_
                  refine X_iadd hK kd45_21.2.2.2.2.2.2.2.2.2.2.1 ?_
                  refine X_puti hK fl_X12_316_13 hs_a0 (by decide) sl_13_42 (by omega) (by omega) kd45_21.2.2.2.2.2.2.2.2.2.2.2 (fun g1275 hg1275 => ?_)
                  refine X_aloadn hK (i := 0) 1 kd45_22.1 rfl rfl ?_
                  refine X_callV hK [] [] lk_X12_342 (c_X12_go _ _ _ _ _ S g1275 a0 hs_a0) hs_a0 ⟨by decide, rfl⟩ kd45_22.2.1 rfl rfl (by simp [Value.category]) (by decide) (by decide) (by decide) (by decide) (fun r1276 S1278 g1277 pr1276 qr1276 hg1277 => ?_)
                  obtain ⟨rfl, rfl⟩ := pr1276
                  refine X_st [] rfl ?_
                  refine X_goto hK 0 kd45_22.2.2.1 (by decide) ?_
                  refine X_lv [(0, .ref a0)] [1] rfl ?_
                  exact ihP1075  g1277 (xM.tr (xM_up (xM_ua (xM_up (xM_up (xM.tr xM.rf xLe.rf hg860 (by decide)) hg1266 hs_a0 (by decide) (by decide)) hg1268 hs_a0 (by decide) (by decide)) hg1274 hs_wl (by decide) (by decide)) hg1275 hs_a0 (by decide) (by decide)) xLe.rf hg1277 (by decide)) (q861 + 1) (by omega) (by omega) ((hg1277 a0 13 0 42 hs_a0 (by decide)).trans (xs_s hg1275)) (q862 + 1) (by omega) (by omega) ((hg1277 a0 13 0 43 hs_a0 (by decide)).trans ((xs_k hg1275 (by decide)).trans ((xs_a hg1274 (xne hs_a0 hs_wl (by decide))).trans ((xs_k hg1268 (by decide)).trans (xs_s hg1266))))) (q863 + 1) (by omega) (by omega) ((hg1277 a0 13 0 44 hs_a0 (by decide)).trans ((xs_k hg1275 (by decide)).trans ((xs_a hg1274 (xne hs_a0 hs_wl (by decide))).trans (xs_s hg1268)))) (xRd.push v1076 (by omega) (by omega) (by have h9 := (show xv g1277 wl q861 = 15 from by rw [(xv_m hg1277 hs_wl (by decide) (by decide)), (xv_a hg1275 (xne hs_wl hs_a0 (by decide))), xv_s hg1274 (by omega)]); omega) (fun i9 hi9 h09 => (show xv g1277 wl i9 = xv g860 wl i9 from by rw [(xv_m hg1277 hs_wl (by decide) (by decide)), (xv_a hg1275 (xne hs_wl hs_a0 (by decide))), (xv_k (i := i9) hg1274 (by omega) (by omega) (by omega)), (xv_a hg1268 (xne hs_wl hs_a0 (by decide))), (xv_a hg1266 (xne hs_wl hs_a0 (by decide)))]))) (by omega) (by omega)
                · refine X_bipush hK kd45_21.2.2.1 (by decide) ?_
                  refine X_goto hK 103 kd45_21.2.2.2.1 (by decide) ?_
                  refine X_iast hK hs_wl (by decide) (by decide) sl_16200 (by omega) (by omega) (by omega) (by omega) kd45_21.2.2.2.2.2.1 (fun g1279 hg1279 => ?_)
                  refine X_aloadn hK (i := 0) 1 kd45_21.2.2.2.2.2.2.1 rfl rfl ?_
                  refine X_dup hK kd45_21.2.2.2.2.2.2.2.1 rfl ?_
                  refine X_getK hK fl_X12_316_13 hs_a0 ((xs_a hg1279 (xne hs_a0 hs_wl (by decide))).trans ((xs_k hg1268 (by decide)).trans ((xs_k hg1266 (by decide)).trans eq861))) kd45_21.2.2.2.2.2.2.2.2.1 ?_
                  refine X_iconst hK kd45_21.2.2.2.2.2.2.2.2.2.1 ?_
                  refine X_iadd hK kd45_21.2.2.2.2.2.2.2.2.2.2.1 ?_
                  refine X_puti hK fl_X12_316_13 hs_a0 (by decide) sl_13_42 (by omega) (by omega) kd45_21.2.2.2.2.2.2.2.2.2.2.2 (fun g1280 hg1280 => ?_)
                  refine X_aloadn hK (i := 0) 1 kd45_22.1 rfl rfl ?_
                  refine X_callV hK [] [] lk_X12_342 (c_X12_go _ _ _ _ _ S g1280 a0 hs_a0) hs_a0 ⟨by decide, rfl⟩ kd45_22.2.1 rfl rfl (by simp [Value.category]) (by decide) (by decide) (by decide) (by decide) (fun r1281 S1283 g1282 pr1281 qr1281 hg1282 => ?_)
                  obtain ⟨rfl, rfl⟩ := pr1281
                  refine X_st [] rfl ?_
                  refine X_goto hK 0 kd45_22.2.2.1 (by decide) ?_
                  refine X_lv [(0, .ref a0)] [1] rfl ?_
                  exact ihP1075  g1282 (xM.tr (xM_up (xM_ua (xM_up (xM_up (xM.tr xM.rf xLe.rf hg860 (by decide)) hg1266 hs_a0 (by decide) (by decide)) hg1268 hs_a0 (by decide) (by decide)) hg1279 hs_wl (by decide) (by decide)) hg1280 hs_a0 (by decide) (by decide)) xLe.rf hg1282 (by decide)) (q861 + 1) (by omega) (by omega) ((hg1282 a0 13 0 42 hs_a0 (by decide)).trans (xs_s hg1280)) (q862 + 1) (by omega) (by omega) ((hg1282 a0 13 0 43 hs_a0 (by decide)).trans ((xs_k hg1280 (by decide)).trans ((xs_a hg1279 (xne hs_a0 hs_wl (by decide))).trans ((xs_k hg1268 (by decide)).trans (xs_s hg1266))))) (q863 + 1) (by omega) (by omega) ((hg1282 a0 13 0 44 hs_a0 (by decide)).trans ((xs_k hg1280 (by decide)).trans ((xs_a hg1279 (xne hs_a0 hs_wl (by decide))).trans (xs_s hg1268)))) (xRd.push v1076 (by omega) (by omega) (by have h9 := (show xv g1282 wl q861 = 12 from by rw [(xv_m hg1282 hs_wl (by decide) (by decide)), (xv_a hg1280 (xne hs_wl hs_a0 (by decide))), xv_s hg1279 (by omega)]); omega) (fun i9 hi9 h09 => (show xv g1282 wl i9 = xv g860 wl i9 from by rw [(xv_m hg1282 hs_wl (by decide) (by decide)), (xv_a hg1280 (xne hs_wl hs_a0 (by decide))), (xv_k (i := i9) hg1279 (by omega) (by omega) (by omega)), (xv_a hg1268 (xne hs_wl hs_a0 (by decide))), (xv_a hg1266 (xne hs_wl hs_a0 (by decide)))]))) (by omega) (by omega)
              · refine X_aloadn hK (i := 0) 1 kd45_19.1 rfl rfl ?_
                refine X_iconst hK kd45_19.2.1 ?_
                refine X_callV hK [.int (iI 4)] [] lk_X12_333 (c2_bad _ _ _ _ _ S g860 a0 4 hs_a0 (by omega)) hs_a0 ⟨by decide, rfl⟩ kd45_19.2.2.1 rfl rfl (by simp [Value.category]) (by decide) (by decide) (by decide) (by decide) (fun r1284 S1286 g1285 pr1284 qr1284 hg1285 => ?_)
                obtain ⟨rfl, z1287, rfl, lz1287, uz1287, k1288⟩ := pr1284
                refine X_st [.int (iI z1287)] rfl ?_
                exact hret _ _ _ _ _ _ _ kd45_19.2.2.2.1 (by omega) (by omega) ⟨rfl, z1287, rfl, (by omega), (by omega), ⟨np, q861, q863, q862, ((hg1285 a0 13 0 41 hs_a0 (by decide)).trans ((hg860 a0 13 0 41 hs_a0 (by decide)).trans enp)), by omega, by omega, ((hg1285 a0 13 0 42 hs_a0 (by decide)).trans eq861), by omega, by omega, ((hg1285 a0 13 0 43 hs_a0 (by decide)).trans eq862), by omega, by omega, ((hg1285 a0 13 0 44 hs_a0 (by decide)).trans eq863), by omega, by omega, (fun h => by omega), (by rw [(Eq.trans (xv_m hg1285 hs_wp (by decide) (by decide)) (xv_m hg860 hs_wp (by decide) (by decide)))]; exact xLow.rf)⟩⟩ (Nat.le_refl _) (Nat.le_refl _)
          · refine X_aloadn hK (i := 0) 1 kd45_18.1 rfl rfl ?_
            refine X_iconst hK kd45_18.2.1 ?_
            refine X_callV hK [.int (iI 1)] [] lk_X12_333 (c2_bad _ _ _ _ _ S g860 a0 1 hs_a0 (by omega)) hs_a0 ⟨by decide, rfl⟩ kd45_18.2.2.1 rfl rfl (by simp [Value.category]) (by decide) (by decide) (by decide) (by decide) (fun r1289 S1291 g1290 pr1289 qr1289 hg1290 => ?_)
            obtain ⟨rfl, z1292, rfl, lz1292, uz1292, k1293⟩ := pr1289
            refine X_st [.int (iI z1292)] rfl ?_
            exact hret _ _ _ _ _ _ _ kd45_18.2.2.2.1 (by omega) (by omega) ⟨rfl, z1292, rfl, (by omega), (by omega), ⟨np, q861, q863, q862, ((hg1290 a0 13 0 41 hs_a0 (by decide)).trans ((hg860 a0 13 0 41 hs_a0 (by decide)).trans enp)), by omega, by omega, ((hg1290 a0 13 0 42 hs_a0 (by decide)).trans eq861), by omega, by omega, ((hg1290 a0 13 0 43 hs_a0 (by decide)).trans eq862), by omega, by omega, ((hg1290 a0 13 0 44 hs_a0 (by decide)).trans eq863), by omega, by omega, (fun h => by omega), (by rw [(Eq.trans (xv_m hg1290 hs_wp (by decide) (by decide)) (xv_m hg860 hs_wp (by decide) (by decide)))]; exact xLow.rf)⟩⟩ (Nat.le_refl _) (Nat.le_refl _)
  exact P1075 ((50 - no : Int).toNat + 1) g xM.rf nt (by omega) (by omega) ent no (by omega) (by omega) eno nw (by omega) (by omega) enw hp0 (by omega) (by omega)

set_option maxHeartbeats 4000000 in
set_option maxRecDepth 100000 in
theorem c_X12_readCond (l : Launch) (D : va_G) (kA : Nat → ClassId) (b0 : Nat) (t0 : Nat → Nat) (S : xT) (g : xG) (a0 : Nat) (np : Int) (no : Int) (nw : Int) (wp : Nat) (wl : Nat) (hs_a0 : S a0 = some (13, 0)) (hnp : 0 ≤ np ∧ np ≤ 120) (enp : g a0 41 = .int (iI np)) (hno : 0 ≤ no ∧ no ≤ 50) (eno : g a0 43 = .int (iI no)) (hnw : 0 ≤ nw ∧ nw ≤ 10) (enw : g a0 44 = .int (iI nw)) (ewp : g a0 35 = .ref wp) (hs_wp : S wp = some (15900, 1320)) (ewl : g a0 38 = .ref wl) (hs_wl : S wl = some (16200, 64)) (hp0 : np ≤ 2 * no) : xMt l yX12_readCond cX12_readCond 2 (some .boolean) 3 0 0 68 D kA b0 t0 [(13, 42), (13, 25), (13, 26), (13, 43), (13, 20), (13, 21), (13, 28), (13, 23), (13, 22), (13, 24), (15900, 0), (16000, 0), (16100, 0), (13, 41), (13, 44), (16200, 0)] [.ref a0] S g (fun (r : Option Value) (S1 : xT) (g1 : xG) => S = S1 ∧ ∃ z : Int, r = some (.int (iI z)) ∧ 0 ≤ z ∧ z ≤ 1 ∧ (∃ a c d : Int, g1 a0 41 = .int (iI a) ∧ 0 ≤ a ∧ a ≤ 120 ∧ g1 a0 43 = .int (iI d) ∧ 0 ≤ d ∧ d ≤ 50 ∧ g1 a0 44 = .int (iI c) ∧ 0 ≤ c ∧ c ≤ 10 ∧ (z = 1 → np ≤ a ∧ a ≤ 2 * d ∧ xhf (xv g1 wp) (1200 + np) (a - np).toNat ≠ none) ∧ xLow (1200 + np) (xv g1 wp) (xv g wp))) := by
  refine xEnterZ (by decide) (by simp [lg_sl, Value.category]) [(0, .ref a0)] rfl ?_
  intro K E hK hret _ _ _
  refine X_aloadn hK (i := 0) 0 kd45_8.2.2.2.2.2.2.2.2.2.2.2 rfl rfl ?_
  refine X_iconst hK kd45_9.1 ?_
  refine X_puti hK fl_X12_316_13 hs_a0 (by decide) sl_13_42 (by omega) (by omega) kd45_9.2.1 (fun g1 hg1 => ?_)
  have P2245 : ∀ (nP2245 : Nat) (g1920 : xG) (_ : xM [(13, 20), (13, 21), (13, 28), (13, 23), (13, 22), (13, 24), (13, 42), (16200, 0), (15900, 0), (16000, 0), (16100, 0), (13, 41), (13, 44), (13, 25), (13, 26), (13, 43)] S g1 g1920) (q1921 : Int) (_ : 0 ≤ q1921) (_ : q1921 ≤ 120) (_ : g1920 a0 41 = .int (iI q1921)) (q1922 : Int) (_ : 0 ≤ q1922) (_ : q1922 ≤ 64) (_ : g1920 a0 42 = .int (iI q1922)) (q1923 : Int) (_ : 0 ≤ q1923) (_ : q1923 ≤ 50) (_ : g1920 a0 43 = .int (iI q1923)) (q1924 : Int) (_ : 0 ≤ q1924) (_ : q1924 ≤ 10) (_ : g1920 a0 44 = .int (iI q1924)) (_ : xRd (xv g1920 wp) (xv g1920 wl) np q1921 q1922 q1923 q1924 1) (_ : xLow (1200 + np) (xv g1920 wp) (xv g wp)) (_ : no ≤ q1923) (_ : 50 - q1923 < (nP2245 : Int)), X K E 5 [(0, .ref a0)] [] S g1920 0 0 := by
    intro nP2245
    induction nP2245 with
    | zero => intro g1920 hg1920 q1921 lq1921 uq1921 eq1921 q1922 lq1922 uq1922 eq1922 q1923 lq1923 uq1923 eq1923 q1924 lq1924 uq1924 eq1924 v2246 v2247 v2248 mP2245; exact False.elim (by omega)
    | succ nP2245 ihP2245 =>
      intro g1920 hg1920 q1921 lq1921 uq1921 eq1921 q1922 lq1922 uq1922 eq1922 q1923 lq1923 uq1923 eq1923 q1924 lq1924 uq1924 eq1924 v2246 v2247 v2248 mP2245
      refine X_aloadn hK (i := 0) 0 kd45_9.2.2.1 rfl rfl ?_
      refine X_callV hK [] [] lk_X12_348 (c_X12_readOne _ _ _ _ _ S g1920 a0 q1921 q1922 q1923 q1924 wp wl np hs_a0 (by omega) eq1921 (by omega) eq1922 (by omega) eq1923 (by omega) eq1924 ((hg1920 a0 13 0 35 hs_a0 (by decide)).trans ((xs_k hg1 (by decide)).trans ewp)) hs_wp ((hg1920 a0 13 0 38 hs_a0 (by decide)).trans ((xs_k hg1 (by decide)).trans ewl)) hs_wl v2246) hs_a0 ⟨by decide, rfl⟩ kd45_9.2.2.2.1 rfl rfl (by simp [Value.category]) (by decide) (by decide) (by decide) (by decide) (fun r2249 S2251 g2250 pr2249 qr2249 hg2250 => ?_)
      obtain ⟨rfl, z2252, rfl, lz2252, uz2252, k2253⟩ := pr2249
      refine X_st [.int (iI z2252)] rfl ?_
      obtain ⟨z2254, z2255, z2256, z2257, ez2254, lz2254, uz2254, ez2255, lz2255, uz2255, ez2257, lz2257, uz2257, ez2256, lz2256, uz2256, Rz2254, oz2254⟩ := k2253
      have lw2258 : xLow (1200 + np) (xv g2250 wp) (xv g wp) := xLow.tr v2247 oz2254 (by omega)
      refine X_if_ne hK 14 (by omega) kd45_9.2.2.2.2.1 (by decide) (fun c2259 => ?_) (fun c2259 => ?_)
      · have P3034 : ∀ (nP3034 : Nat) (g2879 : xG) (_ : xM [(13, 42), (13, 44), (15900, 0), (16000, 0), (16100, 0), (13, 41), (13, 20), (13, 21), (13, 28), (13, 23), (13, 22), (13, 24)] S g2250 g2879) (q2880 : Int) (_ : 0 ≤ q2880) (_ : q2880 ≤ 120) (_ : g2879 a0 41 = .int (iI q2880)) (q2881 : Int) (_ : 0 ≤ q2881) (_ : q2881 ≤ 64) (_ : g2879 a0 42 = .int (iI q2881)) (q2882 : Int) (_ : 0 ≤ q2882) (_ : q2882 ≤ 10) (_ : g2879 a0 44 = .int (iI q2882)) (_ : xRd (xv g2879 wp) (xv g2879 wl) np q2880 q2881 z2257 q2882 0) (_ : xLow (1200 + np) (xv g2879 wp) (xv g wp)) (_ : no < z2257) (_ : q2881 < (nP3034 : Int)), X K E 14 [(0, .ref a0)] [] S g2879 0 0 := by
          intro nP3034
          induction nP3034 with
          | zero => intro g2879 hg2879 q2880 lq2880 uq2880 eq2880 q2881 lq2881 uq2881 eq2881 q2882 lq2882 uq2882 eq2882 v3035 v3036 v3037 mP3034; exact False.elim (by omega)
          | succ nP3034 ihP3034 =>
            intro g2879 hg2879 q2880 lq2880 uq2880 eq2880 q2881 lq2881 uq2881 eq2881 q2882 lq2882 uq2882 eq2882 v3035 v3036 v3037 mP3034
            refine X_aloadn hK (i := 0) 0 kd45_9.2.2.2.2.2.2.2.1 rfl rfl ?_
            have hbh3038 := xRd.bd v3035 (by omega)
            refine X_bipush hK kd45_9.2.2.2.2.2.2.2.2.1 (by decide) ?_
            refine X_callV hK [.int (iI 41)] [] lk_X12_330 (c_X12_isSign _ _ _ _ _ S g2879 a0 41 hs_a0 (by omega)) hs_a0 ⟨by decide, rfl⟩ kd45_9.2.2.2.2.2.2.2.2.2.1 rfl rfl (by simp [Value.category]) (by decide) (by decide) (by decide) (by decide) (fun r3039 S3041 g3040 pr3039 qr3039 hg3040 => ?_)
            obtain ⟨rfl, rfl, z3042, rfl, lz3042, uz3042⟩ := pr3039
            refine X_st [.int (iI z3042)] rfl ?_
            refine X_if_eq hK 69 (by omega) kd45_9.2.2.2.2.2.2.2.2.2.2.1 (by decide) (fun c3043 => ?_) (fun c3043 => ?_)
            · refine X_aloadn hK (i := 0) 0 kd45_11.2.2.2.2.2.2.2.2.2.2.2 rfl rfl ?_
              refine X_bipush hK kd45_12.1 (by decide) ?_
              refine X_bipush hK kd45_12.2.1 (by decide) ?_
              refine X_bipush hK kd45_12.2.2.1 (by decide) ?_
              refine X_iconst hK kd45_12.2.2.2.1 ?_
              refine X_iconst hK kd45_12.2.2.2.2.1 ?_
              refine X_callS hK [.int (iI 97), .int (iI 110), .int (iI 100), .int (iI 0), .int (iI 0)] [.ref a0] lk_X12_297 (c_X12_spelt _ _ _ _ _ S g2879 97 110 100 0 0 (by omega) (by omega) (by omega) (by omega) (by omega)) kd45_12.2.2.2.2.2.1 rfl rfl (by simp [Value.category]) (by decide) (by decide) (by decide) (by decide) (fun r3044 S3046 g3045 pr3044 qr3044 hg3045 => ?_)
              obtain ⟨rfl, rfl, y3047, rfl⟩ := pr3044
              refine X_st [.long y3047, .ref a0] rfl ?_
              refine X_callV hK [.long y3047] [] lk_X12_301 (c_X12_isKey _ _ _ _ _ S g2879 a0 y3047 hs_a0) hs_a0 ⟨by decide, rfl⟩ kd45_12.2.2.2.2.2.2.1 rfl rfl (by simp [Value.category]) (by decide) (by decide) (by decide) (by decide) (fun r3048 S3050 g3049 pr3048 qr3048 hg3049 => ?_)
              obtain ⟨rfl, rfl, z3051, rfl, lz3051, uz3051⟩ := pr3048
              refine X_st [.int (iI z3051)] rfl ?_
              refine X_istoren hK (i := 1) [(1, .int (iI z3051)), (0, .ref a0)] kd45_12.2.2.2.2.2.2.2.1 rfl (by decide) rfl ?_
              refine X_iloadn hK (i := 1) 0 kd45_12.2.2.2.2.2.2.2.2.1 rfl rfl ?_
              refine X_if_ne hK 129 (by omega) kd45_12.2.2.2.2.2.2.2.2.2.1 (by decide) (fun c3052 => ?_) (fun c3052 => ?_)
              · refine X_aloadn hK (i := 0) 1 kd45_14.2.2.2.2.2.2.2.2.1 rfl rfl ?_
                refine X_bipush hK kd45_14.2.2.2.2.2.2.2.2.2.1 (by decide) ?_
                refine X_iloadn hK (i := 1) 0 kd45_14.2.2.2.2.2.2.2.2.2.2.1 rfl rfl ?_
                refine X_if_eq hK 141 (by omega) kd45_14.2.2.2.2.2.2.2.2.2.2.2 (by decide) (fun c3053 => False.elim (by omega)) (fun c3053 => ?_)
                refine X_bipush hK kd45_15.1 (by decide) ?_
                refine X_goto hK 143 kd45_15.2.1 (by decide) ?_
                refine X_callV hK [.int (iI 13), .int (iI 13)] [] lk_X12_354 (c_X12_drop _ _ _ _ _ S g2879 a0 13 13 q2880 q2881 z2257 q2882 wp wl np hs_a0 (by omega) (by omega) (by omega) eq2880 (by omega) eq2881 (by omega) ((hg2879 a0 13 0 43 hs_a0 (by decide)).trans ez2257) (by omega) eq2882 ((hg2879 a0 13 0 35 hs_a0 (by decide)).trans ((hg2250 a0 13 0 35 hs_a0 (by decide)).trans ((hg1920 a0 13 0 35 hs_a0 (by decide)).trans ((xs_k hg1 (by decide)).trans ewp)))) hs_wp ((hg2879 a0 13 0 38 hs_a0 (by decide)).trans ((hg2250 a0 13 0 38 hs_a0 (by decide)).trans ((hg1920 a0 13 0 38 hs_a0 (by decide)).trans ((xs_k hg1 (by decide)).trans ewl)))) hs_wl v3035) hs_a0 ⟨by decide, rfl⟩ kd45_15.2.2.2.1 rfl rfl (by simp [Value.category]) (by decide) (by decide) (by decide) (by decide) (fun r3054 S3056 g3055 pr3054 qr3054 hg3055 => ?_)
                obtain ⟨rfl, rfl, k3057⟩ := pr3054
                refine X_st [] rfl ?_
                obtain ⟨z3058, z3059, ez3058, lz3058, uz3058, ez3059, lz3059, uz3059, Rz3058, xz3058, yz3058, oz3058⟩ := k3057
                have hbz3058 := xRd.bd Rz3058 (by omega)
                have lw3060 : xLow (1200 + np) (xv g3055 wp) (xv g wp) := xLow.tr v3036 oz3058 (by omega)
                refine X_aloadn hK (i := 0) 1 kd45_15.2.2.2.2.1 rfl rfl ?_
                refine X_getK hK fl_X12_77_13 hs_a0 ((hg3055 a0 13 0 38 hs_a0 (by decide)).trans ((hg2879 a0 13 0 38 hs_a0 (by decide)).trans ((hg2250 a0 13 0 38 hs_a0 (by decide)).trans ((hg1920 a0 13 0 38 hs_a0 (by decide)).trans ((xs_k hg1 (by decide)).trans ewl))))) kd45_15.2.2.2.2.2.1 ?_
                refine X_aloadn hK (i := 0) 1 kd45_15.2.2.2.2.2.2.1 rfl rfl ?_
                refine X_getK hK fl_X12_316_13 hs_a0 ez3059 kd45_15.2.2.2.2.2.2.2.1 ?_
                refine X_iloadn hK (i := 1) 0 kd45_15.2.2.2.2.2.2.2.2.1 rfl rfl ?_
                refine X_if_eq hK 163 (by omega) kd45_15.2.2.2.2.2.2.2.2.2.1 (by decide) (fun c3061 => False.elim (by omega)) (fun c3061 => ?_)
                refine X_bipush hK kd45_15.2.2.2.2.2.2.2.2.2.2.1 (by decide) ?_
                refine X_goto hK 165 kd45_15.2.2.2.2.2.2.2.2.2.2.2 (by decide) ?_
                refine X_iast hK hs_wl (by decide) (by decide) sl_16200 (by omega) (by omega) (by omega) (by omega) kd45_16.2.1 (fun g3062 hg3062 => ?_)
                refine X_aloadn hK (i := 0) 1 kd45_16.2.2.1 rfl rfl ?_
                refine X_dup hK kd45_16.2.2.2.1 rfl ?_
                refine X_getK hK fl_X12_316_13 hs_a0 ((xs_a hg3062 (xne hs_a0 hs_wl (by decide))).trans ez3059) kd45_16.2.2.2.2.1 ?_
                refine X_iconst hK kd45_16.2.2.2.2.2.1 ?_
                refine X_iadd hK kd45_16.2.2.2.2.2.2.1 ?_
                refine X_puti hK fl_X12_316_13 hs_a0 (by decide) sl_13_42 (by omega) (by omega) kd45_16.2.2.2.2.2.2.2.1 (fun g3063 hg3063 => ?_)
                refine X_aloadn hK (i := 0) 1 kd45_16.2.2.2.2.2.2.2.2.1 rfl rfl ?_
                refine X_callV hK [] [] lk_X12_342 (c_X12_go _ _ _ _ _ S g3063 a0 hs_a0) hs_a0 ⟨by decide, rfl⟩ kd45_16.2.2.2.2.2.2.2.2.2.1 rfl rfl (by simp [Value.category]) (by decide) (by decide) (by decide) (by decide) (fun r3064 S3066 g3065 pr3064 qr3064 hg3065 => ?_)
                obtain ⟨rfl, rfl⟩ := pr3064
                refine X_st [] rfl ?_
                refine X_goto hK 5 kd45_16.2.2.2.2.2.2.2.2.2.2.1 (by decide) ?_
                refine X_lv [(0, .ref a0)] [1] rfl ?_
                exact ihP2245  g3065 (xM.tr (xM_up (xM_ua (xM.tr (xM.tr (xM.tr (xM.tr xM.rf xLe.rf hg1920 (by decide)) xLe.rf hg2250 (by decide)) xLe.rf hg2879 (by decide)) xLe.rf hg3055 (by decide)) hg3062 hs_wl (by decide) (by decide)) hg3063 hs_a0 (by decide) (by decide)) xLe.rf hg3065 (by decide)) z3058 (by omega) (by omega) ((hg3065 a0 13 0 41 hs_a0 (by decide)).trans ((xs_k hg3063 (by decide)).trans ((xs_a hg3062 (xne hs_a0 hs_wl (by decide))).trans ez3058))) (z3059 + 1) (by omega) (by omega) ((hg3065 a0 13 0 42 hs_a0 (by decide)).trans (xs_s hg3063)) z2257 (by omega) (by omega) ((hg3065 a0 13 0 43 hs_a0 (by decide)).trans ((xs_k hg3063 (by decide)).trans ((xs_a hg3062 (xne hs_a0 hs_wl (by decide))).trans ((hg3055 a0 13 0 43 hs_a0 (by decide)).trans ((hg2879 a0 13 0 43 hs_a0 (by decide)).trans ez2257))))) q2882 (by omega) (by omega) ((hg3065 a0 13 0 44 hs_a0 (by decide)).trans ((xs_k hg3063 (by decide)).trans ((xs_a hg3062 (xne hs_a0 hs_wl (by decide))).trans ((hg3055 a0 13 0 44 hs_a0 (by decide)).trans eq2882)))) (by rw [(Eq.trans (Eq.trans (xv_m hg3065 hs_wp (by decide) (by decide)) (xv_a hg3063 (xne hs_wp hs_a0 (by decide)))) (xv_a hg3062 (xne hs_wp hs_wl (by decide))))]; exact xRd.and Rz3058 (by omega) (show xv g3065 wl z3059 = 13 from by rw [(xv_m hg3065 hs_wl (by decide) (by decide)), (xv_a hg3063 (xne hs_wl hs_a0 (by decide))), xv_s hg3062 (by omega)]) (fun i9 hi9 h09 => (show xv g3065 wl i9 = xv g2879 wl i9 from by rw [(xv_m hg3065 hs_wl (by decide) (by decide)), (xv_a hg3063 (xne hs_wl hs_a0 (by decide))), (xv_k (i := i9) hg3062 (by omega) (by omega) (by omega)), (xv_m hg3055 hs_wl (by decide) (by decide))]))) (by rw [(Eq.trans (Eq.trans (xv_m hg3065 hs_wp (by decide) (by decide)) (xv_a hg3063 (xne hs_wp hs_a0 (by decide)))) (xv_a hg3062 (xne hs_wp hs_wl (by decide))))]; exact lw3060) (by omega) (by omega)
              · refine X_aloadn hK (i := 0) 1 kd45_12.2.2.2.2.2.2.2.2.2.2.1 rfl rfl ?_
                refine X_bipush hK kd45_12.2.2.2.2.2.2.2.2.2.2.2 (by decide) ?_
                refine X_bipush hK kd45_13.1 (by decide) ?_
                refine X_iconst hK kd45_13.2.1 ?_
                refine X_iconst hK kd45_13.2.2.1 ?_
                refine X_iconst hK kd45_13.2.2.2.1 ?_
                refine X_callS hK [.int (iI 111), .int (iI 114), .int (iI 0), .int (iI 0), .int (iI 0)] [.ref a0] lk_X12_297 (c_X12_spelt _ _ _ _ _ S g2879 111 114 0 0 0 (by omega) (by omega) (by omega) (by omega) (by omega)) kd45_13.2.2.2.2.1 rfl rfl (by simp [Value.category]) (by decide) (by decide) (by decide) (by decide) (fun r3067 S3069 g3068 pr3067 qr3067 hg3068 => ?_)
                obtain ⟨rfl, rfl, y3070, rfl⟩ := pr3067
                refine X_st [.long y3070, .ref a0] rfl ?_
                refine X_callV hK [.long y3070] [] lk_X12_301 (c_X12_isKey _ _ _ _ _ S g2879 a0 y3070 hs_a0) hs_a0 ⟨by decide, rfl⟩ kd45_13.2.2.2.2.2.1 rfl rfl (by simp [Value.category]) (by decide) (by decide) (by decide) (by decide) (fun r3071 S3073 g3072 pr3071 qr3071 hg3072 => ?_)
                obtain ⟨rfl, rfl, z3074, rfl, lz3074, uz3074⟩ := pr3071
                refine X_st [.int (iI z3074)] rfl ?_
                refine X_if_ne hK 129 (by omega) kd45_13.2.2.2.2.2.2.1 (by decide) (fun c3075 => ?_) (fun c3075 => ?_)
                · refine X_aloadn hK (i := 0) 1 kd45_14.2.2.2.2.2.2.2.2.1 rfl rfl ?_
                  refine X_bipush hK kd45_14.2.2.2.2.2.2.2.2.2.1 (by decide) ?_
                  refine X_iloadn hK (i := 1) 0 kd45_14.2.2.2.2.2.2.2.2.2.2.1 rfl rfl ?_
                  refine X_if_eq hK 141 (by omega) kd45_14.2.2.2.2.2.2.2.2.2.2.2 (by decide) (fun c3076 => ?_) (fun c3076 => False.elim (by omega))
                  refine X_bipush hK kd45_15.2.2.1 (by decide) ?_
                  refine X_callV hK [.int (iI 13), .int (iI 14)] [] lk_X12_354 (c_X12_drop _ _ _ _ _ S g2879 a0 13 14 q2880 q2881 z2257 q2882 wp wl np hs_a0 (by omega) (by omega) (by omega) eq2880 (by omega) eq2881 (by omega) ((hg2879 a0 13 0 43 hs_a0 (by decide)).trans ez2257) (by omega) eq2882 ((hg2879 a0 13 0 35 hs_a0 (by decide)).trans ((hg2250 a0 13 0 35 hs_a0 (by decide)).trans ((hg1920 a0 13 0 35 hs_a0 (by decide)).trans ((xs_k hg1 (by decide)).trans ewp)))) hs_wp ((hg2879 a0 13 0 38 hs_a0 (by decide)).trans ((hg2250 a0 13 0 38 hs_a0 (by decide)).trans ((hg1920 a0 13 0 38 hs_a0 (by decide)).trans ((xs_k hg1 (by decide)).trans ewl)))) hs_wl v3035) hs_a0 ⟨by decide, rfl⟩ kd45_15.2.2.2.1 rfl rfl (by simp [Value.category]) (by decide) (by decide) (by decide) (by decide) (fun r3077 S3079 g3078 pr3077 qr3077 hg3078 => ?_)
                  obtain ⟨rfl, rfl, k3080⟩ := pr3077
                  refine X_st [] rfl ?_
                  obtain ⟨z3081, z3082, ez3081, lz3081, uz3081, ez3082, lz3082, uz3082, Rz3081, xz3081, yz3081, oz3081⟩ := k3080
                  have hbz3081 := xRd.bd Rz3081 (by omega)
                  have lw3083 : xLow (1200 + np) (xv g3078 wp) (xv g wp) := xLow.tr v3036 oz3081 (by omega)
                  refine X_aloadn hK (i := 0) 1 kd45_15.2.2.2.2.1 rfl rfl ?_
                  refine X_getK hK fl_X12_77_13 hs_a0 ((hg3078 a0 13 0 38 hs_a0 (by decide)).trans ((hg2879 a0 13 0 38 hs_a0 (by decide)).trans ((hg2250 a0 13 0 38 hs_a0 (by decide)).trans ((hg1920 a0 13 0 38 hs_a0 (by decide)).trans ((xs_k hg1 (by decide)).trans ewl))))) kd45_15.2.2.2.2.2.1 ?_
                  refine X_aloadn hK (i := 0) 1 kd45_15.2.2.2.2.2.2.1 rfl rfl ?_
                  refine X_getK hK fl_X12_316_13 hs_a0 ez3082 kd45_15.2.2.2.2.2.2.2.1 ?_
                  refine X_iloadn hK (i := 1) 0 kd45_15.2.2.2.2.2.2.2.2.1 rfl rfl ?_
                  refine X_if_eq hK 163 (by omega) kd45_15.2.2.2.2.2.2.2.2.2.1 (by decide) (fun c3084 => ?_) (fun c3084 => False.elim (by omega))
                  refine X_bipush hK kd45_16.1 (by decide) ?_
                  refine X_iast hK hs_wl (by decide) (by decide) sl_16200 (by omega) (by omega) (by omega) (by omega) kd45_16.2.1 (fun g3085 hg3085 => ?_)
                  refine X_aloadn hK (i := 0) 1 kd45_16.2.2.1 rfl rfl ?_
                  refine X_dup hK kd45_16.2.2.2.1 rfl ?_
                  refine X_getK hK fl_X12_316_13 hs_a0 ((xs_a hg3085 (xne hs_a0 hs_wl (by decide))).trans ez3082) kd45_16.2.2.2.2.1 ?_
                  refine X_iconst hK kd45_16.2.2.2.2.2.1 ?_
                  refine X_iadd hK kd45_16.2.2.2.2.2.2.1 ?_
                  refine X_puti hK fl_X12_316_13 hs_a0 (by decide) sl_13_42 (by omega) (by omega) kd45_16.2.2.2.2.2.2.2.1 (fun g3086 hg3086 => ?_)
                  refine X_aloadn hK (i := 0) 1 kd45_16.2.2.2.2.2.2.2.2.1 rfl rfl ?_
                  refine X_callV hK [] [] lk_X12_342 (c_X12_go _ _ _ _ _ S g3086 a0 hs_a0) hs_a0 ⟨by decide, rfl⟩ kd45_16.2.2.2.2.2.2.2.2.2.1 rfl rfl (by simp [Value.category]) (by decide) (by decide) (by decide) (by decide) (fun r3087 S3089 g3088 pr3087 qr3087 hg3088 => ?_)
                  obtain ⟨rfl, rfl⟩ := pr3087
                  refine X_st [] rfl ?_
                  refine X_goto hK 5 kd45_16.2.2.2.2.2.2.2.2.2.2.1 (by decide) ?_
                  refine X_lv [(0, .ref a0)] [1] rfl ?_
                  exact ihP2245  g3088 (xM.tr (xM_up (xM_ua (xM.tr (xM.tr (xM.tr (xM.tr xM.rf xLe.rf hg1920 (by decide)) xLe.rf hg2250 (by decide)) xLe.rf hg2879 (by decide)) xLe.rf hg3078 (by decide)) hg3085 hs_wl (by decide) (by decide)) hg3086 hs_a0 (by decide) (by decide)) xLe.rf hg3088 (by decide)) z3081 (by omega) (by omega) ((hg3088 a0 13 0 41 hs_a0 (by decide)).trans ((xs_k hg3086 (by decide)).trans ((xs_a hg3085 (xne hs_a0 hs_wl (by decide))).trans ez3081))) (z3082 + 1) (by omega) (by omega) ((hg3088 a0 13 0 42 hs_a0 (by decide)).trans (xs_s hg3086)) z2257 (by omega) (by omega) ((hg3088 a0 13 0 43 hs_a0 (by decide)).trans ((xs_k hg3086 (by decide)).trans ((xs_a hg3085 (xne hs_a0 hs_wl (by decide))).trans ((hg3078 a0 13 0 43 hs_a0 (by decide)).trans ((hg2879 a0 13 0 43 hs_a0 (by decide)).trans ez2257))))) q2882 (by omega) (by omega) ((hg3088 a0 13 0 44 hs_a0 (by decide)).trans ((xs_k hg3086 (by decide)).trans ((xs_a hg3085 (xne hs_a0 hs_wl (by decide))).trans ((hg3078 a0 13 0 44 hs_a0 (by decide)).trans eq2882)))) (by rw [(Eq.trans (Eq.trans (xv_m hg3088 hs_wp (by decide) (by decide)) (xv_a hg3086 (xne hs_wp hs_a0 (by decide)))) (xv_a hg3085 (xne hs_wp hs_wl (by decide))))]; exact xRd.or Rz3081 (by omega) (show xv g3088 wl z3082 = 14 from by rw [(xv_m hg3088 hs_wl (by decide) (by decide)), (xv_a hg3086 (xne hs_wl hs_a0 (by decide))), xv_s hg3085 (by omega)]) (fun i9 hi9 h09 => (show xv g3088 wl i9 = xv g2879 wl i9 from by rw [(xv_m hg3088 hs_wl (by decide) (by decide)), (xv_a hg3086 (xne hs_wl hs_a0 (by decide))), (xv_k (i := i9) hg3085 (by omega) (by omega) (by omega)), (xv_m hg3078 hs_wl (by decide) (by decide))]))) (by rw [(Eq.trans (Eq.trans (xv_m hg3088 hs_wp (by decide) (by decide)) (xv_a hg3086 (xne hs_wp hs_a0 (by decide)))) (xv_a hg3085 (xne hs_wp hs_wl (by decide))))]; exact lw3083) (by omega) (by omega)
                · refine X_aloadn hK (i := 0) 1 kd45_13.2.2.2.2.2.2.2.1 rfl rfl ?_
                  refine X_callV hK [] [] lk_X12_351 (c2_isOpen _ _ _ _ _ S g2879 a0 q2881 wl hs_a0 (by omega) eq2881 ((hg2879 a0 13 0 38 hs_a0 (by decide)).trans ((hg2250 a0 13 0 38 hs_a0 (by decide)).trans ((hg1920 a0 13 0 38 hs_a0 (by decide)).trans ((xs_k hg1 (by decide)).trans ewl)))) hs_wl) hs_a0 ⟨by decide, rfl⟩ kd45_13.2.2.2.2.2.2.2.2.1 rfl rfl (by simp [Value.category]) (by decide) (by decide) (by decide) (by decide) (fun r3090 S3092 g3091 pr3090 qr3090 hg3091 => ?_)
                  obtain ⟨rfl, rfl, z3093, rfl, lz3093, uz3093, k3094⟩ := pr3090
                  refine X_st [.int (iI z3093)] rfl ?_
                  refine X_if_eq hK 119 (by omega) kd45_13.2.2.2.2.2.2.2.2.2.1 (by decide) (fun c3095 => ?_) (fun c3095 => ?_)
                  · refine X_aloadn hK (i := 0) 1 kd45_14.2.2.1 rfl rfl ?_
                    refine X_bipush hK kd45_14.2.2.2.1 (by decide) ?_
                    refine X_bipush hK kd45_14.2.2.2.2.1 (by decide) ?_
                    refine X_callV hK [.int (iI 13), .int (iI 14)] [] lk_X12_354 (c_X12_drop _ _ _ _ _ S g2879 a0 13 14 q2880 q2881 z2257 q2882 wp wl np hs_a0 (by omega) (by omega) (by omega) eq2880 (by omega) eq2881 (by omega) ((hg2879 a0 13 0 43 hs_a0 (by decide)).trans ez2257) (by omega) eq2882 ((hg2879 a0 13 0 35 hs_a0 (by decide)).trans ((hg2250 a0 13 0 35 hs_a0 (by decide)).trans ((hg1920 a0 13 0 35 hs_a0 (by decide)).trans ((xs_k hg1 (by decide)).trans ewp)))) hs_wp ((hg2879 a0 13 0 38 hs_a0 (by decide)).trans ((hg2250 a0 13 0 38 hs_a0 (by decide)).trans ((hg1920 a0 13 0 38 hs_a0 (by decide)).trans ((xs_k hg1 (by decide)).trans ewl)))) hs_wl v3035) hs_a0 ⟨by decide, rfl⟩ kd45_14.2.2.2.2.2.1 rfl rfl (by simp [Value.category]) (by decide) (by decide) (by decide) (by decide) (fun r3096 S3098 g3097 pr3096 qr3096 hg3097 => ?_)
                    obtain ⟨rfl, rfl, k3099⟩ := pr3096
                    refine X_st [] rfl ?_
                    obtain ⟨z3100, z3101, ez3100, lz3100, uz3100, ez3101, lz3101, uz3101, Rz3100, xz3100, yz3100, oz3100⟩ := k3099
                    have hbz3100 := xRd.bd Rz3100 (by omega)
                    have lw3102 : xLow (1200 + np) (xv g3097 wp) (xv g wp) := xLow.tr v3036 oz3100 (by omega)
                    refine X_iconst hK kd45_14.2.2.2.2.2.2.1 ?_
                    exact hret _ _ _ _ _ _ _ kd45_14.2.2.2.2.2.2.2.1 (by omega) (by omega) ⟨rfl, 1, rfl, (by omega), (by omega), ⟨z3100, q2882, z2257, ez3100, by omega, by omega, ((hg3097 a0 13 0 43 hs_a0 (by decide)).trans ((hg2879 a0 13 0 43 hs_a0 (by decide)).trans ez2257)), by omega, by omega, ((hg3097 a0 13 0 44 hs_a0 (by decide)).trans eq2882), by omega, by omega, (fun _ => ⟨by omega, (xRd.fin Rz3100).2, (xRd.fin Rz3100).1⟩), lw3102⟩⟩ (Nat.le_refl _) (Nat.le_refl _)
                  · refine X_aloadn hK (i := 0) 1 kd45_13.2.2.2.2.2.2.2.2.2.2.1 rfl rfl ?_
                    refine X_iconst hK kd45_13.2.2.2.2.2.2.2.2.2.2.2 ?_
                    refine X_callV hK [.int (iI 1)] [] lk_X12_333 (c2_bad _ _ _ _ _ S g2879 a0 1 hs_a0 (by omega)) hs_a0 ⟨by decide, rfl⟩ kd45_14.1 rfl rfl (by simp [Value.category]) (by decide) (by decide) (by decide) (by decide) (fun r3103 S3105 g3104 pr3103 qr3103 hg3104 => ?_)
                    obtain ⟨rfl, z3106, rfl, lz3106, uz3106, k3107⟩ := pr3103
                    refine X_st [.int (iI z3106)] rfl ?_
                    exact hret _ _ _ _ _ _ _ kd45_14.2.1 (by omega) (by omega) ⟨rfl, z3106, rfl, (by omega), (by omega), ⟨q2880, q2882, z2257, ((hg3104 a0 13 0 41 hs_a0 (by decide)).trans eq2880), by omega, by omega, ((hg3104 a0 13 0 43 hs_a0 (by decide)).trans ((hg2879 a0 13 0 43 hs_a0 (by decide)).trans ez2257)), by omega, by omega, ((hg3104 a0 13 0 44 hs_a0 (by decide)).trans eq2882), by omega, by omega, (fun h => by omega), (by rw [(xv_m hg3104 hs_wp (by decide) (by decide))]; exact v3036)⟩⟩ (Nat.le_refl _) (Nat.le_refl _)
            · refine X_aloadn hK (i := 0) 0 kd45_9.2.2.2.2.2.2.2.2.2.2.2 rfl rfl ?_
              refine X_callV hK [] [] lk_X12_351 (c2_isOpen _ _ _ _ _ S g2879 a0 q2881 wl hs_a0 (by omega) eq2881 ((hg2879 a0 13 0 38 hs_a0 (by decide)).trans ((hg2250 a0 13 0 38 hs_a0 (by decide)).trans ((hg1920 a0 13 0 38 hs_a0 (by decide)).trans ((xs_k hg1 (by decide)).trans ewl)))) hs_wl) hs_a0 ⟨by decide, rfl⟩ kd45_10.1 rfl rfl (by simp [Value.category]) (by decide) (by decide) (by decide) (by decide) (fun r3108 S3110 g3109 pr3108 qr3108 hg3109 => ?_)
              obtain ⟨rfl, rfl, z3111, rfl, lz3111, uz3111, k3112⟩ := pr3108
              refine X_st [.int (iI z3111)] rfl ?_
              refine X_if_eq hK 69 (by omega) kd45_10.2.1 (by decide) (fun c3113 => ?_) (fun c3113 => ?_)
              · refine X_aloadn hK (i := 0) 0 kd45_11.2.2.2.2.2.2.2.2.2.2.2 rfl rfl ?_
                refine X_bipush hK kd45_12.1 (by decide) ?_
                refine X_bipush hK kd45_12.2.1 (by decide) ?_
                refine X_bipush hK kd45_12.2.2.1 (by decide) ?_
                refine X_iconst hK kd45_12.2.2.2.1 ?_
                refine X_iconst hK kd45_12.2.2.2.2.1 ?_
                refine X_callS hK [.int (iI 97), .int (iI 110), .int (iI 100), .int (iI 0), .int (iI 0)] [.ref a0] lk_X12_297 (c_X12_spelt _ _ _ _ _ S g2879 97 110 100 0 0 (by omega) (by omega) (by omega) (by omega) (by omega)) kd45_12.2.2.2.2.2.1 rfl rfl (by simp [Value.category]) (by decide) (by decide) (by decide) (by decide) (fun r3114 S3116 g3115 pr3114 qr3114 hg3115 => ?_)
                obtain ⟨rfl, rfl, y3117, rfl⟩ := pr3114
                refine X_st [.long y3117, .ref a0] rfl ?_
                refine X_callV hK [.long y3117] [] lk_X12_301 (c_X12_isKey _ _ _ _ _ S g2879 a0 y3117 hs_a0) hs_a0 ⟨by decide, rfl⟩ kd45_12.2.2.2.2.2.2.1 rfl rfl (by simp [Value.category]) (by decide) (by decide) (by decide) (by decide) (fun r3118 S3120 g3119 pr3118 qr3118 hg3119 => ?_)
                obtain ⟨rfl, rfl, z3121, rfl, lz3121, uz3121⟩ := pr3118
                refine X_st [.int (iI z3121)] rfl ?_
                refine X_istoren hK (i := 1) [(1, .int (iI z3121)), (0, .ref a0)] kd45_12.2.2.2.2.2.2.2.1 rfl (by decide) rfl ?_
                refine X_iloadn hK (i := 1) 0 kd45_12.2.2.2.2.2.2.2.2.1 rfl rfl ?_
                refine X_if_ne hK 129 (by omega) kd45_12.2.2.2.2.2.2.2.2.2.1 (by decide) (fun c3122 => ?_) (fun c3122 => ?_)
                · refine X_aloadn hK (i := 0) 1 kd45_14.2.2.2.2.2.2.2.2.1 rfl rfl ?_
                  refine X_bipush hK kd45_14.2.2.2.2.2.2.2.2.2.1 (by decide) ?_
                  refine X_iloadn hK (i := 1) 0 kd45_14.2.2.2.2.2.2.2.2.2.2.1 rfl rfl ?_
                  refine X_if_eq hK 141 (by omega) kd45_14.2.2.2.2.2.2.2.2.2.2.2 (by decide) (fun c3123 => False.elim (by omega)) (fun c3123 => ?_)
                  refine X_bipush hK kd45_15.1 (by decide) ?_
                  refine X_goto hK 143 kd45_15.2.1 (by decide) ?_
                  refine X_callV hK [.int (iI 13), .int (iI 13)] [] lk_X12_354 (c_X12_drop _ _ _ _ _ S g2879 a0 13 13 q2880 q2881 z2257 q2882 wp wl np hs_a0 (by omega) (by omega) (by omega) eq2880 (by omega) eq2881 (by omega) ((hg2879 a0 13 0 43 hs_a0 (by decide)).trans ez2257) (by omega) eq2882 ((hg2879 a0 13 0 35 hs_a0 (by decide)).trans ((hg2250 a0 13 0 35 hs_a0 (by decide)).trans ((hg1920 a0 13 0 35 hs_a0 (by decide)).trans ((xs_k hg1 (by decide)).trans ewp)))) hs_wp ((hg2879 a0 13 0 38 hs_a0 (by decide)).trans ((hg2250 a0 13 0 38 hs_a0 (by decide)).trans ((hg1920 a0 13 0 38 hs_a0 (by decide)).trans ((xs_k hg1 (by decide)).trans ewl)))) hs_wl v3035) hs_a0 ⟨by decide, rfl⟩ kd45_15.2.2.2.1 rfl rfl (by simp [Value.category]) (by decide) (by decide) (by decide) (by decide) (fun r3124 S3126 g3125 pr3124 qr3124 hg3125 => ?_)
                  obtain ⟨rfl, rfl, k3127⟩ := pr3124
                  refine X_st [] rfl ?_
                  obtain ⟨z3128, z3129, ez3128, lz3128, uz3128, ez3129, lz3129, uz3129, Rz3128, xz3128, yz3128, oz3128⟩ := k3127
                  have hbz3128 := xRd.bd Rz3128 (by omega)
                  have lw3130 : xLow (1200 + np) (xv g3125 wp) (xv g wp) := xLow.tr v3036 oz3128 (by omega)
                  refine X_aloadn hK (i := 0) 1 kd45_15.2.2.2.2.1 rfl rfl ?_
                  refine X_getK hK fl_X12_77_13 hs_a0 ((hg3125 a0 13 0 38 hs_a0 (by decide)).trans ((hg2879 a0 13 0 38 hs_a0 (by decide)).trans ((hg2250 a0 13 0 38 hs_a0 (by decide)).trans ((hg1920 a0 13 0 38 hs_a0 (by decide)).trans ((xs_k hg1 (by decide)).trans ewl))))) kd45_15.2.2.2.2.2.1 ?_
                  refine X_aloadn hK (i := 0) 1 kd45_15.2.2.2.2.2.2.1 rfl rfl ?_
                  refine X_getK hK fl_X12_316_13 hs_a0 ez3129 kd45_15.2.2.2.2.2.2.2.1 ?_
                  refine X_iloadn hK (i := 1) 0 kd45_15.2.2.2.2.2.2.2.2.1 rfl rfl ?_
                  refine X_if_eq hK 163 (by omega) kd45_15.2.2.2.2.2.2.2.2.2.1 (by decide) (fun c3131 => False.elim (by omega)) (fun c3131 => ?_)
                  refine X_bipush hK kd45_15.2.2.2.2.2.2.2.2.2.2.1 (by decide) ?_
                  refine X_goto hK 165 kd45_15.2.2.2.2.2.2.2.2.2.2.2 (by decide) ?_
                  refine X_iast hK hs_wl (by decide) (by decide) sl_16200 (by omega) (by omega) (by omega) (by omega) kd45_16.2.1 (fun g3132 hg3132 => ?_)
                  refine X_aloadn hK (i := 0) 1 kd45_16.2.2.1 rfl rfl ?_
                  refine X_dup hK kd45_16.2.2.2.1 rfl ?_
                  refine X_getK hK fl_X12_316_13 hs_a0 ((xs_a hg3132 (xne hs_a0 hs_wl (by decide))).trans ez3129) kd45_16.2.2.2.2.1 ?_
                  refine X_iconst hK kd45_16.2.2.2.2.2.1 ?_
                  refine X_iadd hK kd45_16.2.2.2.2.2.2.1 ?_
                  refine X_puti hK fl_X12_316_13 hs_a0 (by decide) sl_13_42 (by omega) (by omega) kd45_16.2.2.2.2.2.2.2.1 (fun g3133 hg3133 => ?_)
                  refine X_aloadn hK (i := 0) 1 kd45_16.2.2.2.2.2.2.2.2.1 rfl rfl ?_
                  refine X_callV hK [] [] lk_X12_342 (c_X12_go _ _ _ _ _ S g3133 a0 hs_a0) hs_a0 ⟨by decide, rfl⟩ kd45_16.2.2.2.2.2.2.2.2.2.1 rfl rfl (by simp [Value.category]) (by decide) (by decide) (by decide) (by decide) (fun r3134 S3136 g3135 pr3134 qr3134 hg3135 => ?_)
                  obtain ⟨rfl, rfl⟩ := pr3134
                  refine X_st [] rfl ?_
                  refine X_goto hK 5 kd45_16.2.2.2.2.2.2.2.2.2.2.1 (by decide) ?_
                  refine X_lv [(0, .ref a0)] [1] rfl ?_
                  exact ihP2245  g3135 (xM.tr (xM_up (xM_ua (xM.tr (xM.tr (xM.tr (xM.tr xM.rf xLe.rf hg1920 (by decide)) xLe.rf hg2250 (by decide)) xLe.rf hg2879 (by decide)) xLe.rf hg3125 (by decide)) hg3132 hs_wl (by decide) (by decide)) hg3133 hs_a0 (by decide) (by decide)) xLe.rf hg3135 (by decide)) z3128 (by omega) (by omega) ((hg3135 a0 13 0 41 hs_a0 (by decide)).trans ((xs_k hg3133 (by decide)).trans ((xs_a hg3132 (xne hs_a0 hs_wl (by decide))).trans ez3128))) (z3129 + 1) (by omega) (by omega) ((hg3135 a0 13 0 42 hs_a0 (by decide)).trans (xs_s hg3133)) z2257 (by omega) (by omega) ((hg3135 a0 13 0 43 hs_a0 (by decide)).trans ((xs_k hg3133 (by decide)).trans ((xs_a hg3132 (xne hs_a0 hs_wl (by decide))).trans ((hg3125 a0 13 0 43 hs_a0 (by decide)).trans ((hg2879 a0 13 0 43 hs_a0 (by decide)).trans ez2257))))) q2882 (by omega) (by omega) ((hg3135 a0 13 0 44 hs_a0 (by decide)).trans ((xs_k hg3133 (by decide)).trans ((xs_a hg3132 (xne hs_a0 hs_wl (by decide))).trans ((hg3125 a0 13 0 44 hs_a0 (by decide)).trans eq2882)))) (by rw [(Eq.trans (Eq.trans (xv_m hg3135 hs_wp (by decide) (by decide)) (xv_a hg3133 (xne hs_wp hs_a0 (by decide)))) (xv_a hg3132 (xne hs_wp hs_wl (by decide))))]; exact xRd.and Rz3128 (by omega) (show xv g3135 wl z3129 = 13 from by rw [(xv_m hg3135 hs_wl (by decide) (by decide)), (xv_a hg3133 (xne hs_wl hs_a0 (by decide))), xv_s hg3132 (by omega)]) (fun i9 hi9 h09 => (show xv g3135 wl i9 = xv g2879 wl i9 from by rw [(xv_m hg3135 hs_wl (by decide) (by decide)), (xv_a hg3133 (xne hs_wl hs_a0 (by decide))), (xv_k (i := i9) hg3132 (by omega) (by omega) (by omega)), (xv_m hg3125 hs_wl (by decide) (by decide))]))) (by rw [(Eq.trans (Eq.trans (xv_m hg3135 hs_wp (by decide) (by decide)) (xv_a hg3133 (xne hs_wp hs_a0 (by decide)))) (xv_a hg3132 (xne hs_wp hs_wl (by decide))))]; exact lw3130) (by omega) (by omega)
                · refine X_aloadn hK (i := 0) 1 kd45_12.2.2.2.2.2.2.2.2.2.2.1 rfl rfl ?_
                  refine X_bipush hK kd45_12.2.2.2.2.2.2.2.2.2.2.2 (by decide) ?_
                  refine X_bipush hK kd45_13.1 (by decide) ?_
                  refine X_iconst hK kd45_13.2.1 ?_
                  refine X_iconst hK kd45_13.2.2.1 ?_
                  refine X_iconst hK kd45_13.2.2.2.1 ?_
                  refine X_callS hK [.int (iI 111), .int (iI 114), .int (iI 0), .int (iI 0), .int (iI 0)] [.ref a0] lk_X12_297 (c_X12_spelt _ _ _ _ _ S g2879 111 114 0 0 0 (by omega) (by omega) (by omega) (by omega) (by omega)) kd45_13.2.2.2.2.1 rfl rfl (by simp [Value.category]) (by decide) (by decide) (by decide) (by decide) (fun r3137 S3139 g3138 pr3137 qr3137 hg3138 => ?_)
                  obtain ⟨rfl, rfl, y3140, rfl⟩ := pr3137
                  refine X_st [.long y3140, .ref a0] rfl ?_
                  refine X_callV hK [.long y3140] [] lk_X12_301 (c_X12_isKey _ _ _ _ _ S g2879 a0 y3140 hs_a0) hs_a0 ⟨by decide, rfl⟩ kd45_13.2.2.2.2.2.1 rfl rfl (by simp [Value.category]) (by decide) (by decide) (by decide) (by decide) (fun r3141 S3143 g3142 pr3141 qr3141 hg3142 => ?_)
                  obtain ⟨rfl, rfl, z3144, rfl, lz3144, uz3144⟩ := pr3141
                  refine X_st [.int (iI z3144)] rfl ?_
                  refine X_if_ne hK 129 (by omega) kd45_13.2.2.2.2.2.2.1 (by decide) (fun c3145 => ?_) (fun c3145 => ?_)
                  · refine X_aloadn hK (i := 0) 1 kd45_14.2.2.2.2.2.2.2.2.1 rfl rfl ?_
                    refine X_bipush hK kd45_14.2.2.2.2.2.2.2.2.2.1 (by decide) ?_
                    refine X_iloadn hK (i := 1) 0 kd45_14.2.2.2.2.2.2.2.2.2.2.1 rfl rfl ?_
                    refine X_if_eq hK 141 (by omega) kd45_14.2.2.2.2.2.2.2.2.2.2.2 (by decide) (fun c3146 => ?_) (fun c3146 => False.elim (by omega))
                    refine X_bipush hK kd45_15.2.2.1 (by decide) ?_
                    refine X_callV hK [.int (iI 13), .int (iI 14)] [] lk_X12_354 (c_X12_drop _ _ _ _ _ S g2879 a0 13 14 q2880 q2881 z2257 q2882 wp wl np hs_a0 (by omega) (by omega) (by omega) eq2880 (by omega) eq2881 (by omega) ((hg2879 a0 13 0 43 hs_a0 (by decide)).trans ez2257) (by omega) eq2882 ((hg2879 a0 13 0 35 hs_a0 (by decide)).trans ((hg2250 a0 13 0 35 hs_a0 (by decide)).trans ((hg1920 a0 13 0 35 hs_a0 (by decide)).trans ((xs_k hg1 (by decide)).trans ewp)))) hs_wp ((hg2879 a0 13 0 38 hs_a0 (by decide)).trans ((hg2250 a0 13 0 38 hs_a0 (by decide)).trans ((hg1920 a0 13 0 38 hs_a0 (by decide)).trans ((xs_k hg1 (by decide)).trans ewl)))) hs_wl v3035) hs_a0 ⟨by decide, rfl⟩ kd45_15.2.2.2.1 rfl rfl (by simp [Value.category]) (by decide) (by decide) (by decide) (by decide) (fun r3147 S3149 g3148 pr3147 qr3147 hg3148 => ?_)
                    obtain ⟨rfl, rfl, k3150⟩ := pr3147
                    refine X_st [] rfl ?_
                    obtain ⟨z3151, z3152, ez3151, lz3151, uz3151, ez3152, lz3152, uz3152, Rz3151, xz3151, yz3151, oz3151⟩ := k3150
                    have hbz3151 := xRd.bd Rz3151 (by omega)
                    have lw3153 : xLow (1200 + np) (xv g3148 wp) (xv g wp) := xLow.tr v3036 oz3151 (by omega)
                    refine X_aloadn hK (i := 0) 1 kd45_15.2.2.2.2.1 rfl rfl ?_
                    refine X_getK hK fl_X12_77_13 hs_a0 ((hg3148 a0 13 0 38 hs_a0 (by decide)).trans ((hg2879 a0 13 0 38 hs_a0 (by decide)).trans ((hg2250 a0 13 0 38 hs_a0 (by decide)).trans ((hg1920 a0 13 0 38 hs_a0 (by decide)).trans ((xs_k hg1 (by decide)).trans ewl))))) kd45_15.2.2.2.2.2.1 ?_
                    refine X_aloadn hK (i := 0) 1 kd45_15.2.2.2.2.2.2.1 rfl rfl ?_
                    refine X_getK hK fl_X12_316_13 hs_a0 ez3152 kd45_15.2.2.2.2.2.2.2.1 ?_
                    refine X_iloadn hK (i := 1) 0 kd45_15.2.2.2.2.2.2.2.2.1 rfl rfl ?_
                    refine X_if_eq hK 163 (by omega) kd45_15.2.2.2.2.2.2.2.2.2.1 (by decide) (fun c3154 => ?_) (fun c3154 => False.elim (by omega))
                    refine X_bipush hK kd45_16.1 (by decide) ?_
                    refine X_iast hK hs_wl (by decide) (by decide) sl_16200 (by omega) (by omega) (by omega) (by omega) kd45_16.2.1 (fun g3155 hg3155 => ?_)
                    refine X_aloadn hK (i := 0) 1 kd45_16.2.2.1 rfl rfl ?_
                    refine X_dup hK kd45_16.2.2.2.1 rfl ?_
                    refine X_getK hK fl_X12_316_13 hs_a0 ((xs_a hg3155 (xne hs_a0 hs_wl (by decide))).trans ez3152) kd45_16.2.2.2.2.1 ?_
                    refine X_iconst hK kd45_16.2.2.2.2.2.1 ?_
                    refine X_iadd hK kd45_16.2.2.2.2.2.2.1 ?_
                    refine X_puti hK fl_X12_316_13 hs_a0 (by decide) sl_13_42 (by omega) (by omega) kd45_16.2.2.2.2.2.2.2.1 (fun g3156 hg3156 => ?_)
                    refine X_aloadn hK (i := 0) 1 kd45_16.2.2.2.2.2.2.2.2.1 rfl rfl ?_
                    refine X_callV hK [] [] lk_X12_342 (c_X12_go _ _ _ _ _ S g3156 a0 hs_a0) hs_a0 ⟨by decide, rfl⟩ kd45_16.2.2.2.2.2.2.2.2.2.1 rfl rfl (by simp [Value.category]) (by decide) (by decide) (by decide) (by decide) (fun r3157 S3159 g3158 pr3157 qr3157 hg3158 => ?_)
                    obtain ⟨rfl, rfl⟩ := pr3157
                    refine X_st [] rfl ?_
                    refine X_goto hK 5 kd45_16.2.2.2.2.2.2.2.2.2.2.1 (by decide) ?_
                    refine X_lv [(0, .ref a0)] [1] rfl ?_
                    exact ihP2245  g3158 (xM.tr (xM_up (xM_ua (xM.tr (xM.tr (xM.tr (xM.tr xM.rf xLe.rf hg1920 (by decide)) xLe.rf hg2250 (by decide)) xLe.rf hg2879 (by decide)) xLe.rf hg3148 (by decide)) hg3155 hs_wl (by decide) (by decide)) hg3156 hs_a0 (by decide) (by decide)) xLe.rf hg3158 (by decide)) z3151 (by omega) (by omega) ((hg3158 a0 13 0 41 hs_a0 (by decide)).trans ((xs_k hg3156 (by decide)).trans ((xs_a hg3155 (xne hs_a0 hs_wl (by decide))).trans ez3151))) (z3152 + 1) (by omega) (by omega) ((hg3158 a0 13 0 42 hs_a0 (by decide)).trans (xs_s hg3156)) z2257 (by omega) (by omega) ((hg3158 a0 13 0 43 hs_a0 (by decide)).trans ((xs_k hg3156 (by decide)).trans ((xs_a hg3155 (xne hs_a0 hs_wl (by decide))).trans ((hg3148 a0 13 0 43 hs_a0 (by decide)).trans ((hg2879 a0 13 0 43 hs_a0 (by decide)).trans ez2257))))) q2882 (by omega) (by omega) ((hg3158 a0 13 0 44 hs_a0 (by decide)).trans ((xs_k hg3156 (by decide)).trans ((xs_a hg3155 (xne hs_a0 hs_wl (by decide))).trans ((hg3148 a0 13 0 44 hs_a0 (by decide)).trans eq2882)))) (by rw [(Eq.trans (Eq.trans (xv_m hg3158 hs_wp (by decide) (by decide)) (xv_a hg3156 (xne hs_wp hs_a0 (by decide)))) (xv_a hg3155 (xne hs_wp hs_wl (by decide))))]; exact xRd.or Rz3151 (by omega) (show xv g3158 wl z3152 = 14 from by rw [(xv_m hg3158 hs_wl (by decide) (by decide)), (xv_a hg3156 (xne hs_wl hs_a0 (by decide))), xv_s hg3155 (by omega)]) (fun i9 hi9 h09 => (show xv g3158 wl i9 = xv g2879 wl i9 from by rw [(xv_m hg3158 hs_wl (by decide) (by decide)), (xv_a hg3156 (xne hs_wl hs_a0 (by decide))), (xv_k (i := i9) hg3155 (by omega) (by omega) (by omega)), (xv_m hg3148 hs_wl (by decide) (by decide))]))) (by rw [(Eq.trans (Eq.trans (xv_m hg3158 hs_wp (by decide) (by decide)) (xv_a hg3156 (xne hs_wp hs_a0 (by decide)))) (xv_a hg3155 (xne hs_wp hs_wl (by decide))))]; exact lw3153) (by omega) (by omega)
                  · refine X_aloadn hK (i := 0) 1 kd45_13.2.2.2.2.2.2.2.1 rfl rfl ?_
                    refine X_callV hK [] [] lk_X12_351 (c2_isOpen _ _ _ _ _ S g2879 a0 q2881 wl hs_a0 (by omega) eq2881 ((hg2879 a0 13 0 38 hs_a0 (by decide)).trans ((hg2250 a0 13 0 38 hs_a0 (by decide)).trans ((hg1920 a0 13 0 38 hs_a0 (by decide)).trans ((xs_k hg1 (by decide)).trans ewl)))) hs_wl) hs_a0 ⟨by decide, rfl⟩ kd45_13.2.2.2.2.2.2.2.2.1 rfl rfl (by simp [Value.category]) (by decide) (by decide) (by decide) (by decide) (fun r3160 S3162 g3161 pr3160 qr3160 hg3161 => ?_)
                    obtain ⟨rfl, rfl, z3163, rfl, lz3163, uz3163, k3164⟩ := pr3160
                    refine X_st [.int (iI z3163)] rfl ?_
                    refine X_if_eq hK 119 (by omega) kd45_13.2.2.2.2.2.2.2.2.2.1 (by decide) (fun c3165 => ?_) (fun c3165 => ?_)
                    · refine X_aloadn hK (i := 0) 1 kd45_14.2.2.1 rfl rfl ?_
                      refine X_bipush hK kd45_14.2.2.2.1 (by decide) ?_
                      refine X_bipush hK kd45_14.2.2.2.2.1 (by decide) ?_
                      refine X_callV hK [.int (iI 13), .int (iI 14)] [] lk_X12_354 (c_X12_drop _ _ _ _ _ S g2879 a0 13 14 q2880 q2881 z2257 q2882 wp wl np hs_a0 (by omega) (by omega) (by omega) eq2880 (by omega) eq2881 (by omega) ((hg2879 a0 13 0 43 hs_a0 (by decide)).trans ez2257) (by omega) eq2882 ((hg2879 a0 13 0 35 hs_a0 (by decide)).trans ((hg2250 a0 13 0 35 hs_a0 (by decide)).trans ((hg1920 a0 13 0 35 hs_a0 (by decide)).trans ((xs_k hg1 (by decide)).trans ewp)))) hs_wp ((hg2879 a0 13 0 38 hs_a0 (by decide)).trans ((hg2250 a0 13 0 38 hs_a0 (by decide)).trans ((hg1920 a0 13 0 38 hs_a0 (by decide)).trans ((xs_k hg1 (by decide)).trans ewl)))) hs_wl v3035) hs_a0 ⟨by decide, rfl⟩ kd45_14.2.2.2.2.2.1 rfl rfl (by simp [Value.category]) (by decide) (by decide) (by decide) (by decide) (fun r3166 S3168 g3167 pr3166 qr3166 hg3167 => ?_)
                      obtain ⟨rfl, rfl, k3169⟩ := pr3166
                      refine X_st [] rfl ?_
                      obtain ⟨z3170, z3171, ez3170, lz3170, uz3170, ez3171, lz3171, uz3171, Rz3170, xz3170, yz3170, oz3170⟩ := k3169
                      have hbz3170 := xRd.bd Rz3170 (by omega)
                      have lw3172 : xLow (1200 + np) (xv g3167 wp) (xv g wp) := xLow.tr v3036 oz3170 (by omega)
                      refine X_iconst hK kd45_14.2.2.2.2.2.2.1 ?_
                      exact hret _ _ _ _ _ _ _ kd45_14.2.2.2.2.2.2.2.1 (by omega) (by omega) ⟨rfl, 1, rfl, (by omega), (by omega), ⟨z3170, q2882, z2257, ez3170, by omega, by omega, ((hg3167 a0 13 0 43 hs_a0 (by decide)).trans ((hg2879 a0 13 0 43 hs_a0 (by decide)).trans ez2257)), by omega, by omega, ((hg3167 a0 13 0 44 hs_a0 (by decide)).trans eq2882), by omega, by omega, (fun _ => ⟨by omega, (xRd.fin Rz3170).2, (xRd.fin Rz3170).1⟩), lw3172⟩⟩ (Nat.le_refl _) (Nat.le_refl _)
                    · refine X_aloadn hK (i := 0) 1 kd45_13.2.2.2.2.2.2.2.2.2.2.1 rfl rfl ?_
                      refine X_iconst hK kd45_13.2.2.2.2.2.2.2.2.2.2.2 ?_
                      refine X_callV hK [.int (iI 1)] [] lk_X12_333 (c2_bad _ _ _ _ _ S g2879 a0 1 hs_a0 (by omega)) hs_a0 ⟨by decide, rfl⟩ kd45_14.1 rfl rfl (by simp [Value.category]) (by decide) (by decide) (by decide) (by decide) (fun r3173 S3175 g3174 pr3173 qr3173 hg3174 => ?_)
                      obtain ⟨rfl, z3176, rfl, lz3176, uz3176, k3177⟩ := pr3173
                      refine X_st [.int (iI z3176)] rfl ?_
                      exact hret _ _ _ _ _ _ _ kd45_14.2.1 (by omega) (by omega) ⟨rfl, z3176, rfl, (by omega), (by omega), ⟨q2880, q2882, z2257, ((hg3174 a0 13 0 41 hs_a0 (by decide)).trans eq2880), by omega, by omega, ((hg3174 a0 13 0 43 hs_a0 (by decide)).trans ((hg2879 a0 13 0 43 hs_a0 (by decide)).trans ez2257)), by omega, by omega, ((hg3174 a0 13 0 44 hs_a0 (by decide)).trans eq2882), by omega, by omega, (fun h => by omega), (by rw [(xv_m hg3174 hs_wp (by decide) (by decide))]; exact v3036)⟩⟩ (Nat.le_refl _) (Nat.le_refl _)
              · refine X_aloadn hK (i := 0) 0 kd45_10.2.2.1 rfl rfl ?_
                refine X_bipush hK kd45_10.2.2.2.1 (by decide) ?_
                refine X_bipush hK kd45_10.2.2.2.2.1 (by decide) ?_
                refine X_callV hK [.int (iI 13), .int (iI 14)] [] lk_X12_354 (c_X12_drop _ _ _ _ _ S g2879 a0 13 14 q2880 q2881 z2257 q2882 wp wl np hs_a0 (by omega) (by omega) (by omega) eq2880 (by omega) eq2881 (by omega) ((hg2879 a0 13 0 43 hs_a0 (by decide)).trans ez2257) (by omega) eq2882 ((hg2879 a0 13 0 35 hs_a0 (by decide)).trans ((hg2250 a0 13 0 35 hs_a0 (by decide)).trans ((hg1920 a0 13 0 35 hs_a0 (by decide)).trans ((xs_k hg1 (by decide)).trans ewp)))) hs_wp ((hg2879 a0 13 0 38 hs_a0 (by decide)).trans ((hg2250 a0 13 0 38 hs_a0 (by decide)).trans ((hg1920 a0 13 0 38 hs_a0 (by decide)).trans ((xs_k hg1 (by decide)).trans ewl)))) hs_wl v3035) hs_a0 ⟨by decide, rfl⟩ kd45_10.2.2.2.2.2.1 rfl rfl (by simp [Value.category]) (by decide) (by decide) (by decide) (by decide) (fun r3178 S3180 g3179 pr3178 qr3178 hg3179 => ?_)
                obtain ⟨rfl, rfl, k3181⟩ := pr3178
                refine X_st [] rfl ?_
                obtain ⟨z3182, z3183, ez3182, lz3182, uz3182, ez3183, lz3183, uz3183, Rz3182, xz3182, yz3182, oz3182⟩ := k3181
                have hbz3182 := xRd.bd Rz3182 (by omega)
                have lw3184 : xLow (1200 + np) (xv g3179 wp) (xv g wp) := xLow.tr v3036 oz3182 (by omega)
                have hph3185 : 1 ≤ z3183 := by obtain ⟨k9, h1, h2, h3⟩ := k3112 (by omega); rcases (show k9 < z3183 ∨ z3183 ≤ k9 by omega) with c9 | c9 <;> first | omega | (have h9 := yz3182 k9 c9 (by omega); omega)
                have R3186 : xRd (xv g3179 wp) (xv g2879 wl) np z3182 (z3183 - 1) z2257 (q2882 - 1) 0 := xRd.paren Rz3182 (by omega) (by omega)
                have hbR3186 := xRd.bd R3186 (by omega)
                refine X_aloadn hK (i := 0) 0 kd45_10.2.2.2.2.2.2.1 rfl rfl ?_
                refine X_dup hK kd45_10.2.2.2.2.2.2.2.1 rfl ?_
                refine X_getK hK fl_X12_316_13 hs_a0 ez3183 kd45_10.2.2.2.2.2.2.2.2.1 ?_
                refine X_iconst hK kd45_10.2.2.2.2.2.2.2.2.2.1 ?_
                refine X_isub hK kd45_10.2.2.2.2.2.2.2.2.2.2.1 ?_
                refine X_puti hK fl_X12_316_13 hs_a0 (by decide) sl_13_42 (by omega) (by omega) kd45_10.2.2.2.2.2.2.2.2.2.2.2 (fun g3187 hg3187 => ?_)
                refine X_aloadn hK (i := 0) 0 kd45_11.1 rfl rfl ?_
                refine X_dup hK kd45_11.2.1 rfl ?_
                refine X_getK hK fl_X12_339_13 hs_a0 ((xs_k hg3187 (by decide)).trans ((hg3179 a0 13 0 44 hs_a0 (by decide)).trans eq2882)) kd45_11.2.2.1 ?_
                refine X_iconst hK kd45_11.2.2.2.1 ?_
                refine X_isub hK kd45_11.2.2.2.2.1 ?_
                refine X_puti hK fl_X12_339_13 hs_a0 (by decide) sl_13_44 (by omega) (by omega) kd45_11.2.2.2.2.2.1 (fun g3188 hg3188 => ?_)
                refine X_aloadn hK (i := 0) 0 kd45_11.2.2.2.2.2.2.1 rfl rfl ?_
                refine X_callV hK [] [] lk_X12_342 (c_X12_go _ _ _ _ _ S g3188 a0 hs_a0) hs_a0 ⟨by decide, rfl⟩ kd45_11.2.2.2.2.2.2.2.1 rfl rfl (by simp [Value.category]) (by decide) (by decide) (by decide) (by decide) (fun r3189 S3191 g3190 pr3189 qr3189 hg3190 => ?_)
                obtain ⟨rfl, rfl⟩ := pr3189
                refine X_st [] rfl ?_
                refine X_aloadn hK (i := 0) 0 kd45_11.2.2.2.2.2.2.2.2.1 rfl rfl ?_
                refine X_callV hK [] [] lk_X12_345 (c_X12_dropNots _ _ _ _ _ S g3190 a0 z3182 (z3183 - 1) z2257 (q2882 - 1) wp wl np hs_a0 (by omega) ((hg3190 a0 13 0 41 hs_a0 (by decide)).trans ((xs_k hg3188 (by decide)).trans ((xs_k hg3187 (by decide)).trans ez3182))) (by omega) ((hg3190 a0 13 0 42 hs_a0 (by decide)).trans ((xs_k hg3188 (by decide)).trans (xs_s hg3187))) (by omega) ((hg3190 a0 13 0 43 hs_a0 (by decide)).trans ((xs_k hg3188 (by decide)).trans ((xs_k hg3187 (by decide)).trans ((hg3179 a0 13 0 43 hs_a0 (by decide)).trans ((hg2879 a0 13 0 43 hs_a0 (by decide)).trans ez2257))))) (by omega) ((hg3190 a0 13 0 44 hs_a0 (by decide)).trans (xs_s hg3188)) ((hg3190 a0 13 0 35 hs_a0 (by decide)).trans ((xs_k hg3188 (by decide)).trans ((xs_k hg3187 (by decide)).trans ((hg3179 a0 13 0 35 hs_a0 (by decide)).trans ((hg2879 a0 13 0 35 hs_a0 (by decide)).trans ((hg2250 a0 13 0 35 hs_a0 (by decide)).trans ((hg1920 a0 13 0 35 hs_a0 (by decide)).trans ((xs_k hg1 (by decide)).trans ewp)))))))) hs_wp ((hg3190 a0 13 0 38 hs_a0 (by decide)).trans ((xs_k hg3188 (by decide)).trans ((xs_k hg3187 (by decide)).trans ((hg3179 a0 13 0 38 hs_a0 (by decide)).trans ((hg2879 a0 13 0 38 hs_a0 (by decide)).trans ((hg2250 a0 13 0 38 hs_a0 (by decide)).trans ((hg1920 a0 13 0 38 hs_a0 (by decide)).trans ((xs_k hg1 (by decide)).trans ewl)))))))) hs_wl (by rw [(Eq.trans (Eq.trans (xv_m hg3190 hs_wp (by decide) (by decide)) (xv_a hg3188 (xne hs_wp hs_a0 (by decide)))) (xv_a hg3187 (xne hs_wp hs_a0 (by decide)))), (Eq.trans (Eq.trans (Eq.trans (xv_m hg3190 hs_wl (by decide) (by decide)) (xv_a hg3188 (xne hs_wl hs_a0 (by decide)))) (xv_a hg3187 (xne hs_wl hs_a0 (by decide)))) (xv_m hg3179 hs_wl (by decide) (by decide)))]; exact R3186)) hs_a0 ⟨by decide, rfl⟩ kd45_11.2.2.2.2.2.2.2.2.2.1 rfl rfl (by simp [Value.category]) (by decide) (by decide) (by decide) (by decide) (fun r3192 S3194 g3193 pr3192 qr3192 hg3193 => ?_)
                obtain ⟨rfl, rfl, k3195⟩ := pr3192
                refine X_st [] rfl ?_
                obtain ⟨z3196, z3197, z3198, ez3196, lz3196, uz3196, ez3197, lz3197, uz3197, ez3198, lz3198, uz3198, Rz3196, oz3196⟩ := k3195
                have hbz3196 := xRd.bd Rz3196 (by omega)
                have lw3199 : xLow (1200 + np) (xv g3193 wp) (xv g wp) := xLow.tr (by rw [(Eq.trans (Eq.trans (xv_m hg3190 hs_wp (by decide) (by decide)) (xv_a hg3188 (xne hs_wp hs_a0 (by decide)))) (xv_a hg3187 (xne hs_wp hs_a0 (by decide))))]; exact lw3184) oz3196 (by omega)
                refine X_goto hK 14 kd45_11.2.2.2.2.2.2.2.2.2.2.1 (by decide) ?_
                exact ihP3034  g3193 (xM.tr (xM.tr (xM_up (xM_up (xM.tr (xM.tr xM.rf xLe.rf hg2879 (by decide)) xLe.rf hg3179 (by decide)) hg3187 hs_a0 (by decide) (by decide)) hg3188 hs_a0 (by decide) (by decide)) xLe.rf hg3190 (by decide)) xLe.rf hg3193 (by decide)) z3196 (by omega) (by omega) ez3196 z3197 (by omega) (by omega) ez3197 z3198 (by omega) (by omega) ez3198 (by rw [(xv_m hg3193 hs_wl (by decide) (by decide))]; exact Rz3196) lw3199 (by omega) (by omega)
        exact P3034 ((z2255 : Int).toNat + 1) g2250 xM.rf z2254 (by omega) (by omega) ez2254 z2255 (by omega) (by omega) ez2255 z2256 (by omega) (by omega) ez2256 (Rz2254 (by omega)).1 lw2258 (by have h9 := (Rz2254 (by omega)).2; omega) (by omega)
      · refine X_iconst hK kd45_9.2.2.2.2.2.1 ?_
        exact hret _ _ _ _ _ _ _ kd45_9.2.2.2.2.2.2.1 (by omega) (by omega) ⟨rfl, 0, rfl, (by omega), (by omega), ⟨z2254, z2256, z2257, ez2254, by omega, by omega, ez2257, by omega, by omega, ez2256, by omega, by omega, (fun h => by omega), lw2258⟩⟩ (Nat.le_refl _) (Nat.le_refl _)
  exact P2245 ((50 - no : Int).toNat + 1) g1 xM.rf np (by omega) (by omega) ((xs_k hg1 (by decide)).trans enp) 0 (by omega) (by omega) (xs_s hg1) no (by omega) (by omega) ((xs_k hg1 (by decide)).trans eno) nw (by omega) (by omega) ((xs_k hg1 (by decide)).trans enw) (xRd.start (by omega) (by omega) (by omega) (by omega) (by omega)) (by rw [(xv_a hg1 (xne hs_wp hs_a0 (by decide)))]; exact xLow.rf) (by omega) (by omega)
