theorem m_8_21 : Cond.fieldLink RX12 68 "PaperBoysModel" "piece" "[I" ∈ wsL_law := ch_8 _ (List.mem_of_getElem? (i := 21) rfl)
theorem m_8_22 : Cond.fieldLink RX12 71 "PaperBoysModel" "pieceSign" "[I" ∈ wsL_law := ch_8 _ (List.mem_of_getElem? (i := 22) rfl)
theorem m_8_23 : Cond.fieldLink RX12 74 "PaperBoysModel" "pieceNumber" "[I" ∈ wsL_law := ch_8 _ (List.mem_of_getElem? (i := 23) rfl)
theorem m_9_0 : Cond.fieldLink RX12 77 "PaperBoysModel" "pile" "[I" ∈ wsL_law := ch_9 _ (List.mem_of_getElem? (i := 0) rfl)
theorem m_28_10 : Cond.fieldLink RX12 313 "PaperBoysModel" "pieces" "I" ∈ wsL_law := ch_28 _ (List.mem_of_getElem? (i := 10) rfl)
theorem m_28_18 : Cond.fieldLink RX12 336 "PaperBoysModel" "ones" "I" ∈ wsL_law := ch_28 _ (List.mem_of_getElem? (i := 18) rfl)
theorem m_28_19 : Cond.fieldLink RX12 339 "PaperBoysModel" "within" "I" ∈ wsL_law := ch_28 _ (List.mem_of_getElem? (i := 19) rfl)
theorem m_28_22 : Cond.methodLink RX12 342 yX12_go ∈ wsL_law := ch_28 _ (List.mem_of_getElem? (i := 22) rfl)
theorem m_28_23 : Cond.instanceMethod yX12_go ∈ wsL_law := ch_28 _ (List.mem_of_getElem? (i := 23) rfl)
theorem m_29_0 : Cond.selects RX12 yX12_go yX12_go ∈ wsL_law := ch_29 _ (List.mem_of_getElem? (i := 0) rfl)
theorem m_29_1 : Cond.code yX12_go cX12_go 5 none ∈ wsL_law := ch_29 _ (List.mem_of_getElem? (i := 1) rfl)
theorem m_30_12 : Cond.methodLink RX12 333 yX12_bad ∈ wsL_law := ch_30 _ (List.mem_of_getElem? (i := 12) rfl)
theorem m_30_13 : Cond.instanceMethod yX12_bad ∈ wsL_law := ch_30 _ (List.mem_of_getElem? (i := 13) rfl)
theorem m_30_14 : Cond.selects RX12 yX12_bad yX12_bad ∈ wsL_law := ch_30 _ (List.mem_of_getElem? (i := 14) rfl)
theorem m_30_15 : Cond.code yX12_bad cX12_bad 2 (some .boolean) ∈ wsL_law := ch_30 _ (List.mem_of_getElem? (i := 15) rfl)
theorem m_30_16 : Cond.methodLink RX12 326 yX12_isNot ∈ wsL_law := ch_30 _ (List.mem_of_getElem? (i := 16) rfl)
theorem m_30_17 : Cond.instanceMethod yX12_isNot ∈ wsL_law := ch_30 _ (List.mem_of_getElem? (i := 17) rfl)
theorem m_30_18 : Cond.selects RX12 yX12_isNot yX12_isNot ∈ wsL_law := ch_30 _ (List.mem_of_getElem? (i := 18) rfl)
theorem m_30_19 : Cond.code yX12_isNot cX12_isNot 1 (some .boolean) ∈ wsL_law := ch_30 _ (List.mem_of_getElem? (i := 19) rfl)
theorem m_31_0 : Cond.fieldLink RX12 316 "PaperBoysModel" "top" "I" ∈ wsL_law := ch_31 _ (List.mem_of_getElem? (i := 0) rfl)
theorem m_31_1 : Cond.methodLink RX12 348 yX12_readOne ∈ wsL_law := ch_31 _ (List.mem_of_getElem? (i := 1) rfl)
theorem m_31_2 : Cond.instanceMethod yX12_readOne ∈ wsL_law := ch_31 _ (List.mem_of_getElem? (i := 2) rfl)
theorem m_31_3 : Cond.selects RX12 yX12_readOne yX12_readOne ∈ wsL_law := ch_31 _ (List.mem_of_getElem? (i := 3) rfl)
theorem m_31_4 : Cond.code yX12_readOne cX12_readOne 3 (some .boolean) ∈ wsL_law := ch_31 _ (List.mem_of_getElem? (i := 4) rfl)
theorem m_31_5 : Cond.methodLink RX12 323 yX12_atom ∈ wsL_law := ch_31 _ (List.mem_of_getElem? (i := 5) rfl)
theorem m_31_6 : Cond.instanceMethod yX12_atom ∈ wsL_law := ch_31 _ (List.mem_of_getElem? (i := 6) rfl)
theorem m_31_7 : Cond.selects RX12 yX12_atom yX12_atom ∈ wsL_law := ch_31 _ (List.mem_of_getElem? (i := 7) rfl)
theorem m_31_8 : Cond.code yX12_atom cX12_atom 1 (some .int) ∈ wsL_law := ch_31 _ (List.mem_of_getElem? (i := 8) rfl)
theorem m_31_13 : Cond.methodLink RX12 330 yX12_isSign ∈ wsL_law := ch_31 _ (List.mem_of_getElem? (i := 13) rfl)
theorem m_31_14 : Cond.instanceMethod yX12_isSign ∈ wsL_law := ch_31 _ (List.mem_of_getElem? (i := 14) rfl)
theorem m_31_15 : Cond.selects RX12 yX12_isSign yX12_isSign ∈ wsL_law := ch_31 _ (List.mem_of_getElem? (i := 15) rfl)
theorem m_31_16 : Cond.code yX12_isSign cX12_isSign 2 (some .boolean) ∈ wsL_law := ch_31 _ (List.mem_of_getElem? (i := 16) rfl)
theorem m_31_17 : Cond.methodLink RX12 319 yX12_emit ∈ wsL_law := ch_31 _ (List.mem_of_getElem? (i := 17) rfl)
theorem m_31_18 : Cond.instanceMethod yX12_emit ∈ wsL_law := ch_31 _ (List.mem_of_getElem? (i := 18) rfl)
theorem m_31_19 : Cond.selects RX12 yX12_emit yX12_emit ∈ wsL_law := ch_31 _ (List.mem_of_getElem? (i := 19) rfl)
theorem m_31_20 : Cond.code yX12_emit cX12_emit 5 none ∈ wsL_law := ch_31 _ (List.mem_of_getElem? (i := 20) rfl)
theorem m_31_21 : Cond.methodLink RX12 345 yX12_dropNots ∈ wsL_law := ch_31 _ (List.mem_of_getElem? (i := 21) rfl)
theorem m_31_22 : Cond.instanceMethod yX12_dropNots ∈ wsL_law := ch_31 _ (List.mem_of_getElem? (i := 22) rfl)
theorem m_31_23 : Cond.selects RX12 yX12_dropNots yX12_dropNots ∈ wsL_law := ch_31 _ (List.mem_of_getElem? (i := 23) rfl)
theorem m_32_0 : Cond.code yX12_dropNots cX12_dropNots 1 none ∈ wsL_law := ch_32 _ (List.mem_of_getElem? (i := 0) rfl)
theorem m_32_1 : Cond.methodLink RX12 351 yX12_isOpen ∈ wsL_law := ch_32 _ (List.mem_of_getElem? (i := 1) rfl)
theorem m_32_2 : Cond.instanceMethod yX12_isOpen ∈ wsL_law := ch_32 _ (List.mem_of_getElem? (i := 2) rfl)
theorem m_32_3 : Cond.selects RX12 yX12_isOpen yX12_isOpen ∈ wsL_law := ch_32 _ (List.mem_of_getElem? (i := 3) rfl)
theorem m_32_4 : Cond.code yX12_isOpen cX12_isOpen 2 (some .boolean) ∈ wsL_law := ch_32 _ (List.mem_of_getElem? (i := 4) rfl)
theorem m_32_5 : Cond.methodLink RX12 354 yX12_drop ∈ wsL_law := ch_32 _ (List.mem_of_getElem? (i := 5) rfl)
theorem m_32_6 : Cond.instanceMethod yX12_drop ∈ wsL_law := ch_32 _ (List.mem_of_getElem? (i := 6) rfl)
theorem m_32_7 : Cond.selects RX12 yX12_drop yX12_drop ∈ wsL_law := ch_32 _ (List.mem_of_getElem? (i := 7) rfl)
theorem m_32_8 : Cond.code yX12_drop cX12_drop 3 none ∈ wsL_law := ch_32 _ (List.mem_of_getElem? (i := 8) rfl)
theorem dX12_drop_0 : decode cX12_drop 0 = .ok (.aload_n 0, 1) := by decide +kernel
theorem dX12_drop_1 : decode cX12_drop 1 = .ok (.getfield 316, 3) := by decide +kernel
theorem dX12_drop_4 : decode cX12_drop 4 = .ok (.ifCond .le 50, 3) := by decide +kernel
theorem dX12_drop_7 : decode cX12_drop 7 = .ok (.aload_n 0, 1) := by decide +kernel
theorem dX12_drop_8 : decode cX12_drop 8 = .ok (.getfield 77, 3) := by decide +kernel
theorem dX12_drop_11 : decode cX12_drop 11 = .ok (.aload_n 0, 1) := by decide +kernel
theorem dX12_drop_12 : decode cX12_drop 12 = .ok (.getfield 316, 3) := by decide +kernel
theorem dX12_drop_15 : decode cX12_drop 15 = .ok (.iconst 1, 1) := by decide +kernel
theorem dX12_drop_16 : decode cX12_drop 16 = .ok (.isub, 1) := by decide +kernel
theorem dX12_drop_17 : decode cX12_drop 17 = .ok (.iaload, 1) := by decide +kernel
theorem dX12_drop_18 : decode cX12_drop 18 = .ok (.iload_n 1, 1) := by decide +kernel
theorem dX12_drop_19 : decode cX12_drop 19 = .ok (.iload_n 2, 1) := by decide +kernel
theorem dX12_drop_20 : decode cX12_drop 20 = .ok (.invokestatic 211, 3) := by decide +kernel
theorem dX12_drop_23 : decode cX12_drop 23 = .ok (.ifCond .eq 31, 3) := by decide +kernel
theorem dX12_drop_26 : decode cX12_drop 26 = .ok (.aload_n 0, 1) := by decide +kernel
theorem dX12_drop_27 : decode cX12_drop 27 = .ok (.dup, 1) := by decide +kernel
theorem dX12_drop_28 : decode cX12_drop 28 = .ok (.getfield 316, 3) := by decide +kernel
theorem dX12_drop_31 : decode cX12_drop 31 = .ok (.iconst 1, 1) := by decide +kernel
theorem dX12_drop_32 : decode cX12_drop 32 = .ok (.isub, 1) := by decide +kernel
theorem dX12_drop_33 : decode cX12_drop 33 = .ok (.putfield 316, 3) := by decide +kernel
theorem dX12_drop_36 : decode cX12_drop 36 = .ok (.aload_n 0, 1) := by decide +kernel
theorem dX12_drop_37 : decode cX12_drop 37 = .ok (.aload_n 0, 1) := by decide +kernel
theorem dX12_drop_38 : decode cX12_drop 38 = .ok (.getfield 77, 3) := by decide +kernel
theorem dX12_drop_41 : decode cX12_drop 41 = .ok (.aload_n 0, 1) := by decide +kernel
theorem dX12_drop_42 : decode cX12_drop 42 = .ok (.getfield 316, 3) := by decide +kernel
theorem dX12_drop_45 : decode cX12_drop 45 = .ok (.iaload, 1) := by decide +kernel
theorem dX12_drop_46 : decode cX12_drop 46 = .ok (.iconst 0, 1) := by decide +kernel
theorem dX12_drop_47 : decode cX12_drop 47 = .ok (.iconst 0, 1) := by decide +kernel
theorem dX12_drop_48 : decode cX12_drop 48 = .ok (.invokevirtual 319, 3) := by decide +kernel
theorem dX12_drop_51 : decode cX12_drop 51 = .ok (.goto (-51), 3) := by decide +kernel
theorem dX12_drop_54 : decode cX12_drop 54 = .ok (.return_, 1) := by decide +kernel
theorem dX12_dropNots_0 : decode cX12_dropNots 0 = .ok (.aload_n 0, 1) := by decide +kernel
theorem dX12_dropNots_1 : decode cX12_dropNots 1 = .ok (.getfield 316, 3) := by decide +kernel
theorem dX12_dropNots_4 : decode cX12_dropNots 4 = .ok (.ifCond .le 50, 3) := by decide +kernel
theorem dX12_dropNots_7 : decode cX12_dropNots 7 = .ok (.aload_n 0, 1) := by decide +kernel
theorem dX12_dropNots_8 : decode cX12_dropNots 8 = .ok (.getfield 77, 3) := by decide +kernel
theorem dX12_dropNots_11 : decode cX12_dropNots 11 = .ok (.aload_n 0, 1) := by decide +kernel
theorem dX12_dropNots_12 : decode cX12_dropNots 12 = .ok (.getfield 316, 3) := by decide +kernel
theorem dX12_dropNots_15 : decode cX12_dropNots 15 = .ok (.iconst 1, 1) := by decide +kernel
theorem dX12_dropNots_16 : decode cX12_dropNots 16 = .ok (.isub, 1) := by decide +kernel
theorem dX12_dropNots_17 : decode cX12_dropNots 17 = .ok (.iaload, 1) := by decide +kernel
theorem dX12_dropNots_18 : decode cX12_dropNots 18 = .ok (.bipush 12, 2) := by decide +kernel
theorem dX12_dropNots_20 : decode cX12_dropNots 20 = .ok (.if_icmp .ne 34, 3) := by decide +kernel
theorem dX12_dropNots_23 : decode cX12_dropNots 23 = .ok (.aload_n 0, 1) := by decide +kernel
theorem dX12_dropNots_24 : decode cX12_dropNots 24 = .ok (.dup, 1) := by decide +kernel
theorem dX12_dropNots_25 : decode cX12_dropNots 25 = .ok (.getfield 316, 3) := by decide +kernel
theorem dX12_dropNots_28 : decode cX12_dropNots 28 = .ok (.iconst 1, 1) := by decide +kernel
theorem dX12_dropNots_29 : decode cX12_dropNots 29 = .ok (.isub, 1) := by decide +kernel
theorem dX12_dropNots_30 : decode cX12_dropNots 30 = .ok (.putfield 316, 3) := by decide +kernel
theorem dX12_dropNots_33 : decode cX12_dropNots 33 = .ok (.aload_n 0, 1) := by decide +kernel
theorem dX12_dropNots_34 : decode cX12_dropNots 34 = .ok (.dup, 1) := by decide +kernel
theorem dX12_dropNots_35 : decode cX12_dropNots 35 = .ok (.getfield 339, 3) := by decide +kernel
theorem dX12_dropNots_38 : decode cX12_dropNots 38 = .ok (.iconst 1, 1) := by decide +kernel
theorem dX12_dropNots_39 : decode cX12_dropNots 39 = .ok (.isub, 1) := by decide +kernel
theorem dX12_dropNots_40 : decode cX12_dropNots 40 = .ok (.putfield 339, 3) := by decide +kernel
theorem dX12_dropNots_43 : decode cX12_dropNots 43 = .ok (.aload_n 0, 1) := by decide +kernel
theorem dX12_dropNots_44 : decode cX12_dropNots 44 = .ok (.bipush 12, 2) := by decide +kernel
theorem dX12_dropNots_46 : decode cX12_dropNots 46 = .ok (.iconst 0, 1) := by decide +kernel
theorem dX12_dropNots_47 : decode cX12_dropNots 47 = .ok (.iconst 0, 1) := by decide +kernel
theorem dX12_dropNots_48 : decode cX12_dropNots 48 = .ok (.invokevirtual 319, 3) := by decide +kernel
theorem dX12_dropNots_51 : decode cX12_dropNots 51 = .ok (.goto (-51), 3) := by decide +kernel
theorem dX12_dropNots_54 : decode cX12_dropNots 54 = .ok (.return_, 1) := by decide +kernel
theorem dX12_emit_0 : decode cX12_emit 0 = .ok (.sipush 1200, 3) := by decide +kernel
theorem dX12_emit_3 : decode cX12_emit 3 = .ok (.aload_n 0, 1) := by decide +kernel
theorem dX12_emit_4 : decode cX12_emit 4 = .ok (.getfield 313, 3) := by decide +kernel
theorem dX12_emit_7 : decode cX12_emit 7 = .ok (.iadd, 1) := by decide +kernel
theorem dX12_emit_8 : decode cX12_emit 8 = .ok (.istore 4, 2) := by decide +kernel
theorem dX12_emit_10 : decode cX12_emit 10 = .ok (.aload_n 0, 1) := by decide +kernel
theorem dX12_emit_11 : decode cX12_emit 11 = .ok (.getfield 68, 3) := by decide +kernel
theorem dX12_emit_14 : decode cX12_emit 14 = .ok (.iload 4, 2) := by decide +kernel
theorem dX12_emit_16 : decode cX12_emit 16 = .ok (.iload_n 1, 1) := by decide +kernel
theorem dX12_emit_17 : decode cX12_emit 17 = .ok (.iastore, 1) := by decide +kernel
theorem dX12_emit_18 : decode cX12_emit 18 = .ok (.aload_n 0, 1) := by decide +kernel
theorem dX12_emit_19 : decode cX12_emit 19 = .ok (.getfield 71, 3) := by decide +kernel
theorem dX12_emit_22 : decode cX12_emit 22 = .ok (.iload 4, 2) := by decide +kernel
theorem dX12_emit_24 : decode cX12_emit 24 = .ok (.iload_n 2, 1) := by decide +kernel
theorem dX12_emit_25 : decode cX12_emit 25 = .ok (.iastore, 1) := by decide +kernel
theorem dX12_emit_26 : decode cX12_emit 26 = .ok (.aload_n 0, 1) := by decide +kernel
theorem dX12_emit_27 : decode cX12_emit 27 = .ok (.getfield 74, 3) := by decide +kernel
theorem dX12_emit_30 : decode cX12_emit 30 = .ok (.iload 4, 2) := by decide +kernel
theorem dX12_emit_32 : decode cX12_emit 32 = .ok (.iload_n 3, 1) := by decide +kernel
theorem dX12_emit_33 : decode cX12_emit 33 = .ok (.iastore, 1) := by decide +kernel
theorem dX12_emit_34 : decode cX12_emit 34 = .ok (.aload_n 0, 1) := by decide +kernel
theorem dX12_emit_35 : decode cX12_emit 35 = .ok (.dup, 1) := by decide +kernel
theorem dX12_emit_36 : decode cX12_emit 36 = .ok (.getfield 313, 3) := by decide +kernel
theorem dX12_emit_39 : decode cX12_emit 39 = .ok (.iconst 1, 1) := by decide +kernel
theorem dX12_emit_40 : decode cX12_emit 40 = .ok (.iadd, 1) := by decide +kernel
theorem dX12_emit_41 : decode cX12_emit 41 = .ok (.putfield 313, 3) := by decide +kernel
theorem dX12_emit_44 : decode cX12_emit 44 = .ok (.return_, 1) := by decide +kernel
theorem dX12_isOpen_0 : decode cX12_isOpen 0 = .ok (.iconst 0, 1) := by decide +kernel
theorem dX12_isOpen_1 : decode cX12_isOpen 1 = .ok (.istore_n 1, 1) := by decide +kernel
theorem dX12_isOpen_2 : decode cX12_isOpen 2 = .ok (.iload_n 1, 1) := by decide +kernel
theorem dX12_isOpen_3 : decode cX12_isOpen 3 = .ok (.aload_n 0, 1) := by decide +kernel
theorem dX12_isOpen_4 : decode cX12_isOpen 4 = .ok (.getfield 316, 3) := by decide +kernel
theorem dX12_isOpen_7 : decode cX12_isOpen 7 = .ok (.if_icmp .ge 22, 3) := by decide +kernel
theorem dX12_isOpen_10 : decode cX12_isOpen 10 = .ok (.aload_n 0, 1) := by decide +kernel
theorem dX12_isOpen_11 : decode cX12_isOpen 11 = .ok (.getfield 77, 3) := by decide +kernel
theorem dX12_isOpen_14 : decode cX12_isOpen 14 = .ok (.iload_n 1, 1) := by decide +kernel
theorem dX12_isOpen_15 : decode cX12_isOpen 15 = .ok (.iaload, 1) := by decide +kernel
theorem dX12_isOpen_16 : decode cX12_isOpen 16 = .ok (.bipush 15, 2) := by decide +kernel
theorem dX12_isOpen_18 : decode cX12_isOpen 18 = .ok (.if_icmp .ne 5, 3) := by decide +kernel
theorem dX12_isOpen_21 : decode cX12_isOpen 21 = .ok (.iconst 1, 1) := by decide +kernel
theorem dX12_isOpen_22 : decode cX12_isOpen 22 = .ok (.ireturn, 1) := by decide +kernel
theorem dX12_isOpen_23 : decode cX12_isOpen 23 = .ok (.iinc 1 1, 3) := by decide +kernel
theorem dX12_isOpen_26 : decode cX12_isOpen 26 = .ok (.goto (-24), 3) := by decide +kernel
theorem dX12_isOpen_29 : decode cX12_isOpen 29 = .ok (.iconst 0, 1) := by decide +kernel
theorem dX12_isOpen_30 : decode cX12_isOpen 30 = .ok (.ireturn, 1) := by decide +kernel
theorem dX12_readCond_0 : decode cX12_readCond 0 = .ok (.aload_n 0, 1) := by decide +kernel
theorem dX12_readCond_1 : decode cX12_readCond 1 = .ok (.iconst 0, 1) := by decide +kernel
theorem dX12_readCond_2 : decode cX12_readCond 2 = .ok (.putfield 316, 3) := by decide +kernel
theorem dX12_readCond_5 : decode cX12_readCond 5 = .ok (.aload_n 0, 1) := by decide +kernel
theorem dX12_readCond_6 : decode cX12_readCond 6 = .ok (.invokevirtual 348, 3) := by decide +kernel
theorem dX12_readCond_9 : decode cX12_readCond 9 = .ok (.ifCond .ne 5, 3) := by decide +kernel
theorem dX12_readCond_12 : decode cX12_readCond 12 = .ok (.iconst 0, 1) := by decide +kernel
theorem dX12_readCond_13 : decode cX12_readCond 13 = .ok (.ireturn, 1) := by decide +kernel
theorem dX12_readCond_14 : decode cX12_readCond 14 = .ok (.aload_n 0, 1) := by decide +kernel
theorem dX12_readCond_15 : decode cX12_readCond 15 = .ok (.bipush 41, 2) := by decide +kernel
theorem dX12_readCond_17 : decode cX12_readCond 17 = .ok (.invokevirtual 330, 3) := by decide +kernel
theorem dX12_readCond_20 : decode cX12_readCond 20 = .ok (.ifCond .eq 49, 3) := by decide +kernel
theorem dX12_readCond_23 : decode cX12_readCond 23 = .ok (.aload_n 0, 1) := by decide +kernel
theorem dX12_readCond_24 : decode cX12_readCond 24 = .ok (.invokevirtual 351, 3) := by decide +kernel
theorem dX12_readCond_27 : decode cX12_readCond 27 = .ok (.ifCond .eq 42, 3) := by decide +kernel
theorem dX12_readCond_30 : decode cX12_readCond 30 = .ok (.aload_n 0, 1) := by decide +kernel
theorem dX12_readCond_31 : decode cX12_readCond 31 = .ok (.bipush 13, 2) := by decide +kernel
theorem dX12_readCond_33 : decode cX12_readCond 33 = .ok (.bipush 14, 2) := by decide +kernel
theorem dX12_readCond_35 : decode cX12_readCond 35 = .ok (.invokevirtual 354, 3) := by decide +kernel
theorem dX12_readCond_38 : decode cX12_readCond 38 = .ok (.aload_n 0, 1) := by decide +kernel
theorem dX12_readCond_39 : decode cX12_readCond 39 = .ok (.dup, 1) := by decide +kernel
theorem dX12_readCond_40 : decode cX12_readCond 40 = .ok (.getfield 316, 3) := by decide +kernel
theorem dX12_readCond_43 : decode cX12_readCond 43 = .ok (.iconst 1, 1) := by decide +kernel
theorem dX12_readCond_44 : decode cX12_readCond 44 = .ok (.isub, 1) := by decide +kernel
theorem dX12_readCond_45 : decode cX12_readCond 45 = .ok (.putfield 316, 3) := by decide +kernel
theorem dX12_readCond_48 : decode cX12_readCond 48 = .ok (.aload_n 0, 1) := by decide +kernel
theorem dX12_readCond_49 : decode cX12_readCond 49 = .ok (.dup, 1) := by decide +kernel
theorem dX12_readCond_50 : decode cX12_readCond 50 = .ok (.getfield 339, 3) := by decide +kernel
theorem dX12_readCond_53 : decode cX12_readCond 53 = .ok (.iconst 1, 1) := by decide +kernel
theorem dX12_readCond_54 : decode cX12_readCond 54 = .ok (.isub, 1) := by decide +kernel
theorem dX12_readCond_55 : decode cX12_readCond 55 = .ok (.putfield 339, 3) := by decide +kernel
theorem dX12_readCond_58 : decode cX12_readCond 58 = .ok (.aload_n 0, 1) := by decide +kernel
theorem dX12_readCond_59 : decode cX12_readCond 59 = .ok (.invokevirtual 342, 3) := by decide +kernel
theorem dX12_readCond_62 : decode cX12_readCond 62 = .ok (.aload_n 0, 1) := by decide +kernel
theorem dX12_readCond_63 : decode cX12_readCond 63 = .ok (.invokevirtual 345, 3) := by decide +kernel
theorem dX12_readCond_66 : decode cX12_readCond 66 = .ok (.goto (-52), 3) := by decide +kernel
theorem dX12_readCond_69 : decode cX12_readCond 69 = .ok (.aload_n 0, 1) := by decide +kernel
theorem dX12_readCond_70 : decode cX12_readCond 70 = .ok (.bipush 97, 2) := by decide +kernel
theorem dX12_readCond_72 : decode cX12_readCond 72 = .ok (.bipush 110, 2) := by decide +kernel
theorem dX12_readCond_74 : decode cX12_readCond 74 = .ok (.bipush 100, 2) := by decide +kernel
theorem dX12_readCond_76 : decode cX12_readCond 76 = .ok (.iconst 0, 1) := by decide +kernel
theorem dX12_readCond_77 : decode cX12_readCond 77 = .ok (.iconst 0, 1) := by decide +kernel
theorem dX12_readCond_78 : decode cX12_readCond 78 = .ok (.invokestatic 297, 3) := by decide +kernel
theorem dX12_readCond_81 : decode cX12_readCond 81 = .ok (.invokevirtual 301, 3) := by decide +kernel
theorem dX12_readCond_84 : decode cX12_readCond 84 = .ok (.istore_n 1, 1) := by decide +kernel
theorem dX12_readCond_85 : decode cX12_readCond 85 = .ok (.iload_n 1, 1) := by decide +kernel
theorem dX12_readCond_86 : decode cX12_readCond 86 = .ok (.ifCond .ne 43, 3) := by decide +kernel
theorem dX12_readCond_89 : decode cX12_readCond 89 = .ok (.aload_n 0, 1) := by decide +kernel
theorem dX12_readCond_90 : decode cX12_readCond 90 = .ok (.bipush 111, 2) := by decide +kernel
theorem dX12_readCond_92 : decode cX12_readCond 92 = .ok (.bipush 114, 2) := by decide +kernel
theorem dX12_readCond_94 : decode cX12_readCond 94 = .ok (.iconst 0, 1) := by decide +kernel
theorem dX12_readCond_95 : decode cX12_readCond 95 = .ok (.iconst 0, 1) := by decide +kernel
theorem dX12_readCond_96 : decode cX12_readCond 96 = .ok (.iconst 0, 1) := by decide +kernel
theorem dX12_readCond_97 : decode cX12_readCond 97 = .ok (.invokestatic 297, 3) := by decide +kernel
theorem dX12_readCond_100 : decode cX12_readCond 100 = .ok (.invokevirtual 301, 3) := by decide +kernel
theorem dX12_readCond_103 : decode cX12_readCond 103 = .ok (.ifCond .ne 26, 3) := by decide +kernel
theorem dX12_readCond_106 : decode cX12_readCond 106 = .ok (.aload_n 0, 1) := by decide +kernel
theorem dX12_readCond_107 : decode cX12_readCond 107 = .ok (.invokevirtual 351, 3) := by decide +kernel
theorem dX12_readCond_110 : decode cX12_readCond 110 = .ok (.ifCond .eq 9, 3) := by decide +kernel
theorem dX12_readCond_113 : decode cX12_readCond 113 = .ok (.aload_n 0, 1) := by decide +kernel
theorem dX12_readCond_114 : decode cX12_readCond 114 = .ok (.iconst 1, 1) := by decide +kernel
theorem dX12_readCond_115 : decode cX12_readCond 115 = .ok (.invokevirtual 333, 3) := by decide +kernel
theorem dX12_readCond_118 : decode cX12_readCond 118 = .ok (.ireturn, 1) := by decide +kernel
theorem dX12_readCond_119 : decode cX12_readCond 119 = .ok (.aload_n 0, 1) := by decide +kernel
theorem dX12_readCond_120 : decode cX12_readCond 120 = .ok (.bipush 13, 2) := by decide +kernel
theorem dX12_readCond_122 : decode cX12_readCond 122 = .ok (.bipush 14, 2) := by decide +kernel
theorem dX12_readCond_124 : decode cX12_readCond 124 = .ok (.invokevirtual 354, 3) := by decide +kernel
theorem dX12_readCond_127 : decode cX12_readCond 127 = .ok (.iconst 1, 1) := by decide +kernel
theorem dX12_readCond_128 : decode cX12_readCond 128 = .ok (.ireturn, 1) := by decide +kernel
theorem dX12_readCond_129 : decode cX12_readCond 129 = .ok (.aload_n 0, 1) := by decide +kernel
theorem dX12_readCond_130 : decode cX12_readCond 130 = .ok (.bipush 13, 2) := by decide +kernel
theorem dX12_readCond_132 : decode cX12_readCond 132 = .ok (.iload_n 1, 1) := by decide +kernel
theorem dX12_readCond_133 : decode cX12_readCond 133 = .ok (.ifCond .eq 8, 3) := by decide +kernel
theorem dX12_readCond_136 : decode cX12_readCond 136 = .ok (.bipush 13, 2) := by decide +kernel
theorem dX12_readCond_138 : decode cX12_readCond 138 = .ok (.goto 5, 3) := by decide +kernel
theorem dX12_readCond_141 : decode cX12_readCond 141 = .ok (.bipush 14, 2) := by decide +kernel
theorem dX12_readCond_143 : decode cX12_readCond 143 = .ok (.invokevirtual 354, 3) := by decide +kernel
theorem dX12_readCond_146 : decode cX12_readCond 146 = .ok (.aload_n 0, 1) := by decide +kernel
theorem dX12_readCond_147 : decode cX12_readCond 147 = .ok (.getfield 77, 3) := by decide +kernel
theorem dX12_readCond_150 : decode cX12_readCond 150 = .ok (.aload_n 0, 1) := by decide +kernel
theorem dX12_readCond_151 : decode cX12_readCond 151 = .ok (.getfield 316, 3) := by decide +kernel
theorem dX12_readCond_154 : decode cX12_readCond 154 = .ok (.iload_n 1, 1) := by decide +kernel
theorem dX12_readCond_155 : decode cX12_readCond 155 = .ok (.ifCond .eq 8, 3) := by decide +kernel
theorem dX12_readCond_158 : decode cX12_readCond 158 = .ok (.bipush 13, 2) := by decide +kernel
theorem dX12_readCond_160 : decode cX12_readCond 160 = .ok (.goto 5, 3) := by decide +kernel
theorem dX12_readCond_163 : decode cX12_readCond 163 = .ok (.bipush 14, 2) := by decide +kernel
theorem dX12_readCond_165 : decode cX12_readCond 165 = .ok (.iastore, 1) := by decide +kernel
theorem dX12_readCond_166 : decode cX12_readCond 166 = .ok (.aload_n 0, 1) := by decide +kernel
theorem dX12_readCond_167 : decode cX12_readCond 167 = .ok (.dup, 1) := by decide +kernel
theorem dX12_readCond_168 : decode cX12_readCond 168 = .ok (.getfield 316, 3) := by decide +kernel
theorem dX12_readCond_171 : decode cX12_readCond 171 = .ok (.iconst 1, 1) := by decide +kernel
theorem dX12_readCond_172 : decode cX12_readCond 172 = .ok (.iadd, 1) := by decide +kernel
theorem dX12_readCond_173 : decode cX12_readCond 173 = .ok (.putfield 316, 3) := by decide +kernel
theorem dX12_readCond_176 : decode cX12_readCond 176 = .ok (.aload_n 0, 1) := by decide +kernel
theorem dX12_readCond_177 : decode cX12_readCond 177 = .ok (.invokevirtual 342, 3) := by decide +kernel
theorem dX12_readCond_180 : decode cX12_readCond 180 = .ok (.goto (-175), 3) := by decide +kernel
theorem dX12_readOne_0 : decode cX12_readOne 0 = .ok (.aload_n 0, 1) := by decide +kernel
theorem dX12_readOne_1 : decode cX12_readOne 1 = .ok (.invokevirtual 323, 3) := by decide +kernel
theorem dX12_readOne_4 : decode cX12_readOne 4 = .ok (.istore_n 1, 1) := by decide +kernel
theorem dX12_readOne_5 : decode cX12_readOne 5 = .ok (.iload_n 1, 1) := by decide +kernel
theorem dX12_readOne_6 : decode cX12_readOne 6 = .ok (.iconst (-1), 1) := by decide +kernel
theorem dX12_readOne_7 : decode cX12_readOne 7 = .ok (.if_icmp .ne 25, 3) := by decide +kernel
theorem dX12_readOne_10 : decode cX12_readOne 10 = .ok (.aload_n 0, 1) := by decide +kernel
theorem dX12_readOne_11 : decode cX12_readOne 11 = .ok (.invokevirtual 326, 3) := by decide +kernel
theorem dX12_readOne_14 : decode cX12_readOne 14 = .ok (.ifCond .ne 18, 3) := by decide +kernel
theorem dX12_readOne_17 : decode cX12_readOne 17 = .ok (.aload_n 0, 1) := by decide +kernel
theorem dX12_readOne_18 : decode cX12_readOne 18 = .ok (.bipush 40, 2) := by decide +kernel
theorem dX12_readOne_20 : decode cX12_readOne 20 = .ok (.invokevirtual 330, 3) := by decide +kernel
theorem dX12_readOne_23 : decode cX12_readOne 23 = .ok (.ifCond .ne 9, 3) := by decide +kernel
theorem dX12_readOne_26 : decode cX12_readOne 26 = .ok (.aload_n 0, 1) := by decide +kernel
theorem dX12_readOne_27 : decode cX12_readOne 27 = .ok (.iconst 1, 1) := by decide +kernel
theorem dX12_readOne_28 : decode cX12_readOne 28 = .ok (.invokevirtual 333, 3) := by decide +kernel
theorem dX12_readOne_31 : decode cX12_readOne 31 = .ok (.ireturn, 1) := by decide +kernel
theorem dX12_readOne_32 : decode cX12_readOne 32 = .ok (.aload_n 0, 1) := by decide +kernel
theorem dX12_readOne_33 : decode cX12_readOne 33 = .ok (.getfield 336, 3) := by decide +kernel
theorem dX12_readOne_36 : decode cX12_readOne 36 = .ok (.bipush 50, 2) := by decide +kernel
theorem dX12_readOne_38 : decode cX12_readOne 38 = .ok (.if_icmp .eq 12, 3) := by decide +kernel
theorem dX12_readOne_41 : decode cX12_readOne 41 = .ok (.aload_n 0, 1) := by decide +kernel
theorem dX12_readOne_42 : decode cX12_readOne 42 = .ok (.getfield 339, 3) := by decide +kernel
theorem dX12_readOne_45 : decode cX12_readOne 45 = .ok (.bipush 10, 2) := by decide +kernel
theorem dX12_readOne_47 : decode cX12_readOne 47 = .ok (.if_icmp .ne 9, 3) := by decide +kernel
theorem dX12_readOne_50 : decode cX12_readOne 50 = .ok (.aload_n 0, 1) := by decide +kernel
theorem dX12_readOne_51 : decode cX12_readOne 51 = .ok (.iconst 4, 1) := by decide +kernel
theorem dX12_readOne_52 : decode cX12_readOne 52 = .ok (.invokevirtual 333, 3) := by decide +kernel
theorem dX12_readOne_55 : decode cX12_readOne 55 = .ok (.ireturn, 1) := by decide +kernel
theorem dX12_readOne_56 : decode cX12_readOne 56 = .ok (.aload_n 0, 1) := by decide +kernel
theorem dX12_readOne_57 : decode cX12_readOne 57 = .ok (.dup, 1) := by decide +kernel
theorem dX12_readOne_58 : decode cX12_readOne 58 = .ok (.getfield 336, 3) := by decide +kernel
theorem dX12_readOne_61 : decode cX12_readOne 61 = .ok (.iconst 1, 1) := by decide +kernel
theorem dX12_readOne_62 : decode cX12_readOne 62 = .ok (.iadd, 1) := by decide +kernel
theorem dX12_readOne_63 : decode cX12_readOne 63 = .ok (.putfield 336, 3) := by decide +kernel
theorem dX12_readOne_66 : decode cX12_readOne 66 = .ok (.iload_n 1, 1) := by decide +kernel
theorem dX12_readOne_67 : decode cX12_readOne 67 = .ok (.iconst (-1), 1) := by decide +kernel
theorem dX12_readOne_68 : decode cX12_readOne 68 = .ok (.if_icmp .ne 53, 3) := by decide +kernel
theorem dX12_readOne_71 : decode cX12_readOne 71 = .ok (.aload_n 0, 1) := by decide +kernel
theorem dX12_readOne_72 : decode cX12_readOne 72 = .ok (.dup, 1) := by decide +kernel
theorem dX12_readOne_73 : decode cX12_readOne 73 = .ok (.getfield 339, 3) := by decide +kernel
theorem dX12_readOne_76 : decode cX12_readOne 76 = .ok (.iconst 1, 1) := by decide +kernel
theorem dX12_readOne_77 : decode cX12_readOne 77 = .ok (.iadd, 1) := by decide +kernel
theorem dX12_readOne_78 : decode cX12_readOne 78 = .ok (.putfield 339, 3) := by decide +kernel
theorem dX12_readOne_81 : decode cX12_readOne 81 = .ok (.aload_n 0, 1) := by decide +kernel
theorem dX12_readOne_82 : decode cX12_readOne 82 = .ok (.getfield 77, 3) := by decide +kernel
theorem dX12_readOne_85 : decode cX12_readOne 85 = .ok (.aload_n 0, 1) := by decide +kernel
theorem dX12_readOne_86 : decode cX12_readOne 86 = .ok (.getfield 316, 3) := by decide +kernel
theorem dX12_readOne_89 : decode cX12_readOne 89 = .ok (.aload_n 0, 1) := by decide +kernel
theorem dX12_readOne_90 : decode cX12_readOne 90 = .ok (.invokevirtual 326, 3) := by decide +kernel
theorem dX12_readOne_93 : decode cX12_readOne 93 = .ok (.ifCond .eq 8, 3) := by decide +kernel
theorem dX12_readOne_96 : decode cX12_readOne 96 = .ok (.bipush 12, 2) := by decide +kernel
theorem dX12_readOne_98 : decode cX12_readOne 98 = .ok (.goto 5, 3) := by decide +kernel
theorem dX12_readOne_101 : decode cX12_readOne 101 = .ok (.bipush 15, 2) := by decide +kernel
theorem dX12_readOne_103 : decode cX12_readOne 103 = .ok (.iastore, 1) := by decide +kernel
theorem dX12_readOne_104 : decode cX12_readOne 104 = .ok (.aload_n 0, 1) := by decide +kernel
theorem dX12_readOne_105 : decode cX12_readOne 105 = .ok (.dup, 1) := by decide +kernel
theorem dX12_readOne_106 : decode cX12_readOne 106 = .ok (.getfield 316, 3) := by decide +kernel
theorem dX12_readOne_109 : decode cX12_readOne 109 = .ok (.iconst 1, 1) := by decide +kernel
theorem dX12_readOne_110 : decode cX12_readOne 110 = .ok (.iadd, 1) := by decide +kernel
theorem dX12_readOne_111 : decode cX12_readOne 111 = .ok (.putfield 316, 3) := by decide +kernel
theorem dX12_readOne_114 : decode cX12_readOne 114 = .ok (.aload_n 0, 1) := by decide +kernel
theorem dX12_readOne_115 : decode cX12_readOne 115 = .ok (.invokevirtual 342, 3) := by decide +kernel
theorem dX12_readOne_118 : decode cX12_readOne 118 = .ok (.goto (-118), 3) := by decide +kernel
theorem dX12_readOne_121 : decode cX12_readOne 121 = .ok (.aload_n 0, 1) := by decide +kernel
theorem dX12_readOne_122 : decode cX12_readOne 122 = .ok (.invokevirtual 342, 3) := by decide +kernel
theorem dX12_readOne_125 : decode cX12_readOne 125 = .ok (.iload_n 1, 1) := by decide +kernel
theorem dX12_readOne_126 : decode cX12_readOne 126 = .ok (.iconst 3, 1) := by decide +kernel
theorem dX12_readOne_127 : decode cX12_readOne 127 = .ok (.if_icmp .ge 13, 3) := by decide +kernel
theorem dX12_readOne_130 : decode cX12_readOne 130 = .ok (.aload_n 0, 1) := by decide +kernel
theorem dX12_readOne_131 : decode cX12_readOne 131 = .ok (.iload_n 1, 1) := by decide +kernel
theorem dX12_readOne_132 : decode cX12_readOne 132 = .ok (.iconst 0, 1) := by decide +kernel
theorem dX12_readOne_133 : decode cX12_readOne 133 = .ok (.iconst 0, 1) := by decide +kernel
theorem dX12_readOne_134 : decode cX12_readOne 134 = .ok (.invokevirtual 319, 3) := by decide +kernel
theorem dX12_readOne_137 : decode cX12_readOne 137 = .ok (.goto 76, 3) := by decide +kernel
theorem dX12_readOne_140 : decode cX12_readOne 140 = .ok (.aload_n 0, 1) := by decide +kernel
theorem dX12_readOne_141 : decode cX12_readOne 141 = .ok (.bipush 60, 2) := by decide +kernel
theorem dX12_readOne_143 : decode cX12_readOne 143 = .ok (.invokevirtual 330, 3) := by decide +kernel
theorem dX12_readOne_146 : decode cX12_readOne 146 = .ok (.ifCond .ne 27, 3) := by decide +kernel
theorem dX12_readOne_149 : decode cX12_readOne 149 = .ok (.aload_n 0, 1) := by decide +kernel
theorem dX12_readOne_150 : decode cX12_readOne 150 = .ok (.bipush 61, 2) := by decide +kernel
theorem dX12_readOne_152 : decode cX12_readOne 152 = .ok (.invokevirtual 330, 3) := by decide +kernel
theorem dX12_readOne_155 : decode cX12_readOne 155 = .ok (.ifCond .ne 18, 3) := by decide +kernel
theorem dX12_readOne_158 : decode cX12_readOne 158 = .ok (.aload_n 0, 1) := by decide +kernel
theorem dX12_readOne_159 : decode cX12_readOne 159 = .ok (.bipush 62, 2) := by decide +kernel
theorem dX12_readOne_161 : decode cX12_readOne 161 = .ok (.invokevirtual 330, 3) := by decide +kernel
theorem dX12_readOne_164 : decode cX12_readOne 164 = .ok (.ifCond .ne 9, 3) := by decide +kernel
theorem dX12_readOne_167 : decode cX12_readOne 167 = .ok (.aload_n 0, 1) := by decide +kernel
theorem dX12_readOne_168 : decode cX12_readOne 168 = .ok (.iconst 1, 1) := by decide +kernel
theorem dX12_readOne_169 : decode cX12_readOne 169 = .ok (.invokevirtual 333, 3) := by decide +kernel
theorem dX12_readOne_172 : decode cX12_readOne 172 = .ok (.ireturn, 1) := by decide +kernel
theorem dX12_readOne_173 : decode cX12_readOne 173 = .ok (.aload_n 0, 1) := by decide +kernel
theorem dX12_readOne_174 : decode cX12_readOne 174 = .ok (.getfield 274, 3) := by decide +kernel
theorem dX12_readOne_177 : decode cX12_readOne 177 = .ok (.istore_n 2, 1) := by decide +kernel
theorem dX12_readOne_178 : decode cX12_readOne 178 = .ok (.aload_n 0, 1) := by decide +kernel
theorem dX12_readOne_179 : decode cX12_readOne 179 = .ok (.invokevirtual 342, 3) := by decide +kernel
theorem dX12_readOne_182 : decode cX12_readOne 182 = .ok (.aload_n 0, 1) := by decide +kernel
theorem dX12_readOne_183 : decode cX12_readOne 183 = .ok (.getfield 262, 3) := by decide +kernel
theorem dX12_readOne_186 : decode cX12_readOne 186 = .ok (.iconst 3, 1) := by decide +kernel
theorem dX12_readOne_187 : decode cX12_readOne 187 = .ok (.if_icmp .eq 9, 3) := by decide +kernel
theorem dX12_readOne_190 : decode cX12_readOne 190 = .ok (.aload_n 0, 1) := by decide +kernel
theorem dX12_readOne_191 : decode cX12_readOne 191 = .ok (.iconst 1, 1) := by decide +kernel
theorem dX12_readOne_192 : decode cX12_readOne 192 = .ok (.invokevirtual 333, 3) := by decide +kernel
theorem dX12_readOne_195 : decode cX12_readOne 195 = .ok (.ireturn, 1) := by decide +kernel
theorem dX12_readOne_196 : decode cX12_readOne 196 = .ok (.aload_n 0, 1) := by decide +kernel
theorem dX12_readOne_197 : decode cX12_readOne 197 = .ok (.iload_n 1, 1) := by decide +kernel
theorem dX12_readOne_198 : decode cX12_readOne 198 = .ok (.iload_n 2, 1) := by decide +kernel
theorem dX12_readOne_199 : decode cX12_readOne 199 = .ok (.aload_n 0, 1) := by decide +kernel
theorem dX12_readOne_200 : decode cX12_readOne 200 = .ok (.getfield 281, 3) := by decide +kernel
theorem dX12_readOne_203 : decode cX12_readOne 203 = .ok (.invokevirtual 319, 3) := by decide +kernel
theorem dX12_readOne_206 : decode cX12_readOne 206 = .ok (.aload_n 0, 1) := by decide +kernel
theorem dX12_readOne_207 : decode cX12_readOne 207 = .ok (.invokevirtual 342, 3) := by decide +kernel
theorem dX12_readOne_210 : decode cX12_readOne 210 = .ok (.goto 3, 3) := by decide +kernel
theorem dX12_readOne_213 : decode cX12_readOne 213 = .ok (.aload_n 0, 1) := by decide +kernel
theorem dX12_readOne_214 : decode cX12_readOne 214 = .ok (.invokevirtual 345, 3) := by decide +kernel
theorem dX12_readOne_217 : decode cX12_readOne 217 = .ok (.iconst 1, 1) := by decide +kernel
theorem dX12_readOne_218 : decode cX12_readOne 218 = .ok (.ireturn, 1) := by decide +kernel
theorem fl_X12_313_13 : xF RX12 313 13 41 .int false := ⟨by decide, RX12, TX12, 91, tyX12, "PaperBoysModel", rfl, inlX12, tyX12_ok, nmX12, by decide, rfl, rfl, m_28_10, Or.inl rfl⟩
theorem fl_X12_316_13 : xF RX12 316 13 42 .int false := ⟨by decide, RX12, TX12, 91, tyX12, "PaperBoysModel", rfl, inlX12, tyX12_ok, nmX12, by decide, rfl, rfl, m_31_0, Or.inl rfl⟩
theorem fl_X12_336_13 : xF RX12 336 13 43 .int false := ⟨by decide, RX12, TX12, 91, tyX12, "PaperBoysModel", rfl, inlX12, tyX12_ok, nmX12, by decide, rfl, rfl, m_28_18, Or.inl rfl⟩
theorem fl_X12_339_13 : xF RX12 339 13 44 .int false := ⟨by decide, RX12, TX12, 91, tyX12, "PaperBoysModel", rfl, inlX12, tyX12_ok, nmX12, by decide, rfl, rfl, m_28_19, Or.inl rfl⟩
theorem fl_X12_68_13 : xF RX12 68 13 35 (.array .int) true := ⟨by decide, RX12, TX12, 91, tyX12, "PaperBoysModel", rfl, inlX12, tyX12_ok, nmX12, by decide, rfl, rfl, m_8_21, Or.inl rfl⟩
theorem fl_X12_71_13 : xF RX12 71 13 36 (.array .int) true := ⟨by decide, RX12, TX12, 91, tyX12, "PaperBoysModel", rfl, inlX12, tyX12_ok, nmX12, by decide, rfl, rfl, m_8_22, Or.inl rfl⟩
theorem fl_X12_74_13 : xF RX12 74 13 37 (.array .int) true := ⟨by decide, RX12, TX12, 91, tyX12, "PaperBoysModel", rfl, inlX12, tyX12_ok, nmX12, by decide, rfl, rfl, m_8_23, Or.inl rfl⟩
theorem fl_X12_77_13 : xF RX12 77 13 38 (.array .int) true := ⟨by decide, RX12, TX12, 91, tyX12, "PaperBoysModel", rfl, inlX12, tyX12_ok, nmX12, by decide, rfl, rfl, m_9_0, Or.inl rfl⟩
theorem lk_X12_319 : xLV RX12 319 yX12_emit cX12_emit 5 none 3 := ⟨m_31_17, m_31_18, m_31_19, m_1_5, m_31_20, by decide +kernel⟩
theorem lk_X12_323 : xLV RX12 323 yX12_atom cX12_atom 1 (some .int) 0 := ⟨m_31_5, m_31_6, m_31_7, m_1_5, m_31_8, by decide +kernel⟩
theorem lk_X12_326 : xLV RX12 326 yX12_isNot cX12_isNot 1 (some .boolean) 0 := ⟨m_30_16, m_30_17, m_30_18, m_1_5, m_30_19, by decide +kernel⟩
theorem lk_X12_330 : xLV RX12 330 yX12_isSign cX12_isSign 2 (some .boolean) 1 := ⟨m_31_13, m_31_14, m_31_15, m_1_5, m_31_16, by decide +kernel⟩
theorem lk_X12_333 : xLV RX12 333 yX12_bad cX12_bad 2 (some .boolean) 1 := ⟨m_30_12, m_30_13, m_30_14, m_1_5, m_30_15, by decide +kernel⟩
theorem lk_X12_342 : xLV RX12 342 yX12_go cX12_go 5 none 0 := ⟨m_28_22, m_28_23, m_29_0, m_1_5, m_29_1, by decide +kernel⟩
theorem lk_X12_345 : xLV RX12 345 yX12_dropNots cX12_dropNots 1 none 0 := ⟨m_31_21, m_31_22, m_31_23, m_1_5, m_32_0, by decide +kernel⟩
theorem lk_X12_348 : xLV RX12 348 yX12_readOne cX12_readOne 3 (some .boolean) 0 := ⟨m_31_1, m_31_2, m_31_3, m_1_5, m_31_4, by decide +kernel⟩
theorem lk_X12_351 : xLV RX12 351 yX12_isOpen cX12_isOpen 2 (some .boolean) 0 := ⟨m_32_1, m_32_2, m_32_3, m_1_5, m_32_4, by decide +kernel⟩
theorem lk_X12_354 : xLV RX12 354 yX12_drop cX12_drop 3 none 2 := ⟨m_32_5, m_32_6, m_32_7, m_1_5, m_32_8, by decide +kernel⟩
def xst (h : Nat) (v : Int) : Option Nat := if 0 ≤ v ∧ v ≤ 11 then (if h < 60 then some (h + 1) else none) else if v = 12 then (if 1 ≤ h then some h else none) else if v = 13 ∨ v = 14 then (if 2 ≤ h then some (h - 1) else none) else none
def xhf (p : Int → Int) (F : Int) : Nat → Option Nat
  | 0 => some 0
  | m + 1 => match xhf p F m with
    | none => none
    | some h => xst h (p (F + m))
theorem xhf_cg {p p' : Int → Int} {F F' : Int} {m : Nat} (h : ∀ k : Nat, k < m → p' (F' + k) = p (F + k)) : xhf p' F' m = xhf p F m := by
  induction m with
  | zero => rfl
  | succ m ih => unfold xhf; rw [ih (fun k hk => h k (by omega)), h m (by omega)]
theorem xhf_s {p : Int → Int} {F : Int} {m h h' : Nat} (e : xhf p F m = some h) (e' : xst h (p (F + m)) = some h') : xhf p F (m + 1) = some h' := by
  show (match xhf p F m with
    | none => none
    | some h => xst h (p (F + m))) = some h'
  rw [e]
  exact e'
theorem xhf_pre {p : Int → Int} {F : Int} {m k : Nat} (h : xhf p F m ≠ none) (hk : k ≤ m) : xhf p F k ≠ none := by
  induction m with
  | zero => rw [show k = 0 by omega]; exact h
  | succ m ih =>
    by_cases e : k = m + 1
    · rw [e]; exact h
    · refine ih (fun q => h ?_) (by omega)
      unfold xhf
      rw [q]
theorem xhf_step {p : Int → Int} {F : Int} {m h : Nat} (e : xhf p F m = some h) (hv : xhf p F (m + 1) ≠ none) : ((0 ≤ p (F + m) ∧ p (F + m) ≤ 11) ∧ h < 60 ∧ xhf p F (m + 1) = some (h + 1)) ∨ (p (F + m) = 12 ∧ 1 ≤ h ∧ xhf p F (m + 1) = some h) ∨ ((p (F + m) = 13 ∨ p (F + m) = 14) ∧ 2 ≤ h ∧ xhf p F (m + 1) = some (h - 1)) := by
  have k : xhf p F (m + 1) = xst h (p (F + m)) := by
    show (match xhf p F m with
      | none => none
      | some h => xst h (p (F + m))) = _
    rw [e]
  rw [k] at hv ⊢
  generalize p (F + m) = v at hv ⊢
  unfold xst at hv ⊢
  by_cases c1 : 0 ≤ v ∧ v ≤ 11
  · rw [if_pos c1] at hv ⊢
    by_cases c2 : h < 60
    · rw [if_pos c2]; exact Or.inl ⟨c1, c2, rfl⟩
    · rw [if_neg c2] at hv; exact absurd rfl hv
  · rw [if_neg c1] at hv ⊢
    by_cases c2 : v = 12
    · rw [if_pos c2] at hv ⊢
      by_cases c3 : 1 ≤ h
      · rw [if_pos c3]; exact Or.inr (Or.inl ⟨c2, c3, rfl⟩)
      · rw [if_neg c3] at hv; exact absurd rfl hv
    · rw [if_neg c2] at hv ⊢
      by_cases c3 : v = 13 ∨ v = 14
      · rw [if_pos c3] at hv ⊢
        by_cases c4 : 2 ≤ h
        · rw [if_pos c4]; exact Or.inr (Or.inr ⟨c3, c4, rfl⟩)
        · rw [if_neg c4] at hv; exact absurd rfl hv
      · rw [if_neg c3] at hv; exact absurd rfl hv
theorem xhf_0 (p : Int → Int) (F n : Int) : xhf p F (n - n).toNat ≠ none := by
  rw [show (n - n).toNat = 0 by omega]
  exact fun h => by cases h
def xPl (f : Int → Int) : Nat → Nat → Nat → Nat → Prop
  | 0, c, s, d => c = 0 ∧ s = 0 ∧ d = 0
  | t + 1, c, s, d => ((f t = 12 ∨ f t = 15) ∧ s = 0 ∧ ∃ c' s', c = c' + 1 ∧ xPl f t c' s' d) ∨ (f t = 14 ∧ s = 1 ∧ ∃ d', d = d' + 1 ∧ xPl f t c 0 d') ∨ (f t = 13 ∧ s = 2 ∧ ∃ d' s', d = d' + 1 ∧ s' ≤ 1 ∧ xPl f t c s' d')
theorem xPl.z {f : Int → Int} : xPl f 0 0 0 0 := ⟨rfl, rfl, rfl⟩
theorem xPl.one {f : Int → Int} {t c s d : Nat} (h : xPl f t c s d) (e : f t = 12 ∨ f t = 15) : xPl f (t + 1) (c + 1) 0 d := Or.inl ⟨e, rfl, c, s, rfl, h⟩
theorem xPl.or {f : Int → Int} {t c d : Nat} (h : xPl f t c 0 d) (e : f t = 14) : xPl f (t + 1) c 1 (d + 1) := Or.inr (Or.inl ⟨e, rfl, d, rfl, h⟩)
theorem xPl.and {f : Int → Int} {t c s d : Nat} (h : xPl f t c s d) (hs : s ≤ 1) (e : f t = 13) : xPl f (t + 1) c 2 (d + 1) := Or.inr (Or.inr ⟨e, rfl, d, s, rfl, hs, h⟩)
theorem xPl.cg {f f' : Int → Int} {t : Nat} (hf : ∀ k : Nat, k < t → f' k = f k) : ∀ {c s d : Nat}, xPl f t c s d → xPl f' t c s d := by
  induction t with
  | zero => intro c s d h; exact h
  | succ t ih =>
    intro c s d h
    have ih' : ∀ {c s d : Nat}, xPl f t c s d → xPl f' t c s d := ih (fun k hk => hf k (by omega))
    have e := hf t (by omega)
    rcases h with ⟨h1, h2, c', s', h3, h4⟩ | ⟨h1, h2, d', h3, h4⟩ | ⟨h1, h2, d', s', h3, h5, h4⟩
    · exact Or.inl ⟨by rw [e]; exact h1, h2, c', s', h3, ih' h4⟩
    · exact Or.inr (Or.inl ⟨by rw [e]; exact h1, h2, d', h3, ih' h4⟩)
    · exact Or.inr (Or.inr ⟨by rw [e]; exact h1, h2, d', s', h3, h5, ih' h4⟩)
theorem xPl.le {f : Int → Int} {t : Nat} : ∀ {c s d : Nat}, xPl f t c s d → t ≤ 3 * c + s ∧ d ≤ 2 * c + s ∧ s ≤ 2 := by
  induction t with
  | zero => intro c s d h; obtain ⟨h1, h2, h3⟩ := h; omega
  | succ t ih =>
    intro c s d h
    rcases h with ⟨h1, h2, c', s', h3, h4⟩ | ⟨h1, h2, d', h3, h4⟩ | ⟨h1, h2, d', s', h3, h5, h4⟩
    · have := ih h4; omega
    · have := ih h4; omega
    · have := ih h4; omega
theorem xPl.not {f : Int → Int} {t c s d : Nat} (h : xPl f (t + 1) c s d) (e : f t ≠ 13 ∧ f t ≠ 14) : ∃ c' s', c = c' + 1 ∧ xPl f t c' s' d := by
  rcases h with ⟨h1, h2, c', s', h3, h4⟩ | ⟨h1, h2, d', h3, h4⟩ | ⟨h1, h2, d', s', h3, h5, h4⟩
  · exact ⟨c', s', h3, h4⟩
  · exact absurd h1 e.2
  · exact absurd h1 e.1
theorem xPl.join {f : Int → Int} {t c s d : Nat} (h : xPl f (t + 1) c s d) (e : f t = 13 ∨ f t = 14) : ∃ s' d', d = d' + 1 ∧ xPl f t c s' d' := by
  rcases h with ⟨h1, h2, c', s', h3, h4⟩ | ⟨h1, h2, d', h3, h4⟩ | ⟨h1, h2, d', s', h3, h5, h4⟩
  · omega
  · exact ⟨0, d', h3, h4⟩
  · exact ⟨s', d', h3, h4⟩
theorem xPl.s0 {f : Int → Int} {t c s d : Nat} (h : xPl f t c s d) (e : t = 0 ∨ (f (t - 1 : Int) ≠ 13 ∧ f (t - 1 : Int) ≠ 14)) : s = 0 := by
  cases t with
  | zero => exact h.2.1
  | succ t =>
    rw [show ((t + 1 : Nat) : Int) - 1 = (t : Int) by omega] at e
    rcases h with ⟨h1, h2, c', s', h3, h4⟩ | ⟨h1, h2, d', h3, h4⟩ | ⟨h1, h2, d', s', h3, h5, h4⟩ <;> omega
theorem xPl.s1 {f : Int → Int} {t c s d : Nat} (h : xPl f t c s d) (e : t = 0 ∨ f (t - 1 : Int) ≠ 13) : s ≤ 1 := by
  cases t with
  | zero => have := h.2.1; omega
  | succ t =>
    rw [show ((t + 1 : Nat) : Int) - 1 = (t : Int) by omega] at e
    rcases h with ⟨h1, h2, c', s', h3, h4⟩ | ⟨h1, h2, d', h3, h4⟩ | ⟨h1, h2, d', s', h3, h5, h4⟩ <;> omega
def xRd (p f : Int → Int) (F np nt no nw : Int) (o : Nat) : Prop := ∃ c s d : Nat, xPl f nt.toNat c s d ∧ (c : Int) ≤ nw ∧ nw ≤ 10 ∧ xhf p (1200 + F) (np - F).toNat = some (d + 1 - o) ∧ np + nt + 1 ≤ 2 * no + o ∧ no ≤ 50 ∧ 0 ≤ F ∧ F ≤ np ∧ 0 ≤ nt
theorem xRd.bd {p f : Int → Int} {F np nt no nw : Int} {o : Nat} (h : xRd p f F np nt no nw o) (ho : o ≤ 1) : 0 ≤ np ∧ np ≤ 100 ∧ 0 ≤ nt ∧ nt ≤ 32 ∧ 0 ≤ nw ∧ nw ≤ 10 ∧ no ≤ 50 ∧ 0 ≤ F ∧ F ≤ np := by
  obtain ⟨c, s, d, h1, h2, h3, h4, h5, h6, h7, h8, h9⟩ := h
  have := h1.le
  omega
theorem xRd.start {p f : Int → Int} {np no nw : Int} (h0 : 0 ≤ np) (h1 : np ≤ 2 * no) (h2 : no ≤ 50) (h3 : 0 ≤ nw) (h4 : nw ≤ 10) : xRd p f np np 0 no nw 1 :=
  ⟨0, 0, 0, xPl.z, by omega, h4, by rw [show (np - np).toNat = 0 by omega]; rfl, by omega, h2, h0, by omega, by omega⟩
theorem xRd.push {p f f' : Int → Int} {F np nt no nw : Int} (h : xRd p f F np nt no nw 1) (h1 : nw ≤ 9) (h2 : no ≤ 49) (e : f' nt = 12 ∨ f' nt = 15) (hf : ∀ i, 0 ≤ i → i ≠ nt → f' i = f i) : xRd p f' F np (nt + 1) (no + 1) (nw + 1) 1 := by
  obtain ⟨c, s, d, q1, q2, q3, q4, q5, q6, q7, q8, q9⟩ := h
  have et : ((nt.toNat : Nat) : Int) = nt := by omega
  refine ⟨c + 1, 0, d, ?_, by omega, by omega, q4, by omega, by omega, q7, q8, by omega⟩
  rw [show (nt + 1).toNat = nt.toNat + 1 by omega]
  exact xPl.one (xPl.cg (fun k hk => hf k (by omega) (by omega)) q1) (by rw [et]; exact e)
theorem xhf_up {p p' : Int → Int} {F np a : Int} {h h' : Nat} (hu : xUp p' p (1200 + np) a) (hF : 0 ≤ F) (hn : F ≤ np) (e : xhf p (1200 + F) (np - F).toNat = some h) (e' : xst h a = some h') : xhf p' (1200 + F) (np + 1 - F).toNat = some h' := by
  rw [show (np + 1 - F).toNat = (np - F).toNat + 1 by omega]
  refine xhf_s (h := h) ?_ ?_
  · rw [xhf_cg (p := p) (F := 1200 + F) (fun k hk => hu.2 _ (by omega) (by omega))]; exact e
  · rw [show 1200 + F + ((np - F).toNat : Int) = 1200 + np by omega, hu.1]; exact e'
theorem xRd.atom {p p' f : Int → Int} {F np nt no nw a : Int} (h : xRd p f F np nt no nw 1) (h2 : no ≤ 49) (ha : 0 ≤ a ∧ a ≤ 11) (hu : xUp p' p (1200 + np) a) : xRd p' f F (np + 1) nt (no + 1) nw 0 := by
  obtain ⟨c, s, d, q1, q2, q3, q4, q5, q6, q7, q8, q9⟩ := h
  have hl := q1.le
  refine ⟨c, s, d, q1, q2, q3, xhf_up hu q7 q8 q4 ?_, by omega, by omega, q7, by omega, q9⟩
  unfold xst
  rw [if_pos ha, if_pos (by omega)]
  rfl
theorem xRd.not {p p' f : Int → Int} {F np nt no nw : Int} (h : xRd p f F np nt no nw 0) (h1 : 1 ≤ nt) (e : f (nt - 1) = 12) (hu : xUp p' p (1200 + np) 12) : xRd p' f F (np + 1) (nt - 1) no (nw - 1) 0 := by
  obtain ⟨c, s, d, q1, q2, q3, q4, q5, q6, q7, q8, q9⟩ := h
  rw [show nt.toNat = (nt - 1).toNat + 1 by omega] at q1
  have et : (((nt - 1).toNat : Nat) : Int) = nt - 1 := by omega
  obtain ⟨c', s', r1, r2⟩ := q1.not (by rw [et]; omega)
  refine ⟨c', s', d, r2, by omega, by omega, xhf_up hu q7 q8 q4 ?_, by omega, q6, q7, by omega, by omega⟩
  unfold xst
  rw [if_neg (by omega), if_pos rfl, if_pos (by omega)]
theorem xRd.join {p p' f : Int → Int} {F np nt no nw a : Int} (h : xRd p f F np nt no nw 0) (h1 : 1 ≤ nt) (e : f (nt - 1) = a) (ha : a = 13 ∨ a = 14) (hu : xUp p' p (1200 + np) a) : xRd p' f F (np + 1) (nt - 1) no nw 0 := by
  obtain ⟨c, s, d, q1, q2, q3, q4, q5, q6, q7, q8, q9⟩ := h
  rw [show nt.toNat = (nt - 1).toNat + 1 by omega] at q1
  have et : (((nt - 1).toNat : Nat) : Int) = nt - 1 := by omega
  obtain ⟨s', d', r1, r2⟩ := q1.join (by rw [et, e]; exact ha)
  refine ⟨c, s', d', r2, q2, q3, xhf_up hu q7 q8 q4 ?_, by omega, q6, q7, by omega, by omega⟩
  unfold xst
  rw [if_neg (by omega), if_neg (by omega), if_pos ha, if_pos (by omega)]
  exact congrArg some (by omega)
theorem xRd.paren {p f : Int → Int} {F np nt no nw : Int} (h : xRd p f F np nt no nw 0) (h1 : 1 ≤ nt) (e : f (nt - 1) ≠ 13 ∧ f (nt - 1) ≠ 14) : xRd p f F np (nt - 1) no (nw - 1) 0 := by
  obtain ⟨c, s, d, q1, q2, q3, q4, q5, q6, q7, q8, q9⟩ := h
  rw [show nt.toNat = (nt - 1).toNat + 1 by omega] at q1
  have et : (((nt - 1).toNat : Nat) : Int) = nt - 1 := by omega
  obtain ⟨c', s', r1, r2⟩ := q1.not (by rw [et]; exact e)
  exact ⟨c', s', d, r2, by omega, by omega, q4, by omega, q6, q7, q8, by omega⟩
theorem xRd.or {p f f' : Int → Int} {F np nt no nw : Int} (h : xRd p f F np nt no nw 0) (e : nt = 0 ∨ (f (nt - 1) ≠ 13 ∧ f (nt - 1) ≠ 14)) (e' : f' nt = 14) (hf : ∀ i, 0 ≤ i → i ≠ nt → f' i = f i) : xRd p f' F np (nt + 1) no nw 1 := by
  obtain ⟨c, s, d, q1, q2, q3, q4, q5, q6, q7, q8, q9⟩ := h
  have et : ((nt.toNat : Nat) : Int) = nt := by omega
  have hs := q1.s0 (by rw [et]; exact e.imp (fun h => by omega) id)
  subst hs
  refine ⟨c, 1, d + 1, ?_, q2, q3, q4, by omega, q6, q7, q8, by omega⟩
  rw [show (nt + 1).toNat = nt.toNat + 1 by omega]
  exact xPl.or (xPl.cg (fun k hk => hf k (by omega) (by omega)) q1) (by rw [et]; exact e')
theorem xRd.and {p f f' : Int → Int} {F np nt no nw : Int} (h : xRd p f F np nt no nw 0) (e : nt = 0 ∨ f (nt - 1) ≠ 13) (e' : f' nt = 13) (hf : ∀ i, 0 ≤ i → i ≠ nt → f' i = f i) : xRd p f' F np (nt + 1) no nw 1 := by
  obtain ⟨c, s, d, q1, q2, q3, q4, q5, q6, q7, q8, q9⟩ := h
  have et : ((nt.toNat : Nat) : Int) = nt := by omega
  have hs := q1.s1 (by rw [et]; exact e.imp (fun h => by omega) id)
  refine ⟨c, 2, d + 1, ?_, q2, q3, q4, by omega, q6, q7, q8, by omega⟩
  rw [show (nt + 1).toNat = nt.toNat + 1 by omega]
  exact xPl.and (xPl.cg (fun k hk => hf k (by omega) (by omega)) q1) hs (by rw [et]; exact e')
theorem xRd.fin {p f : Int → Int} {F np nt no nw : Int} (h : xRd p f F np nt no nw 0) : xhf p (1200 + F) (np - F).toNat ≠ none ∧ np ≤ 2 * no := by
  obtain ⟨c, s, d, q1, q2, q3, q4, q5, q6, q7, q8, q9⟩ := h
  exact ⟨(by rw [q4]; exact fun h => (by cases h)), by omega⟩
def xLow (m : Int) (f' f : Int → Int) : Prop := ∀ i, 0 ≤ i → i < m → f' i = f i
theorem xLow.rf {m : Int} {f : Int → Int} : xLow m f f := fun _ _ _ => rfl
theorem xLow.tr {m m' : Int} {f f' f'' : Int → Int} (h : xLow m f' f) (h2 : xLow m' f'' f') (hm : m ≤ m') : xLow m f'' f := fun i q1 q2 => (h2 i q1 (by omega)).trans (h i q1 q2)
theorem xLow.up {m j z : Int} {f f' f'' : Int → Int} (h : xLow m f' f) (hu : xUp f'' f' j z) (hm : m ≤ j) : xLow m f'' f := fun i q1 q2 => (hu.2 i q1 (by omega)).trans (h i q1 q2)
theorem xLow.mono {m m' : Int} {f f' : Int → Int} (h : xLow m' f' f) (hm : m ≤ m') : xLow m f' f := fun i q1 q2 => h i q1 (by omega)
def xRl (cf ct p : Int → Int) (nl np : Int) : Prop := ∀ k, 0 ≤ k → k < nl → 0 ≤ cf (160 + k) ∧ cf (160 + k) ≤ ct (160 + k) ∧ ct (160 + k) ≤ np ∧ xhf p (1200 + cf (160 + k)) (ct (160 + k) - cf (160 + k)).toNat ≠ none
theorem xRl.s {cf ct p cf' ct' p' : Int → Int} {nl np np1 : Int} (h : xRl cf ct p nl np) (h0 : 0 ≤ nl) (hp0 : 0 ≤ np) (u1 : xUp cf' cf (160 + nl) np) (u2 : xUp ct' ct (160 + nl) np1) (hl : xLow (1200 + np) p' p) (hn : np ≤ np1) (hx : xhf p' (1200 + np) (np1 - np).toNat ≠ none) : xRl cf' ct' p' (nl + 1) np1 := fun k q1 q2 => by
  by_cases e : k = nl
  · subst e
    rw [u1.1, u2.1]
    exact ⟨hp0, hn, Int.le_refl _, hx⟩
  · rw [u1.2 _ (by omega) (by omega), u2.2 _ (by omega) (by omega)]
    obtain ⟨r1, r2, r3, r4⟩ := h k q1 (by omega)
    refine ⟨r1, r2, by omega, ?_⟩
    rw [xhf_cg (p := p) (F := 1200 + cf (160 + k)) (fun i hi => hl _ (by omega) (by omega))]
    exact r4
def xTv (cf ct p : Int → Int) (t k : Int) : Prop := 0 ≤ cf (16 * t + k) ∧ cf (16 * t + k) ≤ ct (16 * t + k) ∧ ct (16 * t + k) ≤ 120 ∧ xhf p (120 * t + cf (16 * t + k)) (ct (16 * t + k) - cf (16 * t + k)).toNat ≠ none
def xTr (lo cf ct p : Int → Int) (t : Int) : Prop := ∀ k, 0 ≤ k → k < lo t → xTv cf ct p t k
theorem xRl.tr {lo cf ct p : Int → Int} {nl np : Int} (h : xRl cf ct p nl np) (e : lo 10 = nl) (hn : np ≤ 120) : xTr lo cf ct p 10 := fun k q1 q2 => by
  rw [e] at q2
  obtain ⟨r1, r2, r3, r4⟩ := h k q1 q2
  exact ⟨r1, r2, by show ct (160 + k) ≤ 120; omega, r4⟩
theorem xTr.low {lo cf ct p lo' cf' ct' p' : Int → Int} {t : Int} (h : xTr lo cf ct p t) (ht : 0 ≤ t ∧ t < 10) (h1 : lo' t = lo t) (hk : lo t ≤ 16) (h2 : ∀ k, 0 ≤ k → k < 16 → cf' (16 * t + k) = cf (16 * t + k)) (h3 : ∀ k, 0 ≤ k → k < 16 → ct' (16 * t + k) = ct (16 * t + k)) (h4 : ∀ k, 0 ≤ k → k < 120 → p' (120 * t + k) = p (120 * t + k)) : xTr lo' cf' ct' p' t := fun k q1 q2 => by
  rw [h1] at q2
  obtain ⟨r1, r2, r3, r4⟩ := h k q1 q2
  unfold xTv
  rw [h2 k q1 (by omega), h3 k q1 (by omega)]
  refine ⟨r1, r2, r3, ?_⟩
  rw [xhf_cg (p := p) (F := 120 * t + cf (16 * t + k)) (fun i hi => by
    have := h4 (cf (16 * t + k) + i) (by omega) (by omega)
    rw [Int.add_assoc]
    exact this)]
  exact r4
theorem xRl.new {lo cf ct p : Int → Int} {t nl np : Int} (h : xRl cf ct p nl np) (hn : np ≤ 120) (h1 : lo t = nl) (h2 : ∀ k, 0 ≤ k → k < nl → cf (16 * t + k) = cf (160 + k)) (h3 : ∀ k, 0 ≤ k → k < nl → ct (16 * t + k) = ct (160 + k)) (h4 : ∀ k, 0 ≤ k → k < np → p (120 * t + k) = p (1200 + k)) : xTr lo cf ct p t := fun k q1 q2 => by
  rw [h1] at q2
  obtain ⟨r1, r2, r3, r4⟩ := h k q1 q2
  unfold xTv
  rw [h2 k q1 q2, h3 k q1 q2]
  refine ⟨r1, r2, by omega, ?_⟩
  rw [xhf_cg (p := p) (F := 1200 + cf (160 + k)) (fun i hi => by
    have := h4 (cf (160 + k) + i) (by omega) (by omega)
    rw [Int.add_assoc, Int.add_assoc]
    exact this)]
  exact r4
def xOp (n : Int) (f : Int → Int) : Prop := ∃ k : Int, 0 ≤ k ∧ k < n ∧ f k = 15
theorem xKm.hd2 {tk : Int → Int} {x d : Int} {p : List Int} {r1 r : xRr9} (h : xKm tk (x :: p) 2 d r1 r) : x = 15 := by
  unfold xKm at h
  rw [if_neg (by decide), if_neg (by decide)] at h
  by_cases c2 : x = 15
  · exact c2
  · rw [if_neg c2] at h; exact h.elim
theorem xKf.hd {tk : Int → Int} {x d : Int} {p : List Int} {r1 r : xRr9} (h : xKf tk (x :: p) d r1 r) : x = 14 ∨ x = 15 := by
  rcases h with h | h
  · unfold xKm at h
    rw [if_neg (by decide), if_pos rfl] at h
    by_cases c : x = 14
    · exact Or.inl c
    · rw [if_neg c] at h
      by_cases c2 : x = 15
      · exact Or.inr c2
      · rw [if_neg c2] at h; exact h.elim
  · exact Or.inr h.hd2
def xPz (h : Int → Int) : List Int → Int → Prop
  | [], n => n = 0
  | x :: p, n => 0 < n ∧ 12 ≤ x ∧ x ≤ 15 ∧ h (n - 1) = x ∧ xPz h p (n - 1)
def xcn9 : List Int → Int
  | [] => 0
  | x :: p => (if x = 12 ∨ x = 15 then 1 else 0) + xcn9 p
theorem xcn9.o {x : Int} {p : List Int} (hx : x = 13 ∨ x = 14) : xcn9 (x :: p) = xcn9 p := by
  show (if x = 12 ∨ x = 15 then (1 : Int) else 0) + xcn9 p = xcn9 p
  rw [if_neg (by omega)]
  omega
theorem xcn9.i {x : Int} {p : List Int} (hx : x = 12 ∨ x = 15) : xcn9 (x :: p) = xcn9 p + 1 := by
  show (if x = 12 ∨ x = 15 then (1 : Int) else 0) + xcn9 p = xcn9 p + 1
  rw [if_pos hx]
  omega
section XPZ
variable {h h' : Int → Int} {P : List Int} {n x b m : Int}
theorem xPz.nn (w : xPz h P n) : 0 ≤ n := by
  cases P with
  | nil => have e : n = 0 := w; omega
  | cons y p => have e : 0 < n := w.1; omega
theorem xPz.nil (w : xPz h P n) (z : n = 0) : P = [] := by
  cases P with
  | nil => rfl
  | cons y p => have e : 0 < n := w.1; omega
theorem xPz.top (w : xPz h P n) (e : 0 < n) : ∃ p, P = h (n - 1) :: p ∧ 12 ≤ h (n - 1) ∧ h (n - 1) ≤ 15 ∧ xPz h p (n - 1) := by
  cases P with
  | nil => have e' : n = 0 := w; omega
  | cons y p =>
    obtain ⟨a1, a2, a3, a4, a5⟩ := w
    exact ⟨p, by rw [a4], by omega, by omega, a5⟩
theorem xPz.cg : ∀ (P : List Int) (n : Int), (∀ i, 0 ≤ i → i < n → h' i = h i) → xPz h P n → xPz h' P n := by
  intro P
  induction P with
  | nil => intro n _ w; exact w
  | cons y p ih =>
    intro n hc w
    obtain ⟨a1, a2, a3, a4, a5⟩ := w
    exact ⟨a1, a2, a3, by rw [hc (n - 1) (by omega) (by omega)]; exact a4, ih (n - 1) (fun i q1 q2 => hc i q1 (by omega)) a5⟩
theorem xPz.push (w : xPz h P n) (hu : h' n = x) (hf : ∀ i, 0 ≤ i → i ≠ n → h' i = h i) (hx : 12 ≤ x ∧ x ≤ 15) : xPz h' (x :: P) (n + 1) := by
  have nn := w.nn
  refine ⟨by omega, hx.1, hx.2, ?_, ?_⟩
  · rw [show n + 1 - 1 = n by omega]; exact hu
  · rw [show n + 1 - 1 = n by omega]; exact xPz.cg P n (fun i q1 q2 => hf i q1 (by omega)) w
theorem xPz.rng : ∀ (P : List Int) (n : Int), xPz h P n → ∀ y ∈ P, 12 ≤ y ∧ y ≤ 15 := by
  intro P
  induction P with
  | nil => intro n _ y hy; cases hy
  | cons z p ih =>
    intro n w y hy
    obtain ⟨a1, a2, a3, a4, a5⟩ := w
    rcases List.mem_cons.mp hy with e | e
    · rw [e]; exact ⟨a2, a3⟩
    · exact ih _ a5 y e
theorem xPz.op : ∀ (P : List Int) (n : Int), xPz h P n → (15 ∈ P ↔ xOp n h) := by
  intro P
  induction P with
  | nil =>
    intro n w
    have e : n = 0 := w
    refine ⟨fun q => (by cases q), fun q => ?_⟩
    obtain ⟨k, k1, k2, k3⟩ := q
    omega
  | cons z p ih =>
    intro n w
    obtain ⟨a1, a2, a3, a4, a5⟩ := w
    have i := ih _ a5
    rw [List.mem_cons]
    constructor
    · rintro (e | e)
      · exact ⟨n - 1, by omega, by omega, by rw [a4, e]⟩
      · obtain ⟨k, k1, k2, k3⟩ := i.mp e
        exact ⟨k, k1, by omega, k3⟩
    · rintro ⟨k, k1, k2, k3⟩
      by_cases e : k = n - 1
      · rw [e, a4] at k3; exact Or.inl k3.symm
      · exact Or.inr (i.mpr ⟨k, k1, by omega, k3⟩)
theorem xdrb0 (hb : b ≤ n) (hr : ∀ k, b ≤ k → k < n → 13 ≤ h k ∧ h k ≤ m) (c : ¬ (13 ≤ h (n - 1) ∧ h (n - 1) ≤ m)) : b = n := by
  by_cases q : b = n
  · exact q
  · exact absurd (hr (n - 1) (by omega) (by omega)) c
theorem xdrb1 (hb : b ≤ n) (h0 : 0 < n) (hs : b = 0 ∨ h (b - 1) < 13 ∨ m < h (b - 1)) (c : 13 ≤ h (n - 1) ∧ h (n - 1) ≤ m) : b ≤ n - 1 := by
  by_cases q : b = n
  · rw [q] at hs; omega
  · omega
end XPZ
def xKs (tk h : Int → Int) (nt d a o : Int) (r : xRr9) : Prop := ∃ (P : List Int) (L : List (Int × Int × Int)), xPz h P nt ∧ d = xcn9 P ∧ xKm tk P 0 (d + 1) (0, a, o, L) r
def xKo (tk h : Int → Int) (nt d a o : Int) (r : xRr9) : Prop := ∃ (P : List Int) (L : List (Int × Int × Int)) (r1 : xRr9), xPz h P nt ∧ d = xcn9 P ∧ xQ tk 0 (d + 1) a o L r1 ∧ xKm tk P 0 (d + 1) r1 r
section XKO
variable {tk h h' : Int → Int} {nt d a o b c x : Int} {r : xRr9}
theorem xKo.start (w : xQ tk 2 1 a o [] r) (hn : nt = 0) (hd : d = 0) : xKo tk h nt d a o r := by
  obtain ⟨r1, w1, w2⟩ := xKm.start w
  refine ⟨[], [], r1, hn, hd, ?_, ?_⟩
  · rw [show d + 1 = 1 by omega]; exact w1
  · rw [show d + 1 = 1 by omega]; exact w2
theorem xKo.f1 (k : xKo tk h nt d a o r) (c : ¬ (10 ≤ tk a ∧ tk a ≤ 21) ∧ tk a ≠ 7 ∧ tk a ≠ 25) : r = xfq9 1 a := by
  obtain ⟨P, L, r1, h1, h2, h3, h4⟩ := k
  have e := h3.det (xQ.f1 c)
  subst e
  exact xKm.flt _ _ _ _ _ (xn9 (by decide)) h4
theorem xKo.f4 (k : xKo tk h nt d a o r) (c : ¬ (¬ (10 ≤ tk a ∧ tk a ≤ 21) ∧ tk a ≠ 7 ∧ tk a ≠ 25)) (c2 : 50 ≤ o ∨ 10 < d + 1) : r = xfq9 4 a := by
  obtain ⟨P, L, r1, h1, h2, h3, h4⟩ := k
  have e := h3.det (xQ.f4 c c2)
  subst e
  exact xKm.flt _ _ _ _ _ (xn9 (by decide)) h4
theorem xKo.fs (k : xKo tk h nt d a o r) (c : 13 ≤ tk a ∧ tk a ≤ 21) (c2 : ¬ (50 ≤ o ∨ 10 < d + 1)) (eb : b = a + 1) (c3 : ¬ (27 ≤ tk b ∧ tk b ≤ 29)) : r = xfq9 1 b := by
  subst eb
  obtain ⟨P, L, r1, h1, h2, h3, h4⟩ := k
  have e := h3.det (xQ.fs c c2 c3)
  subst e
  exact xKm.flt _ _ _ _ _ (xn9 (by decide)) h4
theorem xKo.fn (k : xKo tk h nt d a o r) (c1 : 13 ≤ tk a ∧ tk a ≤ 21) (c2 : ¬ (50 ≤ o ∨ 10 < d + 1)) (eb : b = a + 1) (ec : c = a + 2) (c3 : 27 ≤ tk b ∧ tk b ≤ 29) (c4 : tk c < 100) : r = xfq9 1 c := by
  subst eb
  subst ec
  obtain ⟨P, L, r1, h1, h2, h3, h4⟩ := k
  have e := h3.det (xQ.fn c1 c2 c3 c4)
  subst e
  exact xKm.flt _ _ _ _ _ (xn9 (by decide)) h4
theorem xKo.flag (k : xKo tk h nt d a o r) (c : 10 ≤ tk a ∧ tk a ≤ 12) (c2 : ¬ (50 ≤ o ∨ 10 < d + 1)) (eb : b = a + 1) : xKs tk h nt d b (o + 1) r := by
  subst eb
  obtain ⟨P, L, r1, h1, h2, h3, h4⟩ := k
  have e := h3.det (xQ.flag c c2)
  subst e
  exact ⟨P, _, h1, h2, h4⟩
theorem xKo.cmp (k : xKo tk h nt d a o r) (c1 : 13 ≤ tk a ∧ tk a ≤ 21) (c2 : ¬ (50 ≤ o ∨ 10 < d + 1)) (eb : b = a + 1) (ec : c = a + 2) (c3 : 27 ≤ tk b ∧ tk b ≤ 29) (c4 : 100 ≤ tk c) (ex : x = a + 3) : xKs tk h nt d x (o + 1) r := by
  subst eb
  subst ec
  subst ex
  obtain ⟨P, L, r1, h1, h2, h3, h4⟩ := k
  have e := h3.det (xQ.cmp c1 c2 c3 c4)
  subst e
  exact ⟨P, _, h1, h2, h4⟩
theorem xKo.nnt (k : xKo tk h nt d a o r) (e : tk a = 7) (c2 : ¬ (50 ≤ o ∨ 10 < d + 1)) (hu : h' nt = 12) (hf : ∀ i, 0 ≤ i → i ≠ nt → h' i = h i) : xKo tk h' (nt + 1) (d + 1) (a + 1) (o + 1) r := by
  obtain ⟨P, L, r1, h1, h2, h3, h4⟩ := k
  obtain ⟨q, w1, w2⟩ := xKm.nt e c2 h3 h4
  exact ⟨12 :: P, L, q, h1.push hu hf (by omega), by rw [xcn9.i (Or.inl rfl)]; omega, w1, w2⟩
theorem xKo.par (k : xKo tk h nt d a o r) (e : tk a = 25) (c2 : ¬ (50 ≤ o ∨ 10 < d + 1)) (hu : h' nt = 15) (hf : ∀ i, 0 ≤ i → i ≠ nt → h' i = h i) : xKo tk h' (nt + 1) (d + 1) (a + 1) (o + 1) r := by
  obtain ⟨P, L, r1, h1, h2, h3, h4⟩ := k
  obtain ⟨q, w1, w2⟩ := xKm.par e c2 h3 h4
  exact ⟨15 :: P, L, q, h1.push hu hf (by omega), by rw [xcn9.i (Or.inr rfl)]; omega, w1, w2⟩
theorem xKs.nots : ∀ (k : Nat) (nt d : Int), nt - b = k → 0 ≤ b → xKs tk h nt d a o r → (∀ j, b ≤ j → j < nt → h j = 12) → xKs tk h b (d - (nt - b)) a o r := by
  intro k
  induction k with
  | zero =>
    intro nt d e hb w _
    have e' : nt = b := by omega
    subst e'
    rw [show d - (nt - nt) = d by omega]
    exact w
  | succ k ih =>
    intro nt d e hb w hr
    obtain ⟨P, L, h1, h2, h3⟩ := w
    obtain ⟨p, e1, e2, e3, e4⟩ := h1.top (by omega)
    rw [hr (nt - 1) (by omega) (by omega)] at e1
    subst e1
    have v : xKs tk h (nt - 1) (d - 1) a o r := by
      refine ⟨p, L ++ [(12, 0, 0)], e4, ?_, ?_⟩
      · rw [xcn9.i (Or.inl rfl)] at h2; omega
      · have w := xKm.dn h3
        rw [show d + 1 - 1 = d - 1 + 1 by omega] at w
        exact w
    have u := ih (nt - 1) (d - 1) (by omega) hb v (fun j q1 q2 => hr j q1 (by omega))
    rw [show d - 1 - (nt - 1 - b) = d - (nt - b) by omega] at u
    exact u
theorem xKs.drop : ∀ (k : Nat) (P : List Int) (n : Int) (L : List (Int × Int × Int)), n - b = k + 1 → 0 ≤ b → xPz h P n → (∀ j, b ≤ j → j < n → 13 ≤ h j ∧ h j ≤ 14) → xKe tk P d (0, a, o, L) r → tk a ≠ 8 → tk a ≠ 9 → ∃ (P' : List Int) (L' : List (Int × Int × Int)), xPz h P' b ∧ xcn9 P' = xcn9 P ∧ xKf tk P' d (0, a, o, L') r := by
  intro k
  induction k with
  | zero =>
    intro P n L e hb w hr hk e8 e9
    obtain ⟨p, e1, e2, e3, e4⟩ := w.top (by omega)
    have q := hr (n - 1) (by omega) (by omega)
    subst e1
    have v := xKe.drop (by omega) hk e8 e9
    refine ⟨p, _, ?_, (xcn9.o (by omega)).symm, v⟩
    rw [show b = n - 1 by omega]
    exact e4
  | succ k ih =>
    intro P n L e hb w hr hk e8 e9
    obtain ⟨p, e1, e2, e3, e4⟩ := w.top (by omega)
    have q := hr (n - 1) (by omega) (by omega)
    subst e1
    have v := xKe.drop (by omega) hk e8 e9
    obtain ⟨P', L', u1, u2, u3⟩ := ih p (n - 1) _ (by omega) hb e4 (fun j q1 q2 => hr j q1 (by omega)) (Or.inr v) e8 e9
    exact ⟨P', L', u1, by rw [u2]; exact (xcn9.o (by omega)).symm, u3⟩
theorem xKs.shut (w : xKs tk h nt d a o r) (hn : nt = 0 ∨ h (nt - 1) ≠ 12) (ho : xOp nt h) (e : tk a = 26) (hb : 0 ≤ b ∧ b ≤ nt) (hs : b = 0 ∨ h (b - 1) < 13 ∨ 14 < h (b - 1)) (hr : ∀ k, b ≤ k → k < nt → 13 ≤ h k ∧ h k ≤ 14) : 1 ≤ b ∧ xKs tk h (b - 1) (d - 1) (a + 1) o r := by
  have b1 : 1 ≤ b := by
    obtain ⟨k, k1, k2, k3⟩ := ho
    by_cases q : k < b
    · omega
    · have := hr k (by omega) k2; omega
  refine ⟨b1, ?_⟩
  obtain ⟨P, L, h1, h2, h3⟩ := w
  have key : ∃ (P' : List Int) (L' : List (Int × Int × Int)), xPz h P' b ∧ xcn9 P' = xcn9 P ∧ xKe tk P' (d + 1) (0, a, o, L') r ∧ h (b - 1) ≠ 12 := by
    by_cases q : b = nt
    · subst q
      exact ⟨P, L, h1, rfl, Or.inl h3, by omega⟩
    · obtain ⟨P', L', u1, u2, u3⟩ := xKs.drop (nt - b - 1).toNat P nt L (by omega) hb.1 h1 hr (Or.inl h3) (by omega) (by omega)
      refine ⟨P', L', u1, u2, Or.inr u3, fun q2 => ?_⟩
      obtain ⟨p, e1, _⟩ := u1.top (by omega)
      rw [e1] at u3
      have := u3.hd
      omega
  obtain ⟨P', L', u1, u2, u3, u4⟩ := key
  obtain ⟨p, e1, e2, e3, e4⟩ := u1.top (by omega)
  have e15 : h (b - 1) = 15 := by omega
  rw [e15] at e1
  subst e1
  have v := xKm.shut (xKe.shut u3 (by omega) (by omega)) e
  rw [xcn9.i (Or.inr rfl)] at u2
  refine ⟨p, L', e4, by omega, ?_⟩
  rw [show d - 1 + 1 = d + 1 - 1 by omega]
  exact v
theorem xKe.opn : ∀ (P : List Int) (L : List (Int × Int × Int)), (∀ y ∈ P, 12 ≤ y ∧ y ≤ 15) → 15 ∈ P → (∀ p, P ≠ 12 :: p) → xKe tk P d (0, a, o, L) r → tk a ≠ 8 → tk a ≠ 9 → tk a ≠ 26 → r = xfq9 1 a := by
  intro P
  induction P with
  | nil => intro L _ q; cases q
  | cons y p ih =>
    intro L hy q h12 hk e8 e9 e26
    have ry := hy y (List.mem_cons_self ..)
    by_cases c : y = 15
    · subst c
      exact xKm.opq (xKe.shut hk e8 e9) e26
    · have n12 : y ≠ 12 := fun z => h12 p (by rw [z])
      have v := xKe.drop (by omega) hk e8 e9
      refine ih _ (fun z hz => hy z (List.mem_cons_of_mem _ hz)) ?_ ?_ (Or.inr v) e8 e9 e26
      · rcases List.mem_cons.mp q with z | z
        · exact absurd z.symm c
        · exact z
      · intro p' z
        rw [z] at v
        have := v.hd
        omega
theorem xKe.fin : ∀ (P : List Int) (L : List (Int × Int × Int)), (∀ y ∈ P, 12 ≤ y ∧ y ≤ 15) → ¬ 15 ∈ P → (∀ p, P ≠ 12 :: p) → xKe tk P d (0, a, o, L) r → tk a ≠ 8 → tk a ≠ 9 → (r.1 = 0 ∧ r.2.1 = a ∧ r.2.2.1 = o) ∧ xcn9 P = 0 := by
  intro P
  induction P with
  | nil =>
    intro L _ _ _ hk e8 e9
    rw [xKe.nil hk e8 e9]
    exact ⟨⟨rfl, rfl, rfl⟩, rfl⟩
  | cons y p ih =>
    intro L hy q h12 hk e8 e9
    have ry := hy y (List.mem_cons_self ..)
    have n12 : y ≠ 12 := fun z => h12 p (by rw [z])
    have n15 : y ≠ 15 := fun z => q (by rw [z]; exact List.mem_cons_self ..)
    have v := xKe.drop (by omega) hk e8 e9
    have u := ih _ (fun z hz => hy z (List.mem_cons_of_mem _ hz)) (fun z => q (List.mem_cons_of_mem _ z)) ?_ (Or.inr v) e8 e9
    · rw [xcn9.o (by omega)]; exact u
    · intro p' z
      rw [z] at v
      have := v.hd
      omega
theorem xKs.n12 {P : List Int} (h1 : xPz h P nt) (hn : nt = 0 ∨ h (nt - 1) ≠ 12) : ∀ p, P ≠ 12 :: p := fun p e => by
  rw [e] at h1
  obtain ⟨a1, a2, a3, a4, a5⟩ := h1
  omega
theorem xKs.opn (w : xKs tk h nt d a o r) (hn : nt = 0 ∨ h (nt - 1) ≠ 12) (ho : xOp nt h) (e8 : tk a ≠ 8) (e9 : tk a ≠ 9) (e26 : tk a ≠ 26) : r = xfq9 1 a := by
  obtain ⟨P, L, h1, h2, h3⟩ := w
  exact xKe.opn P L (xPz.rng P nt h1) ((xPz.op P nt h1).mpr ho) (xKs.n12 h1 hn) (Or.inl h3) e8 e9 e26
theorem xKs.fin (w : xKs tk h nt d a o r) (hn : nt = 0 ∨ h (nt - 1) ≠ 12) (ho : ¬ xOp nt h) (e8 : tk a ≠ 8) (e9 : tk a ≠ 9) : (r.1 = 0 ∧ r.2.1 = a ∧ r.2.2.1 = o) ∧ d = 0 := by
  obtain ⟨P, L, h1, h2, h3⟩ := w
  have u := xKe.fin P L (xPz.rng P nt h1) (fun q => ho ((xPz.op P nt h1).mp q)) (xKs.n12 h1 hn) (Or.inl h3) e8 e9
  exact ⟨u.1, by rw [h2]; exact u.2⟩
theorem xKs.and (w : xKs tk h nt d a o r) (hn : nt = 0 ∨ h (nt - 1) ≠ 12) (e : tk a = 8) (hb : 0 ≤ b ∧ b ≤ nt) (hs : b = 0 ∨ h (b - 1) < 13 ∨ 13 < h (b - 1)) (hr : ∀ k, b ≤ k → k < nt → 13 ≤ h k ∧ h k ≤ 13) (hu : h' b = 13) (hf : ∀ i, 0 ≤ i → i ≠ b → h' i = h i) : xKo tk h' (b + 1) d (a + 1) o r := by
  obtain ⟨P, L, h1, h2, h3⟩ := w
  have nn := h1.nn
  by_cases z : nt = 0
  · have e0 := h1.nil z
    subst e0
    obtain ⟨r1, w1, w2⟩ := xKm.and e (Or.inl rfl) h3
    have hb0 : b = nt := by omega
    subst hb0
    exact ⟨[13], L, r1, xPz.push h1 hu hf (by omega), by rw [xcn9.o (Or.inl rfl)]; exact h2, w1, w2⟩
  · obtain ⟨p, e1, e2, e3, e4⟩ := h1.top (by omega)
    by_cases c : h (nt - 1) = 13
    · have b1 := xdrb1 (m := 13) hb.2 (by omega) hs (by omega)
      rw [c] at e1
      subst e1
      obtain ⟨r1, w1, w2⟩ := xKm.and2 e h3
      have bb : b = nt - 1 := by
        by_cases zz : nt - 1 = 0
        · omega
        · obtain ⟨p2, f1, _⟩ := e4.top (by omega)
          unfold xKm at h3
          rw [if_pos rfl, if_neg (by decide), if_pos rfl] at h3
          obtain ⟨r2, _, q⟩ := h3
          rw [f1] at q
          have g := xKf.hd (Or.inl q)
          exact xdrb0 (m := 13) b1 (fun k q1 q2 => hr k q1 (by omega)) (by omega)
      subst bb
      exact ⟨13 :: p, _, r1, xPz.push e4 hu hf (by omega), h2, w1, w2⟩
    · have bb := xdrb0 (m := 13) hb.2 hr (by omega)
      subst bb
      have hp : P = [] ∨ ∃ q, P = 14 :: q ∨ P = 15 :: q := Or.inr ⟨p, by
        rcases (show h (b - 1) = 14 ∨ h (b - 1) = 15 by omega) with q | q
        · rw [q] at e1; exact Or.inl e1
        · rw [q] at e1; exact Or.inr e1⟩
      obtain ⟨r1, w1, w2⟩ := xKm.and e hp h3
      exact ⟨13 :: P, L, r1, xPz.push h1 hu hf (by omega), by rw [xcn9.o (Or.inl rfl)]; exact h2, w1, w2⟩
theorem xKo.or1 {P : List Int} {L : List (Int × Int × Int)} {n : Int} (h1 : xPz h P n) (h2 : d = xcn9 P) (h3 : xKm tk P 1 (d + 1) (0, a, o, L) r) (e : tk a = 9) (hb : 0 ≤ b ∧ b ≤ n) (hs : b = 0 ∨ h (b - 1) < 13 ∨ 14 < h (b - 1)) (hr : ∀ k, b ≤ k → k < n → 13 ≤ h k ∧ h k ≤ 14) (hu : h' b = 14) (hf : ∀ i, 0 ≤ i → i ≠ b → h' i = h i) : xKo tk h' (b + 1) d (a + 1) o r := by
  have nn := h1.nn
  by_cases z : n = 0
  · have e0 := h1.nil z
    subst e0
    obtain ⟨r1, w1, w2⟩ := xKm.or e (Or.inl rfl) h3
    have hb0 : b = n := by omega
    subst hb0
    exact ⟨[14], L, r1, xPz.push h1 hu hf (by omega), by rw [xcn9.o (Or.inr rfl)]; exact h2, w1, w2⟩
  · obtain ⟨p, e1, e2, e3, e4⟩ := h1.top (by omega)
    have g : h (n - 1) = 14 ∨ h (n - 1) = 15 := by
      rw [e1] at h3
      exact xKf.hd (Or.inl h3)
    rcases g with c | c
    · have b1 := xdrb1 (m := 14) hb.2 (by omega) hs (by omega)
      rw [c] at e1
      subst e1
      obtain ⟨r1, w1, w2⟩ := xKm.or2 e h3
      have bb : b = n - 1 := by
        by_cases zz : n - 1 = 0
        · omega
        · obtain ⟨p2, f1, _⟩ := e4.top (by omega)
          unfold xKm at h3
          rw [if_neg (by decide), if_pos rfl, if_pos rfl] at h3
          obtain ⟨r2, _, q⟩ := h3
          rw [f1] at q
          have g := q.hd2
          exact xdrb0 (m := 14) b1 (fun k q1 q2 => hr k q1 (by omega)) (by omega)
      subst bb
      exact ⟨14 :: p, _, r1, xPz.push e4 hu hf (by omega), h2, w1, w2⟩
    · have bb := xdrb0 (m := 14) hb.2 hr (by omega)
      subst bb
      rw [c] at e1
      obtain ⟨r1, w1, w2⟩ := xKm.or e (Or.inr ⟨p, e1⟩) h3
      exact ⟨14 :: P, L, r1, xPz.push h1 hu hf (by omega), by rw [xcn9.o (Or.inr rfl)]; exact h2, w1, w2⟩
theorem xKs.or (w : xKs tk h nt d a o r) (hn : nt = 0 ∨ h (nt - 1) ≠ 12) (e : tk a = 9) (hb : 0 ≤ b ∧ b ≤ nt) (hs : b = 0 ∨ h (b - 1) < 13 ∨ 14 < h (b - 1)) (hr : ∀ k, b ≤ k → k < nt → 13 ≤ h k ∧ h k ≤ 14) (hu : h' b = 14) (hf : ∀ i, 0 ≤ i → i ≠ b → h' i = h i) : xKo tk h' (b + 1) d (a + 1) o r := by
  obtain ⟨P, L, h1, h2, h3⟩ := w
  have nn := h1.nn
  have e8 : tk a ≠ 8 := by omega
  by_cases z : nt = 0
  · have e0 := h1.nil z
    subst e0
    exact xKo.or1 h1 h2 (xKm.d0 e8 (Or.inl rfl) h3) e hb hs hr hu hf
  · obtain ⟨p, e1, e2, e3, e4⟩ := h1.top (by omega)
    by_cases c : h (nt - 1) = 13
    · have b1 := xdrb1 (m := 14) hb.2 (by omega) hs (by omega)
      rw [c] at e1
      subst e1
      rw [xcn9.o (Or.inl rfl)] at h2
      exact xKo.or1 e4 h2 (xKm.da e8 h3) e ⟨hb.1, b1⟩ hs (fun k q1 q2 => hr k q1 (by omega)) hu hf
    · have hp : P = [] ∨ ∃ q, P = 14 :: q ∨ P = 15 :: q := Or.inr ⟨p, by
        rcases (show h (nt - 1) = 14 ∨ h (nt - 1) = 15 by omega) with q | q
        · rw [q] at e1; exact Or.inl e1
        · rw [q] at e1; exact Or.inr e1⟩
      exact xKo.or1 h1 h2 (xKm.d0 e8 hp h3) e hb hs hr hu hf
end XKO
set_option maxHeartbeats 4000000 in
set_option maxRecDepth 100000 in
theorem c_X12_emit (l : Launch) (D : va_G) (kA : Nat → ClassId) (b0 : Nat) (t0 : Nat → Nat) (S : xT) (g : xG) (a0 : Nat) (x1 : Int) (x2 : Int) (x3 : Int) (np : Int) (wp : Nat) (hs_a0 : S a0 = some (13, 0)) (hx1 : 0 ≤ x1 ∧ x1 ≤ 15) (hx2 : (-2147483648) ≤ x2 ∧ x2 ≤ 2147483647) (hx3 : (-2147483648) ≤ x3 ∧ x3 ≤ 2147483647) (hnp : 0 ≤ np ∧ np ≤ 119) (enp : g a0 41 = .int (iI np)) (ewp : g a0 35 = .ref wp) (hs_wp : S wp = some (15900, 1320)) : xMt l yX12_emit cX12_emit 5 none 0 0 0 0 D kA b0 t0 [(15900, 0), (16000, 0), (16100, 0), (13, 41)] [.ref a0, .int (iI x1), .int (iI x2), .int (iI x3)] S g (fun (r : Option Value) (S1 : xT) (g1 : xG) => S = S1 ∧ r = none ∧ (g1 a0 41 = .int (iI (np + 1))) ∧ (xUp (xv g1 wp) (xv g wp) (1200 + np) x1)) := by
  refine xEnterV (by decide) (by simp [lg_sl, Value.category]) [(0, .ref a0), (1, .int (iI x1)), (2, .int (iI x2)), (3, .int (iI x3))] rfl ?_
  intro K E hK hret _ _ _
  refine X_sipush hK dX12_emit_0 (by decide) ?_
  refine X_aloadn hK (i := 0) 0 dX12_emit_3 rfl rfl ?_
  refine X_getK hK fl_X12_313_13 hs_a0 enp dX12_emit_4 ?_
  refine X_iadd hK dX12_emit_7 ?_
  refine X_istore hK (i := 4) [(4, .int (iI (1200 + np))), (0, .ref a0), (1, .int (iI x1)), (2, .int (iI x2)), (3, .int (iI x3))] dX12_emit_8 (by decide) rfl ?_
  refine X_aloadn hK (i := 0) 1 dX12_emit_10 rfl rfl ?_
  refine X_getK hK fl_X12_68_13 hs_a0 ewp dX12_emit_11 ?_
  refine X_iload hK (i := 4) 0 dX12_emit_14 rfl ?_
  refine X_iloadn hK (i := 1) 2 dX12_emit_16 rfl rfl ?_
  refine X_iast hK hs_wp (by decide) (by decide) sl_15900 (by omega) (by omega) (by omega) (by omega) dX12_emit_17 (fun g1 hg1 => ?_)
  refine X_aloadn hK (i := 0) 1 dX12_emit_18 rfl rfl ?_
  refine X_getr hK 16000 1320 fl_X12_71_13 hs_a0 sl_13_36 dX12_emit_19 (fun b2 eb2 hs_b2 => ?_)
  refine X_iload hK (i := 4) 0 dX12_emit_22 rfl ?_
  refine X_iloadn hK (i := 2) 3 dX12_emit_24 rfl rfl ?_
  refine X_iast hK hs_b2 (by decide) (by decide) sl_16000 (by omega) (by omega) (by omega) (by omega) dX12_emit_25 (fun g3 hg3 => ?_)
  refine X_aloadn hK (i := 0) 1 dX12_emit_26 rfl rfl ?_
  refine X_getr hK 16100 1320 fl_X12_74_13 hs_a0 sl_13_37 dX12_emit_27 (fun b4 eb4 hs_b4 => ?_)
  refine X_iload hK (i := 4) 0 dX12_emit_30 rfl ?_
  refine X_iloadn hK (i := 3) 4 dX12_emit_32 rfl rfl ?_
  refine X_iast hK hs_b4 (by decide) (by decide) sl_16100 (by omega) (by omega) (by omega) (by omega) dX12_emit_33 (fun g5 hg5 => ?_)
  refine X_aloadn hK (i := 0) 1 dX12_emit_34 rfl rfl ?_
  refine X_dup hK dX12_emit_35 rfl ?_
  refine X_getK hK fl_X12_313_13 hs_a0 ((xs_a hg5 (xne hs_a0 hs_b4 (by decide))).trans ((xs_a hg3 (xne hs_a0 hs_b2 (by decide))).trans ((xs_a hg1 (xne hs_a0 hs_wp (by decide))).trans enp))) dX12_emit_36 ?_
  refine X_iconst hK dX12_emit_39 ?_
  refine X_iadd hK dX12_emit_40 ?_
  refine X_puti hK fl_X12_313_13 hs_a0 (by decide) sl_13_41 (by omega) (by omega) dX12_emit_41 (fun g6 hg6 => ?_)
  exact hret _ _ _ _ _ _ dX12_emit_44 ⟨rfl, rfl, (xs_s hg6), ⟨(show xv g6 wp (1200 + np) = x1 from by rw [(xv_a hg6 (xne hs_wp hs_a0 (by decide))), (xv_a hg5 (xne hs_wp hs_b4 (by decide))), (xv_a hg3 (xne hs_wp hs_b2 (by decide))), xv_s hg1 (by omega)]), (fun i9 hi9 h09 => (show xv g6 wp i9 = xv g wp i9 from by rw [(xv_a hg6 (xne hs_wp hs_a0 (by decide))), (xv_a hg5 (xne hs_wp hs_b4 (by decide))), (xv_a hg3 (xne hs_wp hs_b2 (by decide))), (xv_k (i := i9) hg1 (by omega) (by omega) (by omega))]))⟩⟩ (Nat.le_refl _) (Nat.le_refl _)

set_option maxHeartbeats 4000000 in
set_option maxRecDepth 100000 in
theorem c_X12_drop (l : Launch) (D : va_G) (kA : Nat → ClassId) (b0 : Nat) (t0 : Nat → Nat) (S : xT) (g : xG) (a0 : Nat) (x1 : Int) (x2 : Int) (np : Int) (nt : Int) (no : Int) (nw : Int) (wp : Nat) (wl : Nat) (F9 : Int) (hs_a0 : S a0 = some (13, 0)) (hx1 : 13 ≤ x1 ∧ x1 ≤ 13) (hx2 : 13 ≤ x2 ∧ x2 ≤ 14) (hnp : 0 ≤ np ∧ np ≤ 120) (enp : g a0 41 = .int (iI np)) (hnt : 0 ≤ nt ∧ nt ≤ 64) (ent : g a0 42 = .int (iI nt)) (hno : 0 ≤ no ∧ no ≤ 50) (eno : g a0 43 = .int (iI no)) (hnw : 0 ≤ nw ∧ nw ≤ 10) (enw : g a0 44 = .int (iI nw)) (ewp : g a0 35 = .ref wp) (hs_wp : S wp = some (15900, 1320)) (ewl : g a0 38 = .ref wl) (hs_wl : S wl = some (16200, 64)) (hp0 : xRd (xv g wp) (xv g wl) F9 np nt no nw 0) : xMt l yX12_drop cX12_drop 3 none 1 0 0 24 D kA b0 t0 [(13, 42), (15900, 0), (16000, 0), (16100, 0), (13, 41)] [.ref a0, .int (iI x1), .int (iI x2)] S g (fun (r : Option Value) (S1 : xT) (g1 : xG) => S = S1 ∧ r = none ∧ (∃ a b : Int, g1 a0 41 = .int (iI a) ∧ np ≤ a ∧ a ≤ 120 ∧ g1 a0 42 = .int (iI b) ∧ 0 ≤ b ∧ b ≤ nt ∧ xRd (xv g1 wp) (xv g wl) F9 a b no nw 0 ∧ (b = 0 ∨ xv g wl (b - 1) < 13 ∨ x2 < xv g wl (b - 1)) ∧ (∀ k, b ≤ k → k < nt → 13 ≤ xv g wl k ∧ xv g wl k ≤ x2) ∧ xLow (1200 + F9) (xv g1 wp) (xv g wp))) := by
  refine xEnterV (by decide) (by simp [lg_sl, Value.category]) [(0, .ref a0), (1, .int (iI x1)), (2, .int (iI x2))] rfl ?_
  intro K E hK hret _ _ _
  have P85 : ∀ (nP85 : Nat) (g68 : xG) (_ : xM [(15900, 0), (16000, 0), (16100, 0), (13, 41), (13, 42)] S g g68) (q69 : Int) (_ : 0 ≤ q69) (_ : q69 ≤ 120) (_ : g68 a0 41 = .int (iI q69)) (q70 : Int) (_ : 0 ≤ q70) (_ : q70 ≤ 64) (_ : g68 a0 42 = .int (iI q70)) (_ : xRd (xv g68 wp) (xv g wl) F9 q69 q70 no nw 0) (_ : q70 ≤ nt) (_ : np ≤ q69) (_ : ∀ k, q70 ≤ k → k < nt → 13 ≤ xv g wl k ∧ xv g wl k ≤ x2) (_ : xLow (1200 + F9) (xv g68 wp) (xv g wp)) (_ : q70 < (nP85 : Int)), X K E 0 [(0, .ref a0), (1, .int (iI x1)), (2, .int (iI x2))] [] S g68 0 0 := by
    intro nP85
    induction nP85 with
    | zero => intro g68 hg68 q69 lq69 uq69 eq69 q70 lq70 uq70 eq70 v86 v87 v88 v89 v90 mP85; exact False.elim (by omega)
    | succ nP85 ihP85 =>
      intro g68 hg68 q69 lq69 uq69 eq69 q70 lq70 uq70 eq70 v86 v87 v88 v89 v90 mP85
      refine X_aloadn hK (i := 0) 0 dX12_drop_0 rfl rfl ?_
      have hbh91 := xRd.bd v86 (by omega)
      refine X_getK hK fl_X12_316_13 hs_a0 eq70 dX12_drop_1 ?_
      refine X_if_le hK 54 (by omega) dX12_drop_4 (by decide) (fun c92 => ?_) (fun c92 => ?_)
      · exact hret _ _ _ _ _ _ dX12_drop_54 ⟨rfl, rfl, ⟨q69, q70, eq69, by omega, by omega, eq70, by omega, by omega, v86, by omega, v89, v90⟩⟩ (Nat.le_refl _) (Nat.le_refl _)
      · refine X_aloadn hK (i := 0) 0 dX12_drop_7 rfl rfl ?_
        refine X_getK hK fl_X12_77_13 hs_a0 ((hg68 a0 13 0 38 hs_a0 (by decide)).trans ewl) dX12_drop_8 ?_
        refine X_aloadn hK (i := 0) 0 dX12_drop_11 rfl rfl ?_
        refine X_getK hK fl_X12_316_13 hs_a0 eq70 dX12_drop_12 ?_
        refine X_iconst hK dX12_drop_15 ?_
        refine X_isub hK dX12_drop_16 ?_
        refine X_iald hK hs_wl (by decide) sl_16200 (by omega) (by omega) dX12_drop_17 (fun z93 ez93 lz93 uz93 => ?_)
        have hzh94 : xv g wl (q70 - 1) = z93 := by have h9 := xv_e (j := (q70 - 1)) ez93 (by omega); rw [(xv_m hg68 hs_wl (by decide) (by decide))] at h9; exact h9
        refine X_iloadn hK (i := 1) 1 dX12_drop_18 rfl rfl ?_
        refine X_iloadn hK (i := 2) 2 dX12_drop_19 rfl rfl ?_
        refine X_callS hK [.int (iI z93), .int (iI x1), .int (iI x2)] [] lk_X12_211 (c_X12_isIn _ _ _ _ _ S g68 z93 x1 x2 (by omega) (by omega) (by omega)) dX12_drop_20 rfl rfl (by simp [Value.category]) (by decide) (by decide) (by decide) (by decide) (fun r95 S97 g96 pr95 qr95 hg96 => ?_)
        obtain ⟨rfl, rfl, z98, rfl, lz98, uz98, k99⟩ := pr95
        refine X_st [.int (iI z98)] rfl ?_
        refine X_if_eq hK 54 (by omega) dX12_drop_23 (by decide) (fun c100 => ?_) (fun c100 => ?_)
        · exact hret _ _ _ _ _ _ dX12_drop_54 ⟨rfl, rfl, ⟨q69, q70, eq69, by omega, by omega, eq70, by omega, by omega, v86, by omega, v89, v90⟩⟩ (Nat.le_refl _) (Nat.le_refl _)
        · refine X_aloadn hK (i := 0) 0 dX12_drop_26 rfl rfl ?_
          refine X_dup hK dX12_drop_27 rfl ?_
          refine X_getK hK fl_X12_316_13 hs_a0 eq70 dX12_drop_28 ?_
          refine X_iconst hK dX12_drop_31 ?_
          refine X_isub hK dX12_drop_32 ?_
          refine X_puti hK fl_X12_316_13 hs_a0 (by decide) sl_13_42 (by omega) (by omega) dX12_drop_33 (fun g101 hg101 => ?_)
          refine X_aloadn hK (i := 0) 0 dX12_drop_36 rfl rfl ?_
          refine X_aloadn hK (i := 0) 0 dX12_drop_37 rfl rfl ?_
          refine X_getK hK fl_X12_77_13 hs_a0 ((xs_k hg101 (by decide)).trans ((hg68 a0 13 0 38 hs_a0 (by decide)).trans ewl)) dX12_drop_38 ?_
          refine X_aloadn hK (i := 0) 0 dX12_drop_41 rfl rfl ?_
          refine X_getK hK fl_X12_316_13 hs_a0 (xs_s hg101) dX12_drop_42 ?_
          refine X_ialdK hK hs_wl (by decide) (by omega) (by omega) ((xs_a hg101 (xne hs_wl hs_a0 (by decide))).trans ez93) dX12_drop_45 ?_
          have hzh102 : xv g wl (q70 - 1) = z93 := by have h9 := xv_e (j := (q70 - 1)) ((xs_a hg101 (xne hs_wl hs_a0 (by decide))).trans ez93) (by omega); rw [(Eq.trans (xv_a hg101 (xne hs_wl hs_a0 (by decide))) (xv_m hg68 hs_wl (by decide) (by decide)))] at h9; exact h9
          refine X_iconst hK dX12_drop_46 ?_
          refine X_iconst hK dX12_drop_47 ?_
          refine X_callV hK [.int (iI z93), .int (iI 0), .int (iI 0)] [] lk_X12_319 (c_X12_emit _ _ _ _ _ S g101 a0 z93 0 0 q69 wp hs_a0 (by omega) (by omega) (by omega) (by omega) ((xs_k hg101 (by decide)).trans eq69) ((xs_k hg101 (by decide)).trans ((hg68 a0 13 0 35 hs_a0 (by decide)).trans ewp)) hs_wp) hs_a0 ⟨by decide, rfl⟩ dX12_drop_48 rfl rfl (by simp [Value.category]) (by decide) (by decide) (by decide) (by decide) (fun r103 S105 g104 pr103 qr103 hg104 => ?_)
          obtain ⟨rfl, rfl, k106, k107⟩ := pr103
          refine X_st [] rfl ?_
          refine X_goto hK 0 dX12_drop_51 (by decide) ?_
          exact ihP85  g104 (xM.tr (xM_up (xM.tr xM.rf xLe.rf hg68 (by decide)) hg101 hs_a0 (by decide) (by decide)) xLe.rf hg104 (by decide)) (q69 + 1) (by omega) (by omega) k106 (q70 - 1) (by omega) (by omega) ((hg104 a0 13 0 42 hs_a0 (by decide)).trans (xs_s hg101)) (xRd.join v86 (by omega) (by omega) (by omega) (by have h9 := k107; rw [(xv_a hg101 (xne hs_wp hs_a0 (by decide)))] at h9; exact h9)) (by omega) (by omega) (fun k q1 q2 => by rcases (show k = (q70 - 1) ∨ (q70 - 1) < k by omega) with c9 | c9 <;> first | (rw [c9]; omega) | exact v89 k (by omega) q2) (xLow.up v90 (by have h9 := k107; rw [(xv_a hg101 (xne hs_wp hs_a0 (by decide)))] at h9; exact h9) (by omega)) (by omega)
  exact P85 ((nt : Int).toNat + 1) g xM.rf np (by omega) (by omega) enp nt (by omega) (by omega) ent hp0 (by omega) (by omega) (fun k q1 q2 => by omega) xLow.rf (by omega)

set_option maxHeartbeats 4000000 in
set_option maxRecDepth 100000 in
theorem c_X12_dropNots (l : Launch) (D : va_G) (kA : Nat → ClassId) (b0 : Nat) (t0 : Nat → Nat) (S : xT) (g : xG) (a0 : Nat) (np : Int) (nt : Int) (no : Int) (nw : Int) (wp : Nat) (wl : Nat) (F9 : Int) (hs_a0 : S a0 = some (13, 0)) (hnp : 0 ≤ np ∧ np ≤ 120) (enp : g a0 41 = .int (iI np)) (hnt : 0 ≤ nt ∧ nt ≤ 64) (ent : g a0 42 = .int (iI nt)) (hno : 0 ≤ no ∧ no ≤ 50) (eno : g a0 43 = .int (iI no)) (hnw : 0 ≤ nw ∧ nw ≤ 10) (enw : g a0 44 = .int (iI nw)) (ewp : g a0 35 = .ref wp) (hs_wp : S wp = some (15900, 1320)) (ewl : g a0 38 = .ref wl) (hs_wl : S wl = some (16200, 64)) (hp0 : xRd (xv g wp) (xv g wl) F9 np nt no nw 0) : xMt l yX12_dropNots cX12_dropNots 1 none 1 0 0 24 D kA b0 t0 [(13, 42), (13, 44), (15900, 0), (16000, 0), (16100, 0), (13, 41)] [.ref a0] S g (fun (r : Option Value) (S1 : xT) (g1 : xG) => S = S1 ∧ r = none ∧ (∃ a b c : Int, g1 a0 41 = .int (iI a) ∧ np ≤ a ∧ a ≤ 120 ∧ g1 a0 42 = .int (iI b) ∧ 0 ≤ b ∧ b ≤ nt ∧ g1 a0 44 = .int (iI c) ∧ 0 ≤ c ∧ c ≤ 10 ∧ xRd (xv g1 wp) (xv g wl) F9 a b no c 0 ∧ xLow (1200 + F9) (xv g1 wp) (xv g wp) ∧ c = nw - (nt - b) ∧ (b = 0 ∨ xv g wl (b - 1) ≠ 12) ∧ (∀ k, b ≤ k → k < nt → xv g wl k = 12))) := by
  refine xEnterV (by decide) (by simp [lg_sl, Value.category]) [(0, .ref a0)] rfl ?_
  intro K E hK hret _ _ _
  have P70 : ∀ (nP70 : Nat) (g56 : xG) (_ : xM [(15900, 0), (16000, 0), (16100, 0), (13, 41), (13, 44), (13, 42)] S g g56) (q57 : Int) (_ : 0 ≤ q57) (_ : q57 ≤ 120) (_ : g56 a0 41 = .int (iI q57)) (q58 : Int) (_ : 0 ≤ q58) (_ : q58 ≤ 64) (_ : g56 a0 42 = .int (iI q58)) (q59 : Int) (_ : 0 ≤ q59) (_ : q59 ≤ 10) (_ : g56 a0 44 = .int (iI q59)) (_ : xRd (xv g56 wp) (xv g wl) F9 q57 q58 no q59 0) (_ : q58 ≤ nt) (_ : np ≤ q57) (_ : xLow (1200 + F9) (xv g56 wp) (xv g wp)) (_ : q59 = nw - (nt - q58)) (_ : ∀ k, q58 ≤ k → k < nt → xv g wl k = 12) (_ : q58 < (nP70 : Int)), X K E 0 [(0, .ref a0)] [] S g56 0 0 := by
    intro nP70
    induction nP70 with
    | zero => intro g56 hg56 q57 lq57 uq57 eq57 q58 lq58 uq58 eq58 q59 lq59 uq59 eq59 v71 v72 v73 v74 v75 v76 mP70; exact False.elim (by omega)
    | succ nP70 ihP70 =>
      intro g56 hg56 q57 lq57 uq57 eq57 q58 lq58 uq58 eq58 q59 lq59 uq59 eq59 v71 v72 v73 v74 v75 v76 mP70
      refine X_aloadn hK (i := 0) 0 dX12_dropNots_0 rfl rfl ?_
      have hbh77 := xRd.bd v71 (by omega)
      refine X_getK hK fl_X12_316_13 hs_a0 eq58 dX12_dropNots_1 ?_
      refine X_if_le hK 54 (by omega) dX12_dropNots_4 (by decide) (fun c78 => ?_) (fun c78 => ?_)
      · exact hret _ _ _ _ _ _ dX12_dropNots_54 ⟨rfl, rfl, ⟨q57, q58, q59, eq57, by omega, by omega, eq58, by omega, by omega, eq59, by omega, by omega, v71, v74, by omega, by omega, v76⟩⟩ (Nat.le_refl _) (Nat.le_refl _)
      · refine X_aloadn hK (i := 0) 0 dX12_dropNots_7 rfl rfl ?_
        refine X_getK hK fl_X12_77_13 hs_a0 ((hg56 a0 13 0 38 hs_a0 (by decide)).trans ewl) dX12_dropNots_8 ?_
        refine X_aloadn hK (i := 0) 0 dX12_dropNots_11 rfl rfl ?_
        refine X_getK hK fl_X12_316_13 hs_a0 eq58 dX12_dropNots_12 ?_
        refine X_iconst hK dX12_dropNots_15 ?_
        refine X_isub hK dX12_dropNots_16 ?_
        refine X_iald hK hs_wl (by decide) sl_16200 (by omega) (by omega) dX12_dropNots_17 (fun z79 ez79 lz79 uz79 => ?_)
        have hzh80 : xv g wl (q58 - 1) = z79 := by have h9 := xv_e (j := (q58 - 1)) ez79 (by omega); rw [(xv_m hg56 hs_wl (by decide) (by decide))] at h9; exact h9
        refine X_bipush hK dX12_dropNots_18 (by decide) ?_
        refine X_icmp_ne hK 54 (by omega) (by omega) dX12_dropNots_20 (by decide) (fun c81 => ?_) (fun c81 => ?_)
        · exact hret _ _ _ _ _ _ dX12_dropNots_54 ⟨rfl, rfl, ⟨q57, q58, q59, eq57, by omega, by omega, eq58, by omega, by omega, eq59, by omega, by omega, v71, v74, by omega, by omega, v76⟩⟩ (Nat.le_refl _) (Nat.le_refl _)
        · refine X_aloadn hK (i := 0) 0 dX12_dropNots_23 rfl rfl ?_
          refine X_dup hK dX12_dropNots_24 rfl ?_
          have hwh82 := xRd.bd (xRd.paren v71 (by omega) (by omega)) (by omega)
          refine X_getK hK fl_X12_316_13 hs_a0 eq58 dX12_dropNots_25 ?_
          refine X_iconst hK dX12_dropNots_28 ?_
          refine X_isub hK dX12_dropNots_29 ?_
          refine X_puti hK fl_X12_316_13 hs_a0 (by decide) sl_13_42 (by omega) (by omega) dX12_dropNots_30 (fun g83 hg83 => ?_)
          refine X_aloadn hK (i := 0) 0 dX12_dropNots_33 rfl rfl ?_
          refine X_dup hK dX12_dropNots_34 rfl ?_
          refine X_getK hK fl_X12_339_13 hs_a0 ((xs_k hg83 (by decide)).trans eq59) dX12_dropNots_35 ?_
          refine X_iconst hK dX12_dropNots_38 ?_
          refine X_isub hK dX12_dropNots_39 ?_
          refine X_puti hK fl_X12_339_13 hs_a0 (by decide) sl_13_44 (by omega) (by omega) dX12_dropNots_40 (fun g84 hg84 => ?_)
          refine X_aloadn hK (i := 0) 0 dX12_dropNots_43 rfl rfl ?_
          refine X_bipush hK dX12_dropNots_44 (by decide) ?_
          refine X_iconst hK dX12_dropNots_46 ?_
          refine X_iconst hK dX12_dropNots_47 ?_
          refine X_callV hK [.int (iI 12), .int (iI 0), .int (iI 0)] [] lk_X12_319 (c_X12_emit _ _ _ _ _ S g84 a0 12 0 0 q57 wp hs_a0 (by omega) (by omega) (by omega) (by omega) ((xs_k hg84 (by decide)).trans ((xs_k hg83 (by decide)).trans eq57)) ((xs_k hg84 (by decide)).trans ((xs_k hg83 (by decide)).trans ((hg56 a0 13 0 35 hs_a0 (by decide)).trans ewp))) hs_wp) hs_a0 ⟨by decide, rfl⟩ dX12_dropNots_48 rfl rfl (by simp [Value.category]) (by decide) (by decide) (by decide) (by decide) (fun r85 S87 g86 pr85 qr85 hg86 => ?_)
          obtain ⟨rfl, rfl, k88, k89⟩ := pr85
          refine X_st [] rfl ?_
          refine X_goto hK 0 dX12_dropNots_51 (by decide) ?_
          exact ihP70  g86 (xM.tr (xM_up (xM_up (xM.tr xM.rf xLe.rf hg56 (by decide)) hg83 hs_a0 (by decide) (by decide)) hg84 hs_a0 (by decide) (by decide)) xLe.rf hg86 (by decide)) (q57 + 1) (by omega) (by omega) k88 (q58 - 1) (by omega) (by omega) ((hg86 a0 13 0 42 hs_a0 (by decide)).trans ((xs_k hg84 (by decide)).trans (xs_s hg83))) (q59 - 1) (by omega) (by omega) ((hg86 a0 13 0 44 hs_a0 (by decide)).trans (xs_s hg84)) (xRd.not v71 (by omega) (by omega) (by have h9 := k89; rw [(Eq.trans (xv_a hg84 (xne hs_wp hs_a0 (by decide))) (xv_a hg83 (xne hs_wp hs_a0 (by decide))))] at h9; exact h9)) (by omega) (by omega) (xLow.up v74 (by have h9 := k89; rw [(Eq.trans (xv_a hg84 (xne hs_wp hs_a0 (by decide))) (xv_a hg83 (xne hs_wp hs_a0 (by decide))))] at h9; exact h9) (by omega)) (by omega) (fun k q1 q2 => by rcases (show k = (q58 - 1) ∨ (q58 - 1) < k by omega) with c9 | c9 <;> first | (rw [c9]; omega) | exact v76 k (by omega) q2) (by omega)
  exact P70 ((nt : Int).toNat + 1) g xM.rf np (by omega) (by omega) enp nt (by omega) (by omega) ent nw (by omega) (by omega) enw hp0 (by omega) (by omega) xLow.rf (by omega) (fun k q1 q2 => by omega) (by omega)

set_option maxHeartbeats 4000000 in
set_option maxRecDepth 100000 in
theorem c2_isOpen (l : Launch) (D : va_G) (kA : Nat → ClassId) (b0 : Nat) (t0 : Nat → Nat) (S : xT) (g : xG) (a0 : Nat) (nt : Int) (wl : Nat) (hs_a0 : S a0 = some (13, 0)) (hnt : 0 ≤ nt ∧ nt ≤ 64) (ent : g a0 42 = .int (iI nt)) (ewl : g a0 38 = .ref wl) (hs_wl : S wl = some (16200, 64)) : xMt l yX12_isOpen cX12_isOpen 2 (some .boolean) 0 0 0 0 D kA b0 t0 [] [.ref a0] S g (fun (r : Option Value) (S1 : xT) (g1 : xG) => S = S1 ∧ g = g1 ∧ ∃ z : Int, r = some (.int (iI z)) ∧ 0 ≤ z ∧ z ≤ 1 ∧ (z = 1 → xOp nt (xv g wl)) ∧ (z = 0 → ¬ xOp nt (xv g wl))) := by
  refine xEnterZ (by decide) (by simp [lg_sl, Value.category]) [(0, .ref a0)] rfl ?_
  intro K E hK hret _ _ _
  refine X_iconst hK dX12_isOpen_0 ?_
  refine X_istoren hK (i := 1) [(1, .int (iI 0)), (0, .ref a0)] dX12_isOpen_1 rfl (by decide) rfl ?_
  have P25 : ∀ (nP25 : Nat) (z21 : Int) (_ : 0 ≤ z21) (_ : z21 ≤ 64) (_ : ∀ j : Int, 0 ≤ j → j < z21 → xv g wl j ≠ 15) (_ : 80 - z21 < (nP25 : Int)), X K E 2 [(1, .int (iI z21)), (0, .ref a0)] [] S g 0 0 := by
    intro nP25
    induction nP25 with
    | zero => intro z21 lz21 uz21 v26 mP25; exact False.elim (by omega)
    | succ nP25 ihP25 =>
      intro z21 lz21 uz21 v26 mP25
      refine X_iloadn hK (i := 1) 0 dX12_isOpen_2 rfl rfl ?_
      refine X_aloadn hK (i := 0) 1 dX12_isOpen_3 rfl rfl ?_
      refine X_getK hK fl_X12_316_13 hs_a0 ent dX12_isOpen_4 ?_
      refine X_icmp_ge hK 29 (by omega) (by omega) dX12_isOpen_7 (by decide) (fun c27 => ?_) (fun c27 => ?_)
      · refine X_iconst hK dX12_isOpen_29 ?_
        exact hret _ _ _ _ _ _ _ dX12_isOpen_30 (by omega) (by omega) ⟨rfl, rfl, 0, rfl, (by omega), (by omega), (fun h => by omega), (fun _ h9 => by obtain ⟨k9, h1, h2, h3⟩ := h9; exact v26 k9 h1 (by omega) h3)⟩ (Nat.le_refl _) (Nat.le_refl _)
      · refine X_aloadn hK (i := 0) 1 dX12_isOpen_10 rfl rfl ?_
        refine X_getK hK fl_X12_77_13 hs_a0 ewl dX12_isOpen_11 ?_
        refine X_iloadn hK (i := 1) 0 dX12_isOpen_14 rfl rfl ?_
        refine X_iald hK hs_wl (by decide) sl_16200 (by omega) (by omega) dX12_isOpen_15 (fun z28 ez28 lz28 uz28 => ?_)
        have hvz28 := xv_e (j := z21) ez28 (by omega)
        refine X_bipush hK dX12_isOpen_16 (by decide) ?_
        refine X_icmp_ne hK 23 (by omega) (by omega) dX12_isOpen_18 (by decide) (fun c29 => ?_) (fun c29 => ?_)
        · refine X_iinc hK (i := 1) (z := z21) (n := 1) 0 [(1, .int (iI (z21 + 1))), (0, .ref a0)] dX12_isOpen_23 rfl (by decide) rfl ?_
          refine X_goto hK 2 dX12_isOpen_26 (by decide) ?_
          exact ihP25  (z21 + 1) (by omega) (by omega) (fun j q1 q2 => by rcases (show j = z21 ∨ j < z21 by omega) with c9 | c9 <;> first | (rw [c9]; omega) | exact v26 j q1 c9) (by omega)
        · refine X_iconst hK dX12_isOpen_21 ?_
          exact hret _ _ _ _ _ _ _ dX12_isOpen_22 (by omega) (by omega) ⟨rfl, rfl, 1, rfl, (by omega), (by omega), (fun _ => ⟨z21, by omega, by omega, by omega⟩), (fun h => by omega)⟩ (Nat.le_refl _) (Nat.le_refl _)
  exact P25 ((80 - 0 : Int).toNat + 1) 0 (by omega) (by omega) (fun j q1 q2 => by omega) (by omega)

set_option maxHeartbeats 4000000 in
set_option maxRecDepth 100000 in
theorem c_X12_readOne (l : Launch) (D : va_G) (kA : Nat → ClassId) (b0 : Nat) (t0 : Nat → Nat) (S : xT) (g : xG) (a0 : Nat) (sz : Int) (to : Int) (fr : Int) (kd : Int) (nm : Int) (sg : Int) (ff : Int) (np : Int) (nt : Int) (no : Int) (nw : Int) (y0 : Nat) (wp : Nat) (wl : Nat) (F9 : Int) (f9 : Int → Int) (wd : Int64) (a9 : Int) (R9 : xRr9) (hs_a0 : S a0 = some (13, 0)) (hsz : 0 ≤ sz ∧ sz ≤ 420) (esz : g a0 19 = .int (iI sz)) (hto : 0 ≤ to ∧ to ≤ 420) (eto : g a0 20 = .int (iI to)) (hfr : 0 ≤ fr ∧ fr ≤ 420) (efr : g a0 21 = .int (iI fr)) (hkd : 0 ≤ kd ∧ kd ≤ 4) (ekd : g a0 22 = .int (iI kd)) (hnm : (-2147483648) ≤ nm ∧ nm ≤ 2147483647) (enm : g a0 23 = .int (iI nm)) (hsg : (-2147483648) ≤ sg ∧ sg ≤ 2147483647) (esg : g a0 24 = .int (iI sg)) (hff : (-2147483648) ≤ ff ∧ ff ≤ 2147483647) (eff : g a0 25 = .int (iI ff)) (hnp : 0 ≤ np ∧ np ≤ 120) (enp : g a0 41 = .int (iI np)) (hnt : 0 ≤ nt ∧ nt ≤ 64) (ent : g a0 42 = .int (iI nt)) (hno : 0 ≤ no ∧ no ≤ 50) (eno : g a0 43 = .int (iI no)) (hnw : 0 ≤ nw ∧ nw ≤ 10) (enw : g a0 44 = .int (iI nw)) (ey0 : g a0 1 = .ref y0) (hs_y0 : S y0 = some (14100, 420)) (ewp : g a0 35 = .ref wp) (hs_wp : S wp = some (15900, 1320)) (ewl : g a0 38 = .ref wl) (hs_wl : S wl = some (16200, 64)) (hp0 : xv g y0 = f9) (hp1 : g a0 28 = .long wd) (hp2 : xHd f9 sz a9 kd nm wd sg fr to) (hp3 : to ≤ sz) (hp4 : xRd (xv g wp) (xv g wl) F9 np nt no nw 1) (hp5 : xKo (xtk f9 sz) (xv g wl) nt nw a9 no R9) : xMt l yX12_readOne cX12_readOne 3 (some .boolean) 2 0 0 46 D kA b0 t0 [(13, 25), (13, 26), (13, 43), (13, 21), (13, 22), (13, 20), (13, 24), (13, 28), (13, 23), (15900, 0), (16000, 0), (16100, 0), (13, 41), (13, 42), (13, 44), (16200, 0)] [.ref a0] S g (fun (r : Option Value) (S1 : xT) (g1 : xG) => S = S1 ∧ ∃ z : Int, r = some (.int (iI z)) ∧ 0 ≤ z ∧ z ≤ 1 ∧ (∃ a b c d : Int, g1 a0 41 = .int (iI a) ∧ 0 ≤ a ∧ a ≤ 120 ∧ g1 a0 42 = .int (iI b) ∧ 0 ≤ b ∧ b ≤ 64 ∧ g1 a0 43 = .int (iI d) ∧ no ≤ d ∧ d ≤ 50 ∧ g1 a0 44 = .int (iI c) ∧ 0 ≤ c ∧ c ≤ 10 ∧ (z = 1 → xRd (xv g1 wp) (xv g1 wl) F9 a b d c 0 ∧ no < d) ∧ xLow (1200 + F9) (xv g1 wp) (xv g wp) ∧ ∃ t1 f1 k1 n1 s1 : Int, g1 a0 20 = .int (iI t1) ∧ g1 a0 21 = .int (iI f1) ∧ g1 a0 22 = .int (iI k1) ∧ g1 a0 23 = .int (iI n1) ∧ g1 a0 24 = .int (iI s1) ∧ (0 ≤ t1 ∧ t1 ≤ sz ∧ 0 ≤ f1 ∧ f1 ≤ 420 ∧ 0 ≤ k1 ∧ k1 ≤ 4 ∧ -2147483648 ≤ n1 ∧ n1 ≤ 2147483647 ∧ -2147483648 ≤ s1 ∧ s1 ≤ 2147483647) ∧ xOne g1 a0 f9 sz z k1 n1 s1 f1 t1 ff R9 (fun a8 => xKs (xtk f9 sz) (xv g1 wl) b c a8 d R9 ∧ (b = 0 ∨ xv g1 wl (b - 1) ≠ 12)))) := by
  refine xEnterZ (by decide) (by simp [lg_sl, Value.category]) [(0, .ref a0)] rfl ?_
  intro K E hK hret _ _ _
  have P1370 : ∀ (nP1370 : Nat) (g1096 : xG) (_ : xM [(13, 21), (13, 22), (13, 20), (13, 24), (13, 28), (13, 23), (13, 42), (16200, 0), (13, 44), (13, 43)] S g g1096) (q1097 : Int) (_ : 0 ≤ q1097) (_ : q1097 ≤ 64) (_ : g1096 a0 42 = .int (iI q1097)) (q1098 : Int) (_ : 0 ≤ q1098) (_ : q1098 ≤ 50) (_ : g1096 a0 43 = .int (iI q1098)) (q1099 : Int) (_ : 0 ≤ q1099) (_ : q1099 ≤ 10) (_ : g1096 a0 44 = .int (iI q1099)) (q1100 : Int) (_ : 0 ≤ q1100) (_ : q1100 ≤ 420) (_ : g1096 a0 20 = .int (iI q1100)) (q1101 : Int) (_ : 0 ≤ q1101) (_ : q1101 ≤ 420) (_ : g1096 a0 21 = .int (iI q1101)) (q1102 : Int) (_ : 0 ≤ q1102) (_ : q1102 ≤ 4) (_ : g1096 a0 22 = .int (iI q1102)) (q1103 : Int) (_ : (-2147483648) ≤ q1103) (_ : q1103 ≤ 2147483647) (_ : g1096 a0 23 = .int (iI q1103)) (q1104 : Int) (_ : (-2147483648) ≤ q1104) (_ : q1104 ≤ 2147483647) (_ : g1096 a0 24 = .int (iI q1104)) (_ : xRd (xv g wp) (xv g1096 wl) F9 np q1097 q1098 q1099 1) (_ : no ≤ q1098) (_ : xHk g1096 a0 f9 sz q1102 q1103 q1104 q1101 q1100 (fun a8 => xKo (xtk f9 sz) (xv g1096 wl) q1097 q1099 a8 q1098 R9)) (_ : q1100 ≤ sz) (_ : 50 - q1098 < (nP1370 : Int)), X K E 0 [(0, .ref a0)] [] S g1096 0 0 := by
    intro nP1370
    induction nP1370 with
    | zero => intro g1096 hg1096 q1097 lq1097 uq1097 eq1097 q1098 lq1098 uq1098 eq1098 q1099 lq1099 uq1099 eq1099 q1100 lq1100 uq1100 eq1100 q1101 lq1101 uq1101 eq1101 q1102 lq1102 uq1102 eq1102 q1103 lq1103 uq1103 eq1103 q1104 lq1104 uq1104 eq1104 v1371 v1372 v1373 v1374 mP1370; exact False.elim (by omega)
    | succ nP1370 ihP1370 =>
      intro g1096 hg1096 q1097 lq1097 uq1097 eq1097 q1098 lq1098 uq1098 eq1098 q1099 lq1099 uq1099 eq1099 q1100 lq1100 uq1100 eq1100 q1101 lq1101 uq1101 eq1101 q1102 lq1102 uq1102 eq1102 q1103 lq1103 uq1103 eq1103 q1104 lq1104 uq1104 eq1104 v1371 v1372 v1373 v1374 mP1370
      refine X_aloadn hK (i := 0) 0 dX12_readOne_0 rfl rfl ?_
      have hbh1375 := xRd.bd v1371 (by omega)
      obtain ⟨wq1376, aq1376, eq1376, hdq1376, koq1376⟩ := v1373
      refine X_callV hK [] [] lk_X12_323 (c3_atom _ _ _ _ _ S g1096 a0 sz q1100 q1101 q1102 q1103 q1104 y0 f9 wq1376 aq1376 hs_a0 (by omega) ((hg1096 a0 13 0 19 hs_a0 (by decide)).trans esz) (by omega) eq1100 (by omega) eq1101 (by omega) eq1102 (by omega) eq1103 (by omega) eq1104 ((hg1096 a0 13 0 1 hs_a0 (by decide)).trans ey0) hs_y0 ((xv_m hg1096 hs_y0 (by decide) (by decide)).trans hp0) eq1376 hdq1376 (by omega)) hs_a0 ⟨by decide, rfl⟩ dX12_readOne_1 rfl rfl (by simp [Value.category]) (by decide) (by decide) (by decide) (by decide) (fun r1377 S1379 g1378 pr1377 qr1377 hg1378 => ?_)
      obtain ⟨rfl, rfl, z1380, rfl, lz1380, uz1380, k1381⟩ := pr1377
      refine X_st [.int (iI z1380)] rfl ?_
      refine X_istoren hK (i := 1) [(1, .int (iI z1380)), (0, .ref a0)] dX12_readOne_4 rfl (by decide) rfl ?_
      refine X_iloadn hK (i := 1) 0 dX12_readOne_5 rfl rfl ?_
      refine X_iconst hK dX12_readOne_6 ?_
      refine X_icmp_ne hK 32 (by omega) (by omega) dX12_readOne_7 (by decide) (fun c1382 => ?_) (fun c1382 => ?_)
      · refine X_aloadn hK (i := 0) 1 dX12_readOne_32 rfl rfl ?_
        refine X_getK hK fl_X12_336_13 hs_a0 eq1098 dX12_readOne_33 ?_
        refine X_bipush hK dX12_readOne_36 (by decide) ?_
        refine X_icmp_eq hK 50 (by omega) (by omega) dX12_readOne_38 (by decide) (fun c1383 => ?_) (fun c1383 => ?_)
        · refine X_aloadn hK (i := 0) 1 dX12_readOne_50 rfl rfl ?_
          refine X_iconst hK dX12_readOne_51 ?_
          refine X_callV hK [.int (iI 4)] [] lk_X12_333 (c3_bad _ _ _ _ _ S g1096 a0 4 q1102 q1101 hs_a0 (by omega) (by omega) eq1102 (by omega) eq1101) hs_a0 ⟨by decide, rfl⟩ dX12_readOne_52 rfl rfl (by simp [Value.category]) (by decide) (by decide) (by decide) (by decide) (fun r1384 S1386 g1385 pr1384 qr1384 hg1385 => ?_)
          obtain ⟨rfl, z1387, rfl, lz1387, uz1387, k1388, k1389, k1390⟩ := pr1384
          refine X_st [.int (iI z1387)] rfl ?_
          exact hret _ _ _ _ _ _ _ dX12_readOne_55 (by omega) (by omega) ⟨rfl, z1387, rfl, (by omega), (by omega), ⟨np, q1097, q1099, q1098, ((hg1385 a0 13 0 41 hs_a0 (by decide)).trans ((hg1096 a0 13 0 41 hs_a0 (by decide)).trans enp)), by omega, by omega, ((hg1385 a0 13 0 42 hs_a0 (by decide)).trans eq1097), by omega, by omega, ((hg1385 a0 13 0 43 hs_a0 (by decide)).trans eq1098), by omega, by omega, ((hg1385 a0 13 0 44 hs_a0 (by decide)).trans eq1099), by omega, by omega, (fun h => by omega), (by rw [(Eq.trans (xv_m hg1385 hs_wp (by decide) (by decide)) (xv_m hg1096 hs_wp (by decide) (by decide)))]; exact xLow.rf), q1100, q1101, q1102, q1103, q1104, ((hg1385 a0 13 0 20 hs_a0 (by decide)).trans eq1100), ((hg1385 a0 13 0 21 hs_a0 (by decide)).trans eq1101), ((hg1385 a0 13 0 22 hs_a0 (by decide)).trans eq1102), ((hg1385 a0 13 0 23 hs_a0 (by decide)).trans eq1103), ((hg1385 a0 13 0 24 hs_a0 (by decide)).trans eq1104), (by omega), ⟨fun h9 => by omega, (fun _ => xOne.bad (xKo.f4 koq1376 (by omega) (by omega)) (by omega) k1389 (by have h9 := xHd.wr hdq1376; split <;> omega) k1390 hdq1376.2.1 (by omega))⟩⟩⟩ (Nat.le_refl _) (Nat.le_refl _)
        · refine X_aloadn hK (i := 0) 1 dX12_readOne_41 rfl rfl ?_
          refine X_getK hK fl_X12_339_13 hs_a0 eq1099 dX12_readOne_42 ?_
          refine X_bipush hK dX12_readOne_45 (by decide) ?_
          refine X_icmp_ne hK 56 (by omega) (by omega) dX12_readOne_47 (by decide) (fun c1391 => ?_) (fun c1391 => ?_)
          · refine X_aloadn hK (i := 0) 1 dX12_readOne_56 rfl rfl ?_
            refine X_dup hK dX12_readOne_57 rfl ?_
            refine X_getK hK fl_X12_336_13 hs_a0 eq1098 dX12_readOne_58 ?_
            refine X_iconst hK dX12_readOne_61 ?_
            refine X_iadd hK dX12_readOne_62 ?_
            refine X_puti hK fl_X12_336_13 hs_a0 (by decide) sl_13_43 (by omega) (by omega) dX12_readOne_63 (fun g1392 hg1392 => ?_)
            refine X_iloadn hK (i := 1) 0 dX12_readOne_66 rfl rfl ?_
            refine X_iconst hK dX12_readOne_67 ?_
            refine X_icmp_ne hK 121 (by omega) (by omega) dX12_readOne_68 (by decide) (fun c1393 => ?_) (fun c1393 => False.elim (by omega))
            refine X_aloadn hK (i := 0) 1 dX12_readOne_121 rfl rfl ?_
            refine X_callV hK [] [] lk_X12_342 (c3_go _ _ _ _ _ S g1392 a0 sz q1100 y0 q1103 q1104 hs_a0 (by omega) ((xs_k hg1392 (by decide)).trans ((hg1096 a0 13 0 19 hs_a0 (by decide)).trans esz)) (by omega) ((xs_k hg1392 (by decide)).trans eq1100) ((xs_k hg1392 (by decide)).trans ((hg1096 a0 13 0 1 hs_a0 (by decide)).trans ey0)) hs_y0 (by omega) ((xs_k hg1392 (by decide)).trans eq1103) (by omega) ((xs_k hg1392 (by decide)).trans eq1104) (by omega)) hs_a0 ⟨by decide, rfl⟩ dX12_readOne_122 rfl rfl (by simp [Value.category]) (by decide) (by decide) (by decide) (by decide) (fun r1394 S1396 g1395 pr1394 qr1394 hg1395 => ?_)
            obtain ⟨rfl, rfl, k1397⟩ := pr1394
            refine X_st [] rfl ?_
            obtain ⟨kt1398, nt1398, st1398, wt1398, ekt1398, ent1398, est1398, ewt1398, lkt1398, eft1398, ett1398, cut1398⟩ := k1397
            obtain ⟨ft1398, hft1398⟩ : ∃ x9 : Int, xplc sz (xskp f9 sz q1100) = x9 := ⟨_, rfl⟩
            obtain ⟨tt1398, htt1398⟩ : ∃ x9 : Int, xed f9 sz (xskp f9 sz q1100) = x9 := ⟨_, rfl⟩
            have bh1399 := xgo.b (f := f9) (n := sz) (to := q1100) ⟨by omega, by omega⟩
            rw [((Eq.trans (xv_a hg1392 (xne hs_y0 hs_a0 (by decide))) (xv_m hg1096 hs_y0 (by decide) (by decide))).trans hp0)] at eft1398 ett1398 cut1398
            have hdt1398 := xHd.go hdq1376 cut1398
            rw [hft1398] at eft1398 hdt1398 bh1399
            rw [htt1398] at ett1398 hdt1398 bh1399
            refine X_iloadn hK (i := 1) 0 dX12_readOne_125 rfl rfl ?_
            refine X_iconst hK dX12_readOne_126 ?_
            refine X_icmp_ge hK 140 (by omega) (by omega) dX12_readOne_127 (by decide) (fun c1400 => ?_) (fun c1400 => ?_)
            · refine X_aloadn hK (i := 0) 1 dX12_readOne_140 rfl rfl ?_
              refine X_bipush hK dX12_readOne_141 (by decide) ?_
              refine X_callV hK [.int (iI 60)] [] lk_X12_330 (c3_isSign _ _ _ _ _ S g1395 a0 60 kt1398 st1398 hs_a0 (by omega) (by omega) ekt1398 (by omega) est1398) hs_a0 ⟨by decide, rfl⟩ dX12_readOne_143 rfl rfl (by simp [Value.category]) (by decide) (by decide) (by decide) (by decide) (fun r1401 S1403 g1402 pr1401 qr1401 hg1402 => ?_)
              obtain ⟨rfl, rfl, z1404, rfl, lz1404, uz1404, k1405⟩ := pr1401
              refine X_st [.int (iI z1404)] rfl ?_
              have hq1406 : z1404 = 1 ↔ xtk f9 sz (aq1376 + 1) = 27 := by rw [k1405]; exact (xHd.sg hdt1398 (x := 60) (by omega)).trans (by rw [show xmkc 60 = 27 from by decide])
              refine X_if_ne hK 173 (by omega) dX12_readOne_146 (by decide) (fun c1407 => ?_) (fun c1407 => ?_)
              · refine X_aloadn hK (i := 0) 1 dX12_readOne_173 rfl rfl ?_
                refine X_getK hK fl_X12_274_13 hs_a0 est1398 dX12_readOne_174 ?_
                refine X_istoren hK (i := 2) [(2, .int (iI st1398)), (1, .int (iI z1380)), (0, .ref a0)] dX12_readOne_177 rfl (by decide) rfl ?_
                refine X_aloadn hK (i := 0) 2 dX12_readOne_178 rfl rfl ?_
                refine X_callV hK [] [] lk_X12_342 (c3_go _ _ _ _ _ S g1395 a0 sz tt1398 y0 nt1398 st1398 hs_a0 (by omega) ((hg1395 a0 13 0 19 hs_a0 (by decide)).trans ((xs_k hg1392 (by decide)).trans ((hg1096 a0 13 0 19 hs_a0 (by decide)).trans esz))) (by omega) ett1398 ((hg1395 a0 13 0 1 hs_a0 (by decide)).trans ((xs_k hg1392 (by decide)).trans ((hg1096 a0 13 0 1 hs_a0 (by decide)).trans ey0))) hs_y0 (by omega) ent1398 (by omega) est1398 (by omega)) hs_a0 ⟨by decide, rfl⟩ dX12_readOne_179 rfl rfl (by simp [Value.category]) (by decide) (by decide) (by decide) (by decide) (fun r1408 S1410 g1409 pr1408 qr1408 hg1409 => ?_)
                obtain ⟨rfl, rfl, k1411⟩ := pr1408
                refine X_st [] rfl ?_
                obtain ⟨kt1412, nt1412, st1412, wt1412, ekt1412, ent1412, est1412, ewt1412, lkt1412, eft1412, ett1412, cut1412⟩ := k1411
                obtain ⟨ft1412, hft1412⟩ : ∃ x9 : Int, xplc sz (xskp f9 sz tt1398) = x9 := ⟨_, rfl⟩
                obtain ⟨tt1412, htt1412⟩ : ∃ x9 : Int, xed f9 sz (xskp f9 sz tt1398) = x9 := ⟨_, rfl⟩
                have bh1413 := xgo.b (f := f9) (n := sz) (to := tt1398) ⟨by omega, by omega⟩
                rw [((Eq.trans (Eq.trans (xv_m hg1395 hs_y0 (by decide) (by decide)) (xv_a hg1392 (xne hs_y0 hs_a0 (by decide)))) (xv_m hg1096 hs_y0 (by decide) (by decide))).trans hp0)] at eft1412 ett1412 cut1412
                have hdt1412 := xHd.go hdt1398 cut1412
                rw [hft1412] at eft1412 hdt1412 bh1413
                rw [htt1412] at ett1412 hdt1412 bh1413
                have hn1414 := xHd.num hdt1412
                refine X_aloadn hK (i := 0) 2 dX12_readOne_182 rfl rfl ?_
                refine X_getK hK fl_X12_262_13 hs_a0 ekt1412 dX12_readOne_183 ?_
                refine X_iconst hK dX12_readOne_186 ?_
                refine X_icmp_eq hK 196 (by omega) (by omega) dX12_readOne_187 (by decide) (fun c1415 => ?_) (fun c1415 => ?_)
                · refine X_aloadn hK (i := 0) 2 dX12_readOne_196 rfl rfl ?_
                  refine X_iloadn hK (i := 1) 1 dX12_readOne_197 rfl rfl ?_
                  refine X_iloadn hK (i := 2) 0 dX12_readOne_198 rfl rfl ?_
                  refine X_aloadn hK (i := 0) 2 dX12_readOne_199 rfl rfl ?_
                  refine X_getK hK fl_X12_281_13 hs_a0 ent1412 dX12_readOne_200 ?_
                  refine X_callV hK [.int (iI z1380), .int (iI st1398), .int (iI nt1412)] [] lk_X12_319 (c_X12_emit _ _ _ _ _ S g1409 a0 z1380 st1398 nt1412 np wp hs_a0 (by omega) (by omega) (by omega) (by omega) ((hg1409 a0 13 0 41 hs_a0 (by decide)).trans ((hg1395 a0 13 0 41 hs_a0 (by decide)).trans ((xs_k hg1392 (by decide)).trans ((hg1096 a0 13 0 41 hs_a0 (by decide)).trans enp)))) ((hg1409 a0 13 0 35 hs_a0 (by decide)).trans ((hg1395 a0 13 0 35 hs_a0 (by decide)).trans ((xs_k hg1392 (by decide)).trans ((hg1096 a0 13 0 35 hs_a0 (by decide)).trans ewp)))) hs_wp) hs_a0 ⟨by decide, rfl⟩ dX12_readOne_203 rfl rfl (by simp [Value.category]) (by decide) (by decide) (by decide) (by decide) (fun r1416 S1418 g1417 pr1416 qr1416 hg1417 => ?_)
                  obtain ⟨rfl, rfl, k1419, k1420⟩ := pr1416
                  refine X_st [] rfl ?_
                  have uR1421 : xUp (xv g1417 wp) (xv g wp) (1200 + np) z1380 := (by have h9 := k1420; rw [(Eq.trans (Eq.trans (Eq.trans (xv_m hg1409 hs_wp (by decide) (by decide)) (xv_m hg1395 hs_wp (by decide) (by decide))) (xv_a hg1392 (xne hs_wp hs_a0 (by decide)))) (xv_m hg1096 hs_wp (by decide) (by decide)))] at h9; exact h9)
                  have R1421 : xRd (xv g1417 wp) (xv g1096 wl) F9 (np + 1) q1097 (q1098 + 1) q1099 0 := xRd.atom v1371 (by omega) (by omega) uR1421
                  have hbR1421 := xRd.bd R1421 (by omega)
                  refine X_aloadn hK (i := 0) 2 dX12_readOne_206 rfl rfl ?_
                  refine X_callV hK [] [] lk_X12_342 (c3_go _ _ _ _ _ S g1417 a0 sz tt1412 y0 nt1412 st1412 hs_a0 (by omega) ((hg1417 a0 13 0 19 hs_a0 (by decide)).trans ((hg1409 a0 13 0 19 hs_a0 (by decide)).trans ((hg1395 a0 13 0 19 hs_a0 (by decide)).trans ((xs_k hg1392 (by decide)).trans ((hg1096 a0 13 0 19 hs_a0 (by decide)).trans esz))))) (by omega) ((hg1417 a0 13 0 20 hs_a0 (by decide)).trans ett1412) ((hg1417 a0 13 0 1 hs_a0 (by decide)).trans ((hg1409 a0 13 0 1 hs_a0 (by decide)).trans ((hg1395 a0 13 0 1 hs_a0 (by decide)).trans ((xs_k hg1392 (by decide)).trans ((hg1096 a0 13 0 1 hs_a0 (by decide)).trans ey0))))) hs_y0 (by omega) ((hg1417 a0 13 0 23 hs_a0 (by decide)).trans ent1412) (by omega) ((hg1417 a0 13 0 24 hs_a0 (by decide)).trans est1412) (by omega)) hs_a0 ⟨by decide, rfl⟩ dX12_readOne_207 rfl rfl (by simp [Value.category]) (by decide) (by decide) (by decide) (by decide) (fun r1422 S1424 g1423 pr1422 qr1422 hg1423 => ?_)
                  obtain ⟨rfl, rfl, k1425⟩ := pr1422
                  refine X_st [] rfl ?_
                  obtain ⟨kt1426, nt1426, st1426, wt1426, ekt1426, ent1426, est1426, ewt1426, lkt1426, eft1426, ett1426, cut1426⟩ := k1425
                  obtain ⟨ft1426, hft1426⟩ : ∃ x9 : Int, xplc sz (xskp f9 sz tt1412) = x9 := ⟨_, rfl⟩
                  obtain ⟨tt1426, htt1426⟩ : ∃ x9 : Int, xed f9 sz (xskp f9 sz tt1412) = x9 := ⟨_, rfl⟩
                  have bh1427 := xgo.b (f := f9) (n := sz) (to := tt1412) ⟨by omega, by omega⟩
                  rw [((Eq.trans (Eq.trans (Eq.trans (Eq.trans (xv_m hg1417 hs_y0 (by decide) (by decide)) (xv_m hg1409 hs_y0 (by decide) (by decide))) (xv_m hg1395 hs_y0 (by decide) (by decide))) (xv_a hg1392 (xne hs_y0 hs_a0 (by decide)))) (xv_m hg1096 hs_y0 (by decide) (by decide))).trans hp0)] at eft1426 ett1426 cut1426
                  have hdt1426 := xHd.go hdt1412 cut1426
                  rw [hft1426] at eft1426 hdt1426 bh1427
                  rw [htt1426] at ett1426 hdt1426 bh1427
                  refine X_goto hK 213 dX12_readOne_210 (by decide) ?_
                  refine X_aloadn hK (i := 0) 2 dX12_readOne_213 rfl rfl ?_
                  refine X_callV hK [] [] lk_X12_345 (c_X12_dropNots _ _ _ _ _ S g1423 a0 (np + 1) q1097 (q1098 + 1) q1099 wp wl F9 hs_a0 (by omega) ((hg1423 a0 13 0 41 hs_a0 (by decide)).trans k1419) (by omega) ((hg1423 a0 13 0 42 hs_a0 (by decide)).trans ((hg1417 a0 13 0 42 hs_a0 (by decide)).trans ((hg1409 a0 13 0 42 hs_a0 (by decide)).trans ((hg1395 a0 13 0 42 hs_a0 (by decide)).trans ((xs_k hg1392 (by decide)).trans eq1097))))) (by omega) ((hg1423 a0 13 0 43 hs_a0 (by decide)).trans ((hg1417 a0 13 0 43 hs_a0 (by decide)).trans ((hg1409 a0 13 0 43 hs_a0 (by decide)).trans ((hg1395 a0 13 0 43 hs_a0 (by decide)).trans (xs_s hg1392))))) (by omega) ((hg1423 a0 13 0 44 hs_a0 (by decide)).trans ((hg1417 a0 13 0 44 hs_a0 (by decide)).trans ((hg1409 a0 13 0 44 hs_a0 (by decide)).trans ((hg1395 a0 13 0 44 hs_a0 (by decide)).trans ((xs_k hg1392 (by decide)).trans eq1099))))) ((hg1423 a0 13 0 35 hs_a0 (by decide)).trans ((hg1417 a0 13 0 35 hs_a0 (by decide)).trans ((hg1409 a0 13 0 35 hs_a0 (by decide)).trans ((hg1395 a0 13 0 35 hs_a0 (by decide)).trans ((xs_k hg1392 (by decide)).trans ((hg1096 a0 13 0 35 hs_a0 (by decide)).trans ewp)))))) hs_wp ((hg1423 a0 13 0 38 hs_a0 (by decide)).trans ((hg1417 a0 13 0 38 hs_a0 (by decide)).trans ((hg1409 a0 13 0 38 hs_a0 (by decide)).trans ((hg1395 a0 13 0 38 hs_a0 (by decide)).trans ((xs_k hg1392 (by decide)).trans ((hg1096 a0 13 0 38 hs_a0 (by decide)).trans ewl)))))) hs_wl (by rw [(xv_m hg1423 hs_wp (by decide) (by decide)), (Eq.trans (Eq.trans (Eq.trans (Eq.trans (xv_m hg1423 hs_wl (by decide) (by decide)) (xv_m hg1417 hs_wl (by decide) (by decide))) (xv_m hg1409 hs_wl (by decide) (by decide))) (xv_m hg1395 hs_wl (by decide) (by decide))) (xv_a hg1392 (xne hs_wl hs_a0 (by decide))))]; exact R1421)) hs_a0 ⟨by decide, rfl⟩ dX12_readOne_214 rfl rfl (by simp [Value.category]) (by decide) (by decide) (by decide) (by decide) (fun r1428 S1430 g1429 pr1428 qr1428 hg1429 => ?_)
                  obtain ⟨rfl, rfl, k1431⟩ := pr1428
                  refine X_st [] rfl ?_
                  obtain ⟨z1432, z1433, z1434, ez1432, lz1432, uz1432, ez1433, lz1433, uz1433, ez1434, lz1434, uz1434, Rz1432, oz1432, cz1432, pz1432, vz1432⟩ := k1431
                  have hbz1432 := xRd.bd Rz1432 (by omega)
                  refine X_iconst hK dX12_readOne_217 ?_
                  exact hret _ _ _ _ _ _ _ dX12_readOne_218 (by omega) (by omega) ⟨rfl, 1, rfl, (by omega), (by omega), ⟨z1432, z1433, z1434, (q1098 + 1), ez1432, by omega, by omega, ez1433, by omega, by omega, ((hg1429 a0 13 0 43 hs_a0 (by decide)).trans ((hg1423 a0 13 0 43 hs_a0 (by decide)).trans ((hg1417 a0 13 0 43 hs_a0 (by decide)).trans ((hg1409 a0 13 0 43 hs_a0 (by decide)).trans ((hg1395 a0 13 0 43 hs_a0 (by decide)).trans (xs_s hg1392)))))), by omega, by omega, ez1434, by omega, by omega, (fun _ => ⟨(by rw [(xv_m hg1429 hs_wl (by decide) (by decide))]; exact Rz1432), by omega⟩), (xLow.tr (by rw [(xv_m hg1423 hs_wp (by decide) (by decide))]; exact (xLow.up xLow.rf uR1421 (by omega))) oz1432 (by omega)), tt1426, ft1426, kt1426, nt1426, st1426, ((hg1429 a0 13 0 20 hs_a0 (by decide)).trans ett1426), ((hg1429 a0 13 0 21 hs_a0 (by decide)).trans eft1426), ((hg1429 a0 13 0 22 hs_a0 (by decide)).trans ekt1426), ((hg1429 a0 13 0 23 hs_a0 (by decide)).trans ent1426), ((hg1429 a0 13 0 24 hs_a0 (by decide)).trans est1426), (by omega), ⟨fun _ => ⟨((hg1429 a0 13 0 25 hs_a0 (by decide)).trans ((hg1423 a0 13 0 25 hs_a0 (by decide)).trans ((hg1417 a0 13 0 25 hs_a0 (by decide)).trans ((hg1409 a0 13 0 25 hs_a0 (by decide)).trans ((hg1395 a0 13 0 25 hs_a0 (by decide)).trans ((xs_k hg1392 (by decide)).trans ((hg1096 a0 13 0 25 hs_a0 (by decide)).trans eff))))))), ⟨wt1426, (((aq1376 + 1) + 1) + 1), ((hg1429 a0 13 0 28 hs_a0 (by decide)).trans ewt1426), hdt1426, (by rw [(xv_m hg1429 hs_wl (by decide) (by decide))]; exact ⟨(by have h9 := xKs.nots (q1097 - z1433).toNat q1097 q1099 (by omega) (by omega) (by rw [(Eq.trans (Eq.trans (Eq.trans (Eq.trans (xv_m hg1423 hs_wl (by decide) (by decide)) (xv_m hg1417 hs_wl (by decide) (by decide))) (xv_m hg1409 hs_wl (by decide) (by decide))) (xv_m hg1395 hs_wl (by decide) (by decide))) (xv_a hg1392 (xne hs_wl hs_a0 (by decide))))]; exact (xKo.cmp koq1376 (by omega) (by omega) rfl (show ((aq1376 + 1) + 1) = aq1376 + 2 by omega) (by omega) (by omega) (show (((aq1376 + 1) + 1) + 1) = aq1376 + 3 by omega))) vz1432; rw [← cz1432] at h9; exact h9), pz1432⟩)⟩⟩, fun h9 => by omega⟩⟩⟩ (Nat.le_refl _) (Nat.le_refl _)
                · refine X_aloadn hK (i := 0) 2 dX12_readOne_190 rfl rfl ?_
                  refine X_iconst hK dX12_readOne_191 ?_
                  refine X_callV hK [.int (iI 1)] [] lk_X12_333 (c3_bad _ _ _ _ _ S g1409 a0 1 kt1412 ft1412 hs_a0 (by omega) (by omega) ekt1412 (by omega) eft1412) hs_a0 ⟨by decide, rfl⟩ dX12_readOne_192 rfl rfl (by simp [Value.category]) (by decide) (by decide) (by decide) (by decide) (fun r1435 S1437 g1436 pr1435 qr1435 hg1436 => ?_)
                  obtain ⟨rfl, z1438, rfl, lz1438, uz1438, k1439, k1440, k1441⟩ := pr1435
                  refine X_st [.int (iI z1438)] rfl ?_
                  exact hret _ _ _ _ _ _ _ dX12_readOne_195 (by omega) (by omega) ⟨rfl, z1438, rfl, (by omega), (by omega), ⟨np, q1097, q1099, (q1098 + 1), ((hg1436 a0 13 0 41 hs_a0 (by decide)).trans ((hg1409 a0 13 0 41 hs_a0 (by decide)).trans ((hg1395 a0 13 0 41 hs_a0 (by decide)).trans ((xs_k hg1392 (by decide)).trans ((hg1096 a0 13 0 41 hs_a0 (by decide)).trans enp))))), by omega, by omega, ((hg1436 a0 13 0 42 hs_a0 (by decide)).trans ((hg1409 a0 13 0 42 hs_a0 (by decide)).trans ((hg1395 a0 13 0 42 hs_a0 (by decide)).trans ((xs_k hg1392 (by decide)).trans eq1097)))), by omega, by omega, ((hg1436 a0 13 0 43 hs_a0 (by decide)).trans ((hg1409 a0 13 0 43 hs_a0 (by decide)).trans ((hg1395 a0 13 0 43 hs_a0 (by decide)).trans (xs_s hg1392)))), by omega, by omega, ((hg1436 a0 13 0 44 hs_a0 (by decide)).trans ((hg1409 a0 13 0 44 hs_a0 (by decide)).trans ((hg1395 a0 13 0 44 hs_a0 (by decide)).trans ((xs_k hg1392 (by decide)).trans eq1099)))), by omega, by omega, (fun h => by omega), (by rw [(Eq.trans (Eq.trans (Eq.trans (Eq.trans (xv_m hg1436 hs_wp (by decide) (by decide)) (xv_m hg1409 hs_wp (by decide) (by decide))) (xv_m hg1395 hs_wp (by decide) (by decide))) (xv_a hg1392 (xne hs_wp hs_a0 (by decide)))) (xv_m hg1096 hs_wp (by decide) (by decide)))]; exact xLow.rf), tt1412, ft1412, kt1412, nt1412, st1412, ((hg1436 a0 13 0 20 hs_a0 (by decide)).trans ett1412), ((hg1436 a0 13 0 21 hs_a0 (by decide)).trans eft1412), ((hg1436 a0 13 0 22 hs_a0 (by decide)).trans ekt1412), ((hg1436 a0 13 0 23 hs_a0 (by decide)).trans ent1412), ((hg1436 a0 13 0 24 hs_a0 (by decide)).trans est1412), (by omega), ⟨fun h9 => by omega, (fun _ => xOne.bad (xKo.fn koq1376 (by omega) (by omega) rfl (show ((aq1376 + 1) + 1) = aq1376 + 2 by omega) (by omega) (by omega)) (by omega) k1440 (by have h9 := xHd.wr hdt1412; split <;> omega) k1441 hdt1412.2.1 (by omega))⟩⟩⟩ (Nat.le_refl _) (Nat.le_refl _)
              · refine X_aloadn hK (i := 0) 1 dX12_readOne_149 rfl rfl ?_
                refine X_bipush hK dX12_readOne_150 (by decide) ?_
                refine X_callV hK [.int (iI 61)] [] lk_X12_330 (c3_isSign _ _ _ _ _ S g1395 a0 61 kt1398 st1398 hs_a0 (by omega) (by omega) ekt1398 (by omega) est1398) hs_a0 ⟨by decide, rfl⟩ dX12_readOne_152 rfl rfl (by simp [Value.category]) (by decide) (by decide) (by decide) (by decide) (fun r1442 S1444 g1443 pr1442 qr1442 hg1443 => ?_)
                obtain ⟨rfl, rfl, z1445, rfl, lz1445, uz1445, k1446⟩ := pr1442
                refine X_st [.int (iI z1445)] rfl ?_
                have hq1447 : z1445 = 1 ↔ xtk f9 sz (aq1376 + 1) = 28 := by rw [k1446]; exact (xHd.sg hdt1398 (x := 61) (by omega)).trans (by rw [show xmkc 61 = 28 from by decide])
                refine X_if_ne hK 173 (by omega) dX12_readOne_155 (by decide) (fun c1448 => ?_) (fun c1448 => ?_)
                · refine X_aloadn hK (i := 0) 1 dX12_readOne_173 rfl rfl ?_
                  refine X_getK hK fl_X12_274_13 hs_a0 est1398 dX12_readOne_174 ?_
                  refine X_istoren hK (i := 2) [(2, .int (iI st1398)), (1, .int (iI z1380)), (0, .ref a0)] dX12_readOne_177 rfl (by decide) rfl ?_
                  refine X_aloadn hK (i := 0) 2 dX12_readOne_178 rfl rfl ?_
                  refine X_callV hK [] [] lk_X12_342 (c3_go _ _ _ _ _ S g1395 a0 sz tt1398 y0 nt1398 st1398 hs_a0 (by omega) ((hg1395 a0 13 0 19 hs_a0 (by decide)).trans ((xs_k hg1392 (by decide)).trans ((hg1096 a0 13 0 19 hs_a0 (by decide)).trans esz))) (by omega) ett1398 ((hg1395 a0 13 0 1 hs_a0 (by decide)).trans ((xs_k hg1392 (by decide)).trans ((hg1096 a0 13 0 1 hs_a0 (by decide)).trans ey0))) hs_y0 (by omega) ent1398 (by omega) est1398 (by omega)) hs_a0 ⟨by decide, rfl⟩ dX12_readOne_179 rfl rfl (by simp [Value.category]) (by decide) (by decide) (by decide) (by decide) (fun r1449 S1451 g1450 pr1449 qr1449 hg1450 => ?_)
                  obtain ⟨rfl, rfl, k1452⟩ := pr1449
                  refine X_st [] rfl ?_
                  obtain ⟨kt1453, nt1453, st1453, wt1453, ekt1453, ent1453, est1453, ewt1453, lkt1453, eft1453, ett1453, cut1453⟩ := k1452
                  obtain ⟨ft1453, hft1453⟩ : ∃ x9 : Int, xplc sz (xskp f9 sz tt1398) = x9 := ⟨_, rfl⟩
                  obtain ⟨tt1453, htt1453⟩ : ∃ x9 : Int, xed f9 sz (xskp f9 sz tt1398) = x9 := ⟨_, rfl⟩
                  have bh1454 := xgo.b (f := f9) (n := sz) (to := tt1398) ⟨by omega, by omega⟩
                  rw [((Eq.trans (Eq.trans (xv_m hg1395 hs_y0 (by decide) (by decide)) (xv_a hg1392 (xne hs_y0 hs_a0 (by decide)))) (xv_m hg1096 hs_y0 (by decide) (by decide))).trans hp0)] at eft1453 ett1453 cut1453
                  have hdt1453 := xHd.go hdt1398 cut1453
                  rw [hft1453] at eft1453 hdt1453 bh1454
                  rw [htt1453] at ett1453 hdt1453 bh1454
                  have hn1455 := xHd.num hdt1453
                  refine X_aloadn hK (i := 0) 2 dX12_readOne_182 rfl rfl ?_
                  refine X_getK hK fl_X12_262_13 hs_a0 ekt1453 dX12_readOne_183 ?_
                  refine X_iconst hK dX12_readOne_186 ?_
                  refine X_icmp_eq hK 196 (by omega) (by omega) dX12_readOne_187 (by decide) (fun c1456 => ?_) (fun c1456 => ?_)
                  · refine X_aloadn hK (i := 0) 2 dX12_readOne_196 rfl rfl ?_
                    refine X_iloadn hK (i := 1) 1 dX12_readOne_197 rfl rfl ?_
                    refine X_iloadn hK (i := 2) 0 dX12_readOne_198 rfl rfl ?_
                    refine X_aloadn hK (i := 0) 2 dX12_readOne_199 rfl rfl ?_
                    refine X_getK hK fl_X12_281_13 hs_a0 ent1453 dX12_readOne_200 ?_
                    refine X_callV hK [.int (iI z1380), .int (iI st1398), .int (iI nt1453)] [] lk_X12_319 (c_X12_emit _ _ _ _ _ S g1450 a0 z1380 st1398 nt1453 np wp hs_a0 (by omega) (by omega) (by omega) (by omega) ((hg1450 a0 13 0 41 hs_a0 (by decide)).trans ((hg1395 a0 13 0 41 hs_a0 (by decide)).trans ((xs_k hg1392 (by decide)).trans ((hg1096 a0 13 0 41 hs_a0 (by decide)).trans enp)))) ((hg1450 a0 13 0 35 hs_a0 (by decide)).trans ((hg1395 a0 13 0 35 hs_a0 (by decide)).trans ((xs_k hg1392 (by decide)).trans ((hg1096 a0 13 0 35 hs_a0 (by decide)).trans ewp)))) hs_wp) hs_a0 ⟨by decide, rfl⟩ dX12_readOne_203 rfl rfl (by simp [Value.category]) (by decide) (by decide) (by decide) (by decide) (fun r1457 S1459 g1458 pr1457 qr1457 hg1458 => ?_)
                    obtain ⟨rfl, rfl, k1460, k1461⟩ := pr1457
                    refine X_st [] rfl ?_
                    have uR1462 : xUp (xv g1458 wp) (xv g wp) (1200 + np) z1380 := (by have h9 := k1461; rw [(Eq.trans (Eq.trans (Eq.trans (xv_m hg1450 hs_wp (by decide) (by decide)) (xv_m hg1395 hs_wp (by decide) (by decide))) (xv_a hg1392 (xne hs_wp hs_a0 (by decide)))) (xv_m hg1096 hs_wp (by decide) (by decide)))] at h9; exact h9)
                    have R1462 : xRd (xv g1458 wp) (xv g1096 wl) F9 (np + 1) q1097 (q1098 + 1) q1099 0 := xRd.atom v1371 (by omega) (by omega) uR1462
                    have hbR1462 := xRd.bd R1462 (by omega)
                    refine X_aloadn hK (i := 0) 2 dX12_readOne_206 rfl rfl ?_
                    refine X_callV hK [] [] lk_X12_342 (c3_go _ _ _ _ _ S g1458 a0 sz tt1453 y0 nt1453 st1453 hs_a0 (by omega) ((hg1458 a0 13 0 19 hs_a0 (by decide)).trans ((hg1450 a0 13 0 19 hs_a0 (by decide)).trans ((hg1395 a0 13 0 19 hs_a0 (by decide)).trans ((xs_k hg1392 (by decide)).trans ((hg1096 a0 13 0 19 hs_a0 (by decide)).trans esz))))) (by omega) ((hg1458 a0 13 0 20 hs_a0 (by decide)).trans ett1453) ((hg1458 a0 13 0 1 hs_a0 (by decide)).trans ((hg1450 a0 13 0 1 hs_a0 (by decide)).trans ((hg1395 a0 13 0 1 hs_a0 (by decide)).trans ((xs_k hg1392 (by decide)).trans ((hg1096 a0 13 0 1 hs_a0 (by decide)).trans ey0))))) hs_y0 (by omega) ((hg1458 a0 13 0 23 hs_a0 (by decide)).trans ent1453) (by omega) ((hg1458 a0 13 0 24 hs_a0 (by decide)).trans est1453) (by omega)) hs_a0 ⟨by decide, rfl⟩ dX12_readOne_207 rfl rfl (by simp [Value.category]) (by decide) (by decide) (by decide) (by decide) (fun r1463 S1465 g1464 pr1463 qr1463 hg1464 => ?_)
                    obtain ⟨rfl, rfl, k1466⟩ := pr1463
                    refine X_st [] rfl ?_
                    obtain ⟨kt1467, nt1467, st1467, wt1467, ekt1467, ent1467, est1467, ewt1467, lkt1467, eft1467, ett1467, cut1467⟩ := k1466
                    obtain ⟨ft1467, hft1467⟩ : ∃ x9 : Int, xplc sz (xskp f9 sz tt1453) = x9 := ⟨_, rfl⟩
                    obtain ⟨tt1467, htt1467⟩ : ∃ x9 : Int, xed f9 sz (xskp f9 sz tt1453) = x9 := ⟨_, rfl⟩
                    have bh1468 := xgo.b (f := f9) (n := sz) (to := tt1453) ⟨by omega, by omega⟩
                    rw [((Eq.trans (Eq.trans (Eq.trans (Eq.trans (xv_m hg1458 hs_y0 (by decide) (by decide)) (xv_m hg1450 hs_y0 (by decide) (by decide))) (xv_m hg1395 hs_y0 (by decide) (by decide))) (xv_a hg1392 (xne hs_y0 hs_a0 (by decide)))) (xv_m hg1096 hs_y0 (by decide) (by decide))).trans hp0)] at eft1467 ett1467 cut1467
                    have hdt1467 := xHd.go hdt1453 cut1467
                    rw [hft1467] at eft1467 hdt1467 bh1468
                    rw [htt1467] at ett1467 hdt1467 bh1468
                    refine X_goto hK 213 dX12_readOne_210 (by decide) ?_
                    refine X_aloadn hK (i := 0) 2 dX12_readOne_213 rfl rfl ?_
                    refine X_callV hK [] [] lk_X12_345 (c_X12_dropNots _ _ _ _ _ S g1464 a0 (np + 1) q1097 (q1098 + 1) q1099 wp wl F9 hs_a0 (by omega) ((hg1464 a0 13 0 41 hs_a0 (by decide)).trans k1460) (by omega) ((hg1464 a0 13 0 42 hs_a0 (by decide)).trans ((hg1458 a0 13 0 42 hs_a0 (by decide)).trans ((hg1450 a0 13 0 42 hs_a0 (by decide)).trans ((hg1395 a0 13 0 42 hs_a0 (by decide)).trans ((xs_k hg1392 (by decide)).trans eq1097))))) (by omega) ((hg1464 a0 13 0 43 hs_a0 (by decide)).trans ((hg1458 a0 13 0 43 hs_a0 (by decide)).trans ((hg1450 a0 13 0 43 hs_a0 (by decide)).trans ((hg1395 a0 13 0 43 hs_a0 (by decide)).trans (xs_s hg1392))))) (by omega) ((hg1464 a0 13 0 44 hs_a0 (by decide)).trans ((hg1458 a0 13 0 44 hs_a0 (by decide)).trans ((hg1450 a0 13 0 44 hs_a0 (by decide)).trans ((hg1395 a0 13 0 44 hs_a0 (by decide)).trans ((xs_k hg1392 (by decide)).trans eq1099))))) ((hg1464 a0 13 0 35 hs_a0 (by decide)).trans ((hg1458 a0 13 0 35 hs_a0 (by decide)).trans ((hg1450 a0 13 0 35 hs_a0 (by decide)).trans ((hg1395 a0 13 0 35 hs_a0 (by decide)).trans ((xs_k hg1392 (by decide)).trans ((hg1096 a0 13 0 35 hs_a0 (by decide)).trans ewp)))))) hs_wp ((hg1464 a0 13 0 38 hs_a0 (by decide)).trans ((hg1458 a0 13 0 38 hs_a0 (by decide)).trans ((hg1450 a0 13 0 38 hs_a0 (by decide)).trans ((hg1395 a0 13 0 38 hs_a0 (by decide)).trans ((xs_k hg1392 (by decide)).trans ((hg1096 a0 13 0 38 hs_a0 (by decide)).trans ewl)))))) hs_wl (by rw [(xv_m hg1464 hs_wp (by decide) (by decide)), (Eq.trans (Eq.trans (Eq.trans (Eq.trans (xv_m hg1464 hs_wl (by decide) (by decide)) (xv_m hg1458 hs_wl (by decide) (by decide))) (xv_m hg1450 hs_wl (by decide) (by decide))) (xv_m hg1395 hs_wl (by decide) (by decide))) (xv_a hg1392 (xne hs_wl hs_a0 (by decide))))]; exact R1462)) hs_a0 ⟨by decide, rfl⟩ dX12_readOne_214 rfl rfl (by simp [Value.category]) (by decide) (by decide) (by decide) (by decide) (fun r1469 S1471 g1470 pr1469 qr1469 hg1470 => ?_)
                    obtain ⟨rfl, rfl, k1472⟩ := pr1469
                    refine X_st [] rfl ?_
                    obtain ⟨z1473, z1474, z1475, ez1473, lz1473, uz1473, ez1474, lz1474, uz1474, ez1475, lz1475, uz1475, Rz1473, oz1473, cz1473, pz1473, vz1473⟩ := k1472
                    have hbz1473 := xRd.bd Rz1473 (by omega)
                    refine X_iconst hK dX12_readOne_217 ?_
                    exact hret _ _ _ _ _ _ _ dX12_readOne_218 (by omega) (by omega) ⟨rfl, 1, rfl, (by omega), (by omega), ⟨z1473, z1474, z1475, (q1098 + 1), ez1473, by omega, by omega, ez1474, by omega, by omega, ((hg1470 a0 13 0 43 hs_a0 (by decide)).trans ((hg1464 a0 13 0 43 hs_a0 (by decide)).trans ((hg1458 a0 13 0 43 hs_a0 (by decide)).trans ((hg1450 a0 13 0 43 hs_a0 (by decide)).trans ((hg1395 a0 13 0 43 hs_a0 (by decide)).trans (xs_s hg1392)))))), by omega, by omega, ez1475, by omega, by omega, (fun _ => ⟨(by rw [(xv_m hg1470 hs_wl (by decide) (by decide))]; exact Rz1473), by omega⟩), (xLow.tr (by rw [(xv_m hg1464 hs_wp (by decide) (by decide))]; exact (xLow.up xLow.rf uR1462 (by omega))) oz1473 (by omega)), tt1467, ft1467, kt1467, nt1467, st1467, ((hg1470 a0 13 0 20 hs_a0 (by decide)).trans ett1467), ((hg1470 a0 13 0 21 hs_a0 (by decide)).trans eft1467), ((hg1470 a0 13 0 22 hs_a0 (by decide)).trans ekt1467), ((hg1470 a0 13 0 23 hs_a0 (by decide)).trans ent1467), ((hg1470 a0 13 0 24 hs_a0 (by decide)).trans est1467), (by omega), ⟨fun _ => ⟨((hg1470 a0 13 0 25 hs_a0 (by decide)).trans ((hg1464 a0 13 0 25 hs_a0 (by decide)).trans ((hg1458 a0 13 0 25 hs_a0 (by decide)).trans ((hg1450 a0 13 0 25 hs_a0 (by decide)).trans ((hg1395 a0 13 0 25 hs_a0 (by decide)).trans ((xs_k hg1392 (by decide)).trans ((hg1096 a0 13 0 25 hs_a0 (by decide)).trans eff))))))), ⟨wt1467, (((aq1376 + 1) + 1) + 1), ((hg1470 a0 13 0 28 hs_a0 (by decide)).trans ewt1467), hdt1467, (by rw [(xv_m hg1470 hs_wl (by decide) (by decide))]; exact ⟨(by have h9 := xKs.nots (q1097 - z1474).toNat q1097 q1099 (by omega) (by omega) (by rw [(Eq.trans (Eq.trans (Eq.trans (Eq.trans (xv_m hg1464 hs_wl (by decide) (by decide)) (xv_m hg1458 hs_wl (by decide) (by decide))) (xv_m hg1450 hs_wl (by decide) (by decide))) (xv_m hg1395 hs_wl (by decide) (by decide))) (xv_a hg1392 (xne hs_wl hs_a0 (by decide))))]; exact (xKo.cmp koq1376 (by omega) (by omega) rfl (show ((aq1376 + 1) + 1) = aq1376 + 2 by omega) (by omega) (by omega) (show (((aq1376 + 1) + 1) + 1) = aq1376 + 3 by omega))) vz1473; rw [← cz1473] at h9; exact h9), pz1473⟩)⟩⟩, fun h9 => by omega⟩⟩⟩ (Nat.le_refl _) (Nat.le_refl _)
                  · refine X_aloadn hK (i := 0) 2 dX12_readOne_190 rfl rfl ?_
                    refine X_iconst hK dX12_readOne_191 ?_
                    refine X_callV hK [.int (iI 1)] [] lk_X12_333 (c3_bad _ _ _ _ _ S g1450 a0 1 kt1453 ft1453 hs_a0 (by omega) (by omega) ekt1453 (by omega) eft1453) hs_a0 ⟨by decide, rfl⟩ dX12_readOne_192 rfl rfl (by simp [Value.category]) (by decide) (by decide) (by decide) (by decide) (fun r1476 S1478 g1477 pr1476 qr1476 hg1477 => ?_)
                    obtain ⟨rfl, z1479, rfl, lz1479, uz1479, k1480, k1481, k1482⟩ := pr1476
                    refine X_st [.int (iI z1479)] rfl ?_
                    exact hret _ _ _ _ _ _ _ dX12_readOne_195 (by omega) (by omega) ⟨rfl, z1479, rfl, (by omega), (by omega), ⟨np, q1097, q1099, (q1098 + 1), ((hg1477 a0 13 0 41 hs_a0 (by decide)).trans ((hg1450 a0 13 0 41 hs_a0 (by decide)).trans ((hg1395 a0 13 0 41 hs_a0 (by decide)).trans ((xs_k hg1392 (by decide)).trans ((hg1096 a0 13 0 41 hs_a0 (by decide)).trans enp))))), by omega, by omega, ((hg1477 a0 13 0 42 hs_a0 (by decide)).trans ((hg1450 a0 13 0 42 hs_a0 (by decide)).trans ((hg1395 a0 13 0 42 hs_a0 (by decide)).trans ((xs_k hg1392 (by decide)).trans eq1097)))), by omega, by omega, ((hg1477 a0 13 0 43 hs_a0 (by decide)).trans ((hg1450 a0 13 0 43 hs_a0 (by decide)).trans ((hg1395 a0 13 0 43 hs_a0 (by decide)).trans (xs_s hg1392)))), by omega, by omega, ((hg1477 a0 13 0 44 hs_a0 (by decide)).trans ((hg1450 a0 13 0 44 hs_a0 (by decide)).trans ((hg1395 a0 13 0 44 hs_a0 (by decide)).trans ((xs_k hg1392 (by decide)).trans eq1099)))), by omega, by omega, (fun h => by omega), (by rw [(Eq.trans (Eq.trans (Eq.trans (Eq.trans (xv_m hg1477 hs_wp (by decide) (by decide)) (xv_m hg1450 hs_wp (by decide) (by decide))) (xv_m hg1395 hs_wp (by decide) (by decide))) (xv_a hg1392 (xne hs_wp hs_a0 (by decide)))) (xv_m hg1096 hs_wp (by decide) (by decide)))]; exact xLow.rf), tt1453, ft1453, kt1453, nt1453, st1453, ((hg1477 a0 13 0 20 hs_a0 (by decide)).trans ett1453), ((hg1477 a0 13 0 21 hs_a0 (by decide)).trans eft1453), ((hg1477 a0 13 0 22 hs_a0 (by decide)).trans ekt1453), ((hg1477 a0 13 0 23 hs_a0 (by decide)).trans ent1453), ((hg1477 a0 13 0 24 hs_a0 (by decide)).trans est1453), (by omega), ⟨fun h9 => by omega, (fun _ => xOne.bad (xKo.fn koq1376 (by omega) (by omega) rfl (show ((aq1376 + 1) + 1) = aq1376 + 2 by omega) (by omega) (by omega)) (by omega) k1481 (by have h9 := xHd.wr hdt1453; split <;> omega) k1482 hdt1453.2.1 (by omega))⟩⟩⟩ (Nat.le_refl _) (Nat.le_refl _)
                · refine X_aloadn hK (i := 0) 1 dX12_readOne_158 rfl rfl ?_
                  refine X_bipush hK dX12_readOne_159 (by decide) ?_
                  refine X_callV hK [.int (iI 62)] [] lk_X12_330 (c3_isSign _ _ _ _ _ S g1395 a0 62 kt1398 st1398 hs_a0 (by omega) (by omega) ekt1398 (by omega) est1398) hs_a0 ⟨by decide, rfl⟩ dX12_readOne_161 rfl rfl (by simp [Value.category]) (by decide) (by decide) (by decide) (by decide) (fun r1483 S1485 g1484 pr1483 qr1483 hg1484 => ?_)
                  obtain ⟨rfl, rfl, z1486, rfl, lz1486, uz1486, k1487⟩ := pr1483
                  refine X_st [.int (iI z1486)] rfl ?_
                  have hq1488 : z1486 = 1 ↔ xtk f9 sz (aq1376 + 1) = 29 := by rw [k1487]; exact (xHd.sg hdt1398 (x := 62) (by omega)).trans (by rw [show xmkc 62 = 29 from by decide])
                  refine X_if_ne hK 173 (by omega) dX12_readOne_164 (by decide) (fun c1489 => ?_) (fun c1489 => ?_)
                  · refine X_aloadn hK (i := 0) 1 dX12_readOne_173 rfl rfl ?_
                    refine X_getK hK fl_X12_274_13 hs_a0 est1398 dX12_readOne_174 ?_
                    refine X_istoren hK (i := 2) [(2, .int (iI st1398)), (1, .int (iI z1380)), (0, .ref a0)] dX12_readOne_177 rfl (by decide) rfl ?_
                    refine X_aloadn hK (i := 0) 2 dX12_readOne_178 rfl rfl ?_
                    refine X_callV hK [] [] lk_X12_342 (c3_go _ _ _ _ _ S g1395 a0 sz tt1398 y0 nt1398 st1398 hs_a0 (by omega) ((hg1395 a0 13 0 19 hs_a0 (by decide)).trans ((xs_k hg1392 (by decide)).trans ((hg1096 a0 13 0 19 hs_a0 (by decide)).trans esz))) (by omega) ett1398 ((hg1395 a0 13 0 1 hs_a0 (by decide)).trans ((xs_k hg1392 (by decide)).trans ((hg1096 a0 13 0 1 hs_a0 (by decide)).trans ey0))) hs_y0 (by omega) ent1398 (by omega) est1398 (by omega)) hs_a0 ⟨by decide, rfl⟩ dX12_readOne_179 rfl rfl (by simp [Value.category]) (by decide) (by decide) (by decide) (by decide) (fun r1490 S1492 g1491 pr1490 qr1490 hg1491 => ?_)
                    obtain ⟨rfl, rfl, k1493⟩ := pr1490
                    refine X_st [] rfl ?_
                    obtain ⟨kt1494, nt1494, st1494, wt1494, ekt1494, ent1494, est1494, ewt1494, lkt1494, eft1494, ett1494, cut1494⟩ := k1493
                    obtain ⟨ft1494, hft1494⟩ : ∃ x9 : Int, xplc sz (xskp f9 sz tt1398) = x9 := ⟨_, rfl⟩
                    obtain ⟨tt1494, htt1494⟩ : ∃ x9 : Int, xed f9 sz (xskp f9 sz tt1398) = x9 := ⟨_, rfl⟩
                    have bh1495 := xgo.b (f := f9) (n := sz) (to := tt1398) ⟨by omega, by omega⟩
                    rw [((Eq.trans (Eq.trans (xv_m hg1395 hs_y0 (by decide) (by decide)) (xv_a hg1392 (xne hs_y0 hs_a0 (by decide)))) (xv_m hg1096 hs_y0 (by decide) (by decide))).trans hp0)] at eft1494 ett1494 cut1494
                    have hdt1494 := xHd.go hdt1398 cut1494
                    rw [hft1494] at eft1494 hdt1494 bh1495
                    rw [htt1494] at ett1494 hdt1494 bh1495
                    have hn1496 := xHd.num hdt1494
                    refine X_aloadn hK (i := 0) 2 dX12_readOne_182 rfl rfl ?_
                    refine X_getK hK fl_X12_262_13 hs_a0 ekt1494 dX12_readOne_183 ?_
                    refine X_iconst hK dX12_readOne_186 ?_
                    refine X_icmp_eq hK 196 (by omega) (by omega) dX12_readOne_187 (by decide) (fun c1497 => ?_) (fun c1497 => ?_)
                    · refine X_aloadn hK (i := 0) 2 dX12_readOne_196 rfl rfl ?_
                      refine X_iloadn hK (i := 1) 1 dX12_readOne_197 rfl rfl ?_
                      refine X_iloadn hK (i := 2) 0 dX12_readOne_198 rfl rfl ?_
                      refine X_aloadn hK (i := 0) 2 dX12_readOne_199 rfl rfl ?_
                      refine X_getK hK fl_X12_281_13 hs_a0 ent1494 dX12_readOne_200 ?_
                      refine X_callV hK [.int (iI z1380), .int (iI st1398), .int (iI nt1494)] [] lk_X12_319 (c_X12_emit _ _ _ _ _ S g1491 a0 z1380 st1398 nt1494 np wp hs_a0 (by omega) (by omega) (by omega) (by omega) ((hg1491 a0 13 0 41 hs_a0 (by decide)).trans ((hg1395 a0 13 0 41 hs_a0 (by decide)).trans ((xs_k hg1392 (by decide)).trans ((hg1096 a0 13 0 41 hs_a0 (by decide)).trans enp)))) ((hg1491 a0 13 0 35 hs_a0 (by decide)).trans ((hg1395 a0 13 0 35 hs_a0 (by decide)).trans ((xs_k hg1392 (by decide)).trans ((hg1096 a0 13 0 35 hs_a0 (by decide)).trans ewp)))) hs_wp) hs_a0 ⟨by decide, rfl⟩ dX12_readOne_203 rfl rfl (by simp [Value.category]) (by decide) (by decide) (by decide) (by decide) (fun r1498 S1500 g1499 pr1498 qr1498 hg1499 => ?_)
                      obtain ⟨rfl, rfl, k1501, k1502⟩ := pr1498
                      refine X_st [] rfl ?_
                      have uR1503 : xUp (xv g1499 wp) (xv g wp) (1200 + np) z1380 := (by have h9 := k1502; rw [(Eq.trans (Eq.trans (Eq.trans (xv_m hg1491 hs_wp (by decide) (by decide)) (xv_m hg1395 hs_wp (by decide) (by decide))) (xv_a hg1392 (xne hs_wp hs_a0 (by decide)))) (xv_m hg1096 hs_wp (by decide) (by decide)))] at h9; exact h9)
                      have R1503 : xRd (xv g1499 wp) (xv g1096 wl) F9 (np + 1) q1097 (q1098 + 1) q1099 0 := xRd.atom v1371 (by omega) (by omega) uR1503
                      have hbR1503 := xRd.bd R1503 (by omega)
                      refine X_aloadn hK (i := 0) 2 dX12_readOne_206 rfl rfl ?_
                      refine X_callV hK [] [] lk_X12_342 (c3_go _ _ _ _ _ S g1499 a0 sz tt1494 y0 nt1494 st1494 hs_a0 (by omega) ((hg1499 a0 13 0 19 hs_a0 (by decide)).trans ((hg1491 a0 13 0 19 hs_a0 (by decide)).trans ((hg1395 a0 13 0 19 hs_a0 (by decide)).trans ((xs_k hg1392 (by decide)).trans ((hg1096 a0 13 0 19 hs_a0 (by decide)).trans esz))))) (by omega) ((hg1499 a0 13 0 20 hs_a0 (by decide)).trans ett1494) ((hg1499 a0 13 0 1 hs_a0 (by decide)).trans ((hg1491 a0 13 0 1 hs_a0 (by decide)).trans ((hg1395 a0 13 0 1 hs_a0 (by decide)).trans ((xs_k hg1392 (by decide)).trans ((hg1096 a0 13 0 1 hs_a0 (by decide)).trans ey0))))) hs_y0 (by omega) ((hg1499 a0 13 0 23 hs_a0 (by decide)).trans ent1494) (by omega) ((hg1499 a0 13 0 24 hs_a0 (by decide)).trans est1494) (by omega)) hs_a0 ⟨by decide, rfl⟩ dX12_readOne_207 rfl rfl (by simp [Value.category]) (by decide) (by decide) (by decide) (by decide) (fun r1504 S1506 g1505 pr1504 qr1504 hg1505 => ?_)
                      obtain ⟨rfl, rfl, k1507⟩ := pr1504
                      refine X_st [] rfl ?_
                      obtain ⟨kt1508, nt1508, st1508, wt1508, ekt1508, ent1508, est1508, ewt1508, lkt1508, eft1508, ett1508, cut1508⟩ := k1507
                      obtain ⟨ft1508, hft1508⟩ : ∃ x9 : Int, xplc sz (xskp f9 sz tt1494) = x9 := ⟨_, rfl⟩
                      obtain ⟨tt1508, htt1508⟩ : ∃ x9 : Int, xed f9 sz (xskp f9 sz tt1494) = x9 := ⟨_, rfl⟩
                      have bh1509 := xgo.b (f := f9) (n := sz) (to := tt1494) ⟨by omega, by omega⟩
                      rw [((Eq.trans (Eq.trans (Eq.trans (Eq.trans (xv_m hg1499 hs_y0 (by decide) (by decide)) (xv_m hg1491 hs_y0 (by decide) (by decide))) (xv_m hg1395 hs_y0 (by decide) (by decide))) (xv_a hg1392 (xne hs_y0 hs_a0 (by decide)))) (xv_m hg1096 hs_y0 (by decide) (by decide))).trans hp0)] at eft1508 ett1508 cut1508
                      have hdt1508 := xHd.go hdt1494 cut1508
                      rw [hft1508] at eft1508 hdt1508 bh1509
                      rw [htt1508] at ett1508 hdt1508 bh1509
                      refine X_goto hK 213 dX12_readOne_210 (by decide) ?_
                      refine X_aloadn hK (i := 0) 2 dX12_readOne_213 rfl rfl ?_
                      refine X_callV hK [] [] lk_X12_345 (c_X12_dropNots _ _ _ _ _ S g1505 a0 (np + 1) q1097 (q1098 + 1) q1099 wp wl F9 hs_a0 (by omega) ((hg1505 a0 13 0 41 hs_a0 (by decide)).trans k1501) (by omega) ((hg1505 a0 13 0 42 hs_a0 (by decide)).trans ((hg1499 a0 13 0 42 hs_a0 (by decide)).trans ((hg1491 a0 13 0 42 hs_a0 (by decide)).trans ((hg1395 a0 13 0 42 hs_a0 (by decide)).trans ((xs_k hg1392 (by decide)).trans eq1097))))) (by omega) ((hg1505 a0 13 0 43 hs_a0 (by decide)).trans ((hg1499 a0 13 0 43 hs_a0 (by decide)).trans ((hg1491 a0 13 0 43 hs_a0 (by decide)).trans ((hg1395 a0 13 0 43 hs_a0 (by decide)).trans (xs_s hg1392))))) (by omega) ((hg1505 a0 13 0 44 hs_a0 (by decide)).trans ((hg1499 a0 13 0 44 hs_a0 (by decide)).trans ((hg1491 a0 13 0 44 hs_a0 (by decide)).trans ((hg1395 a0 13 0 44 hs_a0 (by decide)).trans ((xs_k hg1392 (by decide)).trans eq1099))))) ((hg1505 a0 13 0 35 hs_a0 (by decide)).trans ((hg1499 a0 13 0 35 hs_a0 (by decide)).trans ((hg1491 a0 13 0 35 hs_a0 (by decide)).trans ((hg1395 a0 13 0 35 hs_a0 (by decide)).trans ((xs_k hg1392 (by decide)).trans ((hg1096 a0 13 0 35 hs_a0 (by decide)).trans ewp)))))) hs_wp ((hg1505 a0 13 0 38 hs_a0 (by decide)).trans ((hg1499 a0 13 0 38 hs_a0 (by decide)).trans ((hg1491 a0 13 0 38 hs_a0 (by decide)).trans ((hg1395 a0 13 0 38 hs_a0 (by decide)).trans ((xs_k hg1392 (by decide)).trans ((hg1096 a0 13 0 38 hs_a0 (by decide)).trans ewl)))))) hs_wl (by rw [(xv_m hg1505 hs_wp (by decide) (by decide)), (Eq.trans (Eq.trans (Eq.trans (Eq.trans (xv_m hg1505 hs_wl (by decide) (by decide)) (xv_m hg1499 hs_wl (by decide) (by decide))) (xv_m hg1491 hs_wl (by decide) (by decide))) (xv_m hg1395 hs_wl (by decide) (by decide))) (xv_a hg1392 (xne hs_wl hs_a0 (by decide))))]; exact R1503)) hs_a0 ⟨by decide, rfl⟩ dX12_readOne_214 rfl rfl (by simp [Value.category]) (by decide) (by decide) (by decide) (by decide) (fun r1510 S1512 g1511 pr1510 qr1510 hg1511 => ?_)
                      obtain ⟨rfl, rfl, k1513⟩ := pr1510
                      refine X_st [] rfl ?_
                      obtain ⟨z1514, z1515, z1516, ez1514, lz1514, uz1514, ez1515, lz1515, uz1515, ez1516, lz1516, uz1516, Rz1514, oz1514, cz1514, pz1514, vz1514⟩ := k1513
                      have hbz1514 := xRd.bd Rz1514 (by omega)
                      refine X_iconst hK dX12_readOne_217 ?_
                      exact hret _ _ _ _ _ _ _ dX12_readOne_218 (by omega) (by omega) ⟨rfl, 1, rfl, (by omega), (by omega), ⟨z1514, z1515, z1516, (q1098 + 1), ez1514, by omega, by omega, ez1515, by omega, by omega, ((hg1511 a0 13 0 43 hs_a0 (by decide)).trans ((hg1505 a0 13 0 43 hs_a0 (by decide)).trans ((hg1499 a0 13 0 43 hs_a0 (by decide)).trans ((hg1491 a0 13 0 43 hs_a0 (by decide)).trans ((hg1395 a0 13 0 43 hs_a0 (by decide)).trans (xs_s hg1392)))))), by omega, by omega, ez1516, by omega, by omega, (fun _ => ⟨(by rw [(xv_m hg1511 hs_wl (by decide) (by decide))]; exact Rz1514), by omega⟩), (xLow.tr (by rw [(xv_m hg1505 hs_wp (by decide) (by decide))]; exact (xLow.up xLow.rf uR1503 (by omega))) oz1514 (by omega)), tt1508, ft1508, kt1508, nt1508, st1508, ((hg1511 a0 13 0 20 hs_a0 (by decide)).trans ett1508), ((hg1511 a0 13 0 21 hs_a0 (by decide)).trans eft1508), ((hg1511 a0 13 0 22 hs_a0 (by decide)).trans ekt1508), ((hg1511 a0 13 0 23 hs_a0 (by decide)).trans ent1508), ((hg1511 a0 13 0 24 hs_a0 (by decide)).trans est1508), (by omega), ⟨fun _ => ⟨((hg1511 a0 13 0 25 hs_a0 (by decide)).trans ((hg1505 a0 13 0 25 hs_a0 (by decide)).trans ((hg1499 a0 13 0 25 hs_a0 (by decide)).trans ((hg1491 a0 13 0 25 hs_a0 (by decide)).trans ((hg1395 a0 13 0 25 hs_a0 (by decide)).trans ((xs_k hg1392 (by decide)).trans ((hg1096 a0 13 0 25 hs_a0 (by decide)).trans eff))))))), ⟨wt1508, (((aq1376 + 1) + 1) + 1), ((hg1511 a0 13 0 28 hs_a0 (by decide)).trans ewt1508), hdt1508, (by rw [(xv_m hg1511 hs_wl (by decide) (by decide))]; exact ⟨(by have h9 := xKs.nots (q1097 - z1515).toNat q1097 q1099 (by omega) (by omega) (by rw [(Eq.trans (Eq.trans (Eq.trans (Eq.trans (xv_m hg1505 hs_wl (by decide) (by decide)) (xv_m hg1499 hs_wl (by decide) (by decide))) (xv_m hg1491 hs_wl (by decide) (by decide))) (xv_m hg1395 hs_wl (by decide) (by decide))) (xv_a hg1392 (xne hs_wl hs_a0 (by decide))))]; exact (xKo.cmp koq1376 (by omega) (by omega) rfl (show ((aq1376 + 1) + 1) = aq1376 + 2 by omega) (by omega) (by omega) (show (((aq1376 + 1) + 1) + 1) = aq1376 + 3 by omega))) vz1514; rw [← cz1514] at h9; exact h9), pz1514⟩)⟩⟩, fun h9 => by omega⟩⟩⟩ (Nat.le_refl _) (Nat.le_refl _)
                    · refine X_aloadn hK (i := 0) 2 dX12_readOne_190 rfl rfl ?_
                      refine X_iconst hK dX12_readOne_191 ?_
                      refine X_callV hK [.int (iI 1)] [] lk_X12_333 (c3_bad _ _ _ _ _ S g1491 a0 1 kt1494 ft1494 hs_a0 (by omega) (by omega) ekt1494 (by omega) eft1494) hs_a0 ⟨by decide, rfl⟩ dX12_readOne_192 rfl rfl (by simp [Value.category]) (by decide) (by decide) (by decide) (by decide) (fun r1517 S1519 g1518 pr1517 qr1517 hg1518 => ?_)
                      obtain ⟨rfl, z1520, rfl, lz1520, uz1520, k1521, k1522, k1523⟩ := pr1517
                      refine X_st [.int (iI z1520)] rfl ?_
                      exact hret _ _ _ _ _ _ _ dX12_readOne_195 (by omega) (by omega) ⟨rfl, z1520, rfl, (by omega), (by omega), ⟨np, q1097, q1099, (q1098 + 1), ((hg1518 a0 13 0 41 hs_a0 (by decide)).trans ((hg1491 a0 13 0 41 hs_a0 (by decide)).trans ((hg1395 a0 13 0 41 hs_a0 (by decide)).trans ((xs_k hg1392 (by decide)).trans ((hg1096 a0 13 0 41 hs_a0 (by decide)).trans enp))))), by omega, by omega, ((hg1518 a0 13 0 42 hs_a0 (by decide)).trans ((hg1491 a0 13 0 42 hs_a0 (by decide)).trans ((hg1395 a0 13 0 42 hs_a0 (by decide)).trans ((xs_k hg1392 (by decide)).trans eq1097)))), by omega, by omega, ((hg1518 a0 13 0 43 hs_a0 (by decide)).trans ((hg1491 a0 13 0 43 hs_a0 (by decide)).trans ((hg1395 a0 13 0 43 hs_a0 (by decide)).trans (xs_s hg1392)))), by omega, by omega, ((hg1518 a0 13 0 44 hs_a0 (by decide)).trans ((hg1491 a0 13 0 44 hs_a0 (by decide)).trans ((hg1395 a0 13 0 44 hs_a0 (by decide)).trans ((xs_k hg1392 (by decide)).trans eq1099)))), by omega, by omega, (fun h => by omega), (by rw [(Eq.trans (Eq.trans (Eq.trans (Eq.trans (xv_m hg1518 hs_wp (by decide) (by decide)) (xv_m hg1491 hs_wp (by decide) (by decide))) (xv_m hg1395 hs_wp (by decide) (by decide))) (xv_a hg1392 (xne hs_wp hs_a0 (by decide)))) (xv_m hg1096 hs_wp (by decide) (by decide)))]; exact xLow.rf), tt1494, ft1494, kt1494, nt1494, st1494, ((hg1518 a0 13 0 20 hs_a0 (by decide)).trans ett1494), ((hg1518 a0 13 0 21 hs_a0 (by decide)).trans eft1494), ((hg1518 a0 13 0 22 hs_a0 (by decide)).trans ekt1494), ((hg1518 a0 13 0 23 hs_a0 (by decide)).trans ent1494), ((hg1518 a0 13 0 24 hs_a0 (by decide)).trans est1494), (by omega), ⟨fun h9 => by omega, (fun _ => xOne.bad (xKo.fn koq1376 (by omega) (by omega) rfl (show ((aq1376 + 1) + 1) = aq1376 + 2 by omega) (by omega) (by omega)) (by omega) k1522 (by have h9 := xHd.wr hdt1494; split <;> omega) k1523 hdt1494.2.1 (by omega))⟩⟩⟩ (Nat.le_refl _) (Nat.le_refl _)
                  · refine X_aloadn hK (i := 0) 1 dX12_readOne_167 rfl rfl ?_
                    refine X_iconst hK dX12_readOne_168 ?_
                    refine X_callV hK [.int (iI 1)] [] lk_X12_333 (c3_bad _ _ _ _ _ S g1395 a0 1 kt1398 ft1398 hs_a0 (by omega) (by omega) ekt1398 (by omega) eft1398) hs_a0 ⟨by decide, rfl⟩ dX12_readOne_169 rfl rfl (by simp [Value.category]) (by decide) (by decide) (by decide) (by decide) (fun r1524 S1526 g1525 pr1524 qr1524 hg1525 => ?_)
                    obtain ⟨rfl, z1527, rfl, lz1527, uz1527, k1528, k1529, k1530⟩ := pr1524
                    refine X_st [.int (iI z1527)] rfl ?_
                    exact hret _ _ _ _ _ _ _ dX12_readOne_172 (by omega) (by omega) ⟨rfl, z1527, rfl, (by omega), (by omega), ⟨np, q1097, q1099, (q1098 + 1), ((hg1525 a0 13 0 41 hs_a0 (by decide)).trans ((hg1395 a0 13 0 41 hs_a0 (by decide)).trans ((xs_k hg1392 (by decide)).trans ((hg1096 a0 13 0 41 hs_a0 (by decide)).trans enp)))), by omega, by omega, ((hg1525 a0 13 0 42 hs_a0 (by decide)).trans ((hg1395 a0 13 0 42 hs_a0 (by decide)).trans ((xs_k hg1392 (by decide)).trans eq1097))), by omega, by omega, ((hg1525 a0 13 0 43 hs_a0 (by decide)).trans ((hg1395 a0 13 0 43 hs_a0 (by decide)).trans (xs_s hg1392))), by omega, by omega, ((hg1525 a0 13 0 44 hs_a0 (by decide)).trans ((hg1395 a0 13 0 44 hs_a0 (by decide)).trans ((xs_k hg1392 (by decide)).trans eq1099))), by omega, by omega, (fun h => by omega), (by rw [(Eq.trans (Eq.trans (Eq.trans (xv_m hg1525 hs_wp (by decide) (by decide)) (xv_m hg1395 hs_wp (by decide) (by decide))) (xv_a hg1392 (xne hs_wp hs_a0 (by decide)))) (xv_m hg1096 hs_wp (by decide) (by decide)))]; exact xLow.rf), tt1398, ft1398, kt1398, nt1398, st1398, ((hg1525 a0 13 0 20 hs_a0 (by decide)).trans ett1398), ((hg1525 a0 13 0 21 hs_a0 (by decide)).trans eft1398), ((hg1525 a0 13 0 22 hs_a0 (by decide)).trans ekt1398), ((hg1525 a0 13 0 23 hs_a0 (by decide)).trans ent1398), ((hg1525 a0 13 0 24 hs_a0 (by decide)).trans est1398), (by omega), ⟨fun h9 => by omega, (fun _ => xOne.bad (xKo.fs koq1376 (by omega) (by omega) rfl (by omega)) (by omega) k1529 (by have h9 := xHd.wr hdt1398; split <;> omega) k1530 hdt1398.2.1 (by omega))⟩⟩⟩ (Nat.le_refl _) (Nat.le_refl _)
            · refine X_aloadn hK (i := 0) 1 dX12_readOne_130 rfl rfl ?_
              refine X_iloadn hK (i := 1) 0 dX12_readOne_131 rfl rfl ?_
              refine X_iconst hK dX12_readOne_132 ?_
              refine X_iconst hK dX12_readOne_133 ?_
              refine X_callV hK [.int (iI z1380), .int (iI 0), .int (iI 0)] [] lk_X12_319 (c_X12_emit _ _ _ _ _ S g1395 a0 z1380 0 0 np wp hs_a0 (by omega) (by omega) (by omega) (by omega) ((hg1395 a0 13 0 41 hs_a0 (by decide)).trans ((xs_k hg1392 (by decide)).trans ((hg1096 a0 13 0 41 hs_a0 (by decide)).trans enp))) ((hg1395 a0 13 0 35 hs_a0 (by decide)).trans ((xs_k hg1392 (by decide)).trans ((hg1096 a0 13 0 35 hs_a0 (by decide)).trans ewp))) hs_wp) hs_a0 ⟨by decide, rfl⟩ dX12_readOne_134 rfl rfl (by simp [Value.category]) (by decide) (by decide) (by decide) (by decide) (fun r1531 S1533 g1532 pr1531 qr1531 hg1532 => ?_)
              obtain ⟨rfl, rfl, k1534, k1535⟩ := pr1531
              refine X_st [] rfl ?_
              have uR1536 : xUp (xv g1532 wp) (xv g wp) (1200 + np) z1380 := (by have h9 := k1535; rw [(Eq.trans (Eq.trans (xv_m hg1395 hs_wp (by decide) (by decide)) (xv_a hg1392 (xne hs_wp hs_a0 (by decide)))) (xv_m hg1096 hs_wp (by decide) (by decide)))] at h9; exact h9)
              have R1536 : xRd (xv g1532 wp) (xv g1096 wl) F9 (np + 1) q1097 (q1098 + 1) q1099 0 := xRd.atom v1371 (by omega) (by omega) uR1536
              have hbR1536 := xRd.bd R1536 (by omega)
              refine X_goto hK 213 dX12_readOne_137 (by decide) ?_
              refine X_aloadn hK (i := 0) 1 dX12_readOne_213 rfl rfl ?_
              refine X_callV hK [] [] lk_X12_345 (c_X12_dropNots _ _ _ _ _ S g1532 a0 (np + 1) q1097 (q1098 + 1) q1099 wp wl F9 hs_a0 (by omega) k1534 (by omega) ((hg1532 a0 13 0 42 hs_a0 (by decide)).trans ((hg1395 a0 13 0 42 hs_a0 (by decide)).trans ((xs_k hg1392 (by decide)).trans eq1097))) (by omega) ((hg1532 a0 13 0 43 hs_a0 (by decide)).trans ((hg1395 a0 13 0 43 hs_a0 (by decide)).trans (xs_s hg1392))) (by omega) ((hg1532 a0 13 0 44 hs_a0 (by decide)).trans ((hg1395 a0 13 0 44 hs_a0 (by decide)).trans ((xs_k hg1392 (by decide)).trans eq1099))) ((hg1532 a0 13 0 35 hs_a0 (by decide)).trans ((hg1395 a0 13 0 35 hs_a0 (by decide)).trans ((xs_k hg1392 (by decide)).trans ((hg1096 a0 13 0 35 hs_a0 (by decide)).trans ewp)))) hs_wp ((hg1532 a0 13 0 38 hs_a0 (by decide)).trans ((hg1395 a0 13 0 38 hs_a0 (by decide)).trans ((xs_k hg1392 (by decide)).trans ((hg1096 a0 13 0 38 hs_a0 (by decide)).trans ewl)))) hs_wl (by rw [(Eq.trans (Eq.trans (xv_m hg1532 hs_wl (by decide) (by decide)) (xv_m hg1395 hs_wl (by decide) (by decide))) (xv_a hg1392 (xne hs_wl hs_a0 (by decide))))]; exact R1536)) hs_a0 ⟨by decide, rfl⟩ dX12_readOne_214 rfl rfl (by simp [Value.category]) (by decide) (by decide) (by decide) (by decide) (fun r1537 S1539 g1538 pr1537 qr1537 hg1538 => ?_)
              obtain ⟨rfl, rfl, k1540⟩ := pr1537
              refine X_st [] rfl ?_
              obtain ⟨z1541, z1542, z1543, ez1541, lz1541, uz1541, ez1542, lz1542, uz1542, ez1543, lz1543, uz1543, Rz1541, oz1541, cz1541, pz1541, vz1541⟩ := k1540
              have hbz1541 := xRd.bd Rz1541 (by omega)
              refine X_iconst hK dX12_readOne_217 ?_
              exact hret _ _ _ _ _ _ _ dX12_readOne_218 (by omega) (by omega) ⟨rfl, 1, rfl, (by omega), (by omega), ⟨z1541, z1542, z1543, (q1098 + 1), ez1541, by omega, by omega, ez1542, by omega, by omega, ((hg1538 a0 13 0 43 hs_a0 (by decide)).trans ((hg1532 a0 13 0 43 hs_a0 (by decide)).trans ((hg1395 a0 13 0 43 hs_a0 (by decide)).trans (xs_s hg1392)))), by omega, by omega, ez1543, by omega, by omega, (fun _ => ⟨(by rw [(xv_m hg1538 hs_wl (by decide) (by decide))]; exact Rz1541), by omega⟩), (xLow.tr (xLow.up xLow.rf uR1536 (by omega)) oz1541 (by omega)), tt1398, ft1398, kt1398, nt1398, st1398, ((hg1538 a0 13 0 20 hs_a0 (by decide)).trans ((hg1532 a0 13 0 20 hs_a0 (by decide)).trans ett1398)), ((hg1538 a0 13 0 21 hs_a0 (by decide)).trans ((hg1532 a0 13 0 21 hs_a0 (by decide)).trans eft1398)), ((hg1538 a0 13 0 22 hs_a0 (by decide)).trans ((hg1532 a0 13 0 22 hs_a0 (by decide)).trans ekt1398)), ((hg1538 a0 13 0 23 hs_a0 (by decide)).trans ((hg1532 a0 13 0 23 hs_a0 (by decide)).trans ent1398)), ((hg1538 a0 13 0 24 hs_a0 (by decide)).trans ((hg1532 a0 13 0 24 hs_a0 (by decide)).trans est1398)), (by omega), ⟨fun _ => ⟨((hg1538 a0 13 0 25 hs_a0 (by decide)).trans ((hg1532 a0 13 0 25 hs_a0 (by decide)).trans ((hg1395 a0 13 0 25 hs_a0 (by decide)).trans ((xs_k hg1392 (by decide)).trans ((hg1096 a0 13 0 25 hs_a0 (by decide)).trans eff))))), ⟨wt1398, (aq1376 + 1), ((hg1538 a0 13 0 28 hs_a0 (by decide)).trans ((hg1532 a0 13 0 28 hs_a0 (by decide)).trans ewt1398)), hdt1398, (by rw [(xv_m hg1538 hs_wl (by decide) (by decide))]; exact ⟨(by have h9 := xKs.nots (q1097 - z1542).toNat q1097 q1099 (by omega) (by omega) (by rw [(Eq.trans (Eq.trans (xv_m hg1532 hs_wl (by decide) (by decide)) (xv_m hg1395 hs_wl (by decide) (by decide))) (xv_a hg1392 (xne hs_wl hs_a0 (by decide))))]; exact (xKo.flag koq1376 (by omega) (by omega) rfl)) vz1541; rw [← cz1541] at h9; exact h9), pz1541⟩)⟩⟩, fun h9 => by omega⟩⟩⟩ (Nat.le_refl _) (Nat.le_refl _)
          · refine X_aloadn hK (i := 0) 1 dX12_readOne_50 rfl rfl ?_
            refine X_iconst hK dX12_readOne_51 ?_
            refine X_callV hK [.int (iI 4)] [] lk_X12_333 (c3_bad _ _ _ _ _ S g1096 a0 4 q1102 q1101 hs_a0 (by omega) (by omega) eq1102 (by omega) eq1101) hs_a0 ⟨by decide, rfl⟩ dX12_readOne_52 rfl rfl (by simp [Value.category]) (by decide) (by decide) (by decide) (by decide) (fun r1544 S1546 g1545 pr1544 qr1544 hg1545 => ?_)
            obtain ⟨rfl, z1547, rfl, lz1547, uz1547, k1548, k1549, k1550⟩ := pr1544
            refine X_st [.int (iI z1547)] rfl ?_
            exact hret _ _ _ _ _ _ _ dX12_readOne_55 (by omega) (by omega) ⟨rfl, z1547, rfl, (by omega), (by omega), ⟨np, q1097, q1099, q1098, ((hg1545 a0 13 0 41 hs_a0 (by decide)).trans ((hg1096 a0 13 0 41 hs_a0 (by decide)).trans enp)), by omega, by omega, ((hg1545 a0 13 0 42 hs_a0 (by decide)).trans eq1097), by omega, by omega, ((hg1545 a0 13 0 43 hs_a0 (by decide)).trans eq1098), by omega, by omega, ((hg1545 a0 13 0 44 hs_a0 (by decide)).trans eq1099), by omega, by omega, (fun h => by omega), (by rw [(Eq.trans (xv_m hg1545 hs_wp (by decide) (by decide)) (xv_m hg1096 hs_wp (by decide) (by decide)))]; exact xLow.rf), q1100, q1101, q1102, q1103, q1104, ((hg1545 a0 13 0 20 hs_a0 (by decide)).trans eq1100), ((hg1545 a0 13 0 21 hs_a0 (by decide)).trans eq1101), ((hg1545 a0 13 0 22 hs_a0 (by decide)).trans eq1102), ((hg1545 a0 13 0 23 hs_a0 (by decide)).trans eq1103), ((hg1545 a0 13 0 24 hs_a0 (by decide)).trans eq1104), (by omega), ⟨fun h9 => by omega, (fun _ => xOne.bad (xKo.f4 koq1376 (by omega) (by omega)) (by omega) k1549 (by have h9 := xHd.wr hdq1376; split <;> omega) k1550 hdq1376.2.1 (by omega))⟩⟩⟩ (Nat.le_refl _) (Nat.le_refl _)
      · refine X_aloadn hK (i := 0) 1 dX12_readOne_10 rfl rfl ?_
        refine X_callV hK [] [] lk_X12_326 (c3_isNot _ _ _ _ _ S g1096 a0 sz q1100 q1101 q1102 q1103 q1104 y0 f9 wq1376 aq1376 hs_a0 (by omega) ((hg1096 a0 13 0 19 hs_a0 (by decide)).trans esz) (by omega) eq1100 (by omega) eq1101 (by omega) eq1102 (by omega) eq1103 (by omega) eq1104 ((hg1096 a0 13 0 1 hs_a0 (by decide)).trans ey0) hs_y0 ((xv_m hg1096 hs_y0 (by decide) (by decide)).trans hp0) eq1376 hdq1376 (by omega)) hs_a0 ⟨by decide, rfl⟩ dX12_readOne_11 rfl rfl (by simp [Value.category]) (by decide) (by decide) (by decide) (by decide) (fun r1551 S1553 g1552 pr1551 qr1551 hg1552 => ?_)
        obtain ⟨rfl, rfl, z1554, rfl, lz1554, uz1554, k1555⟩ := pr1551
        refine X_st [.int (iI z1554)] rfl ?_
        refine X_if_ne hK 32 (by omega) dX12_readOne_14 (by decide) (fun c1556 => ?_) (fun c1556 => ?_)
        · refine X_aloadn hK (i := 0) 1 dX12_readOne_32 rfl rfl ?_
          refine X_getK hK fl_X12_336_13 hs_a0 eq1098 dX12_readOne_33 ?_
          refine X_bipush hK dX12_readOne_36 (by decide) ?_
          refine X_icmp_eq hK 50 (by omega) (by omega) dX12_readOne_38 (by decide) (fun c1557 => ?_) (fun c1557 => ?_)
          · refine X_aloadn hK (i := 0) 1 dX12_readOne_50 rfl rfl ?_
            refine X_iconst hK dX12_readOne_51 ?_
            refine X_callV hK [.int (iI 4)] [] lk_X12_333 (c3_bad _ _ _ _ _ S g1096 a0 4 q1102 q1101 hs_a0 (by omega) (by omega) eq1102 (by omega) eq1101) hs_a0 ⟨by decide, rfl⟩ dX12_readOne_52 rfl rfl (by simp [Value.category]) (by decide) (by decide) (by decide) (by decide) (fun r1558 S1560 g1559 pr1558 qr1558 hg1559 => ?_)
            obtain ⟨rfl, z1561, rfl, lz1561, uz1561, k1562, k1563, k1564⟩ := pr1558
            refine X_st [.int (iI z1561)] rfl ?_
            exact hret _ _ _ _ _ _ _ dX12_readOne_55 (by omega) (by omega) ⟨rfl, z1561, rfl, (by omega), (by omega), ⟨np, q1097, q1099, q1098, ((hg1559 a0 13 0 41 hs_a0 (by decide)).trans ((hg1096 a0 13 0 41 hs_a0 (by decide)).trans enp)), by omega, by omega, ((hg1559 a0 13 0 42 hs_a0 (by decide)).trans eq1097), by omega, by omega, ((hg1559 a0 13 0 43 hs_a0 (by decide)).trans eq1098), by omega, by omega, ((hg1559 a0 13 0 44 hs_a0 (by decide)).trans eq1099), by omega, by omega, (fun h => by omega), (by rw [(Eq.trans (xv_m hg1559 hs_wp (by decide) (by decide)) (xv_m hg1096 hs_wp (by decide) (by decide)))]; exact xLow.rf), q1100, q1101, q1102, q1103, q1104, ((hg1559 a0 13 0 20 hs_a0 (by decide)).trans eq1100), ((hg1559 a0 13 0 21 hs_a0 (by decide)).trans eq1101), ((hg1559 a0 13 0 22 hs_a0 (by decide)).trans eq1102), ((hg1559 a0 13 0 23 hs_a0 (by decide)).trans eq1103), ((hg1559 a0 13 0 24 hs_a0 (by decide)).trans eq1104), (by omega), ⟨fun h9 => by omega, (fun _ => xOne.bad (xKo.f4 koq1376 (by omega) (by omega)) (by omega) k1563 (by have h9 := xHd.wr hdq1376; split <;> omega) k1564 hdq1376.2.1 (by omega))⟩⟩⟩ (Nat.le_refl _) (Nat.le_refl _)
          · refine X_aloadn hK (i := 0) 1 dX12_readOne_41 rfl rfl ?_
            refine X_getK hK fl_X12_339_13 hs_a0 eq1099 dX12_readOne_42 ?_
            refine X_bipush hK dX12_readOne_45 (by decide) ?_
            refine X_icmp_ne hK 56 (by omega) (by omega) dX12_readOne_47 (by decide) (fun c1565 => ?_) (fun c1565 => ?_)
            · refine X_aloadn hK (i := 0) 1 dX12_readOne_56 rfl rfl ?_
              refine X_dup hK dX12_readOne_57 rfl ?_
              refine X_getK hK fl_X12_336_13 hs_a0 eq1098 dX12_readOne_58 ?_
              refine X_iconst hK dX12_readOne_61 ?_
              refine X_iadd hK dX12_readOne_62 ?_
              refine X_puti hK fl_X12_336_13 hs_a0 (by decide) sl_13_43 (by omega) (by omega) dX12_readOne_63 (fun g1566 hg1566 => ?_)
              refine X_iloadn hK (i := 1) 0 dX12_readOne_66 rfl rfl ?_
              refine X_iconst hK dX12_readOne_67 ?_
              refine X_icmp_ne hK 121 (by omega) (by omega) dX12_readOne_68 (by decide) (fun c1567 => False.elim (by omega)) (fun c1567 => ?_)
              refine X_aloadn hK (i := 0) 1 dX12_readOne_71 rfl rfl ?_
              refine X_dup hK dX12_readOne_72 rfl ?_
              refine X_getK hK fl_X12_339_13 hs_a0 ((xs_k hg1566 (by decide)).trans eq1099) dX12_readOne_73 ?_
              refine X_iconst hK dX12_readOne_76 ?_
              refine X_iadd hK dX12_readOne_77 ?_
              refine X_puti hK fl_X12_339_13 hs_a0 (by decide) sl_13_44 (by omega) (by omega) dX12_readOne_78 (fun g1568 hg1568 => ?_)
              refine X_aloadn hK (i := 0) 1 dX12_readOne_81 rfl rfl ?_
              refine X_getK hK fl_X12_77_13 hs_a0 ((xs_k hg1568 (by decide)).trans ((xs_k hg1566 (by decide)).trans ((hg1096 a0 13 0 38 hs_a0 (by decide)).trans ewl))) dX12_readOne_82 ?_
              refine X_aloadn hK (i := 0) 1 dX12_readOne_85 rfl rfl ?_
              refine X_getK hK fl_X12_316_13 hs_a0 ((xs_k hg1568 (by decide)).trans ((xs_k hg1566 (by decide)).trans eq1097)) dX12_readOne_86 ?_
              refine X_aloadn hK (i := 0) 1 dX12_readOne_89 rfl rfl ?_
              refine X_callV hK [] [.int (iI q1097), .ref wl] lk_X12_326 (c3_isNot _ _ _ _ _ S g1568 a0 sz q1100 q1101 q1102 q1103 q1104 y0 f9 wq1376 aq1376 hs_a0 (by omega) ((xs_k hg1568 (by decide)).trans ((xs_k hg1566 (by decide)).trans ((hg1096 a0 13 0 19 hs_a0 (by decide)).trans esz))) (by omega) ((xs_k hg1568 (by decide)).trans ((xs_k hg1566 (by decide)).trans eq1100)) (by omega) ((xs_k hg1568 (by decide)).trans ((xs_k hg1566 (by decide)).trans eq1101)) (by omega) ((xs_k hg1568 (by decide)).trans ((xs_k hg1566 (by decide)).trans eq1102)) (by omega) ((xs_k hg1568 (by decide)).trans ((xs_k hg1566 (by decide)).trans eq1103)) (by omega) ((xs_k hg1568 (by decide)).trans ((xs_k hg1566 (by decide)).trans eq1104)) ((xs_k hg1568 (by decide)).trans ((xs_k hg1566 (by decide)).trans ((hg1096 a0 13 0 1 hs_a0 (by decide)).trans ey0))) hs_y0 ((Eq.trans (Eq.trans (xv_a hg1568 (xne hs_y0 hs_a0 (by decide))) (xv_a hg1566 (xne hs_y0 hs_a0 (by decide)))) (xv_m hg1096 hs_y0 (by decide) (by decide))).trans hp0) ((xs_k hg1568 (by decide)).trans ((xs_k hg1566 (by decide)).trans eq1376)) hdq1376 (by omega)) hs_a0 ⟨by decide, rfl⟩ dX12_readOne_90 rfl rfl (by simp [Value.category]) (by decide) (by decide) (by decide) (by decide) (fun r1569 S1571 g1570 pr1569 qr1569 hg1570 => ?_)
              obtain ⟨rfl, rfl, z1572, rfl, lz1572, uz1572, k1573⟩ := pr1569
              refine X_st [.int (iI z1572), .int (iI q1097), .ref wl] rfl ?_
              refine X_if_eq hK 101 (by omega) dX12_readOne_93 (by decide) (fun c1574 => ?_) (fun c1574 => ?_)
              · refine X_bipush hK dX12_readOne_101 (by decide) ?_
                refine X_iast hK hs_wl (by decide) (by decide) sl_16200 (by omega) (by omega) (by omega) (by omega) dX12_readOne_103 (fun g1575 hg1575 => ?_)
                refine X_aloadn hK (i := 0) 1 dX12_readOne_104 rfl rfl ?_
                refine X_dup hK dX12_readOne_105 rfl ?_
                refine X_getK hK fl_X12_316_13 hs_a0 ((xs_a hg1575 (xne hs_a0 hs_wl (by decide))).trans ((xs_k hg1568 (by decide)).trans ((xs_k hg1566 (by decide)).trans eq1097))) dX12_readOne_106 ?_
                refine X_iconst hK dX12_readOne_109 ?_
                refine X_iadd hK dX12_readOne_110 ?_
                refine X_puti hK fl_X12_316_13 hs_a0 (by decide) sl_13_42 (by omega) (by omega) dX12_readOne_111 (fun g1576 hg1576 => ?_)
                refine X_aloadn hK (i := 0) 1 dX12_readOne_114 rfl rfl ?_
                refine X_callV hK [] [] lk_X12_342 (c3_go _ _ _ _ _ S g1576 a0 sz q1100 y0 q1103 q1104 hs_a0 (by omega) ((xs_k hg1576 (by decide)).trans ((xs_a hg1575 (xne hs_a0 hs_wl (by decide))).trans ((xs_k hg1568 (by decide)).trans ((xs_k hg1566 (by decide)).trans ((hg1096 a0 13 0 19 hs_a0 (by decide)).trans esz))))) (by omega) ((xs_k hg1576 (by decide)).trans ((xs_a hg1575 (xne hs_a0 hs_wl (by decide))).trans ((xs_k hg1568 (by decide)).trans ((xs_k hg1566 (by decide)).trans eq1100)))) ((xs_k hg1576 (by decide)).trans ((xs_a hg1575 (xne hs_a0 hs_wl (by decide))).trans ((xs_k hg1568 (by decide)).trans ((xs_k hg1566 (by decide)).trans ((hg1096 a0 13 0 1 hs_a0 (by decide)).trans ey0))))) hs_y0 (by omega) ((xs_k hg1576 (by decide)).trans ((xs_a hg1575 (xne hs_a0 hs_wl (by decide))).trans ((xs_k hg1568 (by decide)).trans ((xs_k hg1566 (by decide)).trans eq1103)))) (by omega) ((xs_k hg1576 (by decide)).trans ((xs_a hg1575 (xne hs_a0 hs_wl (by decide))).trans ((xs_k hg1568 (by decide)).trans ((xs_k hg1566 (by decide)).trans eq1104)))) (by omega)) hs_a0 ⟨by decide, rfl⟩ dX12_readOne_115 rfl rfl (by simp [Value.category]) (by decide) (by decide) (by decide) (by decide) (fun r1577 S1579 g1578 pr1577 qr1577 hg1578 => ?_)
                obtain ⟨rfl, rfl, k1580⟩ := pr1577
                refine X_st [] rfl ?_
                obtain ⟨kt1581, nt1581, st1581, wt1581, ekt1581, ent1581, est1581, ewt1581, lkt1581, eft1581, ett1581, cut1581⟩ := k1580
                obtain ⟨ft1581, hft1581⟩ : ∃ x9 : Int, xplc sz (xskp f9 sz q1100) = x9 := ⟨_, rfl⟩
                obtain ⟨tt1581, htt1581⟩ : ∃ x9 : Int, xed f9 sz (xskp f9 sz q1100) = x9 := ⟨_, rfl⟩
                have bh1582 := xgo.b (f := f9) (n := sz) (to := q1100) ⟨by omega, by omega⟩
                rw [((Eq.trans (Eq.trans (Eq.trans (Eq.trans (xv_a hg1576 (xne hs_y0 hs_a0 (by decide))) (xv_a hg1575 (xne hs_y0 hs_wl (by decide)))) (xv_a hg1568 (xne hs_y0 hs_a0 (by decide)))) (xv_a hg1566 (xne hs_y0 hs_a0 (by decide)))) (xv_m hg1096 hs_y0 (by decide) (by decide))).trans hp0)] at eft1581 ett1581 cut1581
                have hdt1581 := xHd.go hdq1376 cut1581
                rw [hft1581] at eft1581 hdt1581 bh1582
                rw [htt1581] at ett1581 hdt1581 bh1582
                refine X_goto hK 0 dX12_readOne_118 (by decide) ?_
                refine X_lv [(0, .ref a0)] [1] rfl ?_
                exact ihP1370  g1578 (xM.tr (xM_up (xM_ua (xM_up (xM_up (xM.tr xM.rf xLe.rf hg1096 (by decide)) hg1566 hs_a0 (by decide) (by decide)) hg1568 hs_a0 (by decide) (by decide)) hg1575 hs_wl (by decide) (by decide)) hg1576 hs_a0 (by decide) (by decide)) xLe.rf hg1578 (by decide)) (q1097 + 1) (by omega) (by omega) ((hg1578 a0 13 0 42 hs_a0 (by decide)).trans (xs_s hg1576)) (q1098 + 1) (by omega) (by omega) ((hg1578 a0 13 0 43 hs_a0 (by decide)).trans ((xs_k hg1576 (by decide)).trans ((xs_a hg1575 (xne hs_a0 hs_wl (by decide))).trans ((xs_k hg1568 (by decide)).trans (xs_s hg1566))))) (q1099 + 1) (by omega) (by omega) ((hg1578 a0 13 0 44 hs_a0 (by decide)).trans ((xs_k hg1576 (by decide)).trans ((xs_a hg1575 (xne hs_a0 hs_wl (by decide))).trans (xs_s hg1568)))) tt1581 (by omega) (by omega) ett1581 ft1581 (by omega) (by omega) eft1581 kt1581 (by omega) (by omega) ekt1581 nt1581 (by omega) (by omega) ent1581 st1581 (by omega) (by omega) est1581 (xRd.push v1371 (by omega) (by omega) (by have h9 := (show xv g1578 wl q1097 = 15 from by rw [(xv_m hg1578 hs_wl (by decide) (by decide)), (xv_a hg1576 (xne hs_wl hs_a0 (by decide))), xv_s hg1575 (by omega)]); omega) (fun i9 hi9 h09 => (show xv g1578 wl i9 = xv g1096 wl i9 from by rw [(xv_m hg1578 hs_wl (by decide) (by decide)), (xv_a hg1576 (xne hs_wl hs_a0 (by decide))), (xv_k (i := i9) hg1575 (by omega) (by omega) (by omega)), (xv_a hg1568 (xne hs_wl hs_a0 (by decide))), (xv_a hg1566 (xne hs_wl hs_a0 (by decide)))]))) (by omega) ⟨wt1581, (aq1376 + 1), ewt1581, hdt1581, (xKo.par koq1376 (by omega) (by omega) (show xv g1578 wl q1097 = 15 from by rw [(xv_m hg1578 hs_wl (by decide) (by decide)), (xv_a hg1576 (xne hs_wl hs_a0 (by decide))), xv_s hg1575 (by omega)]) (fun i9 hi9 h09 => (show xv g1578 wl i9 = xv g1096 wl i9 from by rw [(xv_m hg1578 hs_wl (by decide) (by decide)), (xv_a hg1576 (xne hs_wl hs_a0 (by decide))), (xv_k (i := i9) hg1575 (by omega) (by omega) (by omega)), (xv_a hg1568 (xne hs_wl hs_a0 (by decide))), (xv_a hg1566 (xne hs_wl hs_a0 (by decide)))])))⟩ (by omega) (by omega)
              · refine X_bipush hK dX12_readOne_96 (by decide) ?_
                refine X_goto hK 103 dX12_readOne_98 (by decide) ?_
                refine X_iast hK hs_wl (by decide) (by decide) sl_16200 (by omega) (by omega) (by omega) (by omega) dX12_readOne_103 (fun g1583 hg1583 => ?_)
                refine X_aloadn hK (i := 0) 1 dX12_readOne_104 rfl rfl ?_
                refine X_dup hK dX12_readOne_105 rfl ?_
                refine X_getK hK fl_X12_316_13 hs_a0 ((xs_a hg1583 (xne hs_a0 hs_wl (by decide))).trans ((xs_k hg1568 (by decide)).trans ((xs_k hg1566 (by decide)).trans eq1097))) dX12_readOne_106 ?_
                refine X_iconst hK dX12_readOne_109 ?_
                refine X_iadd hK dX12_readOne_110 ?_
                refine X_puti hK fl_X12_316_13 hs_a0 (by decide) sl_13_42 (by omega) (by omega) dX12_readOne_111 (fun g1584 hg1584 => ?_)
                refine X_aloadn hK (i := 0) 1 dX12_readOne_114 rfl rfl ?_
                refine X_callV hK [] [] lk_X12_342 (c3_go _ _ _ _ _ S g1584 a0 sz q1100 y0 q1103 q1104 hs_a0 (by omega) ((xs_k hg1584 (by decide)).trans ((xs_a hg1583 (xne hs_a0 hs_wl (by decide))).trans ((xs_k hg1568 (by decide)).trans ((xs_k hg1566 (by decide)).trans ((hg1096 a0 13 0 19 hs_a0 (by decide)).trans esz))))) (by omega) ((xs_k hg1584 (by decide)).trans ((xs_a hg1583 (xne hs_a0 hs_wl (by decide))).trans ((xs_k hg1568 (by decide)).trans ((xs_k hg1566 (by decide)).trans eq1100)))) ((xs_k hg1584 (by decide)).trans ((xs_a hg1583 (xne hs_a0 hs_wl (by decide))).trans ((xs_k hg1568 (by decide)).trans ((xs_k hg1566 (by decide)).trans ((hg1096 a0 13 0 1 hs_a0 (by decide)).trans ey0))))) hs_y0 (by omega) ((xs_k hg1584 (by decide)).trans ((xs_a hg1583 (xne hs_a0 hs_wl (by decide))).trans ((xs_k hg1568 (by decide)).trans ((xs_k hg1566 (by decide)).trans eq1103)))) (by omega) ((xs_k hg1584 (by decide)).trans ((xs_a hg1583 (xne hs_a0 hs_wl (by decide))).trans ((xs_k hg1568 (by decide)).trans ((xs_k hg1566 (by decide)).trans eq1104)))) (by omega)) hs_a0 ⟨by decide, rfl⟩ dX12_readOne_115 rfl rfl (by simp [Value.category]) (by decide) (by decide) (by decide) (by decide) (fun r1585 S1587 g1586 pr1585 qr1585 hg1586 => ?_)
                obtain ⟨rfl, rfl, k1588⟩ := pr1585
                refine X_st [] rfl ?_
                obtain ⟨kt1589, nt1589, st1589, wt1589, ekt1589, ent1589, est1589, ewt1589, lkt1589, eft1589, ett1589, cut1589⟩ := k1588
                obtain ⟨ft1589, hft1589⟩ : ∃ x9 : Int, xplc sz (xskp f9 sz q1100) = x9 := ⟨_, rfl⟩
                obtain ⟨tt1589, htt1589⟩ : ∃ x9 : Int, xed f9 sz (xskp f9 sz q1100) = x9 := ⟨_, rfl⟩
                have bh1590 := xgo.b (f := f9) (n := sz) (to := q1100) ⟨by omega, by omega⟩
                rw [((Eq.trans (Eq.trans (Eq.trans (Eq.trans (xv_a hg1584 (xne hs_y0 hs_a0 (by decide))) (xv_a hg1583 (xne hs_y0 hs_wl (by decide)))) (xv_a hg1568 (xne hs_y0 hs_a0 (by decide)))) (xv_a hg1566 (xne hs_y0 hs_a0 (by decide)))) (xv_m hg1096 hs_y0 (by decide) (by decide))).trans hp0)] at eft1589 ett1589 cut1589
                have hdt1589 := xHd.go hdq1376 cut1589
                rw [hft1589] at eft1589 hdt1589 bh1590
                rw [htt1589] at ett1589 hdt1589 bh1590
                refine X_goto hK 0 dX12_readOne_118 (by decide) ?_
                refine X_lv [(0, .ref a0)] [1] rfl ?_
                exact ihP1370  g1586 (xM.tr (xM_up (xM_ua (xM_up (xM_up (xM.tr xM.rf xLe.rf hg1096 (by decide)) hg1566 hs_a0 (by decide) (by decide)) hg1568 hs_a0 (by decide) (by decide)) hg1583 hs_wl (by decide) (by decide)) hg1584 hs_a0 (by decide) (by decide)) xLe.rf hg1586 (by decide)) (q1097 + 1) (by omega) (by omega) ((hg1586 a0 13 0 42 hs_a0 (by decide)).trans (xs_s hg1584)) (q1098 + 1) (by omega) (by omega) ((hg1586 a0 13 0 43 hs_a0 (by decide)).trans ((xs_k hg1584 (by decide)).trans ((xs_a hg1583 (xne hs_a0 hs_wl (by decide))).trans ((xs_k hg1568 (by decide)).trans (xs_s hg1566))))) (q1099 + 1) (by omega) (by omega) ((hg1586 a0 13 0 44 hs_a0 (by decide)).trans ((xs_k hg1584 (by decide)).trans ((xs_a hg1583 (xne hs_a0 hs_wl (by decide))).trans (xs_s hg1568)))) tt1589 (by omega) (by omega) ett1589 ft1589 (by omega) (by omega) eft1589 kt1589 (by omega) (by omega) ekt1589 nt1589 (by omega) (by omega) ent1589 st1589 (by omega) (by omega) est1589 (xRd.push v1371 (by omega) (by omega) (by have h9 := (show xv g1586 wl q1097 = 12 from by rw [(xv_m hg1586 hs_wl (by decide) (by decide)), (xv_a hg1584 (xne hs_wl hs_a0 (by decide))), xv_s hg1583 (by omega)]); omega) (fun i9 hi9 h09 => (show xv g1586 wl i9 = xv g1096 wl i9 from by rw [(xv_m hg1586 hs_wl (by decide) (by decide)), (xv_a hg1584 (xne hs_wl hs_a0 (by decide))), (xv_k (i := i9) hg1583 (by omega) (by omega) (by omega)), (xv_a hg1568 (xne hs_wl hs_a0 (by decide))), (xv_a hg1566 (xne hs_wl hs_a0 (by decide)))]))) (by omega) ⟨wt1589, (aq1376 + 1), ewt1589, hdt1589, (xKo.nnt koq1376 (by omega) (by omega) (show xv g1586 wl q1097 = 12 from by rw [(xv_m hg1586 hs_wl (by decide) (by decide)), (xv_a hg1584 (xne hs_wl hs_a0 (by decide))), xv_s hg1583 (by omega)]) (fun i9 hi9 h09 => (show xv g1586 wl i9 = xv g1096 wl i9 from by rw [(xv_m hg1586 hs_wl (by decide) (by decide)), (xv_a hg1584 (xne hs_wl hs_a0 (by decide))), (xv_k (i := i9) hg1583 (by omega) (by omega) (by omega)), (xv_a hg1568 (xne hs_wl hs_a0 (by decide))), (xv_a hg1566 (xne hs_wl hs_a0 (by decide)))])))⟩ (by omega) (by omega)
            · refine X_aloadn hK (i := 0) 1 dX12_readOne_50 rfl rfl ?_
              refine X_iconst hK dX12_readOne_51 ?_
              refine X_callV hK [.int (iI 4)] [] lk_X12_333 (c3_bad _ _ _ _ _ S g1096 a0 4 q1102 q1101 hs_a0 (by omega) (by omega) eq1102 (by omega) eq1101) hs_a0 ⟨by decide, rfl⟩ dX12_readOne_52 rfl rfl (by simp [Value.category]) (by decide) (by decide) (by decide) (by decide) (fun r1591 S1593 g1592 pr1591 qr1591 hg1592 => ?_)
              obtain ⟨rfl, z1594, rfl, lz1594, uz1594, k1595, k1596, k1597⟩ := pr1591
              refine X_st [.int (iI z1594)] rfl ?_
              exact hret _ _ _ _ _ _ _ dX12_readOne_55 (by omega) (by omega) ⟨rfl, z1594, rfl, (by omega), (by omega), ⟨np, q1097, q1099, q1098, ((hg1592 a0 13 0 41 hs_a0 (by decide)).trans ((hg1096 a0 13 0 41 hs_a0 (by decide)).trans enp)), by omega, by omega, ((hg1592 a0 13 0 42 hs_a0 (by decide)).trans eq1097), by omega, by omega, ((hg1592 a0 13 0 43 hs_a0 (by decide)).trans eq1098), by omega, by omega, ((hg1592 a0 13 0 44 hs_a0 (by decide)).trans eq1099), by omega, by omega, (fun h => by omega), (by rw [(Eq.trans (xv_m hg1592 hs_wp (by decide) (by decide)) (xv_m hg1096 hs_wp (by decide) (by decide)))]; exact xLow.rf), q1100, q1101, q1102, q1103, q1104, ((hg1592 a0 13 0 20 hs_a0 (by decide)).trans eq1100), ((hg1592 a0 13 0 21 hs_a0 (by decide)).trans eq1101), ((hg1592 a0 13 0 22 hs_a0 (by decide)).trans eq1102), ((hg1592 a0 13 0 23 hs_a0 (by decide)).trans eq1103), ((hg1592 a0 13 0 24 hs_a0 (by decide)).trans eq1104), (by omega), ⟨fun h9 => by omega, (fun _ => xOne.bad (xKo.f4 koq1376 (by omega) (by omega)) (by omega) k1596 (by have h9 := xHd.wr hdq1376; split <;> omega) k1597 hdq1376.2.1 (by omega))⟩⟩⟩ (Nat.le_refl _) (Nat.le_refl _)
        · refine X_aloadn hK (i := 0) 1 dX12_readOne_17 rfl rfl ?_
          refine X_bipush hK dX12_readOne_18 (by decide) ?_
          refine X_callV hK [.int (iI 40)] [] lk_X12_330 (c3_isSign _ _ _ _ _ S g1096 a0 40 q1102 q1104 hs_a0 (by omega) (by omega) eq1102 (by omega) eq1104) hs_a0 ⟨by decide, rfl⟩ dX12_readOne_20 rfl rfl (by simp [Value.category]) (by decide) (by decide) (by decide) (by decide) (fun r1598 S1600 g1599 pr1598 qr1598 hg1599 => ?_)
          obtain ⟨rfl, rfl, z1601, rfl, lz1601, uz1601, k1602⟩ := pr1598
          refine X_st [.int (iI z1601)] rfl ?_
          have hq1603 : z1601 = 1 ↔ xtk f9 sz aq1376 = 25 := by rw [k1602]; exact (xHd.sg hdq1376 (x := 40) (by omega)).trans (by rw [show xmkc 40 = 25 from by decide])
          refine X_if_ne hK 32 (by omega) dX12_readOne_23 (by decide) (fun c1604 => ?_) (fun c1604 => ?_)
          · refine X_aloadn hK (i := 0) 1 dX12_readOne_32 rfl rfl ?_
            refine X_getK hK fl_X12_336_13 hs_a0 eq1098 dX12_readOne_33 ?_
            refine X_bipush hK dX12_readOne_36 (by decide) ?_
            refine X_icmp_eq hK 50 (by omega) (by omega) dX12_readOne_38 (by decide) (fun c1605 => ?_) (fun c1605 => ?_)
            · refine X_aloadn hK (i := 0) 1 dX12_readOne_50 rfl rfl ?_
              refine X_iconst hK dX12_readOne_51 ?_
              refine X_callV hK [.int (iI 4)] [] lk_X12_333 (c3_bad _ _ _ _ _ S g1096 a0 4 q1102 q1101 hs_a0 (by omega) (by omega) eq1102 (by omega) eq1101) hs_a0 ⟨by decide, rfl⟩ dX12_readOne_52 rfl rfl (by simp [Value.category]) (by decide) (by decide) (by decide) (by decide) (fun r1606 S1608 g1607 pr1606 qr1606 hg1607 => ?_)
              obtain ⟨rfl, z1609, rfl, lz1609, uz1609, k1610, k1611, k1612⟩ := pr1606
              refine X_st [.int (iI z1609)] rfl ?_
              exact hret _ _ _ _ _ _ _ dX12_readOne_55 (by omega) (by omega) ⟨rfl, z1609, rfl, (by omega), (by omega), ⟨np, q1097, q1099, q1098, ((hg1607 a0 13 0 41 hs_a0 (by decide)).trans ((hg1096 a0 13 0 41 hs_a0 (by decide)).trans enp)), by omega, by omega, ((hg1607 a0 13 0 42 hs_a0 (by decide)).trans eq1097), by omega, by omega, ((hg1607 a0 13 0 43 hs_a0 (by decide)).trans eq1098), by omega, by omega, ((hg1607 a0 13 0 44 hs_a0 (by decide)).trans eq1099), by omega, by omega, (fun h => by omega), (by rw [(Eq.trans (xv_m hg1607 hs_wp (by decide) (by decide)) (xv_m hg1096 hs_wp (by decide) (by decide)))]; exact xLow.rf), q1100, q1101, q1102, q1103, q1104, ((hg1607 a0 13 0 20 hs_a0 (by decide)).trans eq1100), ((hg1607 a0 13 0 21 hs_a0 (by decide)).trans eq1101), ((hg1607 a0 13 0 22 hs_a0 (by decide)).trans eq1102), ((hg1607 a0 13 0 23 hs_a0 (by decide)).trans eq1103), ((hg1607 a0 13 0 24 hs_a0 (by decide)).trans eq1104), (by omega), ⟨fun h9 => by omega, (fun _ => xOne.bad (xKo.f4 koq1376 (by omega) (by omega)) (by omega) k1611 (by have h9 := xHd.wr hdq1376; split <;> omega) k1612 hdq1376.2.1 (by omega))⟩⟩⟩ (Nat.le_refl _) (Nat.le_refl _)
            · refine X_aloadn hK (i := 0) 1 dX12_readOne_41 rfl rfl ?_
              refine X_getK hK fl_X12_339_13 hs_a0 eq1099 dX12_readOne_42 ?_
              refine X_bipush hK dX12_readOne_45 (by decide) ?_
              refine X_icmp_ne hK 56 (by omega) (by omega) dX12_readOne_47 (by decide) (fun c1613 => ?_) (fun c1613 => ?_)
              · refine X_aloadn hK (i := 0) 1 dX12_readOne_56 rfl rfl ?_
                refine X_dup hK dX12_readOne_57 rfl ?_
                refine X_getK hK fl_X12_336_13 hs_a0 eq1098 dX12_readOne_58 ?_
                refine X_iconst hK dX12_readOne_61 ?_
                refine X_iadd hK dX12_readOne_62 ?_
                refine X_puti hK fl_X12_336_13 hs_a0 (by decide) sl_13_43 (by omega) (by omega) dX12_readOne_63 (fun g1614 hg1614 => ?_)
                refine X_iloadn hK (i := 1) 0 dX12_readOne_66 rfl rfl ?_
                refine X_iconst hK dX12_readOne_67 ?_
                refine X_icmp_ne hK 121 (by omega) (by omega) dX12_readOne_68 (by decide) (fun c1615 => False.elim (by omega)) (fun c1615 => ?_)
                refine X_aloadn hK (i := 0) 1 dX12_readOne_71 rfl rfl ?_
                refine X_dup hK dX12_readOne_72 rfl ?_
                refine X_getK hK fl_X12_339_13 hs_a0 ((xs_k hg1614 (by decide)).trans eq1099) dX12_readOne_73 ?_
                refine X_iconst hK dX12_readOne_76 ?_
                refine X_iadd hK dX12_readOne_77 ?_
                refine X_puti hK fl_X12_339_13 hs_a0 (by decide) sl_13_44 (by omega) (by omega) dX12_readOne_78 (fun g1616 hg1616 => ?_)
                refine X_aloadn hK (i := 0) 1 dX12_readOne_81 rfl rfl ?_
                refine X_getK hK fl_X12_77_13 hs_a0 ((xs_k hg1616 (by decide)).trans ((xs_k hg1614 (by decide)).trans ((hg1096 a0 13 0 38 hs_a0 (by decide)).trans ewl))) dX12_readOne_82 ?_
                refine X_aloadn hK (i := 0) 1 dX12_readOne_85 rfl rfl ?_
                refine X_getK hK fl_X12_316_13 hs_a0 ((xs_k hg1616 (by decide)).trans ((xs_k hg1614 (by decide)).trans eq1097)) dX12_readOne_86 ?_
                refine X_aloadn hK (i := 0) 1 dX12_readOne_89 rfl rfl ?_
                refine X_callV hK [] [.int (iI q1097), .ref wl] lk_X12_326 (c3_isNot _ _ _ _ _ S g1616 a0 sz q1100 q1101 q1102 q1103 q1104 y0 f9 wq1376 aq1376 hs_a0 (by omega) ((xs_k hg1616 (by decide)).trans ((xs_k hg1614 (by decide)).trans ((hg1096 a0 13 0 19 hs_a0 (by decide)).trans esz))) (by omega) ((xs_k hg1616 (by decide)).trans ((xs_k hg1614 (by decide)).trans eq1100)) (by omega) ((xs_k hg1616 (by decide)).trans ((xs_k hg1614 (by decide)).trans eq1101)) (by omega) ((xs_k hg1616 (by decide)).trans ((xs_k hg1614 (by decide)).trans eq1102)) (by omega) ((xs_k hg1616 (by decide)).trans ((xs_k hg1614 (by decide)).trans eq1103)) (by omega) ((xs_k hg1616 (by decide)).trans ((xs_k hg1614 (by decide)).trans eq1104)) ((xs_k hg1616 (by decide)).trans ((xs_k hg1614 (by decide)).trans ((hg1096 a0 13 0 1 hs_a0 (by decide)).trans ey0))) hs_y0 ((Eq.trans (Eq.trans (xv_a hg1616 (xne hs_y0 hs_a0 (by decide))) (xv_a hg1614 (xne hs_y0 hs_a0 (by decide)))) (xv_m hg1096 hs_y0 (by decide) (by decide))).trans hp0) ((xs_k hg1616 (by decide)).trans ((xs_k hg1614 (by decide)).trans eq1376)) hdq1376 (by omega)) hs_a0 ⟨by decide, rfl⟩ dX12_readOne_90 rfl rfl (by simp [Value.category]) (by decide) (by decide) (by decide) (by decide) (fun r1617 S1619 g1618 pr1617 qr1617 hg1618 => ?_)
                obtain ⟨rfl, rfl, z1620, rfl, lz1620, uz1620, k1621⟩ := pr1617
                refine X_st [.int (iI z1620), .int (iI q1097), .ref wl] rfl ?_
                refine X_if_eq hK 101 (by omega) dX12_readOne_93 (by decide) (fun c1622 => ?_) (fun c1622 => ?_)
                · refine X_bipush hK dX12_readOne_101 (by decide) ?_
                  refine X_iast hK hs_wl (by decide) (by decide) sl_16200 (by omega) (by omega) (by omega) (by omega) dX12_readOne_103 (fun g1623 hg1623 => ?_)
                  refine X_aloadn hK (i := 0) 1 dX12_readOne_104 rfl rfl ?_
                  refine X_dup hK dX12_readOne_105 rfl ?_
                  refine X_getK hK fl_X12_316_13 hs_a0 ((xs_a hg1623 (xne hs_a0 hs_wl (by decide))).trans ((xs_k hg1616 (by decide)).trans ((xs_k hg1614 (by decide)).trans eq1097))) dX12_readOne_106 ?_
                  refine X_iconst hK dX12_readOne_109 ?_
                  refine X_iadd hK dX12_readOne_110 ?_
                  refine X_puti hK fl_X12_316_13 hs_a0 (by decide) sl_13_42 (by omega) (by omega) dX12_readOne_111 (fun g1624 hg1624 => ?_)
                  refine X_aloadn hK (i := 0) 1 dX12_readOne_114 rfl rfl ?_
                  refine X_callV hK [] [] lk_X12_342 (c3_go _ _ _ _ _ S g1624 a0 sz q1100 y0 q1103 q1104 hs_a0 (by omega) ((xs_k hg1624 (by decide)).trans ((xs_a hg1623 (xne hs_a0 hs_wl (by decide))).trans ((xs_k hg1616 (by decide)).trans ((xs_k hg1614 (by decide)).trans ((hg1096 a0 13 0 19 hs_a0 (by decide)).trans esz))))) (by omega) ((xs_k hg1624 (by decide)).trans ((xs_a hg1623 (xne hs_a0 hs_wl (by decide))).trans ((xs_k hg1616 (by decide)).trans ((xs_k hg1614 (by decide)).trans eq1100)))) ((xs_k hg1624 (by decide)).trans ((xs_a hg1623 (xne hs_a0 hs_wl (by decide))).trans ((xs_k hg1616 (by decide)).trans ((xs_k hg1614 (by decide)).trans ((hg1096 a0 13 0 1 hs_a0 (by decide)).trans ey0))))) hs_y0 (by omega) ((xs_k hg1624 (by decide)).trans ((xs_a hg1623 (xne hs_a0 hs_wl (by decide))).trans ((xs_k hg1616 (by decide)).trans ((xs_k hg1614 (by decide)).trans eq1103)))) (by omega) ((xs_k hg1624 (by decide)).trans ((xs_a hg1623 (xne hs_a0 hs_wl (by decide))).trans ((xs_k hg1616 (by decide)).trans ((xs_k hg1614 (by decide)).trans eq1104)))) (by omega)) hs_a0 ⟨by decide, rfl⟩ dX12_readOne_115 rfl rfl (by simp [Value.category]) (by decide) (by decide) (by decide) (by decide) (fun r1625 S1627 g1626 pr1625 qr1625 hg1626 => ?_)
                  obtain ⟨rfl, rfl, k1628⟩ := pr1625
                  refine X_st [] rfl ?_
                  obtain ⟨kt1629, nt1629, st1629, wt1629, ekt1629, ent1629, est1629, ewt1629, lkt1629, eft1629, ett1629, cut1629⟩ := k1628
                  obtain ⟨ft1629, hft1629⟩ : ∃ x9 : Int, xplc sz (xskp f9 sz q1100) = x9 := ⟨_, rfl⟩
                  obtain ⟨tt1629, htt1629⟩ : ∃ x9 : Int, xed f9 sz (xskp f9 sz q1100) = x9 := ⟨_, rfl⟩
                  have bh1630 := xgo.b (f := f9) (n := sz) (to := q1100) ⟨by omega, by omega⟩
                  rw [((Eq.trans (Eq.trans (Eq.trans (Eq.trans (xv_a hg1624 (xne hs_y0 hs_a0 (by decide))) (xv_a hg1623 (xne hs_y0 hs_wl (by decide)))) (xv_a hg1616 (xne hs_y0 hs_a0 (by decide)))) (xv_a hg1614 (xne hs_y0 hs_a0 (by decide)))) (xv_m hg1096 hs_y0 (by decide) (by decide))).trans hp0)] at eft1629 ett1629 cut1629
                  have hdt1629 := xHd.go hdq1376 cut1629
                  rw [hft1629] at eft1629 hdt1629 bh1630
                  rw [htt1629] at ett1629 hdt1629 bh1630
                  refine X_goto hK 0 dX12_readOne_118 (by decide) ?_
                  refine X_lv [(0, .ref a0)] [1] rfl ?_
                  exact ihP1370  g1626 (xM.tr (xM_up (xM_ua (xM_up (xM_up (xM.tr xM.rf xLe.rf hg1096 (by decide)) hg1614 hs_a0 (by decide) (by decide)) hg1616 hs_a0 (by decide) (by decide)) hg1623 hs_wl (by decide) (by decide)) hg1624 hs_a0 (by decide) (by decide)) xLe.rf hg1626 (by decide)) (q1097 + 1) (by omega) (by omega) ((hg1626 a0 13 0 42 hs_a0 (by decide)).trans (xs_s hg1624)) (q1098 + 1) (by omega) (by omega) ((hg1626 a0 13 0 43 hs_a0 (by decide)).trans ((xs_k hg1624 (by decide)).trans ((xs_a hg1623 (xne hs_a0 hs_wl (by decide))).trans ((xs_k hg1616 (by decide)).trans (xs_s hg1614))))) (q1099 + 1) (by omega) (by omega) ((hg1626 a0 13 0 44 hs_a0 (by decide)).trans ((xs_k hg1624 (by decide)).trans ((xs_a hg1623 (xne hs_a0 hs_wl (by decide))).trans (xs_s hg1616)))) tt1629 (by omega) (by omega) ett1629 ft1629 (by omega) (by omega) eft1629 kt1629 (by omega) (by omega) ekt1629 nt1629 (by omega) (by omega) ent1629 st1629 (by omega) (by omega) est1629 (xRd.push v1371 (by omega) (by omega) (by have h9 := (show xv g1626 wl q1097 = 15 from by rw [(xv_m hg1626 hs_wl (by decide) (by decide)), (xv_a hg1624 (xne hs_wl hs_a0 (by decide))), xv_s hg1623 (by omega)]); omega) (fun i9 hi9 h09 => (show xv g1626 wl i9 = xv g1096 wl i9 from by rw [(xv_m hg1626 hs_wl (by decide) (by decide)), (xv_a hg1624 (xne hs_wl hs_a0 (by decide))), (xv_k (i := i9) hg1623 (by omega) (by omega) (by omega)), (xv_a hg1616 (xne hs_wl hs_a0 (by decide))), (xv_a hg1614 (xne hs_wl hs_a0 (by decide)))]))) (by omega) ⟨wt1629, (aq1376 + 1), ewt1629, hdt1629, (xKo.par koq1376 (by omega) (by omega) (show xv g1626 wl q1097 = 15 from by rw [(xv_m hg1626 hs_wl (by decide) (by decide)), (xv_a hg1624 (xne hs_wl hs_a0 (by decide))), xv_s hg1623 (by omega)]) (fun i9 hi9 h09 => (show xv g1626 wl i9 = xv g1096 wl i9 from by rw [(xv_m hg1626 hs_wl (by decide) (by decide)), (xv_a hg1624 (xne hs_wl hs_a0 (by decide))), (xv_k (i := i9) hg1623 (by omega) (by omega) (by omega)), (xv_a hg1616 (xne hs_wl hs_a0 (by decide))), (xv_a hg1614 (xne hs_wl hs_a0 (by decide)))])))⟩ (by omega) (by omega)
                · refine X_bipush hK dX12_readOne_96 (by decide) ?_
                  refine X_goto hK 103 dX12_readOne_98 (by decide) ?_
                  refine X_iast hK hs_wl (by decide) (by decide) sl_16200 (by omega) (by omega) (by omega) (by omega) dX12_readOne_103 (fun g1631 hg1631 => ?_)
                  refine X_aloadn hK (i := 0) 1 dX12_readOne_104 rfl rfl ?_
                  refine X_dup hK dX12_readOne_105 rfl ?_
                  refine X_getK hK fl_X12_316_13 hs_a0 ((xs_a hg1631 (xne hs_a0 hs_wl (by decide))).trans ((xs_k hg1616 (by decide)).trans ((xs_k hg1614 (by decide)).trans eq1097))) dX12_readOne_106 ?_
                  refine X_iconst hK dX12_readOne_109 ?_
                  refine X_iadd hK dX12_readOne_110 ?_
                  refine X_puti hK fl_X12_316_13 hs_a0 (by decide) sl_13_42 (by omega) (by omega) dX12_readOne_111 (fun g1632 hg1632 => ?_)
                  refine X_aloadn hK (i := 0) 1 dX12_readOne_114 rfl rfl ?_
                  refine X_callV hK [] [] lk_X12_342 (c3_go _ _ _ _ _ S g1632 a0 sz q1100 y0 q1103 q1104 hs_a0 (by omega) ((xs_k hg1632 (by decide)).trans ((xs_a hg1631 (xne hs_a0 hs_wl (by decide))).trans ((xs_k hg1616 (by decide)).trans ((xs_k hg1614 (by decide)).trans ((hg1096 a0 13 0 19 hs_a0 (by decide)).trans esz))))) (by omega) ((xs_k hg1632 (by decide)).trans ((xs_a hg1631 (xne hs_a0 hs_wl (by decide))).trans ((xs_k hg1616 (by decide)).trans ((xs_k hg1614 (by decide)).trans eq1100)))) ((xs_k hg1632 (by decide)).trans ((xs_a hg1631 (xne hs_a0 hs_wl (by decide))).trans ((xs_k hg1616 (by decide)).trans ((xs_k hg1614 (by decide)).trans ((hg1096 a0 13 0 1 hs_a0 (by decide)).trans ey0))))) hs_y0 (by omega) ((xs_k hg1632 (by decide)).trans ((xs_a hg1631 (xne hs_a0 hs_wl (by decide))).trans ((xs_k hg1616 (by decide)).trans ((xs_k hg1614 (by decide)).trans eq1103)))) (by omega) ((xs_k hg1632 (by decide)).trans ((xs_a hg1631 (xne hs_a0 hs_wl (by decide))).trans ((xs_k hg1616 (by decide)).trans ((xs_k hg1614 (by decide)).trans eq1104)))) (by omega)) hs_a0 ⟨by decide, rfl⟩ dX12_readOne_115 rfl rfl (by simp [Value.category]) (by decide) (by decide) (by decide) (by decide) (fun r1633 S1635 g1634 pr1633 qr1633 hg1634 => ?_)
                  obtain ⟨rfl, rfl, k1636⟩ := pr1633
                  refine X_st [] rfl ?_
                  obtain ⟨kt1637, nt1637, st1637, wt1637, ekt1637, ent1637, est1637, ewt1637, lkt1637, eft1637, ett1637, cut1637⟩ := k1636
                  obtain ⟨ft1637, hft1637⟩ : ∃ x9 : Int, xplc sz (xskp f9 sz q1100) = x9 := ⟨_, rfl⟩
                  obtain ⟨tt1637, htt1637⟩ : ∃ x9 : Int, xed f9 sz (xskp f9 sz q1100) = x9 := ⟨_, rfl⟩
                  have bh1638 := xgo.b (f := f9) (n := sz) (to := q1100) ⟨by omega, by omega⟩
                  rw [((Eq.trans (Eq.trans (Eq.trans (Eq.trans (xv_a hg1632 (xne hs_y0 hs_a0 (by decide))) (xv_a hg1631 (xne hs_y0 hs_wl (by decide)))) (xv_a hg1616 (xne hs_y0 hs_a0 (by decide)))) (xv_a hg1614 (xne hs_y0 hs_a0 (by decide)))) (xv_m hg1096 hs_y0 (by decide) (by decide))).trans hp0)] at eft1637 ett1637 cut1637
                  have hdt1637 := xHd.go hdq1376 cut1637
                  rw [hft1637] at eft1637 hdt1637 bh1638
                  rw [htt1637] at ett1637 hdt1637 bh1638
                  refine X_goto hK 0 dX12_readOne_118 (by decide) ?_
                  refine X_lv [(0, .ref a0)] [1] rfl ?_
                  exact ihP1370  g1634 (xM.tr (xM_up (xM_ua (xM_up (xM_up (xM.tr xM.rf xLe.rf hg1096 (by decide)) hg1614 hs_a0 (by decide) (by decide)) hg1616 hs_a0 (by decide) (by decide)) hg1631 hs_wl (by decide) (by decide)) hg1632 hs_a0 (by decide) (by decide)) xLe.rf hg1634 (by decide)) (q1097 + 1) (by omega) (by omega) ((hg1634 a0 13 0 42 hs_a0 (by decide)).trans (xs_s hg1632)) (q1098 + 1) (by omega) (by omega) ((hg1634 a0 13 0 43 hs_a0 (by decide)).trans ((xs_k hg1632 (by decide)).trans ((xs_a hg1631 (xne hs_a0 hs_wl (by decide))).trans ((xs_k hg1616 (by decide)).trans (xs_s hg1614))))) (q1099 + 1) (by omega) (by omega) ((hg1634 a0 13 0 44 hs_a0 (by decide)).trans ((xs_k hg1632 (by decide)).trans ((xs_a hg1631 (xne hs_a0 hs_wl (by decide))).trans (xs_s hg1616)))) tt1637 (by omega) (by omega) ett1637 ft1637 (by omega) (by omega) eft1637 kt1637 (by omega) (by omega) ekt1637 nt1637 (by omega) (by omega) ent1637 st1637 (by omega) (by omega) est1637 (xRd.push v1371 (by omega) (by omega) (by have h9 := (show xv g1634 wl q1097 = 12 from by rw [(xv_m hg1634 hs_wl (by decide) (by decide)), (xv_a hg1632 (xne hs_wl hs_a0 (by decide))), xv_s hg1631 (by omega)]); omega) (fun i9 hi9 h09 => (show xv g1634 wl i9 = xv g1096 wl i9 from by rw [(xv_m hg1634 hs_wl (by decide) (by decide)), (xv_a hg1632 (xne hs_wl hs_a0 (by decide))), (xv_k (i := i9) hg1631 (by omega) (by omega) (by omega)), (xv_a hg1616 (xne hs_wl hs_a0 (by decide))), (xv_a hg1614 (xne hs_wl hs_a0 (by decide)))]))) (by omega) ⟨wt1637, (aq1376 + 1), ewt1637, hdt1637, (xKo.nnt koq1376 (by omega) (by omega) (show xv g1634 wl q1097 = 12 from by rw [(xv_m hg1634 hs_wl (by decide) (by decide)), (xv_a hg1632 (xne hs_wl hs_a0 (by decide))), xv_s hg1631 (by omega)]) (fun i9 hi9 h09 => (show xv g1634 wl i9 = xv g1096 wl i9 from by rw [(xv_m hg1634 hs_wl (by decide) (by decide)), (xv_a hg1632 (xne hs_wl hs_a0 (by decide))), (xv_k (i := i9) hg1631 (by omega) (by omega) (by omega)), (xv_a hg1616 (xne hs_wl hs_a0 (by decide))), (xv_a hg1614 (xne hs_wl hs_a0 (by decide)))])))⟩ (by omega) (by omega)
              · refine X_aloadn hK (i := 0) 1 dX12_readOne_50 rfl rfl ?_
                refine X_iconst hK dX12_readOne_51 ?_
                refine X_callV hK [.int (iI 4)] [] lk_X12_333 (c3_bad _ _ _ _ _ S g1096 a0 4 q1102 q1101 hs_a0 (by omega) (by omega) eq1102 (by omega) eq1101) hs_a0 ⟨by decide, rfl⟩ dX12_readOne_52 rfl rfl (by simp [Value.category]) (by decide) (by decide) (by decide) (by decide) (fun r1639 S1641 g1640 pr1639 qr1639 hg1640 => ?_)
                obtain ⟨rfl, z1642, rfl, lz1642, uz1642, k1643, k1644, k1645⟩ := pr1639
                refine X_st [.int (iI z1642)] rfl ?_
                exact hret _ _ _ _ _ _ _ dX12_readOne_55 (by omega) (by omega) ⟨rfl, z1642, rfl, (by omega), (by omega), ⟨np, q1097, q1099, q1098, ((hg1640 a0 13 0 41 hs_a0 (by decide)).trans ((hg1096 a0 13 0 41 hs_a0 (by decide)).trans enp)), by omega, by omega, ((hg1640 a0 13 0 42 hs_a0 (by decide)).trans eq1097), by omega, by omega, ((hg1640 a0 13 0 43 hs_a0 (by decide)).trans eq1098), by omega, by omega, ((hg1640 a0 13 0 44 hs_a0 (by decide)).trans eq1099), by omega, by omega, (fun h => by omega), (by rw [(Eq.trans (xv_m hg1640 hs_wp (by decide) (by decide)) (xv_m hg1096 hs_wp (by decide) (by decide)))]; exact xLow.rf), q1100, q1101, q1102, q1103, q1104, ((hg1640 a0 13 0 20 hs_a0 (by decide)).trans eq1100), ((hg1640 a0 13 0 21 hs_a0 (by decide)).trans eq1101), ((hg1640 a0 13 0 22 hs_a0 (by decide)).trans eq1102), ((hg1640 a0 13 0 23 hs_a0 (by decide)).trans eq1103), ((hg1640 a0 13 0 24 hs_a0 (by decide)).trans eq1104), (by omega), ⟨fun h9 => by omega, (fun _ => xOne.bad (xKo.f4 koq1376 (by omega) (by omega)) (by omega) k1644 (by have h9 := xHd.wr hdq1376; split <;> omega) k1645 hdq1376.2.1 (by omega))⟩⟩⟩ (Nat.le_refl _) (Nat.le_refl _)
          · refine X_aloadn hK (i := 0) 1 dX12_readOne_26 rfl rfl ?_
            refine X_iconst hK dX12_readOne_27 ?_
            refine X_callV hK [.int (iI 1)] [] lk_X12_333 (c3_bad _ _ _ _ _ S g1096 a0 1 q1102 q1101 hs_a0 (by omega) (by omega) eq1102 (by omega) eq1101) hs_a0 ⟨by decide, rfl⟩ dX12_readOne_28 rfl rfl (by simp [Value.category]) (by decide) (by decide) (by decide) (by decide) (fun r1646 S1648 g1647 pr1646 qr1646 hg1647 => ?_)
            obtain ⟨rfl, z1649, rfl, lz1649, uz1649, k1650, k1651, k1652⟩ := pr1646
            refine X_st [.int (iI z1649)] rfl ?_
            exact hret _ _ _ _ _ _ _ dX12_readOne_31 (by omega) (by omega) ⟨rfl, z1649, rfl, (by omega), (by omega), ⟨np, q1097, q1099, q1098, ((hg1647 a0 13 0 41 hs_a0 (by decide)).trans ((hg1096 a0 13 0 41 hs_a0 (by decide)).trans enp)), by omega, by omega, ((hg1647 a0 13 0 42 hs_a0 (by decide)).trans eq1097), by omega, by omega, ((hg1647 a0 13 0 43 hs_a0 (by decide)).trans eq1098), by omega, by omega, ((hg1647 a0 13 0 44 hs_a0 (by decide)).trans eq1099), by omega, by omega, (fun h => by omega), (by rw [(Eq.trans (xv_m hg1647 hs_wp (by decide) (by decide)) (xv_m hg1096 hs_wp (by decide) (by decide)))]; exact xLow.rf), q1100, q1101, q1102, q1103, q1104, ((hg1647 a0 13 0 20 hs_a0 (by decide)).trans eq1100), ((hg1647 a0 13 0 21 hs_a0 (by decide)).trans eq1101), ((hg1647 a0 13 0 22 hs_a0 (by decide)).trans eq1102), ((hg1647 a0 13 0 23 hs_a0 (by decide)).trans eq1103), ((hg1647 a0 13 0 24 hs_a0 (by decide)).trans eq1104), (by omega), ⟨fun h9 => by omega, (fun _ => xOne.bad (xKo.f1 koq1376 (by omega)) (by omega) k1651 (by have h9 := xHd.wr hdq1376; split <;> omega) k1652 hdq1376.2.1 (by omega))⟩⟩⟩ (Nat.le_refl _) (Nat.le_refl _)
  exact P1370 ((50 - no : Int).toNat + 1) g xM.rf nt (by omega) (by omega) ent no (by omega) (by omega) eno nw (by omega) (by omega) enw to (by omega) (by omega) eto fr (by omega) (by omega) efr kd (by omega) (by omega) ekd nm (by omega) (by omega) enm sg (by omega) (by omega) esg hp4 (by omega) ⟨wd, a9, hp1, hp2, hp5⟩ (by omega) (by omega)

set_option maxHeartbeats 4000000 in
set_option maxRecDepth 100000 in
theorem c_X12_readCond (l : Launch) (D : va_G) (kA : Nat → ClassId) (b0 : Nat) (t0 : Nat → Nat) (S : xT) (g : xG) (a0 : Nat) (sz : Int) (to : Int) (fr : Int) (kd : Int) (nm : Int) (sg : Int) (ff : Int) (np : Int) (no : Int) (nw : Int) (y0 : Nat) (wp : Nat) (wl : Nat) (f9 : Int → Int) (wd : Int64) (a9 : Int) (hs_a0 : S a0 = some (13, 0)) (hsz : 0 ≤ sz ∧ sz ≤ 420) (esz : g a0 19 = .int (iI sz)) (hto : 0 ≤ to ∧ to ≤ 420) (eto : g a0 20 = .int (iI to)) (hfr : 0 ≤ fr ∧ fr ≤ 420) (efr : g a0 21 = .int (iI fr)) (hkd : 0 ≤ kd ∧ kd ≤ 4) (ekd : g a0 22 = .int (iI kd)) (hnm : (-2147483648) ≤ nm ∧ nm ≤ 2147483647) (enm : g a0 23 = .int (iI nm)) (hsg : (-2147483648) ≤ sg ∧ sg ≤ 2147483647) (esg : g a0 24 = .int (iI sg)) (hff : (-2147483648) ≤ ff ∧ ff ≤ 2147483647) (eff : g a0 25 = .int (iI ff)) (hnp : 0 ≤ np ∧ np ≤ 120) (enp : g a0 41 = .int (iI np)) (hno : 0 ≤ no ∧ no ≤ 50) (eno : g a0 43 = .int (iI no)) (hnw : 0 ≤ nw ∧ nw ≤ 10) (enw : g a0 44 = .int (iI nw)) (ey0 : g a0 1 = .ref y0) (hs_y0 : S y0 = some (14100, 420)) (ewp : g a0 35 = .ref wp) (hs_wp : S wp = some (15900, 1320)) (ewl : g a0 38 = .ref wl) (hs_wl : S wl = some (16200, 64)) (hp0 : xv g y0 = f9) (hp1 : g a0 28 = .long wd) (hp2 : xHd f9 sz a9 kd nm wd sg fr to) (hp3 : to ≤ sz) (hp4 : np ≤ 2 * no) (hp5 : nw = 0) : xMt l yX12_readCond cX12_readCond 2 (some .boolean) 3 0 0 68 D kA b0 t0 [(13, 42), (13, 25), (13, 26), (13, 43), (13, 21), (13, 22), (13, 20), (13, 24), (13, 28), (13, 23), (15900, 0), (16000, 0), (16100, 0), (13, 41), (13, 44), (16200, 0)] [.ref a0] S g (fun (r : Option Value) (S1 : xT) (g1 : xG) => S = S1 ∧ ∃ z : Int, r = some (.int (iI z)) ∧ 0 ≤ z ∧ z ≤ 1 ∧ (∃ a c d : Int, g1 a0 41 = .int (iI a) ∧ 0 ≤ a ∧ a ≤ 120 ∧ g1 a0 43 = .int (iI d) ∧ 0 ≤ d ∧ d ≤ 50 ∧ g1 a0 44 = .int (iI c) ∧ 0 ≤ c ∧ c ≤ 10 ∧ (z = 1 → np ≤ a ∧ a ≤ 2 * d ∧ xhf (xv g1 wp) (1200 + np) (a - np).toNat ≠ none) ∧ xLow (1200 + np) (xv g1 wp) (xv g wp) ∧ ∃ t1 f1 k1 n1 s1 : Int, g1 a0 20 = .int (iI t1) ∧ g1 a0 21 = .int (iI f1) ∧ g1 a0 22 = .int (iI k1) ∧ g1 a0 23 = .int (iI n1) ∧ g1 a0 24 = .int (iI s1) ∧ (0 ≤ t1 ∧ t1 ≤ sz ∧ 0 ≤ f1 ∧ f1 ≤ 420 ∧ 0 ≤ k1 ∧ k1 ≤ 4 ∧ -2147483648 ≤ n1 ∧ n1 ≤ 2147483647 ∧ -2147483648 ≤ s1 ∧ s1 ≤ 2147483647) ∧ ∃ R8 : xRr9, xQ (xtk f9 sz) 2 1 a9 no [] R8 ∧ xOne g1 a0 f9 sz z k1 n1 s1 f1 t1 ff R8 (fun a8 => R8.1 = 0 ∧ a8 = R8.2.1 ∧ d = R8.2.2.1 ∧ c = 0))) := by
  refine xEnterZ (by decide) (by simp [lg_sl, Value.category]) [(0, .ref a0)] rfl ?_
  intro K E hK hret _ _ _
  refine X_aloadn hK (i := 0) 0 dX12_readCond_0 rfl rfl ?_
  obtain ⟨R9, hR9⟩ := xQ.tot (tk := xtk f9 sz) (50 - no).toNat no (by omega) 2 1 a9 [] (by omega)
  refine X_iconst hK dX12_readCond_1 ?_
  refine X_puti hK fl_X12_316_13 hs_a0 (by decide) sl_13_42 (by omega) (by omega) dX12_readCond_2 (fun g1 hg1 => ?_)
  have P2764 : ∀ (nP2764 : Nat) (g2364 : xG) (_ : xM [(13, 21), (13, 22), (13, 20), (13, 24), (13, 28), (13, 23), (13, 42), (16200, 0), (15900, 0), (16000, 0), (16100, 0), (13, 41), (13, 44), (13, 25), (13, 26), (13, 43)] S g1 g2364) (q2365 : Int) (_ : 0 ≤ q2365) (_ : q2365 ≤ 120) (_ : g2364 a0 41 = .int (iI q2365)) (q2366 : Int) (_ : 0 ≤ q2366) (_ : q2366 ≤ 64) (_ : g2364 a0 42 = .int (iI q2366)) (q2367 : Int) (_ : 0 ≤ q2367) (_ : q2367 ≤ 50) (_ : g2364 a0 43 = .int (iI q2367)) (q2368 : Int) (_ : 0 ≤ q2368) (_ : q2368 ≤ 10) (_ : g2364 a0 44 = .int (iI q2368)) (q2369 : Int) (_ : 0 ≤ q2369) (_ : q2369 ≤ 420) (_ : g2364 a0 20 = .int (iI q2369)) (q2370 : Int) (_ : 0 ≤ q2370) (_ : q2370 ≤ 420) (_ : g2364 a0 21 = .int (iI q2370)) (q2371 : Int) (_ : 0 ≤ q2371) (_ : q2371 ≤ 4) (_ : g2364 a0 22 = .int (iI q2371)) (q2372 : Int) (_ : (-2147483648) ≤ q2372) (_ : q2372 ≤ 2147483647) (_ : g2364 a0 23 = .int (iI q2372)) (q2373 : Int) (_ : (-2147483648) ≤ q2373) (_ : q2373 ≤ 2147483647) (_ : g2364 a0 24 = .int (iI q2373)) (q2374 : Int) (_ : (-2147483648) ≤ q2374) (_ : q2374 ≤ 2147483647) (_ : g2364 a0 25 = .int (iI q2374)) (_ : xRd (xv g2364 wp) (xv g2364 wl) np q2365 q2366 q2367 q2368 1) (_ : xLow (1200 + np) (xv g2364 wp) (xv g wp)) (_ : no ≤ q2367) (_ : xHk g2364 a0 f9 sz q2371 q2372 q2373 q2370 q2369 (fun a8 => xKo (xtk f9 sz) (xv g2364 wl) q2366 q2368 a8 q2367 R9)) (_ : q2369 ≤ sz) (_ : q2374 = ff) (_ : 50 - q2367 < (nP2764 : Int)), X K E 5 [(0, .ref a0)] [] S g2364 0 0 := by
    intro nP2764
    induction nP2764 with
    | zero => intro g2364 hg2364 q2365 lq2365 uq2365 eq2365 q2366 lq2366 uq2366 eq2366 q2367 lq2367 uq2367 eq2367 q2368 lq2368 uq2368 eq2368 q2369 lq2369 uq2369 eq2369 q2370 lq2370 uq2370 eq2370 q2371 lq2371 uq2371 eq2371 q2372 lq2372 uq2372 eq2372 q2373 lq2373 uq2373 eq2373 q2374 lq2374 uq2374 eq2374 v2765 v2766 v2767 v2768 v2769 v2770 mP2764; exact False.elim (by omega)
    | succ nP2764 ihP2764 =>
      intro g2364 hg2364 q2365 lq2365 uq2365 eq2365 q2366 lq2366 uq2366 eq2366 q2367 lq2367 uq2367 eq2367 q2368 lq2368 uq2368 eq2368 q2369 lq2369 uq2369 eq2369 q2370 lq2370 uq2370 eq2370 q2371 lq2371 uq2371 eq2371 q2372 lq2372 uq2372 eq2372 q2373 lq2373 uq2373 eq2373 q2374 lq2374 uq2374 eq2374 v2765 v2766 v2767 v2768 v2769 v2770 mP2764
      refine X_aloadn hK (i := 0) 0 dX12_readCond_5 rfl rfl ?_
      obtain ⟨wq2771, aq2771, eq2771, hdq2771, koq2771⟩ := v2768
      refine X_callV hK [] [] lk_X12_348 (c_X12_readOne _ _ _ _ _ S g2364 a0 sz q2369 q2370 q2371 q2372 q2373 q2374 q2365 q2366 q2367 q2368 y0 wp wl np f9 wq2771 aq2771 R9 hs_a0 (by omega) ((hg2364 a0 13 0 19 hs_a0 (by decide)).trans ((xs_k hg1 (by decide)).trans esz)) (by omega) eq2369 (by omega) eq2370 (by omega) eq2371 (by omega) eq2372 (by omega) eq2373 (by omega) eq2374 (by omega) eq2365 (by omega) eq2366 (by omega) eq2367 (by omega) eq2368 ((hg2364 a0 13 0 1 hs_a0 (by decide)).trans ((xs_k hg1 (by decide)).trans ey0)) hs_y0 ((hg2364 a0 13 0 35 hs_a0 (by decide)).trans ((xs_k hg1 (by decide)).trans ewp)) hs_wp ((hg2364 a0 13 0 38 hs_a0 (by decide)).trans ((xs_k hg1 (by decide)).trans ewl)) hs_wl ((Eq.trans (xv_m hg2364 hs_y0 (by decide) (by decide)) (xv_a hg1 (xne hs_y0 hs_a0 (by decide)))).trans hp0) eq2771 hdq2771 (by omega) v2765 koq2771) hs_a0 ⟨by decide, rfl⟩ dX12_readCond_6 rfl rfl (by simp [Value.category]) (by decide) (by decide) (by decide) (by decide) (fun r2772 S2774 g2773 pr2772 qr2772 hg2773 => ?_)
      obtain ⟨rfl, z2775, rfl, lz2775, uz2775, k2776⟩ := pr2772
      refine X_st [.int (iI z2775)] rfl ?_
      obtain ⟨z2777, z2778, z2779, z2780, ez2777, lz2777, uz2777, ez2778, lz2778, uz2778, ez2780, lz2780, uz2780, ez2779, lz2779, uz2779, Rz2777, oz2777, toz2777, foz2777, koz2777, noz2777, soz2777, etoz2777, efoz2777, ekoz2777, enoz2777, esoz2777, rgoz2777, onz2777⟩ := k2776
      have lw2781 : xLow (1200 + np) (xv g2773 wp) (xv g wp) := xLow.tr v2766 oz2777 (by omega)
      refine X_if_ne hK 14 (by omega) dX12_readCond_9 (by decide) (fun c2782 => ?_) (fun c2782 => ?_)
      · have P3737 : ∀ (nP3737 : Nat) (g3546 : xG) (_ : xM [(13, 42), (13, 44), (15900, 0), (16000, 0), (16100, 0), (13, 41), (13, 21), (13, 22), (13, 20), (13, 24), (13, 28), (13, 23)] S g2773 g3546) (q3547 : Int) (_ : 0 ≤ q3547) (_ : q3547 ≤ 120) (_ : g3546 a0 41 = .int (iI q3547)) (q3548 : Int) (_ : 0 ≤ q3548) (_ : q3548 ≤ 64) (_ : g3546 a0 42 = .int (iI q3548)) (q3549 : Int) (_ : 0 ≤ q3549) (_ : q3549 ≤ 10) (_ : g3546 a0 44 = .int (iI q3549)) (q3550 : Int) (_ : 0 ≤ q3550) (_ : q3550 ≤ 420) (_ : g3546 a0 20 = .int (iI q3550)) (q3551 : Int) (_ : 0 ≤ q3551) (_ : q3551 ≤ 420) (_ : g3546 a0 21 = .int (iI q3551)) (q3552 : Int) (_ : 0 ≤ q3552) (_ : q3552 ≤ 4) (_ : g3546 a0 22 = .int (iI q3552)) (q3553 : Int) (_ : (-2147483648) ≤ q3553) (_ : q3553 ≤ 2147483647) (_ : g3546 a0 23 = .int (iI q3553)) (q3554 : Int) (_ : (-2147483648) ≤ q3554) (_ : q3554 ≤ 2147483647) (_ : g3546 a0 24 = .int (iI q3554)) (_ : xRd (xv g3546 wp) (xv g3546 wl) np q3547 q3548 z2780 q3549 0) (_ : xLow (1200 + np) (xv g3546 wp) (xv g wp)) (_ : no < z2780) (_ : xHk g3546 a0 f9 sz q3552 q3553 q3554 q3551 q3550 (fun a8 => xKs (xtk f9 sz) (xv g3546 wl) q3548 q3549 a8 z2780 R9 ∧ (q3548 = 0 ∨ xv g3546 wl (q3548 - 1) ≠ 12))) (_ : q3550 ≤ sz) (_ : q3548 < (nP3737 : Int)), X K E 14 [(0, .ref a0)] [] S g3546 0 0 := by
          intro nP3737
          induction nP3737 with
          | zero => intro g3546 hg3546 q3547 lq3547 uq3547 eq3547 q3548 lq3548 uq3548 eq3548 q3549 lq3549 uq3549 eq3549 q3550 lq3550 uq3550 eq3550 q3551 lq3551 uq3551 eq3551 q3552 lq3552 uq3552 eq3552 q3553 lq3553 uq3553 eq3553 q3554 lq3554 uq3554 eq3554 v3738 v3739 v3740 v3741 v3742 mP3737; exact False.elim (by omega)
          | succ nP3737 ihP3737 =>
            intro g3546 hg3546 q3547 lq3547 uq3547 eq3547 q3548 lq3548 uq3548 eq3548 q3549 lq3549 uq3549 eq3549 q3550 lq3550 uq3550 eq3550 q3551 lq3551 uq3551 eq3551 q3552 lq3552 uq3552 eq3552 q3553 lq3553 uq3553 eq3553 q3554 lq3554 uq3554 eq3554 v3738 v3739 v3740 v3741 v3742 mP3737
            refine X_aloadn hK (i := 0) 0 dX12_readCond_14 rfl rfl ?_
            have hbh3743 := xRd.bd v3738 (by omega)
            obtain ⟨wq3744, aq3744, eq3744, hdq3744, ksq3744, stq3744⟩ := v3741
            refine X_bipush hK dX12_readCond_15 (by decide) ?_
            refine X_callV hK [.int (iI 41)] [] lk_X12_330 (c3_isSign _ _ _ _ _ S g3546 a0 41 q3552 q3554 hs_a0 (by omega) (by omega) eq3552 (by omega) eq3554) hs_a0 ⟨by decide, rfl⟩ dX12_readCond_17 rfl rfl (by simp [Value.category]) (by decide) (by decide) (by decide) (by decide) (fun r3745 S3747 g3746 pr3745 qr3745 hg3746 => ?_)
            obtain ⟨rfl, rfl, z3748, rfl, lz3748, uz3748, k3749⟩ := pr3745
            refine X_st [.int (iI z3748)] rfl ?_
            have hq3750 : z3748 = 1 ↔ xtk f9 sz aq3744 = 26 := by rw [k3749]; exact (xHd.sg hdq3744 (x := 41) (by omega)).trans (by rw [show xmkc 41 = 26 from by decide])
            refine X_if_eq hK 69 (by omega) dX12_readCond_20 (by decide) (fun c3751 => ?_) (fun c3751 => ?_)
            · refine X_aloadn hK (i := 0) 0 dX12_readCond_69 rfl rfl ?_
              refine X_bipush hK dX12_readCond_70 (by decide) ?_
              refine X_bipush hK dX12_readCond_72 (by decide) ?_
              refine X_bipush hK dX12_readCond_74 (by decide) ?_
              refine X_iconst hK dX12_readCond_76 ?_
              refine X_iconst hK dX12_readCond_77 ?_
              refine X_callS hK [.int (iI 97), .int (iI 110), .int (iI 100), .int (iI 0), .int (iI 0)] [.ref a0] lk_X12_297 (c3_spelt _ _ _ _ _ S g3546 97 110 100 0 0 (by omega) (by omega) (by omega) (by omega) (by omega)) dX12_readCond_78 rfl rfl (by simp [Value.category]) (by decide) (by decide) (by decide) (by decide) (fun r3752 S3754 g3753 pr3752 qr3752 hg3753 => ?_)
              obtain ⟨rfl, rfl, y3755, rfl, k3756⟩ := pr3752
              refine X_st [.long y3755, .ref a0] rfl ?_
              refine X_callV hK [.long y3755] [] lk_X12_301 (c3_isKey _ _ _ _ _ S g3546 a0 y3755 q3552 wq3744 hs_a0 (by omega) eq3552 eq3744) hs_a0 ⟨by decide, rfl⟩ dX12_readCond_81 rfl rfl (by simp [Value.category]) (by decide) (by decide) (by decide) (by decide) (fun r3757 S3759 g3758 pr3757 qr3757 hg3758 => ?_)
              obtain ⟨rfl, rfl, z3760, rfl, lz3760, uz3760, k3761⟩ := pr3757
              refine X_st [.int (iI z3760)] rfl ?_
              have hq3762 : z3760 = 1 ↔ xtk f9 sz aq3744 = 8 := by rw [k3761, k3756, show iL (xspl 97 110 100 0 0) = iL (xvl 8) from by decide +kernel]; exact xHd.key hdq3744 (by omega)
              refine X_istoren hK (i := 1) [(1, .int (iI z3760)), (0, .ref a0)] dX12_readCond_84 rfl (by decide) rfl ?_
              refine X_iloadn hK (i := 1) 0 dX12_readCond_85 rfl rfl ?_
              refine X_if_ne hK 129 (by omega) dX12_readCond_86 (by decide) (fun c3763 => ?_) (fun c3763 => ?_)
              · refine X_aloadn hK (i := 0) 1 dX12_readCond_129 rfl rfl ?_
                refine X_bipush hK dX12_readCond_130 (by decide) ?_
                refine X_iloadn hK (i := 1) 0 dX12_readCond_132 rfl rfl ?_
                refine X_if_eq hK 141 (by omega) dX12_readCond_133 (by decide) (fun c3764 => False.elim (by omega)) (fun c3764 => ?_)
                refine X_bipush hK dX12_readCond_136 (by decide) ?_
                refine X_goto hK 143 dX12_readCond_138 (by decide) ?_
                refine X_callV hK [.int (iI 13), .int (iI 13)] [] lk_X12_354 (c_X12_drop _ _ _ _ _ S g3546 a0 13 13 q3547 q3548 z2780 q3549 wp wl np hs_a0 (by omega) (by omega) (by omega) eq3547 (by omega) eq3548 (by omega) ((hg3546 a0 13 0 43 hs_a0 (by decide)).trans ez2780) (by omega) eq3549 ((hg3546 a0 13 0 35 hs_a0 (by decide)).trans ((hg2773 a0 13 0 35 hs_a0 (by decide)).trans ((hg2364 a0 13 0 35 hs_a0 (by decide)).trans ((xs_k hg1 (by decide)).trans ewp)))) hs_wp ((hg3546 a0 13 0 38 hs_a0 (by decide)).trans ((hg2773 a0 13 0 38 hs_a0 (by decide)).trans ((hg2364 a0 13 0 38 hs_a0 (by decide)).trans ((xs_k hg1 (by decide)).trans ewl)))) hs_wl v3738) hs_a0 ⟨by decide, rfl⟩ dX12_readCond_143 rfl rfl (by simp [Value.category]) (by decide) (by decide) (by decide) (by decide) (fun r3765 S3767 g3766 pr3765 qr3765 hg3766 => ?_)
                obtain ⟨rfl, rfl, k3768⟩ := pr3765
                refine X_st [] rfl ?_
                obtain ⟨z3769, z3770, ez3769, lz3769, uz3769, ez3770, lz3770, uz3770, Rz3769, xz3769, yz3769, oz3769⟩ := k3768
                have hbz3769 := xRd.bd Rz3769 (by omega)
                have lw3771 : xLow (1200 + np) (xv g3766 wp) (xv g wp) := xLow.tr v3739 oz3769 (by omega)
                refine X_aloadn hK (i := 0) 1 dX12_readCond_146 rfl rfl ?_
                refine X_getK hK fl_X12_77_13 hs_a0 ((hg3766 a0 13 0 38 hs_a0 (by decide)).trans ((hg3546 a0 13 0 38 hs_a0 (by decide)).trans ((hg2773 a0 13 0 38 hs_a0 (by decide)).trans ((hg2364 a0 13 0 38 hs_a0 (by decide)).trans ((xs_k hg1 (by decide)).trans ewl))))) dX12_readCond_147 ?_
                refine X_aloadn hK (i := 0) 1 dX12_readCond_150 rfl rfl ?_
                refine X_getK hK fl_X12_316_13 hs_a0 ez3770 dX12_readCond_151 ?_
                refine X_iloadn hK (i := 1) 0 dX12_readCond_154 rfl rfl ?_
                refine X_if_eq hK 163 (by omega) dX12_readCond_155 (by decide) (fun c3772 => False.elim (by omega)) (fun c3772 => ?_)
                refine X_bipush hK dX12_readCond_158 (by decide) ?_
                refine X_goto hK 165 dX12_readCond_160 (by decide) ?_
                refine X_iast hK hs_wl (by decide) (by decide) sl_16200 (by omega) (by omega) (by omega) (by omega) dX12_readCond_165 (fun g3773 hg3773 => ?_)
                refine X_aloadn hK (i := 0) 1 dX12_readCond_166 rfl rfl ?_
                refine X_dup hK dX12_readCond_167 rfl ?_
                refine X_getK hK fl_X12_316_13 hs_a0 ((xs_a hg3773 (xne hs_a0 hs_wl (by decide))).trans ez3770) dX12_readCond_168 ?_
                refine X_iconst hK dX12_readCond_171 ?_
                refine X_iadd hK dX12_readCond_172 ?_
                refine X_puti hK fl_X12_316_13 hs_a0 (by decide) sl_13_42 (by omega) (by omega) dX12_readCond_173 (fun g3774 hg3774 => ?_)
                refine X_aloadn hK (i := 0) 1 dX12_readCond_176 rfl rfl ?_
                refine X_callV hK [] [] lk_X12_342 (c3_go _ _ _ _ _ S g3774 a0 sz q3550 y0 q3553 q3554 hs_a0 (by omega) ((xs_k hg3774 (by decide)).trans ((xs_a hg3773 (xne hs_a0 hs_wl (by decide))).trans ((hg3766 a0 13 0 19 hs_a0 (by decide)).trans ((hg3546 a0 13 0 19 hs_a0 (by decide)).trans ((hg2773 a0 13 0 19 hs_a0 (by decide)).trans ((hg2364 a0 13 0 19 hs_a0 (by decide)).trans ((xs_k hg1 (by decide)).trans esz))))))) (by omega) ((xs_k hg3774 (by decide)).trans ((xs_a hg3773 (xne hs_a0 hs_wl (by decide))).trans ((hg3766 a0 13 0 20 hs_a0 (by decide)).trans eq3550))) ((xs_k hg3774 (by decide)).trans ((xs_a hg3773 (xne hs_a0 hs_wl (by decide))).trans ((hg3766 a0 13 0 1 hs_a0 (by decide)).trans ((hg3546 a0 13 0 1 hs_a0 (by decide)).trans ((hg2773 a0 13 0 1 hs_a0 (by decide)).trans ((hg2364 a0 13 0 1 hs_a0 (by decide)).trans ((xs_k hg1 (by decide)).trans ey0))))))) hs_y0 (by omega) ((xs_k hg3774 (by decide)).trans ((xs_a hg3773 (xne hs_a0 hs_wl (by decide))).trans ((hg3766 a0 13 0 23 hs_a0 (by decide)).trans eq3553))) (by omega) ((xs_k hg3774 (by decide)).trans ((xs_a hg3773 (xne hs_a0 hs_wl (by decide))).trans ((hg3766 a0 13 0 24 hs_a0 (by decide)).trans eq3554))) (by omega)) hs_a0 ⟨by decide, rfl⟩ dX12_readCond_177 rfl rfl (by simp [Value.category]) (by decide) (by decide) (by decide) (by decide) (fun r3775 S3777 g3776 pr3775 qr3775 hg3776 => ?_)
                obtain ⟨rfl, rfl, k3778⟩ := pr3775
                refine X_st [] rfl ?_
                obtain ⟨kt3779, nt3779, st3779, wt3779, ekt3779, ent3779, est3779, ewt3779, lkt3779, eft3779, ett3779, cut3779⟩ := k3778
                obtain ⟨ft3779, hft3779⟩ : ∃ x9 : Int, xplc sz (xskp f9 sz q3550) = x9 := ⟨_, rfl⟩
                obtain ⟨tt3779, htt3779⟩ : ∃ x9 : Int, xed f9 sz (xskp f9 sz q3550) = x9 := ⟨_, rfl⟩
                have bh3780 := xgo.b (f := f9) (n := sz) (to := q3550) ⟨by omega, by omega⟩
                rw [((Eq.trans (Eq.trans (Eq.trans (Eq.trans (Eq.trans (Eq.trans (xv_a hg3774 (xne hs_y0 hs_a0 (by decide))) (xv_a hg3773 (xne hs_y0 hs_wl (by decide)))) (xv_m hg3766 hs_y0 (by decide) (by decide))) (xv_m hg3546 hs_y0 (by decide) (by decide))) (xv_m hg2773 hs_y0 (by decide) (by decide))) (xv_m hg2364 hs_y0 (by decide) (by decide))) (xv_a hg1 (xne hs_y0 hs_a0 (by decide)))).trans hp0)] at eft3779 ett3779 cut3779
                have hdt3779 := xHd.go hdq3744 cut3779
                rw [hft3779] at eft3779 hdt3779 bh3780
                rw [htt3779] at ett3779 hdt3779 bh3780
                refine X_goto hK 5 dX12_readCond_180 (by decide) ?_
                refine X_lv [(0, .ref a0)] [1] rfl ?_
                exact ihP2764  g3776 (xM.tr (xM_up (xM_ua (xM.tr (xM.tr (xM.tr (xM.tr xM.rf xLe.rf hg2364 (by decide)) xLe.rf hg2773 (by decide)) xLe.rf hg3546 (by decide)) xLe.rf hg3766 (by decide)) hg3773 hs_wl (by decide) (by decide)) hg3774 hs_a0 (by decide) (by decide)) xLe.rf hg3776 (by decide)) z3769 (by omega) (by omega) ((hg3776 a0 13 0 41 hs_a0 (by decide)).trans ((xs_k hg3774 (by decide)).trans ((xs_a hg3773 (xne hs_a0 hs_wl (by decide))).trans ez3769))) (z3770 + 1) (by omega) (by omega) ((hg3776 a0 13 0 42 hs_a0 (by decide)).trans (xs_s hg3774)) z2780 (by omega) (by omega) ((hg3776 a0 13 0 43 hs_a0 (by decide)).trans ((xs_k hg3774 (by decide)).trans ((xs_a hg3773 (xne hs_a0 hs_wl (by decide))).trans ((hg3766 a0 13 0 43 hs_a0 (by decide)).trans ((hg3546 a0 13 0 43 hs_a0 (by decide)).trans ez2780))))) q3549 (by omega) (by omega) ((hg3776 a0 13 0 44 hs_a0 (by decide)).trans ((xs_k hg3774 (by decide)).trans ((xs_a hg3773 (xne hs_a0 hs_wl (by decide))).trans ((hg3766 a0 13 0 44 hs_a0 (by decide)).trans eq3549)))) tt3779 (by omega) (by omega) ett3779 ft3779 (by omega) (by omega) eft3779 kt3779 (by omega) (by omega) ekt3779 nt3779 (by omega) (by omega) ent3779 st3779 (by omega) (by omega) est3779 q2374 (by omega) (by omega) ((hg3776 a0 13 0 25 hs_a0 (by decide)).trans ((xs_k hg3774 (by decide)).trans ((xs_a hg3773 (xne hs_a0 hs_wl (by decide))).trans ((hg3766 a0 13 0 25 hs_a0 (by decide)).trans ((hg3546 a0 13 0 25 hs_a0 (by decide)).trans (onz2777.1 (by omega)).1))))) (by rw [(Eq.trans (Eq.trans (xv_m hg3776 hs_wp (by decide) (by decide)) (xv_a hg3774 (xne hs_wp hs_a0 (by decide)))) (xv_a hg3773 (xne hs_wp hs_wl (by decide))))]; exact xRd.and Rz3769 (by omega) (show xv g3776 wl z3770 = 13 from by rw [(xv_m hg3776 hs_wl (by decide) (by decide)), (xv_a hg3774 (xne hs_wl hs_a0 (by decide))), xv_s hg3773 (by omega)]) (fun i9 hi9 h09 => (show xv g3776 wl i9 = xv g3546 wl i9 from by rw [(xv_m hg3776 hs_wl (by decide) (by decide)), (xv_a hg3774 (xne hs_wl hs_a0 (by decide))), (xv_k (i := i9) hg3773 (by omega) (by omega) (by omega)), (xv_m hg3766 hs_wl (by decide) (by decide))]))) (by rw [(Eq.trans (Eq.trans (xv_m hg3776 hs_wp (by decide) (by decide)) (xv_a hg3774 (xne hs_wp hs_a0 (by decide)))) (xv_a hg3773 (xne hs_wp hs_wl (by decide))))]; exact lw3771) (by omega) ⟨wt3779, (aq3744 + 1), ewt3779, hdt3779, (xKs.and ksq3744 stq3744 (by omega) ⟨by omega, by omega⟩ xz3769 yz3769 (show xv g3776 wl z3770 = 13 from by rw [(xv_m hg3776 hs_wl (by decide) (by decide)), (xv_a hg3774 (xne hs_wl hs_a0 (by decide))), xv_s hg3773 (by omega)]) (fun i9 hi9 h09 => (show xv g3776 wl i9 = xv g3546 wl i9 from by rw [(xv_m hg3776 hs_wl (by decide) (by decide)), (xv_a hg3774 (xne hs_wl hs_a0 (by decide))), (xv_k (i := i9) hg3773 (by omega) (by omega) (by omega)), (xv_m hg3766 hs_wl (by decide) (by decide))])))⟩ (by omega) (by omega) (by omega)
              · refine X_aloadn hK (i := 0) 1 dX12_readCond_89 rfl rfl ?_
                refine X_bipush hK dX12_readCond_90 (by decide) ?_
                refine X_bipush hK dX12_readCond_92 (by decide) ?_
                refine X_iconst hK dX12_readCond_94 ?_
                refine X_iconst hK dX12_readCond_95 ?_
                refine X_iconst hK dX12_readCond_96 ?_
                refine X_callS hK [.int (iI 111), .int (iI 114), .int (iI 0), .int (iI 0), .int (iI 0)] [.ref a0] lk_X12_297 (c3_spelt _ _ _ _ _ S g3546 111 114 0 0 0 (by omega) (by omega) (by omega) (by omega) (by omega)) dX12_readCond_97 rfl rfl (by simp [Value.category]) (by decide) (by decide) (by decide) (by decide) (fun r3781 S3783 g3782 pr3781 qr3781 hg3782 => ?_)
                obtain ⟨rfl, rfl, y3784, rfl, k3785⟩ := pr3781
                refine X_st [.long y3784, .ref a0] rfl ?_
                refine X_callV hK [.long y3784] [] lk_X12_301 (c3_isKey _ _ _ _ _ S g3546 a0 y3784 q3552 wq3744 hs_a0 (by omega) eq3552 eq3744) hs_a0 ⟨by decide, rfl⟩ dX12_readCond_100 rfl rfl (by simp [Value.category]) (by decide) (by decide) (by decide) (by decide) (fun r3786 S3788 g3787 pr3786 qr3786 hg3787 => ?_)
                obtain ⟨rfl, rfl, z3789, rfl, lz3789, uz3789, k3790⟩ := pr3786
                refine X_st [.int (iI z3789)] rfl ?_
                have hq3791 : z3789 = 1 ↔ xtk f9 sz aq3744 = 9 := by rw [k3790, k3785, show iL (xspl 111 114 0 0 0) = iL (xvl 9) from by decide +kernel]; exact xHd.key hdq3744 (by omega)
                refine X_if_ne hK 129 (by omega) dX12_readCond_103 (by decide) (fun c3792 => ?_) (fun c3792 => ?_)
                · refine X_aloadn hK (i := 0) 1 dX12_readCond_129 rfl rfl ?_
                  refine X_bipush hK dX12_readCond_130 (by decide) ?_
                  refine X_iloadn hK (i := 1) 0 dX12_readCond_132 rfl rfl ?_
                  refine X_if_eq hK 141 (by omega) dX12_readCond_133 (by decide) (fun c3793 => ?_) (fun c3793 => False.elim (by omega))
                  refine X_bipush hK dX12_readCond_141 (by decide) ?_
                  refine X_callV hK [.int (iI 13), .int (iI 14)] [] lk_X12_354 (c_X12_drop _ _ _ _ _ S g3546 a0 13 14 q3547 q3548 z2780 q3549 wp wl np hs_a0 (by omega) (by omega) (by omega) eq3547 (by omega) eq3548 (by omega) ((hg3546 a0 13 0 43 hs_a0 (by decide)).trans ez2780) (by omega) eq3549 ((hg3546 a0 13 0 35 hs_a0 (by decide)).trans ((hg2773 a0 13 0 35 hs_a0 (by decide)).trans ((hg2364 a0 13 0 35 hs_a0 (by decide)).trans ((xs_k hg1 (by decide)).trans ewp)))) hs_wp ((hg3546 a0 13 0 38 hs_a0 (by decide)).trans ((hg2773 a0 13 0 38 hs_a0 (by decide)).trans ((hg2364 a0 13 0 38 hs_a0 (by decide)).trans ((xs_k hg1 (by decide)).trans ewl)))) hs_wl v3738) hs_a0 ⟨by decide, rfl⟩ dX12_readCond_143 rfl rfl (by simp [Value.category]) (by decide) (by decide) (by decide) (by decide) (fun r3794 S3796 g3795 pr3794 qr3794 hg3795 => ?_)
                  obtain ⟨rfl, rfl, k3797⟩ := pr3794
                  refine X_st [] rfl ?_
                  obtain ⟨z3798, z3799, ez3798, lz3798, uz3798, ez3799, lz3799, uz3799, Rz3798, xz3798, yz3798, oz3798⟩ := k3797
                  have hbz3798 := xRd.bd Rz3798 (by omega)
                  have lw3800 : xLow (1200 + np) (xv g3795 wp) (xv g wp) := xLow.tr v3739 oz3798 (by omega)
                  refine X_aloadn hK (i := 0) 1 dX12_readCond_146 rfl rfl ?_
                  refine X_getK hK fl_X12_77_13 hs_a0 ((hg3795 a0 13 0 38 hs_a0 (by decide)).trans ((hg3546 a0 13 0 38 hs_a0 (by decide)).trans ((hg2773 a0 13 0 38 hs_a0 (by decide)).trans ((hg2364 a0 13 0 38 hs_a0 (by decide)).trans ((xs_k hg1 (by decide)).trans ewl))))) dX12_readCond_147 ?_
                  refine X_aloadn hK (i := 0) 1 dX12_readCond_150 rfl rfl ?_
                  refine X_getK hK fl_X12_316_13 hs_a0 ez3799 dX12_readCond_151 ?_
                  refine X_iloadn hK (i := 1) 0 dX12_readCond_154 rfl rfl ?_
                  refine X_if_eq hK 163 (by omega) dX12_readCond_155 (by decide) (fun c3801 => ?_) (fun c3801 => False.elim (by omega))
                  refine X_bipush hK dX12_readCond_163 (by decide) ?_
                  refine X_iast hK hs_wl (by decide) (by decide) sl_16200 (by omega) (by omega) (by omega) (by omega) dX12_readCond_165 (fun g3802 hg3802 => ?_)
                  refine X_aloadn hK (i := 0) 1 dX12_readCond_166 rfl rfl ?_
                  refine X_dup hK dX12_readCond_167 rfl ?_
                  refine X_getK hK fl_X12_316_13 hs_a0 ((xs_a hg3802 (xne hs_a0 hs_wl (by decide))).trans ez3799) dX12_readCond_168 ?_
                  refine X_iconst hK dX12_readCond_171 ?_
                  refine X_iadd hK dX12_readCond_172 ?_
                  refine X_puti hK fl_X12_316_13 hs_a0 (by decide) sl_13_42 (by omega) (by omega) dX12_readCond_173 (fun g3803 hg3803 => ?_)
                  refine X_aloadn hK (i := 0) 1 dX12_readCond_176 rfl rfl ?_
                  refine X_callV hK [] [] lk_X12_342 (c3_go _ _ _ _ _ S g3803 a0 sz q3550 y0 q3553 q3554 hs_a0 (by omega) ((xs_k hg3803 (by decide)).trans ((xs_a hg3802 (xne hs_a0 hs_wl (by decide))).trans ((hg3795 a0 13 0 19 hs_a0 (by decide)).trans ((hg3546 a0 13 0 19 hs_a0 (by decide)).trans ((hg2773 a0 13 0 19 hs_a0 (by decide)).trans ((hg2364 a0 13 0 19 hs_a0 (by decide)).trans ((xs_k hg1 (by decide)).trans esz))))))) (by omega) ((xs_k hg3803 (by decide)).trans ((xs_a hg3802 (xne hs_a0 hs_wl (by decide))).trans ((hg3795 a0 13 0 20 hs_a0 (by decide)).trans eq3550))) ((xs_k hg3803 (by decide)).trans ((xs_a hg3802 (xne hs_a0 hs_wl (by decide))).trans ((hg3795 a0 13 0 1 hs_a0 (by decide)).trans ((hg3546 a0 13 0 1 hs_a0 (by decide)).trans ((hg2773 a0 13 0 1 hs_a0 (by decide)).trans ((hg2364 a0 13 0 1 hs_a0 (by decide)).trans ((xs_k hg1 (by decide)).trans ey0))))))) hs_y0 (by omega) ((xs_k hg3803 (by decide)).trans ((xs_a hg3802 (xne hs_a0 hs_wl (by decide))).trans ((hg3795 a0 13 0 23 hs_a0 (by decide)).trans eq3553))) (by omega) ((xs_k hg3803 (by decide)).trans ((xs_a hg3802 (xne hs_a0 hs_wl (by decide))).trans ((hg3795 a0 13 0 24 hs_a0 (by decide)).trans eq3554))) (by omega)) hs_a0 ⟨by decide, rfl⟩ dX12_readCond_177 rfl rfl (by simp [Value.category]) (by decide) (by decide) (by decide) (by decide) (fun r3804 S3806 g3805 pr3804 qr3804 hg3805 => ?_)
                  obtain ⟨rfl, rfl, k3807⟩ := pr3804
                  refine X_st [] rfl ?_
                  obtain ⟨kt3808, nt3808, st3808, wt3808, ekt3808, ent3808, est3808, ewt3808, lkt3808, eft3808, ett3808, cut3808⟩ := k3807
                  obtain ⟨ft3808, hft3808⟩ : ∃ x9 : Int, xplc sz (xskp f9 sz q3550) = x9 := ⟨_, rfl⟩
                  obtain ⟨tt3808, htt3808⟩ : ∃ x9 : Int, xed f9 sz (xskp f9 sz q3550) = x9 := ⟨_, rfl⟩
                  have bh3809 := xgo.b (f := f9) (n := sz) (to := q3550) ⟨by omega, by omega⟩
                  rw [((Eq.trans (Eq.trans (Eq.trans (Eq.trans (Eq.trans (Eq.trans (xv_a hg3803 (xne hs_y0 hs_a0 (by decide))) (xv_a hg3802 (xne hs_y0 hs_wl (by decide)))) (xv_m hg3795 hs_y0 (by decide) (by decide))) (xv_m hg3546 hs_y0 (by decide) (by decide))) (xv_m hg2773 hs_y0 (by decide) (by decide))) (xv_m hg2364 hs_y0 (by decide) (by decide))) (xv_a hg1 (xne hs_y0 hs_a0 (by decide)))).trans hp0)] at eft3808 ett3808 cut3808
                  have hdt3808 := xHd.go hdq3744 cut3808
                  rw [hft3808] at eft3808 hdt3808 bh3809
                  rw [htt3808] at ett3808 hdt3808 bh3809
                  refine X_goto hK 5 dX12_readCond_180 (by decide) ?_
                  refine X_lv [(0, .ref a0)] [1] rfl ?_
                  exact ihP2764  g3805 (xM.tr (xM_up (xM_ua (xM.tr (xM.tr (xM.tr (xM.tr xM.rf xLe.rf hg2364 (by decide)) xLe.rf hg2773 (by decide)) xLe.rf hg3546 (by decide)) xLe.rf hg3795 (by decide)) hg3802 hs_wl (by decide) (by decide)) hg3803 hs_a0 (by decide) (by decide)) xLe.rf hg3805 (by decide)) z3798 (by omega) (by omega) ((hg3805 a0 13 0 41 hs_a0 (by decide)).trans ((xs_k hg3803 (by decide)).trans ((xs_a hg3802 (xne hs_a0 hs_wl (by decide))).trans ez3798))) (z3799 + 1) (by omega) (by omega) ((hg3805 a0 13 0 42 hs_a0 (by decide)).trans (xs_s hg3803)) z2780 (by omega) (by omega) ((hg3805 a0 13 0 43 hs_a0 (by decide)).trans ((xs_k hg3803 (by decide)).trans ((xs_a hg3802 (xne hs_a0 hs_wl (by decide))).trans ((hg3795 a0 13 0 43 hs_a0 (by decide)).trans ((hg3546 a0 13 0 43 hs_a0 (by decide)).trans ez2780))))) q3549 (by omega) (by omega) ((hg3805 a0 13 0 44 hs_a0 (by decide)).trans ((xs_k hg3803 (by decide)).trans ((xs_a hg3802 (xne hs_a0 hs_wl (by decide))).trans ((hg3795 a0 13 0 44 hs_a0 (by decide)).trans eq3549)))) tt3808 (by omega) (by omega) ett3808 ft3808 (by omega) (by omega) eft3808 kt3808 (by omega) (by omega) ekt3808 nt3808 (by omega) (by omega) ent3808 st3808 (by omega) (by omega) est3808 q2374 (by omega) (by omega) ((hg3805 a0 13 0 25 hs_a0 (by decide)).trans ((xs_k hg3803 (by decide)).trans ((xs_a hg3802 (xne hs_a0 hs_wl (by decide))).trans ((hg3795 a0 13 0 25 hs_a0 (by decide)).trans ((hg3546 a0 13 0 25 hs_a0 (by decide)).trans (onz2777.1 (by omega)).1))))) (by rw [(Eq.trans (Eq.trans (xv_m hg3805 hs_wp (by decide) (by decide)) (xv_a hg3803 (xne hs_wp hs_a0 (by decide)))) (xv_a hg3802 (xne hs_wp hs_wl (by decide))))]; exact xRd.or Rz3798 (by omega) (show xv g3805 wl z3799 = 14 from by rw [(xv_m hg3805 hs_wl (by decide) (by decide)), (xv_a hg3803 (xne hs_wl hs_a0 (by decide))), xv_s hg3802 (by omega)]) (fun i9 hi9 h09 => (show xv g3805 wl i9 = xv g3546 wl i9 from by rw [(xv_m hg3805 hs_wl (by decide) (by decide)), (xv_a hg3803 (xne hs_wl hs_a0 (by decide))), (xv_k (i := i9) hg3802 (by omega) (by omega) (by omega)), (xv_m hg3795 hs_wl (by decide) (by decide))]))) (by rw [(Eq.trans (Eq.trans (xv_m hg3805 hs_wp (by decide) (by decide)) (xv_a hg3803 (xne hs_wp hs_a0 (by decide)))) (xv_a hg3802 (xne hs_wp hs_wl (by decide))))]; exact lw3800) (by omega) ⟨wt3808, (aq3744 + 1), ewt3808, hdt3808, (xKs.or ksq3744 stq3744 (by omega) ⟨by omega, by omega⟩ xz3798 yz3798 (show xv g3805 wl z3799 = 14 from by rw [(xv_m hg3805 hs_wl (by decide) (by decide)), (xv_a hg3803 (xne hs_wl hs_a0 (by decide))), xv_s hg3802 (by omega)]) (fun i9 hi9 h09 => (show xv g3805 wl i9 = xv g3546 wl i9 from by rw [(xv_m hg3805 hs_wl (by decide) (by decide)), (xv_a hg3803 (xne hs_wl hs_a0 (by decide))), (xv_k (i := i9) hg3802 (by omega) (by omega) (by omega)), (xv_m hg3795 hs_wl (by decide) (by decide))])))⟩ (by omega) (by omega) (by omega)
                · refine X_aloadn hK (i := 0) 1 dX12_readCond_106 rfl rfl ?_
                  refine X_callV hK [] [] lk_X12_351 (c2_isOpen _ _ _ _ _ S g3546 a0 q3548 wl hs_a0 (by omega) eq3548 ((hg3546 a0 13 0 38 hs_a0 (by decide)).trans ((hg2773 a0 13 0 38 hs_a0 (by decide)).trans ((hg2364 a0 13 0 38 hs_a0 (by decide)).trans ((xs_k hg1 (by decide)).trans ewl)))) hs_wl) hs_a0 ⟨by decide, rfl⟩ dX12_readCond_107 rfl rfl (by simp [Value.category]) (by decide) (by decide) (by decide) (by decide) (fun r3810 S3812 g3811 pr3810 qr3810 hg3811 => ?_)
                  obtain ⟨rfl, rfl, z3813, rfl, lz3813, uz3813, k3814, k3815⟩ := pr3810
                  refine X_st [.int (iI z3813)] rfl ?_
                  refine X_if_eq hK 119 (by omega) dX12_readCond_110 (by decide) (fun c3816 => ?_) (fun c3816 => ?_)
                  · refine X_aloadn hK (i := 0) 1 dX12_readCond_119 rfl rfl ?_
                    refine X_bipush hK dX12_readCond_120 (by decide) ?_
                    refine X_bipush hK dX12_readCond_122 (by decide) ?_
                    refine X_callV hK [.int (iI 13), .int (iI 14)] [] lk_X12_354 (c_X12_drop _ _ _ _ _ S g3546 a0 13 14 q3547 q3548 z2780 q3549 wp wl np hs_a0 (by omega) (by omega) (by omega) eq3547 (by omega) eq3548 (by omega) ((hg3546 a0 13 0 43 hs_a0 (by decide)).trans ez2780) (by omega) eq3549 ((hg3546 a0 13 0 35 hs_a0 (by decide)).trans ((hg2773 a0 13 0 35 hs_a0 (by decide)).trans ((hg2364 a0 13 0 35 hs_a0 (by decide)).trans ((xs_k hg1 (by decide)).trans ewp)))) hs_wp ((hg3546 a0 13 0 38 hs_a0 (by decide)).trans ((hg2773 a0 13 0 38 hs_a0 (by decide)).trans ((hg2364 a0 13 0 38 hs_a0 (by decide)).trans ((xs_k hg1 (by decide)).trans ewl)))) hs_wl v3738) hs_a0 ⟨by decide, rfl⟩ dX12_readCond_124 rfl rfl (by simp [Value.category]) (by decide) (by decide) (by decide) (by decide) (fun r3817 S3819 g3818 pr3817 qr3817 hg3818 => ?_)
                    obtain ⟨rfl, rfl, k3820⟩ := pr3817
                    refine X_st [] rfl ?_
                    obtain ⟨z3821, z3822, ez3821, lz3821, uz3821, ez3822, lz3822, uz3822, Rz3821, xz3821, yz3821, oz3821⟩ := k3820
                    have hbz3821 := xRd.bd Rz3821 (by omega)
                    have lw3823 : xLow (1200 + np) (xv g3818 wp) (xv g wp) := xLow.tr v3739 oz3821 (by omega)
                    refine X_iconst hK dX12_readCond_127 ?_
                    exact hret _ _ _ _ _ _ _ dX12_readCond_128 (by omega) (by omega) ⟨rfl, 1, rfl, (by omega), (by omega), ⟨z3821, q3549, z2780, ez3821, by omega, by omega, ((hg3818 a0 13 0 43 hs_a0 (by decide)).trans ((hg3546 a0 13 0 43 hs_a0 (by decide)).trans ez2780)), by omega, by omega, ((hg3818 a0 13 0 44 hs_a0 (by decide)).trans eq3549), by omega, by omega, (fun _ => ⟨by omega, (xRd.fin Rz3821).2, (xRd.fin Rz3821).1⟩), lw3823, q3550, q3551, q3552, q3553, q3554, ((hg3818 a0 13 0 20 hs_a0 (by decide)).trans eq3550), ((hg3818 a0 13 0 21 hs_a0 (by decide)).trans eq3551), ((hg3818 a0 13 0 22 hs_a0 (by decide)).trans eq3552), ((hg3818 a0 13 0 23 hs_a0 (by decide)).trans eq3553), ((hg3818 a0 13 0 24 hs_a0 (by decide)).trans eq3554), (by omega), R9, hR9, ⟨fun _ => ⟨(((hg3818 a0 13 0 25 hs_a0 (by decide)).trans ((hg3546 a0 13 0 25 hs_a0 (by decide)).trans (onz2777.1 (by omega)).1)).trans (congrArg (fun x => Value.int (iI x)) (show q2374 = ff by omega))), ⟨wq3744, aq3744, ((hg3818 a0 13 0 28 hs_a0 (by decide)).trans eq3744), hdq3744, (by have h9 := xKs.fin ksq3744 stq3744 (k3815 (by omega)) (by omega) (by omega); exact ⟨h9.1.1, h9.1.2.1.symm, h9.1.2.2.symm, h9.2⟩)⟩⟩, fun h9 => by omega⟩⟩⟩ (Nat.le_refl _) (Nat.le_refl _)
                  · refine X_aloadn hK (i := 0) 1 dX12_readCond_113 rfl rfl ?_
                    refine X_iconst hK dX12_readCond_114 ?_
                    refine X_callV hK [.int (iI 1)] [] lk_X12_333 (c3_bad _ _ _ _ _ S g3546 a0 1 q3552 q3551 hs_a0 (by omega) (by omega) eq3552 (by omega) eq3551) hs_a0 ⟨by decide, rfl⟩ dX12_readCond_115 rfl rfl (by simp [Value.category]) (by decide) (by decide) (by decide) (by decide) (fun r3824 S3826 g3825 pr3824 qr3824 hg3825 => ?_)
                    obtain ⟨rfl, z3827, rfl, lz3827, uz3827, k3828, k3829, k3830⟩ := pr3824
                    refine X_st [.int (iI z3827)] rfl ?_
                    exact hret _ _ _ _ _ _ _ dX12_readCond_118 (by omega) (by omega) ⟨rfl, z3827, rfl, (by omega), (by omega), ⟨q3547, q3549, z2780, ((hg3825 a0 13 0 41 hs_a0 (by decide)).trans eq3547), by omega, by omega, ((hg3825 a0 13 0 43 hs_a0 (by decide)).trans ((hg3546 a0 13 0 43 hs_a0 (by decide)).trans ez2780)), by omega, by omega, ((hg3825 a0 13 0 44 hs_a0 (by decide)).trans eq3549), by omega, by omega, (fun h => by omega), (by rw [(xv_m hg3825 hs_wp (by decide) (by decide))]; exact v3739), q3550, q3551, q3552, q3553, q3554, ((hg3825 a0 13 0 20 hs_a0 (by decide)).trans eq3550), ((hg3825 a0 13 0 21 hs_a0 (by decide)).trans eq3551), ((hg3825 a0 13 0 22 hs_a0 (by decide)).trans eq3552), ((hg3825 a0 13 0 23 hs_a0 (by decide)).trans eq3553), ((hg3825 a0 13 0 24 hs_a0 (by decide)).trans eq3554), (by omega), R9, hR9, ⟨fun h9 => by omega, (fun _ => xOne.bad (xKs.opn ksq3744 stq3744 (k3814 (by omega)) (by omega) (by omega) (by omega)) (by omega) k3829 (by have h9 := xHd.wr hdq3744; split <;> omega) k3830 hdq3744.2.1 (by omega))⟩⟩⟩ (Nat.le_refl _) (Nat.le_refl _)
            · refine X_aloadn hK (i := 0) 0 dX12_readCond_23 rfl rfl ?_
              refine X_callV hK [] [] lk_X12_351 (c2_isOpen _ _ _ _ _ S g3546 a0 q3548 wl hs_a0 (by omega) eq3548 ((hg3546 a0 13 0 38 hs_a0 (by decide)).trans ((hg2773 a0 13 0 38 hs_a0 (by decide)).trans ((hg2364 a0 13 0 38 hs_a0 (by decide)).trans ((xs_k hg1 (by decide)).trans ewl)))) hs_wl) hs_a0 ⟨by decide, rfl⟩ dX12_readCond_24 rfl rfl (by simp [Value.category]) (by decide) (by decide) (by decide) (by decide) (fun r3831 S3833 g3832 pr3831 qr3831 hg3832 => ?_)
              obtain ⟨rfl, rfl, z3834, rfl, lz3834, uz3834, k3835, k3836⟩ := pr3831
              refine X_st [.int (iI z3834)] rfl ?_
              refine X_if_eq hK 69 (by omega) dX12_readCond_27 (by decide) (fun c3837 => ?_) (fun c3837 => ?_)
              · refine X_aloadn hK (i := 0) 0 dX12_readCond_69 rfl rfl ?_
                refine X_bipush hK dX12_readCond_70 (by decide) ?_
                refine X_bipush hK dX12_readCond_72 (by decide) ?_
                refine X_bipush hK dX12_readCond_74 (by decide) ?_
                refine X_iconst hK dX12_readCond_76 ?_
                refine X_iconst hK dX12_readCond_77 ?_
                refine X_callS hK [.int (iI 97), .int (iI 110), .int (iI 100), .int (iI 0), .int (iI 0)] [.ref a0] lk_X12_297 (c3_spelt _ _ _ _ _ S g3546 97 110 100 0 0 (by omega) (by omega) (by omega) (by omega) (by omega)) dX12_readCond_78 rfl rfl (by simp [Value.category]) (by decide) (by decide) (by decide) (by decide) (fun r3838 S3840 g3839 pr3838 qr3838 hg3839 => ?_)
                obtain ⟨rfl, rfl, y3841, rfl, k3842⟩ := pr3838
                refine X_st [.long y3841, .ref a0] rfl ?_
                refine X_callV hK [.long y3841] [] lk_X12_301 (c3_isKey _ _ _ _ _ S g3546 a0 y3841 q3552 wq3744 hs_a0 (by omega) eq3552 eq3744) hs_a0 ⟨by decide, rfl⟩ dX12_readCond_81 rfl rfl (by simp [Value.category]) (by decide) (by decide) (by decide) (by decide) (fun r3843 S3845 g3844 pr3843 qr3843 hg3844 => ?_)
                obtain ⟨rfl, rfl, z3846, rfl, lz3846, uz3846, k3847⟩ := pr3843
                refine X_st [.int (iI z3846)] rfl ?_
                have hq3848 : z3846 = 1 ↔ xtk f9 sz aq3744 = 8 := by rw [k3847, k3842, show iL (xspl 97 110 100 0 0) = iL (xvl 8) from by decide +kernel]; exact xHd.key hdq3744 (by omega)
                refine X_istoren hK (i := 1) [(1, .int (iI z3846)), (0, .ref a0)] dX12_readCond_84 rfl (by decide) rfl ?_
                refine X_iloadn hK (i := 1) 0 dX12_readCond_85 rfl rfl ?_
                refine X_if_ne hK 129 (by omega) dX12_readCond_86 (by decide) (fun c3849 => ?_) (fun c3849 => ?_)
                · refine X_aloadn hK (i := 0) 1 dX12_readCond_129 rfl rfl ?_
                  refine X_bipush hK dX12_readCond_130 (by decide) ?_
                  refine X_iloadn hK (i := 1) 0 dX12_readCond_132 rfl rfl ?_
                  refine X_if_eq hK 141 (by omega) dX12_readCond_133 (by decide) (fun c3850 => False.elim (by omega)) (fun c3850 => ?_)
                  refine X_bipush hK dX12_readCond_136 (by decide) ?_
                  refine X_goto hK 143 dX12_readCond_138 (by decide) ?_
                  refine X_callV hK [.int (iI 13), .int (iI 13)] [] lk_X12_354 (c_X12_drop _ _ _ _ _ S g3546 a0 13 13 q3547 q3548 z2780 q3549 wp wl np hs_a0 (by omega) (by omega) (by omega) eq3547 (by omega) eq3548 (by omega) ((hg3546 a0 13 0 43 hs_a0 (by decide)).trans ez2780) (by omega) eq3549 ((hg3546 a0 13 0 35 hs_a0 (by decide)).trans ((hg2773 a0 13 0 35 hs_a0 (by decide)).trans ((hg2364 a0 13 0 35 hs_a0 (by decide)).trans ((xs_k hg1 (by decide)).trans ewp)))) hs_wp ((hg3546 a0 13 0 38 hs_a0 (by decide)).trans ((hg2773 a0 13 0 38 hs_a0 (by decide)).trans ((hg2364 a0 13 0 38 hs_a0 (by decide)).trans ((xs_k hg1 (by decide)).trans ewl)))) hs_wl v3738) hs_a0 ⟨by decide, rfl⟩ dX12_readCond_143 rfl rfl (by simp [Value.category]) (by decide) (by decide) (by decide) (by decide) (fun r3851 S3853 g3852 pr3851 qr3851 hg3852 => ?_)
                  obtain ⟨rfl, rfl, k3854⟩ := pr3851
                  refine X_st [] rfl ?_
                  obtain ⟨z3855, z3856, ez3855, lz3855, uz3855, ez3856, lz3856, uz3856, Rz3855, xz3855, yz3855, oz3855⟩ := k3854
                  have hbz3855 := xRd.bd Rz3855 (by omega)
                  have lw3857 : xLow (1200 + np) (xv g3852 wp) (xv g wp) := xLow.tr v3739 oz3855 (by omega)
                  refine X_aloadn hK (i := 0) 1 dX12_readCond_146 rfl rfl ?_
                  refine X_getK hK fl_X12_77_13 hs_a0 ((hg3852 a0 13 0 38 hs_a0 (by decide)).trans ((hg3546 a0 13 0 38 hs_a0 (by decide)).trans ((hg2773 a0 13 0 38 hs_a0 (by decide)).trans ((hg2364 a0 13 0 38 hs_a0 (by decide)).trans ((xs_k hg1 (by decide)).trans ewl))))) dX12_readCond_147 ?_
                  refine X_aloadn hK (i := 0) 1 dX12_readCond_150 rfl rfl ?_
                  refine X_getK hK fl_X12_316_13 hs_a0 ez3856 dX12_readCond_151 ?_
                  refine X_iloadn hK (i := 1) 0 dX12_readCond_154 rfl rfl ?_
                  refine X_if_eq hK 163 (by omega) dX12_readCond_155 (by decide) (fun c3858 => False.elim (by omega)) (fun c3858 => ?_)
                  refine X_bipush hK dX12_readCond_158 (by decide) ?_
                  refine X_goto hK 165 dX12_readCond_160 (by decide) ?_
                  refine X_iast hK hs_wl (by decide) (by decide) sl_16200 (by omega) (by omega) (by omega) (by omega) dX12_readCond_165 (fun g3859 hg3859 => ?_)
                  refine X_aloadn hK (i := 0) 1 dX12_readCond_166 rfl rfl ?_
                  refine X_dup hK dX12_readCond_167 rfl ?_
                  refine X_getK hK fl_X12_316_13 hs_a0 ((xs_a hg3859 (xne hs_a0 hs_wl (by decide))).trans ez3856) dX12_readCond_168 ?_
                  refine X_iconst hK dX12_readCond_171 ?_
                  refine X_iadd hK dX12_readCond_172 ?_
                  refine X_puti hK fl_X12_316_13 hs_a0 (by decide) sl_13_42 (by omega) (by omega) dX12_readCond_173 (fun g3860 hg3860 => ?_)
                  refine X_aloadn hK (i := 0) 1 dX12_readCond_176 rfl rfl ?_
                  refine X_callV hK [] [] lk_X12_342 (c3_go _ _ _ _ _ S g3860 a0 sz q3550 y0 q3553 q3554 hs_a0 (by omega) ((xs_k hg3860 (by decide)).trans ((xs_a hg3859 (xne hs_a0 hs_wl (by decide))).trans ((hg3852 a0 13 0 19 hs_a0 (by decide)).trans ((hg3546 a0 13 0 19 hs_a0 (by decide)).trans ((hg2773 a0 13 0 19 hs_a0 (by decide)).trans ((hg2364 a0 13 0 19 hs_a0 (by decide)).trans ((xs_k hg1 (by decide)).trans esz))))))) (by omega) ((xs_k hg3860 (by decide)).trans ((xs_a hg3859 (xne hs_a0 hs_wl (by decide))).trans ((hg3852 a0 13 0 20 hs_a0 (by decide)).trans eq3550))) ((xs_k hg3860 (by decide)).trans ((xs_a hg3859 (xne hs_a0 hs_wl (by decide))).trans ((hg3852 a0 13 0 1 hs_a0 (by decide)).trans ((hg3546 a0 13 0 1 hs_a0 (by decide)).trans ((hg2773 a0 13 0 1 hs_a0 (by decide)).trans ((hg2364 a0 13 0 1 hs_a0 (by decide)).trans ((xs_k hg1 (by decide)).trans ey0))))))) hs_y0 (by omega) ((xs_k hg3860 (by decide)).trans ((xs_a hg3859 (xne hs_a0 hs_wl (by decide))).trans ((hg3852 a0 13 0 23 hs_a0 (by decide)).trans eq3553))) (by omega) ((xs_k hg3860 (by decide)).trans ((xs_a hg3859 (xne hs_a0 hs_wl (by decide))).trans ((hg3852 a0 13 0 24 hs_a0 (by decide)).trans eq3554))) (by omega)) hs_a0 ⟨by decide, rfl⟩ dX12_readCond_177 rfl rfl (by simp [Value.category]) (by decide) (by decide) (by decide) (by decide) (fun r3861 S3863 g3862 pr3861 qr3861 hg3862 => ?_)
                  obtain ⟨rfl, rfl, k3864⟩ := pr3861
                  refine X_st [] rfl ?_
                  obtain ⟨kt3865, nt3865, st3865, wt3865, ekt3865, ent3865, est3865, ewt3865, lkt3865, eft3865, ett3865, cut3865⟩ := k3864
                  obtain ⟨ft3865, hft3865⟩ : ∃ x9 : Int, xplc sz (xskp f9 sz q3550) = x9 := ⟨_, rfl⟩
                  obtain ⟨tt3865, htt3865⟩ : ∃ x9 : Int, xed f9 sz (xskp f9 sz q3550) = x9 := ⟨_, rfl⟩
                  have bh3866 := xgo.b (f := f9) (n := sz) (to := q3550) ⟨by omega, by omega⟩
                  rw [((Eq.trans (Eq.trans (Eq.trans (Eq.trans (Eq.trans (Eq.trans (xv_a hg3860 (xne hs_y0 hs_a0 (by decide))) (xv_a hg3859 (xne hs_y0 hs_wl (by decide)))) (xv_m hg3852 hs_y0 (by decide) (by decide))) (xv_m hg3546 hs_y0 (by decide) (by decide))) (xv_m hg2773 hs_y0 (by decide) (by decide))) (xv_m hg2364 hs_y0 (by decide) (by decide))) (xv_a hg1 (xne hs_y0 hs_a0 (by decide)))).trans hp0)] at eft3865 ett3865 cut3865
                  have hdt3865 := xHd.go hdq3744 cut3865
                  rw [hft3865] at eft3865 hdt3865 bh3866
                  rw [htt3865] at ett3865 hdt3865 bh3866
                  refine X_goto hK 5 dX12_readCond_180 (by decide) ?_
                  refine X_lv [(0, .ref a0)] [1] rfl ?_
                  exact ihP2764  g3862 (xM.tr (xM_up (xM_ua (xM.tr (xM.tr (xM.tr (xM.tr xM.rf xLe.rf hg2364 (by decide)) xLe.rf hg2773 (by decide)) xLe.rf hg3546 (by decide)) xLe.rf hg3852 (by decide)) hg3859 hs_wl (by decide) (by decide)) hg3860 hs_a0 (by decide) (by decide)) xLe.rf hg3862 (by decide)) z3855 (by omega) (by omega) ((hg3862 a0 13 0 41 hs_a0 (by decide)).trans ((xs_k hg3860 (by decide)).trans ((xs_a hg3859 (xne hs_a0 hs_wl (by decide))).trans ez3855))) (z3856 + 1) (by omega) (by omega) ((hg3862 a0 13 0 42 hs_a0 (by decide)).trans (xs_s hg3860)) z2780 (by omega) (by omega) ((hg3862 a0 13 0 43 hs_a0 (by decide)).trans ((xs_k hg3860 (by decide)).trans ((xs_a hg3859 (xne hs_a0 hs_wl (by decide))).trans ((hg3852 a0 13 0 43 hs_a0 (by decide)).trans ((hg3546 a0 13 0 43 hs_a0 (by decide)).trans ez2780))))) q3549 (by omega) (by omega) ((hg3862 a0 13 0 44 hs_a0 (by decide)).trans ((xs_k hg3860 (by decide)).trans ((xs_a hg3859 (xne hs_a0 hs_wl (by decide))).trans ((hg3852 a0 13 0 44 hs_a0 (by decide)).trans eq3549)))) tt3865 (by omega) (by omega) ett3865 ft3865 (by omega) (by omega) eft3865 kt3865 (by omega) (by omega) ekt3865 nt3865 (by omega) (by omega) ent3865 st3865 (by omega) (by omega) est3865 q2374 (by omega) (by omega) ((hg3862 a0 13 0 25 hs_a0 (by decide)).trans ((xs_k hg3860 (by decide)).trans ((xs_a hg3859 (xne hs_a0 hs_wl (by decide))).trans ((hg3852 a0 13 0 25 hs_a0 (by decide)).trans ((hg3546 a0 13 0 25 hs_a0 (by decide)).trans (onz2777.1 (by omega)).1))))) (by rw [(Eq.trans (Eq.trans (xv_m hg3862 hs_wp (by decide) (by decide)) (xv_a hg3860 (xne hs_wp hs_a0 (by decide)))) (xv_a hg3859 (xne hs_wp hs_wl (by decide))))]; exact xRd.and Rz3855 (by omega) (show xv g3862 wl z3856 = 13 from by rw [(xv_m hg3862 hs_wl (by decide) (by decide)), (xv_a hg3860 (xne hs_wl hs_a0 (by decide))), xv_s hg3859 (by omega)]) (fun i9 hi9 h09 => (show xv g3862 wl i9 = xv g3546 wl i9 from by rw [(xv_m hg3862 hs_wl (by decide) (by decide)), (xv_a hg3860 (xne hs_wl hs_a0 (by decide))), (xv_k (i := i9) hg3859 (by omega) (by omega) (by omega)), (xv_m hg3852 hs_wl (by decide) (by decide))]))) (by rw [(Eq.trans (Eq.trans (xv_m hg3862 hs_wp (by decide) (by decide)) (xv_a hg3860 (xne hs_wp hs_a0 (by decide)))) (xv_a hg3859 (xne hs_wp hs_wl (by decide))))]; exact lw3857) (by omega) ⟨wt3865, (aq3744 + 1), ewt3865, hdt3865, (xKs.and ksq3744 stq3744 (by omega) ⟨by omega, by omega⟩ xz3855 yz3855 (show xv g3862 wl z3856 = 13 from by rw [(xv_m hg3862 hs_wl (by decide) (by decide)), (xv_a hg3860 (xne hs_wl hs_a0 (by decide))), xv_s hg3859 (by omega)]) (fun i9 hi9 h09 => (show xv g3862 wl i9 = xv g3546 wl i9 from by rw [(xv_m hg3862 hs_wl (by decide) (by decide)), (xv_a hg3860 (xne hs_wl hs_a0 (by decide))), (xv_k (i := i9) hg3859 (by omega) (by omega) (by omega)), (xv_m hg3852 hs_wl (by decide) (by decide))])))⟩ (by omega) (by omega) (by omega)
                · refine X_aloadn hK (i := 0) 1 dX12_readCond_89 rfl rfl ?_
                  refine X_bipush hK dX12_readCond_90 (by decide) ?_
                  refine X_bipush hK dX12_readCond_92 (by decide) ?_
                  refine X_iconst hK dX12_readCond_94 ?_
                  refine X_iconst hK dX12_readCond_95 ?_
                  refine X_iconst hK dX12_readCond_96 ?_
                  refine X_callS hK [.int (iI 111), .int (iI 114), .int (iI 0), .int (iI 0), .int (iI 0)] [.ref a0] lk_X12_297 (c3_spelt _ _ _ _ _ S g3546 111 114 0 0 0 (by omega) (by omega) (by omega) (by omega) (by omega)) dX12_readCond_97 rfl rfl (by simp [Value.category]) (by decide) (by decide) (by decide) (by decide) (fun r3867 S3869 g3868 pr3867 qr3867 hg3868 => ?_)
                  obtain ⟨rfl, rfl, y3870, rfl, k3871⟩ := pr3867
                  refine X_st [.long y3870, .ref a0] rfl ?_
                  refine X_callV hK [.long y3870] [] lk_X12_301 (c3_isKey _ _ _ _ _ S g3546 a0 y3870 q3552 wq3744 hs_a0 (by omega) eq3552 eq3744) hs_a0 ⟨by decide, rfl⟩ dX12_readCond_100 rfl rfl (by simp [Value.category]) (by decide) (by decide) (by decide) (by decide) (fun r3872 S3874 g3873 pr3872 qr3872 hg3873 => ?_)
                  obtain ⟨rfl, rfl, z3875, rfl, lz3875, uz3875, k3876⟩ := pr3872
                  refine X_st [.int (iI z3875)] rfl ?_
                  have hq3877 : z3875 = 1 ↔ xtk f9 sz aq3744 = 9 := by rw [k3876, k3871, show iL (xspl 111 114 0 0 0) = iL (xvl 9) from by decide +kernel]; exact xHd.key hdq3744 (by omega)
                  refine X_if_ne hK 129 (by omega) dX12_readCond_103 (by decide) (fun c3878 => ?_) (fun c3878 => ?_)
                  · refine X_aloadn hK (i := 0) 1 dX12_readCond_129 rfl rfl ?_
                    refine X_bipush hK dX12_readCond_130 (by decide) ?_
                    refine X_iloadn hK (i := 1) 0 dX12_readCond_132 rfl rfl ?_
                    refine X_if_eq hK 141 (by omega) dX12_readCond_133 (by decide) (fun c3879 => ?_) (fun c3879 => False.elim (by omega))
                    refine X_bipush hK dX12_readCond_141 (by decide) ?_
                    refine X_callV hK [.int (iI 13), .int (iI 14)] [] lk_X12_354 (c_X12_drop _ _ _ _ _ S g3546 a0 13 14 q3547 q3548 z2780 q3549 wp wl np hs_a0 (by omega) (by omega) (by omega) eq3547 (by omega) eq3548 (by omega) ((hg3546 a0 13 0 43 hs_a0 (by decide)).trans ez2780) (by omega) eq3549 ((hg3546 a0 13 0 35 hs_a0 (by decide)).trans ((hg2773 a0 13 0 35 hs_a0 (by decide)).trans ((hg2364 a0 13 0 35 hs_a0 (by decide)).trans ((xs_k hg1 (by decide)).trans ewp)))) hs_wp ((hg3546 a0 13 0 38 hs_a0 (by decide)).trans ((hg2773 a0 13 0 38 hs_a0 (by decide)).trans ((hg2364 a0 13 0 38 hs_a0 (by decide)).trans ((xs_k hg1 (by decide)).trans ewl)))) hs_wl v3738) hs_a0 ⟨by decide, rfl⟩ dX12_readCond_143 rfl rfl (by simp [Value.category]) (by decide) (by decide) (by decide) (by decide) (fun r3880 S3882 g3881 pr3880 qr3880 hg3881 => ?_)
                    obtain ⟨rfl, rfl, k3883⟩ := pr3880
                    refine X_st [] rfl ?_
                    obtain ⟨z3884, z3885, ez3884, lz3884, uz3884, ez3885, lz3885, uz3885, Rz3884, xz3884, yz3884, oz3884⟩ := k3883
                    have hbz3884 := xRd.bd Rz3884 (by omega)
                    have lw3886 : xLow (1200 + np) (xv g3881 wp) (xv g wp) := xLow.tr v3739 oz3884 (by omega)
                    refine X_aloadn hK (i := 0) 1 dX12_readCond_146 rfl rfl ?_
                    refine X_getK hK fl_X12_77_13 hs_a0 ((hg3881 a0 13 0 38 hs_a0 (by decide)).trans ((hg3546 a0 13 0 38 hs_a0 (by decide)).trans ((hg2773 a0 13 0 38 hs_a0 (by decide)).trans ((hg2364 a0 13 0 38 hs_a0 (by decide)).trans ((xs_k hg1 (by decide)).trans ewl))))) dX12_readCond_147 ?_
                    refine X_aloadn hK (i := 0) 1 dX12_readCond_150 rfl rfl ?_
                    refine X_getK hK fl_X12_316_13 hs_a0 ez3885 dX12_readCond_151 ?_
                    refine X_iloadn hK (i := 1) 0 dX12_readCond_154 rfl rfl ?_
                    refine X_if_eq hK 163 (by omega) dX12_readCond_155 (by decide) (fun c3887 => ?_) (fun c3887 => False.elim (by omega))
                    refine X_bipush hK dX12_readCond_163 (by decide) ?_
                    refine X_iast hK hs_wl (by decide) (by decide) sl_16200 (by omega) (by omega) (by omega) (by omega) dX12_readCond_165 (fun g3888 hg3888 => ?_)
                    refine X_aloadn hK (i := 0) 1 dX12_readCond_166 rfl rfl ?_
                    refine X_dup hK dX12_readCond_167 rfl ?_
                    refine X_getK hK fl_X12_316_13 hs_a0 ((xs_a hg3888 (xne hs_a0 hs_wl (by decide))).trans ez3885) dX12_readCond_168 ?_
                    refine X_iconst hK dX12_readCond_171 ?_
                    refine X_iadd hK dX12_readCond_172 ?_
                    refine X_puti hK fl_X12_316_13 hs_a0 (by decide) sl_13_42 (by omega) (by omega) dX12_readCond_173 (fun g3889 hg3889 => ?_)
                    refine X_aloadn hK (i := 0) 1 dX12_readCond_176 rfl rfl ?_
                    refine X_callV hK [] [] lk_X12_342 (c3_go _ _ _ _ _ S g3889 a0 sz q3550 y0 q3553 q3554 hs_a0 (by omega) ((xs_k hg3889 (by decide)).trans ((xs_a hg3888 (xne hs_a0 hs_wl (by decide))).trans ((hg3881 a0 13 0 19 hs_a0 (by decide)).trans ((hg3546 a0 13 0 19 hs_a0 (by decide)).trans ((hg2773 a0 13 0 19 hs_a0 (by decide)).trans ((hg2364 a0 13 0 19 hs_a0 (by decide)).trans ((xs_k hg1 (by decide)).trans esz))))))) (by omega) ((xs_k hg3889 (by decide)).trans ((xs_a hg3888 (xne hs_a0 hs_wl (by decide))).trans ((hg3881 a0 13 0 20 hs_a0 (by decide)).trans eq3550))) ((xs_k hg3889 (by decide)).trans ((xs_a hg3888 (xne hs_a0 hs_wl (by decide))).trans ((hg3881 a0 13 0 1 hs_a0 (by decide)).trans ((hg3546 a0 13 0 1 hs_a0 (by decide)).trans ((hg2773 a0 13 0 1 hs_a0 (by decide)).trans ((hg2364 a0 13 0 1 hs_a0 (by decide)).trans ((xs_k hg1 (by decide)).trans ey0))))))) hs_y0 (by omega) ((xs_k hg3889 (by decide)).trans ((xs_a hg3888 (xne hs_a0 hs_wl (by decide))).trans ((hg3881 a0 13 0 23 hs_a0 (by decide)).trans eq3553))) (by omega) ((xs_k hg3889 (by decide)).trans ((xs_a hg3888 (xne hs_a0 hs_wl (by decide))).trans ((hg3881 a0 13 0 24 hs_a0 (by decide)).trans eq3554))) (by omega)) hs_a0 ⟨by decide, rfl⟩ dX12_readCond_177 rfl rfl (by simp [Value.category]) (by decide) (by decide) (by decide) (by decide) (fun r3890 S3892 g3891 pr3890 qr3890 hg3891 => ?_)
                    obtain ⟨rfl, rfl, k3893⟩ := pr3890
                    refine X_st [] rfl ?_
                    obtain ⟨kt3894, nt3894, st3894, wt3894, ekt3894, ent3894, est3894, ewt3894, lkt3894, eft3894, ett3894, cut3894⟩ := k3893
                    obtain ⟨ft3894, hft3894⟩ : ∃ x9 : Int, xplc sz (xskp f9 sz q3550) = x9 := ⟨_, rfl⟩
                    obtain ⟨tt3894, htt3894⟩ : ∃ x9 : Int, xed f9 sz (xskp f9 sz q3550) = x9 := ⟨_, rfl⟩
                    have bh3895 := xgo.b (f := f9) (n := sz) (to := q3550) ⟨by omega, by omega⟩
                    rw [((Eq.trans (Eq.trans (Eq.trans (Eq.trans (Eq.trans (Eq.trans (xv_a hg3889 (xne hs_y0 hs_a0 (by decide))) (xv_a hg3888 (xne hs_y0 hs_wl (by decide)))) (xv_m hg3881 hs_y0 (by decide) (by decide))) (xv_m hg3546 hs_y0 (by decide) (by decide))) (xv_m hg2773 hs_y0 (by decide) (by decide))) (xv_m hg2364 hs_y0 (by decide) (by decide))) (xv_a hg1 (xne hs_y0 hs_a0 (by decide)))).trans hp0)] at eft3894 ett3894 cut3894
                    have hdt3894 := xHd.go hdq3744 cut3894
                    rw [hft3894] at eft3894 hdt3894 bh3895
                    rw [htt3894] at ett3894 hdt3894 bh3895
                    refine X_goto hK 5 dX12_readCond_180 (by decide) ?_
                    refine X_lv [(0, .ref a0)] [1] rfl ?_
                    exact ihP2764  g3891 (xM.tr (xM_up (xM_ua (xM.tr (xM.tr (xM.tr (xM.tr xM.rf xLe.rf hg2364 (by decide)) xLe.rf hg2773 (by decide)) xLe.rf hg3546 (by decide)) xLe.rf hg3881 (by decide)) hg3888 hs_wl (by decide) (by decide)) hg3889 hs_a0 (by decide) (by decide)) xLe.rf hg3891 (by decide)) z3884 (by omega) (by omega) ((hg3891 a0 13 0 41 hs_a0 (by decide)).trans ((xs_k hg3889 (by decide)).trans ((xs_a hg3888 (xne hs_a0 hs_wl (by decide))).trans ez3884))) (z3885 + 1) (by omega) (by omega) ((hg3891 a0 13 0 42 hs_a0 (by decide)).trans (xs_s hg3889)) z2780 (by omega) (by omega) ((hg3891 a0 13 0 43 hs_a0 (by decide)).trans ((xs_k hg3889 (by decide)).trans ((xs_a hg3888 (xne hs_a0 hs_wl (by decide))).trans ((hg3881 a0 13 0 43 hs_a0 (by decide)).trans ((hg3546 a0 13 0 43 hs_a0 (by decide)).trans ez2780))))) q3549 (by omega) (by omega) ((hg3891 a0 13 0 44 hs_a0 (by decide)).trans ((xs_k hg3889 (by decide)).trans ((xs_a hg3888 (xne hs_a0 hs_wl (by decide))).trans ((hg3881 a0 13 0 44 hs_a0 (by decide)).trans eq3549)))) tt3894 (by omega) (by omega) ett3894 ft3894 (by omega) (by omega) eft3894 kt3894 (by omega) (by omega) ekt3894 nt3894 (by omega) (by omega) ent3894 st3894 (by omega) (by omega) est3894 q2374 (by omega) (by omega) ((hg3891 a0 13 0 25 hs_a0 (by decide)).trans ((xs_k hg3889 (by decide)).trans ((xs_a hg3888 (xne hs_a0 hs_wl (by decide))).trans ((hg3881 a0 13 0 25 hs_a0 (by decide)).trans ((hg3546 a0 13 0 25 hs_a0 (by decide)).trans (onz2777.1 (by omega)).1))))) (by rw [(Eq.trans (Eq.trans (xv_m hg3891 hs_wp (by decide) (by decide)) (xv_a hg3889 (xne hs_wp hs_a0 (by decide)))) (xv_a hg3888 (xne hs_wp hs_wl (by decide))))]; exact xRd.or Rz3884 (by omega) (show xv g3891 wl z3885 = 14 from by rw [(xv_m hg3891 hs_wl (by decide) (by decide)), (xv_a hg3889 (xne hs_wl hs_a0 (by decide))), xv_s hg3888 (by omega)]) (fun i9 hi9 h09 => (show xv g3891 wl i9 = xv g3546 wl i9 from by rw [(xv_m hg3891 hs_wl (by decide) (by decide)), (xv_a hg3889 (xne hs_wl hs_a0 (by decide))), (xv_k (i := i9) hg3888 (by omega) (by omega) (by omega)), (xv_m hg3881 hs_wl (by decide) (by decide))]))) (by rw [(Eq.trans (Eq.trans (xv_m hg3891 hs_wp (by decide) (by decide)) (xv_a hg3889 (xne hs_wp hs_a0 (by decide)))) (xv_a hg3888 (xne hs_wp hs_wl (by decide))))]; exact lw3886) (by omega) ⟨wt3894, (aq3744 + 1), ewt3894, hdt3894, (xKs.or ksq3744 stq3744 (by omega) ⟨by omega, by omega⟩ xz3884 yz3884 (show xv g3891 wl z3885 = 14 from by rw [(xv_m hg3891 hs_wl (by decide) (by decide)), (xv_a hg3889 (xne hs_wl hs_a0 (by decide))), xv_s hg3888 (by omega)]) (fun i9 hi9 h09 => (show xv g3891 wl i9 = xv g3546 wl i9 from by rw [(xv_m hg3891 hs_wl (by decide) (by decide)), (xv_a hg3889 (xne hs_wl hs_a0 (by decide))), (xv_k (i := i9) hg3888 (by omega) (by omega) (by omega)), (xv_m hg3881 hs_wl (by decide) (by decide))])))⟩ (by omega) (by omega) (by omega)
                  · refine X_aloadn hK (i := 0) 1 dX12_readCond_106 rfl rfl ?_
                    refine X_callV hK [] [] lk_X12_351 (c2_isOpen _ _ _ _ _ S g3546 a0 q3548 wl hs_a0 (by omega) eq3548 ((hg3546 a0 13 0 38 hs_a0 (by decide)).trans ((hg2773 a0 13 0 38 hs_a0 (by decide)).trans ((hg2364 a0 13 0 38 hs_a0 (by decide)).trans ((xs_k hg1 (by decide)).trans ewl)))) hs_wl) hs_a0 ⟨by decide, rfl⟩ dX12_readCond_107 rfl rfl (by simp [Value.category]) (by decide) (by decide) (by decide) (by decide) (fun r3896 S3898 g3897 pr3896 qr3896 hg3897 => ?_)
                    obtain ⟨rfl, rfl, z3899, rfl, lz3899, uz3899, k3900, k3901⟩ := pr3896
                    refine X_st [.int (iI z3899)] rfl ?_
                    refine X_if_eq hK 119 (by omega) dX12_readCond_110 (by decide) (fun c3902 => ?_) (fun c3902 => ?_)
                    · refine X_aloadn hK (i := 0) 1 dX12_readCond_119 rfl rfl ?_
                      refine X_bipush hK dX12_readCond_120 (by decide) ?_
                      refine X_bipush hK dX12_readCond_122 (by decide) ?_
                      refine X_callV hK [.int (iI 13), .int (iI 14)] [] lk_X12_354 (c_X12_drop _ _ _ _ _ S g3546 a0 13 14 q3547 q3548 z2780 q3549 wp wl np hs_a0 (by omega) (by omega) (by omega) eq3547 (by omega) eq3548 (by omega) ((hg3546 a0 13 0 43 hs_a0 (by decide)).trans ez2780) (by omega) eq3549 ((hg3546 a0 13 0 35 hs_a0 (by decide)).trans ((hg2773 a0 13 0 35 hs_a0 (by decide)).trans ((hg2364 a0 13 0 35 hs_a0 (by decide)).trans ((xs_k hg1 (by decide)).trans ewp)))) hs_wp ((hg3546 a0 13 0 38 hs_a0 (by decide)).trans ((hg2773 a0 13 0 38 hs_a0 (by decide)).trans ((hg2364 a0 13 0 38 hs_a0 (by decide)).trans ((xs_k hg1 (by decide)).trans ewl)))) hs_wl v3738) hs_a0 ⟨by decide, rfl⟩ dX12_readCond_124 rfl rfl (by simp [Value.category]) (by decide) (by decide) (by decide) (by decide) (fun r3903 S3905 g3904 pr3903 qr3903 hg3904 => ?_)
                      obtain ⟨rfl, rfl, k3906⟩ := pr3903
                      refine X_st [] rfl ?_
                      obtain ⟨z3907, z3908, ez3907, lz3907, uz3907, ez3908, lz3908, uz3908, Rz3907, xz3907, yz3907, oz3907⟩ := k3906
                      have hbz3907 := xRd.bd Rz3907 (by omega)
                      have lw3909 : xLow (1200 + np) (xv g3904 wp) (xv g wp) := xLow.tr v3739 oz3907 (by omega)
                      refine X_iconst hK dX12_readCond_127 ?_
                      exact hret _ _ _ _ _ _ _ dX12_readCond_128 (by omega) (by omega) ⟨rfl, 1, rfl, (by omega), (by omega), ⟨z3907, q3549, z2780, ez3907, by omega, by omega, ((hg3904 a0 13 0 43 hs_a0 (by decide)).trans ((hg3546 a0 13 0 43 hs_a0 (by decide)).trans ez2780)), by omega, by omega, ((hg3904 a0 13 0 44 hs_a0 (by decide)).trans eq3549), by omega, by omega, (fun _ => ⟨by omega, (xRd.fin Rz3907).2, (xRd.fin Rz3907).1⟩), lw3909, q3550, q3551, q3552, q3553, q3554, ((hg3904 a0 13 0 20 hs_a0 (by decide)).trans eq3550), ((hg3904 a0 13 0 21 hs_a0 (by decide)).trans eq3551), ((hg3904 a0 13 0 22 hs_a0 (by decide)).trans eq3552), ((hg3904 a0 13 0 23 hs_a0 (by decide)).trans eq3553), ((hg3904 a0 13 0 24 hs_a0 (by decide)).trans eq3554), (by omega), R9, hR9, ⟨fun _ => ⟨(((hg3904 a0 13 0 25 hs_a0 (by decide)).trans ((hg3546 a0 13 0 25 hs_a0 (by decide)).trans (onz2777.1 (by omega)).1)).trans (congrArg (fun x => Value.int (iI x)) (show q2374 = ff by omega))), ⟨wq3744, aq3744, ((hg3904 a0 13 0 28 hs_a0 (by decide)).trans eq3744), hdq3744, (by have h9 := xKs.fin ksq3744 stq3744 (k3901 (by omega)) (by omega) (by omega); exact ⟨h9.1.1, h9.1.2.1.symm, h9.1.2.2.symm, h9.2⟩)⟩⟩, fun h9 => by omega⟩⟩⟩ (Nat.le_refl _) (Nat.le_refl _)
                    · refine X_aloadn hK (i := 0) 1 dX12_readCond_113 rfl rfl ?_
                      refine X_iconst hK dX12_readCond_114 ?_
                      refine X_callV hK [.int (iI 1)] [] lk_X12_333 (c3_bad _ _ _ _ _ S g3546 a0 1 q3552 q3551 hs_a0 (by omega) (by omega) eq3552 (by omega) eq3551) hs_a0 ⟨by decide, rfl⟩ dX12_readCond_115 rfl rfl (by simp [Value.category]) (by decide) (by decide) (by decide) (by decide) (fun r3910 S3912 g3911 pr3910 qr3910 hg3911 => ?_)
                      obtain ⟨rfl, z3913, rfl, lz3913, uz3913, k3914, k3915, k3916⟩ := pr3910
                      refine X_st [.int (iI z3913)] rfl ?_
                      exact hret _ _ _ _ _ _ _ dX12_readCond_118 (by omega) (by omega) ⟨rfl, z3913, rfl, (by omega), (by omega), ⟨q3547, q3549, z2780, ((hg3911 a0 13 0 41 hs_a0 (by decide)).trans eq3547), by omega, by omega, ((hg3911 a0 13 0 43 hs_a0 (by decide)).trans ((hg3546 a0 13 0 43 hs_a0 (by decide)).trans ez2780)), by omega, by omega, ((hg3911 a0 13 0 44 hs_a0 (by decide)).trans eq3549), by omega, by omega, (fun h => by omega), (by rw [(xv_m hg3911 hs_wp (by decide) (by decide))]; exact v3739), q3550, q3551, q3552, q3553, q3554, ((hg3911 a0 13 0 20 hs_a0 (by decide)).trans eq3550), ((hg3911 a0 13 0 21 hs_a0 (by decide)).trans eq3551), ((hg3911 a0 13 0 22 hs_a0 (by decide)).trans eq3552), ((hg3911 a0 13 0 23 hs_a0 (by decide)).trans eq3553), ((hg3911 a0 13 0 24 hs_a0 (by decide)).trans eq3554), (by omega), R9, hR9, ⟨fun h9 => by omega, (fun _ => xOne.bad (xKs.opn ksq3744 stq3744 (k3900 (by omega)) (by omega) (by omega) (fun _ => k3836 (by omega) (k3900 (by omega)))) (by omega) k3915 (by have h9 := xHd.wr hdq3744; split <;> omega) k3916 hdq3744.2.1 (by omega))⟩⟩⟩ (Nat.le_refl _) (Nat.le_refl _)
              · refine X_aloadn hK (i := 0) 0 dX12_readCond_30 rfl rfl ?_
                refine X_bipush hK dX12_readCond_31 (by decide) ?_
                refine X_bipush hK dX12_readCond_33 (by decide) ?_
                refine X_callV hK [.int (iI 13), .int (iI 14)] [] lk_X12_354 (c_X12_drop _ _ _ _ _ S g3546 a0 13 14 q3547 q3548 z2780 q3549 wp wl np hs_a0 (by omega) (by omega) (by omega) eq3547 (by omega) eq3548 (by omega) ((hg3546 a0 13 0 43 hs_a0 (by decide)).trans ez2780) (by omega) eq3549 ((hg3546 a0 13 0 35 hs_a0 (by decide)).trans ((hg2773 a0 13 0 35 hs_a0 (by decide)).trans ((hg2364 a0 13 0 35 hs_a0 (by decide)).trans ((xs_k hg1 (by decide)).trans ewp)))) hs_wp ((hg3546 a0 13 0 38 hs_a0 (by decide)).trans ((hg2773 a0 13 0 38 hs_a0 (by decide)).trans ((hg2364 a0 13 0 38 hs_a0 (by decide)).trans ((xs_k hg1 (by decide)).trans ewl)))) hs_wl v3738) hs_a0 ⟨by decide, rfl⟩ dX12_readCond_35 rfl rfl (by simp [Value.category]) (by decide) (by decide) (by decide) (by decide) (fun r3917 S3919 g3918 pr3917 qr3917 hg3918 => ?_)
                obtain ⟨rfl, rfl, k3920⟩ := pr3917
                refine X_st [] rfl ?_
                obtain ⟨z3921, z3922, ez3921, lz3921, uz3921, ez3922, lz3922, uz3922, Rz3921, xz3921, yz3921, oz3921⟩ := k3920
                have hbz3921 := xRd.bd Rz3921 (by omega)
                have lw3923 : xLow (1200 + np) (xv g3918 wp) (xv g wp) := xLow.tr v3739 oz3921 (by omega)
                have hph3924 : 1 ≤ z3922 := by obtain ⟨k9, h1, h2, h3⟩ := k3835 (by omega); rcases (show k9 < z3922 ∨ z3922 ≤ k9 by omega) with c9 | c9 <;> first | omega | (have h9 := yz3921 k9 c9 (by omega); omega)
                have R3925 : xRd (xv g3918 wp) (xv g3546 wl) np z3921 (z3922 - 1) z2780 (q3549 - 1) 0 := xRd.paren Rz3921 (by omega) (by omega)
                have hbR3925 := xRd.bd R3925 (by omega)
                have sh3926 : 1 ≤ z3922 ∧ xKs (xtk f9 sz) (xv g3546 wl) (z3922 - 1) (q3549 - 1) (aq3744 + 1) z2780 R9 := xKs.shut ksq3744 stq3744 (k3835 (by omega)) (by omega) ⟨by omega, by omega⟩ xz3921 yz3921
                refine X_aloadn hK (i := 0) 0 dX12_readCond_38 rfl rfl ?_
                refine X_dup hK dX12_readCond_39 rfl ?_
                refine X_getK hK fl_X12_316_13 hs_a0 ez3922 dX12_readCond_40 ?_
                refine X_iconst hK dX12_readCond_43 ?_
                refine X_isub hK dX12_readCond_44 ?_
                refine X_puti hK fl_X12_316_13 hs_a0 (by decide) sl_13_42 (by omega) (by omega) dX12_readCond_45 (fun g3927 hg3927 => ?_)
                refine X_aloadn hK (i := 0) 0 dX12_readCond_48 rfl rfl ?_
                refine X_dup hK dX12_readCond_49 rfl ?_
                refine X_getK hK fl_X12_339_13 hs_a0 ((xs_k hg3927 (by decide)).trans ((hg3918 a0 13 0 44 hs_a0 (by decide)).trans eq3549)) dX12_readCond_50 ?_
                refine X_iconst hK dX12_readCond_53 ?_
                refine X_isub hK dX12_readCond_54 ?_
                refine X_puti hK fl_X12_339_13 hs_a0 (by decide) sl_13_44 (by omega) (by omega) dX12_readCond_55 (fun g3928 hg3928 => ?_)
                refine X_aloadn hK (i := 0) 0 dX12_readCond_58 rfl rfl ?_
                refine X_callV hK [] [] lk_X12_342 (c3_go _ _ _ _ _ S g3928 a0 sz q3550 y0 q3553 q3554 hs_a0 (by omega) ((xs_k hg3928 (by decide)).trans ((xs_k hg3927 (by decide)).trans ((hg3918 a0 13 0 19 hs_a0 (by decide)).trans ((hg3546 a0 13 0 19 hs_a0 (by decide)).trans ((hg2773 a0 13 0 19 hs_a0 (by decide)).trans ((hg2364 a0 13 0 19 hs_a0 (by decide)).trans ((xs_k hg1 (by decide)).trans esz))))))) (by omega) ((xs_k hg3928 (by decide)).trans ((xs_k hg3927 (by decide)).trans ((hg3918 a0 13 0 20 hs_a0 (by decide)).trans eq3550))) ((xs_k hg3928 (by decide)).trans ((xs_k hg3927 (by decide)).trans ((hg3918 a0 13 0 1 hs_a0 (by decide)).trans ((hg3546 a0 13 0 1 hs_a0 (by decide)).trans ((hg2773 a0 13 0 1 hs_a0 (by decide)).trans ((hg2364 a0 13 0 1 hs_a0 (by decide)).trans ((xs_k hg1 (by decide)).trans ey0))))))) hs_y0 (by omega) ((xs_k hg3928 (by decide)).trans ((xs_k hg3927 (by decide)).trans ((hg3918 a0 13 0 23 hs_a0 (by decide)).trans eq3553))) (by omega) ((xs_k hg3928 (by decide)).trans ((xs_k hg3927 (by decide)).trans ((hg3918 a0 13 0 24 hs_a0 (by decide)).trans eq3554))) (by omega)) hs_a0 ⟨by decide, rfl⟩ dX12_readCond_59 rfl rfl (by simp [Value.category]) (by decide) (by decide) (by decide) (by decide) (fun r3929 S3931 g3930 pr3929 qr3929 hg3930 => ?_)
                obtain ⟨rfl, rfl, k3932⟩ := pr3929
                refine X_st [] rfl ?_
                obtain ⟨kt3933, nt3933, st3933, wt3933, ekt3933, ent3933, est3933, ewt3933, lkt3933, eft3933, ett3933, cut3933⟩ := k3932
                obtain ⟨ft3933, hft3933⟩ : ∃ x9 : Int, xplc sz (xskp f9 sz q3550) = x9 := ⟨_, rfl⟩
                obtain ⟨tt3933, htt3933⟩ : ∃ x9 : Int, xed f9 sz (xskp f9 sz q3550) = x9 := ⟨_, rfl⟩
                have bh3934 := xgo.b (f := f9) (n := sz) (to := q3550) ⟨by omega, by omega⟩
                rw [((Eq.trans (Eq.trans (Eq.trans (Eq.trans (Eq.trans (Eq.trans (xv_a hg3928 (xne hs_y0 hs_a0 (by decide))) (xv_a hg3927 (xne hs_y0 hs_a0 (by decide)))) (xv_m hg3918 hs_y0 (by decide) (by decide))) (xv_m hg3546 hs_y0 (by decide) (by decide))) (xv_m hg2773 hs_y0 (by decide) (by decide))) (xv_m hg2364 hs_y0 (by decide) (by decide))) (xv_a hg1 (xne hs_y0 hs_a0 (by decide)))).trans hp0)] at eft3933 ett3933 cut3933
                have hdt3933 := xHd.go hdq3744 cut3933
                rw [hft3933] at eft3933 hdt3933 bh3934
                rw [htt3933] at ett3933 hdt3933 bh3934
                refine X_aloadn hK (i := 0) 0 dX12_readCond_62 rfl rfl ?_
                refine X_callV hK [] [] lk_X12_345 (c_X12_dropNots _ _ _ _ _ S g3930 a0 z3921 (z3922 - 1) z2780 (q3549 - 1) wp wl np hs_a0 (by omega) ((hg3930 a0 13 0 41 hs_a0 (by decide)).trans ((xs_k hg3928 (by decide)).trans ((xs_k hg3927 (by decide)).trans ez3921))) (by omega) ((hg3930 a0 13 0 42 hs_a0 (by decide)).trans ((xs_k hg3928 (by decide)).trans (xs_s hg3927))) (by omega) ((hg3930 a0 13 0 43 hs_a0 (by decide)).trans ((xs_k hg3928 (by decide)).trans ((xs_k hg3927 (by decide)).trans ((hg3918 a0 13 0 43 hs_a0 (by decide)).trans ((hg3546 a0 13 0 43 hs_a0 (by decide)).trans ez2780))))) (by omega) ((hg3930 a0 13 0 44 hs_a0 (by decide)).trans (xs_s hg3928)) ((hg3930 a0 13 0 35 hs_a0 (by decide)).trans ((xs_k hg3928 (by decide)).trans ((xs_k hg3927 (by decide)).trans ((hg3918 a0 13 0 35 hs_a0 (by decide)).trans ((hg3546 a0 13 0 35 hs_a0 (by decide)).trans ((hg2773 a0 13 0 35 hs_a0 (by decide)).trans ((hg2364 a0 13 0 35 hs_a0 (by decide)).trans ((xs_k hg1 (by decide)).trans ewp)))))))) hs_wp ((hg3930 a0 13 0 38 hs_a0 (by decide)).trans ((xs_k hg3928 (by decide)).trans ((xs_k hg3927 (by decide)).trans ((hg3918 a0 13 0 38 hs_a0 (by decide)).trans ((hg3546 a0 13 0 38 hs_a0 (by decide)).trans ((hg2773 a0 13 0 38 hs_a0 (by decide)).trans ((hg2364 a0 13 0 38 hs_a0 (by decide)).trans ((xs_k hg1 (by decide)).trans ewl)))))))) hs_wl (by rw [(Eq.trans (Eq.trans (xv_m hg3930 hs_wp (by decide) (by decide)) (xv_a hg3928 (xne hs_wp hs_a0 (by decide)))) (xv_a hg3927 (xne hs_wp hs_a0 (by decide)))), (Eq.trans (Eq.trans (Eq.trans (xv_m hg3930 hs_wl (by decide) (by decide)) (xv_a hg3928 (xne hs_wl hs_a0 (by decide)))) (xv_a hg3927 (xne hs_wl hs_a0 (by decide)))) (xv_m hg3918 hs_wl (by decide) (by decide)))]; exact R3925)) hs_a0 ⟨by decide, rfl⟩ dX12_readCond_63 rfl rfl (by simp [Value.category]) (by decide) (by decide) (by decide) (by decide) (fun r3935 S3937 g3936 pr3935 qr3935 hg3936 => ?_)
                obtain ⟨rfl, rfl, k3938⟩ := pr3935
                refine X_st [] rfl ?_
                obtain ⟨z3939, z3940, z3941, ez3939, lz3939, uz3939, ez3940, lz3940, uz3940, ez3941, lz3941, uz3941, Rz3939, oz3939, cz3939, pz3939, vz3939⟩ := k3938
                have hbz3939 := xRd.bd Rz3939 (by omega)
                have lw3942 : xLow (1200 + np) (xv g3936 wp) (xv g wp) := xLow.tr (by rw [(Eq.trans (Eq.trans (xv_m hg3930 hs_wp (by decide) (by decide)) (xv_a hg3928 (xne hs_wp hs_a0 (by decide)))) (xv_a hg3927 (xne hs_wp hs_a0 (by decide))))]; exact lw3923) oz3939 (by omega)
                refine X_goto hK 14 dX12_readCond_66 (by decide) ?_
                exact ihP3737  g3936 (xM.tr (xM.tr (xM_up (xM_up (xM.tr (xM.tr xM.rf xLe.rf hg3546 (by decide)) xLe.rf hg3918 (by decide)) hg3927 hs_a0 (by decide) (by decide)) hg3928 hs_a0 (by decide) (by decide)) xLe.rf hg3930 (by decide)) xLe.rf hg3936 (by decide)) z3939 (by omega) (by omega) ez3939 z3940 (by omega) (by omega) ez3940 z3941 (by omega) (by omega) ez3941 tt3933 (by omega) (by omega) ((hg3936 a0 13 0 20 hs_a0 (by decide)).trans ett3933) ft3933 (by omega) (by omega) ((hg3936 a0 13 0 21 hs_a0 (by decide)).trans eft3933) kt3933 (by omega) (by omega) ((hg3936 a0 13 0 22 hs_a0 (by decide)).trans ekt3933) nt3933 (by omega) (by omega) ((hg3936 a0 13 0 23 hs_a0 (by decide)).trans ent3933) st3933 (by omega) (by omega) ((hg3936 a0 13 0 24 hs_a0 (by decide)).trans est3933) (by rw [(xv_m hg3936 hs_wl (by decide) (by decide))]; exact Rz3939) lw3942 (by omega) ⟨wt3933, (aq3744 + 1), ((hg3936 a0 13 0 28 hs_a0 (by decide)).trans ewt3933), hdt3933, (by rw [(xv_m hg3936 hs_wl (by decide) (by decide))]; exact ⟨(by have h9 := xKs.nots ((z3922 - 1) - z3940).toNat (z3922 - 1) (q3549 - 1) (by omega) (by omega) (by rw [(Eq.trans (Eq.trans (Eq.trans (xv_m hg3930 hs_wl (by decide) (by decide)) (xv_a hg3928 (xne hs_wl hs_a0 (by decide)))) (xv_a hg3927 (xne hs_wl hs_a0 (by decide)))) (xv_m hg3918 hs_wl (by decide) (by decide)))]; exact sh3926.2) vz3939; rw [← cz3939] at h9; exact h9), pz3939⟩)⟩ (by omega) (by omega)
        exact P3737 ((z2778 : Int).toNat + 1) g2773 xM.rf z2777 (by omega) (by omega) ez2777 z2778 (by omega) (by omega) ez2778 z2779 (by omega) (by omega) ez2779 toz2777 (by omega) (by omega) etoz2777 foz2777 (by omega) (by omega) efoz2777 koz2777 (by omega) (by omega) ekoz2777 noz2777 (by omega) (by omega) enoz2777 soz2777 (by omega) (by omega) esoz2777 (Rz2777 (by omega)).1 lw2781 (by have h9 := (Rz2777 (by omega)).2; omega) ((onz2777).1 (by omega)).2 (by omega) (by omega)
      · refine X_iconst hK dX12_readCond_12 ?_
        exact hret _ _ _ _ _ _ _ dX12_readCond_13 (by omega) (by omega) ⟨rfl, 0, rfl, (by omega), (by omega), ⟨z2777, z2779, z2780, ez2777, by omega, by omega, ez2780, by omega, by omega, ez2779, by omega, by omega, (fun h => by omega), lw2781, toz2777, foz2777, koz2777, noz2777, soz2777, etoz2777, efoz2777, ekoz2777, enoz2777, esoz2777, (by omega), R9, hR9, ⟨fun h9 => by omega, fun h9 => onz2777.2 (by omega)⟩⟩⟩ (Nat.le_refl _) (Nat.le_refl _)
  exact P2764 ((50 - no : Int).toNat + 1) g1 xM.rf np (by omega) (by omega) ((xs_k hg1 (by decide)).trans enp) 0 (by omega) (by omega) (xs_s hg1) no (by omega) (by omega) ((xs_k hg1 (by decide)).trans eno) nw (by omega) (by omega) ((xs_k hg1 (by decide)).trans enw) to (by omega) (by omega) ((xs_k hg1 (by decide)).trans eto) fr (by omega) (by omega) ((xs_k hg1 (by decide)).trans efr) kd (by omega) (by omega) ((xs_k hg1 (by decide)).trans ekd) nm (by omega) (by omega) ((xs_k hg1 (by decide)).trans enm) sg (by omega) (by omega) ((xs_k hg1 (by decide)).trans esg) ff (by omega) (by omega) ((xs_k hg1 (by decide)).trans eff) (xRd.start (by omega) (by omega) (by omega) (by omega) (by omega)) (by rw [(xv_a hg1 (xne hs_wp hs_a0 (by decide)))]; exact xLow.rf) (by omega) ⟨wd, a9, ((xs_k hg1 (by decide)).trans hp1), hp2, xKo.start hR9 rfl (by omega)⟩ (by omega) (by omega) (by omega)
