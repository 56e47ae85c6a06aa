theorem m_8_21 : Cond.fieldLink RX12 68 "PaperBoysModel" "piece" "[I" ∈ wsL_law := ch_8 _ (List.mem_of_getElem? (i := 21) rfl)
theorem m_8_22 : Cond.fieldLink RX12 71 "PaperBoysModel" "pieceSign" "[I" ∈ wsL_law := ch_8 _ (List.mem_of_getElem? (i := 22) rfl)
theorem m_8_23 : Cond.fieldLink RX12 74 "PaperBoysModel" "pieceNumber" "[I" ∈ wsL_law := ch_8 _ (List.mem_of_getElem? (i := 23) rfl)
theorem m_9_0 : Cond.fieldLink RX12 77 "PaperBoysModel" "pile" "[I" ∈ wsL_law := ch_9 _ (List.mem_of_getElem? (i := 0) rfl)
theorem m_28_10 : Cond.fieldLink RX12 313 "PaperBoysModel" "pieces" "I" ∈ wsL_law := ch_28 _ (List.mem_of_getElem? (i := 10) rfl)
theorem m_28_18 : Cond.fieldLink RX12 336 "PaperBoysModel" "ones" "I" ∈ wsL_law := ch_28 _ (List.mem_of_getElem? (i := 18) rfl)
theorem m_28_19 : Cond.fieldLink RX12 339 "PaperBoysModel" "within" "I" ∈ wsL_law := ch_28 _ (List.mem_of_getElem? (i := 19) rfl)
theorem m_28_22 : Cond.methodLink RX12 342 yX12_go ∈ wsL_law := ch_28 _ (List.mem_of_getElem? (i := 22) rfl)
theorem m_28_23 : Cond.instanceMethod yX12_go ∈ wsL_law := ch_28 _ (List.mem_of_getElem? (i := 23) rfl)
theorem m_29_0 : Cond.selects RX12 yX12_go yX12_go ∈ wsL_law := ch_29 _ (List.mem_of_getElem? (i := 0) rfl)
theorem m_29_1 : Cond.code yX12_go cX12_go 5 none ∈ wsL_law := ch_29 _ (List.mem_of_getElem? (i := 1) rfl)
theorem m_30_12 : Cond.methodLink RX12 333 yX12_bad ∈ wsL_law := ch_30 _ (List.mem_of_getElem? (i := 12) rfl)
theorem m_30_13 : Cond.instanceMethod yX12_bad ∈ wsL_law := ch_30 _ (List.mem_of_getElem? (i := 13) rfl)
theorem m_30_14 : Cond.selects RX12 yX12_bad yX12_bad ∈ wsL_law := ch_30 _ (List.mem_of_getElem? (i := 14) rfl)
theorem m_30_15 : Cond.code yX12_bad cX12_bad 2 (some .boolean) ∈ wsL_law := ch_30 _ (List.mem_of_getElem? (i := 15) rfl)
theorem m_30_16 : Cond.methodLink RX12 326 yX12_isNot ∈ wsL_law := ch_30 _ (List.mem_of_getElem? (i := 16) rfl)
theorem m_30_17 : Cond.instanceMethod yX12_isNot ∈ wsL_law := ch_30 _ (List.mem_of_getElem? (i := 17) rfl)
theorem m_30_18 : Cond.selects RX12 yX12_isNot yX12_isNot ∈ wsL_law := ch_30 _ (List.mem_of_getElem? (i := 18) rfl)
theorem m_30_19 : Cond.code yX12_isNot cX12_isNot 1 (some .boolean) ∈ wsL_law := ch_30 _ (List.mem_of_getElem? (i := 19) rfl)
theorem m_31_0 : Cond.fieldLink RX12 316 "PaperBoysModel" "top" "I" ∈ wsL_law := ch_31 _ (List.mem_of_getElem? (i := 0) rfl)
theorem m_31_1 : Cond.methodLink RX12 348 yX12_readOne ∈ wsL_law := ch_31 _ (List.mem_of_getElem? (i := 1) rfl)
theorem m_31_2 : Cond.instanceMethod yX12_readOne ∈ wsL_law := ch_31 _ (List.mem_of_getElem? (i := 2) rfl)
theorem m_31_3 : Cond.selects RX12 yX12_readOne yX12_readOne ∈ wsL_law := ch_31 _ (List.mem_of_getElem? (i := 3) rfl)
theorem m_31_4 : Cond.code yX12_readOne cX12_readOne 3 (some .boolean) ∈ wsL_law := ch_31 _ (List.mem_of_getElem? (i := 4) rfl)
theorem m_31_5 : Cond.methodLink RX12 323 yX12_atom ∈ wsL_law := ch_31 _ (List.mem_of_getElem? (i := 5) rfl)
theorem m_31_6 : Cond.instanceMethod yX12_atom ∈ wsL_law := ch_31 _ (List.mem_of_getElem? (i := 6) rfl)
theorem m_31_7 : Cond.selects RX12 yX12_atom yX12_atom ∈ wsL_law := ch_31 _ (List.mem_of_getElem? (i := 7) rfl)
theorem m_31_8 : Cond.code yX12_atom cX12_atom 1 (some .int) ∈ wsL_law := ch_31 _ (List.mem_of_getElem? (i := 8) rfl)
theorem m_31_13 : Cond.methodLink RX12 330 yX12_isSign ∈ wsL_law := ch_31 _ (List.mem_of_getElem? (i := 13) rfl)
theorem m_31_14 : Cond.instanceMethod yX12_isSign ∈ wsL_law := ch_31 _ (List.mem_of_getElem? (i := 14) rfl)
theorem m_31_15 : Cond.selects RX12 yX12_isSign yX12_isSign ∈ wsL_law := ch_31 _ (List.mem_of_getElem? (i := 15) rfl)
theorem m_31_16 : Cond.code yX12_isSign cX12_isSign 2 (some .boolean) ∈ wsL_law := ch_31 _ (List.mem_of_getElem? (i := 16) rfl)
theorem m_31_17 : Cond.methodLink RX12 319 yX12_emit ∈ wsL_law := ch_31 _ (List.mem_of_getElem? (i := 17) rfl)
theorem m_31_18 : Cond.instanceMethod yX12_emit ∈ wsL_law := ch_31 _ (List.mem_of_getElem? (i := 18) rfl)
theorem m_31_19 : Cond.selects RX12 yX12_emit yX12_emit ∈ wsL_law := ch_31 _ (List.mem_of_getElem? (i := 19) rfl)
theorem m_31_20 : Cond.code yX12_emit cX12_emit 5 none ∈ wsL_law := ch_31 _ (List.mem_of_getElem? (i := 20) rfl)
theorem m_31_21 : Cond.methodLink RX12 345 yX12_dropNots ∈ wsL_law := ch_31 _ (List.mem_of_getElem? (i := 21) rfl)
theorem m_31_22 : Cond.instanceMethod yX12_dropNots ∈ wsL_law := ch_31 _ (List.mem_of_getElem? (i := 22) rfl)
theorem m_31_23 : Cond.selects RX12 yX12_dropNots yX12_dropNots ∈ wsL_law := ch_31 _ (List.mem_of_getElem? (i := 23) rfl)
theorem m_32_0 : Cond.code yX12_dropNots cX12_dropNots 1 none ∈ wsL_law := ch_32 _ (List.mem_of_getElem? (i := 0) rfl)
theorem m_32_1 : Cond.methodLink RX12 351 yX12_isOpen ∈ wsL_law := ch_32 _ (List.mem_of_getElem? (i := 1) rfl)
theorem m_32_2 : Cond.instanceMethod yX12_isOpen ∈ wsL_law := ch_32 _ (List.mem_of_getElem? (i := 2) rfl)
theorem m_32_3 : Cond.selects RX12 yX12_isOpen yX12_isOpen ∈ wsL_law := ch_32 _ (List.mem_of_getElem? (i := 3) rfl)
theorem m_32_4 : Cond.code yX12_isOpen cX12_isOpen 2 (some .boolean) ∈ wsL_law := ch_32 _ (List.mem_of_getElem? (i := 4) rfl)
theorem m_32_5 : Cond.methodLink RX12 354 yX12_drop ∈ wsL_law := ch_32 _ (List.mem_of_getElem? (i := 5) rfl)
theorem m_32_6 : Cond.instanceMethod yX12_drop ∈ wsL_law := ch_32 _ (List.mem_of_getElem? (i := 6) rfl)
theorem m_32_7 : Cond.selects RX12 yX12_drop yX12_drop ∈ wsL_law := ch_32 _ (List.mem_of_getElem? (i := 7) rfl)
theorem m_32_8 : Cond.code yX12_drop cX12_drop 3 none ∈ wsL_law := ch_32 _ (List.mem_of_getElem? (i := 8) rfl)
theorem dX12_drop_0 : decode cX12_drop 0 = .ok (.aload_n 0, 1) := by decide +kernel
theorem dX12_drop_1 : decode cX12_drop 1 = .ok (.getfield 316, 3) := by decide +kernel
theorem dX12_drop_4 : decode cX12_drop 4 = .ok (.ifCond .le 50, 3) := by decide +kernel
theorem dX12_drop_7 : decode cX12_drop 7 = .ok (.aload_n 0, 1) := by decide +kernel
theorem dX12_drop_8 : decode cX12_drop 8 = .ok (.getfield 77, 3) := by decide +kernel
theorem dX12_drop_11 : decode cX12_drop 11 = .ok (.aload_n 0, 1) := by decide +kernel
theorem dX12_drop_12 : decode cX12_drop 12 = .ok (.getfield 316, 3) := by decide +kernel
theorem dX12_drop_15 : decode cX12_drop 15 = .ok (.iconst 1, 1) := by decide +kernel
theorem dX12_drop_16 : decode cX12_drop 16 = .ok (.isub, 1) := by decide +kernel
theorem dX12_drop_17 : decode cX12_drop 17 = .ok (.iaload, 1) := by decide +kernel
theorem dX12_drop_18 : decode cX12_drop 18 = .ok (.iload_n 1, 1) := by decide +kernel
theorem dX12_drop_19 : decode cX12_drop 19 = .ok (.iload_n 2, 1) := by decide +kernel
theorem dX12_drop_20 : decode cX12_drop 20 = .ok (.invokestatic 211, 3) := by decide +kernel
theorem dX12_drop_23 : decode cX12_drop 23 = .ok (.ifCond .eq 31, 3) := by decide +kernel
theorem dX12_drop_26 : decode cX12_drop 26 = .ok (.aload_n 0, 1) := by decide +kernel
theorem dX12_drop_27 : decode cX12_drop 27 = .ok (.dup, 1) := by decide +kernel
theorem dX12_drop_28 : decode cX12_drop 28 = .ok (.getfield 316, 3) := by decide +kernel
theorem dX12_drop_31 : decode cX12_drop 31 = .ok (.iconst 1, 1) := by decide +kernel
theorem dX12_drop_32 : decode cX12_drop 32 = .ok (.isub, 1) := by decide +kernel
theorem dX12_drop_33 : decode cX12_drop 33 = .ok (.putfield 316, 3) := by decide +kernel
theorem dX12_drop_36 : decode cX12_drop 36 = .ok (.aload_n 0, 1) := by decide +kernel
theorem dX12_drop_37 : decode cX12_drop 37 = .ok (.aload_n 0, 1) := by decide +kernel
theorem dX12_drop_38 : decode cX12_drop 38 = .ok (.getfield 77, 3) := by decide +kernel
theorem dX12_drop_41 : decode cX12_drop 41 = .ok (.aload_n 0, 1) := by decide +kernel
theorem dX12_drop_42 : decode cX12_drop 42 = .ok (.getfield 316, 3) := by decide +kernel
theorem dX12_drop_45 : decode cX12_drop 45 = .ok (.iaload, 1) := by decide +kernel
theorem dX12_drop_46 : decode cX12_drop 46 = .ok (.iconst 0, 1) := by decide +kernel
theorem dX12_drop_47 : decode cX12_drop 47 = .ok (.iconst 0, 1) := by decide +kernel
theorem dX12_drop_48 : decode cX12_drop 48 = .ok (.invokevirtual 319, 3) := by decide +kernel
theorem dX12_drop_51 : decode cX12_drop 51 = .ok (.goto (-51), 3) := by decide +kernel
theorem dX12_drop_54 : decode cX12_drop 54 = .ok (.return_, 1) := by decide +kernel
theorem dX12_dropNots_0 : decode cX12_dropNots 0 = .ok (.aload_n 0, 1) := by decide +kernel
theorem dX12_dropNots_1 : decode cX12_dropNots 1 = .ok (.getfield 316, 3) := by decide +kernel
theorem dX12_dropNots_4 : decode cX12_dropNots 4 = .ok (.ifCond .le 50, 3) := by decide +kernel
theorem dX12_dropNots_7 : decode cX12_dropNots 7 = .ok (.aload_n 0, 1) := by decide +kernel
theorem dX12_dropNots_8 : decode cX12_dropNots 8 = .ok (.getfield 77, 3) := by decide +kernel
theorem dX12_dropNots_11 : decode cX12_dropNots 11 = .ok (.aload_n 0, 1) := by decide +kernel
theorem dX12_dropNots_12 : decode cX12_dropNots 12 = .ok (.getfield 316, 3) := by decide +kernel
theorem dX12_dropNots_15 : decode cX12_dropNots 15 = .ok (.iconst 1, 1) := by decide +kernel
theorem dX12_dropNots_16 : decode cX12_dropNots 16 = .ok (.isub, 1) := by decide +kernel
theorem dX12_dropNots_17 : decode cX12_dropNots 17 = .ok (.iaload, 1) := by decide +kernel
theorem dX12_dropNots_18 : decode cX12_dropNots 18 = .ok (.bipush 12, 2) := by decide +kernel
theorem dX12_dropNots_20 : decode cX12_dropNots 20 = .ok (.if_icmp .ne 34, 3) := by decide +kernel
theorem dX12_dropNots_23 : decode cX12_dropNots 23 = .ok (.aload_n 0, 1) := by decide +kernel
theorem dX12_dropNots_24 : decode cX12_dropNots 24 = .ok (.dup, 1) := by decide +kernel
theorem dX12_dropNots_25 : decode cX12_dropNots 25 = .ok (.getfield 316, 3) := by decide +kernel
theorem dX12_dropNots_28 : decode cX12_dropNots 28 = .ok (.iconst 1, 1) := by decide +kernel
theorem dX12_dropNots_29 : decode cX12_dropNots 29 = .ok (.isub, 1) := by decide +kernel
theorem dX12_dropNots_30 : decode cX12_dropNots 30 = .ok (.putfield 316, 3) := by decide +kernel
theorem dX12_dropNots_33 : decode cX12_dropNots 33 = .ok (.aload_n 0, 1) := by decide +kernel
theorem dX12_dropNots_34 : decode cX12_dropNots 34 = .ok (.dup, 1) := by decide +kernel
theorem dX12_dropNots_35 : decode cX12_dropNots 35 = .ok (.getfield 339, 3) := by decide +kernel
theorem dX12_dropNots_38 : decode cX12_dropNots 38 = .ok (.iconst 1, 1) := by decide +kernel
theorem dX12_dropNots_39 : decode cX12_dropNots 39 = .ok (.isub, 1) := by decide +kernel
theorem dX12_dropNots_40 : decode cX12_dropNots 40 = .ok (.putfield 339, 3) := by decide +kernel
theorem dX12_dropNots_43 : decode cX12_dropNots 43 = .ok (.aload_n 0, 1) := by decide +kernel
theorem dX12_dropNots_44 : decode cX12_dropNots 44 = .ok (.bipush 12, 2) := by decide +kernel
theorem dX12_dropNots_46 : decode cX12_dropNots 46 = .ok (.iconst 0, 1) := by decide +kernel
theorem dX12_dropNots_47 : decode cX12_dropNots 47 = .ok (.iconst 0, 1) := by decide +kernel
theorem dX12_dropNots_48 : decode cX12_dropNots 48 = .ok (.invokevirtual 319, 3) := by decide +kernel
theorem dX12_dropNots_51 : decode cX12_dropNots 51 = .ok (.goto (-51), 3) := by decide +kernel
theorem dX12_dropNots_54 : decode cX12_dropNots 54 = .ok (.return_, 1) := by decide +kernel
theorem dX12_emit_0 : decode cX12_emit 0 = .ok (.sipush 1200, 3) := by decide +kernel
theorem dX12_emit_3 : decode cX12_emit 3 = .ok (.aload_n 0, 1) := by decide +kernel
theorem dX12_emit_4 : decode cX12_emit 4 = .ok (.getfield 313, 3) := by decide +kernel
theorem dX12_emit_7 : decode cX12_emit 7 = .ok (.iadd, 1) := by decide +kernel
theorem dX12_emit_8 : decode cX12_emit 8 = .ok (.istore 4, 2) := by decide +kernel
theorem dX12_emit_10 : decode cX12_emit 10 = .ok (.aload_n 0, 1) := by decide +kernel
theorem dX12_emit_11 : decode cX12_emit 11 = .ok (.getfield 68, 3) := by decide +kernel
theorem dX12_emit_14 : decode cX12_emit 14 = .ok (.iload 4, 2) := by decide +kernel
theorem dX12_emit_16 : decode cX12_emit 16 = .ok (.iload_n 1, 1) := by decide +kernel
theorem dX12_emit_17 : decode cX12_emit 17 = .ok (.iastore, 1) := by decide +kernel
theorem dX12_emit_18 : decode cX12_emit 18 = .ok (.aload_n 0, 1) := by decide +kernel
theorem dX12_emit_19 : decode cX12_emit 19 = .ok (.getfield 71, 3) := by decide +kernel
theorem dX12_emit_22 : decode cX12_emit 22 = .ok (.iload 4, 2) := by decide +kernel
theorem dX12_emit_24 : decode cX12_emit 24 = .ok (.iload_n 2, 1) := by decide +kernel
theorem dX12_emit_25 : decode cX12_emit 25 = .ok (.iastore, 1) := by decide +kernel
theorem dX12_emit_26 : decode cX12_emit 26 = .ok (.aload_n 0, 1) := by decide +kernel
theorem dX12_emit_27 : decode cX12_emit 27 = .ok (.getfield 74, 3) := by decide +kernel
theorem dX12_emit_30 : decode cX12_emit 30 = .ok (.iload 4, 2) := by decide +kernel
theorem dX12_emit_32 : decode cX12_emit 32 = .ok (.iload_n 3, 1) := by decide +kernel
theorem dX12_emit_33 : decode cX12_emit 33 = .ok (.iastore, 1) := by decide +kernel
theorem dX12_emit_34 : decode cX12_emit 34 = .ok (.aload_n 0, 1) := by decide +kernel
theorem dX12_emit_35 : decode cX12_emit 35 = .ok (.dup, 1) := by decide +kernel
theorem dX12_emit_36 : decode cX12_emit 36 = .ok (.getfield 313, 3) := by decide +kernel
theorem dX12_emit_39 : decode cX12_emit 39 = .ok (.iconst 1, 1) := by decide +kernel
theorem dX12_emit_40 : decode cX12_emit 40 = .ok (.iadd, 1) := by decide +kernel
theorem dX12_emit_41 : decode cX12_emit 41 = .ok (.putfield 313, 3) := by decide +kernel
theorem dX12_emit_44 : decode cX12_emit 44 = .ok (.return_, 1) := by decide +kernel
theorem dX12_isOpen_0 : decode cX12_isOpen 0 = .ok (.iconst 0, 1) := by decide +kernel
theorem dX12_isOpen_1 : decode cX12_isOpen 1 = .ok (.istore_n 1, 1) := by decide +kernel
theorem dX12_isOpen_2 : decode cX12_isOpen 2 = .ok (.iload_n 1, 1) := by decide +kernel
theorem dX12_isOpen_3 : decode cX12_isOpen 3 = .ok (.aload_n 0, 1) := by decide +kernel
theorem dX12_isOpen_4 : decode cX12_isOpen 4 = .ok (.getfield 316, 3) := by decide +kernel
theorem dX12_isOpen_7 : decode cX12_isOpen 7 = .ok (.if_icmp .ge 22, 3) := by decide +kernel
theorem dX12_isOpen_10 : decode cX12_isOpen 10 = .ok (.aload_n 0, 1) := by decide +kernel
theorem dX12_isOpen_11 : decode cX12_isOpen 11 = .ok (.getfield 77, 3) := by decide +kernel
theorem dX12_isOpen_14 : decode cX12_isOpen 14 = .ok (.iload_n 1, 1) := by decide +kernel
theorem dX12_isOpen_15 : decode cX12_isOpen 15 = .ok (.iaload, 1) := by decide +kernel
theorem dX12_isOpen_16 : decode cX12_isOpen 16 = .ok (.bipush 15, 2) := by decide +kernel
theorem dX12_isOpen_18 : decode cX12_isOpen 18 = .ok (.if_icmp .ne 5, 3) := by decide +kernel
theorem dX12_isOpen_21 : decode cX12_isOpen 21 = .ok (.iconst 1, 1) := by decide +kernel
theorem dX12_isOpen_22 : decode cX12_isOpen 22 = .ok (.ireturn, 1) := by decide +kernel
theorem dX12_isOpen_23 : decode cX12_isOpen 23 = .ok (.iinc 1 1, 3) := by decide +kernel
theorem dX12_isOpen_26 : decode cX12_isOpen 26 = .ok (.goto (-24), 3) := by decide +kernel
theorem dX12_isOpen_29 : decode cX12_isOpen 29 = .ok (.iconst 0, 1) := by decide +kernel
theorem dX12_isOpen_30 : decode cX12_isOpen 30 = .ok (.ireturn, 1) := by decide +kernel
theorem dX12_readCond_0 : decode cX12_readCond 0 = .ok (.aload_n 0, 1) := by decide +kernel
theorem dX12_readCond_1 : decode cX12_readCond 1 = .ok (.iconst 0, 1) := by decide +kernel
theorem dX12_readCond_2 : decode cX12_readCond 2 = .ok (.putfield 316, 3) := by decide +kernel
theorem dX12_readCond_5 : decode cX12_readCond 5 = .ok (.aload_n 0, 1) := by decide +kernel
theorem dX12_readCond_6 : decode cX12_readCond 6 = .ok (.invokevirtual 348, 3) := by decide +kernel
theorem dX12_readCond_9 : decode cX12_readCond 9 = .ok (.ifCond .ne 5, 3) := by decide +kernel
theorem dX12_readCond_12 : decode cX12_readCond 12 = .ok (.iconst 0, 1) := by decide +kernel
theorem dX12_readCond_13 : decode cX12_readCond 13 = .ok (.ireturn, 1) := by decide +kernel
theorem dX12_readCond_14 : decode cX12_readCond 14 = .ok (.aload_n 0, 1) := by decide +kernel
theorem dX12_readCond_15 : decode cX12_readCond 15 = .ok (.bipush 41, 2) := by decide +kernel
theorem dX12_readCond_17 : decode cX12_readCond 17 = .ok (.invokevirtual 330, 3) := by decide +kernel
theorem dX12_readCond_20 : decode cX12_readCond 20 = .ok (.ifCond .eq 49, 3) := by decide +kernel
theorem dX12_readCond_23 : decode cX12_readCond 23 = .ok (.aload_n 0, 1) := by decide +kernel
theorem dX12_readCond_24 : decode cX12_readCond 24 = .ok (.invokevirtual 351, 3) := by decide +kernel
theorem dX12_readCond_27 : decode cX12_readCond 27 = .ok (.ifCond .eq 42, 3) := by decide +kernel
theorem dX12_readCond_30 : decode cX12_readCond 30 = .ok (.aload_n 0, 1) := by decide +kernel
theorem dX12_readCond_31 : decode cX12_readCond 31 = .ok (.bipush 13, 2) := by decide +kernel
theorem dX12_readCond_33 : decode cX12_readCond 33 = .ok (.bipush 14, 2) := by decide +kernel
theorem dX12_readCond_35 : decode cX12_readCond 35 = .ok (.invokevirtual 354, 3) := by decide +kernel
theorem dX12_readCond_38 : decode cX12_readCond 38 = .ok (.aload_n 0, 1) := by decide +kernel
theorem dX12_readCond_39 : decode cX12_readCond 39 = .ok (.dup, 1) := by decide +kernel
theorem dX12_readCond_40 : decode cX12_readCond 40 = .ok (.getfield 316, 3) := by decide +kernel
theorem dX12_readCond_43 : decode cX12_readCond 43 = .ok (.iconst 1, 1) := by decide +kernel
theorem dX12_readCond_44 : decode cX12_readCond 44 = .ok (.isub, 1) := by decide +kernel
theorem dX12_readCond_45 : decode cX12_readCond 45 = .ok (.putfield 316, 3) := by decide +kernel
theorem dX12_readCond_48 : decode cX12_readCond 48 = .ok (.aload_n 0, 1) := by decide +kernel
theorem dX12_readCond_49 : decode cX12_readCond 49 = .ok (.dup, 1) := by decide +kernel
theorem dX12_readCond_50 : decode cX12_readCond 50 = .ok (.getfield 339, 3) := by decide +kernel
theorem dX12_readCond_53 : decode cX12_readCond 53 = .ok (.iconst 1, 1) := by decide +kernel
theorem dX12_readCond_54 : decode cX12_readCond 54 = .ok (.isub, 1) := by decide +kernel
theorem dX12_readCond_55 : decode cX12_readCond 55 = .ok (.putfield 339, 3) := by decide +kernel
theorem dX12_readCond_58 : decode cX12_readCond 58 = .ok (.aload_n 0, 1) := by decide +kernel
theorem dX12_readCond_59 : decode cX12_readCond 59 = .ok (.invokevirtual 342, 3) := by decide +kernel
theorem dX12_readCond_62 : decode cX12_readCond 62 = .ok (.aload_n 0, 1) := by decide +kernel
theorem dX12_readCond_63 : decode cX12_readCond 63 = .ok (.invokevirtual 345, 3) := by decide +kernel
theorem dX12_readCond_66 : decode cX12_readCond 66 = .ok (.goto (-52), 3) := by decide +kernel
theorem dX12_readCond_69 : decode cX12_readCond 69 = .ok (.aload_n 0, 1) := by decide +kernel
theorem dX12_readCond_70 : decode cX12_readCond 70 = .ok (.bipush 97, 2) := by decide +kernel
theorem dX12_readCond_72 : decode cX12_readCond 72 = .ok (.bipush 110, 2) := by decide +kernel
theorem dX12_readCond_74 : decode cX12_readCond 74 = .ok (.bipush 100, 2) := by decide +kernel
theorem dX12_readCond_76 : decode cX12_readCond 76 = .ok (.iconst 0, 1) := by decide +kernel
theorem dX12_readCond_77 : decode cX12_readCond 77 = .ok (.iconst 0, 1) := by decide +kernel
theorem dX12_readCond_78 : decode cX12_readCond 78 = .ok (.invokestatic 297, 3) := by decide +kernel
theorem dX12_readCond_81 : decode cX12_readCond 81 = .ok (.invokevirtual 301, 3) := by decide +kernel
theorem dX12_readCond_84 : decode cX12_readCond 84 = .ok (.istore_n 1, 1) := by decide +kernel
theorem dX12_readCond_85 : decode cX12_readCond 85 = .ok (.iload_n 1, 1) := by decide +kernel
theorem dX12_readCond_86 : decode cX12_readCond 86 = .ok (.ifCond .ne 43, 3) := by decide +kernel
theorem dX12_readCond_89 : decode cX12_readCond 89 = .ok (.aload_n 0, 1) := by decide +kernel
theorem dX12_readCond_90 : decode cX12_readCond 90 = .ok (.bipush 111, 2) := by decide +kernel
theorem dX12_readCond_92 : decode cX12_readCond 92 = .ok (.bipush 114, 2) := by decide +kernel
theorem dX12_readCond_94 : decode cX12_readCond 94 = .ok (.iconst 0, 1) := by decide +kernel
theorem dX12_readCond_95 : decode cX12_readCond 95 = .ok (.iconst 0, 1) := by decide +kernel
theorem dX12_readCond_96 : decode cX12_readCond 96 = .ok (.iconst 0, 1) := by decide +kernel
theorem dX12_readCond_97 : decode cX12_readCond 97 = .ok (.invokestatic 297, 3) := by decide +kernel
theorem dX12_readCond_100 : decode cX12_readCond 100 = .ok (.invokevirtual 301, 3) := by decide +kernel
theorem dX12_readCond_103 : decode cX12_readCond 103 = .ok (.ifCond .ne 26, 3) := by decide +kernel
theorem dX12_readCond_106 : decode cX12_readCond 106 = .ok (.aload_n 0, 1) := by decide +kernel
theorem dX12_readCond_107 : decode cX12_readCond 107 = .ok (.invokevirtual 351, 3) := by decide +kernel
theorem dX12_readCond_110 : decode cX12_readCond 110 = .ok (.ifCond .eq 9, 3) := by decide +kernel
theorem dX12_readCond_113 : decode cX12_readCond 113 = .ok (.aload_n 0, 1) := by decide +kernel
theorem dX12_readCond_114 : decode cX12_readCond 114 = .ok (.iconst 1, 1) := by decide +kernel
theorem dX12_readCond_115 : decode cX12_readCond 115 = .ok (.invokevirtual 333, 3) := by decide +kernel
theorem dX12_readCond_118 : decode cX12_readCond 118 = .ok (.ireturn, 1) := by decide +kernel
theorem dX12_readCond_119 : decode cX12_readCond 119 = .ok (.aload_n 0, 1) := by decide +kernel
theorem dX12_readCond_120 : decode cX12_readCond 120 = .ok (.bipush 13, 2) := by decide +kernel
theorem dX12_readCond_122 : decode cX12_readCond 122 = .ok (.bipush 14, 2) := by decide +kernel
theorem dX12_readCond_124 : decode cX12_readCond 124 = .ok (.invokevirtual 354, 3) := by decide +kernel
theorem dX12_readCond_127 : decode cX12_readCond 127 = .ok (.iconst 1, 1) := by decide +kernel
theorem dX12_readCond_128 : decode cX12_readCond 128 = .ok (.ireturn, 1) := by decide +kernel
theorem dX12_readCond_129 : decode cX12_readCond 129 = .ok (.aload_n 0, 1) := by decide +kernel
theorem dX12_readCond_130 : decode cX12_readCond 130 = .ok (.bipush 13, 2) := by decide +kernel
theorem dX12_readCond_132 : decode cX12_readCond 132 = .ok (.iload_n 1, 1) := by decide +kernel
theorem dX12_readCond_133 : decode cX12_readCond 133 = .ok (.ifCond .eq 8, 3) := by decide +kernel
theorem dX12_readCond_136 : decode cX12_readCond 136 = .ok (.bipush 13, 2) := by decide +kernel
theorem dX12_readCond_138 : decode cX12_readCond 138 = .ok (.goto 5, 3) := by decide +kernel
theorem dX12_readCond_141 : decode cX12_readCond 141 = .ok (.bipush 14, 2) := by decide +kernel
theorem dX12_readCond_143 : decode cX12_readCond 143 = .ok (.invokevirtual 354, 3) := by decide +kernel
theorem dX12_readCond_146 : decode cX12_readCond 146 = .ok (.aload_n 0, 1) := by decide +kernel
theorem dX12_readCond_147 : decode cX12_readCond 147 = .ok (.getfield 77, 3) := by decide +kernel
theorem dX12_readCond_150 : decode cX12_readCond 150 = .ok (.aload_n 0, 1) := by decide +kernel
theorem dX12_readCond_151 : decode cX12_readCond 151 = .ok (.getfield 316, 3) := by decide +kernel
theorem dX12_readCond_154 : decode cX12_readCond 154 = .ok (.iload_n 1, 1) := by decide +kernel
theorem dX12_readCond_155 : decode cX12_readCond 155 = .ok (.ifCond .eq 8, 3) := by decide +kernel
theorem dX12_readCond_158 : decode cX12_readCond 158 = .ok (.bipush 13, 2) := by decide +kernel
theorem dX12_readCond_160 : decode cX12_readCond 160 = .ok (.goto 5, 3) := by decide +kernel
theorem dX12_readCond_163 : decode cX12_readCond 163 = .ok (.bipush 14, 2) := by decide +kernel
theorem dX12_readCond_165 : decode cX12_readCond 165 = .ok (.iastore, 1) := by decide +kernel
theorem dX12_readCond_166 : decode cX12_readCond 166 = .ok (.aload_n 0, 1) := by decide +kernel
theorem dX12_readCond_167 : decode cX12_readCond 167 = .ok (.dup, 1) := by decide +kernel
theorem dX12_readCond_168 : decode cX12_readCond 168 = .ok (.getfield 316, 3) := by decide +kernel
theorem dX12_readCond_171 : decode cX12_readCond 171 = .ok (.iconst 1, 1) := by decide +kernel
theorem dX12_readCond_172 : decode cX12_readCond 172 = .ok (.iadd, 1) := by decide +kernel
theorem dX12_readCond_173 : decode cX12_readCond 173 = .ok (.putfield 316, 3) := by decide +kernel
theorem dX12_readCond_176 : decode cX12_readCond 176 = .ok (.aload_n 0, 1) := by decide +kernel
theorem dX12_readCond_177 : decode cX12_readCond 177 = .ok (.invokevirtual 342, 3) := by decide +kernel
theorem dX12_readCond_180 : decode cX12_readCond 180 = .ok (.goto (-175), 3) := by decide +kernel
theorem dX12_readOne_0 : decode cX12_readOne 0 = .ok (.aload_n 0, 1) := by decide +kernel
theorem dX12_readOne_1 : decode cX12_readOne 1 = .ok (.invokevirtual 323, 3) := by decide +kernel
theorem dX12_readOne_4 : decode cX12_readOne 4 = .ok (.istore_n 1, 1) := by decide +kernel
theorem dX12_readOne_5 : decode cX12_readOne 5 = .ok (.iload_n 1, 1) := by decide +kernel
theorem dX12_readOne_6 : decode cX12_readOne 6 = .ok (.iconst (-1), 1) := by decide +kernel
theorem dX12_readOne_7 : decode cX12_readOne 7 = .ok (.if_icmp .ne 25, 3) := by decide +kernel
theorem dX12_readOne_10 : decode cX12_readOne 10 = .ok (.aload_n 0, 1) := by decide +kernel
theorem dX12_readOne_11 : decode cX12_readOne 11 = .ok (.invokevirtual 326, 3) := by decide +kernel
theorem dX12_readOne_14 : decode cX12_readOne 14 = .ok (.ifCond .ne 18, 3) := by decide +kernel
theorem dX12_readOne_17 : decode cX12_readOne 17 = .ok (.aload_n 0, 1) := by decide +kernel
theorem dX12_readOne_18 : decode cX12_readOne 18 = .ok (.bipush 40, 2) := by decide +kernel
theorem dX12_readOne_20 : decode cX12_readOne 20 = .ok (.invokevirtual 330, 3) := by decide +kernel
theorem dX12_readOne_23 : decode cX12_readOne 23 = .ok (.ifCond .ne 9, 3) := by decide +kernel
theorem dX12_readOne_26 : decode cX12_readOne 26 = .ok (.aload_n 0, 1) := by decide +kernel
theorem dX12_readOne_27 : decode cX12_readOne 27 = .ok (.iconst 1, 1) := by decide +kernel
theorem dX12_readOne_28 : decode cX12_readOne 28 = .ok (.invokevirtual 333, 3) := by decide +kernel
theorem dX12_readOne_31 : decode cX12_readOne 31 = .ok (.ireturn, 1) := by decide +kernel
theorem dX12_readOne_32 : decode cX12_readOne 32 = .ok (.aload_n 0, 1) := by decide +kernel
theorem dX12_readOne_33 : decode cX12_readOne 33 = .ok (.getfield 336, 3) := by decide +kernel
theorem dX12_readOne_36 : decode cX12_readOne 36 = .ok (.bipush 50, 2) := by decide +kernel
theorem dX12_readOne_38 : decode cX12_readOne 38 = .ok (.if_icmp .eq 12, 3) := by decide +kernel
theorem dX12_readOne_41 : decode cX12_readOne 41 = .ok (.aload_n 0, 1) := by decide +kernel
theorem dX12_readOne_42 : decode cX12_readOne 42 = .ok (.getfield 339, 3) := by decide +kernel
theorem dX12_readOne_45 : decode cX12_readOne 45 = .ok (.bipush 10, 2) := by decide +kernel
theorem dX12_readOne_47 : decode cX12_readOne 47 = .ok (.if_icmp .ne 9, 3) := by decide +kernel
theorem dX12_readOne_50 : decode cX12_readOne 50 = .ok (.aload_n 0, 1) := by decide +kernel
theorem dX12_readOne_51 : decode cX12_readOne 51 = .ok (.iconst 4, 1) := by decide +kernel
theorem dX12_readOne_52 : decode cX12_readOne 52 = .ok (.invokevirtual 333, 3) := by decide +kernel
theorem dX12_readOne_55 : decode cX12_readOne 55 = .ok (.ireturn, 1) := by decide +kernel
theorem dX12_readOne_56 : decode cX12_readOne 56 = .ok (.aload_n 0, 1) := by decide +kernel
theorem dX12_readOne_57 : decode cX12_readOne 57 = .ok (.dup, 1) := by decide +kernel
theorem dX12_readOne_58 : decode cX12_readOne 58 = .ok (.getfield 336, 3) := by decide +kernel
theorem dX12_readOne_61 : decode cX12_readOne 61 = .ok (.iconst 1, 1) := by decide +kernel
theorem dX12_readOne_62 : decode cX12_readOne 62 = .ok (.iadd, 1) := by decide +kernel
theorem dX12_readOne_63 : decode cX12_readOne 63 = .ok (.putfield 336, 3) := by decide +kernel
theorem dX12_readOne_66 : decode cX12_readOne 66 = .ok (.iload_n 1, 1) := by decide +kernel
theorem dX12_readOne_67 : decode cX12_readOne 67 = .ok (.iconst (-1), 1) := by decide +kernel
theorem dX12_readOne_68 : decode cX12_readOne 68 = .ok (.if_icmp .ne 53, 3) := by decide +kernel
theorem dX12_readOne_71 : decode cX12_readOne 71 = .ok (.aload_n 0, 1) := by decide +kernel
theorem dX12_readOne_72 : decode cX12_readOne 72 = .ok (.dup, 1) := by decide +kernel
theorem dX12_readOne_73 : decode cX12_readOne 73 = .ok (.getfield 339, 3) := by decide +kernel
theorem dX12_readOne_76 : decode cX12_readOne 76 = .ok (.iconst 1, 1) := by decide +kernel
theorem dX12_readOne_77 : decode cX12_readOne 77 = .ok (.iadd, 1) := by decide +kernel
theorem dX12_readOne_78 : decode cX12_readOne 78 = .ok (.putfield 339, 3) := by decide +kernel
theorem dX12_readOne_81 : decode cX12_readOne 81 = .ok (.aload_n 0, 1) := by decide +kernel
theorem dX12_readOne_82 : decode cX12_readOne 82 = .ok (.getfield 77, 3) := by decide +kernel
theorem dX12_readOne_85 : decode cX12_readOne 85 = .ok (.aload_n 0, 1) := by decide +kernel
theorem dX12_readOne_86 : decode cX12_readOne 86 = .ok (.getfield 316, 3) := by decide +kernel
theorem dX12_readOne_89 : decode cX12_readOne 89 = .ok (.aload_n 0, 1) := by decide +kernel
theorem dX12_readOne_90 : decode cX12_readOne 90 = .ok (.invokevirtual 326, 3) := by decide +kernel
theorem dX12_readOne_93 : decode cX12_readOne 93 = .ok (.ifCond .eq 8, 3) := by decide +kernel
theorem dX12_readOne_96 : decode cX12_readOne 96 = .ok (.bipush 12, 2) := by decide +kernel
theorem dX12_readOne_98 : decode cX12_readOne 98 = .ok (.goto 5, 3) := by decide +kernel
theorem dX12_readOne_101 : decode cX12_readOne 101 = .ok (.bipush 15, 2) := by decide +kernel
theorem dX12_readOne_103 : decode cX12_readOne 103 = .ok (.iastore, 1) := by decide +kernel
theorem dX12_readOne_104 : decode cX12_readOne 104 = .ok (.aload_n 0, 1) := by decide +kernel
theorem dX12_readOne_105 : decode cX12_readOne 105 = .ok (.dup, 1) := by decide +kernel
theorem dX12_readOne_106 : decode cX12_readOne 106 = .ok (.getfield 316, 3) := by decide +kernel
theorem dX12_readOne_109 : decode cX12_readOne 109 = .ok (.iconst 1, 1) := by decide +kernel
theorem dX12_readOne_110 : decode cX12_readOne 110 = .ok (.iadd, 1) := by decide +kernel
theorem dX12_readOne_111 : decode cX12_readOne 111 = .ok (.putfield 316, 3) := by decide +kernel
theorem dX12_readOne_114 : decode cX12_readOne 114 = .ok (.aload_n 0, 1) := by decide +kernel
theorem dX12_readOne_115 : decode cX12_readOne 115 = .ok (.invokevirtual 342, 3) := by decide +kernel
theorem dX12_readOne_118 : decode cX12_readOne 118 = .ok (.goto (-118), 3) := by decide +kernel
theorem dX12_readOne_121 : decode cX12_readOne 121 = .ok (.aload_n 0, 1) := by decide +kernel
theorem dX12_readOne_122 : decode cX12_readOne 122 = .ok (.invokevirtual 342, 3) := by decide +kernel
theorem dX12_readOne_125 : decode cX12_readOne 125 = .ok (.iload_n 1, 1) := by decide +kernel
theorem dX12_readOne_126 : decode cX12_readOne 126 = .ok (.iconst 3, 1) := by decide +kernel
theorem dX12_readOne_127 : decode cX12_readOne 127 = .ok (.if_icmp .ge 13, 3) := by decide +kernel
theorem dX12_readOne_130 : decode cX12_readOne 130 = .ok (.aload_n 0, 1) := by decide +kernel
theorem dX12_readOne_131 : decode cX12_readOne 131 = .ok (.iload_n 1, 1) := by decide +kernel
theorem dX12_readOne_132 : decode cX12_readOne 132 = .ok (.iconst 0, 1) := by decide +kernel
theorem dX12_readOne_133 : decode cX12_readOne 133 = .ok (.iconst 0, 1) := by decide +kernel
theorem dX12_readOne_134 : decode cX12_readOne 134 = .ok (.invokevirtual 319, 3) := by decide +kernel
theorem dX12_readOne_137 : decode cX12_readOne 137 = .ok (.goto 76, 3) := by decide +kernel
theorem dX12_readOne_140 : decode cX12_readOne 140 = .ok (.aload_n 0, 1) := by decide +kernel
theorem dX12_readOne_141 : decode cX12_readOne 141 = .ok (.bipush 60, 2) := by decide +kernel
theorem dX12_readOne_143 : decode cX12_readOne 143 = .ok (.invokevirtual 330, 3) := by decide +kernel
theorem dX12_readOne_146 : decode cX12_readOne 146 = .ok (.ifCond .ne 27, 3) := by decide +kernel
theorem dX12_readOne_149 : decode cX12_readOne 149 = .ok (.aload_n 0, 1) := by decide +kernel
theorem dX12_readOne_150 : decode cX12_readOne 150 = .ok (.bipush 61, 2) := by decide +kernel
theorem dX12_readOne_152 : decode cX12_readOne 152 = .ok (.invokevirtual 330, 3) := by decide +kernel
theorem dX12_readOne_155 : decode cX12_readOne 155 = .ok (.ifCond .ne 18, 3) := by decide +kernel
theorem dX12_readOne_158 : decode cX12_readOne 158 = .ok (.aload_n 0, 1) := by decide +kernel
theorem dX12_readOne_159 : decode cX12_readOne 159 = .ok (.bipush 62, 2) := by decide +kernel
theorem dX12_readOne_161 : decode cX12_readOne 161 = .ok (.invokevirtual 330, 3) := by decide +kernel
theorem dX12_readOne_164 : decode cX12_readOne 164 = .ok (.ifCond .ne 9, 3) := by decide +kernel
theorem dX12_readOne_167 : decode cX12_readOne 167 = .ok (.aload_n 0, 1) := by decide +kernel
theorem dX12_readOne_168 : decode cX12_readOne 168 = .ok (.iconst 1, 1) := by decide +kernel
theorem dX12_readOne_169 : decode cX12_readOne 169 = .ok (.invokevirtual 333, 3) := by decide +kernel
theorem dX12_readOne_172 : decode cX12_readOne 172 = .ok (.ireturn, 1) := by decide +kernel
theorem dX12_readOne_173 : decode cX12_readOne 173 = .ok (.aload_n 0, 1) := by decide +kernel
theorem dX12_readOne_174 : decode cX12_readOne 174 = .ok (.getfield 274, 3) := by decide +kernel
theorem dX12_readOne_177 : decode cX12_readOne 177 = .ok (.istore_n 2, 1) := by decide +kernel
theorem dX12_readOne_178 : decode cX12_readOne 178 = .ok (.aload_n 0, 1) := by decide +kernel
theorem dX12_readOne_179 : decode cX12_readOne 179 = .ok (.invokevirtual 342, 3) := by decide +kernel
theorem dX12_readOne_182 : decode cX12_readOne 182 = .ok (.aload_n 0, 1) := by decide +kernel
theorem dX12_readOne_183 : decode cX12_readOne 183 = .ok (.getfield 262, 3) := by decide +kernel
theorem dX12_readOne_186 : decode cX12_readOne 186 = .ok (.iconst 3, 1) := by decide +kernel
theorem dX12_readOne_187 : decode cX12_readOne 187 = .ok (.if_icmp .eq 9, 3) := by decide +kernel
theorem dX12_readOne_190 : decode cX12_readOne 190 = .ok (.aload_n 0, 1) := by decide +kernel
theorem dX12_readOne_191 : decode cX12_readOne 191 = .ok (.iconst 1, 1) := by decide +kernel
theorem dX12_readOne_192 : decode cX12_readOne 192 = .ok (.invokevirtual 333, 3) := by decide +kernel
theorem dX12_readOne_195 : decode cX12_readOne 195 = .ok (.ireturn, 1) := by decide +kernel
theorem dX12_readOne_196 : decode cX12_readOne 196 = .ok (.aload_n 0, 1) := by decide +kernel
theorem dX12_readOne_197 : decode cX12_readOne 197 = .ok (.iload_n 1, 1) := by decide +kernel
theorem dX12_readOne_198 : decode cX12_readOne 198 = .ok (.iload_n 2, 1) := by decide +kernel
theorem dX12_readOne_199 : decode cX12_readOne 199 = .ok (.aload_n 0, 1) := by decide +kernel
theorem dX12_readOne_200 : decode cX12_readOne 200 = .ok (.getfield 281, 3) := by decide +kernel
theorem dX12_readOne_203 : decode cX12_readOne 203 = .ok (.invokevirtual 319, 3) := by decide +kernel
theorem dX12_readOne_206 : decode cX12_readOne 206 = .ok (.aload_n 0, 1) := by decide +kernel
theorem dX12_readOne_207 : decode cX12_readOne 207 = .ok (.invokevirtual 342, 3) := by decide +kernel
theorem dX12_readOne_210 : decode cX12_readOne 210 = .ok (.goto 3, 3) := by decide +kernel
theorem dX12_readOne_213 : decode cX12_readOne 213 = .ok (.aload_n 0, 1) := by decide +kernel
theorem dX12_readOne_214 : decode cX12_readOne 214 = .ok (.invokevirtual 345, 3) := by decide +kernel
theorem dX12_readOne_217 : decode cX12_readOne 217 = .ok (.iconst 1, 1) := by decide +kernel
theorem dX12_readOne_218 : decode cX12_readOne 218 = .ok (.ireturn, 1) := by decide +kernel
theorem fl_X12_313_13 : xF RX12 313 13 41 .int false := ⟨by decide, RX12, TX12, 91, tyX12, "PaperBoysModel", rfl, inlX12, tyX12_ok, nmX12, by decide, rfl, rfl, m_28_10, Or.inl rfl⟩
theorem fl_X12_316_13 : xF RX12 316 13 42 .int false := ⟨by decide, RX12, TX12, 91, tyX12, "PaperBoysModel", rfl, inlX12, tyX12_ok, nmX12, by decide, rfl, rfl, m_31_0, Or.inl rfl⟩
theorem fl_X12_336_13 : xF RX12 336 13 43 .int false := ⟨by decide, RX12, TX12, 91, tyX12, "PaperBoysModel", rfl, inlX12, tyX12_ok, nmX12, by decide, rfl, rfl, m_28_18, Or.inl rfl⟩
theorem fl_X12_339_13 : xF RX12 339 13 44 .int false := ⟨by decide, RX12, TX12, 91, tyX12, "PaperBoysModel", rfl, inlX12, tyX12_ok, nmX12, by decide, rfl, rfl, m_28_19, Or.inl rfl⟩
theorem fl_X12_68_13 : xF RX12 68 13 35 (.array .int) true := ⟨by decide, RX12, TX12, 91, tyX12, "PaperBoysModel", rfl, inlX12, tyX12_ok, nmX12, by decide, rfl, rfl, m_8_21, Or.inl rfl⟩
theorem fl_X12_71_13 : xF RX12 71 13 36 (.array .int) true := ⟨by decide, RX12, TX12, 91, tyX12, "PaperBoysModel", rfl, inlX12, tyX12_ok, nmX12, by decide, rfl, rfl, m_8_22, Or.inl rfl⟩
theorem fl_X12_74_13 : xF RX12 74 13 37 (.array .int) true := ⟨by decide, RX12, TX12, 91, tyX12, "PaperBoysModel", rfl, inlX12, tyX12_ok, nmX12, by decide, rfl, rfl, m_8_23, Or.inl rfl⟩
theorem fl_X12_77_13 : xF RX12 77 13 38 (.array .int) true := ⟨by decide, RX12, TX12, 91, tyX12, "PaperBoysModel", rfl, inlX12, tyX12_ok, nmX12, by decide, rfl, rfl, m_9_0, Or.inl rfl⟩
theorem lk_X12_319 : xLV RX12 319 yX12_emit cX12_emit 5 none 3 := ⟨m_31_17, m_31_18, m_31_19, m_1_5, m_31_20, by decide +kernel⟩
theorem lk_X12_323 : xLV RX12 323 yX12_atom cX12_atom 1 (some .int) 0 := ⟨m_31_5, m_31_6, m_31_7, m_1_5, m_31_8, by decide +kernel⟩
theorem lk_X12_326 : xLV RX12 326 yX12_isNot cX12_isNot 1 (some .boolean) 0 := ⟨m_30_16, m_30_17, m_30_18, m_1_5, m_30_19, by decide +kernel⟩
theorem lk_X12_330 : xLV RX12 330 yX12_isSign cX12_isSign 2 (some .boolean) 1 := ⟨m_31_13, m_31_14, m_31_15, m_1_5, m_31_16, by decide +kernel⟩
theorem lk_X12_333 : xLV RX12 333 yX12_bad cX12_bad 2 (some .boolean) 1 := ⟨m_30_12, m_30_13, m_30_14, m_1_5, m_30_15, by decide +kernel⟩
theorem lk_X12_342 : xLV RX12 342 yX12_go cX12_go 5 none 0 := ⟨m_28_22, m_28_23, m_29_0, m_1_5, m_29_1, by decide +kernel⟩
theorem lk_X12_345 : xLV RX12 345 yX12_dropNots cX12_dropNots 1 none 0 := ⟨m_31_21, m_31_22, m_31_23, m_1_5, m_32_0, by decide +kernel⟩
theorem lk_X12_348 : xLV RX12 348 yX12_readOne cX12_readOne 3 (some .boolean) 0 := ⟨m_31_1, m_31_2, m_31_3, m_1_5, m_31_4, by decide +kernel⟩
theorem lk_X12_351 : xLV RX12 351 yX12_isOpen cX12_isOpen 2 (some .boolean) 0 := ⟨m_32_1, m_32_2, m_32_3, m_1_5, m_32_4, by decide +kernel⟩
theorem lk_X12_354 : xLV RX12 354 yX12_drop cX12_drop 3 none 2 := ⟨m_32_5, m_32_6, m_32_7, m_1_5, m_32_8, by decide +kernel⟩
def xst (h : Nat) (v : Int) : Option Nat := if 0 ≤ v ∧ v ≤ 11 then (if h < 60 then some (h + 1) else none) else if v = 12 then (if 1 ≤ h then some h else none) else if v = 13 ∨ v = 14 then (if 2 ≤ h then some (h - 1) else none) else none
def xhf (p : Int → Int) (F : Int) : Nat → Option Nat
  | 0 => some 0
  | m + 1 => match xhf p F m with
    | none => none
    | some h => xst h (p (F + m))
theorem xhf_cg {p p' : Int → Int} {F F' : Int} {m : Nat} (h : ∀ k : Nat, k < m → p' (F' + k) = p (F + k)) : xhf p' F' m = xhf p F m := by
  induction m with
  | zero => rfl
  | succ m ih => unfold xhf; rw [ih (fun k hk => h k (by omega)), h m (by omega)]
theorem xhf_s {p : Int → Int} {F : Int} {m h h' : Nat} (e : xhf p F m = some h) (e' : xst h (p (F + m)) = some h') : xhf p F (m + 1) = some h' := by
  show (match xhf p F m with
    | none => none
    | some h => xst h (p (F + m))) = some h'
  rw [e]
  exact e'
theorem xhf_pre {p : Int → Int} {F : Int} {m k : Nat} (h : xhf p F m ≠ none) (hk : k ≤ m) : xhf p F k ≠ none := by
  induction m with
  | zero => rw [show k = 0 by omega]; exact h
  | succ m ih =>
    by_cases e : k = m + 1
    · rw [e]; exact h
    · refine ih (fun q => h ?_) (by omega)
      unfold xhf
      rw [q]
theorem xhf_step {p : Int → Int} {F : Int} {m h : Nat} (e : xhf p F m = some h) (hv : xhf p F (m + 1) ≠ none) : ((0 ≤ p (F + m) ∧ p (F + m) ≤ 11) ∧ h < 60 ∧ xhf p F (m + 1) = some (h + 1)) ∨ (p (F + m) = 12 ∧ 1 ≤ h ∧ xhf p F (m + 1) = some h) ∨ ((p (F + m) = 13 ∨ p (F + m) = 14) ∧ 2 ≤ h ∧ xhf p F (m + 1) = some (h - 1)) := by
  have k : xhf p F (m + 1) = xst h (p (F + m)) := by
    show (match xhf p F m with
      | none => none
      | some h => xst h (p (F + m))) = _
    rw [e]
  rw [k] at hv ⊢
  generalize p (F + m) = v at hv ⊢
  unfold xst at hv ⊢
  by_cases c1 : 0 ≤ v ∧ v ≤ 11
  · rw [if_pos c1] at hv ⊢
    by_cases c2 : h < 60
    · rw [if_pos c2]; exact Or.inl ⟨c1, c2, rfl⟩
    · rw [if_neg c2] at hv; exact absurd rfl hv
  · rw [if_neg c1] at hv ⊢
    by_cases c2 : v = 12
    · rw [if_pos c2] at hv ⊢
      by_cases c3 : 1 ≤ h
      · rw [if_pos c3]; exact Or.inr (Or.inl ⟨c2, c3, rfl⟩)
      · rw [if_neg c3] at hv; exact absurd rfl hv
    · rw [if_neg c2] at hv ⊢
      by_cases c3 : v = 13 ∨ v = 14
      · rw [if_pos c3] at hv ⊢
        by_cases c4 : 2 ≤ h
        · rw [if_pos c4]; exact Or.inr (Or.inr ⟨c3, c4, rfl⟩)
        · rw [if_neg c4] at hv; exact absurd rfl hv
      · rw [if_neg c3] at hv; exact absurd rfl hv
theorem xhf_0 (p : Int → Int) (F n : Int) : xhf p F (n - n).toNat ≠ none := by
  rw [show (n - n).toNat = 0 by omega]
  exact fun h => by cases h
inductive xPl (f : Int → Int) : Nat → Nat → Nat → Nat → Prop
  | z : xPl f 0 0 0 0
  | one {t c s d : Nat} (h : xPl f t c s d) (e : f t = 12 ∨ f t = 15) : xPl f (t + 1) (c + 1) 0 d
  | or {t c d : Nat} (h : xPl f t c 0 d) (e : f t = 14) : xPl f (t + 1) c 1 (d + 1)
  | and {t c s d : Nat} (h : xPl f t c s d) (hs : s ≤ 1) (e : f t = 13) : xPl f (t + 1) c 2 (d + 1)
theorem xPl.cg {f f' : Int → Int} {t c s d : Nat} (h : xPl f t c s d) (hf : ∀ k : Nat, k < t → f' k = f k) : xPl f' t c s d := by
  induction h with
  | z => exact .z
  | one h e ih => exact .one (ih (fun k hk => hf k (by omega))) (by rw [hf _ (by omega)]; exact e)
  | or h e ih => exact .or (ih (fun k hk => hf k (by omega))) (by rw [hf _ (by omega)]; exact e)
  | and h hs e ih => exact .and (ih (fun k hk => hf k (by omega))) hs (by rw [hf _ (by omega)]; exact e)
theorem xPl.le {f : Int → Int} {t c s d : Nat} (h : xPl f t c s d) : t ≤ 3 * c + s ∧ d ≤ 2 * c + s ∧ s ≤ 2 := by
  induction h with
  | z => omega
  | one h e ih => omega
  | or h e ih => omega
  | and h hs e ih => omega
theorem xPl.not {f : Int → Int} {t c s d : Nat} (h : xPl f (t + 1) c s d) (e : f t ≠ 13 ∧ f t ≠ 14) : ∃ c' s', c = c' + 1 ∧ xPl f t c' s' d := by
  cases h with
  | one h _ => exact ⟨_, _, rfl, h⟩
  | or h e' => exact absurd e' e.2
  | and h _ e' => exact absurd e' e.1
theorem xPl.join {f : Int → Int} {t c s d : Nat} (h : xPl f (t + 1) c s d) (e : f t = 13 ∨ f t = 14) : ∃ s' d', d = d' + 1 ∧ xPl f t c s' d' := by
  cases h with
  | one h e' => omega
  | or h _ => exact ⟨_, _, rfl, h⟩
  | and h _ _ => exact ⟨_, _, rfl, h⟩
theorem xPl.s0 {f : Int → Int} {t c s d : Nat} (h : xPl f t c s d) (e : t = 0 ∨ (f (t - 1 : Int) ≠ 13 ∧ f (t - 1 : Int) ≠ 14)) : s = 0 := by
  cases h with
  | z => rfl
  | one _ _ => rfl
  | or _ e' => rw [show ((_ + 1 : Nat) : Int) - 1 = _ from by omega] at e; omega
  | and _ _ e' => rw [show ((_ + 1 : Nat) : Int) - 1 = _ from by omega] at e; omega
theorem xPl.s1 {f : Int → Int} {t c s d : Nat} (h : xPl f t c s d) (e : t = 0 ∨ f (t - 1 : Int) ≠ 13) : s ≤ 1 := by
  cases h with
  | z => omega
  | one _ _ => omega
  | or _ _ => omega
  | and _ _ e' => rw [show ((_ + 1 : Nat) : Int) - 1 = _ from by omega] at e; omega
def xRd (p f : Int → Int) (F np nt no nw : Int) (o : Nat) : Prop := ∃ c s d : Nat, xPl f nt.toNat c s d ∧ (c : Int) ≤ nw ∧ nw ≤ 10 ∧ xhf p (1200 + F) (np - F).toNat = some (d + 1 - o) ∧ np + nt + 1 ≤ 2 * no + o ∧ no ≤ 50 ∧ 0 ≤ F ∧ F ≤ np ∧ 0 ≤ nt
theorem xRd.bd {p f : Int → Int} {F np nt no nw : Int} {o : Nat} (h : xRd p f F np nt no nw o) (ho : o ≤ 1) : 0 ≤ np ∧ np ≤ 100 ∧ 0 ≤ nt ∧ nt ≤ 32 ∧ 0 ≤ nw ∧ nw ≤ 10 ∧ no ≤ 50 ∧ 0 ≤ F ∧ F ≤ np := by
  obtain ⟨c, s, d, h1, h2, h3, h4, h5, h6, h7, h8, h9⟩ := h
  have := h1.le
  omega
theorem xRd.start {p f : Int → Int} {np no nw : Int} (h0 : 0 ≤ np) (h1 : np ≤ 2 * no) (h2 : no ≤ 50) (h3 : 0 ≤ nw) (h4 : nw ≤ 10) : xRd p f np np 0 no nw 1 :=
  ⟨0, 0, 0, .z, by omega, h4, by rw [show (np - np).toNat = 0 by omega]; rfl, by omega, h2, h0, by omega, by omega⟩
theorem xRd.push {p f f' : Int → Int} {F np nt no nw : Int} (h : xRd p f F np nt no nw 1) (h1 : nw ≤ 9) (h2 : no ≤ 49) (e : f' nt = 12 ∨ f' nt = 15) (hf : ∀ i, 0 ≤ i → i ≠ nt → f' i = f i) : xRd p f' F np (nt + 1) (no + 1) (nw + 1) 1 := by
  obtain ⟨c, s, d, q1, q2, q3, q4, q5, q6, q7, q8, q9⟩ := h
  have et : ((nt.toNat : Nat) : Int) = nt := by omega
  refine ⟨c + 1, 0, d, ?_, by omega, by omega, q4, by omega, by omega, q7, q8, by omega⟩
  rw [show (nt + 1).toNat = nt.toNat + 1 by omega]
  exact .one (q1.cg (fun k hk => hf k (by omega) (by omega))) (by rw [et]; exact e)
theorem xhf_up {p p' : Int → Int} {F np a : Int} {h h' : Nat} (hu : xUp p' p (1200 + np) a) (hF : 0 ≤ F) (hn : F ≤ np) (e : xhf p (1200 + F) (np - F).toNat = some h) (e' : xst h a = some h') : xhf p' (1200 + F) (np + 1 - F).toNat = some h' := by
  rw [show (np + 1 - F).toNat = (np - F).toNat + 1 by omega]
  refine xhf_s (h := h) ?_ ?_
  · rw [xhf_cg (p := p) (F := 1200 + F) (fun k hk => hu.2 _ (by omega) (by omega))]; exact e
  · rw [show 1200 + F + ((np - F).toNat : Int) = 1200 + np by omega, hu.1]; exact e'
theorem xRd.atom {p p' f : Int → Int} {F np nt no nw a : Int} (h : xRd p f F np nt no nw 1) (h2 : no ≤ 49) (ha : 0 ≤ a ∧ a ≤ 11) (hu : xUp p' p (1200 + np) a) : xRd p' f F (np + 1) nt (no + 1) nw 0 := by
  obtain ⟨c, s, d, q1, q2, q3, q4, q5, q6, q7, q8, q9⟩ := h
  have hl := q1.le
  refine ⟨c, s, d, q1, q2, q3, xhf_up hu q7 q8 q4 ?_, by omega, by omega, q7, by omega, q9⟩
  unfold xst
  rw [if_pos ha, if_pos (by omega)]
  rfl
theorem xRd.not {p p' f : Int → Int} {F np nt no nw : Int} (h : xRd p f F np nt no nw 0) (h1 : 1 ≤ nt) (e : f (nt - 1) = 12) (hu : xUp p' p (1200 + np) 12) : xRd p' f F (np + 1) (nt - 1) no (nw - 1) 0 := by
  obtain ⟨c, s, d, q1, q2, q3, q4, q5, q6, q7, q8, q9⟩ := h
  rw [show nt.toNat = (nt - 1).toNat + 1 by omega] at q1
  have et : (((nt - 1).toNat : Nat) : Int) = nt - 1 := by omega
  obtain ⟨c', s', r1, r2⟩ := q1.not (by rw [et]; omega)
  refine ⟨c', s', d, r2, by omega, by omega, xhf_up hu q7 q8 q4 ?_, by omega, q6, q7, by omega, by omega⟩
  unfold xst
  rw [if_neg (by omega), if_pos rfl, if_pos (by omega)]
theorem xRd.join {p p' f : Int → Int} {F np nt no nw a : Int} (h : xRd p f F np nt no nw 0) (h1 : 1 ≤ nt) (e : f (nt - 1) = a) (ha : a = 13 ∨ a = 14) (hu : xUp p' p (1200 + np) a) : xRd p' f F (np + 1) (nt - 1) no nw 0 := by
  obtain ⟨c, s, d, q1, q2, q3, q4, q5, q6, q7, q8, q9⟩ := h
  rw [show nt.toNat = (nt - 1).toNat + 1 by omega] at q1
  have et : (((nt - 1).toNat : Nat) : Int) = nt - 1 := by omega
  obtain ⟨s', d', r1, r2⟩ := q1.join (by rw [et, e]; exact ha)
  refine ⟨c, s', d', r2, q2, q3, xhf_up hu q7 q8 q4 ?_, by omega, q6, q7, by omega, by omega⟩
  unfold xst
  rw [if_neg (by omega), if_neg (by omega), if_pos ha, if_pos (by omega)]
  congr 1
  omega
theorem xRd.paren {p f : Int → Int} {F np nt no nw : Int} (h : xRd p f F np nt no nw 0) (h1 : 1 ≤ nt) (e : f (nt - 1) ≠ 13 ∧ f (nt - 1) ≠ 14) : xRd p f F np (nt - 1) no (nw - 1) 0 := by
  obtain ⟨c, s, d, q1, q2, q3, q4, q5, q6, q7, q8, q9⟩ := h
  rw [show nt.toNat = (nt - 1).toNat + 1 by omega] at q1
  have et : (((nt - 1).toNat : Nat) : Int) = nt - 1 := by omega
  obtain ⟨c', s', r1, r2⟩ := q1.not (by rw [et]; exact e)
  exact ⟨c', s', d, r2, by omega, by omega, q4, by omega, q6, q7, q8, by omega⟩
theorem xRd.or {p f f' : Int → Int} {F np nt no nw : Int} (h : xRd p f F np nt no nw 0) (e : nt = 0 ∨ (f (nt - 1) ≠ 13 ∧ f (nt - 1) ≠ 14)) (e' : f' nt = 14) (hf : ∀ i, 0 ≤ i → i ≠ nt → f' i = f i) : xRd p f' F np (nt + 1) no nw 1 := by
  obtain ⟨c, s, d, q1, q2, q3, q4, q5, q6, q7, q8, q9⟩ := h
  have et : ((nt.toNat : Nat) : Int) = nt := by omega
  have hs := q1.s0 (by rw [et]; exact e.imp (fun h => by omega) id)
  subst hs
  refine ⟨c, 1, d + 1, ?_, q2, q3, q4, by omega, q6, q7, q8, by omega⟩
  rw [show (nt + 1).toNat = nt.toNat + 1 by omega]
  exact .or (q1.cg (fun k hk => hf k (by omega) (by omega))) (by rw [et]; exact e')
theorem xRd.and {p f f' : Int → Int} {F np nt no nw : Int} (h : xRd p f F np nt no nw 0) (e : nt = 0 ∨ f (nt - 1) ≠ 13) (e' : f' nt = 13) (hf : ∀ i, 0 ≤ i → i ≠ nt → f' i = f i) : xRd p f' F np (nt + 1) no nw 1 := by
  obtain ⟨c, s, d, q1, q2, q3, q4, q5, q6, q7, q8, q9⟩ := h
  have et : ((nt.toNat : Nat) : Int) = nt := by omega
  have hs := q1.s1 (by rw [et]; exact e.imp (fun h => by omega) id)
  refine ⟨c, 2, d + 1, ?_, q2, q3, q4, by omega, q6, q7, q8, by omega⟩
  rw [show (nt + 1).toNat = nt.toNat + 1 by omega]
  exact .and (q1.cg (fun k hk => hf k (by omega) (by omega))) hs (by rw [et]; exact e')
theorem xRd.fin {p f : Int → Int} {F np nt no nw : Int} (h : xRd p f F np nt no nw 0) : xhf p (1200 + F) (np - F).toNat ≠ none ∧ np ≤ 2 * no := by
  obtain ⟨c, s, d, q1, q2, q3, q4, q5, q6, q7, q8, q9⟩ := h
  exact ⟨by rw [q4]; exact fun h => by cases h, by omega⟩
def xLow (m : Int) (f' f : Int → Int) : Prop := ∀ i, 0 ≤ i → i < m → f' i = f i
theorem xLow.rf {m : Int} {f : Int → Int} : xLow m f f := fun _ _ _ => rfl
theorem xLow.tr {m m' : Int} {f f' f'' : Int → Int} (h : xLow m f' f) (h2 : xLow m' f'' f') (hm : m ≤ m') : xLow m f'' f := fun i q1 q2 => (h2 i q1 (by omega)).trans (h i q1 q2)
theorem xLow.up {m j z : Int} {f f' f'' : Int → Int} (h : xLow m f' f) (hu : xUp f'' f' j z) (hm : m ≤ j) : xLow m f'' f := fun i q1 q2 => (hu.2 i q1 (by omega)).trans (h i q1 q2)
theorem xLow.mono {m m' : Int} {f f' : Int → Int} (h : xLow m' f' f) (hm : m ≤ m') : xLow m f' f := fun i q1 q2 => h i q1 (by omega)
def xRl (cf ct p : Int → Int) (nl np : Int) : Prop := ∀ k, 0 ≤ k → k < nl → 0 ≤ cf (160 + k) ∧ cf (160 + k) ≤ ct (160 + k) ∧ ct (160 + k) ≤ np ∧ xhf p (1200 + cf (160 + k)) (ct (160 + k) - cf (160 + k)).toNat ≠ none
theorem xRl.s {cf ct p cf' ct' p' : Int → Int} {nl np np1 : Int} (h : xRl cf ct p nl np) (h0 : 0 ≤ nl) (hp0 : 0 ≤ np) (u1 : xUp cf' cf (160 + nl) np) (u2 : xUp ct' ct (160 + nl) np1) (hl : xLow (1200 + np) p' p) (hn : np ≤ np1) (hx : xhf p' (1200 + np) (np1 - np).toNat ≠ none) : xRl cf' ct' p' (nl + 1) np1 := fun k q1 q2 => by
  by_cases e : k = nl
  · subst e
    rw [u1.1, u2.1]
    exact ⟨hp0, hn, Int.le_refl _, hx⟩
  · rw [u1.2 _ (by omega) (by omega), u2.2 _ (by omega) (by omega)]
    obtain ⟨r1, r2, r3, r4⟩ := h k q1 (by omega)
    refine ⟨r1, r2, by omega, ?_⟩
    rw [xhf_cg (p := p) (F := 1200 + cf (160 + k)) (fun i hi => hl _ (by omega) (by omega))]
    exact r4
def xTv (cf ct p : Int → Int) (t k : Int) : Prop := 0 ≤ cf (16 * t + k) ∧ cf (16 * t + k) ≤ ct (16 * t + k) ∧ ct (16 * t + k) ≤ 120 ∧ xhf p (120 * t + cf (16 * t + k)) (ct (16 * t + k) - cf (16 * t + k)).toNat ≠ none
def xTr (lo cf ct p : Int → Int) (t : Int) : Prop := ∀ k, 0 ≤ k → k < lo t → xTv cf ct p t k
theorem xRl.tr {lo cf ct p : Int → Int} {nl np : Int} (h : xRl cf ct p nl np) (e : lo 10 = nl) (hn : np ≤ 120) : xTr lo cf ct p 10 := fun k q1 q2 => by
  rw [e] at q2
  obtain ⟨r1, r2, r3, r4⟩ := h k q1 q2
  exact ⟨r1, r2, by show ct (160 + k) ≤ 120; omega, r4⟩
theorem xTr.low {lo cf ct p lo' cf' ct' p' : Int → Int} {t : Int} (h : xTr lo cf ct p t) (ht : 0 ≤ t ∧ t < 10) (h1 : lo' t = lo t) (hk : lo t ≤ 16) (h2 : ∀ k, 0 ≤ k → k < 16 → cf' (16 * t + k) = cf (16 * t + k)) (h3 : ∀ k, 0 ≤ k → k < 16 → ct' (16 * t + k) = ct (16 * t + k)) (h4 : ∀ k, 0 ≤ k → k < 120 → p' (120 * t + k) = p (120 * t + k)) : xTr lo' cf' ct' p' t := fun k q1 q2 => by
  rw [h1] at q2
  obtain ⟨r1, r2, r3, r4⟩ := h k q1 q2
  unfold xTv
  rw [h2 k q1 (by omega), h3 k q1 (by omega)]
  refine ⟨r1, r2, r3, ?_⟩
  rw [xhf_cg (p := p) (F := 120 * t + cf (16 * t + k)) (fun i hi => by
    have := h4 (cf (16 * t + k) + i) (by omega) (by omega)
    rw [Int.add_assoc]
    exact this)]
  exact r4
theorem xRl.new {lo cf ct p : Int → Int} {t nl np : Int} (h : xRl cf ct p nl np) (hn : np ≤ 120) (h1 : lo t = nl) (h2 : ∀ k, 0 ≤ k → k < nl → cf (16 * t + k) = cf (160 + k)) (h3 : ∀ k, 0 ≤ k → k < nl → ct (16 * t + k) = ct (160 + k)) (h4 : ∀ k, 0 ≤ k → k < np → p (120 * t + k) = p (1200 + k)) : xTr lo cf ct p t := fun k q1 q2 => by
  rw [h1] at q2
  obtain ⟨r1, r2, r3, r4⟩ := h k q1 q2
  unfold xTv
  rw [h2 k q1 q2, h3 k q1 q2]
  refine ⟨r1, r2, by omega, ?_⟩
  rw [xhf_cg (p := p) (F := 1200 + cf (160 + k)) (fun i hi => by
    have := h4 (cf (160 + k) + i) (by omega) (by omega)
    rw [Int.add_assoc, Int.add_assoc]
    exact this)]
  exact r4
set_option maxHeartbeats 4000000 in
set_option maxRecDepth 100000 in
theorem c_X12_emit (l : Launch) (D : va_G) (kA : Nat → ClassId) (b0 : Nat) (t0 : Nat → Nat) (S : xT) (g : xG) (a0 : Nat) (x1 : Int) (x2 : Int) (x3 : Int) (np : Int) (wp : Nat) (hs_a0 : S a0 = some (13, 0)) (hx1 : 0 ≤ x1 ∧ x1 ≤ 15) (hx2 : (-2147483648) ≤ x2 ∧ x2 ≤ 2147483647) (hx3 : (-2147483648) ≤ x3 ∧ x3 ≤ 2147483647) (hnp : 0 ≤ np ∧ np ≤ 119) (enp : g a0 41 = .int (iI np)) (ewp : g a0 35 = .ref wp) (hs_wp : S wp = some (15900, 1320)) : xMt l yX12_emit cX12_emit 5 none 0 0 0 0 D kA b0 t0 [(15900, 0), (16000, 0), (16100, 0), (13, 41)] [.ref a0, .int (iI x1), .int (iI x2), .int (iI x3)] S g (fun (r : Option Value) (S1 : xT) (g1 : xG) => S = S1 ∧ r = none ∧ (g1 a0 41 = .int (iI (np + 1))) ∧ (xUp (xv g1 wp) (xv g wp) (1200 + np) x1)) := by
  refine xEnterV (by decide) (by simp [lg_sl, Value.category]) [(0, .ref a0), (1, .int (iI x1)), (2, .int (iI x2)), (3, .int (iI x3))] rfl ?_
  intro K E hK hret _ _ _
  refine X_sipush hK dX12_emit_0 (by decide) ?_
  refine X_aloadn hK (i := 0) 0 dX12_emit_3 rfl rfl ?_
  refine X_getK hK fl_X12_313_13 hs_a0 enp dX12_emit_4 ?_
  refine X_iadd hK dX12_emit_7 ?_
  refine X_istore hK (i := 4) [(4, .int (iI (1200 + np))), (0, .ref a0), (1, .int (iI x1)), (2, .int (iI x2)), (3, .int (iI x3))] dX12_emit_8 (by decide) rfl ?_
  refine X_aloadn hK (i := 0) 1 dX12_emit_10 rfl rfl ?_
  refine X_getK hK fl_X12_68_13 hs_a0 ewp dX12_emit_11 ?_
  refine X_iload hK (i := 4) 0 dX12_emit_14 rfl ?_
  refine X_iloadn hK (i := 1) 2 dX12_emit_16 rfl rfl ?_
  refine X_iast hK hs_wp (by decide) (by decide) sl_15900 (by omega) (by omega) (by omega) (by omega) dX12_emit_17 (fun g1 hg1 => ?_)
  refine X_aloadn hK (i := 0) 1 dX12_emit_18 rfl rfl ?_
  refine X_getr hK 16000 1320 fl_X12_71_13 hs_a0 sl_13_36 dX12_emit_19 (fun b2 eb2 hs_b2 => ?_)
  refine X_iload hK (i := 4) 0 dX12_emit_22 rfl ?_
  refine X_iloadn hK (i := 2) 3 dX12_emit_24 rfl rfl ?_
  refine X_iast hK hs_b2 (by decide) (by decide) sl_16000 (by omega) (by omega) (by omega) (by omega) dX12_emit_25 (fun g3 hg3 => ?_)
  refine X_aloadn hK (i := 0) 1 dX12_emit_26 rfl rfl ?_
  refine X_getr hK 16100 1320 fl_X12_74_13 hs_a0 sl_13_37 dX12_emit_27 (fun b4 eb4 hs_b4 => ?_)
  refine X_iload hK (i := 4) 0 dX12_emit_30 rfl ?_
  refine X_iloadn hK (i := 3) 4 dX12_emit_32 rfl rfl ?_
  refine X_iast hK hs_b4 (by decide) (by decide) sl_16100 (by omega) (by omega) (by omega) (by omega) dX12_emit_33 (fun g5 hg5 => ?_)
  refine X_aloadn hK (i := 0) 1 dX12_emit_34 rfl rfl ?_
  refine X_dup hK dX12_emit_35 rfl ?_
  refine X_getK hK fl_X12_313_13 hs_a0 ((xs_a hg5 (xne hs_a0 hs_b4 (by decide))).trans ((xs_a hg3 (xne hs_a0 hs_b2 (by decide))).trans ((xs_a hg1 (xne hs_a0 hs_wp (by decide))).trans enp))) dX12_emit_36 ?_
  refine X_iconst hK dX12_emit_39 ?_
  refine X_iadd hK dX12_emit_40 ?_
  refine X_puti hK fl_X12_313_13 hs_a0 (by decide) sl_13_41 (by omega) (by omega) dX12_emit_41 (fun g6 hg6 => ?_)
  exact hret _ _ _ _ _ _ dX12_emit_44 ⟨rfl, rfl, (xs_s hg6), ⟨(show xv g6 wp (1200 + np) = x1 from by rw [(xv_a hg6 (xne hs_wp hs_a0 (by decide))), (xv_a hg5 (xne hs_wp hs_b4 (by decide))), (xv_a hg3 (xne hs_wp hs_b2 (by decide))), xv_s hg1 (by omega)]), (fun i9 hi9 h09 => (show xv g6 wp i9 = xv g wp i9 from by rw [(xv_a hg6 (xne hs_wp hs_a0 (by decide))), (xv_a hg5 (xne hs_wp hs_b4 (by decide))), (xv_a hg3 (xne hs_wp hs_b2 (by decide))), (xv_k (i := i9) hg1 (by omega) (by omega) (by omega))]))⟩⟩ (Nat.le_refl _) (Nat.le_refl _)

set_option maxHeartbeats 4000000 in
set_option maxRecDepth 100000 in
theorem c_X12_drop (l : Launch) (D : va_G) (kA : Nat → ClassId) (b0 : Nat) (t0 : Nat → Nat) (S : xT) (g : xG) (a0 : Nat) (x1 : Int) (x2 : Int) (np : Int) (nt : Int) (no : Int) (nw : Int) (wp : Nat) (wl : Nat) (F9 : Int) (hs_a0 : S a0 = some (13, 0)) (hx1 : 13 ≤ x1 ∧ x1 ≤ 13) (hx2 : 13 ≤ x2 ∧ x2 ≤ 14) (hnp : 0 ≤ np ∧ np ≤ 120) (enp : g a0 41 = .int (iI np)) (hnt : 0 ≤ nt ∧ nt ≤ 64) (ent : g a0 42 = .int (iI nt)) (hno : 0 ≤ no ∧ no ≤ 50) (eno : g a0 43 = .int (iI no)) (hnw : 0 ≤ nw ∧ nw ≤ 10) (enw : g a0 44 = .int (iI nw)) (ewp : g a0 35 = .ref wp) (hs_wp : S wp = some (15900, 1320)) (ewl : g a0 38 = .ref wl) (hs_wl : S wl = some (16200, 64)) (hp0 : xRd (xv g wp) (xv g wl) F9 np nt no nw 0) : xMt l yX12_drop cX12_drop 3 none 1 0 0 24 D kA b0 t0 [(13, 42), (15900, 0), (16000, 0), (16100, 0), (13, 41)] [.ref a0, .int (iI x1), .int (iI x2)] S g (fun (r : Option Value) (S1 : xT) (g1 : xG) => S = S1 ∧ r = none ∧ (∃ a b : Int, g1 a0 41 = .int (iI a) ∧ np ≤ a ∧ a ≤ 120 ∧ g1 a0 42 = .int (iI b) ∧ 0 ≤ b ∧ b ≤ nt ∧ xRd (xv g1 wp) (xv g wl) F9 a b no nw 0 ∧ (b = 0 ∨ xv g wl (b - 1) < 13 ∨ x2 < xv g wl (b - 1)) ∧ (∀ k, b ≤ k → k < nt → 13 ≤ xv g wl k ∧ xv g wl k ≤ x2) ∧ xLow (1200 + F9) (xv g1 wp) (xv g wp))) := by
  refine xEnterV (by decide) (by simp [lg_sl, Value.category]) [(0, .ref a0), (1, .int (iI x1)), (2, .int (iI x2))] rfl ?_
  intro K E hK hret _ _ _
  have P85 : ∀ (nP85 : Nat) (g68 : xG) (_ : xM [(15900, 0), (16000, 0), (16100, 0), (13, 41), (13, 42)] S g g68) (q69 : Int) (_ : 0 ≤ q69) (_ : q69 ≤ 120) (_ : g68 a0 41 = .int (iI q69)) (q70 : Int) (_ : 0 ≤ q70) (_ : q70 ≤ 64) (_ : g68 a0 42 = .int (iI q70)) (_ : xRd (xv g68 wp) (xv g wl) F9 q69 q70 no nw 0) (_ : q70 ≤ nt) (_ : np ≤ q69) (_ : ∀ k, q70 ≤ k → k < nt → 13 ≤ xv g wl k ∧ xv g wl k ≤ x2) (_ : xLow (1200 + F9) (xv g68 wp) (xv g wp)) (_ : q70 < (nP85 : Int)), X K E 0 [(0, .ref a0), (1, .int (iI x1)), (2, .int (iI x2))] [] S g68 0 0 := by
    intro nP85
    induction nP85 with
    | zero => intro g68 hg68 q69 lq69 uq69 eq69 q70 lq70 uq70 eq70 v86 v87 v88 v89 v90 mP85; exact False.elim (by omega)
    | succ nP85 ihP85 =>
      intro g68 hg68 q69 lq69 uq69 eq69 q70 lq70 uq70 eq70 v86 v87 v88 v89 v90 mP85
      refine X_aloadn hK (i := 0) 0 dX12_drop_0 rfl rfl ?_
      have hbh91 := xRd.bd v86 (by omega)
      refine X_getK hK fl_X12_316_13 hs_a0 eq70 dX12_drop_1 ?_
      refine X_if_le hK 54 (by omega) dX12_drop_4 (by decide) (fun c92 => ?_) (fun c92 => ?_)
      · exact hret _ _ _ _ _ _ dX12_drop_54 ⟨rfl, rfl, ⟨q69, q70, eq69, by omega, by omega, eq70, by omega, by omega, v86, by omega, v89, v90⟩⟩ (Nat.le_refl _) (Nat.le_refl _)
      · refine X_aloadn hK (i := 0) 0 dX12_drop_7 rfl rfl ?_
        refine X_getK hK fl_X12_77_13 hs_a0 ((hg68 a0 13 0 38 hs_a0 (by decide)).trans ewl) dX12_drop_8 ?_
        refine X_aloadn hK (i := 0) 0 dX12_drop_11 rfl rfl ?_
        refine X_getK hK fl_X12_316_13 hs_a0 eq70 dX12_drop_12 ?_
        refine X_iconst hK dX12_drop_15 ?_
        refine X_isub hK dX12_drop_16 ?_
        refine X_iald hK hs_wl (by decide) sl_16200 (by omega) (by omega) dX12_drop_17 (fun z93 ez93 lz93 uz93 => ?_)
        have hzh94 : xv g wl (q70 - 1) = z93 := by have h9 := xv_e (j := (q70 - 1)) ez93 (by omega); rw [(xv_m hg68 hs_wl (by decide) (by decide))] at h9; exact h9
        refine X_iloadn hK (i := 1) 1 dX12_drop_18 rfl rfl ?_
        refine X_iloadn hK (i := 2) 2 dX12_drop_19 rfl rfl ?_
        refine X_callS hK [.int (iI z93), .int (iI x1), .int (iI x2)] [] lk_X12_211 (c_X12_isIn _ _ _ _ _ S g68 z93 x1 x2 (by omega) (by omega) (by omega)) dX12_drop_20 rfl rfl (by simp [Value.category]) (by decide) (by decide) (by decide) (by decide) (fun r95 S97 g96 pr95 qr95 hg96 => ?_)
        obtain ⟨rfl, rfl, z98, rfl, lz98, uz98, k99⟩ := pr95
        refine X_st [.int (iI z98)] rfl ?_
        refine X_if_eq hK 54 (by omega) dX12_drop_23 (by decide) (fun c100 => ?_) (fun c100 => ?_)
        · exact hret _ _ _ _ _ _ dX12_drop_54 ⟨rfl, rfl, ⟨q69, q70, eq69, by omega, by omega, eq70, by omega, by omega, v86, by omega, v89, v90⟩⟩ (Nat.le_refl _) (Nat.le_refl _)
        · refine X_aloadn hK (i := 0) 0 dX12_drop_26 rfl rfl ?_
          refine X_dup hK dX12_drop_27 rfl ?_
          refine X_getK hK fl_X12_316_13 hs_a0 eq70 dX12_drop_28 ?_
          refine X_iconst hK dX12_drop_31 ?_
          refine X_isub hK dX12_drop_32 ?_
          refine X_puti hK fl_X12_316_13 hs_a0 (by decide) sl_13_42 (by omega) (by omega) dX12_drop_33 (fun g101 hg101 => ?_)
          refine X_aloadn hK (i := 0) 0 dX12_drop_36 rfl rfl ?_
          refine X_aloadn hK (i := 0) 0 dX12_drop_37 rfl rfl ?_
          refine X_getK hK fl_X12_77_13 hs_a0 ((xs_k hg101 (by decide)).trans ((hg68 a0 13 0 38 hs_a0 (by decide)).trans ewl)) dX12_drop_38 ?_
          refine X_aloadn hK (i := 0) 0 dX12_drop_41 rfl rfl ?_
          refine X_getK hK fl_X12_316_13 hs_a0 (xs_s hg101) dX12_drop_42 ?_
          refine X_ialdK hK hs_wl (by decide) (by omega) (by omega) ((xs_a hg101 (xne hs_wl hs_a0 (by decide))).trans ez93) dX12_drop_45 ?_
          have hzh102 : xv g wl (q70 - 1) = z93 := by have h9 := xv_e (j := (q70 - 1)) ((xs_a hg101 (xne hs_wl hs_a0 (by decide))).trans ez93) (by omega); rw [(Eq.trans (xv_a hg101 (xne hs_wl hs_a0 (by decide))) (xv_m hg68 hs_wl (by decide) (by decide)))] at h9; exact h9
          refine X_iconst hK dX12_drop_46 ?_
          refine X_iconst hK dX12_drop_47 ?_
          refine X_callV hK [.int (iI z93), .int (iI 0), .int (iI 0)] [] lk_X12_319 (c_X12_emit _ _ _ _ _ S g101 a0 z93 0 0 q69 wp hs_a0 (by omega) (by omega) (by omega) (by omega) ((xs_k hg101 (by decide)).trans eq69) ((xs_k hg101 (by decide)).trans ((hg68 a0 13 0 35 hs_a0 (by decide)).trans ewp)) hs_wp) hs_a0 ⟨by decide, rfl⟩ dX12_drop_48 rfl rfl (by simp [Value.category]) (by decide) (by decide) (by decide) (by decide) (fun r103 S105 g104 pr103 qr103 hg104 => ?_)
          obtain ⟨rfl, rfl, k106, k107⟩ := pr103
          refine X_st [] rfl ?_
          refine X_goto hK 0 dX12_drop_51 (by decide) ?_
          exact ihP85  g104 (xM.tr (xM_up (xM.tr xM.rf xLe.rf hg68 (by decide)) hg101 hs_a0 (by decide) (by decide)) xLe.rf hg104 (by decide)) (q69 + 1) (by omega) (by omega) k106 (q70 - 1) (by omega) (by omega) ((hg104 a0 13 0 42 hs_a0 (by decide)).trans (xs_s hg101)) (xRd.join v86 (by omega) (by omega) (by omega) (by have h9 := k107; rw [(xv_a hg101 (xne hs_wp hs_a0 (by decide)))] at h9; exact h9)) (by omega) (by omega) (fun k q1 q2 => by rcases (show k = (q70 - 1) ∨ (q70 - 1) < k by omega) with c9 | c9 <;> first | (rw [c9]; omega) | exact v89 k (by omega) q2) (xLow.up v90 (by have h9 := k107; rw [(xv_a hg101 (xne hs_wp hs_a0 (by decide)))] at h9; exact h9) (by omega)) (by omega)
  exact P85 ((nt : Int).toNat + 1) g xM.rf np (by omega) (by omega) enp nt (by omega) (by omega) ent hp0 (by omega) (by omega) (fun k q1 q2 => by omega) xLow.rf (by omega)

set_option maxHeartbeats 4000000 in
set_option maxRecDepth 100000 in
theorem c_X12_dropNots (l : Launch) (D : va_G) (kA : Nat → ClassId) (b0 : Nat) (t0 : Nat → Nat) (S : xT) (g : xG) (a0 : Nat) (np : Int) (nt : Int) (no : Int) (nw : Int) (wp : Nat) (wl : Nat) (F9 : Int) (hs_a0 : S a0 = some (13, 0)) (hnp : 0 ≤ np ∧ np ≤ 120) (enp : g a0 41 = .int (iI np)) (hnt : 0 ≤ nt ∧ nt ≤ 64) (ent : g a0 42 = .int (iI nt)) (hno : 0 ≤ no ∧ no ≤ 50) (eno : g a0 43 = .int (iI no)) (hnw : 0 ≤ nw ∧ nw ≤ 10) (enw : g a0 44 = .int (iI nw)) (ewp : g a0 35 = .ref wp) (hs_wp : S wp = some (15900, 1320)) (ewl : g a0 38 = .ref wl) (hs_wl : S wl = some (16200, 64)) (hp0 : xRd (xv g wp) (xv g wl) F9 np nt no nw 0) : xMt l yX12_dropNots cX12_dropNots 1 none 1 0 0 24 D kA b0 t0 [(13, 42), (13, 44), (15900, 0), (16000, 0), (16100, 0), (13, 41)] [.ref a0] S g (fun (r : Option Value) (S1 : xT) (g1 : xG) => S = S1 ∧ r = none ∧ (∃ a b c : Int, g1 a0 41 = .int (iI a) ∧ np ≤ a ∧ a ≤ 120 ∧ g1 a0 42 = .int (iI b) ∧ 0 ≤ b ∧ b ≤ nt ∧ g1 a0 44 = .int (iI c) ∧ 0 ≤ c ∧ c ≤ 10 ∧ xRd (xv g1 wp) (xv g wl) F9 a b no c 0 ∧ xLow (1200 + F9) (xv g1 wp) (xv g wp))) := by
  refine xEnterV (by decide) (by simp [lg_sl, Value.category]) [(0, .ref a0)] rfl ?_
  intro K E hK hret _ _ _
  have P70 : ∀ (nP70 : Nat) (g56 : xG) (_ : xM [(15900, 0), (16000, 0), (16100, 0), (13, 41), (13, 44), (13, 42)] S g g56) (q57 : Int) (_ : 0 ≤ q57) (_ : q57 ≤ 120) (_ : g56 a0 41 = .int (iI q57)) (q58 : Int) (_ : 0 ≤ q58) (_ : q58 ≤ 64) (_ : g56 a0 42 = .int (iI q58)) (q59 : Int) (_ : 0 ≤ q59) (_ : q59 ≤ 10) (_ : g56 a0 44 = .int (iI q59)) (_ : xRd (xv g56 wp) (xv g wl) F9 q57 q58 no q59 0) (_ : q58 ≤ nt) (_ : np ≤ q57) (_ : xLow (1200 + F9) (xv g56 wp) (xv g wp)) (_ : q58 < (nP70 : Int)), X K E 0 [(0, .ref a0)] [] S g56 0 0 := by
    intro nP70
    induction nP70 with
    | zero => intro g56 hg56 q57 lq57 uq57 eq57 q58 lq58 uq58 eq58 q59 lq59 uq59 eq59 v71 v72 v73 v74 mP70; exact False.elim (by omega)
    | succ nP70 ihP70 =>
      intro g56 hg56 q57 lq57 uq57 eq57 q58 lq58 uq58 eq58 q59 lq59 uq59 eq59 v71 v72 v73 v74 mP70
      refine X_aloadn hK (i := 0) 0 dX12_dropNots_0 rfl rfl ?_
      have hbh75 := xRd.bd v71 (by omega)
      refine X_getK hK fl_X12_316_13 hs_a0 eq58 dX12_dropNots_1 ?_
      refine X_if_le hK 54 (by omega) dX12_dropNots_4 (by decide) (fun c76 => ?_) (fun c76 => ?_)
      · exact hret _ _ _ _ _ _ dX12_dropNots_54 ⟨rfl, rfl, ⟨q57, q58, q59, eq57, by omega, by omega, eq58, by omega, by omega, eq59, by omega, by omega, v71, v74⟩⟩ (Nat.le_refl _) (Nat.le_refl _)
      · refine X_aloadn hK (i := 0) 0 dX12_dropNots_7 rfl rfl ?_
        refine X_getK hK fl_X12_77_13 hs_a0 ((hg56 a0 13 0 38 hs_a0 (by decide)).trans ewl) dX12_dropNots_8 ?_
        refine X_aloadn hK (i := 0) 0 dX12_dropNots_11 rfl rfl ?_
        refine X_getK hK fl_X12_316_13 hs_a0 eq58 dX12_dropNots_12 ?_
        refine X_iconst hK dX12_dropNots_15 ?_
        refine X_isub hK dX12_dropNots_16 ?_
        refine X_iald hK hs_wl (by decide) sl_16200 (by omega) (by omega) dX12_dropNots_17 (fun z77 ez77 lz77 uz77 => ?_)
        have hzh78 : xv g wl (q58 - 1) = z77 := by have h9 := xv_e (j := (q58 - 1)) ez77 (by omega); rw [(xv_m hg56 hs_wl (by decide) (by decide))] at h9; exact h9
        refine X_bipush hK dX12_dropNots_18 (by decide) ?_
        refine X_icmp_ne hK 54 (by omega) (by omega) dX12_dropNots_20 (by decide) (fun c79 => ?_) (fun c79 => ?_)
        · exact hret _ _ _ _ _ _ dX12_dropNots_54 ⟨rfl, rfl, ⟨q57, q58, q59, eq57, by omega, by omega, eq58, by omega, by omega, eq59, by omega, by omega, v71, v74⟩⟩ (Nat.le_refl _) (Nat.le_refl _)
        · refine X_aloadn hK (i := 0) 0 dX12_dropNots_23 rfl rfl ?_
          refine X_dup hK dX12_dropNots_24 rfl ?_
          refine X_getK hK fl_X12_316_13 hs_a0 eq58 dX12_dropNots_25 ?_
          refine X_iconst hK dX12_dropNots_28 ?_
          refine X_isub hK dX12_dropNots_29 ?_
          refine X_puti hK fl_X12_316_13 hs_a0 (by decide) sl_13_42 (by omega) (by omega) dX12_dropNots_30 (fun g80 hg80 => ?_)
          refine X_aloadn hK (i := 0) 0 dX12_dropNots_33 rfl rfl ?_
          refine X_dup hK dX12_dropNots_34 rfl ?_
          refine X_getK hK fl_X12_339_13 hs_a0 ((xs_k hg80 (by decide)).trans eq59) dX12_dropNots_35 ?_
          refine X_iconst hK dX12_dropNots_38 ?_
          refine X_isub hK dX12_dropNots_39 ?_
          refine X_puti hK fl_X12_339_13 hs_a0 (by decide) sl_13_44 (by omega) (by omega) dX12_dropNots_40 (fun g81 hg81 => ?_)
          refine X_aloadn hK (i := 0) 0 dX12_dropNots_43 rfl rfl ?_
          refine X_bipush hK dX12_dropNots_44 (by decide) ?_
          refine X_iconst hK dX12_dropNots_46 ?_
          refine X_iconst hK dX12_dropNots_47 ?_
          refine X_callV hK [.int (iI 12), .int (iI 0), .int (iI 0)] [] lk_X12_319 (c_X12_emit _ _ _ _ _ S g81 a0 12 0 0 q57 wp hs_a0 (by omega) (by omega) (by omega) (by omega) ((xs_k hg81 (by decide)).trans ((xs_k hg80 (by decide)).trans eq57)) ((xs_k hg81 (by decide)).trans ((xs_k hg80 (by decide)).trans ((hg56 a0 13 0 35 hs_a0 (by decide)).trans ewp))) hs_wp) hs_a0 ⟨by decide, rfl⟩ dX12_dropNots_48 rfl rfl (by simp [Value.category]) (by decide) (by decide) (by decide) (by decide) (fun r82 S84 g83 pr82 qr82 hg83 => ?_)
          obtain ⟨rfl, rfl, k85, k86⟩ := pr82
          refine X_st [] rfl ?_
          refine X_goto hK 0 dX12_dropNots_51 (by decide) ?_
          exact ihP70  g83 (xM.tr (xM_up (xM_up (xM.tr xM.rf xLe.rf hg56 (by decide)) hg80 hs_a0 (by decide) (by decide)) hg81 hs_a0 (by decide) (by decide)) xLe.rf hg83 (by decide)) (q57 + 1) (by omega) (by omega) k85 (q58 - 1) (by omega) (by omega) ((hg83 a0 13 0 42 hs_a0 (by decide)).trans ((xs_k hg81 (by decide)).trans (xs_s hg80))) (q59 - 1) (by omega) (by omega) ((hg83 a0 13 0 44 hs_a0 (by decide)).trans (xs_s hg81)) (xRd.not v71 (by omega) (by omega) (by have h9 := k86; rw [(Eq.trans (xv_a hg81 (xne hs_wp hs_a0 (by decide))) (xv_a hg80 (xne hs_wp hs_a0 (by decide))))] at h9; exact h9)) (by omega) (by omega) (xLow.up v74 (by have h9 := k86; rw [(Eq.trans (xv_a hg81 (xne hs_wp hs_a0 (by decide))) (xv_a hg80 (xne hs_wp hs_a0 (by decide))))] at h9; exact h9) (by omega)) (by omega)
  exact P70 ((nt : Int).toNat + 1) g xM.rf np (by omega) (by omega) enp nt (by omega) (by omega) ent nw (by omega) (by omega) enw hp0 (by omega) (by omega) xLow.rf (by omega)

set_option maxHeartbeats 4000000 in
set_option maxRecDepth 100000 in
theorem c2_isOpen (l : Launch) (D : va_G) (kA : Nat → ClassId) (b0 : Nat) (t0 : Nat → Nat) (S : xT) (g : xG) (a0 : Nat) (nt : Int) (wl : Nat) (hs_a0 : S a0 = some (13, 0)) (hnt : 0 ≤ nt ∧ nt ≤ 64) (ent : g a0 42 = .int (iI nt)) (ewl : g a0 38 = .ref wl) (hs_wl : S wl = some (16200, 64)) : xMt l yX12_isOpen cX12_isOpen 2 (some .boolean) 0 0 0 0 D kA b0 t0 [] [.ref a0] S g (fun (r : Option Value) (S1 : xT) (g1 : xG) => S = S1 ∧ g = g1 ∧ ∃ z : Int, r = some (.int (iI z)) ∧ 0 ≤ z ∧ z ≤ 1 ∧ (z = 1 → ∃ k : Int, 0 ≤ k ∧ k < nt ∧ xv g wl k = 15)) := by
  refine xEnterZ (by decide) (by simp [lg_sl, Value.category]) [(0, .ref a0)] rfl ?_
  intro K E hK hret _ _ _
  refine X_iconst hK dX12_isOpen_0 ?_
  refine X_istoren hK (i := 1) [(1, .int (iI 0)), (0, .ref a0)] dX12_isOpen_1 rfl (by decide) rfl ?_
  have P25 : ∀ (nP25 : Nat) (z21 : Int) (_ : 0 ≤ z21) (_ : z21 ≤ 64) (_ : 80 - z21 < (nP25 : Int)), X K E 2 [(1, .int (iI z21)), (0, .ref a0)] [] S g 0 0 := by
    intro nP25
    induction nP25 with
    | zero => intro z21 lz21 uz21 mP25; exact False.elim (by omega)
    | succ nP25 ihP25 =>
      intro z21 lz21 uz21 mP25
      refine X_iloadn hK (i := 1) 0 dX12_isOpen_2 rfl rfl ?_
      refine X_aloadn hK (i := 0) 1 dX12_isOpen_3 rfl rfl ?_
      refine X_getK hK fl_X12_316_13 hs_a0 ent dX12_isOpen_4 ?_
      refine X_icmp_ge hK 29 (by omega) (by omega) dX12_isOpen_7 (by decide) (fun c26 => ?_) (fun c26 => ?_)
      · refine X_iconst hK dX12_isOpen_29 ?_
        exact hret _ _ _ _ _ _ _ dX12_isOpen_30 (by omega) (by omega) ⟨rfl, rfl, 0, rfl, (by omega), (by omega), (fun h => by omega)⟩ (Nat.le_refl _) (Nat.le_refl _)
      · refine X_aloadn hK (i := 0) 1 dX12_isOpen_10 rfl rfl ?_
        refine X_getK hK fl_X12_77_13 hs_a0 ewl dX12_isOpen_11 ?_
        refine X_iloadn hK (i := 1) 0 dX12_isOpen_14 rfl rfl ?_
        refine X_iald hK hs_wl (by decide) sl_16200 (by omega) (by omega) dX12_isOpen_15 (fun z27 ez27 lz27 uz27 => ?_)
        have hvz27 := xv_e (j := z21) ez27 (by omega)
        refine X_bipush hK dX12_isOpen_16 (by decide) ?_
        refine X_icmp_ne hK 23 (by omega) (by omega) dX12_isOpen_18 (by decide) (fun c28 => ?_) (fun c28 => ?_)
        · refine X_iinc hK (i := 1) (z := z21) (n := 1) 0 [(1, .int (iI (z21 + 1))), (0, .ref a0)] dX12_isOpen_23 rfl (by decide) rfl ?_
          refine X_goto hK 2 dX12_isOpen_26 (by decide) ?_
          exact ihP25  (z21 + 1) (by omega) (by omega) (by omega)
        · refine X_iconst hK dX12_isOpen_21 ?_
          exact hret _ _ _ _ _ _ _ dX12_isOpen_22 (by omega) (by omega) ⟨rfl, rfl, 1, rfl, (by omega), (by omega), (fun _ => ⟨z21, by omega, by omega, by omega⟩)⟩ (Nat.le_refl _) (Nat.le_refl _)
  exact P25 ((80 - 0 : Int).toNat + 1) 0 (by omega) (by omega) (by omega)

set_option maxHeartbeats 4000000 in
set_option maxRecDepth 100000 in
theorem c_X12_readOne (l : Launch) (D : va_G) (kA : Nat → ClassId) (b0 : Nat) (t0 : Nat → Nat) (S : xT) (g : xG) (a0 : Nat) (np : Int) (nt : Int) (no : Int) (nw : Int) (wp : Nat) (wl : Nat) (F9 : Int) (hs_a0 : S a0 = some (13, 0)) (hnp : 0 ≤ np ∧ np ≤ 120) (enp : g a0 41 = .int (iI np)) (hnt : 0 ≤ nt ∧ nt ≤ 64) (ent : g a0 42 = .int (iI nt)) (hno : 0 ≤ no ∧ no ≤ 50) (eno : g a0 43 = .int (iI no)) (hnw : 0 ≤ nw ∧ nw ≤ 10) (enw : g a0 44 = .int (iI nw)) (ewp : g a0 35 = .ref wp) (hs_wp : S wp = some (15900, 1320)) (ewl : g a0 38 = .ref wl) (hs_wl : S wl = some (16200, 64)) (hp0 : xRd (xv g wp) (xv g wl) F9 np nt no nw 1) : xMt l yX12_readOne cX12_readOne 3 (some .boolean) 2 0 0 46 D kA b0 t0 [(13, 25), (13, 26), (13, 43), (13, 20), (13, 21), (13, 28), (13, 23), (13, 22), (13, 24), (15900, 0), (16000, 0), (16100, 0), (13, 41), (13, 42), (13, 44), (16200, 0)] [.ref a0] S g (fun (r : Option Value) (S1 : xT) (g1 : xG) => S = S1 ∧ ∃ z : Int, r = some (.int (iI z)) ∧ 0 ≤ z ∧ z ≤ 1 ∧ (∃ a b c d : Int, g1 a0 41 = .int (iI a) ∧ 0 ≤ a ∧ a ≤ 120 ∧ g1 a0 42 = .int (iI b) ∧ 0 ≤ b ∧ b ≤ 64 ∧ g1 a0 43 = .int (iI d) ∧ no ≤ d ∧ d ≤ 50 ∧ g1 a0 44 = .int (iI c) ∧ 0 ≤ c ∧ c ≤ 10 ∧ (z = 1 → xRd (xv g1 wp) (xv g1 wl) F9 a b d c 0 ∧ no < d) ∧ xLow (1200 + F9) (xv g1 wp) (xv g wp))) := by
  refine xEnterZ (by decide) (by simp [lg_sl, Value.category]) [(0, .ref a0)] rfl ?_
  intro K E hK hret _ _ _
  have P1020 : ∀ (nP1020 : Nat) (g816 : xG) (_ : xM [(13, 20), (13, 21), (13, 28), (13, 23), (13, 22), (13, 24), (13, 42), (16200, 0), (13, 44), (13, 43)] S g g816) (q817 : Int) (_ : 0 ≤ q817) (_ : q817 ≤ 64) (_ : g816 a0 42 = .int (iI q817)) (q818 : Int) (_ : 0 ≤ q818) (_ : q818 ≤ 50) (_ : g816 a0 43 = .int (iI q818)) (q819 : Int) (_ : 0 ≤ q819) (_ : q819 ≤ 10) (_ : g816 a0 44 = .int (iI q819)) (_ : xRd (xv g wp) (xv g816 wl) F9 np q817 q818 q819 1) (_ : no ≤ q818) (_ : 50 - q818 < (nP1020 : Int)), X K E 0 [(0, .ref a0)] [] S g816 0 0 := by
    intro nP1020
    induction nP1020 with
    | zero => intro g816 hg816 q817 lq817 uq817 eq817 q818 lq818 uq818 eq818 q819 lq819 uq819 eq819 v1021 v1022 mP1020; exact False.elim (by omega)
    | succ nP1020 ihP1020 =>
      intro g816 hg816 q817 lq817 uq817 eq817 q818 lq818 uq818 eq818 q819 lq819 uq819 eq819 v1021 v1022 mP1020
      refine X_aloadn hK (i := 0) 0 dX12_readOne_0 rfl rfl ?_
      have hbh1023 := xRd.bd v1021 (by omega)
      refine X_callV hK [] [] lk_X12_323 (c_X12_atom _ _ _ _ _ S g816 a0 hs_a0) hs_a0 ⟨by decide, rfl⟩ dX12_readOne_1 rfl rfl (by simp [Value.category]) (by decide) (by decide) (by decide) (by decide) (fun r1024 S1026 g1025 pr1024 qr1024 hg1025 => ?_)
      obtain ⟨rfl, rfl, z1027, rfl, lz1027, uz1027⟩ := pr1024
      refine X_st [.int (iI z1027)] rfl ?_
      refine X_istoren hK (i := 1) [(1, .int (iI z1027)), (0, .ref a0)] dX12_readOne_4 rfl (by decide) rfl ?_
      refine X_iloadn hK (i := 1) 0 dX12_readOne_5 rfl rfl ?_
      refine X_iconst hK dX12_readOne_6 ?_
      refine X_icmp_ne hK 32 (by omega) (by omega) dX12_readOne_7 (by decide) (fun c1028 => ?_) (fun c1028 => ?_)
      · refine X_aloadn hK (i := 0) 1 dX12_readOne_32 rfl rfl ?_
        refine X_getK hK fl_X12_336_13 hs_a0 eq818 dX12_readOne_33 ?_
        refine X_bipush hK dX12_readOne_36 (by decide) ?_
        refine X_icmp_eq hK 50 (by omega) (by omega) dX12_readOne_38 (by decide) (fun c1029 => ?_) (fun c1029 => ?_)
        · refine X_aloadn hK (i := 0) 1 dX12_readOne_50 rfl rfl ?_
          refine X_iconst hK dX12_readOne_51 ?_
          refine X_callV hK [.int (iI 4)] [] lk_X12_333 (c_X12_bad _ _ _ _ _ S g816 a0 4 hs_a0 (by omega)) hs_a0 ⟨by decide, rfl⟩ dX12_readOne_52 rfl rfl (by simp [Value.category]) (by decide) (by decide) (by decide) (by decide) (fun r1030 S1032 g1031 pr1030 qr1030 hg1031 => ?_)
          obtain ⟨rfl, z1033, rfl, lz1033, uz1033⟩ := pr1030
          refine X_st [.int (iI z1033)] rfl ?_
          exact hret _ _ _ _ _ _ _ dX12_readOne_55 (by omega) (by omega) ⟨rfl, z1033, rfl, (by omega), (by omega), ⟨np, q817, q819, q818, ((hg1031 a0 13 0 41 hs_a0 (by decide)).trans ((hg816 a0 13 0 41 hs_a0 (by decide)).trans enp)), by omega, by omega, ((hg1031 a0 13 0 42 hs_a0 (by decide)).trans eq817), by omega, by omega, ((hg1031 a0 13 0 43 hs_a0 (by decide)).trans eq818), by omega, by omega, ((hg1031 a0 13 0 44 hs_a0 (by decide)).trans eq819), by omega, by omega, (fun h => by omega), (by rw [(Eq.trans (xv_m hg1031 hs_wp (by decide) (by decide)) (xv_m hg816 hs_wp (by decide) (by decide)))]; exact xLow.rf)⟩⟩ (Nat.le_refl _) (Nat.le_refl _)
        · refine X_aloadn hK (i := 0) 1 dX12_readOne_41 rfl rfl ?_
          refine X_getK hK fl_X12_339_13 hs_a0 eq819 dX12_readOne_42 ?_
          refine X_bipush hK dX12_readOne_45 (by decide) ?_
          refine X_icmp_ne hK 56 (by omega) (by omega) dX12_readOne_47 (by decide) (fun c1034 => ?_) (fun c1034 => ?_)
          · refine X_aloadn hK (i := 0) 1 dX12_readOne_56 rfl rfl ?_
            refine X_dup hK dX12_readOne_57 rfl ?_
            refine X_getK hK fl_X12_336_13 hs_a0 eq818 dX12_readOne_58 ?_
            refine X_iconst hK dX12_readOne_61 ?_
            refine X_iadd hK dX12_readOne_62 ?_
            refine X_puti hK fl_X12_336_13 hs_a0 (by decide) sl_13_43 (by omega) (by omega) dX12_readOne_63 (fun g1035 hg1035 => ?_)
            refine X_iloadn hK (i := 1) 0 dX12_readOne_66 rfl rfl ?_
            refine X_iconst hK dX12_readOne_67 ?_
            refine X_icmp_ne hK 121 (by omega) (by omega) dX12_readOne_68 (by decide) (fun c1036 => ?_) (fun c1036 => False.elim (by omega))
            refine X_aloadn hK (i := 0) 1 dX12_readOne_121 rfl rfl ?_
            refine X_callV hK [] [] lk_X12_342 (c_X12_go _ _ _ _ _ S g1035 a0 hs_a0) hs_a0 ⟨by decide, rfl⟩ dX12_readOne_122 rfl rfl (by simp [Value.category]) (by decide) (by decide) (by decide) (by decide) (fun r1037 S1039 g1038 pr1037 qr1037 hg1038 => ?_)
            obtain ⟨rfl, rfl⟩ := pr1037
            refine X_st [] rfl ?_
            refine X_iloadn hK (i := 1) 0 dX12_readOne_125 rfl rfl ?_
            refine X_iconst hK dX12_readOne_126 ?_
            refine X_icmp_ge hK 140 (by omega) (by omega) dX12_readOne_127 (by decide) (fun c1040 => ?_) (fun c1040 => ?_)
            · refine X_aloadn hK (i := 0) 1 dX12_readOne_140 rfl rfl ?_
              refine X_bipush hK dX12_readOne_141 (by decide) ?_
              refine X_callV hK [.int (iI 60)] [] lk_X12_330 (c_X12_isSign _ _ _ _ _ S g1038 a0 60 hs_a0 (by omega)) hs_a0 ⟨by decide, rfl⟩ dX12_readOne_143 rfl rfl (by simp [Value.category]) (by decide) (by decide) (by decide) (by decide) (fun r1041 S1043 g1042 pr1041 qr1041 hg1042 => ?_)
              obtain ⟨rfl, rfl, z1044, rfl, lz1044, uz1044⟩ := pr1041
              refine X_st [.int (iI z1044)] rfl ?_
              refine X_if_ne hK 173 (by omega) dX12_readOne_146 (by decide) (fun c1045 => ?_) (fun c1045 => ?_)
              · refine X_aloadn hK (i := 0) 1 dX12_readOne_173 rfl rfl ?_
                refine X_geti hK fl_X12_274_13 hs_a0 sl_13_24 dX12_readOne_174 (fun z1046 ez1046 lz1046 uz1046 => ?_)
                refine X_istoren hK (i := 2) [(2, .int (iI z1046)), (1, .int (iI z1027)), (0, .ref a0)] dX12_readOne_177 rfl (by decide) rfl ?_
                refine X_aloadn hK (i := 0) 2 dX12_readOne_178 rfl rfl ?_
                refine X_callV hK [] [] lk_X12_342 (c_X12_go _ _ _ _ _ S g1038 a0 hs_a0) hs_a0 ⟨by decide, rfl⟩ dX12_readOne_179 rfl rfl (by simp [Value.category]) (by decide) (by decide) (by decide) (by decide) (fun r1047 S1049 g1048 pr1047 qr1047 hg1048 => ?_)
                obtain ⟨rfl, rfl⟩ := pr1047
                refine X_st [] rfl ?_
                refine X_aloadn hK (i := 0) 2 dX12_readOne_182 rfl rfl ?_
                refine X_geti hK fl_X12_262_13 hs_a0 sl_13_22 dX12_readOne_183 (fun z1050 ez1050 lz1050 uz1050 => ?_)
                refine X_iconst hK dX12_readOne_186 ?_
                refine X_icmp_eq hK 196 (by omega) (by omega) dX12_readOne_187 (by decide) (fun c1051 => ?_) (fun c1051 => ?_)
                · refine X_aloadn hK (i := 0) 2 dX12_readOne_196 rfl rfl ?_
                  refine X_iloadn hK (i := 1) 1 dX12_readOne_197 rfl rfl ?_
                  refine X_iloadn hK (i := 2) 0 dX12_readOne_198 rfl rfl ?_
                  refine X_aloadn hK (i := 0) 2 dX12_readOne_199 rfl rfl ?_
                  refine X_geti hK fl_X12_281_13 hs_a0 sl_13_23 dX12_readOne_200 (fun z1052 ez1052 lz1052 uz1052 => ?_)
                  refine X_callV hK [.int (iI z1027), .int (iI z1046), .int (iI z1052)] [] lk_X12_319 (c_X12_emit _ _ _ _ _ S g1048 a0 z1027 z1046 z1052 np wp hs_a0 (by omega) (by omega) (by omega) (by omega) ((hg1048 a0 13 0 41 hs_a0 (by decide)).trans ((hg1038 a0 13 0 41 hs_a0 (by decide)).trans ((xs_k hg1035 (by decide)).trans ((hg816 a0 13 0 41 hs_a0 (by decide)).trans enp)))) ((hg1048 a0 13 0 35 hs_a0 (by decide)).trans ((hg1038 a0 13 0 35 hs_a0 (by decide)).trans ((xs_k hg1035 (by decide)).trans ((hg816 a0 13 0 35 hs_a0 (by decide)).trans ewp)))) hs_wp) hs_a0 ⟨by decide, rfl⟩ dX12_readOne_203 rfl rfl (by simp [Value.category]) (by decide) (by decide) (by decide) (by decide) (fun r1053 S1055 g1054 pr1053 qr1053 hg1054 => ?_)
                  obtain ⟨rfl, rfl, k1056, k1057⟩ := pr1053
                  refine X_st [] rfl ?_
                  have uR1058 : xUp (xv g1054 wp) (xv g wp) (1200 + np) z1027 := (by have h9 := k1057; rw [(Eq.trans (Eq.trans (Eq.trans (xv_m hg1048 hs_wp (by decide) (by decide)) (xv_m hg1038 hs_wp (by decide) (by decide))) (xv_a hg1035 (xne hs_wp hs_a0 (by decide)))) (xv_m hg816 hs_wp (by decide) (by decide)))] at h9; exact h9)
                  have R1058 : xRd (xv g1054 wp) (xv g816 wl) F9 (np + 1) q817 (q818 + 1) q819 0 := xRd.atom v1021 (by omega) (by omega) uR1058
                  have hbR1058 := xRd.bd R1058 (by omega)
                  refine X_aloadn hK (i := 0) 2 dX12_readOne_206 rfl rfl ?_
                  refine X_callV hK [] [] lk_X12_342 (c_X12_go _ _ _ _ _ S g1054 a0 hs_a0) hs_a0 ⟨by decide, rfl⟩ dX12_readOne_207 rfl rfl (by simp [Value.category]) (by decide) (by decide) (by decide) (by decide) (fun r1059 S1061 g1060 pr1059 qr1059 hg1060 => ?_)
                  obtain ⟨rfl, rfl⟩ := pr1059
                  refine X_st [] rfl ?_
                  refine X_goto hK 213 dX12_readOne_210 (by decide) ?_
                  refine X_aloadn hK (i := 0) 2 dX12_readOne_213 rfl rfl ?_
                  refine X_callV hK [] [] lk_X12_345 (c_X12_dropNots _ _ _ _ _ S g1060 a0 (np + 1) q817 (q818 + 1) q819 wp wl F9 hs_a0 (by omega) ((hg1060 a0 13 0 41 hs_a0 (by decide)).trans k1056) (by omega) ((hg1060 a0 13 0 42 hs_a0 (by decide)).trans ((hg1054 a0 13 0 42 hs_a0 (by decide)).trans ((hg1048 a0 13 0 42 hs_a0 (by decide)).trans ((hg1038 a0 13 0 42 hs_a0 (by decide)).trans ((xs_k hg1035 (by decide)).trans eq817))))) (by omega) ((hg1060 a0 13 0 43 hs_a0 (by decide)).trans ((hg1054 a0 13 0 43 hs_a0 (by decide)).trans ((hg1048 a0 13 0 43 hs_a0 (by decide)).trans ((hg1038 a0 13 0 43 hs_a0 (by decide)).trans (xs_s hg1035))))) (by omega) ((hg1060 a0 13 0 44 hs_a0 (by decide)).trans ((hg1054 a0 13 0 44 hs_a0 (by decide)).trans ((hg1048 a0 13 0 44 hs_a0 (by decide)).trans ((hg1038 a0 13 0 44 hs_a0 (by decide)).trans ((xs_k hg1035 (by decide)).trans eq819))))) ((hg1060 a0 13 0 35 hs_a0 (by decide)).trans ((hg1054 a0 13 0 35 hs_a0 (by decide)).trans ((hg1048 a0 13 0 35 hs_a0 (by decide)).trans ((hg1038 a0 13 0 35 hs_a0 (by decide)).trans ((xs_k hg1035 (by decide)).trans ((hg816 a0 13 0 35 hs_a0 (by decide)).trans ewp)))))) hs_wp ((hg1060 a0 13 0 38 hs_a0 (by decide)).trans ((hg1054 a0 13 0 38 hs_a0 (by decide)).trans ((hg1048 a0 13 0 38 hs_a0 (by decide)).trans ((hg1038 a0 13 0 38 hs_a0 (by decide)).trans ((xs_k hg1035 (by decide)).trans ((hg816 a0 13 0 38 hs_a0 (by decide)).trans ewl)))))) hs_wl (by rw [(xv_m hg1060 hs_wp (by decide) (by decide)), (Eq.trans (Eq.trans (Eq.trans (Eq.trans (xv_m hg1060 hs_wl (by decide) (by decide)) (xv_m hg1054 hs_wl (by decide) (by decide))) (xv_m hg1048 hs_wl (by decide) (by decide))) (xv_m hg1038 hs_wl (by decide) (by decide))) (xv_a hg1035 (xne hs_wl hs_a0 (by decide))))]; exact R1058)) hs_a0 ⟨by decide, rfl⟩ dX12_readOne_214 rfl rfl (by simp [Value.category]) (by decide) (by decide) (by decide) (by decide) (fun r1062 S1064 g1063 pr1062 qr1062 hg1063 => ?_)
                  obtain ⟨rfl, rfl, k1065⟩ := pr1062
                  refine X_st [] rfl ?_
                  obtain ⟨z1066, z1067, z1068, ez1066, lz1066, uz1066, ez1067, lz1067, uz1067, ez1068, lz1068, uz1068, Rz1066, oz1066⟩ := k1065
                  have hbz1066 := xRd.bd Rz1066 (by omega)
                  refine X_iconst hK dX12_readOne_217 ?_
                  exact hret _ _ _ _ _ _ _ dX12_readOne_218 (by omega) (by omega) ⟨rfl, 1, rfl, (by omega), (by omega), ⟨z1066, z1067, z1068, (q818 + 1), ez1066, by omega, by omega, ez1067, by omega, by omega, ((hg1063 a0 13 0 43 hs_a0 (by decide)).trans ((hg1060 a0 13 0 43 hs_a0 (by decide)).trans ((hg1054 a0 13 0 43 hs_a0 (by decide)).trans ((hg1048 a0 13 0 43 hs_a0 (by decide)).trans ((hg1038 a0 13 0 43 hs_a0 (by decide)).trans (xs_s hg1035)))))), by omega, by omega, ez1068, by omega, by omega, (fun _ => ⟨(by rw [(xv_m hg1063 hs_wl (by decide) (by decide))]; exact Rz1066), by omega⟩), (xLow.tr (by rw [(xv_m hg1060 hs_wp (by decide) (by decide))]; exact (xLow.up xLow.rf uR1058 (by omega))) oz1066 (by omega))⟩⟩ (Nat.le_refl _) (Nat.le_refl _)
                · refine X_aloadn hK (i := 0) 2 dX12_readOne_190 rfl rfl ?_
                  refine X_iconst hK dX12_readOne_191 ?_
                  refine X_callV hK [.int (iI 1)] [] lk_X12_333 (c_X12_bad _ _ _ _ _ S g1048 a0 1 hs_a0 (by omega)) hs_a0 ⟨by decide, rfl⟩ dX12_readOne_192 rfl rfl (by simp [Value.category]) (by decide) (by decide) (by decide) (by decide) (fun r1069 S1071 g1070 pr1069 qr1069 hg1070 => ?_)
                  obtain ⟨rfl, z1072, rfl, lz1072, uz1072⟩ := pr1069
                  refine X_st [.int (iI z1072)] rfl ?_
                  exact hret _ _ _ _ _ _ _ dX12_readOne_195 (by omega) (by omega) ⟨rfl, z1072, rfl, (by omega), (by omega), ⟨np, q817, q819, (q818 + 1), ((hg1070 a0 13 0 41 hs_a0 (by decide)).trans ((hg1048 a0 13 0 41 hs_a0 (by decide)).trans ((hg1038 a0 13 0 41 hs_a0 (by decide)).trans ((xs_k hg1035 (by decide)).trans ((hg816 a0 13 0 41 hs_a0 (by decide)).trans enp))))), by omega, by omega, ((hg1070 a0 13 0 42 hs_a0 (by decide)).trans ((hg1048 a0 13 0 42 hs_a0 (by decide)).trans ((hg1038 a0 13 0 42 hs_a0 (by decide)).trans ((xs_k hg1035 (by decide)).trans eq817)))), by omega, by omega, ((hg1070 a0 13 0 43 hs_a0 (by decide)).trans ((hg1048 a0 13 0 43 hs_a0 (by decide)).trans ((hg1038 a0 13 0 43 hs_a0 (by decide)).trans (xs_s hg1035)))), by omega, by omega, ((hg1070 a0 13 0 44 hs_a0 (by decide)).trans ((hg1048 a0 13 0 44 hs_a0 (by decide)).trans ((hg1038 a0 13 0 44 hs_a0 (by decide)).trans ((xs_k hg1035 (by decide)).trans eq819)))), by omega, by omega, (fun h => by omega), (by rw [(Eq.trans (Eq.trans (Eq.trans (Eq.trans (xv_m hg1070 hs_wp (by decide) (by decide)) (xv_m hg1048 hs_wp (by decide) (by decide))) (xv_m hg1038 hs_wp (by decide) (by decide))) (xv_a hg1035 (xne hs_wp hs_a0 (by decide)))) (xv_m hg816 hs_wp (by decide) (by decide)))]; exact xLow.rf)⟩⟩ (Nat.le_refl _) (Nat.le_refl _)
              · refine X_aloadn hK (i := 0) 1 dX12_readOne_149 rfl rfl ?_
                refine X_bipush hK dX12_readOne_150 (by decide) ?_
                refine X_callV hK [.int (iI 61)] [] lk_X12_330 (c_X12_isSign _ _ _ _ _ S g1038 a0 61 hs_a0 (by omega)) hs_a0 ⟨by decide, rfl⟩ dX12_readOne_152 rfl rfl (by simp [Value.category]) (by decide) (by decide) (by decide) (by decide) (fun r1073 S1075 g1074 pr1073 qr1073 hg1074 => ?_)
                obtain ⟨rfl, rfl, z1076, rfl, lz1076, uz1076⟩ := pr1073
                refine X_st [.int (iI z1076)] rfl ?_
                refine X_if_ne hK 173 (by omega) dX12_readOne_155 (by decide) (fun c1077 => ?_) (fun c1077 => ?_)
                · refine X_aloadn hK (i := 0) 1 dX12_readOne_173 rfl rfl ?_
                  refine X_geti hK fl_X12_274_13 hs_a0 sl_13_24 dX12_readOne_174 (fun z1078 ez1078 lz1078 uz1078 => ?_)
                  refine X_istoren hK (i := 2) [(2, .int (iI z1078)), (1, .int (iI z1027)), (0, .ref a0)] dX12_readOne_177 rfl (by decide) rfl ?_
                  refine X_aloadn hK (i := 0) 2 dX12_readOne_178 rfl rfl ?_
                  refine X_callV hK [] [] lk_X12_342 (c_X12_go _ _ _ _ _ S g1038 a0 hs_a0) hs_a0 ⟨by decide, rfl⟩ dX12_readOne_179 rfl rfl (by simp [Value.category]) (by decide) (by decide) (by decide) (by decide) (fun r1079 S1081 g1080 pr1079 qr1079 hg1080 => ?_)
                  obtain ⟨rfl, rfl⟩ := pr1079
                  refine X_st [] rfl ?_
                  refine X_aloadn hK (i := 0) 2 dX12_readOne_182 rfl rfl ?_
                  refine X_geti hK fl_X12_262_13 hs_a0 sl_13_22 dX12_readOne_183 (fun z1082 ez1082 lz1082 uz1082 => ?_)
                  refine X_iconst hK dX12_readOne_186 ?_
                  refine X_icmp_eq hK 196 (by omega) (by omega) dX12_readOne_187 (by decide) (fun c1083 => ?_) (fun c1083 => ?_)
                  · refine X_aloadn hK (i := 0) 2 dX12_readOne_196 rfl rfl ?_
                    refine X_iloadn hK (i := 1) 1 dX12_readOne_197 rfl rfl ?_
                    refine X_iloadn hK (i := 2) 0 dX12_readOne_198 rfl rfl ?_
                    refine X_aloadn hK (i := 0) 2 dX12_readOne_199 rfl rfl ?_
                    refine X_geti hK fl_X12_281_13 hs_a0 sl_13_23 dX12_readOne_200 (fun z1084 ez1084 lz1084 uz1084 => ?_)
                    refine X_callV hK [.int (iI z1027), .int (iI z1078), .int (iI z1084)] [] lk_X12_319 (c_X12_emit _ _ _ _ _ S g1080 a0 z1027 z1078 z1084 np wp hs_a0 (by omega) (by omega) (by omega) (by omega) ((hg1080 a0 13 0 41 hs_a0 (by decide)).trans ((hg1038 a0 13 0 41 hs_a0 (by decide)).trans ((xs_k hg1035 (by decide)).trans ((hg816 a0 13 0 41 hs_a0 (by decide)).trans enp)))) ((hg1080 a0 13 0 35 hs_a0 (by decide)).trans ((hg1038 a0 13 0 35 hs_a0 (by decide)).trans ((xs_k hg1035 (by decide)).trans ((hg816 a0 13 0 35 hs_a0 (by decide)).trans ewp)))) hs_wp) hs_a0 ⟨by decide, rfl⟩ dX12_readOne_203 rfl rfl (by simp [Value.category]) (by decide) (by decide) (by decide) (by decide) (fun r1085 S1087 g1086 pr1085 qr1085 hg1086 => ?_)
                    obtain ⟨rfl, rfl, k1088, k1089⟩ := pr1085
                    refine X_st [] rfl ?_
                    have uR1090 : xUp (xv g1086 wp) (xv g wp) (1200 + np) z1027 := (by have h9 := k1089; rw [(Eq.trans (Eq.trans (Eq.trans (xv_m hg1080 hs_wp (by decide) (by decide)) (xv_m hg1038 hs_wp (by decide) (by decide))) (xv_a hg1035 (xne hs_wp hs_a0 (by decide)))) (xv_m hg816 hs_wp (by decide) (by decide)))] at h9; exact h9)
                    have R1090 : xRd (xv g1086 wp) (xv g816 wl) F9 (np + 1) q817 (q818 + 1) q819 0 := xRd.atom v1021 (by omega) (by omega) uR1090
                    have hbR1090 := xRd.bd R1090 (by omega)
                    refine X_aloadn hK (i := 0) 2 dX12_readOne_206 rfl rfl ?_
                    refine X_callV hK [] [] lk_X12_342 (c_X12_go _ _ _ _ _ S g1086 a0 hs_a0) hs_a0 ⟨by decide, rfl⟩ dX12_readOne_207 rfl rfl (by simp [Value.category]) (by decide) (by decide) (by decide) (by decide) (fun r1091 S1093 g1092 pr1091 qr1091 hg1092 => ?_)
                    obtain ⟨rfl, rfl⟩ := pr1091
                    refine X_st [] rfl ?_
                    refine X_goto hK 213 dX12_readOne_210 (by decide) ?_
                    refine X_aloadn hK (i := 0) 2 dX12_readOne_213 rfl rfl ?_
                    refine X_callV hK [] [] lk_X12_345 (c_X12_dropNots _ _ _ _ _ S g1092 a0 (np + 1) q817 (q818 + 1) q819 wp wl F9 hs_a0 (by omega) ((hg1092 a0 13 0 41 hs_a0 (by decide)).trans k1088) (by omega) ((hg1092 a0 13 0 42 hs_a0 (by decide)).trans ((hg1086 a0 13 0 42 hs_a0 (by decide)).trans ((hg1080 a0 13 0 42 hs_a0 (by decide)).trans ((hg1038 a0 13 0 42 hs_a0 (by decide)).trans ((xs_k hg1035 (by decide)).trans eq817))))) (by omega) ((hg1092 a0 13 0 43 hs_a0 (by decide)).trans ((hg1086 a0 13 0 43 hs_a0 (by decide)).trans ((hg1080 a0 13 0 43 hs_a0 (by decide)).trans ((hg1038 a0 13 0 43 hs_a0 (by decide)).trans (xs_s hg1035))))) (by omega) ((hg1092 a0 13 0 44 hs_a0 (by decide)).trans ((hg1086 a0 13 0 44 hs_a0 (by decide)).trans ((hg1080 a0 13 0 44 hs_a0 (by decide)).trans ((hg1038 a0 13 0 44 hs_a0 (by decide)).trans ((xs_k hg1035 (by decide)).trans eq819))))) ((hg1092 a0 13 0 35 hs_a0 (by decide)).trans ((hg1086 a0 13 0 35 hs_a0 (by decide)).trans ((hg1080 a0 13 0 35 hs_a0 (by decide)).trans ((hg1038 a0 13 0 35 hs_a0 (by decide)).trans ((xs_k hg1035 (by decide)).trans ((hg816 a0 13 0 35 hs_a0 (by decide)).trans ewp)))))) hs_wp ((hg1092 a0 13 0 38 hs_a0 (by decide)).trans ((hg1086 a0 13 0 38 hs_a0 (by decide)).trans ((hg1080 a0 13 0 38 hs_a0 (by decide)).trans ((hg1038 a0 13 0 38 hs_a0 (by decide)).trans ((xs_k hg1035 (by decide)).trans ((hg816 a0 13 0 38 hs_a0 (by decide)).trans ewl)))))) hs_wl (by rw [(xv_m hg1092 hs_wp (by decide) (by decide)), (Eq.trans (Eq.trans (Eq.trans (Eq.trans (xv_m hg1092 hs_wl (by decide) (by decide)) (xv_m hg1086 hs_wl (by decide) (by decide))) (xv_m hg1080 hs_wl (by decide) (by decide))) (xv_m hg1038 hs_wl (by decide) (by decide))) (xv_a hg1035 (xne hs_wl hs_a0 (by decide))))]; exact R1090)) hs_a0 ⟨by decide, rfl⟩ dX12_readOne_214 rfl rfl (by simp [Value.category]) (by decide) (by decide) (by decide) (by decide) (fun r1094 S1096 g1095 pr1094 qr1094 hg1095 => ?_)
                    obtain ⟨rfl, rfl, k1097⟩ := pr1094
                    refine X_st [] rfl ?_
                    obtain ⟨z1098, z1099, z1100, ez1098, lz1098, uz1098, ez1099, lz1099, uz1099, ez1100, lz1100, uz1100, Rz1098, oz1098⟩ := k1097
                    have hbz1098 := xRd.bd Rz1098 (by omega)
                    refine X_iconst hK dX12_readOne_217 ?_
                    exact hret _ _ _ _ _ _ _ dX12_readOne_218 (by omega) (by omega) ⟨rfl, 1, rfl, (by omega), (by omega), ⟨z1098, z1099, z1100, (q818 + 1), ez1098, by omega, by omega, ez1099, by omega, by omega, ((hg1095 a0 13 0 43 hs_a0 (by decide)).trans ((hg1092 a0 13 0 43 hs_a0 (by decide)).trans ((hg1086 a0 13 0 43 hs_a0 (by decide)).trans ((hg1080 a0 13 0 43 hs_a0 (by decide)).trans ((hg1038 a0 13 0 43 hs_a0 (by decide)).trans (xs_s hg1035)))))), by omega, by omega, ez1100, by omega, by omega, (fun _ => ⟨(by rw [(xv_m hg1095 hs_wl (by decide) (by decide))]; exact Rz1098), by omega⟩), (xLow.tr (by rw [(xv_m hg1092 hs_wp (by decide) (by decide))]; exact (xLow.up xLow.rf uR1090 (by omega))) oz1098 (by omega))⟩⟩ (Nat.le_refl _) (Nat.le_refl _)
                  · refine X_aloadn hK (i := 0) 2 dX12_readOne_190 rfl rfl ?_
                    refine X_iconst hK dX12_readOne_191 ?_
                    refine X_callV hK [.int (iI 1)] [] lk_X12_333 (c_X12_bad _ _ _ _ _ S g1080 a0 1 hs_a0 (by omega)) hs_a0 ⟨by decide, rfl⟩ dX12_readOne_192 rfl rfl (by simp [Value.category]) (by decide) (by decide) (by decide) (by decide) (fun r1101 S1103 g1102 pr1101 qr1101 hg1102 => ?_)
                    obtain ⟨rfl, z1104, rfl, lz1104, uz1104⟩ := pr1101
                    refine X_st [.int (iI z1104)] rfl ?_
                    exact hret _ _ _ _ _ _ _ dX12_readOne_195 (by omega) (by omega) ⟨rfl, z1104, rfl, (by omega), (by omega), ⟨np, q817, q819, (q818 + 1), ((hg1102 a0 13 0 41 hs_a0 (by decide)).trans ((hg1080 a0 13 0 41 hs_a0 (by decide)).trans ((hg1038 a0 13 0 41 hs_a0 (by decide)).trans ((xs_k hg1035 (by decide)).trans ((hg816 a0 13 0 41 hs_a0 (by decide)).trans enp))))), by omega, by omega, ((hg1102 a0 13 0 42 hs_a0 (by decide)).trans ((hg1080 a0 13 0 42 hs_a0 (by decide)).trans ((hg1038 a0 13 0 42 hs_a0 (by decide)).trans ((xs_k hg1035 (by decide)).trans eq817)))), by omega, by omega, ((hg1102 a0 13 0 43 hs_a0 (by decide)).trans ((hg1080 a0 13 0 43 hs_a0 (by decide)).trans ((hg1038 a0 13 0 43 hs_a0 (by decide)).trans (xs_s hg1035)))), by omega, by omega, ((hg1102 a0 13 0 44 hs_a0 (by decide)).trans ((hg1080 a0 13 0 44 hs_a0 (by decide)).trans ((hg1038 a0 13 0 44 hs_a0 (by decide)).trans ((xs_k hg1035 (by decide)).trans eq819)))), by omega, by omega, (fun h => by omega), (by rw [(Eq.trans (Eq.trans (Eq.trans (Eq.trans (xv_m hg1102 hs_wp (by decide) (by decide)) (xv_m hg1080 hs_wp (by decide) (by decide))) (xv_m hg1038 hs_wp (by decide) (by decide))) (xv_a hg1035 (xne hs_wp hs_a0 (by decide)))) (xv_m hg816 hs_wp (by decide) (by decide)))]; exact xLow.rf)⟩⟩ (Nat.le_refl _) (Nat.le_refl _)
                · refine X_aloadn hK (i := 0) 1 dX12_readOne_158 rfl rfl ?_
                  refine X_bipush hK dX12_readOne_159 (by decide) ?_
                  refine X_callV hK [.int (iI 62)] [] lk_X12_330 (c_X12_isSign _ _ _ _ _ S g1038 a0 62 hs_a0 (by omega)) hs_a0 ⟨by decide, rfl⟩ dX12_readOne_161 rfl rfl (by simp [Value.category]) (by decide) (by decide) (by decide) (by decide) (fun r1105 S1107 g1106 pr1105 qr1105 hg1106 => ?_)
                  obtain ⟨rfl, rfl, z1108, rfl, lz1108, uz1108⟩ := pr1105
                  refine X_st [.int (iI z1108)] rfl ?_
                  refine X_if_ne hK 173 (by omega) dX12_readOne_164 (by decide) (fun c1109 => ?_) (fun c1109 => ?_)
                  · refine X_aloadn hK (i := 0) 1 dX12_readOne_173 rfl rfl ?_
                    refine X_geti hK fl_X12_274_13 hs_a0 sl_13_24 dX12_readOne_174 (fun z1110 ez1110 lz1110 uz1110 => ?_)
                    refine X_istoren hK (i := 2) [(2, .int (iI z1110)), (1, .int (iI z1027)), (0, .ref a0)] dX12_readOne_177 rfl (by decide) rfl ?_
                    refine X_aloadn hK (i := 0) 2 dX12_readOne_178 rfl rfl ?_
                    refine X_callV hK [] [] lk_X12_342 (c_X12_go _ _ _ _ _ S g1038 a0 hs_a0) hs_a0 ⟨by decide, rfl⟩ dX12_readOne_179 rfl rfl (by simp [Value.category]) (by decide) (by decide) (by decide) (by decide) (fun r1111 S1113 g1112 pr1111 qr1111 hg1112 => ?_)
                    obtain ⟨rfl, rfl⟩ := pr1111
                    refine X_st [] rfl ?_
                    refine X_aloadn hK (i := 0) 2 dX12_readOne_182 rfl rfl ?_
                    refine X_geti hK fl_X12_262_13 hs_a0 sl_13_22 dX12_readOne_183 (fun z1114 ez1114 lz1114 uz1114 => ?_)
                    refine X_iconst hK dX12_readOne_186 ?_
                    refine X_icmp_eq hK 196 (by omega) (by omega) dX12_readOne_187 (by decide) (fun c1115 => ?_) (fun c1115 => ?_)
                    · refine X_aloadn hK (i := 0) 2 dX12_readOne_196 rfl rfl ?_
                      refine X_iloadn hK (i := 1) 1 dX12_readOne_197 rfl rfl ?_
                      refine X_iloadn hK (i := 2) 0 dX12_readOne_198 rfl rfl ?_
                      refine X_aloadn hK (i := 0) 2 dX12_readOne_199 rfl rfl ?_
                      refine X_geti hK fl_X12_281_13 hs_a0 sl_13_23 dX12_readOne_200 (fun z1116 ez1116 lz1116 uz1116 => ?_)
                      refine X_callV hK [.int (iI z1027), .int (iI z1110), .int (iI z1116)] [] lk_X12_319 (c_X12_emit _ _ _ _ _ S g1112 a0 z1027 z1110 z1116 np wp hs_a0 (by omega) (by omega) (by omega) (by omega) ((hg1112 a0 13 0 41 hs_a0 (by decide)).trans ((hg1038 a0 13 0 41 hs_a0 (by decide)).trans ((xs_k hg1035 (by decide)).trans ((hg816 a0 13 0 41 hs_a0 (by decide)).trans enp)))) ((hg1112 a0 13 0 35 hs_a0 (by decide)).trans ((hg1038 a0 13 0 35 hs_a0 (by decide)).trans ((xs_k hg1035 (by decide)).trans ((hg816 a0 13 0 35 hs_a0 (by decide)).trans ewp)))) hs_wp) hs_a0 ⟨by decide, rfl⟩ dX12_readOne_203 rfl rfl (by simp [Value.category]) (by decide) (by decide) (by decide) (by decide) (fun r1117 S1119 g1118 pr1117 qr1117 hg1118 => ?_)
                      obtain ⟨rfl, rfl, k1120, k1121⟩ := pr1117
                      refine X_st [] rfl ?_
                      have uR1122 : xUp (xv g1118 wp) (xv g wp) (1200 + np) z1027 := (by have h9 := k1121; rw [(Eq.trans (Eq.trans (Eq.trans (xv_m hg1112 hs_wp (by decide) (by decide)) (xv_m hg1038 hs_wp (by decide) (by decide))) (xv_a hg1035 (xne hs_wp hs_a0 (by decide)))) (xv_m hg816 hs_wp (by decide) (by decide)))] at h9; exact h9)
                      have R1122 : xRd (xv g1118 wp) (xv g816 wl) F9 (np + 1) q817 (q818 + 1) q819 0 := xRd.atom v1021 (by omega) (by omega) uR1122
                      have hbR1122 := xRd.bd R1122 (by omega)
                      refine X_aloadn hK (i := 0) 2 dX12_readOne_206 rfl rfl ?_
                      refine X_callV hK [] [] lk_X12_342 (c_X12_go _ _ _ _ _ S g1118 a0 hs_a0) hs_a0 ⟨by decide, rfl⟩ dX12_readOne_207 rfl rfl (by simp [Value.category]) (by decide) (by decide) (by decide) (by decide) (fun r1123 S1125 g1124 pr1123 qr1123 hg1124 => ?_)
                      obtain ⟨rfl, rfl⟩ := pr1123
                      refine X_st [] rfl ?_
                      refine X_goto hK 213 dX12_readOne_210 (by decide) ?_
                      refine X_aloadn hK (i := 0) 2 dX12_readOne_213 rfl rfl ?_
                      refine X_callV hK [] [] lk_X12_345 (c_X12_dropNots _ _ _ _ _ S g1124 a0 (np + 1) q817 (q818 + 1) q819 wp wl F9 hs_a0 (by omega) ((hg1124 a0 13 0 41 hs_a0 (by decide)).trans k1120) (by omega) ((hg1124 a0 13 0 42 hs_a0 (by decide)).trans ((hg1118 a0 13 0 42 hs_a0 (by decide)).trans ((hg1112 a0 13 0 42 hs_a0 (by decide)).trans ((hg1038 a0 13 0 42 hs_a0 (by decide)).trans ((xs_k hg1035 (by decide)).trans eq817))))) (by omega) ((hg1124 a0 13 0 43 hs_a0 (by decide)).trans ((hg1118 a0 13 0 43 hs_a0 (by decide)).trans ((hg1112 a0 13 0 43 hs_a0 (by decide)).trans ((hg1038 a0 13 0 43 hs_a0 (by decide)).trans (xs_s hg1035))))) (by omega) ((hg1124 a0 13 0 44 hs_a0 (by decide)).trans ((hg1118 a0 13 0 44 hs_a0 (by decide)).trans ((hg1112 a0 13 0 44 hs_a0 (by decide)).trans ((hg1038 a0 13 0 44 hs_a0 (by decide)).trans ((xs_k hg1035 (by decide)).trans eq819))))) ((hg1124 a0 13 0 35 hs_a0 (by decide)).trans ((hg1118 a0 13 0 35 hs_a0 (by decide)).trans ((hg1112 a0 13 0 35 hs_a0 (by decide)).trans ((hg1038 a0 13 0 35 hs_a0 (by decide)).trans ((xs_k hg1035 (by decide)).trans ((hg816 a0 13 0 35 hs_a0 (by decide)).trans ewp)))))) hs_wp ((hg1124 a0 13 0 38 hs_a0 (by decide)).trans ((hg1118 a0 13 0 38 hs_a0 (by decide)).trans ((hg1112 a0 13 0 38 hs_a0 (by decide)).trans ((hg1038 a0 13 0 38 hs_a0 (by decide)).trans ((xs_k hg1035 (by decide)).trans ((hg816 a0 13 0 38 hs_a0 (by decide)).trans ewl)))))) hs_wl (by rw [(xv_m hg1124 hs_wp (by decide) (by decide)), (Eq.trans (Eq.trans (Eq.trans (Eq.trans (xv_m hg1124 hs_wl (by decide) (by decide)) (xv_m hg1118 hs_wl (by decide) (by decide))) (xv_m hg1112 hs_wl (by decide) (by decide))) (xv_m hg1038 hs_wl (by decide) (by decide))) (xv_a hg1035 (xne hs_wl hs_a0 (by decide))))]; exact R1122)) hs_a0 ⟨by decide, rfl⟩ dX12_readOne_214 rfl rfl (by simp [Value.category]) (by decide) (by decide) (by decide) (by decide) (fun r1126 S1128 g1127 pr1126 qr1126 hg1127 => ?_)
                      obtain ⟨rfl, rfl, k1129⟩ := pr1126
                      refine X_st [] rfl ?_
                      obtain ⟨z1130, z1131, z1132, ez1130, lz1130, uz1130, ez1131, lz1131, uz1131, ez1132, lz1132, uz1132, Rz1130, oz1130⟩ := k1129
                      have hbz1130 := xRd.bd Rz1130 (by omega)
                      refine X_iconst hK dX12_readOne_217 ?_
                      exact hret _ _ _ _ _ _ _ dX12_readOne_218 (by omega) (by omega) ⟨rfl, 1, rfl, (by omega), (by omega), ⟨z1130, z1131, z1132, (q818 + 1), ez1130, by omega, by omega, ez1131, by omega, by omega, ((hg1127 a0 13 0 43 hs_a0 (by decide)).trans ((hg1124 a0 13 0 43 hs_a0 (by decide)).trans ((hg1118 a0 13 0 43 hs_a0 (by decide)).trans ((hg1112 a0 13 0 43 hs_a0 (by decide)).trans ((hg1038 a0 13 0 43 hs_a0 (by decide)).trans (xs_s hg1035)))))), by omega, by omega, ez1132, by omega, by omega, (fun _ => ⟨(by rw [(xv_m hg1127 hs_wl (by decide) (by decide))]; exact Rz1130), by omega⟩), (xLow.tr (by rw [(xv_m hg1124 hs_wp (by decide) (by decide))]; exact (xLow.up xLow.rf uR1122 (by omega))) oz1130 (by omega))⟩⟩ (Nat.le_refl _) (Nat.le_refl _)
                    · refine X_aloadn hK (i := 0) 2 dX12_readOne_190 rfl rfl ?_
                      refine X_iconst hK dX12_readOne_191 ?_
                      refine X_callV hK [.int (iI 1)] [] lk_X12_333 (c_X12_bad _ _ _ _ _ S g1112 a0 1 hs_a0 (by omega)) hs_a0 ⟨by decide, rfl⟩ dX12_readOne_192 rfl rfl (by simp [Value.category]) (by decide) (by decide) (by decide) (by decide) (fun r1133 S1135 g1134 pr1133 qr1133 hg1134 => ?_)
                      obtain ⟨rfl, z1136, rfl, lz1136, uz1136⟩ := pr1133
                      refine X_st [.int (iI z1136)] rfl ?_
                      exact hret _ _ _ _ _ _ _ dX12_readOne_195 (by omega) (by omega) ⟨rfl, z1136, rfl, (by omega), (by omega), ⟨np, q817, q819, (q818 + 1), ((hg1134 a0 13 0 41 hs_a0 (by decide)).trans ((hg1112 a0 13 0 41 hs_a0 (by decide)).trans ((hg1038 a0 13 0 41 hs_a0 (by decide)).trans ((xs_k hg1035 (by decide)).trans ((hg816 a0 13 0 41 hs_a0 (by decide)).trans enp))))), by omega, by omega, ((hg1134 a0 13 0 42 hs_a0 (by decide)).trans ((hg1112 a0 13 0 42 hs_a0 (by decide)).trans ((hg1038 a0 13 0 42 hs_a0 (by decide)).trans ((xs_k hg1035 (by decide)).trans eq817)))), by omega, by omega, ((hg1134 a0 13 0 43 hs_a0 (by decide)).trans ((hg1112 a0 13 0 43 hs_a0 (by decide)).trans ((hg1038 a0 13 0 43 hs_a0 (by decide)).trans (xs_s hg1035)))), by omega, by omega, ((hg1134 a0 13 0 44 hs_a0 (by decide)).trans ((hg1112 a0 13 0 44 hs_a0 (by decide)).trans ((hg1038 a0 13 0 44 hs_a0 (by decide)).trans ((xs_k hg1035 (by decide)).trans eq819)))), by omega, by omega, (fun h => by omega), (by rw [(Eq.trans (Eq.trans (Eq.trans (Eq.trans (xv_m hg1134 hs_wp (by decide) (by decide)) (xv_m hg1112 hs_wp (by decide) (by decide))) (xv_m hg1038 hs_wp (by decide) (by decide))) (xv_a hg1035 (xne hs_wp hs_a0 (by decide)))) (xv_m hg816 hs_wp (by decide) (by decide)))]; exact xLow.rf)⟩⟩ (Nat.le_refl _) (Nat.le_refl _)
                  · refine X_aloadn hK (i := 0) 1 dX12_readOne_167 rfl rfl ?_
                    refine X_iconst hK dX12_readOne_168 ?_
                    refine X_callV hK [.int (iI 1)] [] lk_X12_333 (c_X12_bad _ _ _ _ _ S g1038 a0 1 hs_a0 (by omega)) hs_a0 ⟨by decide, rfl⟩ dX12_readOne_169 rfl rfl (by simp [Value.category]) (by decide) (by decide) (by decide) (by decide) (fun r1137 S1139 g1138 pr1137 qr1137 hg1138 => ?_)
                    obtain ⟨rfl, z1140, rfl, lz1140, uz1140⟩ := pr1137
                    refine X_st [.int (iI z1140)] rfl ?_
                    exact hret _ _ _ _ _ _ _ dX12_readOne_172 (by omega) (by omega) ⟨rfl, z1140, rfl, (by omega), (by omega), ⟨np, q817, q819, (q818 + 1), ((hg1138 a0 13 0 41 hs_a0 (by decide)).trans ((hg1038 a0 13 0 41 hs_a0 (by decide)).trans ((xs_k hg1035 (by decide)).trans ((hg816 a0 13 0 41 hs_a0 (by decide)).trans enp)))), by omega, by omega, ((hg1138 a0 13 0 42 hs_a0 (by decide)).trans ((hg1038 a0 13 0 42 hs_a0 (by decide)).trans ((xs_k hg1035 (by decide)).trans eq817))), by omega, by omega, ((hg1138 a0 13 0 43 hs_a0 (by decide)).trans ((hg1038 a0 13 0 43 hs_a0 (by decide)).trans (xs_s hg1035))), by omega, by omega, ((hg1138 a0 13 0 44 hs_a0 (by decide)).trans ((hg1038 a0 13 0 44 hs_a0 (by decide)).trans ((xs_k hg1035 (by decide)).trans eq819))), by omega, by omega, (fun h => by omega), (by rw [(Eq.trans (Eq.trans (Eq.trans (xv_m hg1138 hs_wp (by decide) (by decide)) (xv_m hg1038 hs_wp (by decide) (by decide))) (xv_a hg1035 (xne hs_wp hs_a0 (by decide)))) (xv_m hg816 hs_wp (by decide) (by decide)))]; exact xLow.rf)⟩⟩ (Nat.le_refl _) (Nat.le_refl _)
            · refine X_aloadn hK (i := 0) 1 dX12_readOne_130 rfl rfl ?_
              refine X_iloadn hK (i := 1) 0 dX12_readOne_131 rfl rfl ?_
              refine X_iconst hK dX12_readOne_132 ?_
              refine X_iconst hK dX12_readOne_133 ?_
              refine X_callV hK [.int (iI z1027), .int (iI 0), .int (iI 0)] [] lk_X12_319 (c_X12_emit _ _ _ _ _ S g1038 a0 z1027 0 0 np wp hs_a0 (by omega) (by omega) (by omega) (by omega) ((hg1038 a0 13 0 41 hs_a0 (by decide)).trans ((xs_k hg1035 (by decide)).trans ((hg816 a0 13 0 41 hs_a0 (by decide)).trans enp))) ((hg1038 a0 13 0 35 hs_a0 (by decide)).trans ((xs_k hg1035 (by decide)).trans ((hg816 a0 13 0 35 hs_a0 (by decide)).trans ewp))) hs_wp) hs_a0 ⟨by decide, rfl⟩ dX12_readOne_134 rfl rfl (by simp [Value.category]) (by decide) (by decide) (by decide) (by decide) (fun r1141 S1143 g1142 pr1141 qr1141 hg1142 => ?_)
              obtain ⟨rfl, rfl, k1144, k1145⟩ := pr1141
              refine X_st [] rfl ?_
              have uR1146 : xUp (xv g1142 wp) (xv g wp) (1200 + np) z1027 := (by have h9 := k1145; rw [(Eq.trans (Eq.trans (xv_m hg1038 hs_wp (by decide) (by decide)) (xv_a hg1035 (xne hs_wp hs_a0 (by decide)))) (xv_m hg816 hs_wp (by decide) (by decide)))] at h9; exact h9)
              have R1146 : xRd (xv g1142 wp) (xv g816 wl) F9 (np + 1) q817 (q818 + 1) q819 0 := xRd.atom v1021 (by omega) (by omega) uR1146
              have hbR1146 := xRd.bd R1146 (by omega)
              refine X_goto hK 213 dX12_readOne_137 (by decide) ?_
              refine X_aloadn hK (i := 0) 1 dX12_readOne_213 rfl rfl ?_
              refine X_callV hK [] [] lk_X12_345 (c_X12_dropNots _ _ _ _ _ S g1142 a0 (np + 1) q817 (q818 + 1) q819 wp wl F9 hs_a0 (by omega) k1144 (by omega) ((hg1142 a0 13 0 42 hs_a0 (by decide)).trans ((hg1038 a0 13 0 42 hs_a0 (by decide)).trans ((xs_k hg1035 (by decide)).trans eq817))) (by omega) ((hg1142 a0 13 0 43 hs_a0 (by decide)).trans ((hg1038 a0 13 0 43 hs_a0 (by decide)).trans (xs_s hg1035))) (by omega) ((hg1142 a0 13 0 44 hs_a0 (by decide)).trans ((hg1038 a0 13 0 44 hs_a0 (by decide)).trans ((xs_k hg1035 (by decide)).trans eq819))) ((hg1142 a0 13 0 35 hs_a0 (by decide)).trans ((hg1038 a0 13 0 35 hs_a0 (by decide)).trans ((xs_k hg1035 (by decide)).trans ((hg816 a0 13 0 35 hs_a0 (by decide)).trans ewp)))) hs_wp ((hg1142 a0 13 0 38 hs_a0 (by decide)).trans ((hg1038 a0 13 0 38 hs_a0 (by decide)).trans ((xs_k hg1035 (by decide)).trans ((hg816 a0 13 0 38 hs_a0 (by decide)).trans ewl)))) hs_wl (by rw [(Eq.trans (Eq.trans (xv_m hg1142 hs_wl (by decide) (by decide)) (xv_m hg1038 hs_wl (by decide) (by decide))) (xv_a hg1035 (xne hs_wl hs_a0 (by decide))))]; exact R1146)) hs_a0 ⟨by decide, rfl⟩ dX12_readOne_214 rfl rfl (by simp [Value.category]) (by decide) (by decide) (by decide) (by decide) (fun r1147 S1149 g1148 pr1147 qr1147 hg1148 => ?_)
              obtain ⟨rfl, rfl, k1150⟩ := pr1147
              refine X_st [] rfl ?_
              obtain ⟨z1151, z1152, z1153, ez1151, lz1151, uz1151, ez1152, lz1152, uz1152, ez1153, lz1153, uz1153, Rz1151, oz1151⟩ := k1150
              have hbz1151 := xRd.bd Rz1151 (by omega)
              refine X_iconst hK dX12_readOne_217 ?_
              exact hret _ _ _ _ _ _ _ dX12_readOne_218 (by omega) (by omega) ⟨rfl, 1, rfl, (by omega), (by omega), ⟨z1151, z1152, z1153, (q818 + 1), ez1151, by omega, by omega, ez1152, by omega, by omega, ((hg1148 a0 13 0 43 hs_a0 (by decide)).trans ((hg1142 a0 13 0 43 hs_a0 (by decide)).trans ((hg1038 a0 13 0 43 hs_a0 (by decide)).trans (xs_s hg1035)))), by omega, by omega, ez1153, by omega, by omega, (fun _ => ⟨(by rw [(xv_m hg1148 hs_wl (by decide) (by decide))]; exact Rz1151), by omega⟩), (xLow.tr (xLow.up xLow.rf uR1146 (by omega)) oz1151 (by omega))⟩⟩ (Nat.le_refl _) (Nat.le_refl _)
          · refine X_aloadn hK (i := 0) 1 dX12_readOne_50 rfl rfl ?_
            refine X_iconst hK dX12_readOne_51 ?_
            refine X_callV hK [.int (iI 4)] [] lk_X12_333 (c_X12_bad _ _ _ _ _ S g816 a0 4 hs_a0 (by omega)) hs_a0 ⟨by decide, rfl⟩ dX12_readOne_52 rfl rfl (by simp [Value.category]) (by decide) (by decide) (by decide) (by decide) (fun r1154 S1156 g1155 pr1154 qr1154 hg1155 => ?_)
            obtain ⟨rfl, z1157, rfl, lz1157, uz1157⟩ := pr1154
            refine X_st [.int (iI z1157)] rfl ?_
            exact hret _ _ _ _ _ _ _ dX12_readOne_55 (by omega) (by omega) ⟨rfl, z1157, rfl, (by omega), (by omega), ⟨np, q817, q819, q818, ((hg1155 a0 13 0 41 hs_a0 (by decide)).trans ((hg816 a0 13 0 41 hs_a0 (by decide)).trans enp)), by omega, by omega, ((hg1155 a0 13 0 42 hs_a0 (by decide)).trans eq817), by omega, by omega, ((hg1155 a0 13 0 43 hs_a0 (by decide)).trans eq818), by omega, by omega, ((hg1155 a0 13 0 44 hs_a0 (by decide)).trans eq819), by omega, by omega, (fun h => by omega), (by rw [(Eq.trans (xv_m hg1155 hs_wp (by decide) (by decide)) (xv_m hg816 hs_wp (by decide) (by decide)))]; exact xLow.rf)⟩⟩ (Nat.le_refl _) (Nat.le_refl _)
      · refine X_aloadn hK (i := 0) 1 dX12_readOne_10 rfl rfl ?_
        refine X_callV hK [] [] lk_X12_326 (c_X12_isNot _ _ _ _ _ S g816 a0 hs_a0) hs_a0 ⟨by decide, rfl⟩ dX12_readOne_11 rfl rfl (by simp [Value.category]) (by decide) (by decide) (by decide) (by decide) (fun r1158 S1160 g1159 pr1158 qr1158 hg1159 => ?_)
        obtain ⟨rfl, rfl, z1161, rfl, lz1161, uz1161⟩ := pr1158
        refine X_st [.int (iI z1161)] rfl ?_
        refine X_if_ne hK 32 (by omega) dX12_readOne_14 (by decide) (fun c1162 => ?_) (fun c1162 => ?_)
        · refine X_aloadn hK (i := 0) 1 dX12_readOne_32 rfl rfl ?_
          refine X_getK hK fl_X12_336_13 hs_a0 eq818 dX12_readOne_33 ?_
          refine X_bipush hK dX12_readOne_36 (by decide) ?_
          refine X_icmp_eq hK 50 (by omega) (by omega) dX12_readOne_38 (by decide) (fun c1163 => ?_) (fun c1163 => ?_)
          · refine X_aloadn hK (i := 0) 1 dX12_readOne_50 rfl rfl ?_
            refine X_iconst hK dX12_readOne_51 ?_
            refine X_callV hK [.int (iI 4)] [] lk_X12_333 (c_X12_bad _ _ _ _ _ S g816 a0 4 hs_a0 (by omega)) hs_a0 ⟨by decide, rfl⟩ dX12_readOne_52 rfl rfl (by simp [Value.category]) (by decide) (by decide) (by decide) (by decide) (fun r1164 S1166 g1165 pr1164 qr1164 hg1165 => ?_)
            obtain ⟨rfl, z1167, rfl, lz1167, uz1167⟩ := pr1164
            refine X_st [.int (iI z1167)] rfl ?_
            exact hret _ _ _ _ _ _ _ dX12_readOne_55 (by omega) (by omega) ⟨rfl, z1167, rfl, (by omega), (by omega), ⟨np, q817, q819, q818, ((hg1165 a0 13 0 41 hs_a0 (by decide)).trans ((hg816 a0 13 0 41 hs_a0 (by decide)).trans enp)), by omega, by omega, ((hg1165 a0 13 0 42 hs_a0 (by decide)).trans eq817), by omega, by omega, ((hg1165 a0 13 0 43 hs_a0 (by decide)).trans eq818), by omega, by omega, ((hg1165 a0 13 0 44 hs_a0 (by decide)).trans eq819), by omega, by omega, (fun h => by omega), (by rw [(Eq.trans (xv_m hg1165 hs_wp (by decide) (by decide)) (xv_m hg816 hs_wp (by decide) (by decide)))]; exact xLow.rf)⟩⟩ (Nat.le_refl _) (Nat.le_refl _)
          · refine X_aloadn hK (i := 0) 1 dX12_readOne_41 rfl rfl ?_
            refine X_getK hK fl_X12_339_13 hs_a0 eq819 dX12_readOne_42 ?_
            refine X_bipush hK dX12_readOne_45 (by decide) ?_
            refine X_icmp_ne hK 56 (by omega) (by omega) dX12_readOne_47 (by decide) (fun c1168 => ?_) (fun c1168 => ?_)
            · refine X_aloadn hK (i := 0) 1 dX12_readOne_56 rfl rfl ?_
              refine X_dup hK dX12_readOne_57 rfl ?_
              refine X_getK hK fl_X12_336_13 hs_a0 eq818 dX12_readOne_58 ?_
              refine X_iconst hK dX12_readOne_61 ?_
              refine X_iadd hK dX12_readOne_62 ?_
              refine X_puti hK fl_X12_336_13 hs_a0 (by decide) sl_13_43 (by omega) (by omega) dX12_readOne_63 (fun g1169 hg1169 => ?_)
              refine X_iloadn hK (i := 1) 0 dX12_readOne_66 rfl rfl ?_
              refine X_iconst hK dX12_readOne_67 ?_
              refine X_icmp_ne hK 121 (by omega) (by omega) dX12_readOne_68 (by decide) (fun c1170 => False.elim (by omega)) (fun c1170 => ?_)
              refine X_aloadn hK (i := 0) 1 dX12_readOne_71 rfl rfl ?_
              refine X_dup hK dX12_readOne_72 rfl ?_
              refine X_getK hK fl_X12_339_13 hs_a0 ((xs_k hg1169 (by decide)).trans eq819) dX12_readOne_73 ?_
              refine X_iconst hK dX12_readOne_76 ?_
              refine X_iadd hK dX12_readOne_77 ?_
              refine X_puti hK fl_X12_339_13 hs_a0 (by decide) sl_13_44 (by omega) (by omega) dX12_readOne_78 (fun g1171 hg1171 => ?_)
              refine X_aloadn hK (i := 0) 1 dX12_readOne_81 rfl rfl ?_
              refine X_getK hK fl_X12_77_13 hs_a0 ((xs_k hg1171 (by decide)).trans ((xs_k hg1169 (by decide)).trans ((hg816 a0 13 0 38 hs_a0 (by decide)).trans ewl))) dX12_readOne_82 ?_
              refine X_aloadn hK (i := 0) 1 dX12_readOne_85 rfl rfl ?_
              refine X_getK hK fl_X12_316_13 hs_a0 ((xs_k hg1171 (by decide)).trans ((xs_k hg1169 (by decide)).trans eq817)) dX12_readOne_86 ?_
              refine X_aloadn hK (i := 0) 1 dX12_readOne_89 rfl rfl ?_
              refine X_callV hK [] [.int (iI q817), .ref wl] lk_X12_326 (c_X12_isNot _ _ _ _ _ S g1171 a0 hs_a0) hs_a0 ⟨by decide, rfl⟩ dX12_readOne_90 rfl rfl (by simp [Value.category]) (by decide) (by decide) (by decide) (by decide) (fun r1172 S1174 g1173 pr1172 qr1172 hg1173 => ?_)
              obtain ⟨rfl, rfl, z1175, rfl, lz1175, uz1175⟩ := pr1172
              refine X_st [.int (iI z1175), .int (iI q817), .ref wl] rfl ?_
              refine X_if_eq hK 101 (by omega) dX12_readOne_93 (by decide) (fun c1176 => ?_) (fun c1176 => ?_)
              · refine X_bipush hK dX12_readOne_101 (by decide) ?_
                refine X_iast hK hs_wl (by decide) (by decide) sl_16200 (by omega) (by omega) (by omega) (by omega) dX12_readOne_103 (fun g1177 hg1177 => ?_)
                refine X_aloadn hK (i := 0) 1 dX12_readOne_104 rfl rfl ?_
                refine X_dup hK dX12_readOne_105 rfl ?_
                refine X_getK hK fl_X12_316_13 hs_a0 ((xs_a hg1177 (xne hs_a0 hs_wl (by decide))).trans ((xs_k hg1171 (by decide)).trans ((xs_k hg1169 (by decide)).trans eq817))) dX12_readOne_106 ?_
                refine X_iconst hK dX12_readOne_109 ?_
                refine X_iadd hK dX12_readOne_110 ?_
                refine X_puti hK fl_X12_316_13 hs_a0 (by decide) sl_13_42 (by omega) (by omega) dX12_readOne_111 (fun g1178 hg1178 => ?_)
                refine X_aloadn hK (i := 0) 1 dX12_readOne_114 rfl rfl ?_
                refine X_callV hK [] [] lk_X12_342 (c_X12_go _ _ _ _ _ S g1178 a0 hs_a0) hs_a0 ⟨by decide, rfl⟩ dX12_readOne_115 rfl rfl (by simp [Value.category]) (by decide) (by decide) (by decide) (by decide) (fun r1179 S1181 g1180 pr1179 qr1179 hg1180 => ?_)
                obtain ⟨rfl, rfl⟩ := pr1179
                refine X_st [] rfl ?_
                refine X_goto hK 0 dX12_readOne_118 (by decide) ?_
                refine X_lv [(0, .ref a0)] [1] rfl ?_
                exact ihP1020  g1180 (xM.tr (xM_up (xM_ua (xM_up (xM_up (xM.tr xM.rf xLe.rf hg816 (by decide)) hg1169 hs_a0 (by decide) (by decide)) hg1171 hs_a0 (by decide) (by decide)) hg1177 hs_wl (by decide) (by decide)) hg1178 hs_a0 (by decide) (by decide)) xLe.rf hg1180 (by decide)) (q817 + 1) (by omega) (by omega) ((hg1180 a0 13 0 42 hs_a0 (by decide)).trans (xs_s hg1178)) (q818 + 1) (by omega) (by omega) ((hg1180 a0 13 0 43 hs_a0 (by decide)).trans ((xs_k hg1178 (by decide)).trans ((xs_a hg1177 (xne hs_a0 hs_wl (by decide))).trans ((xs_k hg1171 (by decide)).trans (xs_s hg1169))))) (q819 + 1) (by omega) (by omega) ((hg1180 a0 13 0 44 hs_a0 (by decide)).trans ((xs_k hg1178 (by decide)).trans ((xs_a hg1177 (xne hs_a0 hs_wl (by decide))).trans (xs_s hg1171)))) (xRd.push v1021 (by omega) (by omega) (by have h9 := (show xv g1180 wl q817 = 15 from by rw [(xv_m hg1180 hs_wl (by decide) (by decide)), (xv_a hg1178 (xne hs_wl hs_a0 (by decide))), xv_s hg1177 (by omega)]); omega) (fun i9 hi9 h09 => (show xv g1180 wl i9 = xv g816 wl i9 from by rw [(xv_m hg1180 hs_wl (by decide) (by decide)), (xv_a hg1178 (xne hs_wl hs_a0 (by decide))), (xv_k (i := i9) hg1177 (by omega) (by omega) (by omega)), (xv_a hg1171 (xne hs_wl hs_a0 (by decide))), (xv_a hg1169 (xne hs_wl hs_a0 (by decide)))]))) (by omega) (by omega)
              · refine X_bipush hK dX12_readOne_96 (by decide) ?_
                refine X_goto hK 103 dX12_readOne_98 (by decide) ?_
                refine X_iast hK hs_wl (by decide) (by decide) sl_16200 (by omega) (by omega) (by omega) (by omega) dX12_readOne_103 (fun g1182 hg1182 => ?_)
                refine X_aloadn hK (i := 0) 1 dX12_readOne_104 rfl rfl ?_
                refine X_dup hK dX12_readOne_105 rfl ?_
                refine X_getK hK fl_X12_316_13 hs_a0 ((xs_a hg1182 (xne hs_a0 hs_wl (by decide))).trans ((xs_k hg1171 (by decide)).trans ((xs_k hg1169 (by decide)).trans eq817))) dX12_readOne_106 ?_
                refine X_iconst hK dX12_readOne_109 ?_
                refine X_iadd hK dX12_readOne_110 ?_
                refine X_puti hK fl_X12_316_13 hs_a0 (by decide) sl_13_42 (by omega) (by omega) dX12_readOne_111 (fun g1183 hg1183 => ?_)
                refine X_aloadn hK (i := 0) 1 dX12_readOne_114 rfl rfl ?_
                refine X_callV hK [] [] lk_X12_342 (c_X12_go _ _ _ _ _ S g1183 a0 hs_a0) hs_a0 ⟨by decide, rfl⟩ dX12_readOne_115 rfl rfl (by simp [Value.category]) (by decide) (by decide) (by decide) (by decide) (fun r1184 S1186 g1185 pr1184 qr1184 hg1185 => ?_)
                obtain ⟨rfl, rfl⟩ := pr1184
                refine X_st [] rfl ?_
                refine X_goto hK 0 dX12_readOne_118 (by decide) ?_
                refine X_lv [(0, .ref a0)] [1] rfl ?_
                exact ihP1020  g1185 (xM.tr (xM_up (xM_ua (xM_up (xM_up (xM.tr xM.rf xLe.rf hg816 (by decide)) hg1169 hs_a0 (by decide) (by decide)) hg1171 hs_a0 (by decide) (by decide)) hg1182 hs_wl (by decide) (by decide)) hg1183 hs_a0 (by decide) (by decide)) xLe.rf hg1185 (by decide)) (q817 + 1) (by omega) (by omega) ((hg1185 a0 13 0 42 hs_a0 (by decide)).trans (xs_s hg1183)) (q818 + 1) (by omega) (by omega) ((hg1185 a0 13 0 43 hs_a0 (by decide)).trans ((xs_k hg1183 (by decide)).trans ((xs_a hg1182 (xne hs_a0 hs_wl (by decide))).trans ((xs_k hg1171 (by decide)).trans (xs_s hg1169))))) (q819 + 1) (by omega) (by omega) ((hg1185 a0 13 0 44 hs_a0 (by decide)).trans ((xs_k hg1183 (by decide)).trans ((xs_a hg1182 (xne hs_a0 hs_wl (by decide))).trans (xs_s hg1171)))) (xRd.push v1021 (by omega) (by omega) (by have h9 := (show xv g1185 wl q817 = 12 from by rw [(xv_m hg1185 hs_wl (by decide) (by decide)), (xv_a hg1183 (xne hs_wl hs_a0 (by decide))), xv_s hg1182 (by omega)]); omega) (fun i9 hi9 h09 => (show xv g1185 wl i9 = xv g816 wl i9 from by rw [(xv_m hg1185 hs_wl (by decide) (by decide)), (xv_a hg1183 (xne hs_wl hs_a0 (by decide))), (xv_k (i := i9) hg1182 (by omega) (by omega) (by omega)), (xv_a hg1171 (xne hs_wl hs_a0 (by decide))), (xv_a hg1169 (xne hs_wl hs_a0 (by decide)))]))) (by omega) (by omega)
            · refine X_aloadn hK (i := 0) 1 dX12_readOne_50 rfl rfl ?_
              refine X_iconst hK dX12_readOne_51 ?_
              refine X_callV hK [.int (iI 4)] [] lk_X12_333 (c_X12_bad _ _ _ _ _ S g816 a0 4 hs_a0 (by omega)) hs_a0 ⟨by decide, rfl⟩ dX12_readOne_52 rfl rfl (by simp [Value.category]) (by decide) (by decide) (by decide) (by decide) (fun r1187 S1189 g1188 pr1187 qr1187 hg1188 => ?_)
              obtain ⟨rfl, z1190, rfl, lz1190, uz1190⟩ := pr1187
              refine X_st [.int (iI z1190)] rfl ?_
              exact hret _ _ _ _ _ _ _ dX12_readOne_55 (by omega) (by omega) ⟨rfl, z1190, rfl, (by omega), (by omega), ⟨np, q817, q819, q818, ((hg1188 a0 13 0 41 hs_a0 (by decide)).trans ((hg816 a0 13 0 41 hs_a0 (by decide)).trans enp)), by omega, by omega, ((hg1188 a0 13 0 42 hs_a0 (by decide)).trans eq817), by omega, by omega, ((hg1188 a0 13 0 43 hs_a0 (by decide)).trans eq818), by omega, by omega, ((hg1188 a0 13 0 44 hs_a0 (by decide)).trans eq819), by omega, by omega, (fun h => by omega), (by rw [(Eq.trans (xv_m hg1188 hs_wp (by decide) (by decide)) (xv_m hg816 hs_wp (by decide) (by decide)))]; exact xLow.rf)⟩⟩ (Nat.le_refl _) (Nat.le_refl _)
        · refine X_aloadn hK (i := 0) 1 dX12_readOne_17 rfl rfl ?_
          refine X_bipush hK dX12_readOne_18 (by decide) ?_
          refine X_callV hK [.int (iI 40)] [] lk_X12_330 (c_X12_isSign _ _ _ _ _ S g816 a0 40 hs_a0 (by omega)) hs_a0 ⟨by decide, rfl⟩ dX12_readOne_20 rfl rfl (by simp [Value.category]) (by decide) (by decide) (by decide) (by decide) (fun r1191 S1193 g1192 pr1191 qr1191 hg1192 => ?_)
          obtain ⟨rfl, rfl, z1194, rfl, lz1194, uz1194⟩ := pr1191
          refine X_st [.int (iI z1194)] rfl ?_
          refine X_if_ne hK 32 (by omega) dX12_readOne_23 (by decide) (fun c1195 => ?_) (fun c1195 => ?_)
          · refine X_aloadn hK (i := 0) 1 dX12_readOne_32 rfl rfl ?_
            refine X_getK hK fl_X12_336_13 hs_a0 eq818 dX12_readOne_33 ?_
            refine X_bipush hK dX12_readOne_36 (by decide) ?_
            refine X_icmp_eq hK 50 (by omega) (by omega) dX12_readOne_38 (by decide) (fun c1196 => ?_) (fun c1196 => ?_)
            · refine X_aloadn hK (i := 0) 1 dX12_readOne_50 rfl rfl ?_
              refine X_iconst hK dX12_readOne_51 ?_
              refine X_callV hK [.int (iI 4)] [] lk_X12_333 (c_X12_bad _ _ _ _ _ S g816 a0 4 hs_a0 (by omega)) hs_a0 ⟨by decide, rfl⟩ dX12_readOne_52 rfl rfl (by simp [Value.category]) (by decide) (by decide) (by decide) (by decide) (fun r1197 S1199 g1198 pr1197 qr1197 hg1198 => ?_)
              obtain ⟨rfl, z1200, rfl, lz1200, uz1200⟩ := pr1197
              refine X_st [.int (iI z1200)] rfl ?_
              exact hret _ _ _ _ _ _ _ dX12_readOne_55 (by omega) (by omega) ⟨rfl, z1200, rfl, (by omega), (by omega), ⟨np, q817, q819, q818, ((hg1198 a0 13 0 41 hs_a0 (by decide)).trans ((hg816 a0 13 0 41 hs_a0 (by decide)).trans enp)), by omega, by omega, ((hg1198 a0 13 0 42 hs_a0 (by decide)).trans eq817), by omega, by omega, ((hg1198 a0 13 0 43 hs_a0 (by decide)).trans eq818), by omega, by omega, ((hg1198 a0 13 0 44 hs_a0 (by decide)).trans eq819), by omega, by omega, (fun h => by omega), (by rw [(Eq.trans (xv_m hg1198 hs_wp (by decide) (by decide)) (xv_m hg816 hs_wp (by decide) (by decide)))]; exact xLow.rf)⟩⟩ (Nat.le_refl _) (Nat.le_refl _)
            · refine X_aloadn hK (i := 0) 1 dX12_readOne_41 rfl rfl ?_
              refine X_getK hK fl_X12_339_13 hs_a0 eq819 dX12_readOne_42 ?_
              refine X_bipush hK dX12_readOne_45 (by decide) ?_
              refine X_icmp_ne hK 56 (by omega) (by omega) dX12_readOne_47 (by decide) (fun c1201 => ?_) (fun c1201 => ?_)
              · refine X_aloadn hK (i := 0) 1 dX12_readOne_56 rfl rfl ?_
                refine X_dup hK dX12_readOne_57 rfl ?_
                refine X_getK hK fl_X12_336_13 hs_a0 eq818 dX12_readOne_58 ?_
                refine X_iconst hK dX12_readOne_61 ?_
                refine X_iadd hK dX12_readOne_62 ?_
                refine X_puti hK fl_X12_336_13 hs_a0 (by decide) sl_13_43 (by omega) (by omega) dX12_readOne_63 (fun g1202 hg1202 => ?_)
                refine X_iloadn hK (i := 1) 0 dX12_readOne_66 rfl rfl ?_
                refine X_iconst hK dX12_readOne_67 ?_
                refine X_icmp_ne hK 121 (by omega) (by omega) dX12_readOne_68 (by decide) (fun c1203 => False.elim (by omega)) (fun c1203 => ?_)
                refine X_aloadn hK (i := 0) 1 dX12_readOne_71 rfl rfl ?_
                refine X_dup hK dX12_readOne_72 rfl ?_
                refine X_getK hK fl_X12_339_13 hs_a0 ((xs_k hg1202 (by decide)).trans eq819) dX12_readOne_73 ?_
                refine X_iconst hK dX12_readOne_76 ?_
                refine X_iadd hK dX12_readOne_77 ?_
                refine X_puti hK fl_X12_339_13 hs_a0 (by decide) sl_13_44 (by omega) (by omega) dX12_readOne_78 (fun g1204 hg1204 => ?_)
                refine X_aloadn hK (i := 0) 1 dX12_readOne_81 rfl rfl ?_
                refine X_getK hK fl_X12_77_13 hs_a0 ((xs_k hg1204 (by decide)).trans ((xs_k hg1202 (by decide)).trans ((hg816 a0 13 0 38 hs_a0 (by decide)).trans ewl))) dX12_readOne_82 ?_
                refine X_aloadn hK (i := 0) 1 dX12_readOne_85 rfl rfl ?_
                refine X_getK hK fl_X12_316_13 hs_a0 ((xs_k hg1204 (by decide)).trans ((xs_k hg1202 (by decide)).trans eq817)) dX12_readOne_86 ?_
                refine X_aloadn hK (i := 0) 1 dX12_readOne_89 rfl rfl ?_
                refine X_callV hK [] [.int (iI q817), .ref wl] lk_X12_326 (c_X12_isNot _ _ _ _ _ S g1204 a0 hs_a0) hs_a0 ⟨by decide, rfl⟩ dX12_readOne_90 rfl rfl (by simp [Value.category]) (by decide) (by decide) (by decide) (by decide) (fun r1205 S1207 g1206 pr1205 qr1205 hg1206 => ?_)
                obtain ⟨rfl, rfl, z1208, rfl, lz1208, uz1208⟩ := pr1205
                refine X_st [.int (iI z1208), .int (iI q817), .ref wl] rfl ?_
                refine X_if_eq hK 101 (by omega) dX12_readOne_93 (by decide) (fun c1209 => ?_) (fun c1209 => ?_)
                · refine X_bipush hK dX12_readOne_101 (by decide) ?_
                  refine X_iast hK hs_wl (by decide) (by decide) sl_16200 (by omega) (by omega) (by omega) (by omega) dX12_readOne_103 (fun g1210 hg1210 => ?_)
                  refine X_aloadn hK (i := 0) 1 dX12_readOne_104 rfl rfl ?_
                  refine X_dup hK dX12_readOne_105 rfl ?_
                  refine X_getK hK fl_X12_316_13 hs_a0 ((xs_a hg1210 (xne hs_a0 hs_wl (by decide))).trans ((xs_k hg1204 (by decide)).trans ((xs_k hg1202 (by decide)).trans eq817))) dX12_readOne_106 ?_
                  refine X_iconst hK dX12_readOne_109 ?_
                  refine X_iadd hK dX12_readOne_110 ?_
                  refine X_puti hK fl_X12_316_13 hs_a0 (by decide) sl_13_42 (by omega) (by omega) dX12_readOne_111 (fun g1211 hg1211 => ?_)
                  refine X_aloadn hK (i := 0) 1 dX12_readOne_114 rfl rfl ?_
                  refine X_callV hK [] [] lk_X12_342 (c_X12_go _ _ _ _ _ S g1211 a0 hs_a0) hs_a0 ⟨by decide, rfl⟩ dX12_readOne_115 rfl rfl (by simp [Value.category]) (by decide) (by decide) (by decide) (by decide) (fun r1212 S1214 g1213 pr1212 qr1212 hg1213 => ?_)
                  obtain ⟨rfl, rfl⟩ := pr1212
                  refine X_st [] rfl ?_
                  refine X_goto hK 0 dX12_readOne_118 (by decide) ?_
                  refine X_lv [(0, .ref a0)] [1] rfl ?_
                  exact ihP1020  g1213 (xM.tr (xM_up (xM_ua (xM_up (xM_up (xM.tr xM.rf xLe.rf hg816 (by decide)) hg1202 hs_a0 (by decide) (by decide)) hg1204 hs_a0 (by decide) (by decide)) hg1210 hs_wl (by decide) (by decide)) hg1211 hs_a0 (by decide) (by decide)) xLe.rf hg1213 (by decide)) (q817 + 1) (by omega) (by omega) ((hg1213 a0 13 0 42 hs_a0 (by decide)).trans (xs_s hg1211)) (q818 + 1) (by omega) (by omega) ((hg1213 a0 13 0 43 hs_a0 (by decide)).trans ((xs_k hg1211 (by decide)).trans ((xs_a hg1210 (xne hs_a0 hs_wl (by decide))).trans ((xs_k hg1204 (by decide)).trans (xs_s hg1202))))) (q819 + 1) (by omega) (by omega) ((hg1213 a0 13 0 44 hs_a0 (by decide)).trans ((xs_k hg1211 (by decide)).trans ((xs_a hg1210 (xne hs_a0 hs_wl (by decide))).trans (xs_s hg1204)))) (xRd.push v1021 (by omega) (by omega) (by have h9 := (show xv g1213 wl q817 = 15 from by rw [(xv_m hg1213 hs_wl (by decide) (by decide)), (xv_a hg1211 (xne hs_wl hs_a0 (by decide))), xv_s hg1210 (by omega)]); omega) (fun i9 hi9 h09 => (show xv g1213 wl i9 = xv g816 wl i9 from by rw [(xv_m hg1213 hs_wl (by decide) (by decide)), (xv_a hg1211 (xne hs_wl hs_a0 (by decide))), (xv_k (i := i9) hg1210 (by omega) (by omega) (by omega)), (xv_a hg1204 (xne hs_wl hs_a0 (by decide))), (xv_a hg1202 (xne hs_wl hs_a0 (by decide)))]))) (by omega) (by omega)
                · refine X_bipush hK dX12_readOne_96 (by decide) ?_
                  refine X_goto hK 103 dX12_readOne_98 (by decide) ?_
                  refine X_iast hK hs_wl (by decide) (by decide) sl_16200 (by omega) (by omega) (by omega) (by omega) dX12_readOne_103 (fun g1215 hg1215 => ?_)
                  refine X_aloadn hK (i := 0) 1 dX12_readOne_104 rfl rfl ?_
                  refine X_dup hK dX12_readOne_105 rfl ?_
                  refine X_getK hK fl_X12_316_13 hs_a0 ((xs_a hg1215 (xne hs_a0 hs_wl (by decide))).trans ((xs_k hg1204 (by decide)).trans ((xs_k hg1202 (by decide)).trans eq817))) dX12_readOne_106 ?_
                  refine X_iconst hK dX12_readOne_109 ?_
                  refine X_iadd hK dX12_readOne_110 ?_
                  refine X_puti hK fl_X12_316_13 hs_a0 (by decide) sl_13_42 (by omega) (by omega) dX12_readOne_111 (fun g1216 hg1216 => ?_)
                  refine X_aloadn hK (i := 0) 1 dX12_readOne_114 rfl rfl ?_
                  refine X_callV hK [] [] lk_X12_342 (c_X12_go _ _ _ _ _ S g1216 a0 hs_a0) hs_a0 ⟨by decide, rfl⟩ dX12_readOne_115 rfl rfl (by simp [Value.category]) (by decide) (by decide) (by decide) (by decide) (fun r1217 S1219 g1218 pr1217 qr1217 hg1218 => ?_)
                  obtain ⟨rfl, rfl⟩ := pr1217
                  refine X_st [] rfl ?_
                  refine X_goto hK 0 dX12_readOne_118 (by decide) ?_
                  refine X_lv [(0, .ref a0)] [1] rfl ?_
                  exact ihP1020  g1218 (xM.tr (xM_up (xM_ua (xM_up (xM_up (xM.tr xM.rf xLe.rf hg816 (by decide)) hg1202 hs_a0 (by decide) (by decide)) hg1204 hs_a0 (by decide) (by decide)) hg1215 hs_wl (by decide) (by decide)) hg1216 hs_a0 (by decide) (by decide)) xLe.rf hg1218 (by decide)) (q817 + 1) (by omega) (by omega) ((hg1218 a0 13 0 42 hs_a0 (by decide)).trans (xs_s hg1216)) (q818 + 1) (by omega) (by omega) ((hg1218 a0 13 0 43 hs_a0 (by decide)).trans ((xs_k hg1216 (by decide)).trans ((xs_a hg1215 (xne hs_a0 hs_wl (by decide))).trans ((xs_k hg1204 (by decide)).trans (xs_s hg1202))))) (q819 + 1) (by omega) (by omega) ((hg1218 a0 13 0 44 hs_a0 (by decide)).trans ((xs_k hg1216 (by decide)).trans ((xs_a hg1215 (xne hs_a0 hs_wl (by decide))).trans (xs_s hg1204)))) (xRd.push v1021 (by omega) (by omega) (by have h9 := (show xv g1218 wl q817 = 12 from by rw [(xv_m hg1218 hs_wl (by decide) (by decide)), (xv_a hg1216 (xne hs_wl hs_a0 (by decide))), xv_s hg1215 (by omega)]); omega) (fun i9 hi9 h09 => (show xv g1218 wl i9 = xv g816 wl i9 from by rw [(xv_m hg1218 hs_wl (by decide) (by decide)), (xv_a hg1216 (xne hs_wl hs_a0 (by decide))), (xv_k (i := i9) hg1215 (by omega) (by omega) (by omega)), (xv_a hg1204 (xne hs_wl hs_a0 (by decide))), (xv_a hg1202 (xne hs_wl hs_a0 (by decide)))]))) (by omega) (by omega)
              · refine X_aloadn hK (i := 0) 1 dX12_readOne_50 rfl rfl ?_
                refine X_iconst hK dX12_readOne_51 ?_
                refine X_callV hK [.int (iI 4)] [] lk_X12_333 (c_X12_bad _ _ _ _ _ S g816 a0 4 hs_a0 (by omega)) hs_a0 ⟨by decide, rfl⟩ dX12_readOne_52 rfl rfl (by simp [Value.category]) (by decide) (by decide) (by decide) (by decide) (fun r1220 S1222 g1221 pr1220 qr1220 hg1221 => ?_)
                obtain ⟨rfl, z1223, rfl, lz1223, uz1223⟩ := pr1220
                refine X_st [.int (iI z1223)] rfl ?_
                exact hret _ _ _ _ _ _ _ dX12_readOne_55 (by omega) (by omega) ⟨rfl, z1223, rfl, (by omega), (by omega), ⟨np, q817, q819, q818, ((hg1221 a0 13 0 41 hs_a0 (by decide)).trans ((hg816 a0 13 0 41 hs_a0 (by decide)).trans enp)), by omega, by omega, ((hg1221 a0 13 0 42 hs_a0 (by decide)).trans eq817), by omega, by omega, ((hg1221 a0 13 0 43 hs_a0 (by decide)).trans eq818), by omega, by omega, ((hg1221 a0 13 0 44 hs_a0 (by decide)).trans eq819), by omega, by omega, (fun h => by omega), (by rw [(Eq.trans (xv_m hg1221 hs_wp (by decide) (by decide)) (xv_m hg816 hs_wp (by decide) (by decide)))]; exact xLow.rf)⟩⟩ (Nat.le_refl _) (Nat.le_refl _)
          · refine X_aloadn hK (i := 0) 1 dX12_readOne_26 rfl rfl ?_
            refine X_iconst hK dX12_readOne_27 ?_
            refine X_callV hK [.int (iI 1)] [] lk_X12_333 (c_X12_bad _ _ _ _ _ S g816 a0 1 hs_a0 (by omega)) hs_a0 ⟨by decide, rfl⟩ dX12_readOne_28 rfl rfl (by simp [Value.category]) (by decide) (by decide) (by decide) (by decide) (fun r1224 S1226 g1225 pr1224 qr1224 hg1225 => ?_)
            obtain ⟨rfl, z1227, rfl, lz1227, uz1227⟩ := pr1224
            refine X_st [.int (iI z1227)] rfl ?_
            exact hret _ _ _ _ _ _ _ dX12_readOne_31 (by omega) (by omega) ⟨rfl, z1227, rfl, (by omega), (by omega), ⟨np, q817, q819, q818, ((hg1225 a0 13 0 41 hs_a0 (by decide)).trans ((hg816 a0 13 0 41 hs_a0 (by decide)).trans enp)), by omega, by omega, ((hg1225 a0 13 0 42 hs_a0 (by decide)).trans eq817), by omega, by omega, ((hg1225 a0 13 0 43 hs_a0 (by decide)).trans eq818), by omega, by omega, ((hg1225 a0 13 0 44 hs_a0 (by decide)).trans eq819), by omega, by omega, (fun h => by omega), (by rw [(Eq.trans (xv_m hg1225 hs_wp (by decide) (by decide)) (xv_m hg816 hs_wp (by decide) (by decide)))]; exact xLow.rf)⟩⟩ (Nat.le_refl _) (Nat.le_refl _)
  exact P1020 ((50 - no : Int).toNat + 1) g xM.rf nt (by omega) (by omega) ent no (by omega) (by omega) eno nw (by omega) (by omega) enw hp0 (by omega) (by omega)

set_option maxHeartbeats 4000000 in
set_option maxRecDepth 100000 in
theorem c_X12_readCond (l : Launch) (D : va_G) (kA : Nat → ClassId) (b0 : Nat) (t0 : Nat → Nat) (S : xT) (g : xG) (a0 : Nat) (np : Int) (no : Int) (nw : Int) (wp : Nat) (wl : Nat) (hs_a0 : S a0 = some (13, 0)) (hnp : 0 ≤ np ∧ np ≤ 120) (enp : g a0 41 = .int (iI np)) (hno : 0 ≤ no ∧ no ≤ 50) (eno : g a0 43 = .int (iI no)) (hnw : 0 ≤ nw ∧ nw ≤ 10) (enw : g a0 44 = .int (iI nw)) (ewp : g a0 35 = .ref wp) (hs_wp : S wp = some (15900, 1320)) (ewl : g a0 38 = .ref wl) (hs_wl : S wl = some (16200, 64)) (hp0 : np ≤ 2 * no) : xMt l yX12_readCond cX12_readCond 2 (some .boolean) 3 0 0 68 D kA b0 t0 [(13, 42), (13, 25), (13, 26), (13, 43), (13, 20), (13, 21), (13, 28), (13, 23), (13, 22), (13, 24), (15900, 0), (16000, 0), (16100, 0), (13, 41), (13, 44), (16200, 0)] [.ref a0] S g (fun (r : Option Value) (S1 : xT) (g1 : xG) => S = S1 ∧ ∃ z : Int, r = some (.int (iI z)) ∧ 0 ≤ z ∧ z ≤ 1 ∧ (∃ a c d : Int, g1 a0 41 = .int (iI a) ∧ 0 ≤ a ∧ a ≤ 120 ∧ g1 a0 43 = .int (iI d) ∧ 0 ≤ d ∧ d ≤ 50 ∧ g1 a0 44 = .int (iI c) ∧ 0 ≤ c ∧ c ≤ 10 ∧ (z = 1 → np ≤ a ∧ a ≤ 2 * d ∧ xhf (xv g1 wp) (1200 + np) (a - np).toNat ≠ none) ∧ xLow (1200 + np) (xv g1 wp) (xv g wp))) := by
  refine xEnterZ (by decide) (by simp [lg_sl, Value.category]) [(0, .ref a0)] rfl ?_
  intro K E hK hret _ _ _
  refine X_aloadn hK (i := 0) 0 dX12_readCond_0 rfl rfl ?_
  refine X_iconst hK dX12_readCond_1 ?_
  refine X_puti hK fl_X12_316_13 hs_a0 (by decide) sl_13_42 (by omega) (by omega) dX12_readCond_2 (fun g1 hg1 => ?_)
  have P2217 : ∀ (nP2217 : Nat) (g1896 : xG) (_ : xM [(13, 20), (13, 21), (13, 28), (13, 23), (13, 22), (13, 24), (13, 42), (16200, 0), (15900, 0), (16000, 0), (16100, 0), (13, 41), (13, 44), (13, 25), (13, 26), (13, 43)] S g1 g1896) (q1897 : Int) (_ : 0 ≤ q1897) (_ : q1897 ≤ 120) (_ : g1896 a0 41 = .int (iI q1897)) (q1898 : Int) (_ : 0 ≤ q1898) (_ : q1898 ≤ 64) (_ : g1896 a0 42 = .int (iI q1898)) (q1899 : Int) (_ : 0 ≤ q1899) (_ : q1899 ≤ 50) (_ : g1896 a0 43 = .int (iI q1899)) (q1900 : Int) (_ : 0 ≤ q1900) (_ : q1900 ≤ 10) (_ : g1896 a0 44 = .int (iI q1900)) (_ : xRd (xv g1896 wp) (xv g1896 wl) np q1897 q1898 q1899 q1900 1) (_ : xLow (1200 + np) (xv g1896 wp) (xv g wp)) (_ : no ≤ q1899) (_ : 50 - q1899 < (nP2217 : Int)), X K E 5 [(0, .ref a0)] [] S g1896 0 0 := by
    intro nP2217
    induction nP2217 with
    | zero => intro g1896 hg1896 q1897 lq1897 uq1897 eq1897 q1898 lq1898 uq1898 eq1898 q1899 lq1899 uq1899 eq1899 q1900 lq1900 uq1900 eq1900 v2218 v2219 v2220 mP2217; exact False.elim (by omega)
    | succ nP2217 ihP2217 =>
      intro g1896 hg1896 q1897 lq1897 uq1897 eq1897 q1898 lq1898 uq1898 eq1898 q1899 lq1899 uq1899 eq1899 q1900 lq1900 uq1900 eq1900 v2218 v2219 v2220 mP2217
      refine X_aloadn hK (i := 0) 0 dX12_readCond_5 rfl rfl ?_
      refine X_callV hK [] [] lk_X12_348 (c_X12_readOne _ _ _ _ _ S g1896 a0 q1897 q1898 q1899 q1900 wp wl np hs_a0 (by omega) eq1897 (by omega) eq1898 (by omega) eq1899 (by omega) eq1900 ((hg1896 a0 13 0 35 hs_a0 (by decide)).trans ((xs_k hg1 (by decide)).trans ewp)) hs_wp ((hg1896 a0 13 0 38 hs_a0 (by decide)).trans ((xs_k hg1 (by decide)).trans ewl)) hs_wl v2218) hs_a0 ⟨by decide, rfl⟩ dX12_readCond_6 rfl rfl (by simp [Value.category]) (by decide) (by decide) (by decide) (by decide) (fun r2221 S2223 g2222 pr2221 qr2221 hg2222 => ?_)
      obtain ⟨rfl, z2224, rfl, lz2224, uz2224, k2225⟩ := pr2221
      refine X_st [.int (iI z2224)] rfl ?_
      obtain ⟨z2226, z2227, z2228, z2229, ez2226, lz2226, uz2226, ez2227, lz2227, uz2227, ez2229, lz2229, uz2229, ez2228, lz2228, uz2228, Rz2226, oz2226⟩ := k2225
      have lw2230 : xLow (1200 + np) (xv g2222 wp) (xv g wp) := xLow.tr v2219 oz2226 (by omega)
      refine X_if_ne hK 14 (by omega) dX12_readCond_9 (by decide) (fun c2231 => ?_) (fun c2231 => ?_)
      · have P2996 : ∀ (nP2996 : Nat) (g2843 : xG) (_ : xM [(13, 42), (13, 44), (15900, 0), (16000, 0), (16100, 0), (13, 41), (13, 20), (13, 21), (13, 28), (13, 23), (13, 22), (13, 24)] S g2222 g2843) (q2844 : Int) (_ : 0 ≤ q2844) (_ : q2844 ≤ 120) (_ : g2843 a0 41 = .int (iI q2844)) (q2845 : Int) (_ : 0 ≤ q2845) (_ : q2845 ≤ 64) (_ : g2843 a0 42 = .int (iI q2845)) (q2846 : Int) (_ : 0 ≤ q2846) (_ : q2846 ≤ 10) (_ : g2843 a0 44 = .int (iI q2846)) (_ : xRd (xv g2843 wp) (xv g2843 wl) np q2844 q2845 z2229 q2846 0) (_ : xLow (1200 + np) (xv g2843 wp) (xv g wp)) (_ : no < z2229) (_ : q2845 < (nP2996 : Int)), X K E 14 [(0, .ref a0)] [] S g2843 0 0 := by
          intro nP2996
          induction nP2996 with
          | zero => intro g2843 hg2843 q2844 lq2844 uq2844 eq2844 q2845 lq2845 uq2845 eq2845 q2846 lq2846 uq2846 eq2846 v2997 v2998 v2999 mP2996; exact False.elim (by omega)
          | succ nP2996 ihP2996 =>
            intro g2843 hg2843 q2844 lq2844 uq2844 eq2844 q2845 lq2845 uq2845 eq2845 q2846 lq2846 uq2846 eq2846 v2997 v2998 v2999 mP2996
            refine X_aloadn hK (i := 0) 0 dX12_readCond_14 rfl rfl ?_
            have hbh3000 := xRd.bd v2997 (by omega)
            refine X_bipush hK dX12_readCond_15 (by decide) ?_
            refine X_callV hK [.int (iI 41)] [] lk_X12_330 (c_X12_isSign _ _ _ _ _ S g2843 a0 41 hs_a0 (by omega)) hs_a0 ⟨by decide, rfl⟩ dX12_readCond_17 rfl rfl (by simp [Value.category]) (by decide) (by decide) (by decide) (by decide) (fun r3001 S3003 g3002 pr3001 qr3001 hg3002 => ?_)
            obtain ⟨rfl, rfl, z3004, rfl, lz3004, uz3004⟩ := pr3001
            refine X_st [.int (iI z3004)] rfl ?_
            refine X_if_eq hK 69 (by omega) dX12_readCond_20 (by decide) (fun c3005 => ?_) (fun c3005 => ?_)
            · refine X_aloadn hK (i := 0) 0 dX12_readCond_69 rfl rfl ?_
              refine X_bipush hK dX12_readCond_70 (by decide) ?_
              refine X_bipush hK dX12_readCond_72 (by decide) ?_
              refine X_bipush hK dX12_readCond_74 (by decide) ?_
              refine X_iconst hK dX12_readCond_76 ?_
              refine X_iconst hK dX12_readCond_77 ?_
              refine X_callS hK [.int (iI 97), .int (iI 110), .int (iI 100), .int (iI 0), .int (iI 0)] [.ref a0] lk_X12_297 (c_X12_spelt _ _ _ _ _ S g2843 97 110 100 0 0 (by omega) (by omega) (by omega) (by omega) (by omega)) dX12_readCond_78 rfl rfl (by simp [Value.category]) (by decide) (by decide) (by decide) (by decide) (fun r3006 S3008 g3007 pr3006 qr3006 hg3007 => ?_)
              obtain ⟨rfl, rfl, y3009, rfl⟩ := pr3006
              refine X_st [.long y3009, .ref a0] rfl ?_
              refine X_callV hK [.long y3009] [] lk_X12_301 (c_X12_isKey _ _ _ _ _ S g2843 a0 y3009 hs_a0) hs_a0 ⟨by decide, rfl⟩ dX12_readCond_81 rfl rfl (by simp [Value.category]) (by decide) (by decide) (by decide) (by decide) (fun r3010 S3012 g3011 pr3010 qr3010 hg3011 => ?_)
              obtain ⟨rfl, rfl, z3013, rfl, lz3013, uz3013⟩ := pr3010
              refine X_st [.int (iI z3013)] rfl ?_
              refine X_istoren hK (i := 1) [(1, .int (iI z3013)), (0, .ref a0)] dX12_readCond_84 rfl (by decide) rfl ?_
              refine X_iloadn hK (i := 1) 0 dX12_readCond_85 rfl rfl ?_
              refine X_if_ne hK 129 (by omega) dX12_readCond_86 (by decide) (fun c3014 => ?_) (fun c3014 => ?_)
              · refine X_aloadn hK (i := 0) 1 dX12_readCond_129 rfl rfl ?_
                refine X_bipush hK dX12_readCond_130 (by decide) ?_
                refine X_iloadn hK (i := 1) 0 dX12_readCond_132 rfl rfl ?_
                refine X_if_eq hK 141 (by omega) dX12_readCond_133 (by decide) (fun c3015 => False.elim (by omega)) (fun c3015 => ?_)
                refine X_bipush hK dX12_readCond_136 (by decide) ?_
                refine X_goto hK 143 dX12_readCond_138 (by decide) ?_
                refine X_callV hK [.int (iI 13), .int (iI 13)] [] lk_X12_354 (c_X12_drop _ _ _ _ _ S g2843 a0 13 13 q2844 q2845 z2229 q2846 wp wl np hs_a0 (by omega) (by omega) (by omega) eq2844 (by omega) eq2845 (by omega) ((hg2843 a0 13 0 43 hs_a0 (by decide)).trans ez2229) (by omega) eq2846 ((hg2843 a0 13 0 35 hs_a0 (by decide)).trans ((hg2222 a0 13 0 35 hs_a0 (by decide)).trans ((hg1896 a0 13 0 35 hs_a0 (by decide)).trans ((xs_k hg1 (by decide)).trans ewp)))) hs_wp ((hg2843 a0 13 0 38 hs_a0 (by decide)).trans ((hg2222 a0 13 0 38 hs_a0 (by decide)).trans ((hg1896 a0 13 0 38 hs_a0 (by decide)).trans ((xs_k hg1 (by decide)).trans ewl)))) hs_wl v2997) hs_a0 ⟨by decide, rfl⟩ dX12_readCond_143 rfl rfl (by simp [Value.category]) (by decide) (by decide) (by decide) (by decide) (fun r3016 S3018 g3017 pr3016 qr3016 hg3017 => ?_)
                obtain ⟨rfl, rfl, k3019⟩ := pr3016
                refine X_st [] rfl ?_
                obtain ⟨z3020, z3021, ez3020, lz3020, uz3020, ez3021, lz3021, uz3021, Rz3020, xz3020, yz3020, oz3020⟩ := k3019
                have hbz3020 := xRd.bd Rz3020 (by omega)
                have lw3022 : xLow (1200 + np) (xv g3017 wp) (xv g wp) := xLow.tr v2998 oz3020 (by omega)
                refine X_aloadn hK (i := 0) 1 dX12_readCond_146 rfl rfl ?_
                refine X_getK hK fl_X12_77_13 hs_a0 ((hg3017 a0 13 0 38 hs_a0 (by decide)).trans ((hg2843 a0 13 0 38 hs_a0 (by decide)).trans ((hg2222 a0 13 0 38 hs_a0 (by decide)).trans ((hg1896 a0 13 0 38 hs_a0 (by decide)).trans ((xs_k hg1 (by decide)).trans ewl))))) dX12_readCond_147 ?_
                refine X_aloadn hK (i := 0) 1 dX12_readCond_150 rfl rfl ?_
                refine X_getK hK fl_X12_316_13 hs_a0 ez3021 dX12_readCond_151 ?_
                refine X_iloadn hK (i := 1) 0 dX12_readCond_154 rfl rfl ?_
                refine X_if_eq hK 163 (by omega) dX12_readCond_155 (by decide) (fun c3023 => False.elim (by omega)) (fun c3023 => ?_)
                refine X_bipush hK dX12_readCond_158 (by decide) ?_
                refine X_goto hK 165 dX12_readCond_160 (by decide) ?_
                refine X_iast hK hs_wl (by decide) (by decide) sl_16200 (by omega) (by omega) (by omega) (by omega) dX12_readCond_165 (fun g3024 hg3024 => ?_)
                refine X_aloadn hK (i := 0) 1 dX12_readCond_166 rfl rfl ?_
                refine X_dup hK dX12_readCond_167 rfl ?_
                refine X_getK hK fl_X12_316_13 hs_a0 ((xs_a hg3024 (xne hs_a0 hs_wl (by decide))).trans ez3021) dX12_readCond_168 ?_
                refine X_iconst hK dX12_readCond_171 ?_
                refine X_iadd hK dX12_readCond_172 ?_
                refine X_puti hK fl_X12_316_13 hs_a0 (by decide) sl_13_42 (by omega) (by omega) dX12_readCond_173 (fun g3025 hg3025 => ?_)
                refine X_aloadn hK (i := 0) 1 dX12_readCond_176 rfl rfl ?_
                refine X_callV hK [] [] lk_X12_342 (c_X12_go _ _ _ _ _ S g3025 a0 hs_a0) hs_a0 ⟨by decide, rfl⟩ dX12_readCond_177 rfl rfl (by simp [Value.category]) (by decide) (by decide) (by decide) (by decide) (fun r3026 S3028 g3027 pr3026 qr3026 hg3027 => ?_)
                obtain ⟨rfl, rfl⟩ := pr3026
                refine X_st [] rfl ?_
                refine X_goto hK 5 dX12_readCond_180 (by decide) ?_
                refine X_lv [(0, .ref a0)] [1] rfl ?_
                exact ihP2217  g3027 (xM.tr (xM_up (xM_ua (xM.tr (xM.tr (xM.tr (xM.tr xM.rf xLe.rf hg1896 (by decide)) xLe.rf hg2222 (by decide)) xLe.rf hg2843 (by decide)) xLe.rf hg3017 (by decide)) hg3024 hs_wl (by decide) (by decide)) hg3025 hs_a0 (by decide) (by decide)) xLe.rf hg3027 (by decide)) z3020 (by omega) (by omega) ((hg3027 a0 13 0 41 hs_a0 (by decide)).trans ((xs_k hg3025 (by decide)).trans ((xs_a hg3024 (xne hs_a0 hs_wl (by decide))).trans ez3020))) (z3021 + 1) (by omega) (by omega) ((hg3027 a0 13 0 42 hs_a0 (by decide)).trans (xs_s hg3025)) z2229 (by omega) (by omega) ((hg3027 a0 13 0 43 hs_a0 (by decide)).trans ((xs_k hg3025 (by decide)).trans ((xs_a hg3024 (xne hs_a0 hs_wl (by decide))).trans ((hg3017 a0 13 0 43 hs_a0 (by decide)).trans ((hg2843 a0 13 0 43 hs_a0 (by decide)).trans ez2229))))) q2846 (by omega) (by omega) ((hg3027 a0 13 0 44 hs_a0 (by decide)).trans ((xs_k hg3025 (by decide)).trans ((xs_a hg3024 (xne hs_a0 hs_wl (by decide))).trans ((hg3017 a0 13 0 44 hs_a0 (by decide)).trans eq2846)))) (by rw [(Eq.trans (Eq.trans (xv_m hg3027 hs_wp (by decide) (by decide)) (xv_a hg3025 (xne hs_wp hs_a0 (by decide)))) (xv_a hg3024 (xne hs_wp hs_wl (by decide))))]; exact xRd.and Rz3020 (by omega) (show xv g3027 wl z3021 = 13 from by rw [(xv_m hg3027 hs_wl (by decide) (by decide)), (xv_a hg3025 (xne hs_wl hs_a0 (by decide))), xv_s hg3024 (by omega)]) (fun i9 hi9 h09 => (show xv g3027 wl i9 = xv g2843 wl i9 from by rw [(xv_m hg3027 hs_wl (by decide) (by decide)), (xv_a hg3025 (xne hs_wl hs_a0 (by decide))), (xv_k (i := i9) hg3024 (by omega) (by omega) (by omega)), (xv_m hg3017 hs_wl (by decide) (by decide))]))) (by rw [(Eq.trans (Eq.trans (xv_m hg3027 hs_wp (by decide) (by decide)) (xv_a hg3025 (xne hs_wp hs_a0 (by decide)))) (xv_a hg3024 (xne hs_wp hs_wl (by decide))))]; exact lw3022) (by omega) (by omega)
              · refine X_aloadn hK (i := 0) 1 dX12_readCond_89 rfl rfl ?_
                refine X_bipush hK dX12_readCond_90 (by decide) ?_
                refine X_bipush hK dX12_readCond_92 (by decide) ?_
                refine X_iconst hK dX12_readCond_94 ?_
                refine X_iconst hK dX12_readCond_95 ?_
                refine X_iconst hK dX12_readCond_96 ?_
                refine X_callS hK [.int (iI 111), .int (iI 114), .int (iI 0), .int (iI 0), .int (iI 0)] [.ref a0] lk_X12_297 (c_X12_spelt _ _ _ _ _ S g2843 111 114 0 0 0 (by omega) (by omega) (by omega) (by omega) (by omega)) dX12_readCond_97 rfl rfl (by simp [Value.category]) (by decide) (by decide) (by decide) (by decide) (fun r3029 S3031 g3030 pr3029 qr3029 hg3030 => ?_)
                obtain ⟨rfl, rfl, y3032, rfl⟩ := pr3029
                refine X_st [.long y3032, .ref a0] rfl ?_
                refine X_callV hK [.long y3032] [] lk_X12_301 (c_X12_isKey _ _ _ _ _ S g2843 a0 y3032 hs_a0) hs_a0 ⟨by decide, rfl⟩ dX12_readCond_100 rfl rfl (by simp [Value.category]) (by decide) (by decide) (by decide) (by decide) (fun r3033 S3035 g3034 pr3033 qr3033 hg3034 => ?_)
                obtain ⟨rfl, rfl, z3036, rfl, lz3036, uz3036⟩ := pr3033
                refine X_st [.int (iI z3036)] rfl ?_
                refine X_if_ne hK 129 (by omega) dX12_readCond_103 (by decide) (fun c3037 => ?_) (fun c3037 => ?_)
                · refine X_aloadn hK (i := 0) 1 dX12_readCond_129 rfl rfl ?_
                  refine X_bipush hK dX12_readCond_130 (by decide) ?_
                  refine X_iloadn hK (i := 1) 0 dX12_readCond_132 rfl rfl ?_
                  refine X_if_eq hK 141 (by omega) dX12_readCond_133 (by decide) (fun c3038 => ?_) (fun c3038 => False.elim (by omega))
                  refine X_bipush hK dX12_readCond_141 (by decide) ?_
                  refine X_callV hK [.int (iI 13), .int (iI 14)] [] lk_X12_354 (c_X12_drop _ _ _ _ _ S g2843 a0 13 14 q2844 q2845 z2229 q2846 wp wl np hs_a0 (by omega) (by omega) (by omega) eq2844 (by omega) eq2845 (by omega) ((hg2843 a0 13 0 43 hs_a0 (by decide)).trans ez2229) (by omega) eq2846 ((hg2843 a0 13 0 35 hs_a0 (by decide)).trans ((hg2222 a0 13 0 35 hs_a0 (by decide)).trans ((hg1896 a0 13 0 35 hs_a0 (by decide)).trans ((xs_k hg1 (by decide)).trans ewp)))) hs_wp ((hg2843 a0 13 0 38 hs_a0 (by decide)).trans ((hg2222 a0 13 0 38 hs_a0 (by decide)).trans ((hg1896 a0 13 0 38 hs_a0 (by decide)).trans ((xs_k hg1 (by decide)).trans ewl)))) hs_wl v2997) hs_a0 ⟨by decide, rfl⟩ dX12_readCond_143 rfl rfl (by simp [Value.category]) (by decide) (by decide) (by decide) (by decide) (fun r3039 S3041 g3040 pr3039 qr3039 hg3040 => ?_)
                  obtain ⟨rfl, rfl, k3042⟩ := pr3039
                  refine X_st [] rfl ?_
                  obtain ⟨z3043, z3044, ez3043, lz3043, uz3043, ez3044, lz3044, uz3044, Rz3043, xz3043, yz3043, oz3043⟩ := k3042
                  have hbz3043 := xRd.bd Rz3043 (by omega)
                  have lw3045 : xLow (1200 + np) (xv g3040 wp) (xv g wp) := xLow.tr v2998 oz3043 (by omega)
                  refine X_aloadn hK (i := 0) 1 dX12_readCond_146 rfl rfl ?_
                  refine X_getK hK fl_X12_77_13 hs_a0 ((hg3040 a0 13 0 38 hs_a0 (by decide)).trans ((hg2843 a0 13 0 38 hs_a0 (by decide)).trans ((hg2222 a0 13 0 38 hs_a0 (by decide)).trans ((hg1896 a0 13 0 38 hs_a0 (by decide)).trans ((xs_k hg1 (by decide)).trans ewl))))) dX12_readCond_147 ?_
                  refine X_aloadn hK (i := 0) 1 dX12_readCond_150 rfl rfl ?_
                  refine X_getK hK fl_X12_316_13 hs_a0 ez3044 dX12_readCond_151 ?_
                  refine X_iloadn hK (i := 1) 0 dX12_readCond_154 rfl rfl ?_
                  refine X_if_eq hK 163 (by omega) dX12_readCond_155 (by decide) (fun c3046 => ?_) (fun c3046 => False.elim (by omega))
                  refine X_bipush hK dX12_readCond_163 (by decide) ?_
                  refine X_iast hK hs_wl (by decide) (by decide) sl_16200 (by omega) (by omega) (by omega) (by omega) dX12_readCond_165 (fun g3047 hg3047 => ?_)
                  refine X_aloadn hK (i := 0) 1 dX12_readCond_166 rfl rfl ?_
                  refine X_dup hK dX12_readCond_167 rfl ?_
                  refine X_getK hK fl_X12_316_13 hs_a0 ((xs_a hg3047 (xne hs_a0 hs_wl (by decide))).trans ez3044) dX12_readCond_168 ?_
                  refine X_iconst hK dX12_readCond_171 ?_
                  refine X_iadd hK dX12_readCond_172 ?_
                  refine X_puti hK fl_X12_316_13 hs_a0 (by decide) sl_13_42 (by omega) (by omega) dX12_readCond_173 (fun g3048 hg3048 => ?_)
                  refine X_aloadn hK (i := 0) 1 dX12_readCond_176 rfl rfl ?_
                  refine X_callV hK [] [] lk_X12_342 (c_X12_go _ _ _ _ _ S g3048 a0 hs_a0) hs_a0 ⟨by decide, rfl⟩ dX12_readCond_177 rfl rfl (by simp [Value.category]) (by decide) (by decide) (by decide) (by decide) (fun r3049 S3051 g3050 pr3049 qr3049 hg3050 => ?_)
                  obtain ⟨rfl, rfl⟩ := pr3049
                  refine X_st [] rfl ?_
                  refine X_goto hK 5 dX12_readCond_180 (by decide) ?_
                  refine X_lv [(0, .ref a0)] [1] rfl ?_
                  exact ihP2217  g3050 (xM.tr (xM_up (xM_ua (xM.tr (xM.tr (xM.tr (xM.tr xM.rf xLe.rf hg1896 (by decide)) xLe.rf hg2222 (by decide)) xLe.rf hg2843 (by decide)) xLe.rf hg3040 (by decide)) hg3047 hs_wl (by decide) (by decide)) hg3048 hs_a0 (by decide) (by decide)) xLe.rf hg3050 (by decide)) z3043 (by omega) (by omega) ((hg3050 a0 13 0 41 hs_a0 (by decide)).trans ((xs_k hg3048 (by decide)).trans ((xs_a hg3047 (xne hs_a0 hs_wl (by decide))).trans ez3043))) (z3044 + 1) (by omega) (by omega) ((hg3050 a0 13 0 42 hs_a0 (by decide)).trans (xs_s hg3048)) z2229 (by omega) (by omega) ((hg3050 a0 13 0 43 hs_a0 (by decide)).trans ((xs_k hg3048 (by decide)).trans ((xs_a hg3047 (xne hs_a0 hs_wl (by decide))).trans ((hg3040 a0 13 0 43 hs_a0 (by decide)).trans ((hg2843 a0 13 0 43 hs_a0 (by decide)).trans ez2229))))) q2846 (by omega) (by omega) ((hg3050 a0 13 0 44 hs_a0 (by decide)).trans ((xs_k hg3048 (by decide)).trans ((xs_a hg3047 (xne hs_a0 hs_wl (by decide))).trans ((hg3040 a0 13 0 44 hs_a0 (by decide)).trans eq2846)))) (by rw [(Eq.trans (Eq.trans (xv_m hg3050 hs_wp (by decide) (by decide)) (xv_a hg3048 (xne hs_wp hs_a0 (by decide)))) (xv_a hg3047 (xne hs_wp hs_wl (by decide))))]; exact xRd.or Rz3043 (by omega) (show xv g3050 wl z3044 = 14 from by rw [(xv_m hg3050 hs_wl (by decide) (by decide)), (xv_a hg3048 (xne hs_wl hs_a0 (by decide))), xv_s hg3047 (by omega)]) (fun i9 hi9 h09 => (show xv g3050 wl i9 = xv g2843 wl i9 from by rw [(xv_m hg3050 hs_wl (by decide) (by decide)), (xv_a hg3048 (xne hs_wl hs_a0 (by decide))), (xv_k (i := i9) hg3047 (by omega) (by omega) (by omega)), (xv_m hg3040 hs_wl (by decide) (by decide))]))) (by rw [(Eq.trans (Eq.trans (xv_m hg3050 hs_wp (by decide) (by decide)) (xv_a hg3048 (xne hs_wp hs_a0 (by decide)))) (xv_a hg3047 (xne hs_wp hs_wl (by decide))))]; exact lw3045) (by omega) (by omega)
                · refine X_aloadn hK (i := 0) 1 dX12_readCond_106 rfl rfl ?_
                  refine X_callV hK [] [] lk_X12_351 (c2_isOpen _ _ _ _ _ S g2843 a0 q2845 wl hs_a0 (by omega) eq2845 ((hg2843 a0 13 0 38 hs_a0 (by decide)).trans ((hg2222 a0 13 0 38 hs_a0 (by decide)).trans ((hg1896 a0 13 0 38 hs_a0 (by decide)).trans ((xs_k hg1 (by decide)).trans ewl)))) hs_wl) hs_a0 ⟨by decide, rfl⟩ dX12_readCond_107 rfl rfl (by simp [Value.category]) (by decide) (by decide) (by decide) (by decide) (fun r3052 S3054 g3053 pr3052 qr3052 hg3053 => ?_)
                  obtain ⟨rfl, rfl, z3055, rfl, lz3055, uz3055, k3056⟩ := pr3052
                  refine X_st [.int (iI z3055)] rfl ?_
                  refine X_if_eq hK 119 (by omega) dX12_readCond_110 (by decide) (fun c3057 => ?_) (fun c3057 => ?_)
                  · refine X_aloadn hK (i := 0) 1 dX12_readCond_119 rfl rfl ?_
                    refine X_bipush hK dX12_readCond_120 (by decide) ?_
                    refine X_bipush hK dX12_readCond_122 (by decide) ?_
                    refine X_callV hK [.int (iI 13), .int (iI 14)] [] lk_X12_354 (c_X12_drop _ _ _ _ _ S g2843 a0 13 14 q2844 q2845 z2229 q2846 wp wl np hs_a0 (by omega) (by omega) (by omega) eq2844 (by omega) eq2845 (by omega) ((hg2843 a0 13 0 43 hs_a0 (by decide)).trans ez2229) (by omega) eq2846 ((hg2843 a0 13 0 35 hs_a0 (by decide)).trans ((hg2222 a0 13 0 35 hs_a0 (by decide)).trans ((hg1896 a0 13 0 35 hs_a0 (by decide)).trans ((xs_k hg1 (by decide)).trans ewp)))) hs_wp ((hg2843 a0 13 0 38 hs_a0 (by decide)).trans ((hg2222 a0 13 0 38 hs_a0 (by decide)).trans ((hg1896 a0 13 0 38 hs_a0 (by decide)).trans ((xs_k hg1 (by decide)).trans ewl)))) hs_wl v2997) hs_a0 ⟨by decide, rfl⟩ dX12_readCond_124 rfl rfl (by simp [Value.category]) (by decide) (by decide) (by decide) (by decide) (fun r3058 S3060 g3059 pr3058 qr3058 hg3059 => ?_)
                    obtain ⟨rfl, rfl, k3061⟩ := pr3058
                    refine X_st [] rfl ?_
                    obtain ⟨z3062, z3063, ez3062, lz3062, uz3062, ez3063, lz3063, uz3063, Rz3062, xz3062, yz3062, oz3062⟩ := k3061
                    have hbz3062 := xRd.bd Rz3062 (by omega)
                    have lw3064 : xLow (1200 + np) (xv g3059 wp) (xv g wp) := xLow.tr v2998 oz3062 (by omega)
                    refine X_iconst hK dX12_readCond_127 ?_
                    exact hret _ _ _ _ _ _ _ dX12_readCond_128 (by omega) (by omega) ⟨rfl, 1, rfl, (by omega), (by omega), ⟨z3062, q2846, z2229, ez3062, by omega, by omega, ((hg3059 a0 13 0 43 hs_a0 (by decide)).trans ((hg2843 a0 13 0 43 hs_a0 (by decide)).trans ez2229)), by omega, by omega, ((hg3059 a0 13 0 44 hs_a0 (by decide)).trans eq2846), by omega, by omega, (fun _ => ⟨by omega, (xRd.fin Rz3062).2, (xRd.fin Rz3062).1⟩), lw3064⟩⟩ (Nat.le_refl _) (Nat.le_refl _)
                  · refine X_aloadn hK (i := 0) 1 dX12_readCond_113 rfl rfl ?_
                    refine X_iconst hK dX12_readCond_114 ?_
                    refine X_callV hK [.int (iI 1)] [] lk_X12_333 (c_X12_bad _ _ _ _ _ S g2843 a0 1 hs_a0 (by omega)) hs_a0 ⟨by decide, rfl⟩ dX12_readCond_115 rfl rfl (by simp [Value.category]) (by decide) (by decide) (by decide) (by decide) (fun r3065 S3067 g3066 pr3065 qr3065 hg3066 => ?_)
                    obtain ⟨rfl, z3068, rfl, lz3068, uz3068⟩ := pr3065
                    refine X_st [.int (iI z3068)] rfl ?_
                    exact hret _ _ _ _ _ _ _ dX12_readCond_118 (by omega) (by omega) ⟨rfl, z3068, rfl, (by omega), (by omega), ⟨q2844, q2846, z2229, ((hg3066 a0 13 0 41 hs_a0 (by decide)).trans eq2844), by omega, by omega, ((hg3066 a0 13 0 43 hs_a0 (by decide)).trans ((hg2843 a0 13 0 43 hs_a0 (by decide)).trans ez2229)), by omega, by omega, ((hg3066 a0 13 0 44 hs_a0 (by decide)).trans eq2846), by omega, by omega, (fun h => by omega), (by rw [(xv_m hg3066 hs_wp (by decide) (by decide))]; exact v2998)⟩⟩ (Nat.le_refl _) (Nat.le_refl _)
            · refine X_aloadn hK (i := 0) 0 dX12_readCond_23 rfl rfl ?_
              refine X_callV hK [] [] lk_X12_351 (c2_isOpen _ _ _ _ _ S g2843 a0 q2845 wl hs_a0 (by omega) eq2845 ((hg2843 a0 13 0 38 hs_a0 (by decide)).trans ((hg2222 a0 13 0 38 hs_a0 (by decide)).trans ((hg1896 a0 13 0 38 hs_a0 (by decide)).trans ((xs_k hg1 (by decide)).trans ewl)))) hs_wl) hs_a0 ⟨by decide, rfl⟩ dX12_readCond_24 rfl rfl (by simp [Value.category]) (by decide) (by decide) (by decide) (by decide) (fun r3069 S3071 g3070 pr3069 qr3069 hg3070 => ?_)
              obtain ⟨rfl, rfl, z3072, rfl, lz3072, uz3072, k3073⟩ := pr3069
              refine X_st [.int (iI z3072)] rfl ?_
              refine X_if_eq hK 69 (by omega) dX12_readCond_27 (by decide) (fun c3074 => ?_) (fun c3074 => ?_)
              · refine X_aloadn hK (i := 0) 0 dX12_readCond_69 rfl rfl ?_
                refine X_bipush hK dX12_readCond_70 (by decide) ?_
                refine X_bipush hK dX12_readCond_72 (by decide) ?_
                refine X_bipush hK dX12_readCond_74 (by decide) ?_
                refine X_iconst hK dX12_readCond_76 ?_
                refine X_iconst hK dX12_readCond_77 ?_
                refine X_callS hK [.int (iI 97), .int (iI 110), .int (iI 100), .int (iI 0), .int (iI 0)] [.ref a0] lk_X12_297 (c_X12_spelt _ _ _ _ _ S g2843 97 110 100 0 0 (by omega) (by omega) (by omega) (by omega) (by omega)) dX12_readCond_78 rfl rfl (by simp [Value.category]) (by decide) (by decide) (by decide) (by decide) (fun r3075 S3077 g3076 pr3075 qr3075 hg3076 => ?_)
                obtain ⟨rfl, rfl, y3078, rfl⟩ := pr3075
                refine X_st [.long y3078, .ref a0] rfl ?_
                refine X_callV hK [.long y3078] [] lk_X12_301 (c_X12_isKey _ _ _ _ _ S g2843 a0 y3078 hs_a0) hs_a0 ⟨by decide, rfl⟩ dX12_readCond_81 rfl rfl (by simp [Value.category]) (by decide) (by decide) (by decide) (by decide) (fun r3079 S3081 g3080 pr3079 qr3079 hg3080 => ?_)
                obtain ⟨rfl, rfl, z3082, rfl, lz3082, uz3082⟩ := pr3079
                refine X_st [.int (iI z3082)] rfl ?_
                refine X_istoren hK (i := 1) [(1, .int (iI z3082)), (0, .ref a0)] dX12_readCond_84 rfl (by decide) rfl ?_
                refine X_iloadn hK (i := 1) 0 dX12_readCond_85 rfl rfl ?_
                refine X_if_ne hK 129 (by omega) dX12_readCond_86 (by decide) (fun c3083 => ?_) (fun c3083 => ?_)
                · refine X_aloadn hK (i := 0) 1 dX12_readCond_129 rfl rfl ?_
                  refine X_bipush hK dX12_readCond_130 (by decide) ?_
                  refine X_iloadn hK (i := 1) 0 dX12_readCond_132 rfl rfl ?_
                  refine X_if_eq hK 141 (by omega) dX12_readCond_133 (by decide) (fun c3084 => False.elim (by omega)) (fun c3084 => ?_)
                  refine X_bipush hK dX12_readCond_136 (by decide) ?_
                  refine X_goto hK 143 dX12_readCond_138 (by decide) ?_
                  refine X_callV hK [.int (iI 13), .int (iI 13)] [] lk_X12_354 (c_X12_drop _ _ _ _ _ S g2843 a0 13 13 q2844 q2845 z2229 q2846 wp wl np hs_a0 (by omega) (by omega) (by omega) eq2844 (by omega) eq2845 (by omega) ((hg2843 a0 13 0 43 hs_a0 (by decide)).trans ez2229) (by omega) eq2846 ((hg2843 a0 13 0 35 hs_a0 (by decide)).trans ((hg2222 a0 13 0 35 hs_a0 (by decide)).trans ((hg1896 a0 13 0 35 hs_a0 (by decide)).trans ((xs_k hg1 (by decide)).trans ewp)))) hs_wp ((hg2843 a0 13 0 38 hs_a0 (by decide)).trans ((hg2222 a0 13 0 38 hs_a0 (by decide)).trans ((hg1896 a0 13 0 38 hs_a0 (by decide)).trans ((xs_k hg1 (by decide)).trans ewl)))) hs_wl v2997) hs_a0 ⟨by decide, rfl⟩ dX12_readCond_143 rfl rfl (by simp [Value.category]) (by decide) (by decide) (by decide) (by decide) (fun r3085 S3087 g3086 pr3085 qr3085 hg3086 => ?_)
                  obtain ⟨rfl, rfl, k3088⟩ := pr3085
                  refine X_st [] rfl ?_
                  obtain ⟨z3089, z3090, ez3089, lz3089, uz3089, ez3090, lz3090, uz3090, Rz3089, xz3089, yz3089, oz3089⟩ := k3088
                  have hbz3089 := xRd.bd Rz3089 (by omega)
                  have lw3091 : xLow (1200 + np) (xv g3086 wp) (xv g wp) := xLow.tr v2998 oz3089 (by omega)
                  refine X_aloadn hK (i := 0) 1 dX12_readCond_146 rfl rfl ?_
                  refine X_getK hK fl_X12_77_13 hs_a0 ((hg3086 a0 13 0 38 hs_a0 (by decide)).trans ((hg2843 a0 13 0 38 hs_a0 (by decide)).trans ((hg2222 a0 13 0 38 hs_a0 (by decide)).trans ((hg1896 a0 13 0 38 hs_a0 (by decide)).trans ((xs_k hg1 (by decide)).trans ewl))))) dX12_readCond_147 ?_
                  refine X_aloadn hK (i := 0) 1 dX12_readCond_150 rfl rfl ?_
                  refine X_getK hK fl_X12_316_13 hs_a0 ez3090 dX12_readCond_151 ?_
                  refine X_iloadn hK (i := 1) 0 dX12_readCond_154 rfl rfl ?_
                  refine X_if_eq hK 163 (by omega) dX12_readCond_155 (by decide) (fun c3092 => False.elim (by omega)) (fun c3092 => ?_)
                  refine X_bipush hK dX12_readCond_158 (by decide) ?_
                  refine X_goto hK 165 dX12_readCond_160 (by decide) ?_
                  refine X_iast hK hs_wl (by decide) (by decide) sl_16200 (by omega) (by omega) (by omega) (by omega) dX12_readCond_165 (fun g3093 hg3093 => ?_)
                  refine X_aloadn hK (i := 0) 1 dX12_readCond_166 rfl rfl ?_
                  refine X_dup hK dX12_readCond_167 rfl ?_
                  refine X_getK hK fl_X12_316_13 hs_a0 ((xs_a hg3093 (xne hs_a0 hs_wl (by decide))).trans ez3090) dX12_readCond_168 ?_
                  refine X_iconst hK dX12_readCond_171 ?_
                  refine X_iadd hK dX12_readCond_172 ?_
                  refine X_puti hK fl_X12_316_13 hs_a0 (by decide) sl_13_42 (by omega) (by omega) dX12_readCond_173 (fun g3094 hg3094 => ?_)
                  refine X_aloadn hK (i := 0) 1 dX12_readCond_176 rfl rfl ?_
                  refine X_callV hK [] [] lk_X12_342 (c_X12_go _ _ _ _ _ S g3094 a0 hs_a0) hs_a0 ⟨by decide, rfl⟩ dX12_readCond_177 rfl rfl (by simp [Value.category]) (by decide) (by decide) (by decide) (by decide) (fun r3095 S3097 g3096 pr3095 qr3095 hg3096 => ?_)
                  obtain ⟨rfl, rfl⟩ := pr3095
                  refine X_st [] rfl ?_
                  refine X_goto hK 5 dX12_readCond_180 (by decide) ?_
                  refine X_lv [(0, .ref a0)] [1] rfl ?_
                  exact ihP2217  g3096 (xM.tr (xM_up (xM_ua (xM.tr (xM.tr (xM.tr (xM.tr xM.rf xLe.rf hg1896 (by decide)) xLe.rf hg2222 (by decide)) xLe.rf hg2843 (by decide)) xLe.rf hg3086 (by decide)) hg3093 hs_wl (by decide) (by decide)) hg3094 hs_a0 (by decide) (by decide)) xLe.rf hg3096 (by decide)) z3089 (by omega) (by omega) ((hg3096 a0 13 0 41 hs_a0 (by decide)).trans ((xs_k hg3094 (by decide)).trans ((xs_a hg3093 (xne hs_a0 hs_wl (by decide))).trans ez3089))) (z3090 + 1) (by omega) (by omega) ((hg3096 a0 13 0 42 hs_a0 (by decide)).trans (xs_s hg3094)) z2229 (by omega) (by omega) ((hg3096 a0 13 0 43 hs_a0 (by decide)).trans ((xs_k hg3094 (by decide)).trans ((xs_a hg3093 (xne hs_a0 hs_wl (by decide))).trans ((hg3086 a0 13 0 43 hs_a0 (by decide)).trans ((hg2843 a0 13 0 43 hs_a0 (by decide)).trans ez2229))))) q2846 (by omega) (by omega) ((hg3096 a0 13 0 44 hs_a0 (by decide)).trans ((xs_k hg3094 (by decide)).trans ((xs_a hg3093 (xne hs_a0 hs_wl (by decide))).trans ((hg3086 a0 13 0 44 hs_a0 (by decide)).trans eq2846)))) (by rw [(Eq.trans (Eq.trans (xv_m hg3096 hs_wp (by decide) (by decide)) (xv_a hg3094 (xne hs_wp hs_a0 (by decide)))) (xv_a hg3093 (xne hs_wp hs_wl (by decide))))]; exact xRd.and Rz3089 (by omega) (show xv g3096 wl z3090 = 13 from by rw [(xv_m hg3096 hs_wl (by decide) (by decide)), (xv_a hg3094 (xne hs_wl hs_a0 (by decide))), xv_s hg3093 (by omega)]) (fun i9 hi9 h09 => (show xv g3096 wl i9 = xv g2843 wl i9 from by rw [(xv_m hg3096 hs_wl (by decide) (by decide)), (xv_a hg3094 (xne hs_wl hs_a0 (by decide))), (xv_k (i := i9) hg3093 (by omega) (by omega) (by omega)), (xv_m hg3086 hs_wl (by decide) (by decide))]))) (by rw [(Eq.trans (Eq.trans (xv_m hg3096 hs_wp (by decide) (by decide)) (xv_a hg3094 (xne hs_wp hs_a0 (by decide)))) (xv_a hg3093 (xne hs_wp hs_wl (by decide))))]; exact lw3091) (by omega) (by omega)
                · refine X_aloadn hK (i := 0) 1 dX12_readCond_89 rfl rfl ?_
                  refine X_bipush hK dX12_readCond_90 (by decide) ?_
                  refine X_bipush hK dX12_readCond_92 (by decide) ?_
                  refine X_iconst hK dX12_readCond_94 ?_
                  refine X_iconst hK dX12_readCond_95 ?_
                  refine X_iconst hK dX12_readCond_96 ?_
                  refine X_callS hK [.int (iI 111), .int (iI 114), .int (iI 0), .int (iI 0), .int (iI 0)] [.ref a0] lk_X12_297 (c_X12_spelt _ _ _ _ _ S g2843 111 114 0 0 0 (by omega) (by omega) (by omega) (by omega) (by omega)) dX12_readCond_97 rfl rfl (by simp [Value.category]) (by decide) (by decide) (by decide) (by decide) (fun r3098 S3100 g3099 pr3098 qr3098 hg3099 => ?_)
                  obtain ⟨rfl, rfl, y3101, rfl⟩ := pr3098
                  refine X_st [.long y3101, .ref a0] rfl ?_
                  refine X_callV hK [.long y3101] [] lk_X12_301 (c_X12_isKey _ _ _ _ _ S g2843 a0 y3101 hs_a0) hs_a0 ⟨by decide, rfl⟩ dX12_readCond_100 rfl rfl (by simp [Value.category]) (by decide) (by decide) (by decide) (by decide) (fun r3102 S3104 g3103 pr3102 qr3102 hg3103 => ?_)
                  obtain ⟨rfl, rfl, z3105, rfl, lz3105, uz3105⟩ := pr3102
                  refine X_st [.int (iI z3105)] rfl ?_
                  refine X_if_ne hK 129 (by omega) dX12_readCond_103 (by decide) (fun c3106 => ?_) (fun c3106 => ?_)
                  · refine X_aloadn hK (i := 0) 1 dX12_readCond_129 rfl rfl ?_
                    refine X_bipush hK dX12_readCond_130 (by decide) ?_
                    refine X_iloadn hK (i := 1) 0 dX12_readCond_132 rfl rfl ?_
                    refine X_if_eq hK 141 (by omega) dX12_readCond_133 (by decide) (fun c3107 => ?_) (fun c3107 => False.elim (by omega))
                    refine X_bipush hK dX12_readCond_141 (by decide) ?_
                    refine X_callV hK [.int (iI 13), .int (iI 14)] [] lk_X12_354 (c_X12_drop _ _ _ _ _ S g2843 a0 13 14 q2844 q2845 z2229 q2846 wp wl np hs_a0 (by omega) (by omega) (by omega) eq2844 (by omega) eq2845 (by omega) ((hg2843 a0 13 0 43 hs_a0 (by decide)).trans ez2229) (by omega) eq2846 ((hg2843 a0 13 0 35 hs_a0 (by decide)).trans ((hg2222 a0 13 0 35 hs_a0 (by decide)).trans ((hg1896 a0 13 0 35 hs_a0 (by decide)).trans ((xs_k hg1 (by decide)).trans ewp)))) hs_wp ((hg2843 a0 13 0 38 hs_a0 (by decide)).trans ((hg2222 a0 13 0 38 hs_a0 (by decide)).trans ((hg1896 a0 13 0 38 hs_a0 (by decide)).trans ((xs_k hg1 (by decide)).trans ewl)))) hs_wl v2997) hs_a0 ⟨by decide, rfl⟩ dX12_readCond_143 rfl rfl (by simp [Value.category]) (by decide) (by decide) (by decide) (by decide) (fun r3108 S3110 g3109 pr3108 qr3108 hg3109 => ?_)
                    obtain ⟨rfl, rfl, k3111⟩ := pr3108
                    refine X_st [] rfl ?_
                    obtain ⟨z3112, z3113, ez3112, lz3112, uz3112, ez3113, lz3113, uz3113, Rz3112, xz3112, yz3112, oz3112⟩ := k3111
                    have hbz3112 := xRd.bd Rz3112 (by omega)
                    have lw3114 : xLow (1200 + np) (xv g3109 wp) (xv g wp) := xLow.tr v2998 oz3112 (by omega)
                    refine X_aloadn hK (i := 0) 1 dX12_readCond_146 rfl rfl ?_
                    refine X_getK hK fl_X12_77_13 hs_a0 ((hg3109 a0 13 0 38 hs_a0 (by decide)).trans ((hg2843 a0 13 0 38 hs_a0 (by decide)).trans ((hg2222 a0 13 0 38 hs_a0 (by decide)).trans ((hg1896 a0 13 0 38 hs_a0 (by decide)).trans ((xs_k hg1 (by decide)).trans ewl))))) dX12_readCond_147 ?_
                    refine X_aloadn hK (i := 0) 1 dX12_readCond_150 rfl rfl ?_
                    refine X_getK hK fl_X12_316_13 hs_a0 ez3113 dX12_readCond_151 ?_
                    refine X_iloadn hK (i := 1) 0 dX12_readCond_154 rfl rfl ?_
                    refine X_if_eq hK 163 (by omega) dX12_readCond_155 (by decide) (fun c3115 => ?_) (fun c3115 => False.elim (by omega))
                    refine X_bipush hK dX12_readCond_163 (by decide) ?_
                    refine X_iast hK hs_wl (by decide) (by decide) sl_16200 (by omega) (by omega) (by omega) (by omega) dX12_readCond_165 (fun g3116 hg3116 => ?_)
                    refine X_aloadn hK (i := 0) 1 dX12_readCond_166 rfl rfl ?_
                    refine X_dup hK dX12_readCond_167 rfl ?_
                    refine X_getK hK fl_X12_316_13 hs_a0 ((xs_a hg3116 (xne hs_a0 hs_wl (by decide))).trans ez3113) dX12_readCond_168 ?_
                    refine X_iconst hK dX12_readCond_171 ?_
                    refine X_iadd hK dX12_readCond_172 ?_
                    refine X_puti hK fl_X12_316_13 hs_a0 (by decide) sl_13_42 (by omega) (by omega) dX12_readCond_173 (fun g3117 hg3117 => ?_)
                    refine X_aloadn hK (i := 0) 1 dX12_readCond_176 rfl rfl ?_
                    refine X_callV hK [] [] lk_X12_342 (c_X12_go _ _ _ _ _ S g3117 a0 hs_a0) hs_a0 ⟨by decide, rfl⟩ dX12_readCond_177 rfl rfl (by simp [Value.category]) (by decide) (by decide) (by decide) (by decide) (fun r3118 S3120 g3119 pr3118 qr3118 hg3119 => ?_)
                    obtain ⟨rfl, rfl⟩ := pr3118
                    refine X_st [] rfl ?_
                    refine X_goto hK 5 dX12_readCond_180 (by decide) ?_
                    refine X_lv [(0, .ref a0)] [1] rfl ?_
                    exact ihP2217  g3119 (xM.tr (xM_up (xM_ua (xM.tr (xM.tr (xM.tr (xM.tr xM.rf xLe.rf hg1896 (by decide)) xLe.rf hg2222 (by decide)) xLe.rf hg2843 (by decide)) xLe.rf hg3109 (by decide)) hg3116 hs_wl (by decide) (by decide)) hg3117 hs_a0 (by decide) (by decide)) xLe.rf hg3119 (by decide)) z3112 (by omega) (by omega) ((hg3119 a0 13 0 41 hs_a0 (by decide)).trans ((xs_k hg3117 (by decide)).trans ((xs_a hg3116 (xne hs_a0 hs_wl (by decide))).trans ez3112))) (z3113 + 1) (by omega) (by omega) ((hg3119 a0 13 0 42 hs_a0 (by decide)).trans (xs_s hg3117)) z2229 (by omega) (by omega) ((hg3119 a0 13 0 43 hs_a0 (by decide)).trans ((xs_k hg3117 (by decide)).trans ((xs_a hg3116 (xne hs_a0 hs_wl (by decide))).trans ((hg3109 a0 13 0 43 hs_a0 (by decide)).trans ((hg2843 a0 13 0 43 hs_a0 (by decide)).trans ez2229))))) q2846 (by omega) (by omega) ((hg3119 a0 13 0 44 hs_a0 (by decide)).trans ((xs_k hg3117 (by decide)).trans ((xs_a hg3116 (xne hs_a0 hs_wl (by decide))).trans ((hg3109 a0 13 0 44 hs_a0 (by decide)).trans eq2846)))) (by rw [(Eq.trans (Eq.trans (xv_m hg3119 hs_wp (by decide) (by decide)) (xv_a hg3117 (xne hs_wp hs_a0 (by decide)))) (xv_a hg3116 (xne hs_wp hs_wl (by decide))))]; exact xRd.or Rz3112 (by omega) (show xv g3119 wl z3113 = 14 from by rw [(xv_m hg3119 hs_wl (by decide) (by decide)), (xv_a hg3117 (xne hs_wl hs_a0 (by decide))), xv_s hg3116 (by omega)]) (fun i9 hi9 h09 => (show xv g3119 wl i9 = xv g2843 wl i9 from by rw [(xv_m hg3119 hs_wl (by decide) (by decide)), (xv_a hg3117 (xne hs_wl hs_a0 (by decide))), (xv_k (i := i9) hg3116 (by omega) (by omega) (by omega)), (xv_m hg3109 hs_wl (by decide) (by decide))]))) (by rw [(Eq.trans (Eq.trans (xv_m hg3119 hs_wp (by decide) (by decide)) (xv_a hg3117 (xne hs_wp hs_a0 (by decide)))) (xv_a hg3116 (xne hs_wp hs_wl (by decide))))]; exact lw3114) (by omega) (by omega)
                  · refine X_aloadn hK (i := 0) 1 dX12_readCond_106 rfl rfl ?_
                    refine X_callV hK [] [] lk_X12_351 (c2_isOpen _ _ _ _ _ S g2843 a0 q2845 wl hs_a0 (by omega) eq2845 ((hg2843 a0 13 0 38 hs_a0 (by decide)).trans ((hg2222 a0 13 0 38 hs_a0 (by decide)).trans ((hg1896 a0 13 0 38 hs_a0 (by decide)).trans ((xs_k hg1 (by decide)).trans ewl)))) hs_wl) hs_a0 ⟨by decide, rfl⟩ dX12_readCond_107 rfl rfl (by simp [Value.category]) (by decide) (by decide) (by decide) (by decide) (fun r3121 S3123 g3122 pr3121 qr3121 hg3122 => ?_)
                    obtain ⟨rfl, rfl, z3124, rfl, lz3124, uz3124, k3125⟩ := pr3121
                    refine X_st [.int (iI z3124)] rfl ?_
                    refine X_if_eq hK 119 (by omega) dX12_readCond_110 (by decide) (fun c3126 => ?_) (fun c3126 => ?_)
                    · refine X_aloadn hK (i := 0) 1 dX12_readCond_119 rfl rfl ?_
                      refine X_bipush hK dX12_readCond_120 (by decide) ?_
                      refine X_bipush hK dX12_readCond_122 (by decide) ?_
                      refine X_callV hK [.int (iI 13), .int (iI 14)] [] lk_X12_354 (c_X12_drop _ _ _ _ _ S g2843 a0 13 14 q2844 q2845 z2229 q2846 wp wl np hs_a0 (by omega) (by omega) (by omega) eq2844 (by omega) eq2845 (by omega) ((hg2843 a0 13 0 43 hs_a0 (by decide)).trans ez2229) (by omega) eq2846 ((hg2843 a0 13 0 35 hs_a0 (by decide)).trans ((hg2222 a0 13 0 35 hs_a0 (by decide)).trans ((hg1896 a0 13 0 35 hs_a0 (by decide)).trans ((xs_k hg1 (by decide)).trans ewp)))) hs_wp ((hg2843 a0 13 0 38 hs_a0 (by decide)).trans ((hg2222 a0 13 0 38 hs_a0 (by decide)).trans ((hg1896 a0 13 0 38 hs_a0 (by decide)).trans ((xs_k hg1 (by decide)).trans ewl)))) hs_wl v2997) hs_a0 ⟨by decide, rfl⟩ dX12_readCond_124 rfl rfl (by simp [Value.category]) (by decide) (by decide) (by decide) (by decide) (fun r3127 S3129 g3128 pr3127 qr3127 hg3128 => ?_)
                      obtain ⟨rfl, rfl, k3130⟩ := pr3127
                      refine X_st [] rfl ?_
                      obtain ⟨z3131, z3132, ez3131, lz3131, uz3131, ez3132, lz3132, uz3132, Rz3131, xz3131, yz3131, oz3131⟩ := k3130
                      have hbz3131 := xRd.bd Rz3131 (by omega)
                      have lw3133 : xLow (1200 + np) (xv g3128 wp) (xv g wp) := xLow.tr v2998 oz3131 (by omega)
                      refine X_iconst hK dX12_readCond_127 ?_
                      exact hret _ _ _ _ _ _ _ dX12_readCond_128 (by omega) (by omega) ⟨rfl, 1, rfl, (by omega), (by omega), ⟨z3131, q2846, z2229, ez3131, by omega, by omega, ((hg3128 a0 13 0 43 hs_a0 (by decide)).trans ((hg2843 a0 13 0 43 hs_a0 (by decide)).trans ez2229)), by omega, by omega, ((hg3128 a0 13 0 44 hs_a0 (by decide)).trans eq2846), by omega, by omega, (fun _ => ⟨by omega, (xRd.fin Rz3131).2, (xRd.fin Rz3131).1⟩), lw3133⟩⟩ (Nat.le_refl _) (Nat.le_refl _)
                    · refine X_aloadn hK (i := 0) 1 dX12_readCond_113 rfl rfl ?_
                      refine X_iconst hK dX12_readCond_114 ?_
                      refine X_callV hK [.int (iI 1)] [] lk_X12_333 (c_X12_bad _ _ _ _ _ S g2843 a0 1 hs_a0 (by omega)) hs_a0 ⟨by decide, rfl⟩ dX12_readCond_115 rfl rfl (by simp [Value.category]) (by decide) (by decide) (by decide) (by decide) (fun r3134 S3136 g3135 pr3134 qr3134 hg3135 => ?_)
                      obtain ⟨rfl, z3137, rfl, lz3137, uz3137⟩ := pr3134
                      refine X_st [.int (iI z3137)] rfl ?_
                      exact hret _ _ _ _ _ _ _ dX12_readCond_118 (by omega) (by omega) ⟨rfl, z3137, rfl, (by omega), (by omega), ⟨q2844, q2846, z2229, ((hg3135 a0 13 0 41 hs_a0 (by decide)).trans eq2844), by omega, by omega, ((hg3135 a0 13 0 43 hs_a0 (by decide)).trans ((hg2843 a0 13 0 43 hs_a0 (by decide)).trans ez2229)), by omega, by omega, ((hg3135 a0 13 0 44 hs_a0 (by decide)).trans eq2846), by omega, by omega, (fun h => by omega), (by rw [(xv_m hg3135 hs_wp (by decide) (by decide))]; exact v2998)⟩⟩ (Nat.le_refl _) (Nat.le_refl _)
              · refine X_aloadn hK (i := 0) 0 dX12_readCond_30 rfl rfl ?_
                refine X_bipush hK dX12_readCond_31 (by decide) ?_
                refine X_bipush hK dX12_readCond_33 (by decide) ?_
                refine X_callV hK [.int (iI 13), .int (iI 14)] [] lk_X12_354 (c_X12_drop _ _ _ _ _ S g2843 a0 13 14 q2844 q2845 z2229 q2846 wp wl np hs_a0 (by omega) (by omega) (by omega) eq2844 (by omega) eq2845 (by omega) ((hg2843 a0 13 0 43 hs_a0 (by decide)).trans ez2229) (by omega) eq2846 ((hg2843 a0 13 0 35 hs_a0 (by decide)).trans ((hg2222 a0 13 0 35 hs_a0 (by decide)).trans ((hg1896 a0 13 0 35 hs_a0 (by decide)).trans ((xs_k hg1 (by decide)).trans ewp)))) hs_wp ((hg2843 a0 13 0 38 hs_a0 (by decide)).trans ((hg2222 a0 13 0 38 hs_a0 (by decide)).trans ((hg1896 a0 13 0 38 hs_a0 (by decide)).trans ((xs_k hg1 (by decide)).trans ewl)))) hs_wl v2997) hs_a0 ⟨by decide, rfl⟩ dX12_readCond_35 rfl rfl (by simp [Value.category]) (by decide) (by decide) (by decide) (by decide) (fun r3138 S3140 g3139 pr3138 qr3138 hg3139 => ?_)
                obtain ⟨rfl, rfl, k3141⟩ := pr3138
                refine X_st [] rfl ?_
                obtain ⟨z3142, z3143, ez3142, lz3142, uz3142, ez3143, lz3143, uz3143, Rz3142, xz3142, yz3142, oz3142⟩ := k3141
                have hbz3142 := xRd.bd Rz3142 (by omega)
                have lw3144 : xLow (1200 + np) (xv g3139 wp) (xv g wp) := xLow.tr v2998 oz3142 (by omega)
                have hph3145 : 1 ≤ z3143 := by obtain ⟨k9, h1, h2, h3⟩ := k3073 (by omega); rcases (show k9 < z3143 ∨ z3143 ≤ k9 by omega) with c9 | c9 <;> first | omega | (have h9 := yz3142 k9 c9 (by omega); omega)
                have R3146 : xRd (xv g3139 wp) (xv g2843 wl) np z3142 (z3143 - 1) z2229 (q2846 - 1) 0 := xRd.paren Rz3142 (by omega) (by omega)
                have hbR3146 := xRd.bd R3146 (by omega)
                refine X_aloadn hK (i := 0) 0 dX12_readCond_38 rfl rfl ?_
                refine X_dup hK dX12_readCond_39 rfl ?_
                refine X_getK hK fl_X12_316_13 hs_a0 ez3143 dX12_readCond_40 ?_
                refine X_iconst hK dX12_readCond_43 ?_
                refine X_isub hK dX12_readCond_44 ?_
                refine X_puti hK fl_X12_316_13 hs_a0 (by decide) sl_13_42 (by omega) (by omega) dX12_readCond_45 (fun g3147 hg3147 => ?_)
                refine X_aloadn hK (i := 0) 0 dX12_readCond_48 rfl rfl ?_
                refine X_dup hK dX12_readCond_49 rfl ?_
                refine X_getK hK fl_X12_339_13 hs_a0 ((xs_k hg3147 (by decide)).trans ((hg3139 a0 13 0 44 hs_a0 (by decide)).trans eq2846)) dX12_readCond_50 ?_
                refine X_iconst hK dX12_readCond_53 ?_
                refine X_isub hK dX12_readCond_54 ?_
                refine X_puti hK fl_X12_339_13 hs_a0 (by decide) sl_13_44 (by omega) (by omega) dX12_readCond_55 (fun g3148 hg3148 => ?_)
                refine X_aloadn hK (i := 0) 0 dX12_readCond_58 rfl rfl ?_
                refine X_callV hK [] [] lk_X12_342 (c_X12_go _ _ _ _ _ S g3148 a0 hs_a0) hs_a0 ⟨by decide, rfl⟩ dX12_readCond_59 rfl rfl (by simp [Value.category]) (by decide) (by decide) (by decide) (by decide) (fun r3149 S3151 g3150 pr3149 qr3149 hg3150 => ?_)
                obtain ⟨rfl, rfl⟩ := pr3149
                refine X_st [] rfl ?_
                refine X_aloadn hK (i := 0) 0 dX12_readCond_62 rfl rfl ?_
                refine X_callV hK [] [] lk_X12_345 (c_X12_dropNots _ _ _ _ _ S g3150 a0 z3142 (z3143 - 1) z2229 (q2846 - 1) wp wl np hs_a0 (by omega) ((hg3150 a0 13 0 41 hs_a0 (by decide)).trans ((xs_k hg3148 (by decide)).trans ((xs_k hg3147 (by decide)).trans ez3142))) (by omega) ((hg3150 a0 13 0 42 hs_a0 (by decide)).trans ((xs_k hg3148 (by decide)).trans (xs_s hg3147))) (by omega) ((hg3150 a0 13 0 43 hs_a0 (by decide)).trans ((xs_k hg3148 (by decide)).trans ((xs_k hg3147 (by decide)).trans ((hg3139 a0 13 0 43 hs_a0 (by decide)).trans ((hg2843 a0 13 0 43 hs_a0 (by decide)).trans ez2229))))) (by omega) ((hg3150 a0 13 0 44 hs_a0 (by decide)).trans (xs_s hg3148)) ((hg3150 a0 13 0 35 hs_a0 (by decide)).trans ((xs_k hg3148 (by decide)).trans ((xs_k hg3147 (by decide)).trans ((hg3139 a0 13 0 35 hs_a0 (by decide)).trans ((hg2843 a0 13 0 35 hs_a0 (by decide)).trans ((hg2222 a0 13 0 35 hs_a0 (by decide)).trans ((hg1896 a0 13 0 35 hs_a0 (by decide)).trans ((xs_k hg1 (by decide)).trans ewp)))))))) hs_wp ((hg3150 a0 13 0 38 hs_a0 (by decide)).trans ((xs_k hg3148 (by decide)).trans ((xs_k hg3147 (by decide)).trans ((hg3139 a0 13 0 38 hs_a0 (by decide)).trans ((hg2843 a0 13 0 38 hs_a0 (by decide)).trans ((hg2222 a0 13 0 38 hs_a0 (by decide)).trans ((hg1896 a0 13 0 38 hs_a0 (by decide)).trans ((xs_k hg1 (by decide)).trans ewl)))))))) hs_wl (by rw [(Eq.trans (Eq.trans (xv_m hg3150 hs_wp (by decide) (by decide)) (xv_a hg3148 (xne hs_wp hs_a0 (by decide)))) (xv_a hg3147 (xne hs_wp hs_a0 (by decide)))), (Eq.trans (Eq.trans (Eq.trans (xv_m hg3150 hs_wl (by decide) (by decide)) (xv_a hg3148 (xne hs_wl hs_a0 (by decide)))) (xv_a hg3147 (xne hs_wl hs_a0 (by decide)))) (xv_m hg3139 hs_wl (by decide) (by decide)))]; exact R3146)) hs_a0 ⟨by decide, rfl⟩ dX12_readCond_63 rfl rfl (by simp [Value.category]) (by decide) (by decide) (by decide) (by decide) (fun r3152 S3154 g3153 pr3152 qr3152 hg3153 => ?_)
                obtain ⟨rfl, rfl, k3155⟩ := pr3152
                refine X_st [] rfl ?_
                obtain ⟨z3156, z3157, z3158, ez3156, lz3156, uz3156, ez3157, lz3157, uz3157, ez3158, lz3158, uz3158, Rz3156, oz3156⟩ := k3155
                have hbz3156 := xRd.bd Rz3156 (by omega)
                have lw3159 : xLow (1200 + np) (xv g3153 wp) (xv g wp) := xLow.tr (by rw [(Eq.trans (Eq.trans (xv_m hg3150 hs_wp (by decide) (by decide)) (xv_a hg3148 (xne hs_wp hs_a0 (by decide)))) (xv_a hg3147 (xne hs_wp hs_a0 (by decide))))]; exact lw3144) oz3156 (by omega)
                refine X_goto hK 14 dX12_readCond_66 (by decide) ?_
                exact ihP2996  g3153 (xM.tr (xM.tr (xM_up (xM_up (xM.tr (xM.tr xM.rf xLe.rf hg2843 (by decide)) xLe.rf hg3139 (by decide)) hg3147 hs_a0 (by decide) (by decide)) hg3148 hs_a0 (by decide) (by decide)) xLe.rf hg3150 (by decide)) xLe.rf hg3153 (by decide)) z3156 (by omega) (by omega) ez3156 z3157 (by omega) (by omega) ez3157 z3158 (by omega) (by omega) ez3158 (by rw [(xv_m hg3153 hs_wl (by decide) (by decide))]; exact Rz3156) lw3159 (by omega) (by omega)
        exact P2996 ((z2227 : Int).toNat + 1) g2222 xM.rf z2226 (by omega) (by omega) ez2226 z2227 (by omega) (by omega) ez2227 z2228 (by omega) (by omega) ez2228 (Rz2226 (by omega)).1 lw2230 (Rz2226 (by omega)).2 (by omega)
      · refine X_iconst hK dX12_readCond_12 ?_
        exact hret _ _ _ _ _ _ _ dX12_readCond_13 (by omega) (by omega) ⟨rfl, 0, rfl, (by omega), (by omega), ⟨z2226, z2228, z2229, ez2226, by omega, by omega, ez2229, by omega, by omega, ez2228, by omega, by omega, (fun h => by omega), lw2230⟩⟩ (Nat.le_refl _) (Nat.le_refl _)
  exact P2217 ((50 - no : Int).toNat + 1) g1 xM.rf np (by omega) (by omega) ((xs_k hg1 (by decide)).trans enp) 0 (by omega) (by omega) (xs_s hg1) no (by omega) (by omega) ((xs_k hg1 (by decide)).trans eno) nw (by omega) (by omega) ((xs_k hg1 (by decide)).trans enw) (xRd.start (by omega) (by omega) (by omega) (by omega) (by omega)) (by rw [(xv_a hg1 (xne hs_wp hs_a0 (by decide)))]; exact xLow.rf) (by omega) (by omega)
