theorem m_4_3 : Cond.fieldLink RX5 28 "PaperBoys$Market" "queue" "Ljava/util/ArrayList;" ∈ wsL_law := ch_4 _ (List.mem_of_getElem? (i := 3) rfl)
theorem m_38_14 : Cond.fieldLink RX11 249 "PaperBoys$Market" "soldSum" "I" ∈ wsL_law := ch_38 _ (List.mem_of_getElem? (i := 14) rfl)
theorem m_38_15 : Cond.methodLink RX11 242 yX5_startSums ∈ wsL_law := ch_38 _ (List.mem_of_getElem? (i := 15) rfl)
theorem m_38_16 : Cond.instanceMethod yX5_startSums ∈ wsL_law := ch_38 _ (List.mem_of_getElem? (i := 16) rfl)
theorem m_38_17 : Cond.selects RX5 yX5_startSums yX5_startSums ∈ wsL_law := ch_38 _ (List.mem_of_getElem? (i := 17) rfl)
theorem m_38_18 : Cond.code yX5_startSums cX5_startSums 1 none ∈ wsL_law := ch_38 _ (List.mem_of_getElem? (i := 18) rfl)
theorem m_38_19 : Cond.methodLink RX11 245 yX5_cryDay ∈ wsL_law := ch_38 _ (List.mem_of_getElem? (i := 19) rfl)
theorem m_38_20 : Cond.instanceMethod yX5_cryDay ∈ wsL_law := ch_38 _ (List.mem_of_getElem? (i := 20) rfl)
theorem m_38_21 : Cond.selects RX5 yX5_cryDay yX5_cryDay ∈ wsL_law := ch_38 _ (List.mem_of_getElem? (i := 21) rfl)
theorem m_38_22 : Cond.code yX5_cryDay cX5_cryDay 7 none ∈ wsL_law := ch_38 _ (List.mem_of_getElem? (i := 22) rfl)
theorem m_39_1 : Cond.methodLink RX5 127 yX5_lineUp ∈ wsL_law := ch_39 _ (List.mem_of_getElem? (i := 1) rfl)
theorem m_39_2 : Cond.instanceMethod yX5_lineUp ∈ wsL_law := ch_39 _ (List.mem_of_getElem? (i := 2) rfl)
theorem m_39_3 : Cond.selects RX5 yX5_lineUp yX5_lineUp ∈ wsL_law := ch_39 _ (List.mem_of_getElem? (i := 3) rfl)
theorem m_39_4 : Cond.code yX5_lineUp cX5_lineUp 5 none ∈ wsL_law := ch_39 _ (List.mem_of_getElem? (i := 4) rfl)
theorem m_39_5 : Cond.methodLink RX5 162 yJx4a65c_clear_da8c8 ∈ wsL_law := ch_39 _ (List.mem_of_getElem? (i := 5) rfl)
theorem m_39_6 : Cond.instanceMethod yJx4a65c_clear_da8c8 ∈ wsL_law := ch_39 _ (List.mem_of_getElem? (i := 6) rfl)
theorem m_39_7 : Cond.selects RJx4a65c yJx4a65c_clear_da8c8 yJx4a65c_clear_da8c8 ∈ wsL_law := ch_39 _ (List.mem_of_getElem? (i := 7) rfl)
theorem m_39_8 : Cond.code yJx4a65c_clear_da8c8 cJx4a65c_clear_da8c8 4 none ∈ wsL_law := ch_39 _ (List.mem_of_getElem? (i := 8) rfl)
theorem m_39_10 : Cond.methodLink RX5 165 yX5_isAhead ∈ wsL_law := ch_39 _ (List.mem_of_getElem? (i := 10) rfl)
theorem m_39_11 : Cond.instanceMethod yX5_isAhead ∈ wsL_law := ch_39 _ (List.mem_of_getElem? (i := 11) rfl)
theorem m_39_12 : Cond.selects RX5 yX5_isAhead yX5_isAhead ∈ wsL_law := ch_39 _ (List.mem_of_getElem? (i := 12) rfl)
theorem m_39_13 : Cond.code yX5_isAhead cX5_isAhead 3 (some .boolean) ∈ wsL_law := ch_39 _ (List.mem_of_getElem? (i := 13) rfl)
theorem m_39_14 : Cond.methodLink RX5 169 yJx4a65c_add_7a177 ∈ wsL_law := ch_39 _ (List.mem_of_getElem? (i := 14) rfl)
theorem m_39_15 : Cond.instanceMethod yJx4a65c_add_7a177 ∈ wsL_law := ch_39 _ (List.mem_of_getElem? (i := 15) rfl)
theorem m_39_16 : Cond.selects RJx4a65c yJx4a65c_add_7a177 yJx4a65c_add_7a177 ∈ wsL_law := ch_39 _ (List.mem_of_getElem? (i := 16) rfl)
theorem m_39_17 : Cond.code yJx4a65c_add_7a177 cJx4a65c_add_7a177 5 none ∈ wsL_law := ch_39 _ (List.mem_of_getElem? (i := 17) rfl)
theorem m_39_23 : Cond.methodLink RX5 134 yX3_askedOn ∈ wsL_law := ch_39 _ (List.mem_of_getElem? (i := 23) rfl)
theorem m_40_0 : Cond.instanceMethod yX3_askedOn ∈ wsL_law := ch_40 _ (List.mem_of_getElem? (i := 0) rfl)
theorem m_40_1 : Cond.selects RX3 yX3_askedOn yX3_askedOn ∈ wsL_law := ch_40 _ (List.mem_of_getElem? (i := 1) rfl)
theorem m_40_2 : Cond.code yX3_askedOn cX3_askedOn 4 (some .int) ∈ wsL_law := ch_40 _ (List.mem_of_getElem? (i := 2) rfl)
theorem m_40_4 : Cond.methodLink RX5 138 yX5_cryBundle ∈ wsL_law := ch_40 _ (List.mem_of_getElem? (i := 4) rfl)
theorem m_40_5 : Cond.instanceMethod yX5_cryBundle ∈ wsL_law := ch_40 _ (List.mem_of_getElem? (i := 5) rfl)
theorem m_40_6 : Cond.selects RX5 yX5_cryBundle yX5_cryBundle ∈ wsL_law := ch_40 _ (List.mem_of_getElem? (i := 6) rfl)
theorem m_40_7 : Cond.code yX5_cryBundle cX5_cryBundle 10 (some .int) ∈ wsL_law := ch_40 _ (List.mem_of_getElem? (i := 7) rfl)
theorem m_47_18 : Cond.constant RX11 307 (-1000000000) ∈ wsL_law := ch_47 _ (List.mem_of_getElem? (i := 18) rfl)
theorem m_47_19 : Cond.fieldLink RX11 312 "PaperBoys$Market" "eatenSum" "I" ∈ wsL_law := ch_47 _ (List.mem_of_getElem? (i := 19) rfl)
theorem m_47_20 : Cond.fieldLink RX11 315 "PaperBoys$Market" "gainSum" "I" ∈ wsL_law := ch_47 _ (List.mem_of_getElem? (i := 20) rfl)
theorem m_47_21 : Cond.methodLink RX11 308 yX5_cryClosed ∈ wsL_law := ch_47 _ (List.mem_of_getElem? (i := 21) rfl)
theorem m_47_22 : Cond.instanceMethod yX5_cryClosed ∈ wsL_law := ch_47 _ (List.mem_of_getElem? (i := 22) rfl)
theorem m_47_23 : Cond.selects RX5 yX5_cryClosed yX5_cryClosed ∈ wsL_law := ch_47 _ (List.mem_of_getElem? (i := 23) rfl)
theorem m_48_0 : Cond.code yX5_cryClosed cX5_cryClosed 5 none ∈ wsL_law := ch_48 _ (List.mem_of_getElem? (i := 0) rfl)
theorem m_48_1 : Cond.methodLink RX5 116 yX5_startSums ∈ wsL_law := ch_48 _ (List.mem_of_getElem? (i := 1) rfl)
theorem m_48_2 : Cond.methodLink RX5 123 yX5_cryDay ∈ wsL_law := ch_48 _ (List.mem_of_getElem? (i := 2) rfl)
theorem kd41_0 : (decode cX11_close 0 = .ok (.aload_n 0, 1)) ∧ (decode cX11_close 1 = .ok (.getfield 83, 3)) ∧ (decode cX11_close 4 = .ok (.sipush 400, 3)) ∧ (decode cX11_close 7 = .ok (.if_icmp .lt 5, 3)) ∧ (decode cX11_close 10 = .ok (.iconst (-1), 1)) ∧ (decode cX11_close 11 = .ok (.ireturn, 1)) ∧ (decode cX11_close 12 = .ok (.aload_n 0, 1)) ∧ (decode cX11_close 13 = .ok (.getfield 19, 3)) ∧ (decode cX11_close 16 = .ok (.invokevirtual 242, 3)) ∧ (decode cX11_close 19 = .ok (.aload_n 0, 1)) ∧ (decode cX11_close 20 = .ok (.getfield 19, 3)) ∧ (decode cX11_close 23 = .ok (.aload_n 0, 1)) := by decide +kernel
theorem kd41_1 : (decode cX11_close 24 = .ok (.getfield 83, 3)) ∧ (decode cX11_close 27 = .ok (.aload_n 0, 1)) ∧ (decode cX11_close 28 = .ok (.aload_n 0, 1)) ∧ (decode cX11_close 29 = .ok (.getfield 83, 3)) ∧ (decode cX11_close 32 = .ok (.invokevirtual 213, 3)) ∧ (decode cX11_close 35 = .ok (.iconst 1, 1)) ∧ (decode cX11_close 36 = .ok (.invokevirtual 245, 3)) ∧ (decode cX11_close 39 = .ok (.aload_n 0, 1)) ∧ (decode cX11_close 40 = .ok (.dup, 1)) ∧ (decode cX11_close 41 = .ok (.getfield 83, 3)) ∧ (decode cX11_close 44 = .ok (.iconst 1, 1)) ∧ (decode cX11_close 45 = .ok (.iadd, 1)) := by decide +kernel
theorem kd41_2 : (decode cX11_close 46 = .ok (.putfield 83, 3)) ∧ (decode cX11_close 49 = .ok (.aload_n 0, 1)) ∧ (decode cX11_close 50 = .ok (.getfield 19, 3)) ∧ (decode cX11_close 53 = .ok (.getfield 249, 3)) ∧ (decode cX11_close 56 = .ok (.ireturn, 1)) ∧ (decode cX11_tried 0 = .ok (.aload_n 0, 1)) ∧ (decode cX11_tried 1 = .ok (.getfield 52, 3)) ∧ (decode cX11_tried 4 = .ok (.aload_n 0, 1)) ∧ (decode cX11_tried 5 = .ok (.getfield 10, 3)) ∧ (decode cX11_tried 8 = .ok (.aload_n 0, 1)) ∧ (decode cX11_tried 9 = .ok (.getfield 56, 3)) ∧ (decode cX11_tried 12 = .ok (.invokevirtual 193, 3)) := by decide +kernel
theorem kd41_3 : (decode cX11_tried 15 = .ok (.aload_n 0, 1)) ∧ (decode cX11_tried 16 = .ok (.aload_n 0, 1)) ∧ (decode cX11_tried 17 = .ok (.getfield 52, 3)) ∧ (decode cX11_tried 20 = .ok (.getfield 197, 3)) ∧ (decode cX11_tried 23 = .ok (.putfield 87, 3)) ∧ (decode cX11_tried 26 = .ok (.aload_n 0, 1)) ∧ (decode cX11_tried 27 = .ok (.getfield 10, 3)) ∧ (decode cX11_tried 30 = .ok (.iconst 0, 1)) ∧ (decode cX11_tried 31 = .ok (.putfield 102, 3)) ∧ (decode cX11_tried 34 = .ok (.aload_n 0, 1)) ∧ (decode cX11_tried 35 = .ok (.getfield 87, 3)) ∧ (decode cX11_tried 38 = .ok (.ifCond .eq 15, 3)) := by decide +kernel
theorem kd41_4 : (decode cX11_tried 41 = .ok (.ldc_w 307, 3)) ∧ (decode cX11_tried 44 = .ok (.aload_n 0, 1)) ∧ (decode cX11_tried 45 = .ok (.getfield 52, 3)) ∧ (decode cX11_tried 48 = .ok (.getfield 202, 3)) ∧ (decode cX11_tried 51 = .ok (.isub, 1)) ∧ (decode cX11_tried 52 = .ok (.ireturn, 1)) ∧ (decode cX11_tried 53 = .ok (.aload_n 0, 1)) ∧ (decode cX11_tried 54 = .ok (.getfield 19, 3)) ∧ (decode cX11_tried 57 = .ok (.aload_n 0, 1)) ∧ (decode cX11_tried 58 = .ok (.getfield 83, 3)) ∧ (decode cX11_tried 61 = .ok (.aload_n 0, 1)) ∧ (decode cX11_tried 62 = .ok (.getfield 56, 3)) := by decide +kernel
theorem kd41_5 : (decode cX11_tried 65 = .ok (.invokevirtual 308, 3)) ∧ (decode cX11_tried 68 = .ok (.aload_n 0, 1)) ∧ (decode cX11_tried 69 = .ok (.aload_n 0, 1)) ∧ (decode cX11_tried 70 = .ok (.getfield 19, 3)) ∧ (decode cX11_tried 73 = .ok (.getfield 312, 3)) ∧ (decode cX11_tried 76 = .ok (.putfield 93, 3)) ∧ (decode cX11_tried 79 = .ok (.aload_n 0, 1)) ∧ (decode cX11_tried 80 = .ok (.getfield 19, 3)) ∧ (decode cX11_tried 83 = .ok (.getfield 315, 3)) ∧ (decode cX11_tried 86 = .ok (.ireturn, 1)) ∧ (decode cX5_cryClosed 0 = .ok (.aload_n 0, 1)) ∧ (decode cX5_cryClosed 1 = .ok (.invokevirtual 116, 3)) := by decide +kernel
theorem kd41_6 : (decode cX5_cryClosed 4 = .ok (.iconst 0, 1)) ∧ (decode cX5_cryClosed 5 = .ok (.istore_n 3, 1)) ∧ (decode cX5_cryClosed 6 = .ok (.iload_n 3, 1)) ∧ (decode cX5_cryClosed 7 = .ok (.aload_n 0, 1)) ∧ (decode cX5_cryClosed 8 = .ok (.getfield 25, 3)) ∧ (decode cX5_cryClosed 11 = .ok (.invokevirtual 45, 3)) ∧ (decode cX5_cryClosed 14 = .ok (.if_icmp .ge 64, 3)) ∧ (decode cX5_cryClosed 17 = .ok (.aload_n 0, 1)) ∧ (decode cX5_cryClosed 18 = .ok (.getfield 25, 3)) ∧ (decode cX5_cryClosed 21 = .ok (.iload_n 3, 1)) ∧ (decode cX5_cryClosed 22 = .ok (.invokevirtual 119, 3)) ∧ (decode cX5_cryClosed 25 = .ok (.checkcast 50, 3)) := by decide +kernel
theorem kd41_7 : (decode cX5_cryClosed 28 = .ok (.getfield 61, 3)) ∧ (decode cX5_cryClosed 31 = .ok (.istore 4, 2)) ∧ (decode cX5_cryClosed 33 = .ok (.iload 4, 2)) ∧ (decode cX5_cryClosed 35 = .ok (.iload_n 1, 1)) ∧ (decode cX5_cryClosed 36 = .ok (.if_icmp .ge 36, 3)) ∧ (decode cX5_cryClosed 39 = .ok (.iload_n 3, 1)) ∧ (decode cX5_cryClosed 40 = .ok (.ifCond .eq 24, 3)) ∧ (decode cX5_cryClosed 43 = .ok (.aload_n 0, 1)) ∧ (decode cX5_cryClosed 44 = .ok (.getfield 25, 3)) ∧ (decode cX5_cryClosed 47 = .ok (.iload_n 3, 1)) ∧ (decode cX5_cryClosed 48 = .ok (.iconst 1, 1)) ∧ (decode cX5_cryClosed 49 = .ok (.isub, 1)) := by decide +kernel
theorem kd41_8 : (decode cX5_cryClosed 50 = .ok (.invokevirtual 119, 3)) ∧ (decode cX5_cryClosed 53 = .ok (.checkcast 50, 3)) ∧ (decode cX5_cryClosed 56 = .ok (.getfield 61, 3)) ∧ (decode cX5_cryClosed 59 = .ok (.iload 4, 2)) ∧ (decode cX5_cryClosed 61 = .ok (.if_icmp .eq 11, 3)) ∧ (decode cX5_cryClosed 64 = .ok (.aload_n 0, 1)) ∧ (decode cX5_cryClosed 65 = .ok (.iload 4, 2)) ∧ (decode cX5_cryClosed 67 = .ok (.aload_n 2, 1)) ∧ (decode cX5_cryClosed 68 = .ok (.iconst 0, 1)) ∧ (decode cX5_cryClosed 69 = .ok (.invokevirtual 123, 3)) ∧ (decode cX5_cryClosed 72 = .ok (.iinc 3 1, 3)) ∧ (decode cX5_cryClosed 75 = .ok (.goto (-69), 3)) := by decide +kernel
theorem kd41_9 : (decode cX5_cryClosed 78 = .ok (.return_, 1)) ∧ (decode cX5_cryDay 0 = .ok (.aload_n 0, 1)) ∧ (decode cX5_cryDay 1 = .ok (.iload_n 1, 1)) ∧ (decode cX5_cryDay 2 = .ok (.invokevirtual 127, 3)) ∧ (decode cX5_cryDay 5 = .ok (.iconst 0, 1)) ∧ (decode cX5_cryDay 6 = .ok (.istore 4, 2)) ∧ (decode cX5_cryDay 8 = .ok (.iconst 0, 1)) ∧ (decode cX5_cryDay 9 = .ok (.istore 5, 2)) ∧ (decode cX5_cryDay 11 = .ok (.iload 5, 2)) ∧ (decode cX5_cryDay 13 = .ok (.aload_n 0, 1)) ∧ (decode cX5_cryDay 14 = .ok (.getfield 28, 3)) ∧ (decode cX5_cryDay 17 = .ok (.invokevirtual 45, 3)) := by decide +kernel
theorem kd41_10 : (decode cX5_cryDay 20 = .ok (.if_icmp .ge 88, 3)) ∧ (decode cX5_cryDay 23 = .ok (.aload_n 0, 1)) ∧ (decode cX5_cryDay 24 = .ok (.getfield 28, 3)) ∧ (decode cX5_cryDay 27 = .ok (.iload 5, 2)) ∧ (decode cX5_cryDay 29 = .ok (.invokevirtual 119, 3)) ∧ (decode cX5_cryDay 32 = .ok (.checkcast 50, 3)) ∧ (decode cX5_cryDay 35 = .ok (.astore 6, 2)) ∧ (decode cX5_cryDay 37 = .ok (.iload 5, 2)) ∧ (decode cX5_cryDay 39 = .ok (.ifCond .eq 28, 3)) ∧ (decode cX5_cryDay 42 = .ok (.aload_n 0, 1)) ∧ (decode cX5_cryDay 43 = .ok (.getfield 28, 3)) ∧ (decode cX5_cryDay 46 = .ok (.iload 5, 2)) := by decide +kernel
theorem kd41_11 : (decode cX5_cryDay 48 = .ok (.iconst 1, 1)) ∧ (decode cX5_cryDay 49 = .ok (.isub, 1)) ∧ (decode cX5_cryDay 50 = .ok (.invokevirtual 119, 3)) ∧ (decode cX5_cryDay 53 = .ok (.checkcast 50, 3)) ∧ (decode cX5_cryDay 56 = .ok (.getfield 131, 3)) ∧ (decode cX5_cryDay 59 = .ok (.aload 6, 2)) ∧ (decode cX5_cryDay 61 = .ok (.getfield 131, 3)) ∧ (decode cX5_cryDay 64 = .ok (.if_icmp .eq 23, 3)) ∧ (decode cX5_cryDay 67 = .ok (.aload_n 0, 1)) ∧ (decode cX5_cryDay 68 = .ok (.getfield 12, 3)) ∧ (decode cX5_cryDay 71 = .ok (.iload_n 1, 1)) ∧ (decode cX5_cryDay 72 = .ok (.aload 6, 2)) := by decide +kernel
theorem kd41_12 : (decode cX5_cryDay 74 = .ok (.getfield 80, 3)) ∧ (decode cX5_cryDay 77 = .ok (.aload 6, 2)) ∧ (decode cX5_cryDay 79 = .ok (.getfield 77, 3)) ∧ (decode cX5_cryDay 82 = .ok (.invokevirtual 134, 3)) ∧ (decode cX5_cryDay 85 = .ok (.istore 4, 2)) ∧ (decode cX5_cryDay 87 = .ok (.iload 4, 2)) ∧ (decode cX5_cryDay 89 = .ok (.aload_n 0, 1)) ∧ (decode cX5_cryDay 90 = .ok (.aload 6, 2)) ∧ (decode cX5_cryDay 92 = .ok (.aload_n 2, 1)) ∧ (decode cX5_cryDay 93 = .ok (.iload 4, 2)) ∧ (decode cX5_cryDay 95 = .ok (.iload_n 3, 1)) ∧ (decode cX5_cryDay 96 = .ok (.invokevirtual 138, 3)) := by decide +kernel
theorem kd41_13 : (decode cX5_cryDay 99 = .ok (.isub, 1)) ∧ (decode cX5_cryDay 100 = .ok (.istore 4, 2)) ∧ (decode cX5_cryDay 102 = .ok (.iinc 5 1, 3)) ∧ (decode cX5_cryDay 105 = .ok (.goto (-94), 3)) ∧ (decode cX5_cryDay 108 = .ok (.return_, 1)) ∧ (decode cX5_lineUp 0 = .ok (.aload_n 0, 1)) ∧ (decode cX5_lineUp 1 = .ok (.getfield 28, 3)) ∧ (decode cX5_lineUp 4 = .ok (.invokevirtual 162, 3)) ∧ (decode cX5_lineUp 7 = .ok (.iconst 0, 1)) ∧ (decode cX5_lineUp 8 = .ok (.istore_n 2, 1)) ∧ (decode cX5_lineUp 9 = .ok (.iload_n 2, 1)) ∧ (decode cX5_lineUp 10 = .ok (.aload_n 0, 1)) := by decide +kernel
theorem kd41_14 : (decode cX5_lineUp 11 = .ok (.getfield 25, 3)) ∧ (decode cX5_lineUp 14 = .ok (.invokevirtual 45, 3)) ∧ (decode cX5_lineUp 17 = .ok (.if_icmp .ge 81, 3)) ∧ (decode cX5_lineUp 20 = .ok (.aload_n 0, 1)) ∧ (decode cX5_lineUp 21 = .ok (.getfield 25, 3)) ∧ (decode cX5_lineUp 24 = .ok (.iload_n 2, 1)) ∧ (decode cX5_lineUp 25 = .ok (.invokevirtual 119, 3)) ∧ (decode cX5_lineUp 28 = .ok (.checkcast 50, 3)) ∧ (decode cX5_lineUp 31 = .ok (.astore_n 3, 1)) ∧ (decode cX5_lineUp 32 = .ok (.aload_n 3, 1)) ∧ (decode cX5_lineUp 33 = .ok (.getfield 61, 3)) ∧ (decode cX5_lineUp 36 = .ok (.iload_n 1, 1)) := by decide +kernel
theorem kd41_15 : (decode cX5_lineUp 37 = .ok (.if_icmp .ne 55, 3)) ∧ (decode cX5_lineUp 40 = .ok (.aload_n 0, 1)) ∧ (decode cX5_lineUp 41 = .ok (.getfield 28, 3)) ∧ (decode cX5_lineUp 44 = .ok (.invokevirtual 45, 3)) ∧ (decode cX5_lineUp 47 = .ok (.istore 4, 2)) ∧ (decode cX5_lineUp 49 = .ok (.iload 4, 2)) ∧ (decode cX5_lineUp 51 = .ok (.ifCond .le 31, 3)) ∧ (decode cX5_lineUp 54 = .ok (.aload_n 0, 1)) ∧ (decode cX5_lineUp 55 = .ok (.aload_n 3, 1)) ∧ (decode cX5_lineUp 56 = .ok (.aload_n 0, 1)) ∧ (decode cX5_lineUp 57 = .ok (.getfield 28, 3)) ∧ (decode cX5_lineUp 60 = .ok (.iload 4, 2)) := by decide +kernel
theorem kd41_16 : (decode cX5_lineUp 62 = .ok (.iconst 1, 1)) ∧ (decode cX5_lineUp 63 = .ok (.isub, 1)) ∧ (decode cX5_lineUp 64 = .ok (.invokevirtual 119, 3)) ∧ (decode cX5_lineUp 67 = .ok (.checkcast 50, 3)) ∧ (decode cX5_lineUp 70 = .ok (.invokevirtual 165, 3)) ∧ (decode cX5_lineUp 73 = .ok (.ifCond .eq 9, 3)) ∧ (decode cX5_lineUp 76 = .ok (.iinc 4 (-1), 3)) ∧ (decode cX5_lineUp 79 = .ok (.goto (-30), 3)) ∧ (decode cX5_lineUp 82 = .ok (.aload_n 0, 1)) ∧ (decode cX5_lineUp 83 = .ok (.getfield 28, 3)) ∧ (decode cX5_lineUp 86 = .ok (.iload 4, 2)) ∧ (decode cX5_lineUp 88 = .ok (.aload_n 3, 1)) := by decide +kernel
theorem kd41_17 : (decode cX5_lineUp 89 = .ok (.invokevirtual 169, 3)) ∧ (decode cX5_lineUp 92 = .ok (.iinc 2 1, 3)) ∧ (decode cX5_lineUp 95 = .ok (.goto (-86), 3)) ∧ (decode cX5_lineUp 98 = .ok (.return_, 1)) := by decide +kernel
theorem fl_X11_249_6 : xF RX11 249 6 5 .int false := ⟨by decide, RX5, TX5, 8, tyX5, "PaperBoys$Market", rfl, inlX5, tyX5_ok, nmX5, by decide, rfl, rfl, m_38_14, Or.inl rfl⟩
theorem fl_X11_312_6 : xF RX11 312 6 7 .int false := ⟨by decide, RX5, TX5, 8, tyX5, "PaperBoys$Market", rfl, inlX5, tyX5_ok, nmX5, by decide, rfl, rfl, m_47_19, Or.inl rfl⟩
theorem fl_X11_315_6 : xF RX11 315 6 6 .int false := ⟨by decide, RX5, TX5, 8, tyX5, "PaperBoys$Market", rfl, inlX5, tyX5_ok, nmX5, by decide, rfl, rfl, m_47_20, Or.inl rfl⟩
theorem fl_X5_28_6 : xF RX5 28 6 3 (.object "java/util/ArrayList") true := ⟨by decide, RX5, TX5, 8, tyX5, "PaperBoys$Market", rfl, inlX5, tyX5_ok, nmX5, by decide, rfl, rfl, m_4_3, Or.inl rfl⟩
theorem lk_X11_242 : xLV RX11 242 yX5_startSums cX5_startSums 1 none 0 := ⟨m_38_15, m_38_16, m_38_17, m_1_19, m_38_18, by decide +kernel⟩
theorem lk_X11_245 : xLV RX11 245 yX5_cryDay cX5_cryDay 7 none 3 := ⟨m_38_19, m_38_20, m_38_21, m_1_19, m_38_22, by decide +kernel⟩
theorem lk_X11_308 : xLV RX11 308 yX5_cryClosed cX5_cryClosed 5 none 2 := ⟨m_47_21, m_47_22, m_47_23, m_1_19, m_48_0, by decide +kernel⟩
theorem lk_X5_116 : xLV RX5 116 yX5_startSums cX5_startSums 1 none 0 := ⟨m_48_1, m_38_16, m_38_17, m_1_19, m_38_18, by decide +kernel⟩
theorem lk_X5_123 : xLV RX5 123 yX5_cryDay cX5_cryDay 7 none 3 := ⟨m_48_2, m_38_20, m_38_21, m_1_19, m_38_22, by decide +kernel⟩
theorem lk_X5_127 : xLV RX5 127 yX5_lineUp cX5_lineUp 5 none 1 := ⟨m_39_1, m_39_2, m_39_3, m_1_19, m_39_4, by decide +kernel⟩
theorem lk_X5_134 : xLV RX5 134 yX3_askedOn cX3_askedOn 4 (some .int) 3 := ⟨m_39_23, m_40_0, m_40_1, m_3_22, m_40_2, by decide +kernel⟩
theorem lk_X5_138 : xLV RX5 138 yX5_cryBundle cX5_cryBundle 10 (some .int) 4 := ⟨m_40_4, m_40_5, m_40_6, m_1_19, m_40_7, by decide +kernel⟩
theorem lk_X5_162 : xLV RX5 162 yJx4a65c_clear_da8c8 cJx4a65c_clear_da8c8 4 none 0 := ⟨m_39_5, m_39_6, m_39_7, m_2_5, m_39_8, by decide +kernel⟩
theorem lk_X5_165 : xLV RX5 165 yX5_isAhead cX5_isAhead 3 (some .boolean) 2 := ⟨m_39_10, m_39_11, m_39_12, m_1_19, m_39_13, by decide +kernel⟩
theorem lk_X5_169 : xLV RX5 169 yJx4a65c_add_7a177 cJx4a65c_add_7a177 5 none 2 := ⟨m_39_14, m_39_15, m_39_16, m_2_5, m_39_17, by decide +kernel⟩
set_option maxHeartbeats 4000000 in
set_option maxRecDepth 100000 in
theorem c_X5_lineUp (l : Launch) (D : va_G) (kA : Nat → ClassId) (b0 : Nat) (t0 : Nat → Nat) (S : xT) (g : xG) (a0 : Nat) (x1 : Int) (w3 : Nat) (c9 s9 : Nat) (hs_a0 : S a0 = some (6, 0)) (hx1 : (-2147483648) ≤ x1 ∧ x1 ≤ 2147483647) (ew3 : g a0 3 = .ref w3) (hs_w3 : S w3 = some (200, 0)) (hp0 : xLs S g) (hp1 : xSi S t0) (hp2 : xQk S g w3 c9 s9) : xMu l yX5_lineUp cX5_lineUp 5 none 7 10 962 167 D kA b0 t0 [(200, 0), (200, 2), (10403, 0), (200, 1)] [.ref a0, .int (iI x1)] S g (fun (r : Option Value) (S1 : xT) (g1 : xG) (dc ds : Nat) => xNw2 S S1 [10403] ∧ r = none ∧ (xLs S1 g1) ∧ (xSi S1 t0) ∧ (xQk S1 g1 w3 (c9 + dc) (s9 + ds)) ∧ (c9 + dc ≤ 9 ∧ s9 + ds ≤ 718)) := by
  refine xEnterUV (by decide) (by simp [lg_sl, Value.category]) [(0, .ref a0), (1, .int (iI x1))] rfl ?_
  intro K E hK hret hS0 _ hini ht
  subst ht
  refine X_aloadn hK (i := 0) 0 kd41_13.2.2.2.2.2.1 rfl rfl ?_
  refine X_getK hK fl_X5_28_6 hs_a0 ew3 kd41_13.2.2.2.2.2.2.1 ?_
  refine X_callV hK [] [] lk_X5_162 (c_clearW _ _ _ _ _ S g w3 c9 s9 hs_w3 hp0 hp2) hs_w3 ⟨by decide, rfl⟩ kd41_13.2.2.2.2.2.2.2.1 rfl rfl (by simp [Value.category]) (by decide) (by omega) (by omega) (by decide) (fun r1 S3 g2 pr1 qr1 hg2 => ?_)
  obtain ⟨rfl, rfl, k4, k5, k6⟩ := pr1
  refine X_st [] rfl ?_
  refine X_iconst hK kd41_13.2.2.2.2.2.2.2.2.1 ?_
  refine X_istoren hK (i := 2) [(2, .int (iI 0)), (0, .ref a0), (1, .int (iI x1))] kd41_13.2.2.2.2.2.2.2.2.2.1 rfl (by decide) rfl ?_
  have P931 : ∀ (nP931 : Nat) (S777 : xT) (_ : xLe S S777) (_ : xNw2 S S777 [10403]) (g779 : xG) (_ : xM [(200, 0), (200, 1), (200, 2), (10403, 0)] S g2 g779) (_ : xLs S777 g779) (dcS777 dsS777 : Nat) (_ : xQk S777 g779 w3 (c9 + dcS777) (s9 + dsS777)) (z778 : Int) (_ : 0 ≤ z778) (_ : z778 ≤ 200) (q780 : Int) (_ : 0 ≤ q780) (_ : q780 ≤ 2147483647) (_ : g779 w3 2 = .int (iI q780)) (_ : q780 ≤ z778) (_ : 216 - z778 < (nP931 : Int)), X K E 9 [(2, .int (iI z778)), (0, .ref a0), (1, .int (iI x1))] [] S777 g779 dcS777 dsS777 := by
    intro nP931
    induction nP931 with
    | zero => intro S777 qS777 wS777 g779 hg779 AS777 dcS777 dsS777 QS777 z778 lz778 uz778 q780 lq780 uq780 eq780 v932 mP931; exact False.elim (by omega)
    | succ nP931 ihP931 =>
      intro S777 qS777 wS777 g779 hg779 AS777 dcS777 dsS777 QS777 z778 lz778 uz778 q780 lq780 uq780 eq780 v932 mP931
      have qlS777 := xQk.le QS777
      refine X_iloadn hK (i := 2) 0 kd41_13.2.2.2.2.2.2.2.2.2.2.1 rfl rfl ?_
      refine X_aloadn hK (i := 0) 1 kd41_13.2.2.2.2.2.2.2.2.2.2.2 rfl rfl ?_
      refine X_getr hK 100 0 fl_X5_25_6 (qS777 _ _ hs_a0) sl_6_2 kd41_14.1 (fun b933 eb933 hs_b933 => ?_)
      refine X_know hs_b933 (by decide) sl_100_2 (fun z934 ez934 lz934 uz934 => ?_)
      refine X_callV hK [] [.int (iI z778)] lk_X5_45 (c_size_100 _ _ _ _ _ S777 g779 b933 z934 hs_b933 (by omega) ez934 AS777) hs_b933 ⟨by decide, rfl⟩ kd41_14.2.1 rfl rfl (by simp [Value.category]) (by decide) (by omega) (by omega) (by decide) (fun r935 S937 g936 pr935 qr935 hg936 => ?_)
      obtain ⟨rfl, rfl, z938, rfl, lz938, uz938, k939⟩ := pr935
      refine X_st [.int (iI z938), .int (iI z778)] rfl ?_
      refine X_icmp_ge hK 98 (by omega) (by omega) kd41_14.2.2.1 (by decide) (fun c940 => ?_) (fun c940 => ?_)
      · exact hret _ _ _ _ _ _ kd41_17.2.2.2 ⟨(xNw2.tr xNw2.rf wS777 (by decide)), rfl, AS777, (xSi.nw hp1 wS777 (by decide)), (xQk.cg QS777 (by omega) (by omega)), (xQk.le (xQk.cg QS777 (by omega) (by omega)))⟩ (by omega) (by omega)
      · refine X_aloadn hK (i := 0) 1 kd41_14.2.2.2.1 rfl rfl ?_
        refine X_getK hK fl_X5_25_6 (qS777 _ _ hs_a0) eb933 kd41_14.2.2.2.2.1 ?_
        refine X_iloadn hK (i := 2) 0 kd41_14.2.2.2.2.2.1 rfl rfl ?_
        refine X_callV hK [.int (iI z778)] [] lk_X5_119 (c_get_100 _ _ _ _ _ S777 g779 b933 z778 z934 hs_b933 (by omega) (by omega) ez934 AS777 (by omega)) hs_b933 ⟨by decide, rfl⟩ kd41_14.2.2.2.2.2.2.1 rfl rfl (by simp [Value.category]) (by decide) (by omega) (by omega) (by decide) (fun r941 S943 g942 pr941 qr941 hg942 => ?_)
        obtain ⟨rfl, rfl, b944, rfl, hs_b944⟩ := pr941
        refine X_st [.ref b944] rfl ?_
        refine X_cast hK hs_b944 ⟨by decide, rfl⟩ m_38_23 kd41_14.2.2.2.2.2.2.2.1 ?_
        refine X_astoren hK (i := 3) [(3, .ref b944), (2, .int (iI z778)), (0, .ref a0), (1, .int (iI x1))] kd41_14.2.2.2.2.2.2.2.2.1 rfl (by decide) rfl ?_
        refine X_aloadn hK (i := 3) 0 kd41_14.2.2.2.2.2.2.2.2.2.1 rfl rfl ?_
        refine X_geti hK fl_X5_61_2 hs_b944 sl_2_5 kd41_14.2.2.2.2.2.2.2.2.2.2.1 (fun z945 ez945 lz945 uz945 => ?_)
        refine X_iloadn hK (i := 1) 3 kd41_14.2.2.2.2.2.2.2.2.2.2.2 rfl rfl ?_
        refine X_icmp_ne hK 92 (by omega) (by omega) kd41_15.1 (by decide) (fun c946 => ?_) (fun c946 => ?_)
        · refine X_iinc hK (i := 2) (z := z778) (n := 1) 1 [(2, .int (iI (z778 + 1))), (3, .ref b944), (0, .ref a0), (1, .int (iI x1))] kd41_17.2.1 rfl (by decide) rfl ?_
          refine X_goto hK 9 kd41_17.2.2.1 (by decide) ?_
          refine X_lv [(2, .int (iI (z778 + 1))), (0, .ref a0), (1, .int (iI x1))] [0, 2, 3] rfl ?_
          exact ihP931  S777 qS777 (xNw2.tr xNw2.rf wS777 (by decide)) g779 (xM.tr xM.rf xLe.rf hg779 (by decide)) AS777 dcS777 dsS777 (xQk.cg QS777 (by omega) (by omega)) (z778 + 1) (by omega) (by omega) q780 (by omega) (by omega) eq780 (by omega) (by omega)
        · refine X_aloadn hK (i := 0) 2 kd41_15.2.1 rfl rfl ?_
          refine X_getK hK fl_X5_28_6 (qS777 _ _ hs_a0) ((hg779 a0 6 0 3 hs_a0 (by decide)).trans ((hg2 a0 6 0 3 hs_a0 (by decide)).trans ew3)) kd41_15.2.2.1 ?_
          refine X_callV hK [] [] lk_X5_45 (c_size_200 _ _ _ _ _ S777 g779 w3 q780 (qS777 _ _ hs_w3) (by omega) eq780 AS777) (qS777 _ _ hs_w3) ⟨by decide, rfl⟩ kd41_15.2.2.2.1 rfl rfl (by simp [Value.category]) (by decide) (by omega) (by omega) (by decide) (fun r947 S949 g948 pr947 qr947 hg948 => ?_)
          obtain ⟨rfl, rfl, z950, rfl, lz950, uz950, k951⟩ := pr947
          refine X_st [.int (iI z950)] rfl ?_
          refine X_istore hK (i := 4) [(4, .int (iI z950)), (3, .ref b944), (2, .int (iI z778)), (0, .ref a0), (1, .int (iI x1))] kd41_15.2.2.2.2.1 (by decide) rfl ?_
          have P1056 : ∀ (nP1056 : Nat) (z1030 : Int) (_ : 0 ≤ z1030) (_ : z1030 ≤ 200) (q1031 : Int) (_ : 0 ≤ q1031) (_ : q1031 ≤ 2147483647) (_ : g779 w3 2 = .int (iI q1031)) (_ : z1030 ≤ q1031) (_ : q1031 ≤ z778) (_ : z1030 - (-16) < (nP1056 : Int)), X K E 49 [(4, .int (iI z1030)), (3, .ref b944), (2, .int (iI z778)), (0, .ref a0), (1, .int (iI x1))] [] S777 g779 dcS777 dsS777 := by
            intro nP1056
            induction nP1056 with
            | zero => intro z1030 lz1030 uz1030 q1031 lq1031 uq1031 eq1031 v1057 v1058 mP1056; exact False.elim (by omega)
            | succ nP1056 ihP1056 =>
              intro z1030 lz1030 uz1030 q1031 lq1031 uq1031 eq1031 v1057 v1058 mP1056
              refine X_iload hK (i := 4) 0 kd41_15.2.2.2.2.2.1 rfl ?_
              refine X_if_le hK 82 (by omega) kd41_15.2.2.2.2.2.2.1 (by decide) (fun c1059 => ?_) (fun c1059 => ?_)
              · refine X_aloadn hK (i := 0) 3 kd41_16.2.2.2.2.2.2.2.2.1 rfl rfl ?_
                refine X_getK hK fl_X5_28_6 (qS777 _ _ hs_a0) ((hg779 a0 6 0 3 hs_a0 (by decide)).trans ((hg2 a0 6 0 3 hs_a0 (by decide)).trans ew3)) kd41_16.2.2.2.2.2.2.2.2.2.1 ?_
                refine X_iload hK (i := 4) 0 kd41_16.2.2.2.2.2.2.2.2.2.2.1 rfl ?_
                refine X_aloadn hK (i := 3) 1 kd41_16.2.2.2.2.2.2.2.2.2.2.2 rfl rfl ?_
                refine X_callVU hK [.int (iI z1030), .ref b944] [] lk_X5_169 (c_addQ _ _ _ _ _ S777 g779 w3 z1030 b944 q1031 (c9 + dcS777) (s9 + dsS777) (qS777 _ _ hs_w3) (by omega) hs_b944 (by omega) eq1031 AS777 (xSi.nw hp1 wS777 (by decide)) QS777 (by omega)) (qS777 _ _ hs_w3) ⟨by decide, rfl⟩ kd41_17.1 rfl rfl (by simp [Value.category]) (by decide) (by omega) (by omega) (by decide) (fun r1060 S1062 g1061 dcr1060 dsr1060 pr1060 qr1060 hg1061 => ?_)
                obtain ⟨wr1060, rfl, k1063, k1064, k1065, k1066⟩ := pr1060
                refine X_st [] rfl ?_
                refine X_iinc hK (i := 2) (z := z778) (n := 1) 2 [(2, .int (iI (z778 + 1))), (4, .int (iI z1030)), (3, .ref b944), (0, .ref a0), (1, .int (iI x1))] kd41_17.2.1 rfl (by decide) rfl ?_
                refine X_goto hK 9 kd41_17.2.2.1 (by decide) ?_
                refine X_lv [(2, .int (iI (z778 + 1))), (0, .ref a0), (1, .int (iI x1))] [0, 3, 4] rfl ?_
                exact ihP931  S1062 (xLe.tr qS777 qr1060) (xNw2.tr (xNw2.tr xNw2.rf wS777 (by decide)) wr1060 (by decide)) g1061 (xM.tr (xM.tr xM.rf xLe.rf hg779 (by decide)) qS777 hg1061 (by decide)) k1063 (dcS777 + dcr1060) (dsS777 + dsr1060) (xQk.cg k1064 (by omega) (by omega)) (z778 + 1) (by omega) (by omega) (q1031 + 1) (by omega) (by omega) k1065 (by omega) (by omega)
              · refine X_aloadn hK (i := 0) 3 kd41_15.2.2.2.2.2.2.2.1 rfl rfl ?_
                refine X_aloadn hK (i := 3) 1 kd41_15.2.2.2.2.2.2.2.2.1 rfl rfl ?_
                refine X_aloadn hK (i := 0) 3 kd41_15.2.2.2.2.2.2.2.2.2.1 rfl rfl ?_
                refine X_getK hK fl_X5_28_6 (qS777 _ _ hs_a0) ((hg779 a0 6 0 3 hs_a0 (by decide)).trans ((hg2 a0 6 0 3 hs_a0 (by decide)).trans ew3)) kd41_15.2.2.2.2.2.2.2.2.2.2.1 ?_
                refine X_iload hK (i := 4) 0 kd41_15.2.2.2.2.2.2.2.2.2.2.2 rfl ?_
                refine X_iconst hK kd41_16.1 ?_
                refine X_isub hK kd41_16.2.1 ?_
                refine X_callV hK [.int (iI (z1030 - 1))] [.ref b944, .ref a0] lk_X5_119 (c_get_200 _ _ _ _ _ S777 g779 w3 (z1030 - 1) q1031 (qS777 _ _ hs_w3) (by omega) (by omega) eq1031 AS777 (by omega)) (qS777 _ _ hs_w3) ⟨by decide, rfl⟩ kd41_16.2.2.1 rfl rfl (by simp [Value.category]) (by decide) (by omega) (by omega) (by decide) (fun r1067 S1069 g1068 pr1067 qr1067 hg1068 => ?_)
                obtain ⟨rfl, rfl, b1070, rfl, hs_b1070⟩ := pr1067
                refine X_st [.ref b1070, .ref b944, .ref a0] rfl ?_
                refine X_cast hK hs_b1070 ⟨by decide, rfl⟩ m_38_23 kd41_16.2.2.2.1 ?_
                refine X_callV hK [.ref b944, .ref b1070] [] lk_X5_165 (c_X5_isAhead _ _ _ _ _ S777 g779 a0 b944 b1070 (qS777 _ _ hs_a0) hs_b944 hs_b1070) (qS777 _ _ hs_a0) ⟨by decide, rfl⟩ kd41_16.2.2.2.2.1 rfl rfl (by simp [Value.category]) (by decide) (by omega) (by omega) (by decide) (fun r1071 S1073 g1072 pr1071 qr1071 hg1072 => ?_)
                obtain ⟨rfl, rfl, z1074, rfl, lz1074, uz1074⟩ := pr1071
                refine X_st [.int (iI z1074)] rfl ?_
                refine X_if_eq hK 82 (by omega) kd41_16.2.2.2.2.2.1 (by decide) (fun c1075 => ?_) (fun c1075 => ?_)
                · refine X_aloadn hK (i := 0) 3 kd41_16.2.2.2.2.2.2.2.2.1 rfl rfl ?_
                  refine X_getK hK fl_X5_28_6 (qS777 _ _ hs_a0) ((hg779 a0 6 0 3 hs_a0 (by decide)).trans ((hg2 a0 6 0 3 hs_a0 (by decide)).trans ew3)) kd41_16.2.2.2.2.2.2.2.2.2.1 ?_
                  refine X_iload hK (i := 4) 0 kd41_16.2.2.2.2.2.2.2.2.2.2.1 rfl ?_
                  refine X_aloadn hK (i := 3) 1 kd41_16.2.2.2.2.2.2.2.2.2.2.2 rfl rfl ?_
                  refine X_callVU hK [.int (iI z1030), .ref b944] [] lk_X5_169 (c_addQ _ _ _ _ _ S777 g779 w3 z1030 b944 q1031 (c9 + dcS777) (s9 + dsS777) (qS777 _ _ hs_w3) (by omega) hs_b944 (by omega) eq1031 AS777 (xSi.nw hp1 wS777 (by decide)) QS777 (by omega)) (qS777 _ _ hs_w3) ⟨by decide, rfl⟩ kd41_17.1 rfl rfl (by simp [Value.category]) (by decide) (by omega) (by omega) (by decide) (fun r1076 S1078 g1077 dcr1076 dsr1076 pr1076 qr1076 hg1077 => ?_)
                  obtain ⟨wr1076, rfl, k1079, k1080, k1081, k1082⟩ := pr1076
                  refine X_st [] rfl ?_
                  refine X_iinc hK (i := 2) (z := z778) (n := 1) 2 [(2, .int (iI (z778 + 1))), (4, .int (iI z1030)), (3, .ref b944), (0, .ref a0), (1, .int (iI x1))] kd41_17.2.1 rfl (by decide) rfl ?_
                  refine X_goto hK 9 kd41_17.2.2.1 (by decide) ?_
                  refine X_lv [(2, .int (iI (z778 + 1))), (0, .ref a0), (1, .int (iI x1))] [0, 3, 4] rfl ?_
                  exact ihP931  S1078 (xLe.tr qS777 qr1076) (xNw2.tr (xNw2.tr xNw2.rf wS777 (by decide)) wr1076 (by decide)) g1077 (xM.tr (xM.tr xM.rf xLe.rf hg779 (by decide)) qS777 hg1077 (by decide)) k1079 (dcS777 + dcr1076) (dsS777 + dsr1076) (xQk.cg k1080 (by omega) (by omega)) (z778 + 1) (by omega) (by omega) (q1031 + 1) (by omega) (by omega) k1081 (by omega) (by omega)
                · refine X_iinc hK (i := 4) (z := z1030) (n := (-1)) 0 [(4, .int (iI (z1030 + (-1)))), (3, .ref b944), (2, .int (iI z778)), (0, .ref a0), (1, .int (iI x1))] kd41_16.2.2.2.2.2.2.1 rfl (by decide) rfl ?_
                  refine X_goto hK 49 kd41_16.2.2.2.2.2.2.2.1 (by decide) ?_
                  exact ihP1056  (z1030 + (-1)) (by omega) (by omega) q1031 (by omega) (by omega) eq1031 (by omega) (by omega) (by omega)
          exact P1056 ((z950 - (-16) : Int).toNat + 1) z950 (by omega) (by omega) q780 (by omega) (by omega) eq780 (by omega) (by omega) (by omega)
  exact P931 ((216 - 0 : Int).toNat + 1) S xLe.rf xNw2.rf g2 xM.rf k4 0 0 (xQk.cg k5 (by omega) (by omega)) 0 (by omega) (by omega) 0 (by omega) (by omega) k6 (by omega) (by omega)

set_option maxHeartbeats 4000000 in
set_option maxRecDepth 100000 in
theorem c_X5_cryDay (l : Launch) (D : va_G) (kA : Nat → ClassId) (b0 : Nat) (t0 : Nat → Nat) (S : xT) (g : xG) (a0 : Nat) (x1 : Int) (a2 : Nat) (x3 : Int) (w3 : Nat) (c9 s9 : Nat) (hs_a0 : S a0 = some (6, 0)) (hx1 : 0 ≤ x1 ∧ x1 ≤ 399) (hs_a2 : S a2 = some (11, 0)) (hx3 : 0 ≤ x3 ∧ x3 ≤ 1) (ew3 : g a0 3 = .ref w3) (hs_w3 : S w3 = some (200, 0)) (hp0 : xLs S g) (hp1 : xSi S t0) (hp2 : xQk S g w3 c9 s9) : xMu l yX5_cryDay cX5_cryDay 7 none 8 10 962 191 D kA b0 t0 [(200, 0), (200, 2), (10403, 0), (200, 1), (12000, 0), (6, 5), (6, 7), (6, 6), (2, 8), (2, 9), (2, 10), (1, 5)] [.ref a0, .int (iI x1), .ref a2, .int (iI x3)] S g (fun (r : Option Value) (S1 : xT) (g1 : xG) (dc ds : Nat) => xNw2 S S1 [10403] ∧ r = none ∧ (xLs S1 g1) ∧ (xSi S1 t0) ∧ (xQk S1 g1 w3 (c9 + dc) (s9 + ds)) ∧ (c9 + dc ≤ 9 ∧ s9 + ds ≤ 718)) := by
  refine xEnterUV (by decide) (by simp [lg_sl, Value.category]) [(0, .ref a0), (1, .int (iI x1)), (2, .ref a2), (3, .int (iI x3))] rfl ?_
  intro K E hK hret hS0 _ hini ht
  subst ht
  refine X_aloadn hK (i := 0) 0 kd41_9.2.1 rfl rfl ?_
  refine X_iloadn hK (i := 1) 1 kd41_9.2.2.1 rfl rfl ?_
  refine X_callVU hK [.int (iI x1)] [] lk_X5_127 (c_X5_lineUp _ _ _ _ _ S g a0 x1 w3 c9 s9 hs_a0 (by omega) ew3 hs_w3 hp0 hp1 hp2) hs_a0 ⟨by decide, rfl⟩ kd41_9.2.2.2.1 rfl rfl (by simp [Value.category]) (by decide) (by omega) (by omega) (by decide) (fun r1 S3 g2 dcr1 dsr1 pr1 qr1 hg2 => ?_)
  obtain ⟨wr1, rfl, k4, k5, k6, k7⟩ := pr1
  refine X_st [] rfl ?_
  refine X_iconst hK kd41_9.2.2.2.2.1 ?_
  refine X_istore hK (i := 4) [(4, .int (iI 0)), (0, .ref a0), (1, .int (iI x1)), (2, .ref a2), (3, .int (iI x3))] kd41_9.2.2.2.2.2.1 (by decide) rfl ?_
  refine X_iconst hK kd41_9.2.2.2.2.2.2.1 ?_
  refine X_istore hK (i := 5) [(5, .int (iI 0)), (4, .int (iI 0)), (0, .ref a0), (1, .int (iI x1)), (2, .ref a2), (3, .int (iI x3))] kd41_9.2.2.2.2.2.2.2.1 (by decide) rfl ?_
  have P289 : ∀ (nP289 : Nat) (g240 : xG) (_ : xM [(12000, 0), (6, 5), (6, 7), (6, 6), (2, 8), (2, 9), (2, 10), (1, 5)] S3 g2 g240) (z238 : Int) (_ : 0 ≤ z238) (_ : z238 ≤ 200) (z239 : Int) (_ : (-2147483648) ≤ z239) (_ : z239 ≤ 2147483647) (_ : 216 - z238 < (nP289 : Int)), X K E 11 [(5, .int (iI z238)), (4, .int (iI z239)), (0, .ref a0), (1, .int (iI x1)), (2, .ref a2), (3, .int (iI x3))] [] S3 g240 (0 + dcr1) (0 + dsr1) := by
    intro nP289
    induction nP289 with
    | zero => intro g240 hg240 z238 lz238 uz238 z239 lz239 uz239 mP289; exact False.elim (by omega)
    | succ nP289 ihP289 =>
      intro g240 hg240 z238 lz238 uz238 z239 lz239 uz239 mP289
      refine X_iload hK (i := 5) 0 kd41_9.2.2.2.2.2.2.2.2.1 rfl ?_
      refine X_aloadn hK (i := 0) 2 kd41_9.2.2.2.2.2.2.2.2.2.1 rfl rfl ?_
      refine X_getK hK fl_X5_28_6 (qr1 _ _ hs_a0) ((hg240 a0 6 0 3 (qr1 _ _ hs_a0) (by decide)).trans ((hg2 a0 6 0 3 hs_a0 (by decide)).trans ew3)) kd41_9.2.2.2.2.2.2.2.2.2.2.1 ?_
      refine X_know (qr1 _ _ hs_w3) (by decide) sl_200_2 (fun z290 ez290 lz290 uz290 => ?_)
      refine X_callV hK [] [.int (iI z238)] lk_X5_45 (c_size_200 _ _ _ _ _ S3 g240 w3 z290 (qr1 _ _ hs_w3) (by omega) ez290 (xLs_mod k4 hg240 (by decide))) (qr1 _ _ hs_w3) ⟨by decide, rfl⟩ kd41_9.2.2.2.2.2.2.2.2.2.2.2 rfl rfl (by simp [Value.category]) (by decide) (by omega) (by omega) (by decide) (fun r291 S293 g292 pr291 qr291 hg292 => ?_)
      obtain ⟨rfl, rfl, z294, rfl, lz294, uz294, k295⟩ := pr291
      refine X_st [.int (iI z294), .int (iI z238)] rfl ?_
      refine X_icmp_ge hK 108 (by omega) (by omega) kd41_10.1 (by decide) (fun c296 => ?_) (fun c296 => ?_)
      · exact hret _ _ _ _ _ _ kd41_13.2.2.2.2.1 ⟨(xNw2.tr xNw2.rf wr1 (by decide)), rfl, (xLs_mod k4 hg240 (by decide)), k5, (xQk.cg (xQk_mod k6 (qr1 _ _ hs_w3) hg240 (by decide)) (by omega) (by omega)), (xQk.le (xQk.cg (xQk_mod k6 (qr1 _ _ hs_w3) hg240 (by decide)) (by omega) (by omega)))⟩ (by omega) (by omega)
      · refine X_aloadn hK (i := 0) 2 kd41_10.2.1 rfl rfl ?_
        refine X_getK hK fl_X5_28_6 (qr1 _ _ hs_a0) ((hg240 a0 6 0 3 (qr1 _ _ hs_a0) (by decide)).trans ((hg2 a0 6 0 3 hs_a0 (by decide)).trans ew3)) kd41_10.2.2.1 ?_
        refine X_iload hK (i := 5) 0 kd41_10.2.2.2.1 rfl ?_
        refine X_callV hK [.int (iI z238)] [] lk_X5_119 (c_get_200 _ _ _ _ _ S3 g240 w3 z238 z290 (qr1 _ _ hs_w3) (by omega) (by omega) ez290 (xLs_mod k4 hg240 (by decide)) (by omega)) (qr1 _ _ hs_w3) ⟨by decide, rfl⟩ kd41_10.2.2.2.2.1 rfl rfl (by simp [Value.category]) (by decide) (by omega) (by omega) (by decide) (fun r297 S299 g298 pr297 qr297 hg298 => ?_)
        obtain ⟨rfl, rfl, b300, rfl, hs_b300⟩ := pr297
        refine X_st [.ref b300] rfl ?_
        refine X_cast hK hs_b300 ⟨by decide, rfl⟩ m_38_23 kd41_10.2.2.2.2.2.1 ?_
        refine X_astore hK (i := 6) [(6, .ref b300), (5, .int (iI z238)), (4, .int (iI z239)), (0, .ref a0), (1, .int (iI x1)), (2, .ref a2), (3, .int (iI x3))] kd41_10.2.2.2.2.2.2.1 (by decide) rfl ?_
        refine X_iload hK (i := 5) 1 kd41_10.2.2.2.2.2.2.2.1 rfl ?_
        refine X_if_eq hK 67 (by omega) kd41_10.2.2.2.2.2.2.2.2.1 (by decide) (fun c301 => ?_) (fun c301 => ?_)
        · refine X_aloadn hK (i := 0) 3 kd41_11.2.2.2.2.2.2.2.2.1 rfl rfl ?_
          refine X_getr hK 4 0 fl_X5_12_6 (qr1 _ _ hs_a0) sl_6_0 kd41_11.2.2.2.2.2.2.2.2.2.1 (fun b302 eb302 hs_b302 => ?_)
          refine X_iloadn hK (i := 1) 4 kd41_11.2.2.2.2.2.2.2.2.2.2.1 rfl rfl ?_
          refine X_aload hK (i := 6) 0 kd41_11.2.2.2.2.2.2.2.2.2.2.2 rfl ?_
          refine X_geti hK fl_X5_80_2 hs_b300 sl_2_2 kd41_12.1 (fun z303 ez303 lz303 uz303 => ?_)
          refine X_aload hK (i := 6) 0 kd41_12.2.1 rfl ?_
          refine X_geti hK fl_X5_77_2 hs_b300 sl_2_1 kd41_12.2.2.1 (fun z304 ez304 lz304 uz304 => ?_)
          refine X_callV hK [.int (iI x1), .int (iI z303), .int (iI z304)] [] lk_X5_134 (c_X3_askedOn _ _ _ _ _ S3 g240 b302 x1 z303 z304 hs_b302 (by omega) (by omega) (by omega)) hs_b302 ⟨by decide, rfl⟩ kd41_12.2.2.2.1 rfl rfl (by simp [Value.category]) (by decide) (by omega) (by omega) (by decide) (fun r305 S307 g306 pr305 qr305 hg306 => ?_)
          obtain ⟨rfl, rfl, z308, rfl, lz308, uz308⟩ := pr305
          refine X_st [.int (iI z308)] rfl ?_
          refine X_istore hK (i := 4) [(4, .int (iI z308)), (6, .ref b300), (5, .int (iI z238)), (0, .ref a0), (1, .int (iI x1)), (2, .ref a2), (3, .int (iI x3))] kd41_12.2.2.2.2.1 (by decide) rfl ?_
          refine X_iload hK (i := 4) 0 kd41_12.2.2.2.2.2.1 rfl ?_
          refine X_aloadn hK (i := 0) 3 kd41_12.2.2.2.2.2.2.1 rfl rfl ?_
          refine X_aload hK (i := 6) 1 kd41_12.2.2.2.2.2.2.2.1 rfl ?_
          refine X_aloadn hK (i := 2) 5 kd41_12.2.2.2.2.2.2.2.2.1 rfl rfl ?_
          refine X_iload hK (i := 4) 0 kd41_12.2.2.2.2.2.2.2.2.2.1 rfl ?_
          refine X_iloadn hK (i := 3) 6 kd41_12.2.2.2.2.2.2.2.2.2.2.1 rfl rfl ?_
          refine X_callV hK [.ref b300, .ref a2, .int (iI z308), .int (iI x3)] [.int (iI z308)] lk_X5_138 (c_X5_cryBundle _ _ _ _ _ S3 g240 a0 b300 a2 z308 x3 (qr1 _ _ hs_a0) hs_b300 (qr1 _ _ hs_a2) (by omega) (by omega)) (qr1 _ _ hs_a0) ⟨by decide, rfl⟩ kd41_12.2.2.2.2.2.2.2.2.2.2.2 rfl rfl (by simp [Value.category]) (by decide) (by omega) (by omega) (by decide) (fun r309 S311 g310 pr309 qr309 hg310 => ?_)
          obtain ⟨rfl, z312, rfl, lz312, uz312⟩ := pr309
          refine X_st [.int (iI z312), .int (iI z308)] rfl ?_
          refine X_isub hK kd41_13.1 ?_
          refine X_norm (fun z313 ez313 lz313 uz313 => ?_)
          refine X_istore hK (i := 4) [(4, .int (iI z313)), (6, .ref b300), (5, .int (iI z238)), (0, .ref a0), (1, .int (iI x1)), (2, .ref a2), (3, .int (iI x3))] kd41_13.2.1 (by decide) rfl ?_
          refine X_iinc hK (i := 5) (z := z238) (n := 1) 2 [(5, .int (iI (z238 + 1))), (4, .int (iI z313)), (6, .ref b300), (0, .ref a0), (1, .int (iI x1)), (2, .ref a2), (3, .int (iI x3))] kd41_13.2.2.1 rfl (by decide) rfl ?_
          refine X_goto hK 11 kd41_13.2.2.2.1 (by decide) ?_
          refine X_lv [(5, .int (iI (z238 + 1))), (4, .int (iI z313)), (0, .ref a0), (1, .int (iI x1)), (2, .ref a2), (3, .int (iI x3))] [0, 1, 3, 4, 5, 6] rfl ?_
          exact ihP289  g310 (xM.tr (xM.tr xM.rf xLe.rf hg240 (by decide)) xLe.rf hg310 (by decide)) (z238 + 1) (by omega) (by omega) z313 (by omega) (by omega) (by omega)
        · refine X_aloadn hK (i := 0) 3 kd41_10.2.2.2.2.2.2.2.2.2.1 rfl rfl ?_
          refine X_getK hK fl_X5_28_6 (qr1 _ _ hs_a0) ((hg240 a0 6 0 3 (qr1 _ _ hs_a0) (by decide)).trans ((hg2 a0 6 0 3 hs_a0 (by decide)).trans ew3)) kd41_10.2.2.2.2.2.2.2.2.2.2.1 ?_
          refine X_iload hK (i := 5) 1 kd41_10.2.2.2.2.2.2.2.2.2.2.2 rfl ?_
          refine X_iconst hK kd41_11.1 ?_
          refine X_isub hK kd41_11.2.1 ?_
          refine X_callV hK [.int (iI (z238 - 1))] [] lk_X5_119 (c_get_200 _ _ _ _ _ S3 g240 w3 (z238 - 1) z290 (qr1 _ _ hs_w3) (by omega) (by omega) ez290 (xLs_mod k4 hg240 (by decide)) (by omega)) (qr1 _ _ hs_w3) ⟨by decide, rfl⟩ kd41_11.2.2.1 rfl rfl (by simp [Value.category]) (by decide) (by omega) (by omega) (by decide) (fun r314 S316 g315 pr314 qr314 hg315 => ?_)
          obtain ⟨rfl, rfl, b317, rfl, hs_b317⟩ := pr314
          refine X_st [.ref b317] rfl ?_
          refine X_cast hK hs_b317 ⟨by decide, rfl⟩ m_38_23 kd41_11.2.2.2.1 ?_
          refine X_geti hK fl_X5_131_2 hs_b317 sl_2_6 kd41_11.2.2.2.2.1 (fun z318 ez318 lz318 uz318 => ?_)
          refine X_aload hK (i := 6) 0 kd41_11.2.2.2.2.2.1 rfl ?_
          refine X_geti hK fl_X5_131_2 hs_b300 sl_2_6 kd41_11.2.2.2.2.2.2.1 (fun z319 ez319 lz319 uz319 => ?_)
          refine X_icmp_eq hK 87 (by omega) (by omega) kd41_11.2.2.2.2.2.2.2.1 (by decide) (fun c320 => ?_) (fun c320 => ?_)
          · refine X_iload hK (i := 4) 2 kd41_12.2.2.2.2.2.1 rfl ?_
            refine X_aloadn hK (i := 0) 3 kd41_12.2.2.2.2.2.2.1 rfl rfl ?_
            refine X_aload hK (i := 6) 0 kd41_12.2.2.2.2.2.2.2.1 rfl ?_
            refine X_aloadn hK (i := 2) 5 kd41_12.2.2.2.2.2.2.2.2.1 rfl rfl ?_
            refine X_iload hK (i := 4) 2 kd41_12.2.2.2.2.2.2.2.2.2.1 rfl ?_
            refine X_iloadn hK (i := 3) 6 kd41_12.2.2.2.2.2.2.2.2.2.2.1 rfl rfl ?_
            refine X_callV hK [.ref b300, .ref a2, .int (iI z239), .int (iI x3)] [.int (iI z239)] lk_X5_138 (c_X5_cryBundle _ _ _ _ _ S3 g240 a0 b300 a2 z239 x3 (qr1 _ _ hs_a0) hs_b300 (qr1 _ _ hs_a2) (by omega) (by omega)) (qr1 _ _ hs_a0) ⟨by decide, rfl⟩ kd41_12.2.2.2.2.2.2.2.2.2.2.2 rfl rfl (by simp [Value.category]) (by decide) (by omega) (by omega) (by decide) (fun r321 S323 g322 pr321 qr321 hg322 => ?_)
            obtain ⟨rfl, z324, rfl, lz324, uz324⟩ := pr321
            refine X_st [.int (iI z324), .int (iI z239)] rfl ?_
            refine X_isub hK kd41_13.1 ?_
            refine X_norm (fun z325 ez325 lz325 uz325 => ?_)
            refine X_istore hK (i := 4) [(4, .int (iI z325)), (6, .ref b300), (5, .int (iI z238)), (0, .ref a0), (1, .int (iI x1)), (2, .ref a2), (3, .int (iI x3))] kd41_13.2.1 (by decide) rfl ?_
            refine X_iinc hK (i := 5) (z := z238) (n := 1) 2 [(5, .int (iI (z238 + 1))), (4, .int (iI z325)), (6, .ref b300), (0, .ref a0), (1, .int (iI x1)), (2, .ref a2), (3, .int (iI x3))] kd41_13.2.2.1 rfl (by decide) rfl ?_
            refine X_goto hK 11 kd41_13.2.2.2.1 (by decide) ?_
            refine X_lv [(5, .int (iI (z238 + 1))), (4, .int (iI z325)), (0, .ref a0), (1, .int (iI x1)), (2, .ref a2), (3, .int (iI x3))] [0, 1, 3, 4, 5, 6] rfl ?_
            exact ihP289  g322 (xM.tr (xM.tr xM.rf xLe.rf hg240 (by decide)) xLe.rf hg322 (by decide)) (z238 + 1) (by omega) (by omega) z325 (by omega) (by omega) (by omega)
          · refine X_aloadn hK (i := 0) 3 kd41_11.2.2.2.2.2.2.2.2.1 rfl rfl ?_
            refine X_getr hK 4 0 fl_X5_12_6 (qr1 _ _ hs_a0) sl_6_0 kd41_11.2.2.2.2.2.2.2.2.2.1 (fun b326 eb326 hs_b326 => ?_)
            refine X_iloadn hK (i := 1) 4 kd41_11.2.2.2.2.2.2.2.2.2.2.1 rfl rfl ?_
            refine X_aload hK (i := 6) 0 kd41_11.2.2.2.2.2.2.2.2.2.2.2 rfl ?_
            refine X_geti hK fl_X5_80_2 hs_b300 sl_2_2 kd41_12.1 (fun z327 ez327 lz327 uz327 => ?_)
            refine X_aload hK (i := 6) 0 kd41_12.2.1 rfl ?_
            refine X_geti hK fl_X5_77_2 hs_b300 sl_2_1 kd41_12.2.2.1 (fun z328 ez328 lz328 uz328 => ?_)
            refine X_callV hK [.int (iI x1), .int (iI z327), .int (iI z328)] [] lk_X5_134 (c_X3_askedOn _ _ _ _ _ S3 g240 b326 x1 z327 z328 hs_b326 (by omega) (by omega) (by omega)) hs_b326 ⟨by decide, rfl⟩ kd41_12.2.2.2.1 rfl rfl (by simp [Value.category]) (by decide) (by omega) (by omega) (by decide) (fun r329 S331 g330 pr329 qr329 hg330 => ?_)
            obtain ⟨rfl, rfl, z332, rfl, lz332, uz332⟩ := pr329
            refine X_st [.int (iI z332)] rfl ?_
            refine X_istore hK (i := 4) [(4, .int (iI z332)), (6, .ref b300), (5, .int (iI z238)), (0, .ref a0), (1, .int (iI x1)), (2, .ref a2), (3, .int (iI x3))] kd41_12.2.2.2.2.1 (by decide) rfl ?_
            refine X_iload hK (i := 4) 0 kd41_12.2.2.2.2.2.1 rfl ?_
            refine X_aloadn hK (i := 0) 3 kd41_12.2.2.2.2.2.2.1 rfl rfl ?_
            refine X_aload hK (i := 6) 1 kd41_12.2.2.2.2.2.2.2.1 rfl ?_
            refine X_aloadn hK (i := 2) 5 kd41_12.2.2.2.2.2.2.2.2.1 rfl rfl ?_
            refine X_iload hK (i := 4) 0 kd41_12.2.2.2.2.2.2.2.2.2.1 rfl ?_
            refine X_iloadn hK (i := 3) 6 kd41_12.2.2.2.2.2.2.2.2.2.2.1 rfl rfl ?_
            refine X_callV hK [.ref b300, .ref a2, .int (iI z332), .int (iI x3)] [.int (iI z332)] lk_X5_138 (c_X5_cryBundle _ _ _ _ _ S3 g240 a0 b300 a2 z332 x3 (qr1 _ _ hs_a0) hs_b300 (qr1 _ _ hs_a2) (by omega) (by omega)) (qr1 _ _ hs_a0) ⟨by decide, rfl⟩ kd41_12.2.2.2.2.2.2.2.2.2.2.2 rfl rfl (by simp [Value.category]) (by decide) (by omega) (by omega) (by decide) (fun r333 S335 g334 pr333 qr333 hg334 => ?_)
            obtain ⟨rfl, z336, rfl, lz336, uz336⟩ := pr333
            refine X_st [.int (iI z336), .int (iI z332)] rfl ?_
            refine X_isub hK kd41_13.1 ?_
            refine X_norm (fun z337 ez337 lz337 uz337 => ?_)
            refine X_istore hK (i := 4) [(4, .int (iI z337)), (6, .ref b300), (5, .int (iI z238)), (0, .ref a0), (1, .int (iI x1)), (2, .ref a2), (3, .int (iI x3))] kd41_13.2.1 (by decide) rfl ?_
            refine X_iinc hK (i := 5) (z := z238) (n := 1) 2 [(5, .int (iI (z238 + 1))), (4, .int (iI z337)), (6, .ref b300), (0, .ref a0), (1, .int (iI x1)), (2, .ref a2), (3, .int (iI x3))] kd41_13.2.2.1 rfl (by decide) rfl ?_
            refine X_goto hK 11 kd41_13.2.2.2.1 (by decide) ?_
            refine X_lv [(5, .int (iI (z238 + 1))), (4, .int (iI z337)), (0, .ref a0), (1, .int (iI x1)), (2, .ref a2), (3, .int (iI x3))] [0, 1, 3, 4, 5, 6] rfl ?_
            exact ihP289  g334 (xM.tr (xM.tr xM.rf xLe.rf hg240 (by decide)) xLe.rf hg334 (by decide)) (z238 + 1) (by omega) (by omega) z337 (by omega) (by omega) (by omega)
  exact P289 ((216 - 0 : Int).toNat + 1) g2 xM.rf 0 (by omega) (by omega) 0 (by omega) (by omega) (by omega)

set_option maxHeartbeats 4000000 in
set_option maxRecDepth 100000 in
theorem c_X5_cryClosed (l : Launch) (D : va_G) (kA : Nat → ClassId) (b0 : Nat) (t0 : Nat → Nat) (S : xT) (g : xG) (a0 : Nat) (x1 : Int) (a2 : Nat) (w3 : Nat) (c9 s9 : Nat) (hs_a0 : S a0 = some (6, 0)) (hx1 : (-2147483648) ≤ x1 ∧ x1 ≤ 2147483647) (hs_a2 : S a2 = some (11, 0)) (ew3 : g a0 3 = .ref w3) (hs_w3 : S w3 = some (200, 0)) (hp0 : xLs S g) (hp1 : xSi S t0) (hp2 : xQk S g w3 c9 s9) : xMu l yX5_cryClosed cX5_cryClosed 5 none 9 19 1680 217 D kA b0 t0 [(6, 5), (6, 6), (6, 7), (200, 0), (200, 2), (10403, 0), (200, 1), (12000, 0), (2, 8), (2, 9), (2, 10), (1, 5)] [.ref a0, .int (iI x1), .ref a2] S g (fun (r : Option Value) (S1 : xT) (g1 : xG) (dc ds : Nat) => xNw2 S S1 [10403] ∧ r = none ∧ (xLs S1 g1) ∧ (xSi S1 t0) ∧ (xQk S1 g1 w3 (c9 + dc) (s9 + ds)) ∧ (c9 + dc ≤ 9 ∧ s9 + ds ≤ 718)) := by
  refine xEnterUV (by decide) (by simp [lg_sl, Value.category]) [(0, .ref a0), (1, .int (iI x1)), (2, .ref a2)] rfl ?_
  intro K E hK hret hS0 _ hini ht
  subst ht
  refine X_aloadn hK (i := 0) 0 kd41_5.2.2.2.2.2.2.2.2.2.2.1 rfl rfl ?_
  refine X_callV hK [] [] lk_X5_116 (c_X5_startSums _ _ _ _ _ S g a0 hs_a0) hs_a0 ⟨by decide, rfl⟩ kd41_5.2.2.2.2.2.2.2.2.2.2.2 rfl rfl (by simp [Value.category]) (by decide) (by omega) (by omega) (by decide) (fun r1 S3 g2 pr1 qr1 hg2 => ?_)
  obtain ⟨rfl, rfl⟩ := pr1
  refine X_st [] rfl ?_
  refine X_iconst hK kd41_6.1 ?_
  refine X_istoren hK (i := 3) [(3, .int (iI 0)), (0, .ref a0), (1, .int (iI x1)), (2, .ref a2)] kd41_6.2.1 rfl (by decide) rfl ?_
  have P219 : ∀ (nP219 : Nat) (S181 : xT) (_ : xLe S S181) (_ : xNw2 S S181 [10403]) (g183 : xG) (_ : xM [(200, 0), (200, 2), (10403, 0), (200, 1), (12000, 0), (6, 5), (6, 7), (6, 6), (2, 8), (2, 9), (2, 10), (1, 5)] S g2 g183) (_ : xLs S181 g183) (dcS181 dsS181 : Nat) (_ : xQk S181 g183 w3 (c9 + dcS181) (s9 + dsS181)) (z182 : Int) (_ : 0 ≤ z182) (_ : z182 ≤ 200) (_ : 216 - z182 < (nP219 : Int)), X K E 6 [(3, .int (iI z182)), (0, .ref a0), (1, .int (iI x1)), (2, .ref a2)] [] S181 g183 dcS181 dsS181 := by
    intro nP219
    induction nP219 with
    | zero => intro S181 qS181 wS181 g183 hg183 AS181 dcS181 dsS181 QS181 z182 lz182 uz182 mP219; exact False.elim (by omega)
    | succ nP219 ihP219 =>
      intro S181 qS181 wS181 g183 hg183 AS181 dcS181 dsS181 QS181 z182 lz182 uz182 mP219
      have qlS181 := xQk.le QS181
      refine X_iloadn hK (i := 3) 0 kd41_6.2.2.1 rfl rfl ?_
      refine X_aloadn hK (i := 0) 1 kd41_6.2.2.2.1 rfl rfl ?_
      refine X_getr hK 100 0 fl_X5_25_6 (qS181 _ _ hs_a0) sl_6_2 kd41_6.2.2.2.2.1 (fun b220 eb220 hs_b220 => ?_)
      refine X_know hs_b220 (by decide) sl_100_2 (fun z221 ez221 lz221 uz221 => ?_)
      refine X_callV hK [] [.int (iI z182)] lk_X5_45 (c_size_100 _ _ _ _ _ S181 g183 b220 z221 hs_b220 (by omega) ez221 AS181) hs_b220 ⟨by decide, rfl⟩ kd41_6.2.2.2.2.2.1 rfl rfl (by simp [Value.category]) (by decide) (by omega) (by omega) (by decide) (fun r222 S224 g223 pr222 qr222 hg223 => ?_)
      obtain ⟨rfl, rfl, z225, rfl, lz225, uz225, k226⟩ := pr222
      refine X_st [.int (iI z225), .int (iI z182)] rfl ?_
      refine X_icmp_ge hK 78 (by omega) (by omega) kd41_6.2.2.2.2.2.2.1 (by decide) (fun c227 => ?_) (fun c227 => ?_)
      · exact hret _ _ _ _ _ _ kd41_9.1 ⟨(xNw2.tr xNw2.rf wS181 (by decide)), rfl, AS181, (xSi.nw hp1 wS181 (by decide)), (xQk.cg QS181 (by omega) (by omega)), (xQk.le (xQk.cg QS181 (by omega) (by omega)))⟩ (by omega) (by omega)
      · refine X_aloadn hK (i := 0) 1 kd41_6.2.2.2.2.2.2.2.1 rfl rfl ?_
        refine X_getK hK fl_X5_25_6 (qS181 _ _ hs_a0) eb220 kd41_6.2.2.2.2.2.2.2.2.1 ?_
        refine X_iloadn hK (i := 3) 0 kd41_6.2.2.2.2.2.2.2.2.2.1 rfl rfl ?_
        refine X_callV hK [.int (iI z182)] [] lk_X5_119 (c_get_100 _ _ _ _ _ S181 g183 b220 z182 z221 hs_b220 (by omega) (by omega) ez221 AS181 (by omega)) hs_b220 ⟨by decide, rfl⟩ kd41_6.2.2.2.2.2.2.2.2.2.2.1 rfl rfl (by simp [Value.category]) (by decide) (by omega) (by omega) (by decide) (fun r228 S230 g229 pr228 qr228 hg229 => ?_)
        obtain ⟨rfl, rfl, b231, rfl, hs_b231⟩ := pr228
        refine X_st [.ref b231] rfl ?_
        refine X_cast hK hs_b231 ⟨by decide, rfl⟩ m_38_23 kd41_6.2.2.2.2.2.2.2.2.2.2.2 ?_
        refine X_geti hK fl_X5_61_2 hs_b231 sl_2_5 kd41_7.1 (fun z232 ez232 lz232 uz232 => ?_)
        refine X_istore hK (i := 4) [(4, .int (iI z232)), (3, .int (iI z182)), (0, .ref a0), (1, .int (iI x1)), (2, .ref a2)] kd41_7.2.1 (by decide) rfl ?_
        refine X_iload hK (i := 4) 0 kd41_7.2.2.1 rfl ?_
        refine X_iloadn hK (i := 1) 3 kd41_7.2.2.2.1 rfl rfl ?_
        refine X_icmp_ge hK 72 (by omega) (by omega) kd41_7.2.2.2.2.1 (by decide) (fun c233 => ?_) (fun c233 => ?_)
        · refine X_iinc hK (i := 3) (z := z182) (n := 1) 1 [(3, .int (iI (z182 + 1))), (4, .int (iI z232)), (0, .ref a0), (1, .int (iI x1)), (2, .ref a2)] kd41_8.2.2.2.2.2.2.2.2.2.2.1 rfl (by decide) rfl ?_
          refine X_goto hK 6 kd41_8.2.2.2.2.2.2.2.2.2.2.2 (by decide) ?_
          refine X_lv [(3, .int (iI (z182 + 1))), (0, .ref a0), (1, .int (iI x1)), (2, .ref a2)] [0, 2, 3, 4] rfl ?_
          exact ihP219  S181 qS181 (xNw2.tr xNw2.rf wS181 (by decide)) g183 (xM.tr xM.rf xLe.rf hg183 (by decide)) AS181 dcS181 dsS181 (xQk.cg QS181 (by omega) (by omega)) (z182 + 1) (by omega) (by omega) (by omega)
        · refine X_iloadn hK (i := 3) 1 kd41_7.2.2.2.2.2.1 rfl rfl ?_
          refine X_if_eq hK 64 (by omega) kd41_7.2.2.2.2.2.2.1 (by decide) (fun c234 => ?_) (fun c234 => ?_)
          · refine X_aloadn hK (i := 0) 2 kd41_8.2.2.2.2.2.1 rfl rfl ?_
            refine X_iload hK (i := 4) 0 kd41_8.2.2.2.2.2.2.1 rfl ?_
            refine X_aloadn hK (i := 2) 4 kd41_8.2.2.2.2.2.2.2.1 rfl rfl ?_
            refine X_iconst hK kd41_8.2.2.2.2.2.2.2.2.1 ?_
            refine X_callVU hK [.int (iI z232), .ref a2, .int (iI 0)] [] lk_X5_123 (c_X5_cryDay _ _ _ _ _ S181 g183 a0 z232 a2 0 w3 (c9 + dcS181) (s9 + dsS181) (qS181 _ _ hs_a0) (by omega) (qS181 _ _ hs_a2) (by omega) ((hg183 a0 6 0 3 hs_a0 (by decide)).trans ((hg2 a0 6 0 3 hs_a0 (by decide)).trans ew3)) (qS181 _ _ hs_w3) AS181 (xSi.nw hp1 wS181 (by decide)) QS181) (qS181 _ _ hs_a0) ⟨by decide, rfl⟩ kd41_8.2.2.2.2.2.2.2.2.2.1 rfl rfl (by simp [Value.category]) (by decide) (by omega) (by omega) (by decide) (fun r235 S237 g236 dcr235 dsr235 pr235 qr235 hg236 => ?_)
            obtain ⟨wr235, rfl, k238, k239, k240, k241⟩ := pr235
            refine X_st [] rfl ?_
            refine X_iinc hK (i := 3) (z := z182) (n := 1) 1 [(3, .int (iI (z182 + 1))), (4, .int (iI z232)), (0, .ref a0), (1, .int (iI x1)), (2, .ref a2)] kd41_8.2.2.2.2.2.2.2.2.2.2.1 rfl (by decide) rfl ?_
            refine X_goto hK 6 kd41_8.2.2.2.2.2.2.2.2.2.2.2 (by decide) ?_
            refine X_lv [(3, .int (iI (z182 + 1))), (0, .ref a0), (1, .int (iI x1)), (2, .ref a2)] [0, 2, 3, 4] rfl ?_
            exact ihP219  S237 (xLe.tr qS181 qr235) (xNw2.tr (xNw2.tr xNw2.rf wS181 (by decide)) wr235 (by decide)) g236 (xM.tr (xM.tr xM.rf xLe.rf hg183 (by decide)) qS181 hg236 (by decide)) k238 (dcS181 + dcr235) (dsS181 + dsr235) (xQk.cg k240 (by omega) (by omega)) (z182 + 1) (by omega) (by omega) (by omega)
          · refine X_aloadn hK (i := 0) 2 kd41_7.2.2.2.2.2.2.2.1 rfl rfl ?_
            refine X_getK hK fl_X5_25_6 (qS181 _ _ hs_a0) eb220 kd41_7.2.2.2.2.2.2.2.2.1 ?_
            refine X_iloadn hK (i := 3) 1 kd41_7.2.2.2.2.2.2.2.2.2.1 rfl rfl ?_
            refine X_iconst hK kd41_7.2.2.2.2.2.2.2.2.2.2.1 ?_
            refine X_isub hK kd41_7.2.2.2.2.2.2.2.2.2.2.2 ?_
            refine X_callV hK [.int (iI (z182 - 1))] [] lk_X5_119 (c_get_100 _ _ _ _ _ S181 g183 b220 (z182 - 1) z221 hs_b220 (by omega) (by omega) ez221 AS181 (by omega)) hs_b220 ⟨by decide, rfl⟩ kd41_8.1 rfl rfl (by simp [Value.category]) (by decide) (by omega) (by omega) (by decide) (fun r242 S244 g243 pr242 qr242 hg243 => ?_)
            obtain ⟨rfl, rfl, b245, rfl, hs_b245⟩ := pr242
            refine X_st [.ref b245] rfl ?_
            refine X_cast hK hs_b245 ⟨by decide, rfl⟩ m_38_23 kd41_8.2.1 ?_
            refine X_geti hK fl_X5_61_2 hs_b245 sl_2_5 kd41_8.2.2.1 (fun z246 ez246 lz246 uz246 => ?_)
            refine X_iload hK (i := 4) 0 kd41_8.2.2.2.1 rfl ?_
            refine X_icmp_eq hK 72 (by omega) (by omega) kd41_8.2.2.2.2.1 (by decide) (fun c247 => ?_) (fun c247 => ?_)
            · refine X_iinc hK (i := 3) (z := z182) (n := 1) 1 [(3, .int (iI (z182 + 1))), (4, .int (iI z232)), (0, .ref a0), (1, .int (iI x1)), (2, .ref a2)] kd41_8.2.2.2.2.2.2.2.2.2.2.1 rfl (by decide) rfl ?_
              refine X_goto hK 6 kd41_8.2.2.2.2.2.2.2.2.2.2.2 (by decide) ?_
              refine X_lv [(3, .int (iI (z182 + 1))), (0, .ref a0), (1, .int (iI x1)), (2, .ref a2)] [0, 2, 3, 4] rfl ?_
              exact ihP219  S181 qS181 (xNw2.tr xNw2.rf wS181 (by decide)) g183 (xM.tr xM.rf xLe.rf hg183 (by decide)) AS181 dcS181 dsS181 (xQk.cg QS181 (by omega) (by omega)) (z182 + 1) (by omega) (by omega) (by omega)
            · refine X_aloadn hK (i := 0) 2 kd41_8.2.2.2.2.2.1 rfl rfl ?_
              refine X_iload hK (i := 4) 0 kd41_8.2.2.2.2.2.2.1 rfl ?_
              refine X_aloadn hK (i := 2) 4 kd41_8.2.2.2.2.2.2.2.1 rfl rfl ?_
              refine X_iconst hK kd41_8.2.2.2.2.2.2.2.2.1 ?_
              refine X_callVU hK [.int (iI z232), .ref a2, .int (iI 0)] [] lk_X5_123 (c_X5_cryDay _ _ _ _ _ S181 g183 a0 z232 a2 0 w3 (c9 + dcS181) (s9 + dsS181) (qS181 _ _ hs_a0) (by omega) (qS181 _ _ hs_a2) (by omega) ((hg183 a0 6 0 3 hs_a0 (by decide)).trans ((hg2 a0 6 0 3 hs_a0 (by decide)).trans ew3)) (qS181 _ _ hs_w3) AS181 (xSi.nw hp1 wS181 (by decide)) QS181) (qS181 _ _ hs_a0) ⟨by decide, rfl⟩ kd41_8.2.2.2.2.2.2.2.2.2.1 rfl rfl (by simp [Value.category]) (by decide) (by omega) (by omega) (by decide) (fun r248 S250 g249 dcr248 dsr248 pr248 qr248 hg249 => ?_)
              obtain ⟨wr248, rfl, k251, k252, k253, k254⟩ := pr248
              refine X_st [] rfl ?_
              refine X_iinc hK (i := 3) (z := z182) (n := 1) 1 [(3, .int (iI (z182 + 1))), (4, .int (iI z232)), (0, .ref a0), (1, .int (iI x1)), (2, .ref a2)] kd41_8.2.2.2.2.2.2.2.2.2.2.1 rfl (by decide) rfl ?_
              refine X_goto hK 6 kd41_8.2.2.2.2.2.2.2.2.2.2.2 (by decide) ?_
              refine X_lv [(3, .int (iI (z182 + 1))), (0, .ref a0), (1, .int (iI x1)), (2, .ref a2)] [0, 2, 3, 4] rfl ?_
              exact ihP219  S250 (xLe.tr qS181 qr248) (xNw2.tr (xNw2.tr xNw2.rf wS181 (by decide)) wr248 (by decide)) g249 (xM.tr (xM.tr xM.rf xLe.rf hg183 (by decide)) qS181 hg249 (by decide)) k251 (dcS181 + dcr248) (dsS181 + dsr248) (xQk.cg k253 (by omega) (by omega)) (z182 + 1) (by omega) (by omega) (by omega)
  exact P219 ((216 - 0 : Int).toNat + 1) S xLe.rf xNw2.rf g2 xM.rf (xLs_mod hp0 hg2 (by decide)) 0 0 (xQk.cg (xQk_mod hp2 hs_w3 hg2 (by decide)) (by omega) (by omega)) 0 (by omega) (by omega) (by omega)

set_option maxHeartbeats 4000000 in
set_option maxRecDepth 100000 in
theorem c_X11_close (l : Launch) (D : va_G) (kA : Nat → ClassId) (b0 : Nat) (t0 : Nat → Nat) (S : xT) (g : xG) (a0 : Nat) (td : Int) (hs_a0 : S a0 = some (12, 0)) (htd : 0 ≤ td ∧ td ≤ 400) (etd : g a0 12 = .int (iI td)) (hp0 : xLs S g) (hp1 : xSi S t0) : xMu l yX11_close cX11_close 1 (some .int) 9 10 962 217 D kA b0 t0 [(6, 5), (6, 6), (6, 7), (200, 0), (200, 2), (10403, 0), (200, 1), (12000, 0), (2, 8), (2, 9), (2, 10), (1, 5), (12, 12)] [.ref a0] S g (fun (r : Option Value) (S1 : xT) (g1 : xG) (dc ds : Nat) => xNw2 S S1 [10403] ∧ ∃ z : Int, r = some (.int (iI z)) ∧ (-2147483648) ≤ z ∧ z ≤ 2147483647 ∧ (xLs S1 g1) ∧ (xSi S1 t0) ∧ (dc ≤ 9 ∧ ds ≤ 718) ∧ (g1 a0 12 = .int (iI (if td < 400 then td + 1 else td)))) := by
  refine xEnterUI (by decide) (by simp [lg_sl, Value.category]) [(0, .ref a0)] rfl ?_
  intro K E hK hret hS0 _ hini ht
  subst ht
  refine X_aloadn hK (i := 0) 0 kd41_0.1 rfl rfl ?_
  refine X_getK hK fl_X11_83_12 hs_a0 etd kd41_0.2.1 ?_
  refine X_sipush hK kd41_0.2.2.1 (by decide) ?_
  refine X_icmp_lt hK 12 (by omega) (by omega) kd41_0.2.2.2.1 (by decide) (fun c1 => ?_) (fun c1 => ?_)
  · refine X_aloadn hK (i := 0) 0 kd41_0.2.2.2.2.2.2.1 rfl rfl ?_
    refine X_getr hK 6 0 fl_X11_19_12 hs_a0 sl_12_1 kd41_0.2.2.2.2.2.2.2.1 (fun b2 eb2 hs_b2 => ?_)
    refine X_callV hK [] [] lk_X11_242 (c_X5_startSums _ _ _ _ _ S g b2 hs_b2) hs_b2 ⟨by decide, rfl⟩ kd41_0.2.2.2.2.2.2.2.2.1 rfl rfl (by simp [Value.category]) (by decide) (by omega) (by omega) (by decide) (fun r3 S5 g4 pr3 qr3 hg4 => ?_)
    obtain ⟨rfl, rfl⟩ := pr3
    refine X_st [] rfl ?_
    refine X_aloadn hK (i := 0) 0 kd41_0.2.2.2.2.2.2.2.2.2.1 rfl rfl ?_
    refine X_getK hK fl_X11_19_12 hs_a0 ((hg4 a0 12 0 1 hs_a0 (by decide)).trans eb2) kd41_0.2.2.2.2.2.2.2.2.2.2.1 ?_
    refine X_aloadn hK (i := 0) 0 kd41_0.2.2.2.2.2.2.2.2.2.2.2 rfl rfl ?_
    refine X_getK hK fl_X11_83_12 hs_a0 ((hg4 a0 12 0 12 hs_a0 (by decide)).trans etd) kd41_1.1 ?_
    refine X_aloadn hK (i := 0) 0 kd41_1.2.1 rfl rfl ?_
    refine X_aloadn hK (i := 0) 0 kd41_1.2.2.1 rfl rfl ?_
    refine X_getK hK fl_X11_83_12 hs_a0 ((hg4 a0 12 0 12 hs_a0 (by decide)).trans etd) kd41_1.2.2.2.1 ?_
    refine X_callV hK [.int (iI td)] [.int (iI td), .ref b2] lk_X11_213 (c_X11_inForce _ _ _ _ _ S g4 a0 td hs_a0 (by omega) (xLs_mod hp0 hg4 (by decide))) hs_a0 ⟨by decide, rfl⟩ kd41_1.2.2.2.2.1 rfl rfl (by simp [Value.category]) (by decide) (by omega) (by omega) (by decide) (fun r6 S8 g7 pr6 qr6 hg7 => ?_)
    obtain ⟨rfl, rfl, b9, rfl, hs_b9⟩ := pr6
    refine X_st [.ref b9, .int (iI td), .ref b2] rfl ?_
    refine X_iconst hK kd41_1.2.2.2.2.2.1 ?_
    refine X_knowr 200 0 hs_b2 (by decide) sl_6_3 (fun b10 eb10 hs_b10 => ?_)
    refine X_callVU hK [.int (iI td), .ref b9, .int (iI 1)] [] lk_X11_245 (c_X5_cryDay _ _ _ _ _ S g4 b2 td b9 1 b10 0 0 hs_b2 (by omega) hs_b9 (by omega) eb10 hs_b10 (xLs_mod hp0 hg4 (by decide)) hp1 (xQk_0 (xLs_mod hp0 hg4 (by decide)) hs_b10)) hs_b2 ⟨by decide, rfl⟩ kd41_1.2.2.2.2.2.2.1 rfl rfl (by simp [Value.category]) (by decide) (by omega) (by omega) (by decide) (fun r11 S13 g12 dcr11 dsr11 pr11 qr11 hg12 => ?_)
    obtain ⟨wr11, rfl, k14, k15, k16, k17⟩ := pr11
    refine X_st [] rfl ?_
    refine X_aloadn hK (i := 0) 0 kd41_1.2.2.2.2.2.2.2.1 rfl rfl ?_
    refine X_dup hK kd41_1.2.2.2.2.2.2.2.2.1 rfl ?_
    refine X_getK hK fl_X11_83_12 (qr11 _ _ hs_a0) ((hg12 a0 12 0 12 hs_a0 (by decide)).trans ((hg4 a0 12 0 12 hs_a0 (by decide)).trans etd)) kd41_1.2.2.2.2.2.2.2.2.2.1 ?_
    refine X_iconst hK kd41_1.2.2.2.2.2.2.2.2.2.2.1 ?_
    refine X_iadd hK kd41_1.2.2.2.2.2.2.2.2.2.2.2 ?_
    refine X_puti hK fl_X11_83_12 (qr11 _ _ hs_a0) (by decide) sl_12_12 (by omega) (by omega) kd41_2.1 (fun g18 hg18 => ?_)
    refine X_aloadn hK (i := 0) 0 kd41_2.2.1 rfl rfl ?_
    refine X_getK hK fl_X11_19_12 (qr11 _ _ hs_a0) ((xs_k hg18 (by decide)).trans ((hg12 a0 12 0 1 hs_a0 (by decide)).trans ((hg4 a0 12 0 1 hs_a0 (by decide)).trans eb2))) kd41_2.2.2.1 ?_
    refine X_geti hK fl_X11_249_6 (qr11 _ _ hs_b2) sl_6_5 kd41_2.2.2.2.1 (fun z19 ez19 lz19 uz19 => ?_)
    exact hret _ _ _ _ _ _ _ kd41_2.2.2.2.2.1 ⟨(xNw2.tr xNw2.rf wr11 (by decide)), z19, rfl, (by omega), (by omega), (xLs_up k14 hg18 (qr11 _ _ hs_a0) (by decide)), k15, (by omega), ((xs_s hg18).trans (by congr 2 <;> omega))⟩ (by omega) (by omega)
  · refine X_iconst hK kd41_0.2.2.2.2.1 ?_
    exact hret _ _ _ _ _ _ _ kd41_0.2.2.2.2.2.1 ⟨xNw2.rf, (-1), rfl, (by omega), (by omega), hp0, hp1, (by omega), (etd.trans (by congr 2 <;> omega))⟩ (by omega) (by omega)

set_option maxHeartbeats 4000000 in
set_option maxRecDepth 100000 in
theorem c_X11_tried (l : Launch) (D : va_G) (kA : Nat → ClassId) (b0 : Nat) (t0 : Nat → Nat) (S : xT) (g : xG) (a0 : Nat) (w0 : Nat) (n0 : Int) (hs_a0 : S a0 = some (12, 0)) (ew0 : g a0 0 = .ref w0) (hs_w0 : S w0 = some (10, 0)) (hn0 : 0 ≤ n0 ∧ n0 ≤ 420) (en0 : g w0 1 = .int (iI n0)) (hp0 : xLs S g) (hp1 : xSi S t0) : xMu l yX11_tried cX11_tried 1 (some .int) 36 19 1680 838 D kA b0 t0 [(12900, 0), (13000, 0), (8, 2), (8, 3), (8, 4), (8, 5), (8, 6), (11, 1), (11, 2), (14000, 0), (13600, 0), (13700, 0), (13800, 0), (13900, 0), (12, 13), (10, 1), (6, 5), (6, 6), (6, 7), (200, 0), (200, 2), (10403, 0), (200, 1), (12000, 0), (2, 8), (2, 9), (2, 10), (1, 5), (12, 15)] [.ref a0] S g (fun (r : Option Value) (S1 : xT) (g1 : xG) (dc ds : Nat) => xNw2 S S1 [10403] ∧ ∃ z : Int, r = some (.int (iI z)) ∧ (-2147483648) ≤ z ∧ z ≤ 2147483647 ∧ (xLs S1 g1) ∧ (xSi S1 t0) ∧ (dc ≤ 9 ∧ ds ≤ 718) ∧ (g1 w0 1 = .int (iI (0)))) := by
  refine xEnterUI (by decide) (by simp [lg_sl, Value.category]) [(0, .ref a0)] rfl ?_
  intro K E hK hret hS0 _ hini ht
  subst ht
  refine X_aloadn hK (i := 0) 0 kd41_2.2.2.2.2.2.1 rfl rfl ?_
  refine X_getr hK 8 0 fl_X11_52_12 hs_a0 sl_12_6 kd41_2.2.2.2.2.2.2.1 (fun b1 eb1 hs_b1 => ?_)
  refine X_aloadn hK (i := 0) 0 kd41_2.2.2.2.2.2.2.2.1 rfl rfl ?_
  refine X_getK hK fl_X11_10_12 hs_a0 ew0 kd41_2.2.2.2.2.2.2.2.2.1 ?_
  refine X_aloadn hK (i := 0) 0 kd41_2.2.2.2.2.2.2.2.2.2.1 rfl rfl ?_
  refine X_getr hK 11 0 fl_X11_56_12 hs_a0 sl_12_7 kd41_2.2.2.2.2.2.2.2.2.2.2.1 (fun b2 eb2 hs_b2 => ?_)
  refine X_callV hK [.ref w0, .ref b2] [] lk_X11_193 (c_X7_read _ _ _ _ _ S g b1 w0 b2 hs_b1 hs_w0 hs_b2) hs_b1 ⟨by decide, rfl⟩ kd41_2.2.2.2.2.2.2.2.2.2.2.2 rfl rfl (by simp [Value.category]) (by decide) (by omega) (by omega) (by decide) (fun r3 S5 g4 pr3 qr3 hg4 => ?_)
  obtain ⟨rfl, rfl⟩ := pr3
  refine X_st [] rfl ?_
  refine X_aloadn hK (i := 0) 0 kd41_3.1 rfl rfl ?_
  refine X_aloadn hK (i := 0) 0 kd41_3.2.1 rfl rfl ?_
  refine X_getK hK fl_X11_52_12 hs_a0 ((hg4 a0 12 0 6 hs_a0 (by decide)).trans eb1) kd41_3.2.2.1 ?_
  refine X_geti hK fl_X11_197_8 hs_b1 sl_8_5 kd41_3.2.2.2.1 (fun z6 ez6 lz6 uz6 => ?_)
  refine X_puti hK fl_X11_87_12 hs_a0 (by decide) sl_12_13 (by omega) (by omega) kd41_3.2.2.2.2.1 (fun g7 hg7 => ?_)
  refine X_aloadn hK (i := 0) 0 kd41_3.2.2.2.2.2.1 rfl rfl ?_
  refine X_getK hK fl_X11_10_12 hs_a0 ((xs_k hg7 (by decide)).trans ((hg4 a0 12 0 0 hs_a0 (by decide)).trans ew0)) kd41_3.2.2.2.2.2.2.1 ?_
  refine X_iconst hK kd41_3.2.2.2.2.2.2.2.1 ?_
  refine X_puti hK fl_X11_102_10 hs_w0 (by decide) sl_10_1 (by omega) (by omega) kd41_3.2.2.2.2.2.2.2.2.1 (fun g8 hg8 => ?_)
  refine X_aloadn hK (i := 0) 0 kd41_3.2.2.2.2.2.2.2.2.2.1 rfl rfl ?_
  refine X_getK hK fl_X11_87_12 hs_a0 ((xs_k hg8 (by decide)).trans (xs_s hg7)) kd41_3.2.2.2.2.2.2.2.2.2.2.1 ?_
  refine X_if_eq hK 53 (by omega) kd41_3.2.2.2.2.2.2.2.2.2.2.2 (by decide) (fun c9 => ?_) (fun c9 => ?_)
  · refine X_aloadn hK (i := 0) 0 kd41_4.2.2.2.2.2.2.1 rfl rfl ?_
    refine X_getr hK 6 0 fl_X11_19_12 hs_a0 sl_12_1 kd41_4.2.2.2.2.2.2.2.1 (fun b10 eb10 hs_b10 => ?_)
    refine X_aloadn hK (i := 0) 0 kd41_4.2.2.2.2.2.2.2.2.1 rfl rfl ?_
    refine X_geti hK fl_X11_83_12 hs_a0 sl_12_12 kd41_4.2.2.2.2.2.2.2.2.2.1 (fun z11 ez11 lz11 uz11 => ?_)
    refine X_aloadn hK (i := 0) 0 kd41_4.2.2.2.2.2.2.2.2.2.2.1 rfl rfl ?_
    refine X_getK hK fl_X11_56_12 hs_a0 ((xs_k hg8 (by decide)).trans ((xs_k hg7 (by decide)).trans ((hg4 a0 12 0 7 hs_a0 (by decide)).trans eb2))) kd41_4.2.2.2.2.2.2.2.2.2.2.2 ?_
    refine X_knowr 200 0 hs_b10 (by decide) sl_6_3 (fun b12 eb12 hs_b12 => ?_)
    refine X_callVU hK [.int (iI z11), .ref b2] [] lk_X11_308 (c_X5_cryClosed _ _ _ _ _ S g8 b10 z11 b2 b12 0 0 hs_b10 (by omega) hs_b2 eb12 hs_b12 (xLs_up (xLs_up (xLs_mod hp0 hg4 (by decide)) hg7 hs_a0 (by decide)) hg8 hs_w0 (by decide)) hp1 (xQk_0 (xLs_up (xLs_up (xLs_mod hp0 hg4 (by decide)) hg7 hs_a0 (by decide)) hg8 hs_w0 (by decide)) hs_b12)) hs_b10 ⟨by decide, rfl⟩ kd41_5.1 rfl rfl (by simp [Value.category]) (by decide) (by omega) (by omega) (by decide) (fun r13 S15 g14 dcr13 dsr13 pr13 qr13 hg14 => ?_)
    obtain ⟨wr13, rfl, k16, k17, k18, k19⟩ := pr13
    refine X_st [] rfl ?_
    refine X_aloadn hK (i := 0) 0 kd41_5.2.1 rfl rfl ?_
    refine X_aloadn hK (i := 0) 0 kd41_5.2.2.1 rfl rfl ?_
    refine X_getK hK fl_X11_19_12 (qr13 _ _ hs_a0) ((hg14 a0 12 0 1 hs_a0 (by decide)).trans eb10) kd41_5.2.2.2.1 ?_
    refine X_geti hK fl_X11_312_6 (qr13 _ _ hs_b10) sl_6_7 kd41_5.2.2.2.2.1 (fun z20 ez20 lz20 uz20 => ?_)
    refine X_puti hK fl_X11_93_12 (qr13 _ _ hs_a0) (by decide) sl_12_15 (by omega) (by omega) kd41_5.2.2.2.2.2.1 (fun g21 hg21 => ?_)
    refine X_aloadn hK (i := 0) 0 kd41_5.2.2.2.2.2.2.1 rfl rfl ?_
    refine X_getK hK fl_X11_19_12 (qr13 _ _ hs_a0) ((xs_k hg21 (by decide)).trans ((hg14 a0 12 0 1 hs_a0 (by decide)).trans eb10)) kd41_5.2.2.2.2.2.2.2.1 ?_
    refine X_geti hK fl_X11_315_6 (qr13 _ _ hs_b10) sl_6_6 kd41_5.2.2.2.2.2.2.2.2.1 (fun z22 ez22 lz22 uz22 => ?_)
    exact hret _ _ _ _ _ _ _ kd41_5.2.2.2.2.2.2.2.2.2.1 ⟨(xNw2.tr xNw2.rf wr13 (by decide)), z22, rfl, (by omega), (by omega), (xLs_up k16 hg21 (qr13 _ _ hs_a0) (by decide)), k17, (by omega), (((xs_k hg21 (by decide)).trans ((hg14 w0 10 0 1 hs_w0 (by decide)).trans (xs_s hg8))).trans (by congr 2 <;> omega))⟩ (by omega) (by omega)
  · refine X_ldcw hK (n := -1000000000) kd41_4.1 m_47_18 (by decide) ?_
    refine X_aloadn hK (i := 0) 0 kd41_4.2.1 rfl rfl ?_
    refine X_getK hK fl_X11_52_12 hs_a0 ((xs_k hg8 (by decide)).trans ((xs_k hg7 (by decide)).trans ((hg4 a0 12 0 6 hs_a0 (by decide)).trans eb1))) kd41_4.2.2.1 ?_
    refine X_geti hK fl_X11_202_8 hs_b1 sl_8_6 kd41_4.2.2.2.1 (fun z23 ez23 lz23 uz23 => ?_)
    refine X_isub hK kd41_4.2.2.2.2.1 ?_
    exact hret _ _ _ _ _ _ _ kd41_4.2.2.2.2.2.1 ⟨xNw2.rf, ((-1000000000) - z23), rfl, (by omega), (by omega), (xLs_up (xLs_up (xLs_mod hp0 hg4 (by decide)) hg7 hs_a0 (by decide)) hg8 hs_w0 (by decide)), hp1, (by omega), ((xs_s hg8).trans (by congr 2 <;> omega))⟩ (by omega) (by omega)
