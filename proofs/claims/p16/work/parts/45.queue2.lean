theorem m_4_3 : Cond.fieldLink RX5 28 "PaperBoys$Market" "queue" "Ljava/util/ArrayList;" ∈ wsL_law := ch_4 _ (List.mem_of_getElem? (i := 3) rfl)
theorem m_38_14 : Cond.fieldLink RX11 249 "PaperBoys$Market" "soldSum" "I" ∈ wsL_law := ch_38 _ (List.mem_of_getElem? (i := 14) rfl)
theorem m_38_15 : Cond.methodLink RX11 242 yX5_startSums ∈ wsL_law := ch_38 _ (List.mem_of_getElem? (i := 15) rfl)
theorem m_38_16 : Cond.instanceMethod yX5_startSums ∈ wsL_law := ch_38 _ (List.mem_of_getElem? (i := 16) rfl)
theorem m_38_17 : Cond.selects RX5 yX5_startSums yX5_startSums ∈ wsL_law := ch_38 _ (List.mem_of_getElem? (i := 17) rfl)
theorem m_38_18 : Cond.code yX5_startSums cX5_startSums 1 none ∈ wsL_law := ch_38 _ (List.mem_of_getElem? (i := 18) rfl)
theorem m_38_19 : Cond.methodLink RX11 245 yX5_cryDay ∈ wsL_law := ch_38 _ (List.mem_of_getElem? (i := 19) rfl)
theorem m_38_20 : Cond.instanceMethod yX5_cryDay ∈ wsL_law := ch_38 _ (List.mem_of_getElem? (i := 20) rfl)
theorem m_38_21 : Cond.selects RX5 yX5_cryDay yX5_cryDay ∈ wsL_law := ch_38 _ (List.mem_of_getElem? (i := 21) rfl)
theorem m_38_22 : Cond.code yX5_cryDay cX5_cryDay 7 none ∈ wsL_law := ch_38 _ (List.mem_of_getElem? (i := 22) rfl)
theorem m_39_1 : Cond.methodLink RX5 127 yX5_lineUp ∈ wsL_law := ch_39 _ (List.mem_of_getElem? (i := 1) rfl)
theorem m_39_2 : Cond.instanceMethod yX5_lineUp ∈ wsL_law := ch_39 _ (List.mem_of_getElem? (i := 2) rfl)
theorem m_39_3 : Cond.selects RX5 yX5_lineUp yX5_lineUp ∈ wsL_law := ch_39 _ (List.mem_of_getElem? (i := 3) rfl)
theorem m_39_4 : Cond.code yX5_lineUp cX5_lineUp 5 none ∈ wsL_law := ch_39 _ (List.mem_of_getElem? (i := 4) rfl)
theorem m_39_5 : Cond.methodLink RX5 162 yJx4a65c_clear_da8c8 ∈ wsL_law := ch_39 _ (List.mem_of_getElem? (i := 5) rfl)
theorem m_39_6 : Cond.instanceMethod yJx4a65c_clear_da8c8 ∈ wsL_law := ch_39 _ (List.mem_of_getElem? (i := 6) rfl)
theorem m_39_7 : Cond.selects RJx4a65c yJx4a65c_clear_da8c8 yJx4a65c_clear_da8c8 ∈ wsL_law := ch_39 _ (List.mem_of_getElem? (i := 7) rfl)
theorem m_39_8 : Cond.code yJx4a65c_clear_da8c8 cJx4a65c_clear_da8c8 4 none ∈ wsL_law := ch_39 _ (List.mem_of_getElem? (i := 8) rfl)
theorem m_39_10 : Cond.methodLink RX5 165 yX5_isAhead ∈ wsL_law := ch_39 _ (List.mem_of_getElem? (i := 10) rfl)
theorem m_39_11 : Cond.instanceMethod yX5_isAhead ∈ wsL_law := ch_39 _ (List.mem_of_getElem? (i := 11) rfl)
theorem m_39_12 : Cond.selects RX5 yX5_isAhead yX5_isAhead ∈ wsL_law := ch_39 _ (List.mem_of_getElem? (i := 12) rfl)
theorem m_39_13 : Cond.code yX5_isAhead cX5_isAhead 3 (some .boolean) ∈ wsL_law := ch_39 _ (List.mem_of_getElem? (i := 13) rfl)
theorem m_39_14 : Cond.methodLink RX5 169 yJx4a65c_add_7a177 ∈ wsL_law := ch_39 _ (List.mem_of_getElem? (i := 14) rfl)
theorem m_39_15 : Cond.instanceMethod yJx4a65c_add_7a177 ∈ wsL_law := ch_39 _ (List.mem_of_getElem? (i := 15) rfl)
theorem m_39_16 : Cond.selects RJx4a65c yJx4a65c_add_7a177 yJx4a65c_add_7a177 ∈ wsL_law := ch_39 _ (List.mem_of_getElem? (i := 16) rfl)
theorem m_39_17 : Cond.code yJx4a65c_add_7a177 cJx4a65c_add_7a177 5 none ∈ wsL_law := ch_39 _ (List.mem_of_getElem? (i := 17) rfl)
theorem m_39_23 : Cond.methodLink RX5 134 yX3_askedOn ∈ wsL_law := ch_39 _ (List.mem_of_getElem? (i := 23) rfl)
theorem m_40_0 : Cond.instanceMethod yX3_askedOn ∈ wsL_law := ch_40 _ (List.mem_of_getElem? (i := 0) rfl)
theorem m_40_1 : Cond.selects RX3 yX3_askedOn yX3_askedOn ∈ wsL_law := ch_40 _ (List.mem_of_getElem? (i := 1) rfl)
theorem m_40_2 : Cond.code yX3_askedOn cX3_askedOn 4 (some .int) ∈ wsL_law := ch_40 _ (List.mem_of_getElem? (i := 2) rfl)
theorem m_40_4 : Cond.methodLink RX5 138 yX5_cryBundle ∈ wsL_law := ch_40 _ (List.mem_of_getElem? (i := 4) rfl)
theorem m_40_5 : Cond.instanceMethod yX5_cryBundle ∈ wsL_law := ch_40 _ (List.mem_of_getElem? (i := 5) rfl)
theorem m_40_6 : Cond.selects RX5 yX5_cryBundle yX5_cryBundle ∈ wsL_law := ch_40 _ (List.mem_of_getElem? (i := 6) rfl)
theorem m_40_7 : Cond.code yX5_cryBundle cX5_cryBundle 10 (some .int) ∈ wsL_law := ch_40 _ (List.mem_of_getElem? (i := 7) rfl)
theorem m_47_18 : Cond.constant RX11 307 (-1000000000) ∈ wsL_law := ch_47 _ (List.mem_of_getElem? (i := 18) rfl)
theorem m_47_19 : Cond.fieldLink RX11 312 "PaperBoys$Market" "eatenSum" "I" ∈ wsL_law := ch_47 _ (List.mem_of_getElem? (i := 19) rfl)
theorem m_47_20 : Cond.fieldLink RX11 315 "PaperBoys$Market" "gainSum" "I" ∈ wsL_law := ch_47 _ (List.mem_of_getElem? (i := 20) rfl)
theorem m_47_21 : Cond.methodLink RX11 308 yX5_cryClosed ∈ wsL_law := ch_47 _ (List.mem_of_getElem? (i := 21) rfl)
theorem m_47_22 : Cond.instanceMethod yX5_cryClosed ∈ wsL_law := ch_47 _ (List.mem_of_getElem? (i := 22) rfl)
theorem m_47_23 : Cond.selects RX5 yX5_cryClosed yX5_cryClosed ∈ wsL_law := ch_47 _ (List.mem_of_getElem? (i := 23) rfl)
theorem m_48_0 : Cond.code yX5_cryClosed cX5_cryClosed 5 none ∈ wsL_law := ch_48 _ (List.mem_of_getElem? (i := 0) rfl)
theorem m_48_1 : Cond.methodLink RX5 116 yX5_startSums ∈ wsL_law := ch_48 _ (List.mem_of_getElem? (i := 1) rfl)
theorem m_48_2 : Cond.methodLink RX5 123 yX5_cryDay ∈ wsL_law := ch_48 _ (List.mem_of_getElem? (i := 2) rfl)
theorem dX11_close_0 : decode cX11_close 0 = .ok (.aload_n 0, 1) := by decide +kernel
theorem dX11_close_1 : decode cX11_close 1 = .ok (.getfield 83, 3) := by decide +kernel
theorem dX11_close_4 : decode cX11_close 4 = .ok (.sipush 400, 3) := by decide +kernel
theorem dX11_close_7 : decode cX11_close 7 = .ok (.if_icmp .lt 5, 3) := by decide +kernel
theorem dX11_close_10 : decode cX11_close 10 = .ok (.iconst (-1), 1) := by decide +kernel
theorem dX11_close_11 : decode cX11_close 11 = .ok (.ireturn, 1) := by decide +kernel
theorem dX11_close_12 : decode cX11_close 12 = .ok (.aload_n 0, 1) := by decide +kernel
theorem dX11_close_13 : decode cX11_close 13 = .ok (.getfield 19, 3) := by decide +kernel
theorem dX11_close_16 : decode cX11_close 16 = .ok (.invokevirtual 242, 3) := by decide +kernel
theorem dX11_close_19 : decode cX11_close 19 = .ok (.aload_n 0, 1) := by decide +kernel
theorem dX11_close_20 : decode cX11_close 20 = .ok (.getfield 19, 3) := by decide +kernel
theorem dX11_close_23 : decode cX11_close 23 = .ok (.aload_n 0, 1) := by decide +kernel
theorem dX11_close_24 : decode cX11_close 24 = .ok (.getfield 83, 3) := by decide +kernel
theorem dX11_close_27 : decode cX11_close 27 = .ok (.aload_n 0, 1) := by decide +kernel
theorem dX11_close_28 : decode cX11_close 28 = .ok (.aload_n 0, 1) := by decide +kernel
theorem dX11_close_29 : decode cX11_close 29 = .ok (.getfield 83, 3) := by decide +kernel
theorem dX11_close_32 : decode cX11_close 32 = .ok (.invokevirtual 213, 3) := by decide +kernel
theorem dX11_close_35 : decode cX11_close 35 = .ok (.iconst 1, 1) := by decide +kernel
theorem dX11_close_36 : decode cX11_close 36 = .ok (.invokevirtual 245, 3) := by decide +kernel
theorem dX11_close_39 : decode cX11_close 39 = .ok (.aload_n 0, 1) := by decide +kernel
theorem dX11_close_40 : decode cX11_close 40 = .ok (.dup, 1) := by decide +kernel
theorem dX11_close_41 : decode cX11_close 41 = .ok (.getfield 83, 3) := by decide +kernel
theorem dX11_close_44 : decode cX11_close 44 = .ok (.iconst 1, 1) := by decide +kernel
theorem dX11_close_45 : decode cX11_close 45 = .ok (.iadd, 1) := by decide +kernel
theorem dX11_close_46 : decode cX11_close 46 = .ok (.putfield 83, 3) := by decide +kernel
theorem dX11_close_49 : decode cX11_close 49 = .ok (.aload_n 0, 1) := by decide +kernel
theorem dX11_close_50 : decode cX11_close 50 = .ok (.getfield 19, 3) := by decide +kernel
theorem dX11_close_53 : decode cX11_close 53 = .ok (.getfield 249, 3) := by decide +kernel
theorem dX11_close_56 : decode cX11_close 56 = .ok (.ireturn, 1) := by decide +kernel
theorem dX11_tried_0 : decode cX11_tried 0 = .ok (.aload_n 0, 1) := by decide +kernel
theorem dX11_tried_1 : decode cX11_tried 1 = .ok (.getfield 52, 3) := by decide +kernel
theorem dX11_tried_4 : decode cX11_tried 4 = .ok (.aload_n 0, 1) := by decide +kernel
theorem dX11_tried_5 : decode cX11_tried 5 = .ok (.getfield 10, 3) := by decide +kernel
theorem dX11_tried_8 : decode cX11_tried 8 = .ok (.aload_n 0, 1) := by decide +kernel
theorem dX11_tried_9 : decode cX11_tried 9 = .ok (.getfield 56, 3) := by decide +kernel
theorem dX11_tried_12 : decode cX11_tried 12 = .ok (.invokevirtual 193, 3) := by decide +kernel
theorem dX11_tried_15 : decode cX11_tried 15 = .ok (.aload_n 0, 1) := by decide +kernel
theorem dX11_tried_16 : decode cX11_tried 16 = .ok (.aload_n 0, 1) := by decide +kernel
theorem dX11_tried_17 : decode cX11_tried 17 = .ok (.getfield 52, 3) := by decide +kernel
theorem dX11_tried_20 : decode cX11_tried 20 = .ok (.getfield 197, 3) := by decide +kernel
theorem dX11_tried_23 : decode cX11_tried 23 = .ok (.putfield 87, 3) := by decide +kernel
theorem dX11_tried_26 : decode cX11_tried 26 = .ok (.aload_n 0, 1) := by decide +kernel
theorem dX11_tried_27 : decode cX11_tried 27 = .ok (.getfield 10, 3) := by decide +kernel
theorem dX11_tried_30 : decode cX11_tried 30 = .ok (.iconst 0, 1) := by decide +kernel
theorem dX11_tried_31 : decode cX11_tried 31 = .ok (.putfield 102, 3) := by decide +kernel
theorem dX11_tried_34 : decode cX11_tried 34 = .ok (.aload_n 0, 1) := by decide +kernel
theorem dX11_tried_35 : decode cX11_tried 35 = .ok (.getfield 87, 3) := by decide +kernel
theorem dX11_tried_38 : decode cX11_tried 38 = .ok (.ifCond .eq 15, 3) := by decide +kernel
theorem dX11_tried_41 : decode cX11_tried 41 = .ok (.ldc_w 307, 3) := by decide +kernel
theorem dX11_tried_44 : decode cX11_tried 44 = .ok (.aload_n 0, 1) := by decide +kernel
theorem dX11_tried_45 : decode cX11_tried 45 = .ok (.getfield 52, 3) := by decide +kernel
theorem dX11_tried_48 : decode cX11_tried 48 = .ok (.getfield 202, 3) := by decide +kernel
theorem dX11_tried_51 : decode cX11_tried 51 = .ok (.isub, 1) := by decide +kernel
theorem dX11_tried_52 : decode cX11_tried 52 = .ok (.ireturn, 1) := by decide +kernel
theorem dX11_tried_53 : decode cX11_tried 53 = .ok (.aload_n 0, 1) := by decide +kernel
theorem dX11_tried_54 : decode cX11_tried 54 = .ok (.getfield 19, 3) := by decide +kernel
theorem dX11_tried_57 : decode cX11_tried 57 = .ok (.aload_n 0, 1) := by decide +kernel
theorem dX11_tried_58 : decode cX11_tried 58 = .ok (.getfield 83, 3) := by decide +kernel
theorem dX11_tried_61 : decode cX11_tried 61 = .ok (.aload_n 0, 1) := by decide +kernel
theorem dX11_tried_62 : decode cX11_tried 62 = .ok (.getfield 56, 3) := by decide +kernel
theorem dX11_tried_65 : decode cX11_tried 65 = .ok (.invokevirtual 308, 3) := by decide +kernel
theorem dX11_tried_68 : decode cX11_tried 68 = .ok (.aload_n 0, 1) := by decide +kernel
theorem dX11_tried_69 : decode cX11_tried 69 = .ok (.aload_n 0, 1) := by decide +kernel
theorem dX11_tried_70 : decode cX11_tried 70 = .ok (.getfield 19, 3) := by decide +kernel
theorem dX11_tried_73 : decode cX11_tried 73 = .ok (.getfield 312, 3) := by decide +kernel
theorem dX11_tried_76 : decode cX11_tried 76 = .ok (.putfield 93, 3) := by decide +kernel
theorem dX11_tried_79 : decode cX11_tried 79 = .ok (.aload_n 0, 1) := by decide +kernel
theorem dX11_tried_80 : decode cX11_tried 80 = .ok (.getfield 19, 3) := by decide +kernel
theorem dX11_tried_83 : decode cX11_tried 83 = .ok (.getfield 315, 3) := by decide +kernel
theorem dX11_tried_86 : decode cX11_tried 86 = .ok (.ireturn, 1) := by decide +kernel
theorem dX5_cryClosed_0 : decode cX5_cryClosed 0 = .ok (.aload_n 0, 1) := by decide +kernel
theorem dX5_cryClosed_1 : decode cX5_cryClosed 1 = .ok (.invokevirtual 116, 3) := by decide +kernel
theorem dX5_cryClosed_4 : decode cX5_cryClosed 4 = .ok (.iconst 0, 1) := by decide +kernel
theorem dX5_cryClosed_5 : decode cX5_cryClosed 5 = .ok (.istore_n 3, 1) := by decide +kernel
theorem dX5_cryClosed_6 : decode cX5_cryClosed 6 = .ok (.iload_n 3, 1) := by decide +kernel
theorem dX5_cryClosed_7 : decode cX5_cryClosed 7 = .ok (.aload_n 0, 1) := by decide +kernel
theorem dX5_cryClosed_8 : decode cX5_cryClosed 8 = .ok (.getfield 25, 3) := by decide +kernel
theorem dX5_cryClosed_11 : decode cX5_cryClosed 11 = .ok (.invokevirtual 45, 3) := by decide +kernel
theorem dX5_cryClosed_14 : decode cX5_cryClosed 14 = .ok (.if_icmp .ge 64, 3) := by decide +kernel
theorem dX5_cryClosed_17 : decode cX5_cryClosed 17 = .ok (.aload_n 0, 1) := by decide +kernel
theorem dX5_cryClosed_18 : decode cX5_cryClosed 18 = .ok (.getfield 25, 3) := by decide +kernel
theorem dX5_cryClosed_21 : decode cX5_cryClosed 21 = .ok (.iload_n 3, 1) := by decide +kernel
theorem dX5_cryClosed_22 : decode cX5_cryClosed 22 = .ok (.invokevirtual 119, 3) := by decide +kernel
theorem dX5_cryClosed_25 : decode cX5_cryClosed 25 = .ok (.checkcast 50, 3) := by decide +kernel
theorem dX5_cryClosed_28 : decode cX5_cryClosed 28 = .ok (.getfield 61, 3) := by decide +kernel
theorem dX5_cryClosed_31 : decode cX5_cryClosed 31 = .ok (.istore 4, 2) := by decide +kernel
theorem dX5_cryClosed_33 : decode cX5_cryClosed 33 = .ok (.iload 4, 2) := by decide +kernel
theorem dX5_cryClosed_35 : decode cX5_cryClosed 35 = .ok (.iload_n 1, 1) := by decide +kernel
theorem dX5_cryClosed_36 : decode cX5_cryClosed 36 = .ok (.if_icmp .ge 36, 3) := by decide +kernel
theorem dX5_cryClosed_39 : decode cX5_cryClosed 39 = .ok (.iload_n 3, 1) := by decide +kernel
theorem dX5_cryClosed_40 : decode cX5_cryClosed 40 = .ok (.ifCond .eq 24, 3) := by decide +kernel
theorem dX5_cryClosed_43 : decode cX5_cryClosed 43 = .ok (.aload_n 0, 1) := by decide +kernel
theorem dX5_cryClosed_44 : decode cX5_cryClosed 44 = .ok (.getfield 25, 3) := by decide +kernel
theorem dX5_cryClosed_47 : decode cX5_cryClosed 47 = .ok (.iload_n 3, 1) := by decide +kernel
theorem dX5_cryClosed_48 : decode cX5_cryClosed 48 = .ok (.iconst 1, 1) := by decide +kernel
theorem dX5_cryClosed_49 : decode cX5_cryClosed 49 = .ok (.isub, 1) := by decide +kernel
theorem dX5_cryClosed_50 : decode cX5_cryClosed 50 = .ok (.invokevirtual 119, 3) := by decide +kernel
theorem dX5_cryClosed_53 : decode cX5_cryClosed 53 = .ok (.checkcast 50, 3) := by decide +kernel
theorem dX5_cryClosed_56 : decode cX5_cryClosed 56 = .ok (.getfield 61, 3) := by decide +kernel
theorem dX5_cryClosed_59 : decode cX5_cryClosed 59 = .ok (.iload 4, 2) := by decide +kernel
theorem dX5_cryClosed_61 : decode cX5_cryClosed 61 = .ok (.if_icmp .eq 11, 3) := by decide +kernel
theorem dX5_cryClosed_64 : decode cX5_cryClosed 64 = .ok (.aload_n 0, 1) := by decide +kernel
theorem dX5_cryClosed_65 : decode cX5_cryClosed 65 = .ok (.iload 4, 2) := by decide +kernel
theorem dX5_cryClosed_67 : decode cX5_cryClosed 67 = .ok (.aload_n 2, 1) := by decide +kernel
theorem dX5_cryClosed_68 : decode cX5_cryClosed 68 = .ok (.iconst 0, 1) := by decide +kernel
theorem dX5_cryClosed_69 : decode cX5_cryClosed 69 = .ok (.invokevirtual 123, 3) := by decide +kernel
theorem dX5_cryClosed_72 : decode cX5_cryClosed 72 = .ok (.iinc 3 1, 3) := by decide +kernel
theorem dX5_cryClosed_75 : decode cX5_cryClosed 75 = .ok (.goto (-69), 3) := by decide +kernel
theorem dX5_cryClosed_78 : decode cX5_cryClosed 78 = .ok (.return_, 1) := by decide +kernel
theorem dX5_cryDay_0 : decode cX5_cryDay 0 = .ok (.aload_n 0, 1) := by decide +kernel
theorem dX5_cryDay_1 : decode cX5_cryDay 1 = .ok (.iload_n 1, 1) := by decide +kernel
theorem dX5_cryDay_2 : decode cX5_cryDay 2 = .ok (.invokevirtual 127, 3) := by decide +kernel
theorem dX5_cryDay_5 : decode cX5_cryDay 5 = .ok (.iconst 0, 1) := by decide +kernel
theorem dX5_cryDay_6 : decode cX5_cryDay 6 = .ok (.istore 4, 2) := by decide +kernel
theorem dX5_cryDay_8 : decode cX5_cryDay 8 = .ok (.iconst 0, 1) := by decide +kernel
theorem dX5_cryDay_9 : decode cX5_cryDay 9 = .ok (.istore 5, 2) := by decide +kernel
theorem dX5_cryDay_11 : decode cX5_cryDay 11 = .ok (.iload 5, 2) := by decide +kernel
theorem dX5_cryDay_13 : decode cX5_cryDay 13 = .ok (.aload_n 0, 1) := by decide +kernel
theorem dX5_cryDay_14 : decode cX5_cryDay 14 = .ok (.getfield 28, 3) := by decide +kernel
theorem dX5_cryDay_17 : decode cX5_cryDay 17 = .ok (.invokevirtual 45, 3) := by decide +kernel
theorem dX5_cryDay_20 : decode cX5_cryDay 20 = .ok (.if_icmp .ge 88, 3) := by decide +kernel
theorem dX5_cryDay_23 : decode cX5_cryDay 23 = .ok (.aload_n 0, 1) := by decide +kernel
theorem dX5_cryDay_24 : decode cX5_cryDay 24 = .ok (.getfield 28, 3) := by decide +kernel
theorem dX5_cryDay_27 : decode cX5_cryDay 27 = .ok (.iload 5, 2) := by decide +kernel
theorem dX5_cryDay_29 : decode cX5_cryDay 29 = .ok (.invokevirtual 119, 3) := by decide +kernel
theorem dX5_cryDay_32 : decode cX5_cryDay 32 = .ok (.checkcast 50, 3) := by decide +kernel
theorem dX5_cryDay_35 : decode cX5_cryDay 35 = .ok (.astore 6, 2) := by decide +kernel
theorem dX5_cryDay_37 : decode cX5_cryDay 37 = .ok (.iload 5, 2) := by decide +kernel
theorem dX5_cryDay_39 : decode cX5_cryDay 39 = .ok (.ifCond .eq 28, 3) := by decide +kernel
theorem dX5_cryDay_42 : decode cX5_cryDay 42 = .ok (.aload_n 0, 1) := by decide +kernel
theorem dX5_cryDay_43 : decode cX5_cryDay 43 = .ok (.getfield 28, 3) := by decide +kernel
theorem dX5_cryDay_46 : decode cX5_cryDay 46 = .ok (.iload 5, 2) := by decide +kernel
theorem dX5_cryDay_48 : decode cX5_cryDay 48 = .ok (.iconst 1, 1) := by decide +kernel
theorem dX5_cryDay_49 : decode cX5_cryDay 49 = .ok (.isub, 1) := by decide +kernel
theorem dX5_cryDay_50 : decode cX5_cryDay 50 = .ok (.invokevirtual 119, 3) := by decide +kernel
theorem dX5_cryDay_53 : decode cX5_cryDay 53 = .ok (.checkcast 50, 3) := by decide +kernel
theorem dX5_cryDay_56 : decode cX5_cryDay 56 = .ok (.getfield 131, 3) := by decide +kernel
theorem dX5_cryDay_59 : decode cX5_cryDay 59 = .ok (.aload 6, 2) := by decide +kernel
theorem dX5_cryDay_61 : decode cX5_cryDay 61 = .ok (.getfield 131, 3) := by decide +kernel
theorem dX5_cryDay_64 : decode cX5_cryDay 64 = .ok (.if_icmp .eq 23, 3) := by decide +kernel
theorem dX5_cryDay_67 : decode cX5_cryDay 67 = .ok (.aload_n 0, 1) := by decide +kernel
theorem dX5_cryDay_68 : decode cX5_cryDay 68 = .ok (.getfield 12, 3) := by decide +kernel
theorem dX5_cryDay_71 : decode cX5_cryDay 71 = .ok (.iload_n 1, 1) := by decide +kernel
theorem dX5_cryDay_72 : decode cX5_cryDay 72 = .ok (.aload 6, 2) := by decide +kernel
theorem dX5_cryDay_74 : decode cX5_cryDay 74 = .ok (.getfield 80, 3) := by decide +kernel
theorem dX5_cryDay_77 : decode cX5_cryDay 77 = .ok (.aload 6, 2) := by decide +kernel
theorem dX5_cryDay_79 : decode cX5_cryDay 79 = .ok (.getfield 77, 3) := by decide +kernel
theorem dX5_cryDay_82 : decode cX5_cryDay 82 = .ok (.invokevirtual 134, 3) := by decide +kernel
theorem dX5_cryDay_85 : decode cX5_cryDay 85 = .ok (.istore 4, 2) := by decide +kernel
theorem dX5_cryDay_87 : decode cX5_cryDay 87 = .ok (.iload 4, 2) := by decide +kernel
theorem dX5_cryDay_89 : decode cX5_cryDay 89 = .ok (.aload_n 0, 1) := by decide +kernel
theorem dX5_cryDay_90 : decode cX5_cryDay 90 = .ok (.aload 6, 2) := by decide +kernel
theorem dX5_cryDay_92 : decode cX5_cryDay 92 = .ok (.aload_n 2, 1) := by decide +kernel
theorem dX5_cryDay_93 : decode cX5_cryDay 93 = .ok (.iload 4, 2) := by decide +kernel
theorem dX5_cryDay_95 : decode cX5_cryDay 95 = .ok (.iload_n 3, 1) := by decide +kernel
theorem dX5_cryDay_96 : decode cX5_cryDay 96 = .ok (.invokevirtual 138, 3) := by decide +kernel
theorem dX5_cryDay_99 : decode cX5_cryDay 99 = .ok (.isub, 1) := by decide +kernel
theorem dX5_cryDay_100 : decode cX5_cryDay 100 = .ok (.istore 4, 2) := by decide +kernel
theorem dX5_cryDay_102 : decode cX5_cryDay 102 = .ok (.iinc 5 1, 3) := by decide +kernel
theorem dX5_cryDay_105 : decode cX5_cryDay 105 = .ok (.goto (-94), 3) := by decide +kernel
theorem dX5_cryDay_108 : decode cX5_cryDay 108 = .ok (.return_, 1) := by decide +kernel
theorem dX5_lineUp_0 : decode cX5_lineUp 0 = .ok (.aload_n 0, 1) := by decide +kernel
theorem dX5_lineUp_1 : decode cX5_lineUp 1 = .ok (.getfield 28, 3) := by decide +kernel
theorem dX5_lineUp_4 : decode cX5_lineUp 4 = .ok (.invokevirtual 162, 3) := by decide +kernel
theorem dX5_lineUp_7 : decode cX5_lineUp 7 = .ok (.iconst 0, 1) := by decide +kernel
theorem dX5_lineUp_8 : decode cX5_lineUp 8 = .ok (.istore_n 2, 1) := by decide +kernel
theorem dX5_lineUp_9 : decode cX5_lineUp 9 = .ok (.iload_n 2, 1) := by decide +kernel
theorem dX5_lineUp_10 : decode cX5_lineUp 10 = .ok (.aload_n 0, 1) := by decide +kernel
theorem dX5_lineUp_11 : decode cX5_lineUp 11 = .ok (.getfield 25, 3) := by decide +kernel
theorem dX5_lineUp_14 : decode cX5_lineUp 14 = .ok (.invokevirtual 45, 3) := by decide +kernel
theorem dX5_lineUp_17 : decode cX5_lineUp 17 = .ok (.if_icmp .ge 81, 3) := by decide +kernel
theorem dX5_lineUp_20 : decode cX5_lineUp 20 = .ok (.aload_n 0, 1) := by decide +kernel
theorem dX5_lineUp_21 : decode cX5_lineUp 21 = .ok (.getfield 25, 3) := by decide +kernel
theorem dX5_lineUp_24 : decode cX5_lineUp 24 = .ok (.iload_n 2, 1) := by decide +kernel
theorem dX5_lineUp_25 : decode cX5_lineUp 25 = .ok (.invokevirtual 119, 3) := by decide +kernel
theorem dX5_lineUp_28 : decode cX5_lineUp 28 = .ok (.checkcast 50, 3) := by decide +kernel
theorem dX5_lineUp_31 : decode cX5_lineUp 31 = .ok (.astore_n 3, 1) := by decide +kernel
theorem dX5_lineUp_32 : decode cX5_lineUp 32 = .ok (.aload_n 3, 1) := by decide +kernel
theorem dX5_lineUp_33 : decode cX5_lineUp 33 = .ok (.getfield 61, 3) := by decide +kernel
theorem dX5_lineUp_36 : decode cX5_lineUp 36 = .ok (.iload_n 1, 1) := by decide +kernel
theorem dX5_lineUp_37 : decode cX5_lineUp 37 = .ok (.if_icmp .ne 55, 3) := by decide +kernel
theorem dX5_lineUp_40 : decode cX5_lineUp 40 = .ok (.aload_n 0, 1) := by decide +kernel
theorem dX5_lineUp_41 : decode cX5_lineUp 41 = .ok (.getfield 28, 3) := by decide +kernel
theorem dX5_lineUp_44 : decode cX5_lineUp 44 = .ok (.invokevirtual 45, 3) := by decide +kernel
theorem dX5_lineUp_47 : decode cX5_lineUp 47 = .ok (.istore 4, 2) := by decide +kernel
theorem dX5_lineUp_49 : decode cX5_lineUp 49 = .ok (.iload 4, 2) := by decide +kernel
theorem dX5_lineUp_51 : decode cX5_lineUp 51 = .ok (.ifCond .le 31, 3) := by decide +kernel
theorem dX5_lineUp_54 : decode cX5_lineUp 54 = .ok (.aload_n 0, 1) := by decide +kernel
theorem dX5_lineUp_55 : decode cX5_lineUp 55 = .ok (.aload_n 3, 1) := by decide +kernel
theorem dX5_lineUp_56 : decode cX5_lineUp 56 = .ok (.aload_n 0, 1) := by decide +kernel
theorem dX5_lineUp_57 : decode cX5_lineUp 57 = .ok (.getfield 28, 3) := by decide +kernel
theorem dX5_lineUp_60 : decode cX5_lineUp 60 = .ok (.iload 4, 2) := by decide +kernel
theorem dX5_lineUp_62 : decode cX5_lineUp 62 = .ok (.iconst 1, 1) := by decide +kernel
theorem dX5_lineUp_63 : decode cX5_lineUp 63 = .ok (.isub, 1) := by decide +kernel
theorem dX5_lineUp_64 : decode cX5_lineUp 64 = .ok (.invokevirtual 119, 3) := by decide +kernel
theorem dX5_lineUp_67 : decode cX5_lineUp 67 = .ok (.checkcast 50, 3) := by decide +kernel
theorem dX5_lineUp_70 : decode cX5_lineUp 70 = .ok (.invokevirtual 165, 3) := by decide +kernel
theorem dX5_lineUp_73 : decode cX5_lineUp 73 = .ok (.ifCond .eq 9, 3) := by decide +kernel
theorem dX5_lineUp_76 : decode cX5_lineUp 76 = .ok (.iinc 4 (-1), 3) := by decide +kernel
theorem dX5_lineUp_79 : decode cX5_lineUp 79 = .ok (.goto (-30), 3) := by decide +kernel
theorem dX5_lineUp_82 : decode cX5_lineUp 82 = .ok (.aload_n 0, 1) := by decide +kernel
theorem dX5_lineUp_83 : decode cX5_lineUp 83 = .ok (.getfield 28, 3) := by decide +kernel
theorem dX5_lineUp_86 : decode cX5_lineUp 86 = .ok (.iload 4, 2) := by decide +kernel
theorem dX5_lineUp_88 : decode cX5_lineUp 88 = .ok (.aload_n 3, 1) := by decide +kernel
theorem dX5_lineUp_89 : decode cX5_lineUp 89 = .ok (.invokevirtual 169, 3) := by decide +kernel
theorem dX5_lineUp_92 : decode cX5_lineUp 92 = .ok (.iinc 2 1, 3) := by decide +kernel
theorem dX5_lineUp_95 : decode cX5_lineUp 95 = .ok (.goto (-86), 3) := by decide +kernel
theorem dX5_lineUp_98 : decode cX5_lineUp 98 = .ok (.return_, 1) := by decide +kernel
theorem fl_X11_249_6 : xF RX11 249 6 5 .int false := ⟨by decide, RX5, TX5, 8, tyX5, "PaperBoys$Market", rfl, inlX5, tyX5_ok, nmX5, by decide, rfl, rfl, m_38_14, Or.inl rfl⟩
theorem fl_X11_312_6 : xF RX11 312 6 7 .int false := ⟨by decide, RX5, TX5, 8, tyX5, "PaperBoys$Market", rfl, inlX5, tyX5_ok, nmX5, by decide, rfl, rfl, m_47_19, Or.inl rfl⟩
theorem fl_X11_315_6 : xF RX11 315 6 6 .int false := ⟨by decide, RX5, TX5, 8, tyX5, "PaperBoys$Market", rfl, inlX5, tyX5_ok, nmX5, by decide, rfl, rfl, m_47_20, Or.inl rfl⟩
theorem fl_X5_28_6 : xF RX5 28 6 3 (.object "java/util/ArrayList") true := ⟨by decide, RX5, TX5, 8, tyX5, "PaperBoys$Market", rfl, inlX5, tyX5_ok, nmX5, by decide, rfl, rfl, m_4_3, Or.inl rfl⟩
theorem lk_X11_242 : xLV RX11 242 yX5_startSums cX5_startSums 1 none 0 := ⟨m_38_15, m_38_16, m_38_17, m_1_19, m_38_18, by decide +kernel⟩
theorem lk_X11_245 : xLV RX11 245 yX5_cryDay cX5_cryDay 7 none 3 := ⟨m_38_19, m_38_20, m_38_21, m_1_19, m_38_22, by decide +kernel⟩
theorem lk_X11_308 : xLV RX11 308 yX5_cryClosed cX5_cryClosed 5 none 2 := ⟨m_47_21, m_47_22, m_47_23, m_1_19, m_48_0, by decide +kernel⟩
theorem lk_X5_116 : xLV RX5 116 yX5_startSums cX5_startSums 1 none 0 := ⟨m_48_1, m_38_16, m_38_17, m_1_19, m_38_18, by decide +kernel⟩
theorem lk_X5_123 : xLV RX5 123 yX5_cryDay cX5_cryDay 7 none 3 := ⟨m_48_2, m_38_20, m_38_21, m_1_19, m_38_22, by decide +kernel⟩
theorem lk_X5_127 : xLV RX5 127 yX5_lineUp cX5_lineUp 5 none 1 := ⟨m_39_1, m_39_2, m_39_3, m_1_19, m_39_4, by decide +kernel⟩
theorem lk_X5_134 : xLV RX5 134 yX3_askedOn cX3_askedOn 4 (some .int) 3 := ⟨m_39_23, m_40_0, m_40_1, m_3_22, m_40_2, by decide +kernel⟩
theorem lk_X5_138 : xLV RX5 138 yX5_cryBundle cX5_cryBundle 10 (some .int) 4 := ⟨m_40_4, m_40_5, m_40_6, m_1_19, m_40_7, by decide +kernel⟩
theorem lk_X5_162 : xLV RX5 162 yJx4a65c_clear_da8c8 cJx4a65c_clear_da8c8 4 none 0 := ⟨m_39_5, m_39_6, m_39_7, m_2_5, m_39_8, by decide +kernel⟩
theorem lk_X5_165 : xLV RX5 165 yX5_isAhead cX5_isAhead 3 (some .boolean) 2 := ⟨m_39_10, m_39_11, m_39_12, m_1_19, m_39_13, by decide +kernel⟩
theorem lk_X5_169 : xLV RX5 169 yJx4a65c_add_7a177 cJx4a65c_add_7a177 5 none 2 := ⟨m_39_14, m_39_15, m_39_16, m_2_5, m_39_17, by decide +kernel⟩
set_option maxHeartbeats 4000000 in
set_option maxRecDepth 100000 in
theorem c_X5_lineUp (l : Launch) (D : va_G) (kA : Nat → ClassId) (b0 : Nat) (t0 : Nat → Nat) (S : xT) (g : xG) (a0 : Nat) (x1 : Int) (w3 : Nat) (c9 s9 : Nat) (hs_a0 : S a0 = some (6, 0)) (hx1 : (-2147483648) ≤ x1 ∧ x1 ≤ 2147483647) (ew3 : g a0 3 = .ref w3) (hs_w3 : S w3 = some (200, 0)) (hp0 : xLs S g) (hp1 : xSi S t0) (hp2 : xQk S g w3 c9 s9) : xMu l yX5_lineUp cX5_lineUp 5 none 7 10 962 167 D kA b0 t0 [(200, 0), (200, 2), (10403, 0), (200, 1)] [.ref a0, .int (iI x1)] S g (fun (r : Option Value) (S1 : xT) (g1 : xG) (dc ds : Nat) => xNw2 S S1 [10403] ∧ r = none ∧ (xLs S1 g1) ∧ (xSi S1 t0) ∧ (xQk S1 g1 w3 (c9 + dc) (s9 + ds)) ∧ (c9 + dc ≤ 9 ∧ s9 + ds ≤ 718)) := by
  refine xEnterUV (by decide) (by simp [lg_sl, Value.category]) [(0, .ref a0), (1, .int (iI x1))] rfl ?_
  intro K E hK hret hS0 _ hini ht
  subst ht
  refine X_aloadn hK (i := 0) 0 dX5_lineUp_0 rfl rfl ?_
  refine X_getK hK fl_X5_28_6 hs_a0 ew3 dX5_lineUp_1 ?_
  refine X_callV hK [] [] lk_X5_162 (c_clearW _ _ _ _ _ S g w3 c9 s9 hs_w3 hp0 hp2) hs_w3 ⟨by decide, rfl⟩ dX5_lineUp_4 rfl rfl (by simp [Value.category]) (by decide) (by omega) (by omega) (by decide) (fun r1 S3 g2 pr1 qr1 hg2 => ?_)
  obtain ⟨rfl, rfl, k4, k5, k6⟩ := pr1
  refine X_st [] rfl ?_
  refine X_iconst hK dX5_lineUp_7 ?_
  refine X_istoren hK (i := 2) [(2, .int (iI 0)), (0, .ref a0), (1, .int (iI x1))] dX5_lineUp_8 rfl (by decide) rfl ?_
  have P1027 : ∀ (nP1027 : Nat) (S857 : xT) (_ : xLe S S857) (_ : xNw2 S S857 [10403]) (g859 : xG) (_ : xM [(200, 0), (200, 1), (200, 2), (10403, 0)] S g2 g859) (_ : xLs S857 g859) (dcS857 dsS857 : Nat) (_ : xQk S857 g859 w3 (c9 + dcS857) (s9 + dsS857)) (z858 : Int) (_ : 0 ≤ z858) (_ : z858 ≤ 200) (q860 : Int) (_ : 0 ≤ q860) (_ : q860 ≤ 2147483647) (_ : g859 w3 2 = .int (iI q860)) (_ : q860 ≤ z858) (_ : 216 - z858 < (nP1027 : Int)), X K E 9 [(2, .int (iI z858)), (0, .ref a0), (1, .int (iI x1))] [] S857 g859 dcS857 dsS857 := by
    intro nP1027
    induction nP1027 with
    | zero => intro S857 qS857 wS857 g859 hg859 AS857 dcS857 dsS857 QS857 z858 lz858 uz858 q860 lq860 uq860 eq860 v1028 mP1027; exact False.elim (by omega)
    | succ nP1027 ihP1027 =>
      intro S857 qS857 wS857 g859 hg859 AS857 dcS857 dsS857 QS857 z858 lz858 uz858 q860 lq860 uq860 eq860 v1028 mP1027
      have qlS857 := xQk.le QS857
      refine X_iloadn hK (i := 2) 0 dX5_lineUp_9 rfl rfl ?_
      refine X_aloadn hK (i := 0) 1 dX5_lineUp_10 rfl rfl ?_
      refine X_getr hK 100 0 fl_X5_25_6 (qS857 _ _ hs_a0) sl_6_2 dX5_lineUp_11 (fun b1029 eb1029 hs_b1029 => ?_)
      refine X_know hs_b1029 (by decide) sl_100_2 (fun z1030 ez1030 lz1030 uz1030 => ?_)
      refine X_callV hK [] [.int (iI z858)] lk_X5_45 (c_size_100 _ _ _ _ _ S857 g859 b1029 z1030 hs_b1029 (by omega) ez1030 AS857) hs_b1029 ⟨by decide, rfl⟩ dX5_lineUp_14 rfl rfl (by simp [Value.category]) (by decide) (by omega) (by omega) (by decide) (fun r1031 S1033 g1032 pr1031 qr1031 hg1032 => ?_)
      obtain ⟨rfl, rfl, z1034, rfl, lz1034, uz1034, k1035⟩ := pr1031
      refine X_st [.int (iI z1034), .int (iI z858)] rfl ?_
      refine X_icmp_ge hK 98 (by omega) (by omega) dX5_lineUp_17 (by decide) (fun c1036 => ?_) (fun c1036 => ?_)
      · exact hret _ _ _ _ _ _ dX5_lineUp_98 ⟨(xNw2.tr xNw2.rf wS857 (by decide)), rfl, AS857, (xSi.nw hp1 wS857 (by decide)), (xQk.cg QS857 (by omega) (by omega)), (xQk.le (xQk.cg QS857 (by omega) (by omega)))⟩ (by omega) (by omega)
      · refine X_aloadn hK (i := 0) 1 dX5_lineUp_20 rfl rfl ?_
        refine X_getK hK fl_X5_25_6 (qS857 _ _ hs_a0) eb1029 dX5_lineUp_21 ?_
        refine X_iloadn hK (i := 2) 0 dX5_lineUp_24 rfl rfl ?_
        refine X_callV hK [.int (iI z858)] [] lk_X5_119 (c_get_100 _ _ _ _ _ S857 g859 b1029 z858 z1030 hs_b1029 (by omega) (by omega) ez1030 AS857 (by omega)) hs_b1029 ⟨by decide, rfl⟩ dX5_lineUp_25 rfl rfl (by simp [Value.category]) (by decide) (by omega) (by omega) (by decide) (fun r1037 S1039 g1038 pr1037 qr1037 hg1038 => ?_)
        obtain ⟨rfl, rfl, b1040, rfl, hs_b1040, k1041⟩ := pr1037
        refine X_st [.ref b1040] rfl ?_
        refine X_cast hK hs_b1040 ⟨by decide, rfl⟩ m_38_23 dX5_lineUp_28 ?_
        refine X_astoren hK (i := 3) [(3, .ref b1040), (2, .int (iI z858)), (0, .ref a0), (1, .int (iI x1))] dX5_lineUp_31 rfl (by decide) rfl ?_
        refine X_aloadn hK (i := 3) 0 dX5_lineUp_32 rfl rfl ?_
        refine X_geti hK fl_X5_61_2 hs_b1040 sl_2_5 dX5_lineUp_33 (fun z1042 ez1042 lz1042 uz1042 => ?_)
        refine X_iloadn hK (i := 1) 3 dX5_lineUp_36 rfl rfl ?_
        refine X_icmp_ne hK 92 (by omega) (by omega) dX5_lineUp_37 (by decide) (fun c1043 => ?_) (fun c1043 => ?_)
        · refine X_iinc hK (i := 2) (z := z858) (n := 1) 1 [(2, .int (iI (z858 + 1))), (3, .ref b1040), (0, .ref a0), (1, .int (iI x1))] dX5_lineUp_92 rfl (by decide) rfl ?_
          refine X_goto hK 9 dX5_lineUp_95 (by decide) ?_
          refine X_lv [(2, .int (iI (z858 + 1))), (0, .ref a0), (1, .int (iI x1))] [0, 2, 3] rfl ?_
          exact ihP1027  S857 qS857 (xNw2.tr xNw2.rf wS857 (by decide)) g859 (xM.tr xM.rf xLe.rf hg859 (by decide)) AS857 dcS857 dsS857 (xQk.cg QS857 (by omega) (by omega)) (z858 + 1) (by omega) (by omega) q860 (by omega) (by omega) eq860 (by omega) (by omega)
        · refine X_aloadn hK (i := 0) 2 dX5_lineUp_40 rfl rfl ?_
          refine X_getK hK fl_X5_28_6 (qS857 _ _ hs_a0) ((hg859 a0 6 0 3 hs_a0 (by decide)).trans ((hg2 a0 6 0 3 hs_a0 (by decide)).trans ew3)) dX5_lineUp_41 ?_
          refine X_callV hK [] [] lk_X5_45 (c_size_200 _ _ _ _ _ S857 g859 w3 q860 (qS857 _ _ hs_w3) (by omega) eq860 AS857) (qS857 _ _ hs_w3) ⟨by decide, rfl⟩ dX5_lineUp_44 rfl rfl (by simp [Value.category]) (by decide) (by omega) (by omega) (by decide) (fun r1044 S1046 g1045 pr1044 qr1044 hg1045 => ?_)
          obtain ⟨rfl, rfl, z1047, rfl, lz1047, uz1047, k1048⟩ := pr1044
          refine X_st [.int (iI z1047)] rfl ?_
          refine X_istore hK (i := 4) [(4, .int (iI z1047)), (3, .ref b1040), (2, .int (iI z858)), (0, .ref a0), (1, .int (iI x1))] dX5_lineUp_47 (by decide) rfl ?_
          have P1165 : ∀ (nP1165 : Nat) (z1136 : Int) (_ : 0 ≤ z1136) (_ : z1136 ≤ 200) (q1137 : Int) (_ : 0 ≤ q1137) (_ : q1137 ≤ 2147483647) (_ : g859 w3 2 = .int (iI q1137)) (_ : z1136 ≤ q1137) (_ : q1137 ≤ z858) (_ : z1136 - (-16) < (nP1165 : Int)), X K E 49 [(4, .int (iI z1136)), (3, .ref b1040), (2, .int (iI z858)), (0, .ref a0), (1, .int (iI x1))] [] S857 g859 dcS857 dsS857 := by
            intro nP1165
            induction nP1165 with
            | zero => intro z1136 lz1136 uz1136 q1137 lq1137 uq1137 eq1137 v1166 v1167 mP1165; exact False.elim (by omega)
            | succ nP1165 ihP1165 =>
              intro z1136 lz1136 uz1136 q1137 lq1137 uq1137 eq1137 v1166 v1167 mP1165
              refine X_iload hK (i := 4) 0 dX5_lineUp_49 rfl ?_
              refine X_if_le hK 82 (by omega) dX5_lineUp_51 (by decide) (fun c1168 => ?_) (fun c1168 => ?_)
              · refine X_aloadn hK (i := 0) 3 dX5_lineUp_82 rfl rfl ?_
                refine X_getK hK fl_X5_28_6 (qS857 _ _ hs_a0) ((hg859 a0 6 0 3 hs_a0 (by decide)).trans ((hg2 a0 6 0 3 hs_a0 (by decide)).trans ew3)) dX5_lineUp_83 ?_
                refine X_iload hK (i := 4) 0 dX5_lineUp_86 rfl ?_
                refine X_aloadn hK (i := 3) 1 dX5_lineUp_88 rfl rfl ?_
                refine X_callVU hK [.int (iI z1136), .ref b1040] [] lk_X5_169 (c_addQ _ _ _ _ _ S857 g859 w3 z1136 b1040 q1137 (c9 + dcS857) (s9 + dsS857) (qS857 _ _ hs_w3) (by omega) hs_b1040 (by omega) eq1137 AS857 (xSi.nw hp1 wS857 (by decide)) QS857 (by omega)) (qS857 _ _ hs_w3) ⟨by decide, rfl⟩ dX5_lineUp_89 rfl rfl (by simp [Value.category]) (by decide) (by omega) (by omega) (by decide) (fun r1169 S1171 g1170 dcr1169 dsr1169 pr1169 qr1169 hg1170 => ?_)
                obtain ⟨wr1169, rfl, k1172, k1173, k1174, k1175, k1176⟩ := pr1169
                refine X_st [] rfl ?_
                refine X_iinc hK (i := 2) (z := z858) (n := 1) 2 [(2, .int (iI (z858 + 1))), (4, .int (iI z1136)), (3, .ref b1040), (0, .ref a0), (1, .int (iI x1))] dX5_lineUp_92 rfl (by decide) rfl ?_
                refine X_goto hK 9 dX5_lineUp_95 (by decide) ?_
                refine X_lv [(2, .int (iI (z858 + 1))), (0, .ref a0), (1, .int (iI x1))] [0, 3, 4] rfl ?_
                exact ihP1027  S1171 (xLe.tr qS857 qr1169) (xNw2.tr (xNw2.tr xNw2.rf wS857 (by decide)) wr1169 (by decide)) g1170 (xM.tr (xM.tr xM.rf xLe.rf hg859 (by decide)) qS857 hg1170 (by decide)) k1172 (dcS857 + dcr1169) (dsS857 + dsr1169) (xQk.cg k1173 (by omega) (by omega)) (z858 + 1) (by omega) (by omega) (q1137 + 1) (by omega) (by omega) k1174 (by omega) (by omega)
              · refine X_aloadn hK (i := 0) 3 dX5_lineUp_54 rfl rfl ?_
                refine X_aloadn hK (i := 3) 1 dX5_lineUp_55 rfl rfl ?_
                refine X_aloadn hK (i := 0) 3 dX5_lineUp_56 rfl rfl ?_
                refine X_getK hK fl_X5_28_6 (qS857 _ _ hs_a0) ((hg859 a0 6 0 3 hs_a0 (by decide)).trans ((hg2 a0 6 0 3 hs_a0 (by decide)).trans ew3)) dX5_lineUp_57 ?_
                refine X_iload hK (i := 4) 0 dX5_lineUp_60 rfl ?_
                refine X_iconst hK dX5_lineUp_62 ?_
                refine X_isub hK dX5_lineUp_63 ?_
                refine X_callV hK [.int (iI (z1136 - 1))] [.ref b1040, .ref a0] lk_X5_119 (c_get_200 _ _ _ _ _ S857 g859 w3 (z1136 - 1) q1137 (qS857 _ _ hs_w3) (by omega) (by omega) eq1137 AS857 (by omega)) (qS857 _ _ hs_w3) ⟨by decide, rfl⟩ dX5_lineUp_64 rfl rfl (by simp [Value.category]) (by decide) (by omega) (by omega) (by decide) (fun r1177 S1179 g1178 pr1177 qr1177 hg1178 => ?_)
                obtain ⟨rfl, rfl, b1180, rfl, hs_b1180, k1181⟩ := pr1177
                refine X_st [.ref b1180, .ref b1040, .ref a0] rfl ?_
                refine X_cast hK hs_b1180 ⟨by decide, rfl⟩ m_38_23 dX5_lineUp_67 ?_
                refine X_callV hK [.ref b1040, .ref b1180] [] lk_X5_165 (c_X5_isAhead _ _ _ _ _ S857 g859 a0 b1040 b1180 (qS857 _ _ hs_a0) hs_b1040 hs_b1180) (qS857 _ _ hs_a0) ⟨by decide, rfl⟩ dX5_lineUp_70 rfl rfl (by simp [Value.category]) (by decide) (by omega) (by omega) (by decide) (fun r1182 S1184 g1183 pr1182 qr1182 hg1183 => ?_)
                obtain ⟨rfl, rfl, z1185, rfl, lz1185, uz1185⟩ := pr1182
                refine X_st [.int (iI z1185)] rfl ?_
                refine X_if_eq hK 82 (by omega) dX5_lineUp_73 (by decide) (fun c1186 => ?_) (fun c1186 => ?_)
                · refine X_aloadn hK (i := 0) 3 dX5_lineUp_82 rfl rfl ?_
                  refine X_getK hK fl_X5_28_6 (qS857 _ _ hs_a0) ((hg859 a0 6 0 3 hs_a0 (by decide)).trans ((hg2 a0 6 0 3 hs_a0 (by decide)).trans ew3)) dX5_lineUp_83 ?_
                  refine X_iload hK (i := 4) 0 dX5_lineUp_86 rfl ?_
                  refine X_aloadn hK (i := 3) 1 dX5_lineUp_88 rfl rfl ?_
                  refine X_callVU hK [.int (iI z1136), .ref b1040] [] lk_X5_169 (c_addQ _ _ _ _ _ S857 g859 w3 z1136 b1040 q1137 (c9 + dcS857) (s9 + dsS857) (qS857 _ _ hs_w3) (by omega) hs_b1040 (by omega) eq1137 AS857 (xSi.nw hp1 wS857 (by decide)) QS857 (by omega)) (qS857 _ _ hs_w3) ⟨by decide, rfl⟩ dX5_lineUp_89 rfl rfl (by simp [Value.category]) (by decide) (by omega) (by omega) (by decide) (fun r1187 S1189 g1188 dcr1187 dsr1187 pr1187 qr1187 hg1188 => ?_)
                  obtain ⟨wr1187, rfl, k1190, k1191, k1192, k1193, k1194⟩ := pr1187
                  refine X_st [] rfl ?_
                  refine X_iinc hK (i := 2) (z := z858) (n := 1) 2 [(2, .int (iI (z858 + 1))), (4, .int (iI z1136)), (3, .ref b1040), (0, .ref a0), (1, .int (iI x1))] dX5_lineUp_92 rfl (by decide) rfl ?_
                  refine X_goto hK 9 dX5_lineUp_95 (by decide) ?_
                  refine X_lv [(2, .int (iI (z858 + 1))), (0, .ref a0), (1, .int (iI x1))] [0, 3, 4] rfl ?_
                  exact ihP1027  S1189 (xLe.tr qS857 qr1187) (xNw2.tr (xNw2.tr xNw2.rf wS857 (by decide)) wr1187 (by decide)) g1188 (xM.tr (xM.tr xM.rf xLe.rf hg859 (by decide)) qS857 hg1188 (by decide)) k1190 (dcS857 + dcr1187) (dsS857 + dsr1187) (xQk.cg k1191 (by omega) (by omega)) (z858 + 1) (by omega) (by omega) (q1137 + 1) (by omega) (by omega) k1192 (by omega) (by omega)
                · refine X_iinc hK (i := 4) (z := z1136) (n := (-1)) 0 [(4, .int (iI (z1136 + (-1)))), (3, .ref b1040), (2, .int (iI z858)), (0, .ref a0), (1, .int (iI x1))] dX5_lineUp_76 rfl (by decide) rfl ?_
                  refine X_goto hK 49 dX5_lineUp_79 (by decide) ?_
                  exact ihP1165  (z1136 + (-1)) (by omega) (by omega) q1137 (by omega) (by omega) eq1137 (by omega) (by omega) (by omega)
          exact P1165 ((z1047 - (-16) : Int).toNat + 1) z1047 (by omega) (by omega) q860 (by omega) (by omega) eq860 (by omega) (by omega) (by omega)
  exact P1027 ((216 - 0 : Int).toNat + 1) S xLe.rf xNw2.rf g2 xM.rf k4 0 0 (xQk.cg k5 (by omega) (by omega)) 0 (by omega) (by omega) 0 (by omega) (by omega) k6 (by omega) (by omega)

set_option maxHeartbeats 4000000 in
set_option maxRecDepth 100000 in
theorem c_X5_cryDay (l : Launch) (D : va_G) (kA : Nat → ClassId) (b0 : Nat) (t0 : Nat → Nat) (S : xT) (g : xG) (a0 : Nat) (x1 : Int) (a2 : Nat) (x3 : Int) (w3 : Nat) (c9 s9 : Nat) (hs_a0 : S a0 = some (6, 0)) (hx1 : 0 ≤ x1 ∧ x1 ≤ 399) (hs_a2 : S a2 = some (11, 0)) (hx3 : 0 ≤ x3 ∧ x3 ≤ 1) (ew3 : g a0 3 = .ref w3) (hs_w3 : S w3 = some (200, 0)) (hp0 : xLs S g) (hp1 : xSi S t0) (hp2 : xQk S g w3 c9 s9) : xMu l yX5_cryDay cX5_cryDay 7 none 8 10 962 191 D kA b0 t0 [(200, 0), (200, 2), (10403, 0), (200, 1), (12000, 0), (6, 5), (6, 7), (6, 6), (2, 8), (2, 9), (2, 10), (1, 5)] [.ref a0, .int (iI x1), .ref a2, .int (iI x3)] S g (fun (r : Option Value) (S1 : xT) (g1 : xG) (dc ds : Nat) => xNw2 S S1 [10403] ∧ r = none ∧ (xLs S1 g1) ∧ (xSi S1 t0) ∧ (xQk S1 g1 w3 (c9 + dc) (s9 + ds)) ∧ (c9 + dc ≤ 9 ∧ s9 + ds ≤ 718)) := by
  refine xEnterUV (by decide) (by simp [lg_sl, Value.category]) [(0, .ref a0), (1, .int (iI x1)), (2, .ref a2), (3, .int (iI x3))] rfl ?_
  intro K E hK hret hS0 _ hini ht
  subst ht
  refine X_aloadn hK (i := 0) 0 dX5_cryDay_0 rfl rfl ?_
  refine X_iloadn hK (i := 1) 1 dX5_cryDay_1 rfl rfl ?_
  refine X_callVU hK [.int (iI x1)] [] lk_X5_127 (c_X5_lineUp _ _ _ _ _ S g a0 x1 w3 c9 s9 hs_a0 (by omega) ew3 hs_w3 hp0 hp1 hp2) hs_a0 ⟨by decide, rfl⟩ dX5_cryDay_2 rfl rfl (by simp [Value.category]) (by decide) (by omega) (by omega) (by decide) (fun r1 S3 g2 dcr1 dsr1 pr1 qr1 hg2 => ?_)
  obtain ⟨wr1, rfl, k4, k5, k6, k7⟩ := pr1
  refine X_st [] rfl ?_
  refine X_iconst hK dX5_cryDay_5 ?_
  refine X_istore hK (i := 4) [(4, .int (iI 0)), (0, .ref a0), (1, .int (iI x1)), (2, .ref a2), (3, .int (iI x3))] dX5_cryDay_6 (by decide) rfl ?_
  refine X_iconst hK dX5_cryDay_8 ?_
  refine X_istore hK (i := 5) [(5, .int (iI 0)), (4, .int (iI 0)), (0, .ref a0), (1, .int (iI x1)), (2, .ref a2), (3, .int (iI x3))] dX5_cryDay_9 (by decide) rfl ?_
  have P300 : ∀ (nP300 : Nat) (g249 : xG) (_ : xM [(12000, 0), (6, 5), (6, 7), (6, 6), (2, 8), (2, 9), (2, 10), (1, 5)] S3 g2 g249) (z247 : Int) (_ : 0 ≤ z247) (_ : z247 ≤ 200) (z248 : Int) (_ : (-2147483648) ≤ z248) (_ : z248 ≤ 2147483647) (_ : 216 - z247 < (nP300 : Int)), X K E 11 [(5, .int (iI z247)), (4, .int (iI z248)), (0, .ref a0), (1, .int (iI x1)), (2, .ref a2), (3, .int (iI x3))] [] S3 g249 (0 + dcr1) (0 + dsr1) := by
    intro nP300
    induction nP300 with
    | zero => intro g249 hg249 z247 lz247 uz247 z248 lz248 uz248 mP300; exact False.elim (by omega)
    | succ nP300 ihP300 =>
      intro g249 hg249 z247 lz247 uz247 z248 lz248 uz248 mP300
      refine X_iload hK (i := 5) 0 dX5_cryDay_11 rfl ?_
      refine X_aloadn hK (i := 0) 2 dX5_cryDay_13 rfl rfl ?_
      refine X_getK hK fl_X5_28_6 (qr1 _ _ hs_a0) ((hg249 a0 6 0 3 (qr1 _ _ hs_a0) (by decide)).trans ((hg2 a0 6 0 3 hs_a0 (by decide)).trans ew3)) dX5_cryDay_14 ?_
      refine X_know (qr1 _ _ hs_w3) (by decide) sl_200_2 (fun z301 ez301 lz301 uz301 => ?_)
      refine X_callV hK [] [.int (iI z247)] lk_X5_45 (c_size_200 _ _ _ _ _ S3 g249 w3 z301 (qr1 _ _ hs_w3) (by omega) ez301 (xLs_mod k4 hg249 (by decide))) (qr1 _ _ hs_w3) ⟨by decide, rfl⟩ dX5_cryDay_17 rfl rfl (by simp [Value.category]) (by decide) (by omega) (by omega) (by decide) (fun r302 S304 g303 pr302 qr302 hg303 => ?_)
      obtain ⟨rfl, rfl, z305, rfl, lz305, uz305, k306⟩ := pr302
      refine X_st [.int (iI z305), .int (iI z247)] rfl ?_
      refine X_icmp_ge hK 108 (by omega) (by omega) dX5_cryDay_20 (by decide) (fun c307 => ?_) (fun c307 => ?_)
      · exact hret _ _ _ _ _ _ dX5_cryDay_108 ⟨(xNw2.tr xNw2.rf wr1 (by decide)), rfl, (xLs_mod k4 hg249 (by decide)), k5, (xQk.cg (xQk_mod k6 (qr1 _ _ hs_w3) hg249 (by decide)) (by omega) (by omega)), (xQk.le (xQk.cg (xQk_mod k6 (qr1 _ _ hs_w3) hg249 (by decide)) (by omega) (by omega)))⟩ (by omega) (by omega)
      · refine X_aloadn hK (i := 0) 2 dX5_cryDay_23 rfl rfl ?_
        refine X_getK hK fl_X5_28_6 (qr1 _ _ hs_a0) ((hg249 a0 6 0 3 (qr1 _ _ hs_a0) (by decide)).trans ((hg2 a0 6 0 3 hs_a0 (by decide)).trans ew3)) dX5_cryDay_24 ?_
        refine X_iload hK (i := 5) 0 dX5_cryDay_27 rfl ?_
        refine X_callV hK [.int (iI z247)] [] lk_X5_119 (c_get_200 _ _ _ _ _ S3 g249 w3 z247 z301 (qr1 _ _ hs_w3) (by omega) (by omega) ez301 (xLs_mod k4 hg249 (by decide)) (by omega)) (qr1 _ _ hs_w3) ⟨by decide, rfl⟩ dX5_cryDay_29 rfl rfl (by simp [Value.category]) (by decide) (by omega) (by omega) (by decide) (fun r308 S310 g309 pr308 qr308 hg309 => ?_)
        obtain ⟨rfl, rfl, b311, rfl, hs_b311, k312⟩ := pr308
        refine X_st [.ref b311] rfl ?_
        refine X_cast hK hs_b311 ⟨by decide, rfl⟩ m_38_23 dX5_cryDay_32 ?_
        refine X_astore hK (i := 6) [(6, .ref b311), (5, .int (iI z247)), (4, .int (iI z248)), (0, .ref a0), (1, .int (iI x1)), (2, .ref a2), (3, .int (iI x3))] dX5_cryDay_35 (by decide) rfl ?_
        refine X_iload hK (i := 5) 1 dX5_cryDay_37 rfl ?_
        refine X_if_eq hK 67 (by omega) dX5_cryDay_39 (by decide) (fun c313 => ?_) (fun c313 => ?_)
        · refine X_aloadn hK (i := 0) 3 dX5_cryDay_67 rfl rfl ?_
          refine X_getr hK 4 0 fl_X5_12_6 (qr1 _ _ hs_a0) sl_6_0 dX5_cryDay_68 (fun b314 eb314 hs_b314 => ?_)
          refine X_iloadn hK (i := 1) 4 dX5_cryDay_71 rfl rfl ?_
          refine X_aload hK (i := 6) 0 dX5_cryDay_72 rfl ?_
          refine X_geti hK fl_X5_80_2 hs_b311 sl_2_2 dX5_cryDay_74 (fun z315 ez315 lz315 uz315 => ?_)
          refine X_aload hK (i := 6) 0 dX5_cryDay_77 rfl ?_
          refine X_geti hK fl_X5_77_2 hs_b311 sl_2_1 dX5_cryDay_79 (fun z316 ez316 lz316 uz316 => ?_)
          refine X_callV hK [.int (iI x1), .int (iI z315), .int (iI z316)] [] lk_X5_134 (c_X3_askedOn _ _ _ _ _ S3 g249 b314 x1 z315 z316 hs_b314 (by omega) (by omega) (by omega)) hs_b314 ⟨by decide, rfl⟩ dX5_cryDay_82 rfl rfl (by simp [Value.category]) (by decide) (by omega) (by omega) (by decide) (fun r317 S319 g318 pr317 qr317 hg318 => ?_)
          obtain ⟨rfl, rfl, z320, rfl, lz320, uz320⟩ := pr317
          refine X_st [.int (iI z320)] rfl ?_
          refine X_istore hK (i := 4) [(4, .int (iI z320)), (6, .ref b311), (5, .int (iI z247)), (0, .ref a0), (1, .int (iI x1)), (2, .ref a2), (3, .int (iI x3))] dX5_cryDay_85 (by decide) rfl ?_
          refine X_iload hK (i := 4) 0 dX5_cryDay_87 rfl ?_
          refine X_aloadn hK (i := 0) 3 dX5_cryDay_89 rfl rfl ?_
          refine X_aload hK (i := 6) 1 dX5_cryDay_90 rfl ?_
          refine X_aloadn hK (i := 2) 5 dX5_cryDay_92 rfl rfl ?_
          refine X_iload hK (i := 4) 0 dX5_cryDay_93 rfl ?_
          refine X_iloadn hK (i := 3) 6 dX5_cryDay_95 rfl rfl ?_
          refine X_callV hK [.ref b311, .ref a2, .int (iI z320), .int (iI x3)] [.int (iI z320)] lk_X5_138 (c_X5_cryBundle _ _ _ _ _ S3 g249 a0 b311 a2 z320 x3 (qr1 _ _ hs_a0) hs_b311 (qr1 _ _ hs_a2) (by omega) (by omega)) (qr1 _ _ hs_a0) ⟨by decide, rfl⟩ dX5_cryDay_96 rfl rfl (by simp [Value.category]) (by decide) (by omega) (by omega) (by decide) (fun r321 S323 g322 pr321 qr321 hg322 => ?_)
          obtain ⟨rfl, z324, rfl, lz324, uz324⟩ := pr321
          refine X_st [.int (iI z324), .int (iI z320)] rfl ?_
          refine X_isub hK dX5_cryDay_99 ?_
          refine X_norm (fun z325 ez325 lz325 uz325 => ?_)
          refine X_istore hK (i := 4) [(4, .int (iI z325)), (6, .ref b311), (5, .int (iI z247)), (0, .ref a0), (1, .int (iI x1)), (2, .ref a2), (3, .int (iI x3))] dX5_cryDay_100 (by decide) rfl ?_
          refine X_iinc hK (i := 5) (z := z247) (n := 1) 2 [(5, .int (iI (z247 + 1))), (4, .int (iI z325)), (6, .ref b311), (0, .ref a0), (1, .int (iI x1)), (2, .ref a2), (3, .int (iI x3))] dX5_cryDay_102 rfl (by decide) rfl ?_
          refine X_goto hK 11 dX5_cryDay_105 (by decide) ?_
          refine X_lv [(5, .int (iI (z247 + 1))), (4, .int (iI z325)), (0, .ref a0), (1, .int (iI x1)), (2, .ref a2), (3, .int (iI x3))] [0, 1, 3, 4, 5, 6] rfl ?_
          exact ihP300  g322 (xM.tr (xM.tr xM.rf xLe.rf hg249 (by decide)) xLe.rf hg322 (by decide)) (z247 + 1) (by omega) (by omega) z325 (by omega) (by omega) (by omega)
        · refine X_aloadn hK (i := 0) 3 dX5_cryDay_42 rfl rfl ?_
          refine X_getK hK fl_X5_28_6 (qr1 _ _ hs_a0) ((hg249 a0 6 0 3 (qr1 _ _ hs_a0) (by decide)).trans ((hg2 a0 6 0 3 hs_a0 (by decide)).trans ew3)) dX5_cryDay_43 ?_
          refine X_iload hK (i := 5) 1 dX5_cryDay_46 rfl ?_
          refine X_iconst hK dX5_cryDay_48 ?_
          refine X_isub hK dX5_cryDay_49 ?_
          refine X_callV hK [.int (iI (z247 - 1))] [] lk_X5_119 (c_get_200 _ _ _ _ _ S3 g249 w3 (z247 - 1) z301 (qr1 _ _ hs_w3) (by omega) (by omega) ez301 (xLs_mod k4 hg249 (by decide)) (by omega)) (qr1 _ _ hs_w3) ⟨by decide, rfl⟩ dX5_cryDay_50 rfl rfl (by simp [Value.category]) (by decide) (by omega) (by omega) (by decide) (fun r326 S328 g327 pr326 qr326 hg327 => ?_)
          obtain ⟨rfl, rfl, b329, rfl, hs_b329, k330⟩ := pr326
          refine X_st [.ref b329] rfl ?_
          refine X_cast hK hs_b329 ⟨by decide, rfl⟩ m_38_23 dX5_cryDay_53 ?_
          refine X_geti hK fl_X5_131_2 hs_b329 sl_2_6 dX5_cryDay_56 (fun z331 ez331 lz331 uz331 => ?_)
          refine X_aload hK (i := 6) 0 dX5_cryDay_59 rfl ?_
          refine X_geti hK fl_X5_131_2 hs_b311 sl_2_6 dX5_cryDay_61 (fun z332 ez332 lz332 uz332 => ?_)
          refine X_icmp_eq hK 87 (by omega) (by omega) dX5_cryDay_64 (by decide) (fun c333 => ?_) (fun c333 => ?_)
          · refine X_iload hK (i := 4) 2 dX5_cryDay_87 rfl ?_
            refine X_aloadn hK (i := 0) 3 dX5_cryDay_89 rfl rfl ?_
            refine X_aload hK (i := 6) 0 dX5_cryDay_90 rfl ?_
            refine X_aloadn hK (i := 2) 5 dX5_cryDay_92 rfl rfl ?_
            refine X_iload hK (i := 4) 2 dX5_cryDay_93 rfl ?_
            refine X_iloadn hK (i := 3) 6 dX5_cryDay_95 rfl rfl ?_
            refine X_callV hK [.ref b311, .ref a2, .int (iI z248), .int (iI x3)] [.int (iI z248)] lk_X5_138 (c_X5_cryBundle _ _ _ _ _ S3 g249 a0 b311 a2 z248 x3 (qr1 _ _ hs_a0) hs_b311 (qr1 _ _ hs_a2) (by omega) (by omega)) (qr1 _ _ hs_a0) ⟨by decide, rfl⟩ dX5_cryDay_96 rfl rfl (by simp [Value.category]) (by decide) (by omega) (by omega) (by decide) (fun r334 S336 g335 pr334 qr334 hg335 => ?_)
            obtain ⟨rfl, z337, rfl, lz337, uz337⟩ := pr334
            refine X_st [.int (iI z337), .int (iI z248)] rfl ?_
            refine X_isub hK dX5_cryDay_99 ?_
            refine X_norm (fun z338 ez338 lz338 uz338 => ?_)
            refine X_istore hK (i := 4) [(4, .int (iI z338)), (6, .ref b311), (5, .int (iI z247)), (0, .ref a0), (1, .int (iI x1)), (2, .ref a2), (3, .int (iI x3))] dX5_cryDay_100 (by decide) rfl ?_
            refine X_iinc hK (i := 5) (z := z247) (n := 1) 2 [(5, .int (iI (z247 + 1))), (4, .int (iI z338)), (6, .ref b311), (0, .ref a0), (1, .int (iI x1)), (2, .ref a2), (3, .int (iI x3))] dX5_cryDay_102 rfl (by decide) rfl ?_
            refine X_goto hK 11 dX5_cryDay_105 (by decide) ?_
            refine X_lv [(5, .int (iI (z247 + 1))), (4, .int (iI z338)), (0, .ref a0), (1, .int (iI x1)), (2, .ref a2), (3, .int (iI x3))] [0, 1, 3, 4, 5, 6] rfl ?_
            exact ihP300  g335 (xM.tr (xM.tr xM.rf xLe.rf hg249 (by decide)) xLe.rf hg335 (by decide)) (z247 + 1) (by omega) (by omega) z338 (by omega) (by omega) (by omega)
          · refine X_aloadn hK (i := 0) 3 dX5_cryDay_67 rfl rfl ?_
            refine X_getr hK 4 0 fl_X5_12_6 (qr1 _ _ hs_a0) sl_6_0 dX5_cryDay_68 (fun b339 eb339 hs_b339 => ?_)
            refine X_iloadn hK (i := 1) 4 dX5_cryDay_71 rfl rfl ?_
            refine X_aload hK (i := 6) 0 dX5_cryDay_72 rfl ?_
            refine X_geti hK fl_X5_80_2 hs_b311 sl_2_2 dX5_cryDay_74 (fun z340 ez340 lz340 uz340 => ?_)
            refine X_aload hK (i := 6) 0 dX5_cryDay_77 rfl ?_
            refine X_geti hK fl_X5_77_2 hs_b311 sl_2_1 dX5_cryDay_79 (fun z341 ez341 lz341 uz341 => ?_)
            refine X_callV hK [.int (iI x1), .int (iI z340), .int (iI z341)] [] lk_X5_134 (c_X3_askedOn _ _ _ _ _ S3 g249 b339 x1 z340 z341 hs_b339 (by omega) (by omega) (by omega)) hs_b339 ⟨by decide, rfl⟩ dX5_cryDay_82 rfl rfl (by simp [Value.category]) (by decide) (by omega) (by omega) (by decide) (fun r342 S344 g343 pr342 qr342 hg343 => ?_)
            obtain ⟨rfl, rfl, z345, rfl, lz345, uz345⟩ := pr342
            refine X_st [.int (iI z345)] rfl ?_
            refine X_istore hK (i := 4) [(4, .int (iI z345)), (6, .ref b311), (5, .int (iI z247)), (0, .ref a0), (1, .int (iI x1)), (2, .ref a2), (3, .int (iI x3))] dX5_cryDay_85 (by decide) rfl ?_
            refine X_iload hK (i := 4) 0 dX5_cryDay_87 rfl ?_
            refine X_aloadn hK (i := 0) 3 dX5_cryDay_89 rfl rfl ?_
            refine X_aload hK (i := 6) 1 dX5_cryDay_90 rfl ?_
            refine X_aloadn hK (i := 2) 5 dX5_cryDay_92 rfl rfl ?_
            refine X_iload hK (i := 4) 0 dX5_cryDay_93 rfl ?_
            refine X_iloadn hK (i := 3) 6 dX5_cryDay_95 rfl rfl ?_
            refine X_callV hK [.ref b311, .ref a2, .int (iI z345), .int (iI x3)] [.int (iI z345)] lk_X5_138 (c_X5_cryBundle _ _ _ _ _ S3 g249 a0 b311 a2 z345 x3 (qr1 _ _ hs_a0) hs_b311 (qr1 _ _ hs_a2) (by omega) (by omega)) (qr1 _ _ hs_a0) ⟨by decide, rfl⟩ dX5_cryDay_96 rfl rfl (by simp [Value.category]) (by decide) (by omega) (by omega) (by decide) (fun r346 S348 g347 pr346 qr346 hg347 => ?_)
            obtain ⟨rfl, z349, rfl, lz349, uz349⟩ := pr346
            refine X_st [.int (iI z349), .int (iI z345)] rfl ?_
            refine X_isub hK dX5_cryDay_99 ?_
            refine X_norm (fun z350 ez350 lz350 uz350 => ?_)
            refine X_istore hK (i := 4) [(4, .int (iI z350)), (6, .ref b311), (5, .int (iI z247)), (0, .ref a0), (1, .int (iI x1)), (2, .ref a2), (3, .int (iI x3))] dX5_cryDay_100 (by decide) rfl ?_
            refine X_iinc hK (i := 5) (z := z247) (n := 1) 2 [(5, .int (iI (z247 + 1))), (4, .int (iI z350)), (6, .ref b311), (0, .ref a0), (1, .int (iI x1)), (2, .ref a2), (3, .int (iI x3))] dX5_cryDay_102 rfl (by decide) rfl ?_
            refine X_goto hK 11 dX5_cryDay_105 (by decide) ?_
            refine X_lv [(5, .int (iI (z247 + 1))), (4, .int (iI z350)), (0, .ref a0), (1, .int (iI x1)), (2, .ref a2), (3, .int (iI x3))] [0, 1, 3, 4, 5, 6] rfl ?_
            exact ihP300  g347 (xM.tr (xM.tr xM.rf xLe.rf hg249 (by decide)) xLe.rf hg347 (by decide)) (z247 + 1) (by omega) (by omega) z350 (by omega) (by omega) (by omega)
  exact P300 ((216 - 0 : Int).toNat + 1) g2 xM.rf 0 (by omega) (by omega) 0 (by omega) (by omega) (by omega)

set_option maxHeartbeats 4000000 in
set_option maxRecDepth 100000 in
theorem c_X5_cryClosed (l : Launch) (D : va_G) (kA : Nat → ClassId) (b0 : Nat) (t0 : Nat → Nat) (S : xT) (g : xG) (a0 : Nat) (x1 : Int) (a2 : Nat) (w3 : Nat) (c9 s9 : Nat) (hs_a0 : S a0 = some (6, 0)) (hx1 : (-2147483648) ≤ x1 ∧ x1 ≤ 2147483647) (hs_a2 : S a2 = some (11, 0)) (ew3 : g a0 3 = .ref w3) (hs_w3 : S w3 = some (200, 0)) (hp0 : xLs S g) (hp1 : xSi S t0) (hp2 : xQk S g w3 c9 s9) : xMu l yX5_cryClosed cX5_cryClosed 5 none 9 19 1680 217 D kA b0 t0 [(6, 5), (6, 6), (6, 7), (200, 0), (200, 2), (10403, 0), (200, 1), (12000, 0), (2, 8), (2, 9), (2, 10), (1, 5)] [.ref a0, .int (iI x1), .ref a2] S g (fun (r : Option Value) (S1 : xT) (g1 : xG) (dc ds : Nat) => xNw2 S S1 [10403] ∧ r = none ∧ (xLs S1 g1) ∧ (xSi S1 t0) ∧ (xQk S1 g1 w3 (c9 + dc) (s9 + ds)) ∧ (c9 + dc ≤ 9 ∧ s9 + ds ≤ 718)) := by
  refine xEnterUV (by decide) (by simp [lg_sl, Value.category]) [(0, .ref a0), (1, .int (iI x1)), (2, .ref a2)] rfl ?_
  intro K E hK hret hS0 _ hini ht
  subst ht
  refine X_aloadn hK (i := 0) 0 dX5_cryClosed_0 rfl rfl ?_
  refine X_callV hK [] [] lk_X5_116 (c_X5_startSums _ _ _ _ _ S g a0 hs_a0) hs_a0 ⟨by decide, rfl⟩ dX5_cryClosed_1 rfl rfl (by simp [Value.category]) (by decide) (by omega) (by omega) (by decide) (fun r1 S3 g2 pr1 qr1 hg2 => ?_)
  obtain ⟨rfl, rfl⟩ := pr1
  refine X_st [] rfl ?_
  refine X_iconst hK dX5_cryClosed_4 ?_
  refine X_istoren hK (i := 3) [(3, .int (iI 0)), (0, .ref a0), (1, .int (iI x1)), (2, .ref a2)] dX5_cryClosed_5 rfl (by decide) rfl ?_
  have P230 : ∀ (nP230 : Nat) (S190 : xT) (_ : xLe S S190) (_ : xNw2 S S190 [10403]) (g192 : xG) (_ : xM [(200, 0), (200, 2), (10403, 0), (200, 1), (12000, 0), (6, 5), (6, 7), (6, 6), (2, 8), (2, 9), (2, 10), (1, 5)] S g2 g192) (_ : xLs S190 g192) (dcS190 dsS190 : Nat) (_ : xQk S190 g192 w3 (c9 + dcS190) (s9 + dsS190)) (z191 : Int) (_ : 0 ≤ z191) (_ : z191 ≤ 200) (_ : 216 - z191 < (nP230 : Int)), X K E 6 [(3, .int (iI z191)), (0, .ref a0), (1, .int (iI x1)), (2, .ref a2)] [] S190 g192 dcS190 dsS190 := by
    intro nP230
    induction nP230 with
    | zero => intro S190 qS190 wS190 g192 hg192 AS190 dcS190 dsS190 QS190 z191 lz191 uz191 mP230; exact False.elim (by omega)
    | succ nP230 ihP230 =>
      intro S190 qS190 wS190 g192 hg192 AS190 dcS190 dsS190 QS190 z191 lz191 uz191 mP230
      have qlS190 := xQk.le QS190
      refine X_iloadn hK (i := 3) 0 dX5_cryClosed_6 rfl rfl ?_
      refine X_aloadn hK (i := 0) 1 dX5_cryClosed_7 rfl rfl ?_
      refine X_getr hK 100 0 fl_X5_25_6 (qS190 _ _ hs_a0) sl_6_2 dX5_cryClosed_8 (fun b231 eb231 hs_b231 => ?_)
      refine X_know hs_b231 (by decide) sl_100_2 (fun z232 ez232 lz232 uz232 => ?_)
      refine X_callV hK [] [.int (iI z191)] lk_X5_45 (c_size_100 _ _ _ _ _ S190 g192 b231 z232 hs_b231 (by omega) ez232 AS190) hs_b231 ⟨by decide, rfl⟩ dX5_cryClosed_11 rfl rfl (by simp [Value.category]) (by decide) (by omega) (by omega) (by decide) (fun r233 S235 g234 pr233 qr233 hg234 => ?_)
      obtain ⟨rfl, rfl, z236, rfl, lz236, uz236, k237⟩ := pr233
      refine X_st [.int (iI z236), .int (iI z191)] rfl ?_
      refine X_icmp_ge hK 78 (by omega) (by omega) dX5_cryClosed_14 (by decide) (fun c238 => ?_) (fun c238 => ?_)
      · exact hret _ _ _ _ _ _ dX5_cryClosed_78 ⟨(xNw2.tr xNw2.rf wS190 (by decide)), rfl, AS190, (xSi.nw hp1 wS190 (by decide)), (xQk.cg QS190 (by omega) (by omega)), (xQk.le (xQk.cg QS190 (by omega) (by omega)))⟩ (by omega) (by omega)
      · refine X_aloadn hK (i := 0) 1 dX5_cryClosed_17 rfl rfl ?_
        refine X_getK hK fl_X5_25_6 (qS190 _ _ hs_a0) eb231 dX5_cryClosed_18 ?_
        refine X_iloadn hK (i := 3) 0 dX5_cryClosed_21 rfl rfl ?_
        refine X_callV hK [.int (iI z191)] [] lk_X5_119 (c_get_100 _ _ _ _ _ S190 g192 b231 z191 z232 hs_b231 (by omega) (by omega) ez232 AS190 (by omega)) hs_b231 ⟨by decide, rfl⟩ dX5_cryClosed_22 rfl rfl (by simp [Value.category]) (by decide) (by omega) (by omega) (by decide) (fun r239 S241 g240 pr239 qr239 hg240 => ?_)
        obtain ⟨rfl, rfl, b242, rfl, hs_b242, k243⟩ := pr239
        refine X_st [.ref b242] rfl ?_
        refine X_cast hK hs_b242 ⟨by decide, rfl⟩ m_38_23 dX5_cryClosed_25 ?_
        refine X_geti hK fl_X5_61_2 hs_b242 sl_2_5 dX5_cryClosed_28 (fun z244 ez244 lz244 uz244 => ?_)
        refine X_istore hK (i := 4) [(4, .int (iI z244)), (3, .int (iI z191)), (0, .ref a0), (1, .int (iI x1)), (2, .ref a2)] dX5_cryClosed_31 (by decide) rfl ?_
        refine X_iload hK (i := 4) 0 dX5_cryClosed_33 rfl ?_
        refine X_iloadn hK (i := 1) 3 dX5_cryClosed_35 rfl rfl ?_
        refine X_icmp_ge hK 72 (by omega) (by omega) dX5_cryClosed_36 (by decide) (fun c245 => ?_) (fun c245 => ?_)
        · refine X_iinc hK (i := 3) (z := z191) (n := 1) 1 [(3, .int (iI (z191 + 1))), (4, .int (iI z244)), (0, .ref a0), (1, .int (iI x1)), (2, .ref a2)] dX5_cryClosed_72 rfl (by decide) rfl ?_
          refine X_goto hK 6 dX5_cryClosed_75 (by decide) ?_
          refine X_lv [(3, .int (iI (z191 + 1))), (0, .ref a0), (1, .int (iI x1)), (2, .ref a2)] [0, 2, 3, 4] rfl ?_
          exact ihP230  S190 qS190 (xNw2.tr xNw2.rf wS190 (by decide)) g192 (xM.tr xM.rf xLe.rf hg192 (by decide)) AS190 dcS190 dsS190 (xQk.cg QS190 (by omega) (by omega)) (z191 + 1) (by omega) (by omega) (by omega)
        · refine X_iloadn hK (i := 3) 1 dX5_cryClosed_39 rfl rfl ?_
          refine X_if_eq hK 64 (by omega) dX5_cryClosed_40 (by decide) (fun c246 => ?_) (fun c246 => ?_)
          · refine X_aloadn hK (i := 0) 2 dX5_cryClosed_64 rfl rfl ?_
            refine X_iload hK (i := 4) 0 dX5_cryClosed_65 rfl ?_
            refine X_aloadn hK (i := 2) 4 dX5_cryClosed_67 rfl rfl ?_
            refine X_iconst hK dX5_cryClosed_68 ?_
            refine X_callVU hK [.int (iI z244), .ref a2, .int (iI 0)] [] lk_X5_123 (c_X5_cryDay _ _ _ _ _ S190 g192 a0 z244 a2 0 w3 (c9 + dcS190) (s9 + dsS190) (qS190 _ _ hs_a0) (by omega) (qS190 _ _ hs_a2) (by omega) ((hg192 a0 6 0 3 hs_a0 (by decide)).trans ((hg2 a0 6 0 3 hs_a0 (by decide)).trans ew3)) (qS190 _ _ hs_w3) AS190 (xSi.nw hp1 wS190 (by decide)) QS190) (qS190 _ _ hs_a0) ⟨by decide, rfl⟩ dX5_cryClosed_69 rfl rfl (by simp [Value.category]) (by decide) (by omega) (by omega) (by decide) (fun r247 S249 g248 dcr247 dsr247 pr247 qr247 hg248 => ?_)
            obtain ⟨wr247, rfl, k250, k251, k252, k253⟩ := pr247
            refine X_st [] rfl ?_
            refine X_iinc hK (i := 3) (z := z191) (n := 1) 1 [(3, .int (iI (z191 + 1))), (4, .int (iI z244)), (0, .ref a0), (1, .int (iI x1)), (2, .ref a2)] dX5_cryClosed_72 rfl (by decide) rfl ?_
            refine X_goto hK 6 dX5_cryClosed_75 (by decide) ?_
            refine X_lv [(3, .int (iI (z191 + 1))), (0, .ref a0), (1, .int (iI x1)), (2, .ref a2)] [0, 2, 3, 4] rfl ?_
            exact ihP230  S249 (xLe.tr qS190 qr247) (xNw2.tr (xNw2.tr xNw2.rf wS190 (by decide)) wr247 (by decide)) g248 (xM.tr (xM.tr xM.rf xLe.rf hg192 (by decide)) qS190 hg248 (by decide)) k250 (dcS190 + dcr247) (dsS190 + dsr247) (xQk.cg k252 (by omega) (by omega)) (z191 + 1) (by omega) (by omega) (by omega)
          · refine X_aloadn hK (i := 0) 2 dX5_cryClosed_43 rfl rfl ?_
            refine X_getK hK fl_X5_25_6 (qS190 _ _ hs_a0) eb231 dX5_cryClosed_44 ?_
            refine X_iloadn hK (i := 3) 1 dX5_cryClosed_47 rfl rfl ?_
            refine X_iconst hK dX5_cryClosed_48 ?_
            refine X_isub hK dX5_cryClosed_49 ?_
            refine X_callV hK [.int (iI (z191 - 1))] [] lk_X5_119 (c_get_100 _ _ _ _ _ S190 g192 b231 (z191 - 1) z232 hs_b231 (by omega) (by omega) ez232 AS190 (by omega)) hs_b231 ⟨by decide, rfl⟩ dX5_cryClosed_50 rfl rfl (by simp [Value.category]) (by decide) (by omega) (by omega) (by decide) (fun r254 S256 g255 pr254 qr254 hg255 => ?_)
            obtain ⟨rfl, rfl, b257, rfl, hs_b257, k258⟩ := pr254
            refine X_st [.ref b257] rfl ?_
            refine X_cast hK hs_b257 ⟨by decide, rfl⟩ m_38_23 dX5_cryClosed_53 ?_
            refine X_geti hK fl_X5_61_2 hs_b257 sl_2_5 dX5_cryClosed_56 (fun z259 ez259 lz259 uz259 => ?_)
            refine X_iload hK (i := 4) 0 dX5_cryClosed_59 rfl ?_
            refine X_icmp_eq hK 72 (by omega) (by omega) dX5_cryClosed_61 (by decide) (fun c260 => ?_) (fun c260 => ?_)
            · refine X_iinc hK (i := 3) (z := z191) (n := 1) 1 [(3, .int (iI (z191 + 1))), (4, .int (iI z244)), (0, .ref a0), (1, .int (iI x1)), (2, .ref a2)] dX5_cryClosed_72 rfl (by decide) rfl ?_
              refine X_goto hK 6 dX5_cryClosed_75 (by decide) ?_
              refine X_lv [(3, .int (iI (z191 + 1))), (0, .ref a0), (1, .int (iI x1)), (2, .ref a2)] [0, 2, 3, 4] rfl ?_
              exact ihP230  S190 qS190 (xNw2.tr xNw2.rf wS190 (by decide)) g192 (xM.tr xM.rf xLe.rf hg192 (by decide)) AS190 dcS190 dsS190 (xQk.cg QS190 (by omega) (by omega)) (z191 + 1) (by omega) (by omega) (by omega)
            · refine X_aloadn hK (i := 0) 2 dX5_cryClosed_64 rfl rfl ?_
              refine X_iload hK (i := 4) 0 dX5_cryClosed_65 rfl ?_
              refine X_aloadn hK (i := 2) 4 dX5_cryClosed_67 rfl rfl ?_
              refine X_iconst hK dX5_cryClosed_68 ?_
              refine X_callVU hK [.int (iI z244), .ref a2, .int (iI 0)] [] lk_X5_123 (c_X5_cryDay _ _ _ _ _ S190 g192 a0 z244 a2 0 w3 (c9 + dcS190) (s9 + dsS190) (qS190 _ _ hs_a0) (by omega) (qS190 _ _ hs_a2) (by omega) ((hg192 a0 6 0 3 hs_a0 (by decide)).trans ((hg2 a0 6 0 3 hs_a0 (by decide)).trans ew3)) (qS190 _ _ hs_w3) AS190 (xSi.nw hp1 wS190 (by decide)) QS190) (qS190 _ _ hs_a0) ⟨by decide, rfl⟩ dX5_cryClosed_69 rfl rfl (by simp [Value.category]) (by decide) (by omega) (by omega) (by decide) (fun r261 S263 g262 dcr261 dsr261 pr261 qr261 hg262 => ?_)
              obtain ⟨wr261, rfl, k264, k265, k266, k267⟩ := pr261
              refine X_st [] rfl ?_
              refine X_iinc hK (i := 3) (z := z191) (n := 1) 1 [(3, .int (iI (z191 + 1))), (4, .int (iI z244)), (0, .ref a0), (1, .int (iI x1)), (2, .ref a2)] dX5_cryClosed_72 rfl (by decide) rfl ?_
              refine X_goto hK 6 dX5_cryClosed_75 (by decide) ?_
              refine X_lv [(3, .int (iI (z191 + 1))), (0, .ref a0), (1, .int (iI x1)), (2, .ref a2)] [0, 2, 3, 4] rfl ?_
              exact ihP230  S263 (xLe.tr qS190 qr261) (xNw2.tr (xNw2.tr xNw2.rf wS190 (by decide)) wr261 (by decide)) g262 (xM.tr (xM.tr xM.rf xLe.rf hg192 (by decide)) qS190 hg262 (by decide)) k264 (dcS190 + dcr261) (dsS190 + dsr261) (xQk.cg k266 (by omega) (by omega)) (z191 + 1) (by omega) (by omega) (by omega)
  exact P230 ((216 - 0 : Int).toNat + 1) S xLe.rf xNw2.rf g2 xM.rf (xLs_mod hp0 hg2 (by decide)) 0 0 (xQk.cg (xQk_mod hp2 hs_w3 hg2 (by decide)) (by omega) (by omega)) 0 (by omega) (by omega) (by omega)

set_option maxHeartbeats 4000000 in
set_option maxRecDepth 100000 in
theorem c_X11_close (l : Launch) (D : va_G) (kA : Nat → ClassId) (b0 : Nat) (t0 : Nat → Nat) (S : xT) (g : xG) (a0 : Nat) (td : Int) (hs_a0 : S a0 = some (12, 0)) (htd : 0 ≤ td ∧ td ≤ 400) (etd : g a0 12 = .int (iI td)) (hp0 : xLs S g) (hp1 : xSi S t0) : xMu l yX11_close cX11_close 1 (some .int) 9 10 962 217 D kA b0 t0 [(6, 5), (6, 6), (6, 7), (200, 0), (200, 2), (10403, 0), (200, 1), (12000, 0), (2, 8), (2, 9), (2, 10), (1, 5), (12, 12)] [.ref a0] S g (fun (r : Option Value) (S1 : xT) (g1 : xG) (dc ds : Nat) => xNw2 S S1 [10403] ∧ ∃ z : Int, r = some (.int (iI z)) ∧ (-2147483648) ≤ z ∧ z ≤ 2147483647 ∧ (xLs S1 g1) ∧ (xSi S1 t0) ∧ (dc ≤ 9 ∧ ds ≤ 718) ∧ (g1 a0 12 = .int (iI (if td < 400 then td + 1 else td)))) := by
  refine xEnterUI (by decide) (by simp [lg_sl, Value.category]) [(0, .ref a0)] rfl ?_
  intro K E hK hret hS0 _ hini ht
  subst ht
  refine X_aloadn hK (i := 0) 0 dX11_close_0 rfl rfl ?_
  refine X_getK hK fl_X11_83_12 hs_a0 etd dX11_close_1 ?_
  refine X_sipush hK dX11_close_4 (by decide) ?_
  refine X_icmp_lt hK 12 (by omega) (by omega) dX11_close_7 (by decide) (fun c1 => ?_) (fun c1 => ?_)
  · refine X_aloadn hK (i := 0) 0 dX11_close_12 rfl rfl ?_
    refine X_getr hK 6 0 fl_X11_19_12 hs_a0 sl_12_1 dX11_close_13 (fun b2 eb2 hs_b2 => ?_)
    refine X_callV hK [] [] lk_X11_242 (c_X5_startSums _ _ _ _ _ S g b2 hs_b2) hs_b2 ⟨by decide, rfl⟩ dX11_close_16 rfl rfl (by simp [Value.category]) (by decide) (by omega) (by omega) (by decide) (fun r3 S5 g4 pr3 qr3 hg4 => ?_)
    obtain ⟨rfl, rfl⟩ := pr3
    refine X_st [] rfl ?_
    refine X_aloadn hK (i := 0) 0 dX11_close_19 rfl rfl ?_
    refine X_getK hK fl_X11_19_12 hs_a0 ((hg4 a0 12 0 1 hs_a0 (by decide)).trans eb2) dX11_close_20 ?_
    refine X_aloadn hK (i := 0) 0 dX11_close_23 rfl rfl ?_
    refine X_getK hK fl_X11_83_12 hs_a0 ((hg4 a0 12 0 12 hs_a0 (by decide)).trans etd) dX11_close_24 ?_
    refine X_aloadn hK (i := 0) 0 dX11_close_27 rfl rfl ?_
    refine X_aloadn hK (i := 0) 0 dX11_close_28 rfl rfl ?_
    refine X_getK hK fl_X11_83_12 hs_a0 ((hg4 a0 12 0 12 hs_a0 (by decide)).trans etd) dX11_close_29 ?_
    refine X_callV hK [.int (iI td)] [.int (iI td), .ref b2] lk_X11_213 (c_X11_inForce _ _ _ _ _ S g4 a0 td hs_a0 (by omega) (xLs_mod hp0 hg4 (by decide))) hs_a0 ⟨by decide, rfl⟩ dX11_close_32 rfl rfl (by simp [Value.category]) (by decide) (by omega) (by omega) (by decide) (fun r6 S8 g7 pr6 qr6 hg7 => ?_)
    obtain ⟨rfl, rfl, b9, rfl, hs_b9⟩ := pr6
    refine X_st [.ref b9, .int (iI td), .ref b2] rfl ?_
    refine X_iconst hK dX11_close_35 ?_
    refine X_knowr 200 0 hs_b2 (by decide) sl_6_3 (fun b10 eb10 hs_b10 => ?_)
    refine X_callVU hK [.int (iI td), .ref b9, .int (iI 1)] [] lk_X11_245 (c_X5_cryDay _ _ _ _ _ S g4 b2 td b9 1 b10 0 0 hs_b2 (by omega) hs_b9 (by omega) eb10 hs_b10 (xLs_mod hp0 hg4 (by decide)) hp1 (xQk_0 (xLs_mod hp0 hg4 (by decide)) hs_b10)) hs_b2 ⟨by decide, rfl⟩ dX11_close_36 rfl rfl (by simp [Value.category]) (by decide) (by omega) (by omega) (by decide) (fun r11 S13 g12 dcr11 dsr11 pr11 qr11 hg12 => ?_)
    obtain ⟨wr11, rfl, k14, k15, k16, k17⟩ := pr11
    refine X_st [] rfl ?_
    refine X_aloadn hK (i := 0) 0 dX11_close_39 rfl rfl ?_
    refine X_dup hK dX11_close_40 rfl ?_
    refine X_getK hK fl_X11_83_12 (qr11 _ _ hs_a0) ((hg12 a0 12 0 12 hs_a0 (by decide)).trans ((hg4 a0 12 0 12 hs_a0 (by decide)).trans etd)) dX11_close_41 ?_
    refine X_iconst hK dX11_close_44 ?_
    refine X_iadd hK dX11_close_45 ?_
    refine X_puti hK fl_X11_83_12 (qr11 _ _ hs_a0) (by decide) sl_12_12 (by omega) (by omega) dX11_close_46 (fun g18 hg18 => ?_)
    refine X_aloadn hK (i := 0) 0 dX11_close_49 rfl rfl ?_
    refine X_getK hK fl_X11_19_12 (qr11 _ _ hs_a0) ((xs_k hg18 (by decide)).trans ((hg12 a0 12 0 1 hs_a0 (by decide)).trans ((hg4 a0 12 0 1 hs_a0 (by decide)).trans eb2))) dX11_close_50 ?_
    refine X_geti hK fl_X11_249_6 (qr11 _ _ hs_b2) sl_6_5 dX11_close_53 (fun z19 ez19 lz19 uz19 => ?_)
    exact hret _ _ _ _ _ _ _ dX11_close_56 ⟨(xNw2.tr xNw2.rf wr11 (by decide)), z19, rfl, (by omega), (by omega), (xLs_up k14 hg18 (qr11 _ _ hs_a0) (by decide)), k15, (by omega), ((xs_s hg18).trans (by congr 2 <;> omega))⟩ (by omega) (by omega)
  · refine X_iconst hK dX11_close_10 ?_
    exact hret _ _ _ _ _ _ _ dX11_close_11 ⟨xNw2.rf, (-1), rfl, (by omega), (by omega), hp0, hp1, (by omega), (etd.trans (by congr 2 <;> omega))⟩ (by omega) (by omega)

set_option maxHeartbeats 4000000 in
set_option maxRecDepth 100000 in
theorem c_X11_tried (l : Launch) (D : va_G) (kA : Nat → ClassId) (b0 : Nat) (t0 : Nat → Nat) (S : xT) (g : xG) (a0 : Nat) (w0 : Nat) (n0 : Int) (y0 : Nat) (hs_a0 : S a0 = some (12, 0)) (ew0 : g a0 0 = .ref w0) (hs_w0 : S w0 = some (10, 0)) (hn0 : 0 ≤ n0 ∧ n0 ≤ 420) (en0 : g w0 1 = .int (iI n0)) (ey0 : g w0 0 = .ref y0) (hs_y0 : S y0 = some (13500, 420)) (hp0 : xLs S g) (hp1 : xSi S t0) : xMu l yX11_tried cX11_tried 1 (some .int) 36 19 1680 838 D kA b0 t0 [(12900, 0), (13000, 0), (8, 2), (8, 3), (8, 4), (8, 5), (8, 6), (11, 1), (11, 2), (13600, 0), (13700, 0), (13800, 0), (13900, 0), (14000, 0), (12, 13), (10, 1), (6, 5), (6, 6), (6, 7), (200, 0), (200, 2), (10403, 0), (200, 1), (12000, 0), (2, 8), (2, 9), (2, 10), (1, 5), (12, 15)] [.ref a0] S g (fun (r : Option Value) (S1 : xT) (g1 : xG) (dc ds : Nat) => xNw2 S S1 [10403] ∧ ∃ z : Int, r = some (.int (iI z)) ∧ (-2147483648) ≤ z ∧ z ≤ 2147483647 ∧ (xLs S1 g1) ∧ (xSi S1 t0) ∧ (dc ≤ 9 ∧ ds ≤ 718) ∧ (g1 w0 1 = .int (iI (0))) ∧ (∃ F1 : Int, g1 a0 13 = .int (iI F1) ∧ (-2147483648 ≤ F1 ∧ F1 ≤ 2147483647) ∧ ∃ m q, xTX (xv g y0) n0 F1 m q)) := by
  refine xEnterUI (by decide) (by simp [lg_sl, Value.category]) [(0, .ref a0)] rfl ?_
  intro K E hK hret hS0 _ hini ht
  subst ht
  refine X_aloadn hK (i := 0) 0 dX11_tried_0 rfl rfl ?_
  refine X_getr hK 8 0 fl_X11_52_12 hs_a0 sl_12_6 dX11_tried_1 (fun b1 eb1 hs_b1 => ?_)
  refine X_aloadn hK (i := 0) 0 dX11_tried_4 rfl rfl ?_
  refine X_getK hK fl_X11_10_12 hs_a0 ew0 dX11_tried_5 ?_
  refine X_aloadn hK (i := 0) 0 dX11_tried_8 rfl rfl ?_
  refine X_getr hK 11 0 fl_X11_56_12 hs_a0 sl_12_7 dX11_tried_9 (fun b2 eb2 hs_b2 => ?_)
  refine X_knowr 12900 301 hs_b1 (by decide) sl_8_0 (fun b3 eb3 hs_b3 => ?_)
  refine X_knowr 13000 301 hs_b1 (by decide) sl_8_1 (fun b4 eb4 hs_b4 => ?_)
  refine X_callV hK [.ref w0, .ref b2] [] lk_X11_193 (c3_read _ _ _ _ _ S g b1 w0 b2 b3 b4 y0 n0 hs_b1 hs_w0 hs_b2 eb3 hs_b3 eb4 hs_b4 ey0 hs_y0 (by omega) en0) hs_b1 ⟨by decide, rfl⟩ dX11_tried_12 rfl rfl (by simp [Value.category]) (by decide) (by omega) (by omega) (by decide) (fun r5 S7 g6 pr5 qr5 hg6 => ?_)
  obtain ⟨rfl, rfl, k8⟩ := pr5
  refine X_st [] rfl ?_
  obtain ⟨Ft9, mt9, qt9, eFt9, lFt9, uFt9, emt9, lmt9, umt9, eqt9, lqt9, uqt9, kt9⟩ := k8
  refine X_aloadn hK (i := 0) 0 dX11_tried_15 rfl rfl ?_
  refine X_aloadn hK (i := 0) 0 dX11_tried_16 rfl rfl ?_
  refine X_getK hK fl_X11_52_12 hs_a0 ((hg6 a0 12 0 6 hs_a0 (by decide)).trans eb1) dX11_tried_17 ?_
  refine X_getK hK fl_X11_197_8 hs_b1 eFt9 dX11_tried_20 ?_
  refine X_puti hK fl_X11_87_12 hs_a0 (by decide) sl_12_13 (by omega) (by omega) dX11_tried_23 (fun g10 hg10 => ?_)
  refine X_aloadn hK (i := 0) 0 dX11_tried_26 rfl rfl ?_
  refine X_getK hK fl_X11_10_12 hs_a0 ((xs_k hg10 (by decide)).trans ((hg6 a0 12 0 0 hs_a0 (by decide)).trans ew0)) dX11_tried_27 ?_
  refine X_iconst hK dX11_tried_30 ?_
  refine X_puti hK fl_X11_102_10 hs_w0 (by decide) sl_10_1 (by omega) (by omega) dX11_tried_31 (fun g11 hg11 => ?_)
  refine X_aloadn hK (i := 0) 0 dX11_tried_34 rfl rfl ?_
  refine X_getK hK fl_X11_87_12 hs_a0 ((xs_k hg11 (by decide)).trans (xs_s hg10)) dX11_tried_35 ?_
  refine X_if_eq hK 53 (by omega) dX11_tried_38 (by decide) (fun c12 => ?_) (fun c12 => ?_)
  · refine X_aloadn hK (i := 0) 0 dX11_tried_53 rfl rfl ?_
    refine X_getr hK 6 0 fl_X11_19_12 hs_a0 sl_12_1 dX11_tried_54 (fun b13 eb13 hs_b13 => ?_)
    refine X_aloadn hK (i := 0) 0 dX11_tried_57 rfl rfl ?_
    refine X_geti hK fl_X11_83_12 hs_a0 sl_12_12 dX11_tried_58 (fun z14 ez14 lz14 uz14 => ?_)
    refine X_aloadn hK (i := 0) 0 dX11_tried_61 rfl rfl ?_
    refine X_getK hK fl_X11_56_12 hs_a0 ((xs_k hg11 (by decide)).trans ((xs_k hg10 (by decide)).trans ((hg6 a0 12 0 7 hs_a0 (by decide)).trans eb2))) dX11_tried_62 ?_
    refine X_knowr 200 0 hs_b13 (by decide) sl_6_3 (fun b15 eb15 hs_b15 => ?_)
    refine X_callVU hK [.int (iI z14), .ref b2] [] lk_X11_308 (c_X5_cryClosed _ _ _ _ _ S g11 b13 z14 b2 b15 0 0 hs_b13 (by omega) hs_b2 eb15 hs_b15 (xLs_up (xLs_up (xLs_mod hp0 hg6 (by decide)) hg10 hs_a0 (by decide)) hg11 hs_w0 (by decide)) hp1 (xQk_0 (xLs_up (xLs_up (xLs_mod hp0 hg6 (by decide)) hg10 hs_a0 (by decide)) hg11 hs_w0 (by decide)) hs_b15)) hs_b13 ⟨by decide, rfl⟩ dX11_tried_65 rfl rfl (by simp [Value.category]) (by decide) (by omega) (by omega) (by decide) (fun r16 S18 g17 dcr16 dsr16 pr16 qr16 hg17 => ?_)
    obtain ⟨wr16, rfl, k19, k20, k21, k22⟩ := pr16
    refine X_st [] rfl ?_
    refine X_aloadn hK (i := 0) 0 dX11_tried_68 rfl rfl ?_
    refine X_aloadn hK (i := 0) 0 dX11_tried_69 rfl rfl ?_
    refine X_getK hK fl_X11_19_12 (qr16 _ _ hs_a0) ((hg17 a0 12 0 1 hs_a0 (by decide)).trans eb13) dX11_tried_70 ?_
    refine X_geti hK fl_X11_312_6 (qr16 _ _ hs_b13) sl_6_7 dX11_tried_73 (fun z23 ez23 lz23 uz23 => ?_)
    refine X_puti hK fl_X11_93_12 (qr16 _ _ hs_a0) (by decide) sl_12_15 (by omega) (by omega) dX11_tried_76 (fun g24 hg24 => ?_)
    refine X_aloadn hK (i := 0) 0 dX11_tried_79 rfl rfl ?_
    refine X_getK hK fl_X11_19_12 (qr16 _ _ hs_a0) ((xs_k hg24 (by decide)).trans ((hg17 a0 12 0 1 hs_a0 (by decide)).trans eb13)) dX11_tried_80 ?_
    refine X_geti hK fl_X11_315_6 (qr16 _ _ hs_b13) sl_6_6 dX11_tried_83 (fun z25 ez25 lz25 uz25 => ?_)
    exact hret _ _ _ _ _ _ _ dX11_tried_86 ⟨(xNw2.tr xNw2.rf wr16 (by decide)), z25, rfl, (by omega), (by omega), (xLs_up k19 hg24 (qr16 _ _ hs_a0) (by decide)), k20, (by omega), (((xs_k hg24 (by decide)).trans ((hg17 w0 10 0 1 hs_w0 (by decide)).trans (xs_s hg11))).trans (by congr 2 <;> omega)), ⟨Ft9, ((xs_k hg24 (by decide)).trans ((hg17 a0 12 0 13 hs_a0 (by decide)).trans ((xs_k hg11 (by decide)).trans (xs_s hg10)))), by omega, mt9, qt9, kt9⟩⟩ (by omega) (by omega)
  · refine X_ldcw hK (n := -1000000000) dX11_tried_41 m_47_18 (by decide) ?_
    refine X_aloadn hK (i := 0) 0 dX11_tried_44 rfl rfl ?_
    refine X_getK hK fl_X11_52_12 hs_a0 ((xs_k hg11 (by decide)).trans ((xs_k hg10 (by decide)).trans ((hg6 a0 12 0 6 hs_a0 (by decide)).trans eb1))) dX11_tried_45 ?_
    refine X_getK hK fl_X11_202_8 hs_b1 ((xs_k hg11 (by decide)).trans ((xs_k hg10 (by decide)).trans eqt9)) dX11_tried_48 ?_
    refine X_isub hK dX11_tried_51 ?_
    exact hret _ _ _ _ _ _ _ dX11_tried_52 ⟨xNw2.rf, ((-1000000000) - qt9), rfl, (by omega), (by omega), (xLs_up (xLs_up (xLs_mod hp0 hg6 (by decide)) hg10 hs_a0 (by decide)) hg11 hs_w0 (by decide)), hp1, (by omega), ((xs_s hg11).trans (by congr 2 <;> omega)), ⟨Ft9, ((xs_k hg11 (by decide)).trans (xs_s hg10)), by omega, mt9, qt9, kt9⟩⟩ (by omega) (by omega)
