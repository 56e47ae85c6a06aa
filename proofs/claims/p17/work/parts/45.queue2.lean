theorem m_4_3 : Cond.fieldLink RX5 28 "PaperBoys$Market" "queue" "Ljava/util/ArrayList;" ∈ wsL_law := ch_4 _ (List.mem_of_getElem? (i := 3) rfl)
theorem m_38_14 : Cond.fieldLink RX11 249 "PaperBoys$Market" "soldSum" "I" ∈ wsL_law := ch_38 _ (List.mem_of_getElem? (i := 14) rfl)
theorem m_38_15 : Cond.methodLink RX11 242 yX5_startSums ∈ wsL_law := ch_38 _ (List.mem_of_getElem? (i := 15) rfl)
theorem m_38_16 : Cond.instanceMethod yX5_startSums ∈ wsL_law := ch_38 _ (List.mem_of_getElem? (i := 16) rfl)
theorem m_38_17 : Cond.selects RX5 yX5_startSums yX5_startSums ∈ wsL_law := ch_38 _ (List.mem_of_getElem? (i := 17) rfl)
theorem m_38_18 : Cond.code yX5_startSums cX5_startSums 1 none ∈ wsL_law := ch_38 _ (List.mem_of_getElem? (i := 18) rfl)
theorem m_38_19 : Cond.methodLink RX11 245 yX5_cryDay ∈ wsL_law := ch_38 _ (List.mem_of_getElem? (i := 19) rfl)
theorem m_38_20 : Cond.instanceMethod yX5_cryDay ∈ wsL_law := ch_38 _ (List.mem_of_getElem? (i := 20) rfl)
theorem m_38_21 : Cond.selects RX5 yX5_cryDay yX5_cryDay ∈ wsL_law := ch_38 _ (List.mem_of_getElem? (i := 21) rfl)
theorem m_38_22 : Cond.code yX5_cryDay cX5_cryDay 7 none ∈ wsL_law := ch_38 _ (List.mem_of_getElem? (i := 22) rfl)
theorem m_39_1 : Cond.methodLink RX5 127 yX5_lineUp ∈ wsL_law := ch_39 _ (List.mem_of_getElem? (i := 1) rfl)
theorem m_39_2 : Cond.instanceMethod yX5_lineUp ∈ wsL_law := ch_39 _ (List.mem_of_getElem? (i := 2) rfl)
theorem m_39_3 : Cond.selects RX5 yX5_lineUp yX5_lineUp ∈ wsL_law := ch_39 _ (List.mem_of_getElem? (i := 3) rfl)
theorem m_39_4 : Cond.code yX5_lineUp cX5_lineUp 5 none ∈ wsL_law := ch_39 _ (List.mem_of_getElem? (i := 4) rfl)
theorem m_39_5 : Cond.methodLink RX5 162 yJx4a65c_clear_da8c8 ∈ wsL_law := ch_39 _ (List.mem_of_getElem? (i := 5) rfl)
theorem m_39_6 : Cond.instanceMethod yJx4a65c_clear_da8c8 ∈ wsL_law := ch_39 _ (List.mem_of_getElem? (i := 6) rfl)
theorem m_39_7 : Cond.selects RJx4a65c yJx4a65c_clear_da8c8 yJx4a65c_clear_da8c8 ∈ wsL_law := ch_39 _ (List.mem_of_getElem? (i := 7) rfl)
theorem m_39_8 : Cond.code yJx4a65c_clear_da8c8 cJx4a65c_clear_da8c8 4 none ∈ wsL_law := ch_39 _ (List.mem_of_getElem? (i := 8) rfl)
theorem m_39_10 : Cond.methodLink RX5 165 yX5_isAhead ∈ wsL_law := ch_39 _ (List.mem_of_getElem? (i := 10) rfl)
theorem m_39_11 : Cond.instanceMethod yX5_isAhead ∈ wsL_law := ch_39 _ (List.mem_of_getElem? (i := 11) rfl)
theorem m_39_12 : Cond.selects RX5 yX5_isAhead yX5_isAhead ∈ wsL_law := ch_39 _ (List.mem_of_getElem? (i := 12) rfl)
theorem m_39_13 : Cond.code yX5_isAhead cX5_isAhead 3 (some .boolean) ∈ wsL_law := ch_39 _ (List.mem_of_getElem? (i := 13) rfl)
theorem m_39_14 : Cond.methodLink RX5 169 yJx4a65c_add_7a177 ∈ wsL_law := ch_39 _ (List.mem_of_getElem? (i := 14) rfl)
theorem m_39_15 : Cond.instanceMethod yJx4a65c_add_7a177 ∈ wsL_law := ch_39 _ (List.mem_of_getElem? (i := 15) rfl)
theorem m_39_16 : Cond.selects RJx4a65c yJx4a65c_add_7a177 yJx4a65c_add_7a177 ∈ wsL_law := ch_39 _ (List.mem_of_getElem? (i := 16) rfl)
theorem m_39_17 : Cond.code yJx4a65c_add_7a177 cJx4a65c_add_7a177 5 none ∈ wsL_law := ch_39 _ (List.mem_of_getElem? (i := 17) rfl)
theorem m_39_23 : Cond.methodLink RX5 134 yX3_askedOn ∈ wsL_law := ch_39 _ (List.mem_of_getElem? (i := 23) rfl)
theorem m_40_0 : Cond.instanceMethod yX3_askedOn ∈ wsL_law := ch_40 _ (List.mem_of_getElem? (i := 0) rfl)
theorem m_40_1 : Cond.selects RX3 yX3_askedOn yX3_askedOn ∈ wsL_law := ch_40 _ (List.mem_of_getElem? (i := 1) rfl)
theorem m_40_2 : Cond.code yX3_askedOn cX3_askedOn 4 (some .int) ∈ wsL_law := ch_40 _ (List.mem_of_getElem? (i := 2) rfl)
theorem m_40_4 : Cond.methodLink RX5 138 yX5_cryBundle ∈ wsL_law := ch_40 _ (List.mem_of_getElem? (i := 4) rfl)
theorem m_40_5 : Cond.instanceMethod yX5_cryBundle ∈ wsL_law := ch_40 _ (List.mem_of_getElem? (i := 5) rfl)
theorem m_40_6 : Cond.selects RX5 yX5_cryBundle yX5_cryBundle ∈ wsL_law := ch_40 _ (List.mem_of_getElem? (i := 6) rfl)
theorem m_40_7 : Cond.code yX5_cryBundle cX5_cryBundle 10 (some .int) ∈ wsL_law := ch_40 _ (List.mem_of_getElem? (i := 7) rfl)
theorem m_47_18 : Cond.constant RX11 307 (-1000000000) ∈ wsL_law := ch_47 _ (List.mem_of_getElem? (i := 18) rfl)
theorem m_47_19 : Cond.fieldLink RX11 312 "PaperBoys$Market" "eatenSum" "I" ∈ wsL_law := ch_47 _ (List.mem_of_getElem? (i := 19) rfl)
theorem m_47_20 : Cond.fieldLink RX11 315 "PaperBoys$Market" "gainSum" "I" ∈ wsL_law := ch_47 _ (List.mem_of_getElem? (i := 20) rfl)
theorem m_47_21 : Cond.methodLink RX11 308 yX5_cryClosed ∈ wsL_law := ch_47 _ (List.mem_of_getElem? (i := 21) rfl)
theorem m_47_22 : Cond.instanceMethod yX5_cryClosed ∈ wsL_law := ch_47 _ (List.mem_of_getElem? (i := 22) rfl)
theorem m_47_23 : Cond.selects RX5 yX5_cryClosed yX5_cryClosed ∈ wsL_law := ch_47 _ (List.mem_of_getElem? (i := 23) rfl)
theorem m_48_0 : Cond.code yX5_cryClosed cX5_cryClosed 5 none ∈ wsL_law := ch_48 _ (List.mem_of_getElem? (i := 0) rfl)
theorem m_48_1 : Cond.methodLink RX5 116 yX5_startSums ∈ wsL_law := ch_48 _ (List.mem_of_getElem? (i := 1) rfl)
theorem m_48_2 : Cond.methodLink RX5 123 yX5_cryDay ∈ wsL_law := ch_48 _ (List.mem_of_getElem? (i := 2) rfl)
theorem dX11_close_0 : decode cX11_close 0 = .ok (.aload_n 0, 1) := by decide +kernel
theorem dX11_close_1 : decode cX11_close 1 = .ok (.getfield 83, 3) := by decide +kernel
theorem dX11_close_4 : decode cX11_close 4 = .ok (.sipush 400, 3) := by decide +kernel
theorem dX11_close_7 : decode cX11_close 7 = .ok (.if_icmp .lt 5, 3) := by decide +kernel
theorem dX11_close_10 : decode cX11_close 10 = .ok (.iconst (-1), 1) := by decide +kernel
theorem dX11_close_11 : decode cX11_close 11 = .ok (.ireturn, 1) := by decide +kernel
theorem dX11_close_12 : decode cX11_close 12 = .ok (.aload_n 0, 1) := by decide +kernel
theorem dX11_close_13 : decode cX11_close 13 = .ok (.getfield 19, 3) := by decide +kernel
theorem dX11_close_16 : decode cX11_close 16 = .ok (.invokevirtual 242, 3) := by decide +kernel
theorem dX11_close_19 : decode cX11_close 19 = .ok (.aload_n 0, 1) := by decide +kernel
theorem dX11_close_20 : decode cX11_close 20 = .ok (.getfield 19, 3) := by decide +kernel
theorem dX11_close_23 : decode cX11_close 23 = .ok (.aload_n 0, 1) := by decide +kernel
theorem dX11_close_24 : decode cX11_close 24 = .ok (.getfield 83, 3) := by decide +kernel
theorem dX11_close_27 : decode cX11_close 27 = .ok (.aload_n 0, 1) := by decide +kernel
theorem dX11_close_28 : decode cX11_close 28 = .ok (.aload_n 0, 1) := by decide +kernel
theorem dX11_close_29 : decode cX11_close 29 = .ok (.getfield 83, 3) := by decide +kernel
theorem dX11_close_32 : decode cX11_close 32 = .ok (.invokevirtual 213, 3) := by decide +kernel
theorem dX11_close_35 : decode cX11_close 35 = .ok (.iconst 1, 1) := by decide +kernel
theorem dX11_close_36 : decode cX11_close 36 = .ok (.invokevirtual 245, 3) := by decide +kernel
theorem dX11_close_39 : decode cX11_close 39 = .ok (.aload_n 0, 1) := by decide +kernel
theorem dX11_close_40 : decode cX11_close 40 = .ok (.dup, 1) := by decide +kernel
theorem dX11_close_41 : decode cX11_close 41 = .ok (.getfield 83, 3) := by decide +kernel
theorem dX11_close_44 : decode cX11_close 44 = .ok (.iconst 1, 1) := by decide +kernel
theorem dX11_close_45 : decode cX11_close 45 = .ok (.iadd, 1) := by decide +kernel
theorem dX11_close_46 : decode cX11_close 46 = .ok (.putfield 83, 3) := by decide +kernel
theorem dX11_close_49 : decode cX11_close 49 = .ok (.aload_n 0, 1) := by decide +kernel
theorem dX11_close_50 : decode cX11_close 50 = .ok (.getfield 19, 3) := by decide +kernel
theorem dX11_close_53 : decode cX11_close 53 = .ok (.getfield 249, 3) := by decide +kernel
theorem dX11_close_56 : decode cX11_close 56 = .ok (.ireturn, 1) := by decide +kernel
theorem dX11_tried_0 : decode cX11_tried 0 = .ok (.aload_n 0, 1) := by decide +kernel
theorem dX11_tried_1 : decode cX11_tried 1 = .ok (.getfield 52, 3) := by decide +kernel
theorem dX11_tried_4 : decode cX11_tried 4 = .ok (.aload_n 0, 1) := by decide +kernel
theorem dX11_tried_5 : decode cX11_tried 5 = .ok (.getfield 10, 3) := by decide +kernel
theorem dX11_tried_8 : decode cX11_tried 8 = .ok (.aload_n 0, 1) := by decide +kernel
theorem dX11_tried_9 : decode cX11_tried 9 = .ok (.getfield 56, 3) := by decide +kernel
theorem dX11_tried_12 : decode cX11_tried 12 = .ok (.invokevirtual 193, 3) := by decide +kernel
theorem dX11_tried_15 : decode cX11_tried 15 = .ok (.aload_n 0, 1) := by decide +kernel
theorem dX11_tried_16 : decode cX11_tried 16 = .ok (.aload_n 0, 1) := by decide +kernel
theorem dX11_tried_17 : decode cX11_tried 17 = .ok (.getfield 52, 3) := by decide +kernel
theorem dX11_tried_20 : decode cX11_tried 20 = .ok (.getfield 197, 3) := by decide +kernel
theorem dX11_tried_23 : decode cX11_tried 23 = .ok (.putfield 87, 3) := by decide +kernel
theorem dX11_tried_26 : decode cX11_tried 26 = .ok (.aload_n 0, 1) := by decide +kernel
theorem dX11_tried_27 : decode cX11_tried 27 = .ok (.getfield 10, 3) := by decide +kernel
theorem dX11_tried_30 : decode cX11_tried 30 = .ok (.iconst 0, 1) := by decide +kernel
theorem dX11_tried_31 : decode cX11_tried 31 = .ok (.putfield 102, 3) := by decide +kernel
theorem dX11_tried_34 : decode cX11_tried 34 = .ok (.aload_n 0, 1) := by decide +kernel
theorem dX11_tried_35 : decode cX11_tried 35 = .ok (.getfield 87, 3) := by decide +kernel
theorem dX11_tried_38 : decode cX11_tried 38 = .ok (.ifCond .eq 15, 3) := by decide +kernel
theorem dX11_tried_41 : decode cX11_tried 41 = .ok (.ldc_w 307, 3) := by decide +kernel
theorem dX11_tried_44 : decode cX11_tried 44 = .ok (.aload_n 0, 1) := by decide +kernel
theorem dX11_tried_45 : decode cX11_tried 45 = .ok (.getfield 52, 3) := by decide +kernel
theorem dX11_tried_48 : decode cX11_tried 48 = .ok (.getfield 202, 3) := by decide +kernel
theorem dX11_tried_51 : decode cX11_tried 51 = .ok (.isub, 1) := by decide +kernel
theorem dX11_tried_52 : decode cX11_tried 52 = .ok (.ireturn, 1) := by decide +kernel
theorem dX11_tried_53 : decode cX11_tried 53 = .ok (.aload_n 0, 1) := by decide +kernel
theorem dX11_tried_54 : decode cX11_tried 54 = .ok (.getfield 19, 3) := by decide +kernel
theorem dX11_tried_57 : decode cX11_tried 57 = .ok (.aload_n 0, 1) := by decide +kernel
theorem dX11_tried_58 : decode cX11_tried 58 = .ok (.getfield 83, 3) := by decide +kernel
theorem dX11_tried_61 : decode cX11_tried 61 = .ok (.aload_n 0, 1) := by decide +kernel
theorem dX11_tried_62 : decode cX11_tried 62 = .ok (.getfield 56, 3) := by decide +kernel
theorem dX11_tried_65 : decode cX11_tried 65 = .ok (.invokevirtual 308, 3) := by decide +kernel
theorem dX11_tried_68 : decode cX11_tried 68 = .ok (.aload_n 0, 1) := by decide +kernel
theorem dX11_tried_69 : decode cX11_tried 69 = .ok (.aload_n 0, 1) := by decide +kernel
theorem dX11_tried_70 : decode cX11_tried 70 = .ok (.getfield 19, 3) := by decide +kernel
theorem dX11_tried_73 : decode cX11_tried 73 = .ok (.getfield 312, 3) := by decide +kernel
theorem dX11_tried_76 : decode cX11_tried 76 = .ok (.putfield 93, 3) := by decide +kernel
theorem dX11_tried_79 : decode cX11_tried 79 = .ok (.aload_n 0, 1) := by decide +kernel
theorem dX11_tried_80 : decode cX11_tried 80 = .ok (.getfield 19, 3) := by decide +kernel
theorem dX11_tried_83 : decode cX11_tried 83 = .ok (.getfield 315, 3) := by decide +kernel
theorem dX11_tried_86 : decode cX11_tried 86 = .ok (.ireturn, 1) := by decide +kernel
theorem dX5_cryClosed_0 : decode cX5_cryClosed 0 = .ok (.aload_n 0, 1) := by decide +kernel
theorem dX5_cryClosed_1 : decode cX5_cryClosed 1 = .ok (.invokevirtual 116, 3) := by decide +kernel
theorem dX5_cryClosed_4 : decode cX5_cryClosed 4 = .ok (.iconst 0, 1) := by decide +kernel
theorem dX5_cryClosed_5 : decode cX5_cryClosed 5 = .ok (.istore_n 3, 1) := by decide +kernel
theorem dX5_cryClosed_6 : decode cX5_cryClosed 6 = .ok (.iload_n 3, 1) := by decide +kernel
theorem dX5_cryClosed_7 : decode cX5_cryClosed 7 = .ok (.aload_n 0, 1) := by decide +kernel
theorem dX5_cryClosed_8 : decode cX5_cryClosed 8 = .ok (.getfield 25, 3) := by decide +kernel
theorem dX5_cryClosed_11 : decode cX5_cryClosed 11 = .ok (.invokevirtual 45, 3) := by decide +kernel
theorem dX5_cryClosed_14 : decode cX5_cryClosed 14 = .ok (.if_icmp .ge 64, 3) := by decide +kernel
theorem dX5_cryClosed_17 : decode cX5_cryClosed 17 = .ok (.aload_n 0, 1) := by decide +kernel
theorem dX5_cryClosed_18 : decode cX5_cryClosed 18 = .ok (.getfield 25, 3) := by decide +kernel
theorem dX5_cryClosed_21 : decode cX5_cryClosed 21 = .ok (.iload_n 3, 1) := by decide +kernel
theorem dX5_cryClosed_22 : decode cX5_cryClosed 22 = .ok (.invokevirtual 119, 3) := by decide +kernel
theorem dX5_cryClosed_25 : decode cX5_cryClosed 25 = .ok (.checkcast 50, 3) := by decide +kernel
theorem dX5_cryClosed_28 : decode cX5_cryClosed 28 = .ok (.getfield 61, 3) := by decide +kernel
theorem dX5_cryClosed_31 : decode cX5_cryClosed 31 = .ok (.istore 4, 2) := by decide +kernel
theorem dX5_cryClosed_33 : decode cX5_cryClosed 33 = .ok (.iload 4, 2) := by decide +kernel
theorem dX5_cryClosed_35 : decode cX5_cryClosed 35 = .ok (.iload_n 1, 1) := by decide +kernel
theorem dX5_cryClosed_36 : decode cX5_cryClosed 36 = .ok (.if_icmp .ge 36, 3) := by decide +kernel
theorem dX5_cryClosed_39 : decode cX5_cryClosed 39 = .ok (.iload_n 3, 1) := by decide +kernel
theorem dX5_cryClosed_40 : decode cX5_cryClosed 40 = .ok (.ifCond .eq 24, 3) := by decide +kernel
theorem dX5_cryClosed_43 : decode cX5_cryClosed 43 = .ok (.aload_n 0, 1) := by decide +kernel
theorem dX5_cryClosed_44 : decode cX5_cryClosed 44 = .ok (.getfield 25, 3) := by decide +kernel
theorem dX5_cryClosed_47 : decode cX5_cryClosed 47 = .ok (.iload_n 3, 1) := by decide +kernel
theorem dX5_cryClosed_48 : decode cX5_cryClosed 48 = .ok (.iconst 1, 1) := by decide +kernel
theorem dX5_cryClosed_49 : decode cX5_cryClosed 49 = .ok (.isub, 1) := by decide +kernel
theorem dX5_cryClosed_50 : decode cX5_cryClosed 50 = .ok (.invokevirtual 119, 3) := by decide +kernel
theorem dX5_cryClosed_53 : decode cX5_cryClosed 53 = .ok (.checkcast 50, 3) := by decide +kernel
theorem dX5_cryClosed_56 : decode cX5_cryClosed 56 = .ok (.getfield 61, 3) := by decide +kernel
theorem dX5_cryClosed_59 : decode cX5_cryClosed 59 = .ok (.iload 4, 2) := by decide +kernel
theorem dX5_cryClosed_61 : decode cX5_cryClosed 61 = .ok (.if_icmp .eq 11, 3) := by decide +kernel
theorem dX5_cryClosed_64 : decode cX5_cryClosed 64 = .ok (.aload_n 0, 1) := by decide +kernel
theorem dX5_cryClosed_65 : decode cX5_cryClosed 65 = .ok (.iload 4, 2) := by decide +kernel
theorem dX5_cryClosed_67 : decode cX5_cryClosed 67 = .ok (.aload_n 2, 1) := by decide +kernel
theorem dX5_cryClosed_68 : decode cX5_cryClosed 68 = .ok (.iconst 0, 1) := by decide +kernel
theorem dX5_cryClosed_69 : decode cX5_cryClosed 69 = .ok (.invokevirtual 123, 3) := by decide +kernel
theorem dX5_cryClosed_72 : decode cX5_cryClosed 72 = .ok (.iinc 3 1, 3) := by decide +kernel
theorem dX5_cryClosed_75 : decode cX5_cryClosed 75 = .ok (.goto (-69), 3) := by decide +kernel
theorem dX5_cryClosed_78 : decode cX5_cryClosed 78 = .ok (.return_, 1) := by decide +kernel
theorem dX5_cryDay_0 : decode cX5_cryDay 0 = .ok (.aload_n 0, 1) := by decide +kernel
theorem dX5_cryDay_1 : decode cX5_cryDay 1 = .ok (.iload_n 1, 1) := by decide +kernel
theorem dX5_cryDay_2 : decode cX5_cryDay 2 = .ok (.invokevirtual 127, 3) := by decide +kernel
theorem dX5_cryDay_5 : decode cX5_cryDay 5 = .ok (.iconst 0, 1) := by decide +kernel
theorem dX5_cryDay_6 : decode cX5_cryDay 6 = .ok (.istore 4, 2) := by decide +kernel
theorem dX5_cryDay_8 : decode cX5_cryDay 8 = .ok (.iconst 0, 1) := by decide +kernel
theorem dX5_cryDay_9 : decode cX5_cryDay 9 = .ok (.istore 5, 2) := by decide +kernel
theorem dX5_cryDay_11 : decode cX5_cryDay 11 = .ok (.iload 5, 2) := by decide +kernel
theorem dX5_cryDay_13 : decode cX5_cryDay 13 = .ok (.aload_n 0, 1) := by decide +kernel
theorem dX5_cryDay_14 : decode cX5_cryDay 14 = .ok (.getfield 28, 3) := by decide +kernel
theorem dX5_cryDay_17 : decode cX5_cryDay 17 = .ok (.invokevirtual 45, 3) := by decide +kernel
theorem dX5_cryDay_20 : decode cX5_cryDay 20 = .ok (.if_icmp .ge 88, 3) := by decide +kernel
theorem dX5_cryDay_23 : decode cX5_cryDay 23 = .ok (.aload_n 0, 1) := by decide +kernel
theorem dX5_cryDay_24 : decode cX5_cryDay 24 = .ok (.getfield 28, 3) := by decide +kernel
theorem dX5_cryDay_27 : decode cX5_cryDay 27 = .ok (.iload 5, 2) := by decide +kernel
theorem dX5_cryDay_29 : decode cX5_cryDay 29 = .ok (.invokevirtual 119, 3) := by decide +kernel
theorem dX5_cryDay_32 : decode cX5_cryDay 32 = .ok (.checkcast 50, 3) := by decide +kernel
theorem dX5_cryDay_35 : decode cX5_cryDay 35 = .ok (.astore 6, 2) := by decide +kernel
theorem dX5_cryDay_37 : decode cX5_cryDay 37 = .ok (.iload 5, 2) := by decide +kernel
theorem dX5_cryDay_39 : decode cX5_cryDay 39 = .ok (.ifCond .eq 28, 3) := by decide +kernel
theorem dX5_cryDay_42 : decode cX5_cryDay 42 = .ok (.aload_n 0, 1) := by decide +kernel
theorem dX5_cryDay_43 : decode cX5_cryDay 43 = .ok (.getfield 28, 3) := by decide +kernel
theorem dX5_cryDay_46 : decode cX5_cryDay 46 = .ok (.iload 5, 2) := by decide +kernel
theorem dX5_cryDay_48 : decode cX5_cryDay 48 = .ok (.iconst 1, 1) := by decide +kernel
theorem dX5_cryDay_49 : decode cX5_cryDay 49 = .ok (.isub, 1) := by decide +kernel
theorem dX5_cryDay_50 : decode cX5_cryDay 50 = .ok (.invokevirtual 119, 3) := by decide +kernel
theorem dX5_cryDay_53 : decode cX5_cryDay 53 = .ok (.checkcast 50, 3) := by decide +kernel
theorem dX5_cryDay_56 : decode cX5_cryDay 56 = .ok (.getfield 131, 3) := by decide +kernel
theorem dX5_cryDay_59 : decode cX5_cryDay 59 = .ok (.aload 6, 2) := by decide +kernel
theorem dX5_cryDay_61 : decode cX5_cryDay 61 = .ok (.getfield 131, 3) := by decide +kernel
theorem dX5_cryDay_64 : decode cX5_cryDay 64 = .ok (.if_icmp .eq 23, 3) := by decide +kernel
theorem dX5_cryDay_67 : decode cX5_cryDay 67 = .ok (.aload_n 0, 1) := by decide +kernel
theorem dX5_cryDay_68 : decode cX5_cryDay 68 = .ok (.getfield 12, 3) := by decide +kernel
theorem dX5_cryDay_71 : decode cX5_cryDay 71 = .ok (.iload_n 1, 1) := by decide +kernel
theorem dX5_cryDay_72 : decode cX5_cryDay 72 = .ok (.aload 6, 2) := by decide +kernel
theorem dX5_cryDay_74 : decode cX5_cryDay 74 = .ok (.getfield 80, 3) := by decide +kernel
theorem dX5_cryDay_77 : decode cX5_cryDay 77 = .ok (.aload 6, 2) := by decide +kernel
theorem dX5_cryDay_79 : decode cX5_cryDay 79 = .ok (.getfield 77, 3) := by decide +kernel
theorem dX5_cryDay_82 : decode cX5_cryDay 82 = .ok (.invokevirtual 134, 3) := by decide +kernel
theorem dX5_cryDay_85 : decode cX5_cryDay 85 = .ok (.istore 4, 2) := by decide +kernel
theorem dX5_cryDay_87 : decode cX5_cryDay 87 = .ok (.iload 4, 2) := by decide +kernel
theorem dX5_cryDay_89 : decode cX5_cryDay 89 = .ok (.aload_n 0, 1) := by decide +kernel
theorem dX5_cryDay_90 : decode cX5_cryDay 90 = .ok (.aload 6, 2) := by decide +kernel
theorem dX5_cryDay_92 : decode cX5_cryDay 92 = .ok (.aload_n 2, 1) := by decide +kernel
theorem dX5_cryDay_93 : decode cX5_cryDay 93 = .ok (.iload 4, 2) := by decide +kernel
theorem dX5_cryDay_95 : decode cX5_cryDay 95 = .ok (.iload_n 3, 1) := by decide +kernel
theorem dX5_cryDay_96 : decode cX5_cryDay 96 = .ok (.invokevirtual 138, 3) := by decide +kernel
theorem dX5_cryDay_99 : decode cX5_cryDay 99 = .ok (.isub, 1) := by decide +kernel
theorem dX5_cryDay_100 : decode cX5_cryDay 100 = .ok (.istore 4, 2) := by decide +kernel
theorem dX5_cryDay_102 : decode cX5_cryDay 102 = .ok (.iinc 5 1, 3) := by decide +kernel
theorem dX5_cryDay_105 : decode cX5_cryDay 105 = .ok (.goto (-94), 3) := by decide +kernel
theorem dX5_cryDay_108 : decode cX5_cryDay 108 = .ok (.return_, 1) := by decide +kernel
theorem dX5_lineUp_0 : decode cX5_lineUp 0 = .ok (.aload_n 0, 1) := by decide +kernel
theorem dX5_lineUp_1 : decode cX5_lineUp 1 = .ok (.getfield 28, 3) := by decide +kernel
theorem dX5_lineUp_4 : decode cX5_lineUp 4 = .ok (.invokevirtual 162, 3) := by decide +kernel
theorem dX5_lineUp_7 : decode cX5_lineUp 7 = .ok (.iconst 0, 1) := by decide +kernel
theorem dX5_lineUp_8 : decode cX5_lineUp 8 = .ok (.istore_n 2, 1) := by decide +kernel
theorem dX5_lineUp_9 : decode cX5_lineUp 9 = .ok (.iload_n 2, 1) := by decide +kernel
theorem dX5_lineUp_10 : decode cX5_lineUp 10 = .ok (.aload_n 0, 1) := by decide +kernel
theorem dX5_lineUp_11 : decode cX5_lineUp 11 = .ok (.getfield 25, 3) := by decide +kernel
theorem dX5_lineUp_14 : decode cX5_lineUp 14 = .ok (.invokevirtual 45, 3) := by decide +kernel
theorem dX5_lineUp_17 : decode cX5_lineUp 17 = .ok (.if_icmp .ge 81, 3) := by decide +kernel
theorem dX5_lineUp_20 : decode cX5_lineUp 20 = .ok (.aload_n 0, 1) := by decide +kernel
theorem dX5_lineUp_21 : decode cX5_lineUp 21 = .ok (.getfield 25, 3) := by decide +kernel
theorem dX5_lineUp_24 : decode cX5_lineUp 24 = .ok (.iload_n 2, 1) := by decide +kernel
theorem dX5_lineUp_25 : decode cX5_lineUp 25 = .ok (.invokevirtual 119, 3) := by decide +kernel
theorem dX5_lineUp_28 : decode cX5_lineUp 28 = .ok (.checkcast 50, 3) := by decide +kernel
theorem dX5_lineUp_31 : decode cX5_lineUp 31 = .ok (.astore_n 3, 1) := by decide +kernel
theorem dX5_lineUp_32 : decode cX5_lineUp 32 = .ok (.aload_n 3, 1) := by decide +kernel
theorem dX5_lineUp_33 : decode cX5_lineUp 33 = .ok (.getfield 61, 3) := by decide +kernel
theorem dX5_lineUp_36 : decode cX5_lineUp 36 = .ok (.iload_n 1, 1) := by decide +kernel
theorem dX5_lineUp_37 : decode cX5_lineUp 37 = .ok (.if_icmp .ne 55, 3) := by decide +kernel
theorem dX5_lineUp_40 : decode cX5_lineUp 40 = .ok (.aload_n 0, 1) := by decide +kernel
theorem dX5_lineUp_41 : decode cX5_lineUp 41 = .ok (.getfield 28, 3) := by decide +kernel
theorem dX5_lineUp_44 : decode cX5_lineUp 44 = .ok (.invokevirtual 45, 3) := by decide +kernel
theorem dX5_lineUp_47 : decode cX5_lineUp 47 = .ok (.istore 4, 2) := by decide +kernel
theorem dX5_lineUp_49 : decode cX5_lineUp 49 = .ok (.iload 4, 2) := by decide +kernel
theorem dX5_lineUp_51 : decode cX5_lineUp 51 = .ok (.ifCond .le 31, 3) := by decide +kernel
theorem dX5_lineUp_54 : decode cX5_lineUp 54 = .ok (.aload_n 0, 1) := by decide +kernel
theorem dX5_lineUp_55 : decode cX5_lineUp 55 = .ok (.aload_n 3, 1) := by decide +kernel
theorem dX5_lineUp_56 : decode cX5_lineUp 56 = .ok (.aload_n 0, 1) := by decide +kernel
theorem dX5_lineUp_57 : decode cX5_lineUp 57 = .ok (.getfield 28, 3) := by decide +kernel
theorem dX5_lineUp_60 : decode cX5_lineUp 60 = .ok (.iload 4, 2) := by decide +kernel
theorem dX5_lineUp_62 : decode cX5_lineUp 62 = .ok (.iconst 1, 1) := by decide +kernel
theorem dX5_lineUp_63 : decode cX5_lineUp 63 = .ok (.isub, 1) := by decide +kernel
theorem dX5_lineUp_64 : decode cX5_lineUp 64 = .ok (.invokevirtual 119, 3) := by decide +kernel
theorem dX5_lineUp_67 : decode cX5_lineUp 67 = .ok (.checkcast 50, 3) := by decide +kernel
theorem dX5_lineUp_70 : decode cX5_lineUp 70 = .ok (.invokevirtual 165, 3) := by decide +kernel
theorem dX5_lineUp_73 : decode cX5_lineUp 73 = .ok (.ifCond .eq 9, 3) := by decide +kernel
theorem dX5_lineUp_76 : decode cX5_lineUp 76 = .ok (.iinc 4 (-1), 3) := by decide +kernel
theorem dX5_lineUp_79 : decode cX5_lineUp 79 = .ok (.goto (-30), 3) := by decide +kernel
theorem dX5_lineUp_82 : decode cX5_lineUp 82 = .ok (.aload_n 0, 1) := by decide +kernel
theorem dX5_lineUp_83 : decode cX5_lineUp 83 = .ok (.getfield 28, 3) := by decide +kernel
theorem dX5_lineUp_86 : decode cX5_lineUp 86 = .ok (.iload 4, 2) := by decide +kernel
theorem dX5_lineUp_88 : decode cX5_lineUp 88 = .ok (.aload_n 3, 1) := by decide +kernel
theorem dX5_lineUp_89 : decode cX5_lineUp 89 = .ok (.invokevirtual 169, 3) := by decide +kernel
theorem dX5_lineUp_92 : decode cX5_lineUp 92 = .ok (.iinc 2 1, 3) := by decide +kernel
theorem dX5_lineUp_95 : decode cX5_lineUp 95 = .ok (.goto (-86), 3) := by decide +kernel
theorem dX5_lineUp_98 : decode cX5_lineUp 98 = .ok (.return_, 1) := by decide +kernel
theorem fl_X11_249_6 : xF RX11 249 6 5 .int false := ⟨by decide, RX5, TX5, 8, tyX5, "PaperBoys$Market", rfl, inlX5, tyX5_ok, nmX5, by decide, rfl, rfl, m_38_14, Or.inl rfl⟩
theorem fl_X11_312_6 : xF RX11 312 6 7 .int false := ⟨by decide, RX5, TX5, 8, tyX5, "PaperBoys$Market", rfl, inlX5, tyX5_ok, nmX5, by decide, rfl, rfl, m_47_19, Or.inl rfl⟩
theorem fl_X11_315_6 : xF RX11 315 6 6 .int false := ⟨by decide, RX5, TX5, 8, tyX5, "PaperBoys$Market", rfl, inlX5, tyX5_ok, nmX5, by decide, rfl, rfl, m_47_20, Or.inl rfl⟩
theorem fl_X5_28_6 : xF RX5 28 6 3 (.object "java/util/ArrayList") true := ⟨by decide, RX5, TX5, 8, tyX5, "PaperBoys$Market", rfl, inlX5, tyX5_ok, nmX5, by decide, rfl, rfl, m_4_3, Or.inl rfl⟩
theorem lk_X11_242 : xLV RX11 242 yX5_startSums cX5_startSums 1 none 0 := ⟨m_38_15, m_38_16, m_38_17, m_1_19, m_38_18, by decide +kernel⟩
theorem lk_X11_245 : xLV RX11 245 yX5_cryDay cX5_cryDay 7 none 3 := ⟨m_38_19, m_38_20, m_38_21, m_1_19, m_38_22, by decide +kernel⟩
theorem lk_X11_308 : xLV RX11 308 yX5_cryClosed cX5_cryClosed 5 none 2 := ⟨m_47_21, m_47_22, m_47_23, m_1_19, m_48_0, by decide +kernel⟩
theorem lk_X5_116 : xLV RX5 116 yX5_startSums cX5_startSums 1 none 0 := ⟨m_48_1, m_38_16, m_38_17, m_1_19, m_38_18, by decide +kernel⟩
theorem lk_X5_123 : xLV RX5 123 yX5_cryDay cX5_cryDay 7 none 3 := ⟨m_48_2, m_38_20, m_38_21, m_1_19, m_38_22, by decide +kernel⟩
theorem lk_X5_127 : xLV RX5 127 yX5_lineUp cX5_lineUp 5 none 1 := ⟨m_39_1, m_39_2, m_39_3, m_1_19, m_39_4, by decide +kernel⟩
theorem lk_X5_134 : xLV RX5 134 yX3_askedOn cX3_askedOn 4 (some .int) 3 := ⟨m_39_23, m_40_0, m_40_1, m_3_22, m_40_2, by decide +kernel⟩
theorem lk_X5_138 : xLV RX5 138 yX5_cryBundle cX5_cryBundle 10 (some .int) 4 := ⟨m_40_4, m_40_5, m_40_6, m_1_19, m_40_7, by decide +kernel⟩
theorem lk_X5_162 : xLV RX5 162 yJx4a65c_clear_da8c8 cJx4a65c_clear_da8c8 4 none 0 := ⟨m_39_5, m_39_6, m_39_7, m_2_5, m_39_8, by decide +kernel⟩
theorem lk_X5_165 : xLV RX5 165 yX5_isAhead cX5_isAhead 3 (some .boolean) 2 := ⟨m_39_10, m_39_11, m_39_12, m_1_19, m_39_13, by decide +kernel⟩
theorem lk_X5_169 : xLV RX5 169 yJx4a65c_add_7a177 cJx4a65c_add_7a177 5 none 2 := ⟨m_39_14, m_39_15, m_39_16, m_2_5, m_39_17, by decide +kernel⟩