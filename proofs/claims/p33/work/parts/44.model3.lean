theorem m_10_1 : Cond.fieldLink RX12 153 "PaperBoysModel" "gain" "[I" ∈ wsL_law := ch_10 _ (List.mem_of_getElem? (i := 1) rfl)
theorem m_10_2 : Cond.fieldLink RX12 156 "PaperBoysModel" "might" "[I" ∈ wsL_law := ch_10 _ (List.mem_of_getElem? (i := 2) rfl)
theorem m_10_4 : Cond.fieldLink RX12 162 "PaperBoysModel" "tryHas" "[I" ∈ wsL_law := ch_10 _ (List.mem_of_getElem? (i := 4) rfl)
theorem m_10_5 : Cond.fieldLink RX12 165 "PaperBoysModel" "by" "[I" ∈ wsL_law := ch_10 _ (List.mem_of_getElem? (i := 5) rfl)
theorem m_10_6 : Cond.fieldLink RX12 168 "PaperBoysModel" "isSent" "[Z" ∈ wsL_law := ch_10 _ (List.mem_of_getElem? (i := 6) rfl)
theorem m_10_7 : Cond.fieldLink RX12 171 "PaperBoysModel" "keptGain" "[I" ∈ wsL_law := ch_10 _ (List.mem_of_getElem? (i := 7) rfl)
theorem m_10_8 : Cond.fieldLink RX12 174 "PaperBoysModel" "keptMight" "[I" ∈ wsL_law := ch_10 _ (List.mem_of_getElem? (i := 8) rfl)
theorem m_51_22 : Cond.methodLink RX12 453 yX12_offer ∈ wsL_law := ch_51 _ (List.mem_of_getElem? (i := 22) rfl)
theorem m_51_23 : Cond.instanceMethod yX12_offer ∈ wsL_law := ch_51 _ (List.mem_of_getElem? (i := 23) rfl)
theorem m_52_0 : Cond.selects RX12 yX12_offer yX12_offer ∈ wsL_law := ch_52 _ (List.mem_of_getElem? (i := 0) rfl)
theorem m_52_1 : Cond.code yX12_offer cX12_offer 7 none ∈ wsL_law := ch_52 _ (List.mem_of_getElem? (i := 1) rfl)
theorem m_52_2 : Cond.methodLink RX12 456 yX12_seek ∈ wsL_law := ch_52 _ (List.mem_of_getElem? (i := 2) rfl)
theorem m_52_3 : Cond.instanceMethod yX12_seek ∈ wsL_law := ch_52 _ (List.mem_of_getElem? (i := 3) rfl)
theorem m_52_4 : Cond.selects RX12 yX12_seek yX12_seek ∈ wsL_law := ch_52 _ (List.mem_of_getElem? (i := 4) rfl)
theorem m_52_5 : Cond.code yX12_seek cX12_seek 7 (some .boolean) ∈ wsL_law := ch_52 _ (List.mem_of_getElem? (i := 5) rfl)
theorem m_52_6 : Cond.methodLink RX12 441 yX12_sumOf ∈ wsL_law := ch_52 _ (List.mem_of_getElem? (i := 6) rfl)
theorem m_52_7 : Cond.static yX12_sumOf ∈ wsL_law := ch_52 _ (List.mem_of_getElem? (i := 7) rfl)
theorem m_52_8 : Cond.code yX12_sumOf cX12_sumOf 5 (some .int) ∈ wsL_law := ch_52 _ (List.mem_of_getElem? (i := 8) rfl)
theorem m_52_9 : Cond.methodLink RX12 445 yX12_hasPeace ∈ wsL_law := ch_52 _ (List.mem_of_getElem? (i := 9) rfl)
theorem m_52_10 : Cond.instanceMethod yX12_hasPeace ∈ wsL_law := ch_52 _ (List.mem_of_getElem? (i := 10) rfl)
theorem m_52_11 : Cond.selects RX12 yX12_hasPeace yX12_hasPeace ∈ wsL_law := ch_52 _ (List.mem_of_getElem? (i := 11) rfl)
theorem m_52_12 : Cond.code yX12_hasPeace cX12_hasPeace 7 (some .boolean) ∈ wsL_law := ch_52 _ (List.mem_of_getElem? (i := 12) rfl)
theorem m_52_13 : Cond.methodLink RX12 449 yX12_goOn ∈ wsL_law := ch_52 _ (List.mem_of_getElem? (i := 13) rfl)
theorem m_52_14 : Cond.static yX12_goOn ∈ wsL_law := ch_52 _ (List.mem_of_getElem? (i := 14) rfl)
theorem m_52_15 : Cond.code yX12_goOn cX12_goOn 7 (some .boolean) ∈ wsL_law := ch_52 _ (List.mem_of_getElem? (i := 15) rfl)
theorem kd44_0 : (decode cX12_goOn 0 = .ok (.iload_n 1, 1)) ∧ (decode cX12_goOn 1 = .ok (.iconst 2, 1)) ∧ (decode cX12_goOn 2 = .ok (.isub, 1)) ∧ (decode cX12_goOn 3 = .ok (.istore_n 2, 1)) ∧ (decode cX12_goOn 4 = .ok (.iload_n 2, 1)) ∧ (decode cX12_goOn 5 = .ok (.ifCond .lt 20, 3)) ∧ (decode cX12_goOn 8 = .ok (.aload_n 0, 1)) ∧ (decode cX12_goOn 9 = .ok (.iload_n 2, 1)) ∧ (decode cX12_goOn 10 = .ok (.iaload, 1)) ∧ (decode cX12_goOn 11 = .ok (.aload_n 0, 1)) ∧ (decode cX12_goOn 12 = .ok (.iload_n 2, 1)) ∧ (decode cX12_goOn 13 = .ok (.iconst 1, 1)) := by decide +kernel
theorem kd44_1 : (decode cX12_goOn 14 = .ok (.iadd, 1)) ∧ (decode cX12_goOn 15 = .ok (.iaload, 1)) ∧ (decode cX12_goOn 16 = .ok (.if_icmp .le 9, 3)) ∧ (decode cX12_goOn 19 = .ok (.iinc 2 (-1), 3)) ∧ (decode cX12_goOn 22 = .ok (.goto (-18), 3)) ∧ (decode cX12_goOn 25 = .ok (.iload_n 2, 1)) ∧ (decode cX12_goOn 26 = .ok (.ifCond .ge 5, 3)) ∧ (decode cX12_goOn 29 = .ok (.iconst 0, 1)) ∧ (decode cX12_goOn 30 = .ok (.ireturn, 1)) ∧ (decode cX12_goOn 31 = .ok (.iload_n 1, 1)) ∧ (decode cX12_goOn 32 = .ok (.iconst 1, 1)) ∧ (decode cX12_goOn 33 = .ok (.isub, 1)) := by decide +kernel
theorem kd44_2 : (decode cX12_goOn 34 = .ok (.istore_n 3, 1)) ∧ (decode cX12_goOn 35 = .ok (.aload_n 0, 1)) ∧ (decode cX12_goOn 36 = .ok (.iload_n 3, 1)) ∧ (decode cX12_goOn 37 = .ok (.iaload, 1)) ∧ (decode cX12_goOn 38 = .ok (.aload_n 0, 1)) ∧ (decode cX12_goOn 39 = .ok (.iload_n 2, 1)) ∧ (decode cX12_goOn 40 = .ok (.iaload, 1)) ∧ (decode cX12_goOn 41 = .ok (.if_icmp .ge 9, 3)) ∧ (decode cX12_goOn 44 = .ok (.iinc 3 (-1), 3)) ∧ (decode cX12_goOn 47 = .ok (.goto (-12), 3)) ∧ (decode cX12_goOn 50 = .ok (.aload_n 0, 1)) ∧ (decode cX12_goOn 51 = .ok (.iload_n 2, 1)) := by decide +kernel
theorem kd44_3 : (decode cX12_goOn 52 = .ok (.iaload, 1)) ∧ (decode cX12_goOn 53 = .ok (.istore 4, 2)) ∧ (decode cX12_goOn 55 = .ok (.aload_n 0, 1)) ∧ (decode cX12_goOn 56 = .ok (.iload_n 2, 1)) ∧ (decode cX12_goOn 57 = .ok (.aload_n 0, 1)) ∧ (decode cX12_goOn 58 = .ok (.iload_n 3, 1)) ∧ (decode cX12_goOn 59 = .ok (.iaload, 1)) ∧ (decode cX12_goOn 60 = .ok (.iastore, 1)) ∧ (decode cX12_goOn 61 = .ok (.aload_n 0, 1)) ∧ (decode cX12_goOn 62 = .ok (.iload_n 3, 1)) ∧ (decode cX12_goOn 63 = .ok (.iload 4, 2)) ∧ (decode cX12_goOn 65 = .ok (.iastore, 1)) := by decide +kernel
theorem kd44_4 : (decode cX12_goOn 66 = .ok (.iload_n 2, 1)) ∧ (decode cX12_goOn 67 = .ok (.iconst 1, 1)) ∧ (decode cX12_goOn 68 = .ok (.iadd, 1)) ∧ (decode cX12_goOn 69 = .ok (.istore 5, 2)) ∧ (decode cX12_goOn 71 = .ok (.iload_n 1, 1)) ∧ (decode cX12_goOn 72 = .ok (.iconst 1, 1)) ∧ (decode cX12_goOn 73 = .ok (.isub, 1)) ∧ (decode cX12_goOn 74 = .ok (.istore 6, 2)) ∧ (decode cX12_goOn 76 = .ok (.iload 5, 2)) ∧ (decode cX12_goOn 78 = .ok (.iload 6, 2)) ∧ (decode cX12_goOn 80 = .ok (.if_icmp .ge 32, 3)) ∧ (decode cX12_goOn 83 = .ok (.aload_n 0, 1)) := by decide +kernel
theorem kd44_5 : (decode cX12_goOn 84 = .ok (.iload 5, 2)) ∧ (decode cX12_goOn 86 = .ok (.iaload, 1)) ∧ (decode cX12_goOn 87 = .ok (.istore 4, 2)) ∧ (decode cX12_goOn 89 = .ok (.aload_n 0, 1)) ∧ (decode cX12_goOn 90 = .ok (.iload 5, 2)) ∧ (decode cX12_goOn 92 = .ok (.aload_n 0, 1)) ∧ (decode cX12_goOn 93 = .ok (.iload 6, 2)) ∧ (decode cX12_goOn 95 = .ok (.iaload, 1)) ∧ (decode cX12_goOn 96 = .ok (.iastore, 1)) ∧ (decode cX12_goOn 97 = .ok (.aload_n 0, 1)) ∧ (decode cX12_goOn 98 = .ok (.iload 6, 2)) ∧ (decode cX12_goOn 100 = .ok (.iload 4, 2)) := by decide +kernel
theorem kd44_6 : (decode cX12_goOn 102 = .ok (.iastore, 1)) ∧ (decode cX12_goOn 103 = .ok (.iinc 5 1, 3)) ∧ (decode cX12_goOn 106 = .ok (.iinc 6 (-1), 3)) ∧ (decode cX12_goOn 109 = .ok (.goto (-33), 3)) ∧ (decode cX12_goOn 112 = .ok (.iconst 1, 1)) ∧ (decode cX12_goOn 113 = .ok (.ireturn, 1)) ∧ (decode cX12_hasPeace 0 = .ok (.iconst 0, 1)) ∧ (decode cX12_hasPeace 1 = .ok (.istore 4, 2)) ∧ (decode cX12_hasPeace 3 = .ok (.iload 4, 2)) ∧ (decode cX12_hasPeace 5 = .ok (.iload_n 2, 1)) ∧ (decode cX12_hasPeace 6 = .ok (.if_icmp .ge 104, 3)) ∧ (decode cX12_hasPeace 9 = .ok (.iconst 0, 1)) := by decide +kernel
theorem kd44_7 : (decode cX12_hasPeace 10 = .ok (.istore 5, 2)) ∧ (decode cX12_hasPeace 12 = .ok (.iload 5, 2)) ∧ (decode cX12_hasPeace 14 = .ok (.iload_n 2, 1)) ∧ (decode cX12_hasPeace 15 = .ok (.if_icmp .ge 89, 3)) ∧ (decode cX12_hasPeace 18 = .ok (.iload 5, 2)) ∧ (decode cX12_hasPeace 20 = .ok (.iload 4, 2)) ∧ (decode cX12_hasPeace 22 = .ok (.if_icmp .ne 6, 3)) ∧ (decode cX12_hasPeace 25 = .ok (.goto 73, 3)) ∧ (decode cX12_hasPeace 28 = .ok (.aload_n 1, 1)) ∧ (decode cX12_hasPeace 29 = .ok (.iload 5, 2)) ∧ (decode cX12_hasPeace 31 = .ok (.iaload, 1)) ∧ (decode cX12_hasPeace 32 = .ok (.istore 6, 2)) := by decide +kernel
theorem kd44_8 : (decode cX12_hasPeace 34 = .ok (.aload_n 0, 1)) ∧ (decode cX12_hasPeace 35 = .ok (.getfield 153, 3)) ∧ (decode cX12_hasPeace 38 = .ok (.bipush 8, 2)) ∧ (decode cX12_hasPeace 40 = .ok (.iload 4, 2)) ∧ (decode cX12_hasPeace 42 = .ok (.imul, 1)) ∧ (decode cX12_hasPeace 43 = .ok (.iload 6, 2)) ∧ (decode cX12_hasPeace 45 = .ok (.iadd, 1)) ∧ (decode cX12_hasPeace 46 = .ok (.iaload, 1)) ∧ (decode cX12_hasPeace 47 = .ok (.aload_n 0, 1)) ∧ (decode cX12_hasPeace 48 = .ok (.getfield 153, 3)) ∧ (decode cX12_hasPeace 51 = .ok (.bipush 8, 2)) ∧ (decode cX12_hasPeace 53 = .ok (.iload 4, 2)) := by decide +kernel
theorem kd44_9 : (decode cX12_hasPeace 55 = .ok (.imul, 1)) ∧ (decode cX12_hasPeace 56 = .ok (.aload_n 1, 1)) ∧ (decode cX12_hasPeace 57 = .ok (.iload 4, 2)) ∧ (decode cX12_hasPeace 59 = .ok (.iaload, 1)) ∧ (decode cX12_hasPeace 60 = .ok (.iadd, 1)) ∧ (decode cX12_hasPeace 61 = .ok (.iaload, 1)) ∧ (decode cX12_hasPeace 62 = .ok (.iload_n 3, 1)) ∧ (decode cX12_hasPeace 63 = .ok (.iadd, 1)) ∧ (decode cX12_hasPeace 64 = .ok (.if_icmp .lt 34, 3)) ∧ (decode cX12_hasPeace 67 = .ok (.aload_n 0, 1)) ∧ (decode cX12_hasPeace 68 = .ok (.getfield 156, 3)) ∧ (decode cX12_hasPeace 71 = .ok (.bipush 8, 2)) := by decide +kernel
theorem kd44_10 : (decode cX12_hasPeace 73 = .ok (.iload 4, 2)) ∧ (decode cX12_hasPeace 75 = .ok (.imul, 1)) ∧ (decode cX12_hasPeace 76 = .ok (.iload 6, 2)) ∧ (decode cX12_hasPeace 78 = .ok (.iadd, 1)) ∧ (decode cX12_hasPeace 79 = .ok (.iaload, 1)) ∧ (decode cX12_hasPeace 80 = .ok (.aload_n 0, 1)) ∧ (decode cX12_hasPeace 81 = .ok (.getfield 156, 3)) ∧ (decode cX12_hasPeace 84 = .ok (.bipush 8, 2)) ∧ (decode cX12_hasPeace 86 = .ok (.iload 5, 2)) ∧ (decode cX12_hasPeace 88 = .ok (.imul, 1)) ∧ (decode cX12_hasPeace 89 = .ok (.iload 6, 2)) ∧ (decode cX12_hasPeace 91 = .ok (.iadd, 1)) := by decide +kernel
theorem kd44_11 : (decode cX12_hasPeace 92 = .ok (.iaload, 1)) ∧ (decode cX12_hasPeace 93 = .ok (.if_icmp .le 5, 3)) ∧ (decode cX12_hasPeace 96 = .ok (.iconst 0, 1)) ∧ (decode cX12_hasPeace 97 = .ok (.ireturn, 1)) ∧ (decode cX12_hasPeace 98 = .ok (.iinc 5 1, 3)) ∧ (decode cX12_hasPeace 101 = .ok (.goto (-89), 3)) ∧ (decode cX12_hasPeace 104 = .ok (.iinc 4 1, 3)) ∧ (decode cX12_hasPeace 107 = .ok (.goto (-104), 3)) ∧ (decode cX12_hasPeace 110 = .ok (.iconst 1, 1)) ∧ (decode cX12_hasPeace 111 = .ok (.ireturn, 1)) ∧ (decode cX12_offer 0 = .ok (.iconst 0, 1)) ∧ (decode cX12_offer 1 = .ok (.istore_n 2, 1)) := by decide +kernel
theorem kd44_12 : (decode cX12_offer 2 = .ok (.iload_n 2, 1)) ∧ (decode cX12_offer 3 = .ok (.bipush 64, 2)) ∧ (decode cX12_offer 5 = .ok (.if_icmp .ge 16, 3)) ∧ (decode cX12_offer 8 = .ok (.aload_n 0, 1)) ∧ (decode cX12_offer 9 = .ok (.getfield 168, 3)) ∧ (decode cX12_offer 12 = .ok (.iload_n 2, 1)) ∧ (decode cX12_offer 13 = .ok (.iconst 0, 1)) ∧ (decode cX12_offer 14 = .ok (.bastore, 1)) ∧ (decode cX12_offer 15 = .ok (.iinc 2 1, 3)) ∧ (decode cX12_offer 18 = .ok (.goto (-16), 3)) ∧ (decode cX12_offer 21 = .ok (.iconst 0, 1)) ∧ (decode cX12_offer 22 = .ok (.istore_n 2, 1)) := by decide +kernel
theorem kd44_13 : (decode cX12_offer 23 = .ok (.iload_n 2, 1)) ∧ (decode cX12_offer 24 = .ok (.bipush 8, 2)) ∧ (decode cX12_offer 26 = .ok (.if_icmp .ge 23, 3)) ∧ (decode cX12_offer 29 = .ok (.aload_n 0, 1)) ∧ (decode cX12_offer 30 = .ok (.getfield 159, 3)) ∧ (decode cX12_offer 33 = .ok (.iload_n 2, 1)) ∧ (decode cX12_offer 34 = .ok (.iconst (-1), 1)) ∧ (decode cX12_offer 35 = .ok (.iastore, 1)) ∧ (decode cX12_offer 36 = .ok (.aload_n 0, 1)) ∧ (decode cX12_offer 37 = .ok (.getfield 165, 3)) ∧ (decode cX12_offer 40 = .ok (.iload_n 2, 1)) ∧ (decode cX12_offer 41 = .ok (.iconst (-1), 1)) := by decide +kernel
theorem kd44_14 : (decode cX12_offer 42 = .ok (.iastore, 1)) ∧ (decode cX12_offer 43 = .ok (.iinc 2 1, 3)) ∧ (decode cX12_offer 46 = .ok (.goto (-23), 3)) ∧ (decode cX12_offer 49 = .ok (.iconst 1, 1)) ∧ (decode cX12_offer 50 = .ok (.istore_n 2, 1)) ∧ (decode cX12_offer 51 = .ok (.iload_n 2, 1)) ∧ (decode cX12_offer 52 = .ok (.ifCond .eq 276, 3)) ∧ (decode cX12_offer 55 = .ok (.iconst 0, 1)) ∧ (decode cX12_offer 56 = .ok (.istore_n 2, 1)) ∧ (decode cX12_offer 57 = .ok (.iconst 0, 1)) ∧ (decode cX12_offer 58 = .ok (.istore_n 3, 1)) ∧ (decode cX12_offer 59 = .ok (.iload_n 3, 1)) := by decide +kernel
theorem kd44_15 : (decode cX12_offer 60 = .ok (.iload_n 1, 1)) ∧ (decode cX12_offer 61 = .ok (.if_icmp .ge 264, 3)) ∧ (decode cX12_offer 64 = .ok (.aload_n 0, 1)) ∧ (decode cX12_offer 65 = .ok (.getfield 159, 3)) ∧ (decode cX12_offer 68 = .ok (.iload_n 3, 1)) ∧ (decode cX12_offer 69 = .ok (.iaload, 1)) ∧ (decode cX12_offer 70 = .ok (.iconst (-1), 1)) ∧ (decode cX12_offer 71 = .ok (.if_icmp .eq 6, 3)) ∧ (decode cX12_offer 74 = .ok (.goto 245, 3)) ∧ (decode cX12_offer 77 = .ok (.iconst 1, 1)) ∧ (decode cX12_offer 78 = .ok (.istore_n 2, 1)) ∧ (decode cX12_offer 79 = .ok (.iconst (-1), 1)) := by decide +kernel
theorem kd44_16 : (decode cX12_offer 80 = .ok (.istore 4, 2)) ∧ (decode cX12_offer 82 = .ok (.iconst 0, 1)) ∧ (decode cX12_offer 83 = .ok (.istore 5, 2)) ∧ (decode cX12_offer 85 = .ok (.iload 5, 2)) ∧ (decode cX12_offer 87 = .ok (.iload_n 1, 1)) ∧ (decode cX12_offer 88 = .ok (.if_icmp .ge 61, 3)) ∧ (decode cX12_offer 91 = .ok (.aload_n 0, 1)) ∧ (decode cX12_offer 92 = .ok (.getfield 168, 3)) ∧ (decode cX12_offer 95 = .ok (.bipush 8, 2)) ∧ (decode cX12_offer 97 = .ok (.iload_n 3, 1)) ∧ (decode cX12_offer 98 = .ok (.imul, 1)) ∧ (decode cX12_offer 99 = .ok (.iload 5, 2)) := by decide +kernel
theorem kd44_17 : (decode cX12_offer 101 = .ok (.iadd, 1)) ∧ (decode cX12_offer 102 = .ok (.baload, 1)) ∧ (decode cX12_offer 103 = .ok (.ifCond .ne 40, 3)) ∧ (decode cX12_offer 106 = .ok (.iload 4, 2)) ∧ (decode cX12_offer 108 = .ok (.iconst (-1), 1)) ∧ (decode cX12_offer 109 = .ok (.if_icmp .eq 30, 3)) ∧ (decode cX12_offer 112 = .ok (.aload_n 0, 1)) ∧ (decode cX12_offer 113 = .ok (.getfield 153, 3)) ∧ (decode cX12_offer 116 = .ok (.bipush 8, 2)) ∧ (decode cX12_offer 118 = .ok (.iload_n 3, 1)) ∧ (decode cX12_offer 119 = .ok (.imul, 1)) ∧ (decode cX12_offer 120 = .ok (.iload 5, 2)) := by decide +kernel
theorem kd44_18 : (decode cX12_offer 122 = .ok (.iadd, 1)) ∧ (decode cX12_offer 123 = .ok (.iaload, 1)) ∧ (decode cX12_offer 124 = .ok (.aload_n 0, 1)) ∧ (decode cX12_offer 125 = .ok (.getfield 153, 3)) ∧ (decode cX12_offer 128 = .ok (.bipush 8, 2)) ∧ (decode cX12_offer 130 = .ok (.iload_n 3, 1)) ∧ (decode cX12_offer 131 = .ok (.imul, 1)) ∧ (decode cX12_offer 132 = .ok (.iload 4, 2)) ∧ (decode cX12_offer 134 = .ok (.iadd, 1)) ∧ (decode cX12_offer 135 = .ok (.iaload, 1)) ∧ (decode cX12_offer 136 = .ok (.if_icmp .le 7, 3)) ∧ (decode cX12_offer 139 = .ok (.iload 5, 2)) := by decide +kernel
theorem kd44_19 : (decode cX12_offer 141 = .ok (.istore 4, 2)) ∧ (decode cX12_offer 143 = .ok (.iinc 5 1, 3)) ∧ (decode cX12_offer 146 = .ok (.goto (-61), 3)) ∧ (decode cX12_offer 149 = .ok (.aload_n 0, 1)) ∧ (decode cX12_offer 150 = .ok (.getfield 165, 3)) ∧ (decode cX12_offer 153 = .ok (.iload 4, 2)) ∧ (decode cX12_offer 155 = .ok (.iaload, 1)) ∧ (decode cX12_offer 156 = .ok (.istore 5, 2)) ∧ (decode cX12_offer 158 = .ok (.iload 5, 2)) ∧ (decode cX12_offer 160 = .ok (.iconst (-1), 1)) ∧ (decode cX12_offer 161 = .ok (.if_icmp .eq 69, 3)) ∧ (decode cX12_offer 164 = .ok (.aload_n 0, 1)) := by decide +kernel
theorem kd44_20 : (decode cX12_offer 165 = .ok (.getfield 156, 3)) ∧ (decode cX12_offer 168 = .ok (.bipush 8, 2)) ∧ (decode cX12_offer 170 = .ok (.iload 5, 2)) ∧ (decode cX12_offer 172 = .ok (.imul, 1)) ∧ (decode cX12_offer 173 = .ok (.iload 4, 2)) ∧ (decode cX12_offer 175 = .ok (.iadd, 1)) ∧ (decode cX12_offer 176 = .ok (.iaload, 1)) ∧ (decode cX12_offer 177 = .ok (.aload_n 0, 1)) ∧ (decode cX12_offer 178 = .ok (.getfield 156, 3)) ∧ (decode cX12_offer 181 = .ok (.bipush 8, 2)) ∧ (decode cX12_offer 183 = .ok (.iload_n 3, 1)) ∧ (decode cX12_offer 184 = .ok (.imul, 1)) := by decide +kernel
theorem kd44_21 : (decode cX12_offer 185 = .ok (.iload 4, 2)) ∧ (decode cX12_offer 187 = .ok (.iadd, 1)) ∧ (decode cX12_offer 188 = .ok (.iaload, 1)) ∧ (decode cX12_offer 189 = .ok (.if_icmp .gt 37, 3)) ∧ (decode cX12_offer 192 = .ok (.aload_n 0, 1)) ∧ (decode cX12_offer 193 = .ok (.getfield 156, 3)) ∧ (decode cX12_offer 196 = .ok (.bipush 8, 2)) ∧ (decode cX12_offer 198 = .ok (.iload 5, 2)) ∧ (decode cX12_offer 200 = .ok (.imul, 1)) ∧ (decode cX12_offer 201 = .ok (.iload 4, 2)) ∧ (decode cX12_offer 203 = .ok (.iadd, 1)) ∧ (decode cX12_offer 204 = .ok (.iaload, 1)) := by decide +kernel
theorem kd44_22 : (decode cX12_offer 205 = .ok (.aload_n 0, 1)) ∧ (decode cX12_offer 206 = .ok (.getfield 156, 3)) ∧ (decode cX12_offer 209 = .ok (.bipush 8, 2)) ∧ (decode cX12_offer 211 = .ok (.iload_n 3, 1)) ∧ (decode cX12_offer 212 = .ok (.imul, 1)) ∧ (decode cX12_offer 213 = .ok (.iload 4, 2)) ∧ (decode cX12_offer 215 = .ok (.iadd, 1)) ∧ (decode cX12_offer 216 = .ok (.iaload, 1)) ∧ (decode cX12_offer 217 = .ok (.if_icmp .ne 13, 3)) ∧ (decode cX12_offer 220 = .ok (.iload 5, 2)) ∧ (decode cX12_offer 222 = .ok (.iload_n 3, 1)) ∧ (decode cX12_offer 223 = .ok (.if_icmp .ge 7, 3)) := by decide +kernel
theorem kd44_23 : (decode cX12_offer 226 = .ok (.iconst 1, 1)) ∧ (decode cX12_offer 227 = .ok (.goto 4, 3)) ∧ (decode cX12_offer 230 = .ok (.iconst 0, 1)) ∧ (decode cX12_offer 231 = .ok (.istore 6, 2)) ∧ (decode cX12_offer 233 = .ok (.aload_n 0, 1)) ∧ (decode cX12_offer 234 = .ok (.getfield 168, 3)) ∧ (decode cX12_offer 237 = .ok (.bipush 8, 2)) ∧ (decode cX12_offer 239 = .ok (.iload 6, 2)) ∧ (decode cX12_offer 241 = .ok (.ifCond .eq 7, 3)) ∧ (decode cX12_offer 244 = .ok (.iload_n 3, 1)) ∧ (decode cX12_offer 245 = .ok (.goto 15, 3)) ∧ (decode cX12_offer 248 = .ok (.iload 5, 2)) := by decide +kernel
theorem kd44_24 : (decode cX12_offer 250 = .ok (.iconst (-1), 1)) ∧ (decode cX12_offer 251 = .ok (.if_icmp .ne 7, 3)) ∧ (decode cX12_offer 254 = .ok (.iload_n 3, 1)) ∧ (decode cX12_offer 255 = .ok (.goto 5, 3)) ∧ (decode cX12_offer 258 = .ok (.iload 5, 2)) ∧ (decode cX12_offer 260 = .ok (.imul, 1)) ∧ (decode cX12_offer 261 = .ok (.iload 4, 2)) ∧ (decode cX12_offer 263 = .ok (.iadd, 1)) ∧ (decode cX12_offer 264 = .ok (.iload 6, 2)) ∧ (decode cX12_offer 266 = .ok (.ifCond .ne 9, 3)) ∧ (decode cX12_offer 269 = .ok (.iload 5, 2)) ∧ (decode cX12_offer 271 = .ok (.iconst (-1), 1)) := by decide +kernel
theorem kd44_25 : (decode cX12_offer 272 = .ok (.if_icmp .eq 7, 3)) ∧ (decode cX12_offer 275 = .ok (.iconst 1, 1)) ∧ (decode cX12_offer 276 = .ok (.goto 4, 3)) ∧ (decode cX12_offer 279 = .ok (.iconst 0, 1)) ∧ (decode cX12_offer 280 = .ok (.bastore, 1)) ∧ (decode cX12_offer 281 = .ok (.iload 6, 2)) ∧ (decode cX12_offer 283 = .ok (.ifCond .eq 6, 3)) ∧ (decode cX12_offer 286 = .ok (.goto 33, 3)) ∧ (decode cX12_offer 289 = .ok (.iload 5, 2)) ∧ (decode cX12_offer 291 = .ok (.iconst (-1), 1)) ∧ (decode cX12_offer 292 = .ok (.if_icmp .eq 11, 3)) ∧ (decode cX12_offer 295 = .ok (.aload_n 0, 1)) := by decide +kernel
theorem kd44_26 : (decode cX12_offer 296 = .ok (.getfield 159, 3)) ∧ (decode cX12_offer 299 = .ok (.iload 5, 2)) ∧ (decode cX12_offer 301 = .ok (.iconst (-1), 1)) ∧ (decode cX12_offer 302 = .ok (.iastore, 1)) ∧ (decode cX12_offer 303 = .ok (.aload_n 0, 1)) ∧ (decode cX12_offer 304 = .ok (.getfield 165, 3)) ∧ (decode cX12_offer 307 = .ok (.iload 4, 2)) ∧ (decode cX12_offer 309 = .ok (.iload_n 3, 1)) ∧ (decode cX12_offer 310 = .ok (.iastore, 1)) ∧ (decode cX12_offer 311 = .ok (.aload_n 0, 1)) ∧ (decode cX12_offer 312 = .ok (.getfield 159, 3)) ∧ (decode cX12_offer 315 = .ok (.iload_n 3, 1)) := by decide +kernel
theorem kd44_27 : (decode cX12_offer 316 = .ok (.iload 4, 2)) ∧ (decode cX12_offer 318 = .ok (.iastore, 1)) ∧ (decode cX12_offer 319 = .ok (.iinc 3 1, 3)) ∧ (decode cX12_offer 322 = .ok (.goto (-263), 3)) ∧ (decode cX12_offer 325 = .ok (.goto (-274), 3)) ∧ (decode cX12_offer 328 = .ok (.return_, 1)) ∧ (decode cX12_parted 0 = .ok (.aload_n 0, 1)) ∧ (decode cX12_parted 1 = .ok (.iconst 0, 1)) ∧ (decode cX12_parted 2 = .ok (.putfield 198, 3)) ∧ (decode cX12_parted 5 = .ok (.aload_n 0, 1)) ∧ (decode cX12_parted 6 = .ok (.invokevirtual 222, 3)) ∧ (decode cX12_parted 9 = .ok (.istore 4, 2)) := by decide +kernel
theorem kd44_28 : (decode cX12_parted 11 = .ok (.iload_n 1, 1)) ∧ (decode cX12_parted 12 = .ok (.iconst 1, 1)) ∧ (decode cX12_parted 13 = .ok (.bipush 8, 2)) ∧ (decode cX12_parted 15 = .ok (.invokestatic 211, 3)) ∧ (decode cX12_parted 18 = .ok (.ifCond .eq 38, 3)) ∧ (decode cX12_parted 21 = .ok (.iload 4, 2)) ∧ (decode cX12_parted 23 = .ok (.iconst 2, 1)) ∧ (decode cX12_parted 24 = .ok (.iload_n 1, 1)) ∧ (decode cX12_parted 25 = .ok (.imul, 1)) ∧ (decode cX12_parted 26 = .ok (.iload_n 1, 1)) ∧ (decode cX12_parted 27 = .ok (.imul, 1)) ∧ (decode cX12_parted 28 = .ok (.if_icmp .ne 28, 3)) := by decide +kernel
theorem kd44_29 : (decode cX12_parted 31 = .ok (.iload_n 2, 1)) ∧ (decode cX12_parted 32 = .ok (.iconst 0, 1)) ∧ (decode cX12_parted 33 = .ok (.iconst 1, 1)) ∧ (decode cX12_parted 34 = .ok (.invokestatic 211, 3)) ∧ (decode cX12_parted 37 = .ok (.ifCond .eq 19, 3)) ∧ (decode cX12_parted 40 = .ok (.iload_n 2, 1)) ∧ (decode cX12_parted 41 = .ok (.iconst 1, 1)) ∧ (decode cX12_parted 42 = .ok (.if_icmp .ne 16, 3)) ∧ (decode cX12_parted 45 = .ok (.iload_n 3, 1)) ∧ (decode cX12_parted 46 = .ok (.iconst 1, 1)) ∧ (decode cX12_parted 47 = .ok (.sipush 255, 3)) ∧ (decode cX12_parted 50 = .ok (.invokestatic 211, 3)) := by decide +kernel
theorem kd44_30 : (decode cX12_parted 53 = .ok (.ifCond .ne 5, 3)) ∧ (decode cX12_parted 56 = .ok (.iconst (-1), 1)) ∧ (decode cX12_parted 57 = .ok (.ireturn, 1)) ∧ (decode cX12_parted 58 = .ok (.iconst 0, 1)) ∧ (decode cX12_parted 59 = .ok (.istore 5, 2)) ∧ (decode cX12_parted 61 = .ok (.iload 5, 2)) ∧ (decode cX12_parted 63 = .ok (.bipush 64, 2)) ∧ (decode cX12_parted 65 = .ok (.if_icmp .ge 37, 3)) ∧ (decode cX12_parted 68 = .ok (.aload_n 0, 1)) ∧ (decode cX12_parted 69 = .ok (.getfield 171, 3)) ∧ (decode cX12_parted 72 = .ok (.iload 5, 2)) ∧ (decode cX12_parted 74 = .ok (.aload_n 0, 1)) := by decide +kernel
theorem kd44_31 : (decode cX12_parted 75 = .ok (.getfield 153, 3)) ∧ (decode cX12_parted 78 = .ok (.iload 5, 2)) ∧ (decode cX12_parted 80 = .ok (.iaload, 1)) ∧ (decode cX12_parted 81 = .ok (.iastore, 1)) ∧ (decode cX12_parted 82 = .ok (.aload_n 0, 1)) ∧ (decode cX12_parted 83 = .ok (.getfield 174, 3)) ∧ (decode cX12_parted 86 = .ok (.iload 5, 2)) ∧ (decode cX12_parted 88 = .ok (.aload_n 0, 1)) ∧ (decode cX12_parted 89 = .ok (.getfield 156, 3)) ∧ (decode cX12_parted 92 = .ok (.iload 5, 2)) ∧ (decode cX12_parted 94 = .ok (.iaload, 1)) ∧ (decode cX12_parted 95 = .ok (.iastore, 1)) := by decide +kernel
theorem kd44_32 : (decode cX12_parted 96 = .ok (.iinc 5 1, 3)) ∧ (decode cX12_parted 99 = .ok (.goto (-38), 3)) ∧ (decode cX12_parted 102 = .ok (.iconst 0, 1)) ∧ (decode cX12_parted 103 = .ok (.istore 5, 2)) ∧ (decode cX12_parted 105 = .ok (.iload 5, 2)) ∧ (decode cX12_parted 107 = .ok (.iload_n 1, 1)) ∧ (decode cX12_parted 108 = .ok (.if_icmp .ge 78, 3)) ∧ (decode cX12_parted 111 = .ok (.iconst 0, 1)) ∧ (decode cX12_parted 112 = .ok (.istore 6, 2)) ∧ (decode cX12_parted 114 = .ok (.iload 6, 2)) ∧ (decode cX12_parted 116 = .ok (.iload_n 1, 1)) ∧ (decode cX12_parted 117 = .ok (.if_icmp .ge 63, 3)) := by decide +kernel
theorem kd44_33 : (decode cX12_parted 120 = .ok (.aload_n 0, 1)) ∧ (decode cX12_parted 121 = .ok (.getfield 153, 3)) ∧ (decode cX12_parted 124 = .ok (.bipush 8, 2)) ∧ (decode cX12_parted 126 = .ok (.iload 5, 2)) ∧ (decode cX12_parted 128 = .ok (.imul, 1)) ∧ (decode cX12_parted 129 = .ok (.iload 6, 2)) ∧ (decode cX12_parted 131 = .ok (.iadd, 1)) ∧ (decode cX12_parted 132 = .ok (.aload_n 0, 1)) ∧ (decode cX12_parted 133 = .ok (.getfield 7, 3)) ∧ (decode cX12_parted 136 = .ok (.iload_n 1, 1)) ∧ (decode cX12_parted 137 = .ok (.iload 5, 2)) ∧ (decode cX12_parted 139 = .ok (.imul, 1)) := by decide +kernel
theorem kd44_34 : (decode cX12_parted 140 = .ok (.iload 6, 2)) ∧ (decode cX12_parted 142 = .ok (.iadd, 1)) ∧ (decode cX12_parted 143 = .ok (.iaload, 1)) ∧ (decode cX12_parted 144 = .ok (.iastore, 1)) ∧ (decode cX12_parted 145 = .ok (.aload_n 0, 1)) ∧ (decode cX12_parted 146 = .ok (.getfield 156, 3)) ∧ (decode cX12_parted 149 = .ok (.bipush 8, 2)) ∧ (decode cX12_parted 151 = .ok (.iload 5, 2)) ∧ (decode cX12_parted 153 = .ok (.imul, 1)) ∧ (decode cX12_parted 154 = .ok (.iload 6, 2)) ∧ (decode cX12_parted 156 = .ok (.iadd, 1)) ∧ (decode cX12_parted 157 = .ok (.aload_n 0, 1)) := by decide +kernel
theorem kd44_35 : (decode cX12_parted 158 = .ok (.getfield 7, 3)) ∧ (decode cX12_parted 161 = .ok (.iload_n 1, 1)) ∧ (decode cX12_parted 162 = .ok (.iload_n 1, 1)) ∧ (decode cX12_parted 163 = .ok (.imul, 1)) ∧ (decode cX12_parted 164 = .ok (.iload_n 1, 1)) ∧ (decode cX12_parted 165 = .ok (.iload 5, 2)) ∧ (decode cX12_parted 167 = .ok (.imul, 1)) ∧ (decode cX12_parted 168 = .ok (.iadd, 1)) ∧ (decode cX12_parted 169 = .ok (.iload 6, 2)) ∧ (decode cX12_parted 171 = .ok (.iadd, 1)) ∧ (decode cX12_parted 172 = .ok (.iaload, 1)) ∧ (decode cX12_parted 173 = .ok (.iastore, 1)) := by decide +kernel
theorem kd44_36 : (decode cX12_parted 174 = .ok (.iinc 6 1, 3)) ∧ (decode cX12_parted 177 = .ok (.goto (-63), 3)) ∧ (decode cX12_parted 180 = .ok (.iinc 5 1, 3)) ∧ (decode cX12_parted 183 = .ok (.goto (-78), 3)) ∧ (decode cX12_parted 186 = .ok (.iload_n 2, 1)) ∧ (decode cX12_parted 187 = .ok (.ifCond .ne 11, 3)) ∧ (decode cX12_parted 190 = .ok (.aload_n 0, 1)) ∧ (decode cX12_parted 191 = .ok (.iload_n 1, 1)) ∧ (decode cX12_parted 192 = .ok (.invokevirtual 453, 3)) ∧ (decode cX12_parted 195 = .ok (.goto 58, 3)) ∧ (decode cX12_parted 198 = .ok (.aload_n 0, 1)) ∧ (decode cX12_parted 199 = .ok (.iload_n 1, 1)) := by decide +kernel
theorem kd44_37 : (decode cX12_parted 200 = .ok (.iload_n 3, 1)) ∧ (decode cX12_parted 201 = .ok (.invokevirtual 456, 3)) ∧ (decode cX12_parted 204 = .ok (.ifCond .ne 49, 3)) ∧ (decode cX12_parted 207 = .ok (.iconst 0, 1)) ∧ (decode cX12_parted 208 = .ok (.istore 5, 2)) ∧ (decode cX12_parted 210 = .ok (.iload 5, 2)) ∧ (decode cX12_parted 212 = .ok (.bipush 64, 2)) ∧ (decode cX12_parted 214 = .ok (.if_icmp .ge 37, 3)) ∧ (decode cX12_parted 217 = .ok (.aload_n 0, 1)) ∧ (decode cX12_parted 218 = .ok (.getfield 153, 3)) ∧ (decode cX12_parted 221 = .ok (.iload 5, 2)) ∧ (decode cX12_parted 223 = .ok (.aload_n 0, 1)) := by decide +kernel
theorem kd44_38 : (decode cX12_parted 224 = .ok (.getfield 171, 3)) ∧ (decode cX12_parted 227 = .ok (.iload 5, 2)) ∧ (decode cX12_parted 229 = .ok (.iaload, 1)) ∧ (decode cX12_parted 230 = .ok (.iastore, 1)) ∧ (decode cX12_parted 231 = .ok (.aload_n 0, 1)) ∧ (decode cX12_parted 232 = .ok (.getfield 156, 3)) ∧ (decode cX12_parted 235 = .ok (.iload 5, 2)) ∧ (decode cX12_parted 237 = .ok (.aload_n 0, 1)) ∧ (decode cX12_parted 238 = .ok (.getfield 174, 3)) ∧ (decode cX12_parted 241 = .ok (.iload 5, 2)) ∧ (decode cX12_parted 243 = .ok (.iaload, 1)) ∧ (decode cX12_parted 244 = .ok (.iastore, 1)) := by decide +kernel
theorem kd44_39 : (decode cX12_parted 245 = .ok (.iinc 5 1, 3)) ∧ (decode cX12_parted 248 = .ok (.goto (-38), 3)) ∧ (decode cX12_parted 251 = .ok (.iconst (-1), 1)) ∧ (decode cX12_parted 252 = .ok (.ireturn, 1)) ∧ (decode cX12_parted 253 = .ok (.aload_n 0, 1)) ∧ (decode cX12_parted 254 = .ok (.iload_n 1, 1)) ∧ (decode cX12_parted 255 = .ok (.putfield 459, 3)) ∧ (decode cX12_parted 258 = .ok (.aload_n 0, 1)) ∧ (decode cX12_parted 259 = .ok (.iconst 1, 1)) ∧ (decode cX12_parted 260 = .ok (.putfield 462, 3)) ∧ (decode cX12_parted 263 = .ok (.aload_n 0, 1)) ∧ (decode cX12_parted 264 = .ok (.getfield 153, 3)) := by decide +kernel
theorem kd44_40 : (decode cX12_parted 267 = .ok (.aload_n 0, 1)) ∧ (decode cX12_parted 268 = .ok (.getfield 159, 3)) ∧ (decode cX12_parted 271 = .ok (.iload_n 1, 1)) ∧ (decode cX12_parted 272 = .ok (.invokestatic 441, 3)) ∧ (decode cX12_parted 275 = .ok (.ireturn, 1)) ∧ (decode cX12_peace 0 = .ok (.aload_n 0, 1)) ∧ (decode cX12_peace 1 = .ok (.iconst 0, 1)) ∧ (decode cX12_peace 2 = .ok (.putfield 198, 3)) ∧ (decode cX12_peace 5 = .ok (.aload_n 0, 1)) ∧ (decode cX12_peace 6 = .ok (.getfield 462, 3)) ∧ (decode cX12_peace 9 = .ok (.ifCond .eq 14, 3)) ∧ (decode cX12_peace 12 = .ok (.iload_n 1, 1)) := by decide +kernel
theorem kd44_41 : (decode cX12_peace 13 = .ok (.iconst 1, 1)) ∧ (decode cX12_peace 14 = .ok (.sipush 255, 3)) ∧ (decode cX12_peace 17 = .ok (.invokestatic 211, 3)) ∧ (decode cX12_peace 20 = .ok (.ifCond .ne 5, 3)) ∧ (decode cX12_peace 23 = .ok (.iconst (-1), 1)) ∧ (decode cX12_peace 24 = .ok (.ireturn, 1)) ∧ (decode cX12_peace 25 = .ok (.aload_n 0, 1)) ∧ (decode cX12_peace 26 = .ok (.aload_n 0, 1)) ∧ (decode cX12_peace 27 = .ok (.getfield 159, 3)) ∧ (decode cX12_peace 30 = .ok (.aload_n 0, 1)) ∧ (decode cX12_peace 31 = .ok (.getfield 459, 3)) ∧ (decode cX12_peace 34 = .ok (.iload_n 1, 1)) := by decide +kernel
theorem kd44_42 : (decode cX12_peace 35 = .ok (.invokevirtual 445, 3)) ∧ (decode cX12_peace 38 = .ok (.ifCond .eq 7, 3)) ∧ (decode cX12_peace 41 = .ok (.iconst 1, 1)) ∧ (decode cX12_peace 42 = .ok (.goto 4, 3)) ∧ (decode cX12_peace 45 = .ok (.iconst 0, 1)) ∧ (decode cX12_peace 46 = .ok (.ireturn, 1)) ∧ (decode cX12_seek 0 = .ok (.iconst (-1), 1)) ∧ (decode cX12_seek 1 = .ok (.istore_n 3, 1)) ∧ (decode cX12_seek 2 = .ok (.iconst 0, 1)) ∧ (decode cX12_seek 3 = .ok (.istore 4, 2)) ∧ (decode cX12_seek 5 = .ok (.iload 4, 2)) ∧ (decode cX12_seek 7 = .ok (.iload_n 1, 1)) := by decide +kernel
theorem kd44_43 : (decode cX12_seek 8 = .ok (.if_icmp .ge 18, 3)) ∧ (decode cX12_seek 11 = .ok (.aload_n 0, 1)) ∧ (decode cX12_seek 12 = .ok (.getfield 162, 3)) ∧ (decode cX12_seek 15 = .ok (.iload 4, 2)) ∧ (decode cX12_seek 17 = .ok (.iload 4, 2)) ∧ (decode cX12_seek 19 = .ok (.iastore, 1)) ∧ (decode cX12_seek 20 = .ok (.iinc 4 1, 3)) ∧ (decode cX12_seek 23 = .ok (.goto (-18), 3)) ∧ (decode cX12_seek 26 = .ok (.iconst 1, 1)) ∧ (decode cX12_seek 27 = .ok (.istore 4, 2)) ∧ (decode cX12_seek 29 = .ok (.iload 4, 2)) ∧ (decode cX12_seek 31 = .ok (.ifCond .eq 81, 3)) := by decide +kernel
theorem kd44_44 : (decode cX12_seek 34 = .ok (.aload_n 0, 1)) ∧ (decode cX12_seek 35 = .ok (.getfield 153, 3)) ∧ (decode cX12_seek 38 = .ok (.aload_n 0, 1)) ∧ (decode cX12_seek 39 = .ok (.getfield 162, 3)) ∧ (decode cX12_seek 42 = .ok (.iload_n 1, 1)) ∧ (decode cX12_seek 43 = .ok (.invokestatic 441, 3)) ∧ (decode cX12_seek 46 = .ok (.istore 5, 2)) ∧ (decode cX12_seek 48 = .ok (.iload 5, 2)) ∧ (decode cX12_seek 50 = .ok (.iload_n 3, 1)) ∧ (decode cX12_seek 51 = .ok (.if_icmp .le 48, 3)) ∧ (decode cX12_seek 54 = .ok (.aload_n 0, 1)) ∧ (decode cX12_seek 55 = .ok (.aload_n 0, 1)) := by decide +kernel
theorem kd44_45 : (decode cX12_seek 56 = .ok (.getfield 162, 3)) ∧ (decode cX12_seek 59 = .ok (.iload_n 1, 1)) ∧ (decode cX12_seek 60 = .ok (.iload_n 2, 1)) ∧ (decode cX12_seek 61 = .ok (.invokevirtual 445, 3)) ∧ (decode cX12_seek 64 = .ok (.ifCond .eq 35, 3)) ∧ (decode cX12_seek 67 = .ok (.iload 5, 2)) ∧ (decode cX12_seek 69 = .ok (.istore_n 3, 1)) ∧ (decode cX12_seek 70 = .ok (.iconst 0, 1)) ∧ (decode cX12_seek 71 = .ok (.istore 6, 2)) ∧ (decode cX12_seek 73 = .ok (.iload 6, 2)) ∧ (decode cX12_seek 75 = .ok (.iload_n 1, 1)) ∧ (decode cX12_seek 76 = .ok (.if_icmp .ge 23, 3)) := by decide +kernel
theorem kd44_46 : (decode cX12_seek 79 = .ok (.aload_n 0, 1)) ∧ (decode cX12_seek 80 = .ok (.getfield 159, 3)) ∧ (decode cX12_seek 83 = .ok (.iload 6, 2)) ∧ (decode cX12_seek 85 = .ok (.aload_n 0, 1)) ∧ (decode cX12_seek 86 = .ok (.getfield 162, 3)) ∧ (decode cX12_seek 89 = .ok (.iload 6, 2)) ∧ (decode cX12_seek 91 = .ok (.iaload, 1)) ∧ (decode cX12_seek 92 = .ok (.iastore, 1)) ∧ (decode cX12_seek 93 = .ok (.iinc 6 1, 3)) ∧ (decode cX12_seek 96 = .ok (.goto (-23), 3)) ∧ (decode cX12_seek 99 = .ok (.aload_n 0, 1)) ∧ (decode cX12_seek 100 = .ok (.getfield 162, 3)) := by decide +kernel
theorem kd44_47 : (decode cX12_seek 103 = .ok (.iload_n 1, 1)) ∧ (decode cX12_seek 104 = .ok (.invokestatic 449, 3)) ∧ (decode cX12_seek 107 = .ok (.istore 4, 2)) ∧ (decode cX12_seek 109 = .ok (.goto (-80), 3)) ∧ (decode cX12_seek 112 = .ok (.iload_n 3, 1)) ∧ (decode cX12_seek 113 = .ok (.iconst (-1), 1)) ∧ (decode cX12_seek 114 = .ok (.if_icmp .eq 7, 3)) ∧ (decode cX12_seek 117 = .ok (.iconst 1, 1)) ∧ (decode cX12_seek 118 = .ok (.goto 4, 3)) ∧ (decode cX12_seek 121 = .ok (.iconst 0, 1)) ∧ (decode cX12_seek 122 = .ok (.ireturn, 1)) ∧ (decode cX12_sumOf 0 = .ok (.iconst 0, 1)) := by decide +kernel
theorem kd44_48 : (decode cX12_sumOf 1 = .ok (.istore_n 3, 1)) ∧ (decode cX12_sumOf 2 = .ok (.iconst 0, 1)) ∧ (decode cX12_sumOf 3 = .ok (.istore 4, 2)) ∧ (decode cX12_sumOf 5 = .ok (.iload 4, 2)) ∧ (decode cX12_sumOf 7 = .ok (.iload_n 2, 1)) ∧ (decode cX12_sumOf 8 = .ok (.if_icmp .ge 24, 3)) ∧ (decode cX12_sumOf 11 = .ok (.iload_n 3, 1)) ∧ (decode cX12_sumOf 12 = .ok (.aload_n 0, 1)) ∧ (decode cX12_sumOf 13 = .ok (.bipush 8, 2)) ∧ (decode cX12_sumOf 15 = .ok (.iload 4, 2)) ∧ (decode cX12_sumOf 17 = .ok (.imul, 1)) ∧ (decode cX12_sumOf 18 = .ok (.aload_n 1, 1)) := by decide +kernel
theorem kd44_49 : (decode cX12_sumOf 19 = .ok (.iload 4, 2)) ∧ (decode cX12_sumOf 21 = .ok (.iaload, 1)) ∧ (decode cX12_sumOf 22 = .ok (.iadd, 1)) ∧ (decode cX12_sumOf 23 = .ok (.iaload, 1)) ∧ (decode cX12_sumOf 24 = .ok (.iadd, 1)) ∧ (decode cX12_sumOf 25 = .ok (.istore_n 3, 1)) ∧ (decode cX12_sumOf 26 = .ok (.iinc 4 1, 3)) ∧ (decode cX12_sumOf 29 = .ok (.goto (-24), 3)) ∧ (decode cX12_sumOf 32 = .ok (.iload_n 3, 1)) ∧ (decode cX12_sumOf 33 = .ok (.ireturn, 1)) := by decide +kernel
theorem fl_X12_153_13 : xF RX12 153 13 72 (.array .int) true := ⟨by decide, RX12, TX12, 91, tyX12, "PaperBoysModel", rfl, inlX12, tyX12_ok, nmX12, by decide, rfl, rfl, m_10_1, Or.inl rfl⟩
theorem fl_X12_156_13 : xF RX12 156 13 73 (.array .int) true := ⟨by decide, RX12, TX12, 91, tyX12, "PaperBoysModel", rfl, inlX12, tyX12_ok, nmX12, by decide, rfl, rfl, m_10_2, Or.inl rfl⟩
theorem fl_X12_162_13 : xF RX12 162 13 75 (.array .int) true := ⟨by decide, RX12, TX12, 91, tyX12, "PaperBoysModel", rfl, inlX12, tyX12_ok, nmX12, by decide, rfl, rfl, m_10_4, Or.inl rfl⟩
theorem fl_X12_165_13 : xF RX12 165 13 76 (.array .int) true := ⟨by decide, RX12, TX12, 91, tyX12, "PaperBoysModel", rfl, inlX12, tyX12_ok, nmX12, by decide, rfl, rfl, m_10_5, Or.inl rfl⟩
theorem fl_X12_168_13 : xF RX12 168 13 77 (.array .boolean) true := ⟨by decide, RX12, TX12, 91, tyX12, "PaperBoysModel", rfl, inlX12, tyX12_ok, nmX12, by decide, rfl, rfl, m_10_6, Or.inl rfl⟩
theorem fl_X12_171_13 : xF RX12 171 13 80 (.array .int) true := ⟨by decide, RX12, TX12, 91, tyX12, "PaperBoysModel", rfl, inlX12, tyX12_ok, nmX12, by decide, rfl, rfl, m_10_7, Or.inl rfl⟩
theorem fl_X12_174_13 : xF RX12 174 13 81 (.array .int) true := ⟨by decide, RX12, TX12, 91, tyX12, "PaperBoysModel", rfl, inlX12, tyX12_ok, nmX12, by decide, rfl, rfl, m_10_8, Or.inl rfl⟩
theorem lk_X12_441 : xLS RX12 441 yX12_sumOf cX12_sumOf 5 (some .int) 3 := ⟨m_52_6, m_52_7, m_1_5, m_52_8, by decide +kernel⟩
theorem lk_X12_445 : xLV RX12 445 yX12_hasPeace cX12_hasPeace 7 (some .boolean) 3 := ⟨m_52_9, m_52_10, m_52_11, m_1_5, m_52_12, by decide +kernel⟩
theorem lk_X12_449 : xLS RX12 449 yX12_goOn cX12_goOn 7 (some .boolean) 2 := ⟨m_52_13, m_52_14, m_1_5, m_52_15, by decide +kernel⟩
theorem lk_X12_453 : xLV RX12 453 yX12_offer cX12_offer 7 none 1 := ⟨m_51_22, m_51_23, m_52_0, m_1_5, m_52_1, by decide +kernel⟩
theorem lk_X12_456 : xLV RX12 456 yX12_seek cX12_seek 7 (some .boolean) 2 := ⟨m_52_2, m_52_3, m_52_4, m_1_5, m_52_5, by decide +kernel⟩
theorem xSmf {f' f : Int → Int} {j : Int} (h1 : f' j = f j) (h2 : ∀ i, 0 ≤ i → i ≠ j → f' i = f i) : ∀ i, 0 ≤ i → f' i = f i := fun i hi => by
  by_cases e : i = j
  · rw [e]; exact h1
  · exact h2 i hi e
def xInj (n : Int) (f : Int → Int) : Prop := ∀ i j, 0 ≤ i → i < n → 0 ≤ j → j < n → i ≠ j → f i ≠ f j
theorem xInj_sw {n i j : Int} {f f' : Int → Int} (h : xInj n f) (hi : 0 ≤ i ∧ i < n) (hj : 0 ≤ j ∧ j < n) (h1 : f' i = f j) (h2 : f' j = f i) (h3 : ∀ k, 0 ≤ k → k ≠ i → k ≠ j → f' k = f k) : xInj n f' := by
  have key : ∀ k, 0 ≤ k → k < n → ∃ k', 0 ≤ k' ∧ k' < n ∧ f' k = f k' ∧ ((k = i ∧ k' = j) ∨ (k ≠ i ∧ k = j ∧ k' = i) ∨ (k ≠ i ∧ k ≠ j ∧ k' = k)) := fun k q1 q2 => by
    by_cases e : k = i
    · exact ⟨j, hj.1, hj.2, by rw [e, h1], Or.inl ⟨e, rfl⟩⟩
    · by_cases e' : k = j
      · exact ⟨i, hi.1, hi.2, by rw [e', h2], Or.inr (Or.inl ⟨e, e', rfl⟩)⟩
      · exact ⟨k, q1, q2, h3 k q1 e e', Or.inr (Or.inr ⟨e, e', rfl⟩)⟩
  intro a b a1 a2 b1 b2 hab
  obtain ⟨a', p1, p2, p3, p4⟩ := key a a1 a2
  obtain ⟨b', q1, q2, q3, q4⟩ := key b b1 b2
  rw [p3, q3]
  exact h a' b' p1 p2 q1 q2 (by omega)
def xnmN (f : Int → Int) : Nat → Int
  | 0 => 0
  | m + 1 => 8 * xnmN f m + f m
def xnm (n : Int) (f : Int → Int) : Int := xnmN f n.toNat
theorem xnmN_b {f : Int → Int} {m : Nat} (h : ∀ k : Int, 0 ≤ k → k < m → 0 ≤ f k ∧ f k ≤ 7) : 0 ≤ xnmN f m ∧ xnmN f m < (8 : Int) ^ m := by
  induction m with
  | zero => exact ⟨Int.le_refl _, (by show (0 : Int) < 8 ^ 0; decide)⟩
  | succ m ih =>
    have := ih (fun k q1 q2 => h k q1 (by omega))
    have q := h m (by omega) (by omega)
    unfold xnmN
    rw [Int.pow_succ]
    omega
theorem xnm_b {n : Int} {f : Int → Int} (hn : 0 ≤ n ∧ n ≤ 8) (h : ∀ k : Int, 0 ≤ k → k < n → 0 ≤ f k ∧ f k ≤ 7) : 0 ≤ xnm n f ∧ xnm n f < 16777216 := by
  have q := xnmN_b (f := f) (m := n.toNat) (fun k q1 q2 => h k q1 (by omega))
  unfold xnm
  have : (8 : Int) ^ n.toNat ≤ 16777216 := by
    have hm : n.toNat ≤ 8 := by omega
    generalize n.toNat = m at hm
    match m, hm with
    | 0, _ => decide
    | 1, _ => decide
    | 2, _ => decide
    | 3, _ => decide
    | 4, _ => decide
    | 5, _ => decide
    | 6, _ => decide
    | 7, _ => decide
    | 8, _ => decide
    | n + 9, h => omega
  omega
theorem xnmN_eq {f f' : Int → Int} {m : Nat} (h : ∀ k : Int, 0 ≤ k → k < m → f' k = f k) : xnmN f' m = xnmN f m := by
  induction m with
  | zero => rfl
  | succ m ih => unfold xnmN; rw [ih (fun k q1 q2 => h k q1 (by omega)), h m (by omega) (by omega)]
theorem xnmN_lt {f f' : Int → Int} {i m : Nat} (hi : i < m) (hs : ∀ k : Int, 0 ≤ k → k < i → f' k = f k) (hl : f i < f' i) (h : ∀ k : Int, 0 ≤ k → k < m → f k ≤ 7) (h' : ∀ k : Int, 0 ≤ k → k < m → 0 ≤ f' k) : xnmN f m < xnmN f' m := by
  induction m with
  | zero => omega
  | succ m ih =>
    unfold xnmN
    by_cases e : i = m
    · subst e
      rw [xnmN_eq hs]
      omega
    · have := ih (by omega) (fun k q1 q2 => h k q1 (by omega)) (fun k q1 q2 => h' k q1 (by omega))
      have a := h m (by omega) (by omega)
      have b := h' m (by omega) (by omega)
      omega
theorem xnm_lt {n i : Int} {f f' : Int → Int} (hi : 0 ≤ i ∧ i < n) (hs : ∀ k : Int, 0 ≤ k → k < i → f' k = f k) (hl : f i < f' i) (h : ∀ k : Int, 0 ≤ k → k < n → 0 ≤ f k ∧ f k ≤ 7) (h' : ∀ k : Int, 0 ≤ k → k < n → 0 ≤ f' k ∧ f' k ≤ 7) : xnm n f < xnm n f' := by
  have e : ((i.toNat : Nat) : Int) = i := by omega
  exact xnmN_lt (i := i.toNat) (by omega) (fun k q1 q2 => hs k q1 (by omega)) (by rw [e]; exact hl) (fun k q1 q2 => (h k q1 (by omega)).2) (fun k q1 q2 => (h' k q1 (by omega)).1)
def xMp (S : xT) (g : xG) (a : Nat) : Prop := ∃ (h : Nat) (n z : Int), S a = some (13, 0) ∧ g a 74 = .ref h ∧ S h = some (18300, 8) ∧ g a 78 = .int (iI n) ∧ 0 ≤ n ∧ n ≤ 8 ∧ g a 79 = .int (iI z) ∧ 0 ≤ z ∧ z ≤ 1 ∧ (z = 1 → xCo n (xv g h))
def xmq : List (Nat × Nat) := [(13, 74), (13, 78), (13, 79), (18300, 0)]
theorem xMp_m {S S1 : xT} {g g1 : xG} {a : Nat} {L : List (Nat × Nat)} (h : xMp S g a) (hm : xM L S g g1) (hle : xLe S S1) (hd : ∀ x ∈ xmq, x ∉ L) : xMp S1 g1 a := by
  obtain ⟨p, n, z, h1, h2, h3, h4, h5, h6, h7, h8, h9, h10⟩ := h
  refine ⟨p, n, z, hle _ _ h1, ?_, hle _ _ h3, ?_, h5, h6, ?_, h8, h9, fun e => ?_⟩
  · rw [hm _ _ _ _ h1 (hd _ (by decide))]; exact h2
  · rw [hm _ _ _ _ h1 (hd _ (by decide))]; exact h4
  · rw [hm _ _ _ _ h1 (hd _ (by decide))]; exact h7
  · rw [xv_m hm h3 (by decide) (hd _ (by decide))]; exact h10 e
set_option maxHeartbeats 4000000 in
set_option maxRecDepth 100000 in
theorem c_sumOf_t (l : Launch) (D : va_G) (kA : Nat → ClassId) (b0 : Nat) (t0 : Nat → Nat) (S : xT) (g : xG) (a0 : Nat) (a1 : Nat) (x2 : Int) (hs_a0 : S a0 = some (18100, 64)) (hs_a1 : S a1 = some (18400, 8)) (hx2 : 1 ≤ x2 ∧ x2 ≤ 8) : xMt l yX12_sumOf cX12_sumOf 5 (some .int) 0 0 0 0 D kA b0 t0 [] [.ref a0, .ref a1, .int (iI x2)] S g (fun (r : Option Value) (S1 : xT) (g1 : xG) => S = S1 ∧ g = g1 ∧ ∃ z : Int, r = some (.int (iI z)) ∧ (-2147483648) ≤ z ∧ z ≤ 2147483647) := by
  refine xEnterI (by decide) (by simp [lg_sl, Value.category]) [(0, .ref a0), (1, .ref a1), (2, .int (iI x2))] rfl ?_
  intro K E hK hret _ _ _
  refine X_iconst hK kd44_47.2.2.2.2.2.2.2.2.2.2.2 ?_
  refine X_istoren hK (i := 3) [(3, .int (iI 0)), (0, .ref a0), (1, .ref a1), (2, .int (iI x2))] kd44_48.1 rfl (by decide) rfl ?_
  refine X_iconst hK kd44_48.2.1 ?_
  refine X_istore hK (i := 4) [(4, .int (iI 0)), (3, .int (iI 0)), (0, .ref a0), (1, .ref a1), (2, .int (iI x2))] kd44_48.2.2.1 (by decide) rfl ?_
  have P42 : ∀ (nP42 : Nat) (z36 : Int) (_ : 0 ≤ z36) (_ : z36 ≤ 8) (z37 : Int) (_ : (-2147483648) ≤ z37) (_ : z37 ≤ 2147483647) (_ : 24 - z36 < (nP42 : Int)), X K E 5 [(4, .int (iI z36)), (3, .int (iI z37)), (0, .ref a0), (1, .ref a1), (2, .int (iI x2))] [] S g 0 0 := by
    intro nP42
    induction nP42 with
    | zero => intro z36 lz36 uz36 z37 lz37 uz37 mP42; exact False.elim (by omega)
    | succ nP42 ihP42 =>
      intro z36 lz36 uz36 z37 lz37 uz37 mP42
      refine X_iload hK (i := 4) 0 kd44_48.2.2.2.1 rfl ?_
      refine X_iloadn hK (i := 2) 4 kd44_48.2.2.2.2.1 rfl rfl ?_
      refine X_icmp_ge hK 32 (by omega) (by omega) kd44_48.2.2.2.2.2.1 (by decide) (fun c43 => ?_) (fun c43 => ?_)
      · refine X_iloadn hK (i := 3) 1 kd44_49.2.2.2.2.2.2.2.2.1 rfl rfl ?_
        exact hret _ _ _ _ _ _ _ kd44_49.2.2.2.2.2.2.2.2.2 ⟨rfl, rfl, z37, rfl, (by omega), (by omega)⟩ (Nat.le_refl _) (Nat.le_refl _)
      · refine X_iloadn hK (i := 3) 1 kd44_48.2.2.2.2.2.2.1 rfl rfl ?_
        refine X_aloadn hK (i := 0) 2 kd44_48.2.2.2.2.2.2.2.1 rfl rfl ?_
        refine X_bipush hK kd44_48.2.2.2.2.2.2.2.2.1 (by decide) ?_
        refine X_iload hK (i := 4) 0 kd44_48.2.2.2.2.2.2.2.2.2.1 rfl ?_
        refine X_imul hK kd44_48.2.2.2.2.2.2.2.2.2.2.1 ?_
        refine X_aloadn hK (i := 1) 3 kd44_48.2.2.2.2.2.2.2.2.2.2.2 rfl rfl ?_
        refine X_iload hK (i := 4) 0 kd44_49.1 rfl ?_
        refine X_iald hK hs_a1 (by decide) sl_18400 (by omega) (by omega) kd44_49.2.1 (fun z44 ez44 lz44 uz44 => ?_)
        refine X_iadd hK kd44_49.2.2.1 ?_
        refine X_iald hK hs_a0 (by decide) sl_18100 (by omega) (by omega) kd44_49.2.2.2.1 (fun z45 ez45 lz45 uz45 => ?_)
        refine X_iadd hK kd44_49.2.2.2.2.1 ?_
        refine X_norm (fun z46 ez46 lz46 uz46 => ?_)
        refine X_istoren hK (i := 3) [(3, .int (iI z46)), (4, .int (iI z36)), (0, .ref a0), (1, .ref a1), (2, .int (iI x2))] kd44_49.2.2.2.2.2.1 rfl (by decide) rfl ?_
        refine X_iinc hK (i := 4) (z := z36) (n := 1) 1 [(4, .int (iI (z36 + 1))), (3, .int (iI z46)), (0, .ref a0), (1, .ref a1), (2, .int (iI x2))] kd44_49.2.2.2.2.2.2.1 rfl (by decide) rfl ?_
        refine X_goto hK 5 kd44_49.2.2.2.2.2.2.2.1 (by decide) ?_
        exact ihP42  (z36 + 1) (by omega) (by omega) z46 (by omega) (by omega) (by omega)
  exact P42 ((24 - 0 : Int).toNat + 1) 0 (by omega) (by omega) 0 (by omega) (by omega) (by omega)

set_option maxHeartbeats 4000000 in
set_option maxRecDepth 100000 in
theorem c_sumOf_h (l : Launch) (D : va_G) (kA : Nat → ClassId) (b0 : Nat) (t0 : Nat → Nat) (S : xT) (g : xG) (a0 : Nat) (a1 : Nat) (x2 : Int) (hs_a0 : S a0 = some (18100, 64)) (hs_a1 : S a1 = some (18300, 8)) (hx2 : 1 ≤ x2 ∧ x2 ≤ 8) (hp0 : xCo x2 (xv g a1)) : xMt l yX12_sumOf cX12_sumOf 5 (some .int) 0 0 0 0 D kA b0 t0 [] [.ref a0, .ref a1, .int (iI x2)] S g (fun (r : Option Value) (S1 : xT) (g1 : xG) => S = S1 ∧ g = g1 ∧ ∃ z : Int, r = some (.int (iI z)) ∧ (-2147483648) ≤ z ∧ z ≤ 2147483647) := by
  refine xEnterI (by decide) (by simp [lg_sl, Value.category]) [(0, .ref a0), (1, .ref a1), (2, .int (iI x2))] rfl ?_
  intro K E hK hret _ _ _
  refine X_iconst hK kd44_47.2.2.2.2.2.2.2.2.2.2.2 ?_
  refine X_istoren hK (i := 3) [(3, .int (iI 0)), (0, .ref a0), (1, .ref a1), (2, .int (iI x2))] kd44_48.1 rfl (by decide) rfl ?_
  refine X_iconst hK kd44_48.2.1 ?_
  refine X_istore hK (i := 4) [(4, .int (iI 0)), (3, .int (iI 0)), (0, .ref a0), (1, .ref a1), (2, .int (iI x2))] kd44_48.2.2.1 (by decide) rfl ?_
  have P49 : ∀ (nP49 : Nat) (z42 : Int) (_ : 0 ≤ z42) (_ : z42 ≤ 8) (z43 : Int) (_ : (-2147483648) ≤ z43) (_ : z43 ≤ 2147483647) (_ : 24 - z42 < (nP49 : Int)), X K E 5 [(4, .int (iI z42)), (3, .int (iI z43)), (0, .ref a0), (1, .ref a1), (2, .int (iI x2))] [] S g 0 0 := by
    intro nP49
    induction nP49 with
    | zero => intro z42 lz42 uz42 z43 lz43 uz43 mP49; exact False.elim (by omega)
    | succ nP49 ihP49 =>
      intro z42 lz42 uz42 z43 lz43 uz43 mP49
      refine X_iload hK (i := 4) 0 kd44_48.2.2.2.1 rfl ?_
      refine X_iloadn hK (i := 2) 4 kd44_48.2.2.2.2.1 rfl rfl ?_
      refine X_icmp_ge hK 32 (by omega) (by omega) kd44_48.2.2.2.2.2.1 (by decide) (fun c50 => ?_) (fun c50 => ?_)
      · refine X_iloadn hK (i := 3) 1 kd44_49.2.2.2.2.2.2.2.2.1 rfl rfl ?_
        exact hret _ _ _ _ _ _ _ kd44_49.2.2.2.2.2.2.2.2.2 ⟨rfl, rfl, z43, rfl, (by omega), (by omega)⟩ (Nat.le_refl _) (Nat.le_refl _)
      · refine X_iloadn hK (i := 3) 1 kd44_48.2.2.2.2.2.2.1 rfl rfl ?_
        refine X_aloadn hK (i := 0) 2 kd44_48.2.2.2.2.2.2.2.1 rfl rfl ?_
        refine X_bipush hK kd44_48.2.2.2.2.2.2.2.2.1 (by decide) ?_
        refine X_iload hK (i := 4) 0 kd44_48.2.2.2.2.2.2.2.2.2.1 rfl ?_
        refine X_imul hK kd44_48.2.2.2.2.2.2.2.2.2.2.1 ?_
        refine X_aloadn hK (i := 1) 3 kd44_48.2.2.2.2.2.2.2.2.2.2.2 rfl rfl ?_
        refine X_iload hK (i := 4) 0 kd44_49.1 rfl ?_
        refine X_iald hK hs_a1 (by decide) sl_18300 (by omega) (by omega) kd44_49.2.1 (fun z51 ez51 lz51 uz51 => ?_)
        have hch52 : 0 ≤ z51 := by have h9 := hp0 z42 (by omega) (by omega); rw [xv_e (j := z42) ez51 (by omega)] at h9; exact h9
        refine X_iadd hK kd44_49.2.2.1 ?_
        refine X_iald hK hs_a0 (by decide) sl_18100 (by omega) (by omega) kd44_49.2.2.2.1 (fun z53 ez53 lz53 uz53 => ?_)
        refine X_iadd hK kd44_49.2.2.2.2.1 ?_
        refine X_norm (fun z54 ez54 lz54 uz54 => ?_)
        refine X_istoren hK (i := 3) [(3, .int (iI z54)), (4, .int (iI z42)), (0, .ref a0), (1, .ref a1), (2, .int (iI x2))] kd44_49.2.2.2.2.2.1 rfl (by decide) rfl ?_
        refine X_iinc hK (i := 4) (z := z42) (n := 1) 1 [(4, .int (iI (z42 + 1))), (3, .int (iI z54)), (0, .ref a0), (1, .ref a1), (2, .int (iI x2))] kd44_49.2.2.2.2.2.2.1 rfl (by decide) rfl ?_
        refine X_goto hK 5 kd44_49.2.2.2.2.2.2.2.1 (by decide) ?_
        exact ihP49  (z42 + 1) (by omega) (by omega) z54 (by omega) (by omega) (by omega)
  exact P49 ((24 - 0 : Int).toNat + 1) 0 (by omega) (by omega) 0 (by omega) (by omega) (by omega)

set_option maxHeartbeats 4000000 in
set_option maxRecDepth 100000 in
theorem c_mPeace_t (l : Launch) (D : va_G) (kA : Nat → ClassId) (b0 : Nat) (t0 : Nat → Nat) (S : xT) (g : xG) (a0 : Nat) (a1 : Nat) (x2 : Int) (x3 : Int) (hs_a0 : S a0 = some (13, 0)) (hs_a1 : S a1 = some (18400, 8)) (hx2 : 1 ≤ x2 ∧ x2 ≤ 8) (hx3 : (-2147483648) ≤ x3 ∧ x3 ≤ 2147483647) : xMt l yX12_hasPeace cX12_hasPeace 7 (some .boolean) 0 0 0 0 D kA b0 t0 [] [.ref a0, .ref a1, .int (iI x2), .int (iI x3)] S g (fun (r : Option Value) (S1 : xT) (g1 : xG) => S = S1 ∧ g = g1 ∧ ∃ z : Int, r = some (.int (iI z)) ∧ 0 ≤ z ∧ z ≤ 1) := by
  refine xEnterZ (by decide) (by simp [lg_sl, Value.category]) [(0, .ref a0), (1, .ref a1), (2, .int (iI x2)), (3, .int (iI x3))] rfl ?_
  intro K E hK hret _ _ _
  refine X_iconst hK kd44_6.2.2.2.2.2.2.1 ?_
  refine X_istore hK (i := 4) [(4, .int (iI 0)), (0, .ref a0), (1, .ref a1), (2, .int (iI x2)), (3, .int (iI x3))] kd44_6.2.2.2.2.2.2.2.1 (by decide) rfl ?_
  have P590 : ∀ (nP590 : Nat) (z490 : Int) (_ : 0 ≤ z490) (_ : z490 ≤ 8) (_ : 24 - z490 < (nP590 : Int)), X K E 3 [(4, .int (iI z490)), (0, .ref a0), (1, .ref a1), (2, .int (iI x2)), (3, .int (iI x3))] [] S g 0 0 := by
    intro nP590
    induction nP590 with
    | zero => intro z490 lz490 uz490 mP590; exact False.elim (by omega)
    | succ nP590 ihP590 =>
      intro z490 lz490 uz490 mP590
      refine X_iload hK (i := 4) 0 kd44_6.2.2.2.2.2.2.2.2.1 rfl ?_
      refine X_iloadn hK (i := 2) 3 kd44_6.2.2.2.2.2.2.2.2.2.1 rfl rfl ?_
      refine X_icmp_ge hK 110 (by omega) (by omega) kd44_6.2.2.2.2.2.2.2.2.2.2.1 (by decide) (fun c591 => ?_) (fun c591 => ?_)
      · refine X_iconst hK kd44_11.2.2.2.2.2.2.2.2.1 ?_
        exact hret _ _ _ _ _ _ _ kd44_11.2.2.2.2.2.2.2.2.2.1 (by omega) (by omega) ⟨rfl, rfl, 1, rfl, (by omega), (by omega)⟩ (Nat.le_refl _) (Nat.le_refl _)
      · refine X_iconst hK kd44_6.2.2.2.2.2.2.2.2.2.2.2 ?_
        refine X_istore hK (i := 5) [(5, .int (iI 0)), (4, .int (iI z490)), (0, .ref a0), (1, .ref a1), (2, .int (iI x2)), (3, .int (iI x3))] kd44_7.1 (by decide) rfl ?_
        have P676 : ∀ (nP676 : Nat) (z662 : Int) (_ : 0 ≤ z662) (_ : z662 ≤ 8) (_ : 24 - z662 < (nP676 : Int)), X K E 12 [(5, .int (iI z662)), (4, .int (iI z490)), (0, .ref a0), (1, .ref a1), (2, .int (iI x2)), (3, .int (iI x3))] [] S g 0 0 := by
          intro nP676
          induction nP676 with
          | zero => intro z662 lz662 uz662 mP676; exact False.elim (by omega)
          | succ nP676 ihP676 =>
            intro z662 lz662 uz662 mP676
            refine X_iload hK (i := 5) 0 kd44_7.2.1 rfl ?_
            refine X_iloadn hK (i := 2) 4 kd44_7.2.2.1 rfl rfl ?_
            refine X_icmp_ge hK 104 (by omega) (by omega) kd44_7.2.2.2.1 (by decide) (fun c677 => ?_) (fun c677 => ?_)
            · refine X_iinc hK (i := 4) (z := z490) (n := 1) 1 [(4, .int (iI (z490 + 1))), (5, .int (iI z662)), (0, .ref a0), (1, .ref a1), (2, .int (iI x2)), (3, .int (iI x3))] kd44_11.2.2.2.2.2.2.1 rfl (by decide) rfl ?_
              refine X_goto hK 3 kd44_11.2.2.2.2.2.2.2.1 (by decide) ?_
              refine X_lv [(4, .int (iI (z490 + 1))), (0, .ref a0), (1, .ref a1), (2, .int (iI x2)), (3, .int (iI x3))] [0, 2, 3, 4, 5] rfl ?_
              exact ihP590  (z490 + 1) (by omega) (by omega) (by omega)
            · refine X_iload hK (i := 5) 0 kd44_7.2.2.2.2.1 rfl ?_
              refine X_iload hK (i := 4) 1 kd44_7.2.2.2.2.2.1 rfl ?_
              refine X_icmp_ne hK 28 (by omega) (by omega) kd44_7.2.2.2.2.2.2.1 (by decide) (fun c678 => ?_) (fun c678 => ?_)
              · refine X_aloadn hK (i := 1) 3 kd44_7.2.2.2.2.2.2.2.2.1 rfl rfl ?_
                refine X_iload hK (i := 5) 0 kd44_7.2.2.2.2.2.2.2.2.2.1 rfl ?_
                refine X_iald hK hs_a1 (by decide) sl_18400 (by omega) (by omega) kd44_7.2.2.2.2.2.2.2.2.2.2.1 (fun z679 ez679 lz679 uz679 => ?_)
                refine X_istore hK (i := 6) [(6, .int (iI z679)), (5, .int (iI z662)), (4, .int (iI z490)), (0, .ref a0), (1, .ref a1), (2, .int (iI x2)), (3, .int (iI x3))] kd44_7.2.2.2.2.2.2.2.2.2.2.2 (by decide) rfl ?_
                refine X_aloadn hK (i := 0) 3 kd44_8.1 rfl rfl ?_
                refine X_getr hK 18100 64 fl_X12_153_13 hs_a0 sl_13_72 kd44_8.2.1 (fun b680 eb680 hs_b680 => ?_)
                refine X_bipush hK kd44_8.2.2.1 (by decide) ?_
                refine X_iload hK (i := 4) 2 kd44_8.2.2.2.1 rfl ?_
                refine X_imul hK kd44_8.2.2.2.2.1 ?_
                refine X_iload hK (i := 6) 0 kd44_8.2.2.2.2.2.1 rfl ?_
                refine X_iadd hK kd44_8.2.2.2.2.2.2.1 ?_
                refine X_iald hK hs_b680 (by decide) sl_18100 (by omega) (by omega) kd44_8.2.2.2.2.2.2.2.1 (fun z681 ez681 lz681 uz681 => ?_)
                refine X_aloadn hK (i := 0) 3 kd44_8.2.2.2.2.2.2.2.2.1 rfl rfl ?_
                refine X_getK hK fl_X12_153_13 hs_a0 eb680 kd44_8.2.2.2.2.2.2.2.2.2.1 ?_
                refine X_bipush hK kd44_8.2.2.2.2.2.2.2.2.2.2.1 (by decide) ?_
                refine X_iload hK (i := 4) 2 kd44_8.2.2.2.2.2.2.2.2.2.2.2 rfl ?_
                refine X_imul hK kd44_9.1 ?_
                refine X_aloadn hK (i := 1) 4 kd44_9.2.1 rfl rfl ?_
                refine X_iload hK (i := 4) 2 kd44_9.2.2.1 rfl ?_
                refine X_iald hK hs_a1 (by decide) sl_18400 (by omega) (by omega) kd44_9.2.2.2.1 (fun z682 ez682 lz682 uz682 => ?_)
                refine X_iadd hK kd44_9.2.2.2.2.1 ?_
                refine X_iald hK hs_b680 (by decide) sl_18100 (by omega) (by omega) kd44_9.2.2.2.2.2.1 (fun z683 ez683 lz683 uz683 => ?_)
                refine X_iloadn hK (i := 3) 6 kd44_9.2.2.2.2.2.2.1 rfl rfl ?_
                refine X_iadd hK kd44_9.2.2.2.2.2.2.2.1 ?_
                refine X_norm (fun z684 ez684 lz684 uz684 => ?_)
                refine X_icmp_lt hK 98 (by omega) (by omega) kd44_9.2.2.2.2.2.2.2.2.1 (by decide) (fun c685 => ?_) (fun c685 => ?_)
                · refine X_iinc hK (i := 5) (z := z662) (n := 1) 1 [(5, .int (iI (z662 + 1))), (6, .int (iI z679)), (4, .int (iI z490)), (0, .ref a0), (1, .ref a1), (2, .int (iI x2)), (3, .int (iI x3))] kd44_11.2.2.2.2.1 rfl (by decide) rfl ?_
                  refine X_goto hK 12 kd44_11.2.2.2.2.2.1 (by decide) ?_
                  refine X_lv [(5, .int (iI (z662 + 1))), (4, .int (iI z490)), (0, .ref a0), (1, .ref a1), (2, .int (iI x2)), (3, .int (iI x3))] [0, 2, 3, 4, 5, 6] rfl ?_
                  exact ihP676  (z662 + 1) (by omega) (by omega) (by omega)
                · refine X_aloadn hK (i := 0) 3 kd44_9.2.2.2.2.2.2.2.2.2.1 rfl rfl ?_
                  refine X_getr hK 18200 64 fl_X12_156_13 hs_a0 sl_13_73 kd44_9.2.2.2.2.2.2.2.2.2.2.1 (fun b686 eb686 hs_b686 => ?_)
                  refine X_bipush hK kd44_9.2.2.2.2.2.2.2.2.2.2.2 (by decide) ?_
                  refine X_iload hK (i := 4) 2 kd44_10.1 rfl ?_
                  refine X_imul hK kd44_10.2.1 ?_
                  refine X_iload hK (i := 6) 0 kd44_10.2.2.1 rfl ?_
                  refine X_iadd hK kd44_10.2.2.2.1 ?_
                  refine X_iald hK hs_b686 (by decide) sl_18200 (by omega) (by omega) kd44_10.2.2.2.2.1 (fun z687 ez687 lz687 uz687 => ?_)
                  refine X_aloadn hK (i := 0) 3 kd44_10.2.2.2.2.2.1 rfl rfl ?_
                  refine X_getK hK fl_X12_156_13 hs_a0 eb686 kd44_10.2.2.2.2.2.2.1 ?_
                  refine X_bipush hK kd44_10.2.2.2.2.2.2.2.1 (by decide) ?_
                  refine X_iload hK (i := 5) 1 kd44_10.2.2.2.2.2.2.2.2.1 rfl ?_
                  refine X_imul hK kd44_10.2.2.2.2.2.2.2.2.2.1 ?_
                  refine X_iload hK (i := 6) 0 kd44_10.2.2.2.2.2.2.2.2.2.2.1 rfl ?_
                  refine X_iadd hK kd44_10.2.2.2.2.2.2.2.2.2.2.2 ?_
                  refine X_iald hK hs_b686 (by decide) sl_18200 (by omega) (by omega) kd44_11.1 (fun z688 ez688 lz688 uz688 => ?_)
                  refine X_icmp_le hK 98 (by omega) (by omega) kd44_11.2.1 (by decide) (fun c689 => ?_) (fun c689 => ?_)
                  · refine X_iinc hK (i := 5) (z := z662) (n := 1) 1 [(5, .int (iI (z662 + 1))), (6, .int (iI z679)), (4, .int (iI z490)), (0, .ref a0), (1, .ref a1), (2, .int (iI x2)), (3, .int (iI x3))] kd44_11.2.2.2.2.1 rfl (by decide) rfl ?_
                    refine X_goto hK 12 kd44_11.2.2.2.2.2.1 (by decide) ?_
                    refine X_lv [(5, .int (iI (z662 + 1))), (4, .int (iI z490)), (0, .ref a0), (1, .ref a1), (2, .int (iI x2)), (3, .int (iI x3))] [0, 2, 3, 4, 5, 6] rfl ?_
                    exact ihP676  (z662 + 1) (by omega) (by omega) (by omega)
                  · refine X_iconst hK kd44_11.2.2.1 ?_
                    exact hret _ _ _ _ _ _ _ kd44_11.2.2.2.1 (by omega) (by omega) ⟨rfl, rfl, 0, rfl, (by omega), (by omega)⟩ (Nat.le_refl _) (Nat.le_refl _)
              · refine X_goto hK 98 kd44_7.2.2.2.2.2.2.2.1 (by decide) ?_
                refine X_iinc hK (i := 5) (z := z662) (n := 1) 0 [(5, .int (iI (z662 + 1))), (4, .int (iI z490)), (0, .ref a0), (1, .ref a1), (2, .int (iI x2)), (3, .int (iI x3))] kd44_11.2.2.2.2.1 rfl (by decide) rfl ?_
                refine X_goto hK 12 kd44_11.2.2.2.2.2.1 (by decide) ?_
                exact ihP676  (z662 + 1) (by omega) (by omega) (by omega)
        exact P676 ((24 - 0 : Int).toNat + 1) 0 (by omega) (by omega) (by omega)
  exact P590 ((24 - 0 : Int).toNat + 1) 0 (by omega) (by omega) (by omega)

set_option maxHeartbeats 4000000 in
set_option maxRecDepth 100000 in
theorem c_mPeace_h (l : Launch) (D : va_G) (kA : Nat → ClassId) (b0 : Nat) (t0 : Nat → Nat) (S : xT) (g : xG) (a0 : Nat) (a1 : Nat) (x2 : Int) (x3 : Int) (hs_a0 : S a0 = some (13, 0)) (hs_a1 : S a1 = some (18300, 8)) (hx2 : 0 ≤ x2 ∧ x2 ≤ 8) (hx3 : (-2147483648) ≤ x3 ∧ x3 ≤ 2147483647) (hp0 : xCo x2 (xv g a1)) : xMt l yX12_hasPeace cX12_hasPeace 7 (some .boolean) 0 0 0 0 D kA b0 t0 [] [.ref a0, .ref a1, .int (iI x2), .int (iI x3)] S g (fun (r : Option Value) (S1 : xT) (g1 : xG) => S = S1 ∧ g = g1 ∧ ∃ z : Int, r = some (.int (iI z)) ∧ 0 ≤ z ∧ z ≤ 1) := by
  refine xEnterZ (by decide) (by simp [lg_sl, Value.category]) [(0, .ref a0), (1, .ref a1), (2, .int (iI x2)), (3, .int (iI x3))] rfl ?_
  intro K E hK hret _ _ _
  refine X_iconst hK kd44_6.2.2.2.2.2.2.1 ?_
  refine X_istore hK (i := 4) [(4, .int (iI 0)), (0, .ref a0), (1, .ref a1), (2, .int (iI x2)), (3, .int (iI x3))] kd44_6.2.2.2.2.2.2.2.1 (by decide) rfl ?_
  have P672 : ∀ (nP672 : Nat) (z558 : Int) (_ : 0 ≤ z558) (_ : z558 ≤ 8) (_ : 24 - z558 < (nP672 : Int)), X K E 3 [(4, .int (iI z558)), (0, .ref a0), (1, .ref a1), (2, .int (iI x2)), (3, .int (iI x3))] [] S g 0 0 := by
    intro nP672
    induction nP672 with
    | zero => intro z558 lz558 uz558 mP672; exact False.elim (by omega)
    | succ nP672 ihP672 =>
      intro z558 lz558 uz558 mP672
      refine X_iload hK (i := 4) 0 kd44_6.2.2.2.2.2.2.2.2.1 rfl ?_
      refine X_iloadn hK (i := 2) 3 kd44_6.2.2.2.2.2.2.2.2.2.1 rfl rfl ?_
      refine X_icmp_ge hK 110 (by omega) (by omega) kd44_6.2.2.2.2.2.2.2.2.2.2.1 (by decide) (fun c673 => ?_) (fun c673 => ?_)
      · refine X_iconst hK kd44_11.2.2.2.2.2.2.2.2.1 ?_
        exact hret _ _ _ _ _ _ _ kd44_11.2.2.2.2.2.2.2.2.2.1 (by omega) (by omega) ⟨rfl, rfl, 1, rfl, (by omega), (by omega)⟩ (Nat.le_refl _) (Nat.le_refl _)
      · refine X_iconst hK kd44_6.2.2.2.2.2.2.2.2.2.2.2 ?_
        refine X_istore hK (i := 5) [(5, .int (iI 0)), (4, .int (iI z558)), (0, .ref a0), (1, .ref a1), (2, .int (iI x2)), (3, .int (iI x3))] kd44_7.1 (by decide) rfl ?_
        have P770 : ∀ (nP770 : Nat) (z754 : Int) (_ : 0 ≤ z754) (_ : z754 ≤ 8) (_ : 24 - z754 < (nP770 : Int)), X K E 12 [(5, .int (iI z754)), (4, .int (iI z558)), (0, .ref a0), (1, .ref a1), (2, .int (iI x2)), (3, .int (iI x3))] [] S g 0 0 := by
          intro nP770
          induction nP770 with
          | zero => intro z754 lz754 uz754 mP770; exact False.elim (by omega)
          | succ nP770 ihP770 =>
            intro z754 lz754 uz754 mP770
            refine X_iload hK (i := 5) 0 kd44_7.2.1 rfl ?_
            refine X_iloadn hK (i := 2) 4 kd44_7.2.2.1 rfl rfl ?_
            refine X_icmp_ge hK 104 (by omega) (by omega) kd44_7.2.2.2.1 (by decide) (fun c771 => ?_) (fun c771 => ?_)
            · refine X_iinc hK (i := 4) (z := z558) (n := 1) 1 [(4, .int (iI (z558 + 1))), (5, .int (iI z754)), (0, .ref a0), (1, .ref a1), (2, .int (iI x2)), (3, .int (iI x3))] kd44_11.2.2.2.2.2.2.1 rfl (by decide) rfl ?_
              refine X_goto hK 3 kd44_11.2.2.2.2.2.2.2.1 (by decide) ?_
              refine X_lv [(4, .int (iI (z558 + 1))), (0, .ref a0), (1, .ref a1), (2, .int (iI x2)), (3, .int (iI x3))] [0, 2, 3, 4, 5] rfl ?_
              exact ihP672  (z558 + 1) (by omega) (by omega) (by omega)
            · refine X_iload hK (i := 5) 0 kd44_7.2.2.2.2.1 rfl ?_
              refine X_iload hK (i := 4) 1 kd44_7.2.2.2.2.2.1 rfl ?_
              refine X_icmp_ne hK 28 (by omega) (by omega) kd44_7.2.2.2.2.2.2.1 (by decide) (fun c772 => ?_) (fun c772 => ?_)
              · refine X_aloadn hK (i := 1) 3 kd44_7.2.2.2.2.2.2.2.2.1 rfl rfl ?_
                refine X_iload hK (i := 5) 0 kd44_7.2.2.2.2.2.2.2.2.2.1 rfl ?_
                refine X_iald hK hs_a1 (by decide) sl_18300 (by omega) (by omega) kd44_7.2.2.2.2.2.2.2.2.2.2.1 (fun z773 ez773 lz773 uz773 => ?_)
                have hch774 : 0 ≤ z773 := by have h9 := hp0 z754 (by omega) (by omega); rw [xv_e (j := z754) ez773 (by omega)] at h9; exact h9
                refine X_istore hK (i := 6) [(6, .int (iI z773)), (5, .int (iI z754)), (4, .int (iI z558)), (0, .ref a0), (1, .ref a1), (2, .int (iI x2)), (3, .int (iI x3))] kd44_7.2.2.2.2.2.2.2.2.2.2.2 (by decide) rfl ?_
                refine X_aloadn hK (i := 0) 3 kd44_8.1 rfl rfl ?_
                refine X_getr hK 18100 64 fl_X12_153_13 hs_a0 sl_13_72 kd44_8.2.1 (fun b775 eb775 hs_b775 => ?_)
                refine X_bipush hK kd44_8.2.2.1 (by decide) ?_
                refine X_iload hK (i := 4) 2 kd44_8.2.2.2.1 rfl ?_
                refine X_imul hK kd44_8.2.2.2.2.1 ?_
                refine X_iload hK (i := 6) 0 kd44_8.2.2.2.2.2.1 rfl ?_
                refine X_iadd hK kd44_8.2.2.2.2.2.2.1 ?_
                refine X_iald hK hs_b775 (by decide) sl_18100 (by omega) (by omega) kd44_8.2.2.2.2.2.2.2.1 (fun z776 ez776 lz776 uz776 => ?_)
                refine X_aloadn hK (i := 0) 3 kd44_8.2.2.2.2.2.2.2.2.1 rfl rfl ?_
                refine X_getK hK fl_X12_153_13 hs_a0 eb775 kd44_8.2.2.2.2.2.2.2.2.2.1 ?_
                refine X_bipush hK kd44_8.2.2.2.2.2.2.2.2.2.2.1 (by decide) ?_
                refine X_iload hK (i := 4) 2 kd44_8.2.2.2.2.2.2.2.2.2.2.2 rfl ?_
                refine X_imul hK kd44_9.1 ?_
                refine X_aloadn hK (i := 1) 4 kd44_9.2.1 rfl rfl ?_
                refine X_iload hK (i := 4) 2 kd44_9.2.2.1 rfl ?_
                refine X_iald hK hs_a1 (by decide) sl_18300 (by omega) (by omega) kd44_9.2.2.2.1 (fun z777 ez777 lz777 uz777 => ?_)
                have hch778 : 0 ≤ z777 := by have h9 := hp0 z558 (by omega) (by omega); rw [xv_e (j := z558) ez777 (by omega)] at h9; exact h9
                refine X_iadd hK kd44_9.2.2.2.2.1 ?_
                refine X_iald hK hs_b775 (by decide) sl_18100 (by omega) (by omega) kd44_9.2.2.2.2.2.1 (fun z779 ez779 lz779 uz779 => ?_)
                refine X_iloadn hK (i := 3) 6 kd44_9.2.2.2.2.2.2.1 rfl rfl ?_
                refine X_iadd hK kd44_9.2.2.2.2.2.2.2.1 ?_
                refine X_norm (fun z780 ez780 lz780 uz780 => ?_)
                refine X_icmp_lt hK 98 (by omega) (by omega) kd44_9.2.2.2.2.2.2.2.2.1 (by decide) (fun c781 => ?_) (fun c781 => ?_)
                · refine X_iinc hK (i := 5) (z := z754) (n := 1) 1 [(5, .int (iI (z754 + 1))), (6, .int (iI z773)), (4, .int (iI z558)), (0, .ref a0), (1, .ref a1), (2, .int (iI x2)), (3, .int (iI x3))] kd44_11.2.2.2.2.1 rfl (by decide) rfl ?_
                  refine X_goto hK 12 kd44_11.2.2.2.2.2.1 (by decide) ?_
                  refine X_lv [(5, .int (iI (z754 + 1))), (4, .int (iI z558)), (0, .ref a0), (1, .ref a1), (2, .int (iI x2)), (3, .int (iI x3))] [0, 2, 3, 4, 5, 6] rfl ?_
                  exact ihP770  (z754 + 1) (by omega) (by omega) (by omega)
                · refine X_aloadn hK (i := 0) 3 kd44_9.2.2.2.2.2.2.2.2.2.1 rfl rfl ?_
                  refine X_getr hK 18200 64 fl_X12_156_13 hs_a0 sl_13_73 kd44_9.2.2.2.2.2.2.2.2.2.2.1 (fun b782 eb782 hs_b782 => ?_)
                  refine X_bipush hK kd44_9.2.2.2.2.2.2.2.2.2.2.2 (by decide) ?_
                  refine X_iload hK (i := 4) 2 kd44_10.1 rfl ?_
                  refine X_imul hK kd44_10.2.1 ?_
                  refine X_iload hK (i := 6) 0 kd44_10.2.2.1 rfl ?_
                  refine X_iadd hK kd44_10.2.2.2.1 ?_
                  refine X_iald hK hs_b782 (by decide) sl_18200 (by omega) (by omega) kd44_10.2.2.2.2.1 (fun z783 ez783 lz783 uz783 => ?_)
                  refine X_aloadn hK (i := 0) 3 kd44_10.2.2.2.2.2.1 rfl rfl ?_
                  refine X_getK hK fl_X12_156_13 hs_a0 eb782 kd44_10.2.2.2.2.2.2.1 ?_
                  refine X_bipush hK kd44_10.2.2.2.2.2.2.2.1 (by decide) ?_
                  refine X_iload hK (i := 5) 1 kd44_10.2.2.2.2.2.2.2.2.1 rfl ?_
                  refine X_imul hK kd44_10.2.2.2.2.2.2.2.2.2.1 ?_
                  refine X_iload hK (i := 6) 0 kd44_10.2.2.2.2.2.2.2.2.2.2.1 rfl ?_
                  refine X_iadd hK kd44_10.2.2.2.2.2.2.2.2.2.2.2 ?_
                  refine X_iald hK hs_b782 (by decide) sl_18200 (by omega) (by omega) kd44_11.1 (fun z784 ez784 lz784 uz784 => ?_)
                  refine X_icmp_le hK 98 (by omega) (by omega) kd44_11.2.1 (by decide) (fun c785 => ?_) (fun c785 => ?_)
                  · refine X_iinc hK (i := 5) (z := z754) (n := 1) 1 [(5, .int (iI (z754 + 1))), (6, .int (iI z773)), (4, .int (iI z558)), (0, .ref a0), (1, .ref a1), (2, .int (iI x2)), (3, .int (iI x3))] kd44_11.2.2.2.2.1 rfl (by decide) rfl ?_
                    refine X_goto hK 12 kd44_11.2.2.2.2.2.1 (by decide) ?_
                    refine X_lv [(5, .int (iI (z754 + 1))), (4, .int (iI z558)), (0, .ref a0), (1, .ref a1), (2, .int (iI x2)), (3, .int (iI x3))] [0, 2, 3, 4, 5, 6] rfl ?_
                    exact ihP770  (z754 + 1) (by omega) (by omega) (by omega)
                  · refine X_iconst hK kd44_11.2.2.1 ?_
                    exact hret _ _ _ _ _ _ _ kd44_11.2.2.2.1 (by omega) (by omega) ⟨rfl, rfl, 0, rfl, (by omega), (by omega)⟩ (Nat.le_refl _) (Nat.le_refl _)
              · refine X_goto hK 98 kd44_7.2.2.2.2.2.2.2.1 (by decide) ?_
                refine X_iinc hK (i := 5) (z := z754) (n := 1) 0 [(5, .int (iI (z754 + 1))), (4, .int (iI z558)), (0, .ref a0), (1, .ref a1), (2, .int (iI x2)), (3, .int (iI x3))] kd44_11.2.2.2.2.1 rfl (by decide) rfl ?_
                refine X_goto hK 12 kd44_11.2.2.2.2.2.1 (by decide) ?_
                exact ihP770  (z754 + 1) (by omega) (by omega) (by omega)
        exact P770 ((24 - 0 : Int).toNat + 1) 0 (by omega) (by omega) (by omega)
  exact P672 ((24 - 0 : Int).toNat + 1) 0 (by omega) (by omega) (by omega)

set_option maxHeartbeats 4000000 in
set_option maxRecDepth 100000 in
theorem c_X12_goOn (l : Launch) (D : va_G) (kA : Nat → ClassId) (b0 : Nat) (t0 : Nat → Nat) (S : xT) (g : xG) (a0 : Nat) (x1 : Int) (hs_a0 : S a0 = some (18400, 8)) (hx1 : 1 ≤ x1 ∧ x1 ≤ 8) (hp0 : xInj x1 (xv g a0)) : xMt l yX12_goOn cX12_goOn 7 (some .boolean) 0 0 0 0 D kA b0 t0 [(18400, 0)] [.ref a0, .int (iI x1)] S g (fun (r : Option Value) (S1 : xT) (g1 : xG) => S = S1 ∧ ∃ z : Int, r = some (.int (iI z)) ∧ 0 ≤ z ∧ z ≤ 1 ∧ (xInj x1 (xv g1 a0)) ∧ (xnm x1 (xv g a0) + z ≤ xnm x1 (xv g1 a0)) ∧ (0 ≤ xnm x1 (xv g1 a0) ∧ xnm x1 (xv g1 a0) < 16777216)) := by
  refine xEnterZ (by decide) (by simp [lg_sl, Value.category]) [(0, .ref a0), (1, .int (iI x1))] rfl ?_
  intro K E hK hret _ _ _
  refine X_iloadn hK (i := 1) 1 kd44_0.1 rfl rfl ?_
  refine X_iconst hK kd44_0.2.1 ?_
  refine X_isub hK kd44_0.2.2.1 ?_
  refine X_istoren hK (i := 2) [(2, .int (iI (x1 - 2))), (0, .ref a0), (1, .int (iI x1))] kd44_0.2.2.2.1 rfl (by decide) rfl ?_
  refine X_wt (fun hWa => ?_)
  have hra : ∀ k : Int, 0 ≤ k → k < x1 → 0 ≤ xv g a0 k ∧ xv g a0 k ≤ 7 := fun k q1 q2 => xv_r hWa hs_a0 (by decide) sl_18400 (by decide) k q1 (by omega)
  have P1157 : ∀ (nP1157 : Nat) (z868 : Int) (_ : (-1) ≤ z868) (_ : z868 ≤ 6) (_ : z868 ≤ x1 - 2) (_ : z868 - (-17) < (nP1157 : Int)), X K E 4 [(2, .int (iI z868)), (0, .ref a0), (1, .int (iI x1))] [] S g 0 0 := by
    intro nP1157
    induction nP1157 with
    | zero => intro z868 lz868 uz868 v1158 mP1157; exact False.elim (by omega)
    | succ nP1157 ihP1157 =>
      intro z868 lz868 uz868 v1158 mP1157
      refine X_iloadn hK (i := 2) 0 kd44_0.2.2.2.2.1 rfl rfl ?_
      refine X_if_lt hK 25 (by omega) kd44_0.2.2.2.2.2.1 (by decide) (fun c1159 => ?_) (fun c1159 => ?_)
      · refine X_iloadn hK (i := 2) 0 kd44_1.2.2.2.2.2.1 rfl rfl ?_
        refine X_if_ge hK 31 (by omega) kd44_1.2.2.2.2.2.2.1 (by decide) (fun c1160 => False.elim (by omega)) (fun c1160 => ?_)
        refine X_iconst hK kd44_1.2.2.2.2.2.2.2.1 ?_
        refine X_wt (fun hWb => ?_)
        have hrb : ∀ k : Int, 0 ≤ k → k < x1 → 0 ≤ xv g a0 k ∧ xv g a0 k ≤ 7 := fun k q1 q2 => xv_r hWb hs_a0 (by decide) sl_18400 (by decide) k q1 (by omega)
        exact hret _ _ _ _ _ _ _ kd44_1.2.2.2.2.2.2.2.2.1 (by omega) (by omega) ⟨rfl, 0, rfl, (by omega), (by omega), hp0, (by omega), (xnm_b (by omega) hrb)⟩ (Nat.le_refl _) (Nat.le_refl _)
      · refine X_aloadn hK (i := 0) 1 kd44_0.2.2.2.2.2.2.1 rfl rfl ?_
        refine X_iloadn hK (i := 2) 0 kd44_0.2.2.2.2.2.2.2.1 rfl rfl ?_
        refine X_iald hK hs_a0 (by decide) sl_18400 (by omega) (by omega) kd44_0.2.2.2.2.2.2.2.2.1 (fun z1161 ez1161 lz1161 uz1161 => ?_)
        have hvz1161 := xv_e (j := z868) ez1161 (by omega)
        refine X_aloadn hK (i := 0) 1 kd44_0.2.2.2.2.2.2.2.2.2.1 rfl rfl ?_
        refine X_iloadn hK (i := 2) 0 kd44_0.2.2.2.2.2.2.2.2.2.2.1 rfl rfl ?_
        refine X_iconst hK kd44_0.2.2.2.2.2.2.2.2.2.2.2 ?_
        refine X_iadd hK kd44_1.1 ?_
        refine X_iald hK hs_a0 (by decide) sl_18400 (by omega) (by omega) kd44_1.2.1 (fun z1162 ez1162 lz1162 uz1162 => ?_)
        have hvz1162 := xv_e (j := (z868 + 1)) ez1162 (by omega)
        refine X_icmp_le hK 25 (by omega) (by omega) kd44_1.2.2.1 (by decide) (fun c1163 => ?_) (fun c1163 => ?_)
        · refine X_iloadn hK (i := 2) 0 kd44_1.2.2.2.2.2.1 rfl rfl ?_
          refine X_if_ge hK 31 (by omega) kd44_1.2.2.2.2.2.2.1 (by decide) (fun c1164 => ?_) (fun c1164 => False.elim (by omega))
          refine X_iloadn hK (i := 1) 2 kd44_1.2.2.2.2.2.2.2.2.2.1 rfl rfl ?_
          refine X_iconst hK kd44_1.2.2.2.2.2.2.2.2.2.2.1 ?_
          refine X_isub hK kd44_1.2.2.2.2.2.2.2.2.2.2.2 ?_
          refine X_istoren hK (i := 3) [(3, .int (iI (x1 - 1))), (2, .int (iI z868)), (0, .ref a0), (1, .int (iI x1))] kd44_2.1 rfl (by decide) rfl ?_
          have P1417 : ∀ (nP1417 : Nat) (z1354 : Int) (_ : 0 ≤ z1354) (_ : z1354 ≤ 7) (_ : z868 + 1 ≤ z1354) (_ : z1354 ≤ x1 - 1) (_ : z1354 < (nP1417 : Int)), X K E 35 [(3, .int (iI z1354)), (2, .int (iI z868)), (0, .ref a0), (1, .int (iI x1))] [] S g 0 0 := by
            intro nP1417
            induction nP1417 with
            | zero => intro z1354 lz1354 uz1354 v1418 v1419 mP1417; exact False.elim (by omega)
            | succ nP1417 ihP1417 =>
              intro z1354 lz1354 uz1354 v1418 v1419 mP1417
              refine X_aloadn hK (i := 0) 2 kd44_2.2.1 rfl rfl ?_
              refine X_iloadn hK (i := 3) 0 kd44_2.2.2.1 rfl rfl ?_
              refine X_iald hK hs_a0 (by decide) sl_18400 (by omega) (by omega) kd44_2.2.2.2.1 (fun z1420 ez1420 lz1420 uz1420 => ?_)
              have hvz1420 := xv_e (j := z1354) ez1420 (by omega)
              have hjz1420 : z1354 = z868 + 1 → z1420 = z1162 := fun e9 => by have h9 := hvz1420; rw [e9] at h9; omega
              refine X_aloadn hK (i := 0) 2 kd44_2.2.2.2.2.1 rfl rfl ?_
              refine X_iloadn hK (i := 2) 1 kd44_2.2.2.2.2.2.1 rfl rfl ?_
              refine X_ialdK hK hs_a0 (by decide) (by omega) (by omega) ez1161 kd44_2.2.2.2.2.2.2.1 ?_
              have hvx1421 := xv_e (j := z868) ez1161 (by omega)
              refine X_icmp_ge hK 50 (by omega) (by omega) kd44_2.2.2.2.2.2.2.2.1 (by decide) (fun c1422 => ?_) (fun c1422 => ?_)
              · refine X_aloadn hK (i := 0) 2 kd44_2.2.2.2.2.2.2.2.2.2.2.1 rfl rfl ?_
                refine X_iloadn hK (i := 2) 1 kd44_2.2.2.2.2.2.2.2.2.2.2.2 rfl rfl ?_
                refine X_ialdK hK hs_a0 (by decide) (by omega) (by omega) ez1161 kd44_3.1 ?_
                have hvx1423 := xv_e (j := z868) ez1161 (by omega)
                refine X_istore hK (i := 4) [(4, .int (iI z1161)), (3, .int (iI z1354)), (2, .int (iI z868)), (0, .ref a0), (1, .int (iI x1))] kd44_3.2.1 (by decide) rfl ?_
                have hij : xv g a0 z868 ≠ xv g a0 z1354 := hp0 _ _ (by omega) (by omega) (by omega) (by omega) (by omega)
                refine X_aloadn hK (i := 0) 3 kd44_3.2.2.1 rfl rfl ?_
                refine X_iloadn hK (i := 2) 2 kd44_3.2.2.2.1 rfl rfl ?_
                refine X_aloadn hK (i := 0) 3 kd44_3.2.2.2.2.1 rfl rfl ?_
                refine X_iloadn hK (i := 3) 1 kd44_3.2.2.2.2.2.1 rfl rfl ?_
                refine X_ialdK hK hs_a0 (by decide) (by omega) (by omega) ez1420 kd44_3.2.2.2.2.2.2.1 ?_
                have hvx1424 := xv_e (j := z1354) ez1420 (by omega)
                refine X_iast hK hs_a0 (by decide) (by decide) sl_18400 (by omega) (by omega) (by omega) (by omega) kd44_3.2.2.2.2.2.2.2.1 (fun g1425 hg1425 => ?_)
                refine X_aloadn hK (i := 0) 3 kd44_3.2.2.2.2.2.2.2.2.1 rfl rfl ?_
                refine X_iloadn hK (i := 3) 1 kd44_3.2.2.2.2.2.2.2.2.2.1 rfl rfl ?_
                refine X_iload hK (i := 4) 0 kd44_3.2.2.2.2.2.2.2.2.2.2.1 rfl ?_
                refine X_iast hK hs_a0 (by decide) (by decide) sl_18400 (by omega) (by omega) (by omega) (by omega) kd44_3.2.2.2.2.2.2.2.2.2.2.2 (fun g1426 hg1426 => ?_)
                refine X_iloadn hK (i := 2) 2 kd44_4.1 rfl rfl ?_
                refine X_iconst hK kd44_4.2.1 ?_
                refine X_iadd hK kd44_4.2.2.1 ?_
                refine X_istore hK (i := 5) [(5, .int (iI (z868 + 1))), (4, .int (iI z1161)), (3, .int (iI z1354)), (2, .int (iI z868)), (0, .ref a0), (1, .int (iI x1))] kd44_4.2.2.2.1 (by decide) rfl ?_
                refine X_iloadn hK (i := 1) 5 kd44_4.2.2.2.2.1 rfl rfl ?_
                refine X_iconst hK kd44_4.2.2.2.2.2.1 ?_
                refine X_isub hK kd44_4.2.2.2.2.2.2.1 ?_
                refine X_istore hK (i := 6) [(6, .int (iI (x1 - 1))), (5, .int (iI (z868 + 1))), (4, .int (iI z1161)), (3, .int (iI z1354)), (2, .int (iI z868)), (0, .ref a0), (1, .int (iI x1))] kd44_4.2.2.2.2.2.2.2.1 (by decide) rfl ?_
                have P1471 : ∀ (nP1471 : Nat) (g1465 : xG) (_ : xM [(18400, 0)] S g1426 g1465) (z1462 : Int) (_ : 0 ≤ z1462) (_ : z1462 ≤ 7) (z1463 : Int) (_ : 1 ≤ z1463) (_ : z1463 ≤ 7) (z1464 : Int) (_ : 0 ≤ z1464) (_ : z1464 ≤ 7) (_ : xInj x1 (xv g1465 a0)) (_ : ∀ k, 0 ≤ k → k < z868 → xv g1465 a0 k = xv g a0 k) (_ : xv g a0 z868 < xv g1465 a0 z868) (_ : z868 + 1 ≤ z1463) (_ : z1462 ≤ x1 - 1) (_ : 16 - z1463 < (nP1471 : Int)), X K E 76 [(6, .int (iI z1462)), (5, .int (iI z1463)), (4, .int (iI z1464)), (3, .int (iI z1354)), (2, .int (iI z868)), (0, .ref a0), (1, .int (iI x1))] [] S g1465 0 0 := by
                  intro nP1471
                  induction nP1471 with
                  | zero => intro g1465 hg1465 z1462 lz1462 uz1462 z1463 lz1463 uz1463 z1464 lz1464 uz1464 v1472 v1473 v1474 v1475 v1476 mP1471; exact False.elim (by omega)
                  | succ nP1471 ihP1471 =>
                    intro g1465 hg1465 z1462 lz1462 uz1462 z1463 lz1463 uz1463 z1464 lz1464 uz1464 v1472 v1473 v1474 v1475 v1476 mP1471
                    refine X_iload hK (i := 5) 1 kd44_4.2.2.2.2.2.2.2.2.1 rfl ?_
                    refine X_iload hK (i := 6) 0 kd44_4.2.2.2.2.2.2.2.2.2.1 rfl ?_
                    refine X_icmp_ge hK 112 (by omega) (by omega) kd44_4.2.2.2.2.2.2.2.2.2.2.1 (by decide) (fun c1477 => ?_) (fun c1477 => ?_)
                    · refine X_iconst hK kd44_6.2.2.2.2.1 ?_
                      refine X_wt (fun hWb => ?_)
                      have hrb : ∀ k : Int, 0 ≤ k → k < x1 → 0 ≤ xv g1465 a0 k ∧ xv g1465 a0 k ≤ 7 := fun k q1 q2 => xv_r hWb hs_a0 (by decide) sl_18400 (by decide) k q1 (by omega)
                      exact hret _ _ _ _ _ _ _ kd44_6.2.2.2.2.2.1 (by omega) (by omega) ⟨rfl, 1, rfl, (by omega), (by omega), v1472, (by have h9 := xnm_lt (i := z868) (by omega) v1473 (by omega) hra hrb; omega), (xnm_b (by omega) hrb)⟩ (Nat.le_refl _) (Nat.le_refl _)
                    · refine X_aloadn hK (i := 0) 5 kd44_4.2.2.2.2.2.2.2.2.2.2.2 rfl rfl ?_
                      refine X_iload hK (i := 5) 1 kd44_5.1 rfl ?_
                      refine X_iald hK hs_a0 (by decide) sl_18400 (by omega) (by omega) kd44_5.2.1 (fun z1478 ez1478 lz1478 uz1478 => ?_)
                      have hvz1478 := xv_e (j := z1463) ez1478 (by omega)
                      refine X_istore hK (i := 4) [(4, .int (iI z1478)), (6, .int (iI z1462)), (5, .int (iI z1463)), (3, .int (iI z1354)), (2, .int (iI z868)), (0, .ref a0), (1, .int (iI x1))] kd44_5.2.2.1 (by decide) rfl ?_
                      refine X_aloadn hK (i := 0) 5 kd44_5.2.2.2.1 rfl rfl ?_
                      refine X_iload hK (i := 5) 2 kd44_5.2.2.2.2.1 rfl ?_
                      refine X_aloadn hK (i := 0) 5 kd44_5.2.2.2.2.2.1 rfl rfl ?_
                      refine X_iload hK (i := 6) 1 kd44_5.2.2.2.2.2.2.1 rfl ?_
                      refine X_iald hK hs_a0 (by decide) sl_18400 (by omega) (by omega) kd44_5.2.2.2.2.2.2.2.1 (fun z1479 ez1479 lz1479 uz1479 => ?_)
                      have hvz1479 := xv_e (j := z1462) ez1479 (by omega)
                      refine X_iast hK hs_a0 (by decide) (by decide) sl_18400 (by omega) (by omega) (by omega) (by omega) kd44_5.2.2.2.2.2.2.2.2.1 (fun g1480 hg1480 => ?_)
                      refine X_aloadn hK (i := 0) 5 kd44_5.2.2.2.2.2.2.2.2.2.1 rfl rfl ?_
                      refine X_iload hK (i := 6) 1 kd44_5.2.2.2.2.2.2.2.2.2.2.1 rfl ?_
                      refine X_iload hK (i := 4) 0 kd44_5.2.2.2.2.2.2.2.2.2.2.2 rfl ?_
                      refine X_iast hK hs_a0 (by decide) (by decide) sl_18400 (by omega) (by omega) (by omega) (by omega) kd44_6.1 (fun g1481 hg1481 => ?_)
                      refine X_iinc hK (i := 5) (z := z1463) (n := 1) 2 [(5, .int (iI (z1463 + 1))), (4, .int (iI z1478)), (6, .int (iI z1462)), (3, .int (iI z1354)), (2, .int (iI z868)), (0, .ref a0), (1, .int (iI x1))] kd44_6.2.1 rfl (by decide) rfl ?_
                      refine X_iinc hK (i := 6) (z := z1462) (n := (-1)) 2 [(6, .int (iI (z1462 + (-1)))), (5, .int (iI (z1463 + 1))), (4, .int (iI z1478)), (3, .int (iI z1354)), (2, .int (iI z868)), (0, .ref a0), (1, .int (iI x1))] kd44_6.2.2.1 rfl (by decide) rfl ?_
                      refine X_goto hK 76 kd44_6.2.2.2.1 (by decide) ?_
                      exact ihP1471  g1481 (xM_ua (xM_ua (xM.tr xM.rf xLe.rf hg1465 (by decide)) hg1480 hs_a0 (by decide) (by decide)) hg1481 hs_a0 (by decide) (by decide)) (z1462 + (-1)) (by omega) (by omega) (z1463 + 1) (by omega) (by omega) z1478 (by omega) (by omega) (xInj_sw (i := z1463) (j := z1462) v1472 (by omega) (by omega) (by have h9 := (show xv g1481 a0 z1463 = z1479 from by rw [(xv_k (i := z1463) hg1481 (by omega) (by omega) (by omega)), xv_s hg1480 (by omega)]); omega) (by have h9 := (show xv g1481 a0 z1462 = z1478 from by rw [xv_s hg1481 (by omega)]); omega) (fun i9 hi9 h09 h19 => (show xv g1481 a0 i9 = xv g1465 a0 i9 from by rw [(xv_k (i := i9) hg1481 (by omega) (by omega) (by omega)), (xv_k (i := i9) hg1480 (by omega) (by omega) (by omega))]))) (fun k q1 q2 => (show xv g1481 a0 k = xv g1465 a0 k from by rw [(xv_k (i := k) hg1481 (by omega) (by omega) (by omega)), (xv_k (i := k) hg1480 (by omega) (by omega) (by omega))]).trans (v1473 k q1 q2)) (by have h9 := (show xv g1481 a0 z868 = xv g1465 a0 z868 from by rw [(xv_k (i := z868) hg1481 (by omega) (by omega) (by omega)), (xv_k (i := z868) hg1480 (by omega) (by omega) (by omega))]); omega) (by omega) (by omega) (by omega)
                exact P1471 ((16 - (z868 + 1) : Int).toNat + 1) g1426 xM.rf (x1 - 1) (by omega) (by omega) (z868 + 1) (by omega) (by omega) z1161 (by omega) (by omega) (xInj_sw (i := z868) (j := z1354) hp0 (by omega) (by omega) (by have h9 := (show xv g1426 a0 z868 = z1420 from by rw [(xv_k (i := z868) hg1426 (by omega) (by omega) (by omega)), xv_s hg1425 (by omega)]); omega) (by have h9 := (show xv g1426 a0 z1354 = z1161 from by rw [xv_s hg1426 (by omega)]); omega) (fun i9 hi9 h09 h19 => (show xv g1426 a0 i9 = xv g a0 i9 from by rw [(xv_k (i := i9) hg1426 (by omega) (by omega) (by omega)), (xv_k (i := i9) hg1425 (by omega) (by omega) (by omega))]))) (fun k q1 q2 => (show xv g1426 a0 k = xv g a0 k from by rw [(xv_k (i := k) hg1426 (by omega) (by omega) (by omega)), (xv_k (i := k) hg1425 (by omega) (by omega) (by omega))])) (by have h9 := (show xv g1426 a0 z868 = z1420 from by rw [(xv_k (i := z868) hg1426 (by omega) (by omega) (by omega)), xv_s hg1425 (by omega)]); omega) (by omega) (by omega) (by omega)
              · refine X_iinc hK (i := 3) (z := z1354) (n := (-1)) 0 [(3, .int (iI (z1354 + (-1)))), (2, .int (iI z868)), (0, .ref a0), (1, .int (iI x1))] kd44_2.2.2.2.2.2.2.2.2.1 rfl (by decide) rfl ?_
                refine X_goto hK 35 kd44_2.2.2.2.2.2.2.2.2.2.1 (by decide) ?_
                exact ihP1417  (z1354 + (-1)) (by omega) (by omega) (by omega) (by omega) (by omega)
          exact P1417 (((x1 - 1) : Int).toNat + 1) (x1 - 1) (by omega) (by omega) (by omega) (by omega) (by omega)
        · refine X_iinc hK (i := 2) (z := z868) (n := (-1)) 0 [(2, .int (iI (z868 + (-1)))), (0, .ref a0), (1, .int (iI x1))] kd44_1.2.2.2.1 rfl (by decide) rfl ?_
          refine X_goto hK 4 kd44_1.2.2.2.2.1 (by decide) ?_
          exact ihP1157  (z868 + (-1)) (by omega) (by omega) (by omega) (by omega)
  exact P1157 (((x1 - 2) - (-17) : Int).toNat + 1) (x1 - 2) (by omega) (by omega) (by omega) (by omega)

set_option maxHeartbeats 4000000 in
set_option maxRecDepth 100000 in
theorem c_X12_seek (l : Launch) (D : va_G) (kA : Nat → ClassId) (b0 : Nat) (t0 : Nat → Nat) (S : xT) (g : xG) (a0 : Nat) (x1 : Int) (x2 : Int) (w74 : Nat) (w75 : Nat) (hs_a0 : S a0 = some (13, 0)) (hx1 : 1 ≤ x1 ∧ x1 ≤ 8) (hx2 : (-2147483648) ≤ x2 ∧ x2 ≤ 2147483647) (ew74 : g a0 74 = .ref w74) (hs_w74 : S w74 = some (18300, 8)) (ew75 : g a0 75 = .ref w75) (hs_w75 : S w75 = some (18400, 8)) : xMt l yX12_seek cX12_seek 7 (some .boolean) 1 0 0 26 D kA b0 t0 [(18400, 0), (18300, 0)] [.ref a0, .int (iI x1), .int (iI x2)] S g (fun (r : Option Value) (S1 : xT) (g1 : xG) => S = S1 ∧ ∃ z : Int, r = some (.int (iI z)) ∧ 0 ≤ z ∧ z ≤ 1 ∧ (z = 1 → xCo x1 (xv g1 w74)) ∧ (z = 0 → xv g1 w74 = xv g w74)) := by
  refine xEnterZ (by decide) (by simp [lg_sl, Value.category]) [(0, .ref a0), (1, .int (iI x1)), (2, .int (iI x2))] rfl ?_
  intro K E hK hret _ _ _
  refine X_iconst hK kd44_42.2.2.2.2.2.2.1 ?_
  refine X_istoren hK (i := 3) [(3, .int (iI (-1))), (0, .ref a0), (1, .int (iI x1)), (2, .int (iI x2))] kd44_42.2.2.2.2.2.2.2.1 rfl (by decide) rfl ?_
  refine X_iconst hK kd44_42.2.2.2.2.2.2.2.2.1 ?_
  refine X_istore hK (i := 4) [(4, .int (iI 0)), (3, .int (iI (-1))), (0, .ref a0), (1, .int (iI x1)), (2, .int (iI x2))] kd44_42.2.2.2.2.2.2.2.2.2.1 (by decide) rfl ?_
  have P1616 : ∀ (nP1616 : Nat) (g1400 : xG) (_ : xM [(18400, 0)] S g g1400) (z1399 : Int) (_ : 0 ≤ z1399) (_ : z1399 ≤ 8) (_ : ∀ k, 0 ≤ k → k < z1399 → xv g1400 w75 k = k) (_ : 24 - z1399 < (nP1616 : Int)), X K E 5 [(4, .int (iI z1399)), (3, .int (iI (-1))), (0, .ref a0), (1, .int (iI x1)), (2, .int (iI x2))] [] S g1400 0 0 := by
    intro nP1616
    induction nP1616 with
    | zero => intro g1400 hg1400 z1399 lz1399 uz1399 v1617 mP1616; exact False.elim (by omega)
    | succ nP1616 ihP1616 =>
      intro g1400 hg1400 z1399 lz1399 uz1399 v1617 mP1616
      refine X_iload hK (i := 4) 0 kd44_42.2.2.2.2.2.2.2.2.2.2.1 rfl ?_
      refine X_iloadn hK (i := 1) 3 kd44_42.2.2.2.2.2.2.2.2.2.2.2 rfl rfl ?_
      refine X_icmp_ge hK 26 (by omega) (by omega) kd44_43.1 (by decide) (fun c1618 => ?_) (fun c1618 => ?_)
      · refine X_iconst hK kd44_43.2.2.2.2.2.2.2.2.1 ?_
        refine X_istore hK (i := 4) [(4, .int (iI 1)), (3, .int (iI (-1))), (0, .ref a0), (1, .int (iI x1)), (2, .int (iI x2))] kd44_43.2.2.2.2.2.2.2.2.2.1 (by decide) rfl ?_
        have P2252 : ∀ (nP2252 : Nat) (g2148 : xG) (_ : xM [(18400, 0), (18300, 0)] S g1400 g2148) (z2146 : Int) (_ : 0 ≤ z2146) (_ : z2146 ≤ 1) (z2147 : Int) (_ : (-1) ≤ z2147) (_ : z2147 ≤ 2147483647) (_ : xInj x1 (xv g2148 w75)) (_ : (z2147 = -1 ∧ xv g2148 w74 = xv g w74) ∨ (0 ≤ z2147 ∧ xCo x1 (xv g2148 w74))) (_ : 0 ≤ xnm x1 (xv g2148 w75) ∧ xnm x1 (xv g2148 w75) < 16777216) (_ : 2 * (16777216 - xnm x1 (xv g2148 w75)) + z2146 < (nP2252 : Int)), X K E 29 [(4, .int (iI z2146)), (3, .int (iI z2147)), (0, .ref a0), (1, .int (iI x1)), (2, .int (iI x2))] [] S g2148 0 0 := by
          intro nP2252
          induction nP2252 with
          | zero => intro g2148 hg2148 z2146 lz2146 uz2146 z2147 lz2147 uz2147 v2253 v2254 v2255 mP2252; exact False.elim (by omega)
          | succ nP2252 ihP2252 =>
            intro g2148 hg2148 z2146 lz2146 uz2146 z2147 lz2147 uz2147 v2253 v2254 v2255 mP2252
            refine X_iload hK (i := 4) 0 kd44_43.2.2.2.2.2.2.2.2.2.2.1 rfl ?_
            refine X_if_eq hK 112 (by omega) kd44_43.2.2.2.2.2.2.2.2.2.2.2 (by decide) (fun c2256 => ?_) (fun c2256 => ?_)
            · refine X_iloadn hK (i := 3) 1 kd44_47.2.2.2.2.1 rfl rfl ?_
              refine X_iconst hK kd44_47.2.2.2.2.2.1 ?_
              refine X_icmp_eq hK 121 (by omega) (by omega) kd44_47.2.2.2.2.2.2.1 (by decide) (fun c2257 => ?_) (fun c2257 => ?_)
              · refine X_iconst hK kd44_47.2.2.2.2.2.2.2.2.2.1 ?_
                exact hret _ _ _ _ _ _ _ kd44_47.2.2.2.2.2.2.2.2.2.2.1 (by omega) (by omega) ⟨rfl, 0, rfl, (by omega), (by omega), (fun h9 => by rcases v2254 with q9 | q9 <;> first | omega | exact q9.2), (fun h9 => by rcases v2254 with q9 | q9 <;> first | omega | exact q9.2)⟩ (Nat.le_refl _) (Nat.le_refl _)
              · refine X_iconst hK kd44_47.2.2.2.2.2.2.2.1 ?_
                refine X_goto hK 122 kd44_47.2.2.2.2.2.2.2.2.1 (by decide) ?_
                exact hret _ _ _ _ _ _ _ kd44_47.2.2.2.2.2.2.2.2.2.2.1 (by omega) (by omega) ⟨rfl, 1, rfl, (by omega), (by omega), (fun h9 => by rcases v2254 with q9 | q9 <;> first | omega | exact q9.2), (fun h9 => by rcases v2254 with q9 | q9 <;> first | omega | exact q9.2)⟩ (Nat.le_refl _) (Nat.le_refl _)
            · refine X_aloadn hK (i := 0) 2 kd44_44.1 rfl rfl ?_
              refine X_getr hK 18100 64 fl_X12_153_13 hs_a0 sl_13_72 kd44_44.2.1 (fun b2258 eb2258 hs_b2258 => ?_)
              refine X_aloadn hK (i := 0) 2 kd44_44.2.2.1 rfl rfl ?_
              refine X_getK hK fl_X12_162_13 hs_a0 ((hg2148 a0 13 0 75 hs_a0 (by decide)).trans ((hg1400 a0 13 0 75 hs_a0 (by decide)).trans ew75)) kd44_44.2.2.2.1 ?_
              refine X_iloadn hK (i := 1) 3 kd44_44.2.2.2.2.1 rfl rfl ?_
              refine X_callS hK [.ref b2258, .ref w75, .int (iI x1)] [] lk_X12_441 (c_sumOf_t _ _ _ _ _ S g2148 b2258 w75 x1 hs_b2258 hs_w75 (by omega)) kd44_44.2.2.2.2.2.1 rfl rfl (by simp [Value.category]) (by decide) (by decide) (by decide) (by decide) (fun r2259 S2261 g2260 pr2259 qr2259 hg2260 => ?_)
              obtain ⟨rfl, rfl, z2262, rfl, lz2262, uz2262⟩ := pr2259
              refine X_st [.int (iI z2262)] rfl ?_
              refine X_istore hK (i := 5) [(5, .int (iI z2262)), (4, .int (iI z2146)), (3, .int (iI z2147)), (0, .ref a0), (1, .int (iI x1)), (2, .int (iI x2))] kd44_44.2.2.2.2.2.2.1 (by decide) rfl ?_
              refine X_iload hK (i := 5) 0 kd44_44.2.2.2.2.2.2.2.1 rfl ?_
              refine X_iloadn hK (i := 3) 2 kd44_44.2.2.2.2.2.2.2.2.1 rfl rfl ?_
              refine X_icmp_le hK 99 (by omega) (by omega) kd44_44.2.2.2.2.2.2.2.2.2.1 (by decide) (fun c2263 => ?_) (fun c2263 => ?_)
              · refine X_aloadn hK (i := 0) 3 kd44_46.2.2.2.2.2.2.2.2.2.2.1 rfl rfl ?_
                refine X_getK hK fl_X12_162_13 hs_a0 ((hg2148 a0 13 0 75 hs_a0 (by decide)).trans ((hg1400 a0 13 0 75 hs_a0 (by decide)).trans ew75)) kd44_46.2.2.2.2.2.2.2.2.2.2.2 ?_
                refine X_iloadn hK (i := 1) 4 kd44_47.1 rfl rfl ?_
                refine X_callS hK [.ref w75, .int (iI x1)] [] lk_X12_449 (c_X12_goOn _ _ _ _ _ S g2148 w75 x1 hs_w75 (by omega) v2253) kd44_47.2.1 rfl rfl (by simp [Value.category]) (by decide) (by decide) (by decide) (by decide) (fun r2264 S2266 g2265 pr2264 qr2264 hg2265 => ?_)
                obtain ⟨rfl, z2267, rfl, lz2267, uz2267, k2268, k2269, k2270⟩ := pr2264
                refine X_st [.int (iI z2267)] rfl ?_
                refine X_istore hK (i := 4) [(4, .int (iI z2267)), (5, .int (iI z2262)), (3, .int (iI z2147)), (0, .ref a0), (1, .int (iI x1)), (2, .int (iI x2))] kd44_47.2.2.1 (by decide) rfl ?_
                refine X_goto hK 29 kd44_47.2.2.2.1 (by decide) ?_
                refine X_lv [(4, .int (iI z2267)), (3, .int (iI z2147)), (0, .ref a0), (1, .int (iI x1)), (2, .int (iI x2))] [0, 2, 3, 4, 5] rfl ?_
                exact ihP2252  g2265 (xM.tr (xM.tr xM.rf xLe.rf hg2148 (by decide)) xLe.rf hg2265 (by decide)) z2267 (by omega) (by omega) z2147 (by omega) (by omega) k2268 (by rw [(xv_m hg2265 hs_w74 (by decide) (by decide))]; exact v2254) k2270 (by omega)
              · refine X_aloadn hK (i := 0) 3 kd44_44.2.2.2.2.2.2.2.2.2.2.1 rfl rfl ?_
                refine X_aloadn hK (i := 0) 3 kd44_44.2.2.2.2.2.2.2.2.2.2.2 rfl rfl ?_
                refine X_getK hK fl_X12_162_13 hs_a0 ((hg2148 a0 13 0 75 hs_a0 (by decide)).trans ((hg1400 a0 13 0 75 hs_a0 (by decide)).trans ew75)) kd44_45.1 ?_
                refine X_iloadn hK (i := 1) 4 kd44_45.2.1 rfl rfl ?_
                refine X_iloadn hK (i := 2) 5 kd44_45.2.2.1 rfl rfl ?_
                refine X_callV hK [.ref w75, .int (iI x1), .int (iI x2)] [] lk_X12_445 (c_mPeace_t _ _ _ _ _ S g2148 a0 w75 x1 x2 hs_a0 hs_w75 (by omega) (by omega)) hs_a0 ⟨by decide, rfl⟩ kd44_45.2.2.2.1 rfl rfl (by simp [Value.category]) (by decide) (by decide) (by decide) (by decide) (fun r2271 S2273 g2272 pr2271 qr2271 hg2272 => ?_)
                obtain ⟨rfl, rfl, z2274, rfl, lz2274, uz2274⟩ := pr2271
                refine X_st [.int (iI z2274)] rfl ?_
                refine X_if_eq hK 99 (by omega) kd44_45.2.2.2.2.1 (by decide) (fun c2275 => ?_) (fun c2275 => ?_)
                · refine X_aloadn hK (i := 0) 3 kd44_46.2.2.2.2.2.2.2.2.2.2.1 rfl rfl ?_
                  refine X_getK hK fl_X12_162_13 hs_a0 ((hg2148 a0 13 0 75 hs_a0 (by decide)).trans ((hg1400 a0 13 0 75 hs_a0 (by decide)).trans ew75)) kd44_46.2.2.2.2.2.2.2.2.2.2.2 ?_
                  refine X_iloadn hK (i := 1) 4 kd44_47.1 rfl rfl ?_
                  refine X_callS hK [.ref w75, .int (iI x1)] [] lk_X12_449 (c_X12_goOn _ _ _ _ _ S g2148 w75 x1 hs_w75 (by omega) v2253) kd44_47.2.1 rfl rfl (by simp [Value.category]) (by decide) (by decide) (by decide) (by decide) (fun r2276 S2278 g2277 pr2276 qr2276 hg2277 => ?_)
                  obtain ⟨rfl, z2279, rfl, lz2279, uz2279, k2280, k2281, k2282⟩ := pr2276
                  refine X_st [.int (iI z2279)] rfl ?_
                  refine X_istore hK (i := 4) [(4, .int (iI z2279)), (5, .int (iI z2262)), (3, .int (iI z2147)), (0, .ref a0), (1, .int (iI x1)), (2, .int (iI x2))] kd44_47.2.2.1 (by decide) rfl ?_
                  refine X_goto hK 29 kd44_47.2.2.2.1 (by decide) ?_
                  refine X_lv [(4, .int (iI z2279)), (3, .int (iI z2147)), (0, .ref a0), (1, .int (iI x1)), (2, .int (iI x2))] [0, 2, 3, 4, 5] rfl ?_
                  exact ihP2252  g2277 (xM.tr (xM.tr xM.rf xLe.rf hg2148 (by decide)) xLe.rf hg2277 (by decide)) z2279 (by omega) (by omega) z2147 (by omega) (by omega) k2280 (by rw [(xv_m hg2277 hs_w74 (by decide) (by decide))]; exact v2254) k2282 (by omega)
                · refine X_iload hK (i := 5) 0 kd44_45.2.2.2.2.2.1 rfl ?_
                  refine X_istoren hK (i := 3) [(3, .int (iI z2262)), (5, .int (iI z2262)), (4, .int (iI z2146)), (0, .ref a0), (1, .int (iI x1)), (2, .int (iI x2))] kd44_45.2.2.2.2.2.2.1 rfl (by decide) rfl ?_
                  refine X_iconst hK kd44_45.2.2.2.2.2.2.2.1 ?_
                  refine X_istore hK (i := 6) [(6, .int (iI 0)), (3, .int (iI z2262)), (5, .int (iI z2262)), (4, .int (iI z2146)), (0, .ref a0), (1, .int (iI x1)), (2, .int (iI x2))] kd44_45.2.2.2.2.2.2.2.2.1 (by decide) rfl ?_
                  have P2347 : ∀ (nP2347 : Nat) (g2336 : xG) (_ : xM [(18300, 0)] S g2148 g2336) (z2335 : Int) (_ : 0 ≤ z2335) (_ : z2335 ≤ 8) (_ : ∀ k, 0 ≤ k → k < z2335 → 0 ≤ xv g2336 w74 k) (_ : 24 - z2335 < (nP2347 : Int)), X K E 73 [(6, .int (iI z2335)), (3, .int (iI z2262)), (5, .int (iI z2262)), (4, .int (iI z2146)), (0, .ref a0), (1, .int (iI x1)), (2, .int (iI x2))] [] S g2336 0 0 := by
                    intro nP2347
                    induction nP2347 with
                    | zero => intro g2336 hg2336 z2335 lz2335 uz2335 v2348 mP2347; exact False.elim (by omega)
                    | succ nP2347 ihP2347 =>
                      intro g2336 hg2336 z2335 lz2335 uz2335 v2348 mP2347
                      refine X_iload hK (i := 6) 0 kd44_45.2.2.2.2.2.2.2.2.2.1 rfl ?_
                      refine X_iloadn hK (i := 1) 5 kd44_45.2.2.2.2.2.2.2.2.2.2.1 rfl rfl ?_
                      refine X_icmp_ge hK 99 (by omega) (by omega) kd44_45.2.2.2.2.2.2.2.2.2.2.2 (by decide) (fun c2349 => ?_) (fun c2349 => ?_)
                      · refine X_aloadn hK (i := 0) 4 kd44_46.2.2.2.2.2.2.2.2.2.2.1 rfl rfl ?_
                        refine X_getK hK fl_X12_162_13 hs_a0 ((hg2336 a0 13 0 75 hs_a0 (by decide)).trans ((hg2148 a0 13 0 75 hs_a0 (by decide)).trans ((hg1400 a0 13 0 75 hs_a0 (by decide)).trans ew75))) kd44_46.2.2.2.2.2.2.2.2.2.2.2 ?_
                        refine X_iloadn hK (i := 1) 5 kd44_47.1 rfl rfl ?_
                        refine X_callS hK [.ref w75, .int (iI x1)] [] lk_X12_449 (c_X12_goOn _ _ _ _ _ S g2336 w75 x1 hs_w75 (by omega) (by rw [(xv_m hg2336 hs_w75 (by decide) (by decide))]; exact v2253)) kd44_47.2.1 rfl rfl (by simp [Value.category]) (by decide) (by decide) (by decide) (by decide) (fun r2350 S2352 g2351 pr2350 qr2350 hg2351 => ?_)
                        obtain ⟨rfl, z2353, rfl, lz2353, uz2353, k2354, k2355, k2356⟩ := pr2350
                        refine X_st [.int (iI z2353)] rfl ?_
                        have hnk2355 : xnm x1 (xv g2148 w75) + z2353 ≤ xnm x1 (xv g2351 w75) := by have h9 := k2355; rw [(xv_m hg2336 hs_w75 (by decide) (by decide))] at h9; exact h9
                        refine X_istore hK (i := 4) [(4, .int (iI z2353)), (6, .int (iI z2335)), (3, .int (iI z2262)), (5, .int (iI z2262)), (0, .ref a0), (1, .int (iI x1)), (2, .int (iI x2))] kd44_47.2.2.1 (by decide) rfl ?_
                        refine X_goto hK 29 kd44_47.2.2.2.1 (by decide) ?_
                        refine X_lv [(4, .int (iI z2353)), (3, .int (iI z2262)), (0, .ref a0), (1, .int (iI x1)), (2, .int (iI x2))] [0, 2, 4, 5, 6] rfl ?_
                        exact ihP2252  g2351 (xM.tr (xM.tr (xM.tr xM.rf xLe.rf hg2148 (by decide)) xLe.rf hg2336 (by decide)) xLe.rf hg2351 (by decide)) z2353 (by omega) (by omega) z2262 (by omega) (by omega) k2354 (Or.inr ⟨by omega, fun k q1 q2 => by rw [(xv_m hg2351 hs_w74 (by decide) (by decide))]; exact v2348 k q1 (by omega)⟩) k2356 (by omega)
                      · refine X_aloadn hK (i := 0) 4 kd44_46.1 rfl rfl ?_
                        refine X_getK hK fl_X12_159_13 hs_a0 ((hg2336 a0 13 0 74 hs_a0 (by decide)).trans ((hg2148 a0 13 0 74 hs_a0 (by decide)).trans ((hg1400 a0 13 0 74 hs_a0 (by decide)).trans ew74))) kd44_46.2.1 ?_
                        refine X_iload hK (i := 6) 0 kd44_46.2.2.1 rfl ?_
                        refine X_aloadn hK (i := 0) 4 kd44_46.2.2.2.1 rfl rfl ?_
                        refine X_getK hK fl_X12_162_13 hs_a0 ((hg2336 a0 13 0 75 hs_a0 (by decide)).trans ((hg2148 a0 13 0 75 hs_a0 (by decide)).trans ((hg1400 a0 13 0 75 hs_a0 (by decide)).trans ew75))) kd44_46.2.2.2.2.1 ?_
                        refine X_iload hK (i := 6) 0 kd44_46.2.2.2.2.2.1 rfl ?_
                        refine X_iald hK hs_w75 (by decide) sl_18400 (by omega) (by omega) kd44_46.2.2.2.2.2.2.1 (fun z2357 ez2357 lz2357 uz2357 => ?_)
                        have hvz2357 := xv_e (j := z2335) ez2357 (by omega)
                        refine X_iast hK hs_w74 (by decide) (by decide) sl_18300 (by omega) (by omega) (by omega) (by omega) kd44_46.2.2.2.2.2.2.2.1 (fun g2358 hg2358 => ?_)
                        refine X_iinc hK (i := 6) (z := z2335) (n := 1) 0 [(6, .int (iI (z2335 + 1))), (3, .int (iI z2262)), (5, .int (iI z2262)), (4, .int (iI z2146)), (0, .ref a0), (1, .int (iI x1)), (2, .int (iI x2))] kd44_46.2.2.2.2.2.2.2.2.1 rfl (by decide) rfl ?_
                        refine X_goto hK 73 kd44_46.2.2.2.2.2.2.2.2.2.1 (by decide) ?_
                        exact ihP2347  g2358 (xM_ua (xM.tr xM.rf xLe.rf hg2336 (by decide)) hg2358 hs_w74 (by decide) (by decide)) (z2335 + 1) (by omega) (by omega) (xpre (P := fun x => 0 ≤ x) v2348 (fun i9 hi9 h09 => (show xv g2358 w74 i9 = xv g2336 w74 i9 from by rw [(xv_k (i := i9) hg2358 (by omega) (by omega) (by omega))])) (by have h9 := (show xv g2358 w74 z2335 = z2357 from by rw [xv_s hg2358 (by omega)]); omega)) (by omega)
                  exact P2347 ((24 - 0 : Int).toNat + 1) g2148 xM.rf 0 (by omega) (by omega) (fun k q1 q2 => by omega) (by omega)
        exact P2252 ((2 * (16777216 - xnm x1 (xv g1400 w75)) + 1 : Int).toNat + 1) g1400 xM.rf 1 (by omega) (by omega) (-1) (by omega) (by omega) (fun i j q1 q2 q3 q4 q5 => by rw [v1617 i q1 (by omega), v1617 j q3 (by omega)]; exact q5) (Or.inl ⟨rfl, (xv_m hg1400 hs_w74 (by decide) (by decide))⟩) (xnm_b (by omega) (fun k q1 q2 => by rw [v1617 k q1 (by omega)]; omega)) (by omega)
      · refine X_aloadn hK (i := 0) 2 kd44_43.2.1 rfl rfl ?_
        refine X_getK hK fl_X12_162_13 hs_a0 ((hg1400 a0 13 0 75 hs_a0 (by decide)).trans ew75) kd44_43.2.2.1 ?_
        refine X_iload hK (i := 4) 0 kd44_43.2.2.2.1 rfl ?_
        refine X_iload hK (i := 4) 0 kd44_43.2.2.2.2.1 rfl ?_
        refine X_iast hK hs_w75 (by decide) (by decide) sl_18400 (by omega) (by omega) (by omega) (by omega) kd44_43.2.2.2.2.2.1 (fun g2359 hg2359 => ?_)
        refine X_iinc hK (i := 4) (z := z1399) (n := 1) 0 [(4, .int (iI (z1399 + 1))), (3, .int (iI (-1))), (0, .ref a0), (1, .int (iI x1)), (2, .int (iI x2))] kd44_43.2.2.2.2.2.2.1 rfl (by decide) rfl ?_
        refine X_goto hK 5 kd44_43.2.2.2.2.2.2.2.1 (by decide) ?_
        exact ihP1616  g2359 (xM_ua (xM.tr xM.rf xLe.rf hg1400 (by decide)) hg2359 hs_w75 (by decide) (by decide)) (z1399 + 1) (by omega) (by omega) (fun k q1 q2 => by rcases (show k < z1399 ∨ k = z1399 by omega) with c9 | c9 <;> first | (rw [c9]; exact (show xv g2359 w75 z1399 = z1399 from by rw [xv_s hg2359 (by omega)])) | (rw [(show xv g2359 w75 k = xv g1400 w75 k from by rw [(xv_k (i := k) hg2359 (by omega) (by omega) (by omega))])]; exact v1617 k q1 c9)) (by omega)
  exact P1616 ((24 - 0 : Int).toNat + 1) g xM.rf 0 (by omega) (by omega) (fun k q1 q2 => by omega) (by omega)

set_option maxHeartbeats 4000000 in
set_option maxRecDepth 100000 in
theorem c_X12_offer (l : Launch) (D : va_G) (kA : Nat → ClassId) (b0 : Nat) (t0 : Nat → Nat) (S : xT) (g : xG) (a0 : Nat) (x1 : Int) (w74 : Nat) (w76 : Nat) (w77 : Nat) (hs_a0 : S a0 = some (13, 0)) (hx1 : 1 ≤ x1 ∧ x1 ≤ 8) (ew74 : g a0 74 = .ref w74) (hs_w74 : S w74 = some (18300, 8)) (ew76 : g a0 76 = .ref w76) (hs_w76 : S w76 = some (18500, 8)) (ew77 : g a0 77 = .ref w77) (hs_w77 : S w77 = some (19701, 64)) : xMt l yX12_offer cX12_offer 7 none 0 0 0 0 D kA b0 t0 [(19701, 0), (18300, 0), (18500, 0)] [.ref a0, .int (iI x1)] S g (fun (r : Option Value) (S1 : xT) (g1 : xG) => S = S1 ∧ r = none ∧ (xCo x1 (xv g1 w74))) := by
  refine xEnterV (by decide) (by simp [lg_sl, Value.category]) [(0, .ref a0), (1, .int (iI x1))] rfl ?_
  intro K E hK hret _ _ _
  refine X_iconst hK kd44_11.2.2.2.2.2.2.2.2.2.2.1 ?_
  refine X_istoren hK (i := 2) [(2, .int (iI 0)), (0, .ref a0), (1, .int (iI x1))] kd44_11.2.2.2.2.2.2.2.2.2.2.2 rfl (by decide) rfl ?_
  have P19137 : ∀ (nP19137 : Nat) (g17051 : xG) (_ : xM [(19701, 0)] S g g17051) (z17050 : Int) (_ : 0 ≤ z17050) (_ : z17050 ≤ 64) (_ : ∀ k, 0 ≤ k → k < z17050 → xv g17051 w77 k = 0) (_ : 80 - z17050 < (nP19137 : Int)), X K E 2 [(2, .int (iI z17050)), (0, .ref a0), (1, .int (iI x1))] [] S g17051 0 0 := by
    intro nP19137
    induction nP19137 with
    | zero => intro g17051 hg17051 z17050 lz17050 uz17050 v19138 mP19137; exact False.elim (by omega)
    | succ nP19137 ihP19137 =>
      intro g17051 hg17051 z17050 lz17050 uz17050 v19138 mP19137
      refine X_iloadn hK (i := 2) 0 kd44_12.1 rfl rfl ?_
      refine X_bipush hK kd44_12.2.1 (by decide) ?_
      refine X_icmp_ge hK 21 (by omega) (by omega) kd44_12.2.2.1 (by decide) (fun c19139 => ?_) (fun c19139 => ?_)
      · refine X_iconst hK kd44_12.2.2.2.2.2.2.2.2.2.2.1 ?_
        refine X_istoren hK (i := 2) [(2, .int (iI 0)), (0, .ref a0), (1, .int (iI x1))] kd44_12.2.2.2.2.2.2.2.2.2.2.2 rfl (by decide) rfl ?_
        have P24349 : ∀ (nP24349 : Nat) (g23309 : xG) (_ : xM [(18500, 0), (18300, 0)] S g17051 g23309) (z23308 : Int) (_ : 0 ≤ z23308) (_ : z23308 ≤ 8) (_ : ∀ k, 0 ≤ k → k < z23308 → xv g23309 w74 k = -1) (_ : ∀ k, 0 ≤ k → k < z23308 → xv g23309 w76 k = -1) (_ : 24 - z23308 < (nP24349 : Int)), X K E 23 [(2, .int (iI z23308)), (0, .ref a0), (1, .int (iI x1))] [] S g23309 0 0 := by
          intro nP24349
          induction nP24349 with
          | zero => intro g23309 hg23309 z23308 lz23308 uz23308 v24350 v24351 mP24349; exact False.elim (by omega)
          | succ nP24349 ihP24349 =>
            intro g23309 hg23309 z23308 lz23308 uz23308 v24350 v24351 mP24349
            refine X_iloadn hK (i := 2) 0 kd44_13.1 rfl rfl ?_
            refine X_bipush hK kd44_13.2.1 (by decide) ?_
            refine X_icmp_ge hK 49 (by omega) (by omega) kd44_13.2.2.1 (by decide) (fun c24352 => ?_) (fun c24352 => ?_)
            · refine X_iconst hK kd44_14.2.2.2.1 ?_
              refine X_istoren hK (i := 2) [(2, .int (iI 1)), (0, .ref a0), (1, .int (iI x1))] kd44_14.2.2.2.2.1 rfl (by decide) rfl ?_
              have P27454 : ∀ (nP27454 : Nat) (g26938 : xG) (_ : xM [(18300, 0), (18500, 0), (19701, 0)] S g23309 g26938) (z26937 : Int) (_ : 0 ≤ z26937) (_ : z26937 ≤ 1) (_ : xOf x1 (xv g26938 w74) (xv g26938 w76) (xv g26938 w77)) (_ : 0 ≤ xPh x1 (xv g26938 w76) (xv g26938 w77) ∧ xPh x1 (xv g26938 w76) (xv g26938 w77) ≤ x1 * x1 + x1) (_ : z26937 = 0 → ∀ k, 0 ≤ k → k < x1 → xv g26938 w74 k ≠ -1) (_ : 2 * (x1 * x1 + x1 - xPh x1 (xv g26938 w76) (xv g26938 w77)) + z26937 < (nP27454 : Int)), X K E 51 [(2, .int (iI z26937)), (0, .ref a0), (1, .int (iI x1))] [] S g26938 0 0 := by
                intro nP27454
                induction nP27454 with
                | zero => intro g26938 hg26938 z26937 lz26937 uz26937 v27455 v27456 v27457 mP27454; exact False.elim (by omega)
                | succ nP27454 ihP27454 =>
                  intro g26938 hg26938 z26937 lz26937 uz26937 v27455 v27456 v27457 mP27454
                  refine X_iloadn hK (i := 2) 0 kd44_14.2.2.2.2.2.1 rfl rfl ?_
                  refine X_if_eq hK 328 (by omega) kd44_14.2.2.2.2.2.2.1 (by decide) (fun c27458 => ?_) (fun c27458 => ?_)
                  · exact hret _ _ _ _ _ _ kd44_27.2.2.2.2.2.1 ⟨rfl, rfl, (xOf.co v27455 (v27457 (by omega)))⟩ (Nat.le_refl _) (Nat.le_refl _)
                  · refine X_iconst hK kd44_14.2.2.2.2.2.2.2.1 ?_
                    refine X_istoren hK (i := 2) [(2, .int (iI 0)), (0, .ref a0), (1, .int (iI x1))] kd44_14.2.2.2.2.2.2.2.2.1 rfl (by decide) rfl ?_
                    refine X_iconst hK kd44_14.2.2.2.2.2.2.2.2.2.1 ?_
                    refine X_istoren hK (i := 3) [(3, .int (iI 0)), (2, .int (iI 0)), (0, .ref a0), (1, .int (iI x1))] kd44_14.2.2.2.2.2.2.2.2.2.2.1 rfl (by decide) rfl ?_
                    have P29800 : ∀ (nP29800 : Nat) (g29407 : xG) (_ : xM [(18300, 0), (18500, 0), (19701, 0)] S g26938 g29407) (z29405 : Int) (_ : 0 ≤ z29405) (_ : z29405 ≤ 8) (z29406 : Int) (_ : 0 ≤ z29406) (_ : z29406 ≤ 1) (_ : xOf x1 (xv g29407 w74) (xv g29407 w76) (xv g29407 w77)) (_ : xPh x1 (xv g26938 w76) (xv g26938 w77) + z29406 ≤ xPh x1 (xv g29407 w76) (xv g29407 w77)) (_ : z29406 = 0 → ∀ k, 0 ≤ k → k < z29405 → xv g29407 w74 k ≠ -1) (_ : 24 - z29405 < (nP29800 : Int)), X K E 59 [(3, .int (iI z29405)), (2, .int (iI z29406)), (0, .ref a0), (1, .int (iI x1))] [] S g29407 0 0 := by
                      intro nP29800
                      induction nP29800 with
                      | zero => intro g29407 hg29407 z29405 lz29405 uz29405 z29406 lz29406 uz29406 v29801 v29802 v29803 mP29800; exact False.elim (by omega)
                      | succ nP29800 ihP29800 =>
                        intro g29407 hg29407 z29405 lz29405 uz29405 z29406 lz29406 uz29406 v29801 v29802 v29803 mP29800
                        refine X_iloadn hK (i := 3) 0 kd44_14.2.2.2.2.2.2.2.2.2.2.2 rfl rfl ?_
                        refine X_iloadn hK (i := 1) 3 kd44_15.1 rfl rfl ?_
                        refine X_icmp_ge hK 325 (by omega) (by omega) kd44_15.2.1 (by decide) (fun c29804 => ?_) (fun c29804 => ?_)
                        · refine X_goto hK 51 kd44_27.2.2.2.2.1 (by decide) ?_
                          refine X_lv [(2, .int (iI z29406)), (0, .ref a0), (1, .int (iI x1))] [1, 2, 3] rfl ?_
                          exact ihP27454  g29407 (xM.tr (xM.tr xM.rf xLe.rf hg26938 (by decide)) xLe.rf hg29407 (by decide)) z29406 (by omega) (by omega) v29801 (xPh_le (n := x1) (xv g29407 w76) (xv g29407 w77) (by omega)) (fun h9 k q1 q2 => v29803 h9 k q1 (by omega)) (by omega)
                        · refine X_aloadn hK (i := 0) 2 kd44_15.2.2.1 rfl rfl ?_
                          refine X_getK hK fl_X12_159_13 hs_a0 ((hg29407 a0 13 0 74 hs_a0 (by decide)).trans ((hg26938 a0 13 0 74 hs_a0 (by decide)).trans ((hg23309 a0 13 0 74 hs_a0 (by decide)).trans ((hg17051 a0 13 0 74 hs_a0 (by decide)).trans ew74)))) kd44_15.2.2.2.1 ?_
                          refine X_iloadn hK (i := 3) 0 kd44_15.2.2.2.2.1 rfl rfl ?_
                          refine X_iald hK hs_w74 (by decide) sl_18300 (by omega) (by omega) kd44_15.2.2.2.2.2.1 (fun z29805 ez29805 lz29805 uz29805 => ?_)
                          have hvz29805 := xv_e (j := z29405) ez29805 (by omega)
                          refine X_iconst hK kd44_15.2.2.2.2.2.2.1 ?_
                          refine X_icmp_eq hK 77 (by omega) (by omega) kd44_15.2.2.2.2.2.2.2.1 (by decide) (fun c29806 => ?_) (fun c29806 => ?_)
                          · refine X_iconst hK kd44_15.2.2.2.2.2.2.2.2.2.1 ?_
                            refine X_istoren hK (i := 2) [(2, .int (iI 1)), (3, .int (iI z29405)), (0, .ref a0), (1, .int (iI x1))] kd44_15.2.2.2.2.2.2.2.2.2.2.1 rfl (by decide) rfl ?_
                            refine X_iconst hK kd44_15.2.2.2.2.2.2.2.2.2.2.2 ?_
                            refine X_istore hK (i := 4) [(4, .int (iI (-1))), (2, .int (iI 1)), (3, .int (iI z29405)), (0, .ref a0), (1, .int (iI x1))] kd44_16.1 (by decide) rfl ?_
                            refine X_iconst hK kd44_16.2.1 ?_
                            refine X_istore hK (i := 5) [(5, .int (iI 0)), (4, .int (iI (-1))), (2, .int (iI 1)), (3, .int (iI z29405)), (0, .ref a0), (1, .int (iI x1))] kd44_16.2.2.1 (by decide) rfl ?_
                            have P30139 : ∀ (nP30139 : Nat) (z30084 : Int) (_ : 0 ≤ z30084) (_ : z30084 ≤ 8) (z30085 : Int) (_ : (-1) ≤ z30085) (_ : z30085 ≤ 7) (_ : z30085 = -1 → ∀ c, 0 ≤ c → c < z30084 → xv g29407 w77 (8 * z29405 + c) ≠ 0) (_ : z30085 ≠ -1 → z30085 < z30084 ∧ xv g29407 w77 (8 * z29405 + z30085) = 0) (_ : z30084 ≤ x1) (_ : 24 - z30084 < (nP30139 : Int)), X K E 85 [(5, .int (iI z30084)), (4, .int (iI z30085)), (2, .int (iI 1)), (3, .int (iI z29405)), (0, .ref a0), (1, .int (iI x1))] [] S g29407 0 0 := by
                              intro nP30139
                              induction nP30139 with
                              | zero => intro z30084 lz30084 uz30084 z30085 lz30085 uz30085 v30140 v30141 v30142 mP30139; exact False.elim (by omega)
                              | succ nP30139 ihP30139 =>
                                intro z30084 lz30084 uz30084 z30085 lz30085 uz30085 v30140 v30141 v30142 mP30139
                                refine X_iload hK (i := 5) 0 kd44_16.2.2.2.1 rfl ?_
                                refine X_iloadn hK (i := 1) 5 kd44_16.2.2.2.2.1 rfl rfl ?_
                                refine X_icmp_ge hK 149 (by omega) (by omega) kd44_16.2.2.2.2.2.1 (by decide) (fun c30143 => ?_) (fun c30143 => ?_)
                                · refine X_aloadn hK (i := 0) 4 kd44_19.2.2.2.1 rfl rfl ?_
                                  refine X_getK hK fl_X12_165_13 hs_a0 ((hg29407 a0 13 0 76 hs_a0 (by decide)).trans ((hg26938 a0 13 0 76 hs_a0 (by decide)).trans ((hg23309 a0 13 0 76 hs_a0 (by decide)).trans ((hg17051 a0 13 0 76 hs_a0 (by decide)).trans ew76)))) kd44_19.2.2.2.2.1 ?_
                                  refine X_iload hK (i := 4) 1 kd44_19.2.2.2.2.2.1 rfl ?_
                                  have hfh30144 : z30085 ≠ -1 := fun e9 => xOf_free v29801 (b := z29405) (by omega) (by omega) (fun c q1 q2 => v30140 e9 c q1 (by omega))
                                  have hgh30145 := v30141 (by omega)
                                  refine X_iald hK hs_w76 (by decide) sl_18500 (by omega) (by omega) kd44_19.2.2.2.2.2.2.1 (fun z30146 ez30146 lz30146 uz30146 => ?_)
                                  have hvz30146 := xv_e (j := z30085) ez30146 (by omega)
                                  have hdz30146 : z30146 ≠ -1 → z30146 ≠ z29405 ∧ z30146 < x1 := fun e9 => by have h9 := v29801.2.1 z30085 (by omega) (by omega); rw [hvz30146] at h9; refine ⟨fun e8 => ?_, by omega⟩; rcases h9 with h9 | ⟨_, _, h9⟩ <;> first | omega | (rw [e8] at h9; omega)
                                  refine X_istore hK (i := 5) [(5, .int (iI z30146)), (4, .int (iI z30085)), (2, .int (iI 1)), (3, .int (iI z29405)), (0, .ref a0), (1, .int (iI x1))] kd44_19.2.2.2.2.2.2.2.1 (by decide) rfl ?_
                                  refine X_iload hK (i := 5) 0 kd44_19.2.2.2.2.2.2.2.2.1 rfl ?_
                                  refine X_iconst hK kd44_19.2.2.2.2.2.2.2.2.2.1 ?_
                                  refine X_icmp_eq hK 230 (by omega) (by omega) kd44_19.2.2.2.2.2.2.2.2.2.2.1 (by decide) (fun c30147 => ?_) (fun c30147 => ?_)
                                  · refine X_iconst hK kd44_23.2.2.1 ?_
                                    refine X_istore hK (i := 6) [(6, .int (iI 0)), (5, .int (iI z30146)), (4, .int (iI z30085)), (2, .int (iI 1)), (3, .int (iI z29405)), (0, .ref a0), (1, .int (iI x1))] kd44_23.2.2.2.1 (by decide) rfl ?_
                                    refine X_aloadn hK (i := 0) 5 kd44_23.2.2.2.2.1 rfl rfl ?_
                                    refine X_getK hK fl_X12_168_13 hs_a0 ((hg29407 a0 13 0 77 hs_a0 (by decide)).trans ((hg26938 a0 13 0 77 hs_a0 (by decide)).trans ((hg23309 a0 13 0 77 hs_a0 (by decide)).trans ((hg17051 a0 13 0 77 hs_a0 (by decide)).trans ew77)))) kd44_23.2.2.2.2.2.1 ?_
                                    refine X_bipush hK kd44_23.2.2.2.2.2.2.1 (by decide) ?_
                                    refine X_iload hK (i := 6) 0 kd44_23.2.2.2.2.2.2.2.1 rfl ?_
                                    refine X_if_eq hK 248 (by omega) kd44_23.2.2.2.2.2.2.2.2.1 (by decide) (fun c30148 => ?_) (fun c30148 => False.elim (by omega))
                                    refine X_iload hK (i := 5) 1 kd44_23.2.2.2.2.2.2.2.2.2.2.2 rfl ?_
                                    refine X_iconst hK kd44_24.1 ?_
                                    refine X_icmp_ne hK 258 (by omega) (by omega) kd44_24.2.1 (by decide) (fun c30149 => False.elim (by omega)) (fun c30149 => ?_)
                                    refine X_iloadn hK (i := 3) 4 kd44_24.2.2.1 rfl rfl ?_
                                    refine X_goto hK 260 kd44_24.2.2.2.1 (by decide) ?_
                                    refine X_imul hK kd44_24.2.2.2.2.2.1 ?_
                                    refine X_iload hK (i := 4) 2 kd44_24.2.2.2.2.2.2.1 rfl ?_
                                    refine X_iadd hK kd44_24.2.2.2.2.2.2.2.1 ?_
                                    refine X_iload hK (i := 6) 0 kd44_24.2.2.2.2.2.2.2.2.1 rfl ?_
                                    refine X_if_ne hK 275 (by omega) kd44_24.2.2.2.2.2.2.2.2.2.1 (by decide) (fun c30150 => False.elim (by omega)) (fun c30150 => ?_)
                                    refine X_iload hK (i := 5) 1 kd44_24.2.2.2.2.2.2.2.2.2.2.1 rfl ?_
                                    refine X_iconst hK kd44_24.2.2.2.2.2.2.2.2.2.2.2 ?_
                                    refine X_icmp_eq hK 279 (by omega) (by omega) kd44_25.1 (by decide) (fun c30151 => ?_) (fun c30151 => False.elim (by omega))
                                    refine X_iconst hK kd44_25.2.2.2.1 ?_
                                    refine X_zast hK hs_w77 (by decide) (by decide) sl_19701 (by omega) (by omega) (by omega) (by omega) kd44_25.2.2.2.2.1 (fun g30152 hg30152 => ?_)
                                    refine X_iload hK (i := 6) 0 kd44_25.2.2.2.2.2.1 rfl ?_
                                    refine X_if_eq hK 289 (by omega) kd44_25.2.2.2.2.2.2.1 (by decide) (fun c30153 => ?_) (fun c30153 => False.elim (by omega))
                                    refine X_iload hK (i := 5) 1 kd44_25.2.2.2.2.2.2.2.2.1 rfl ?_
                                    refine X_iconst hK kd44_25.2.2.2.2.2.2.2.2.2.1 ?_
                                    refine X_icmp_eq hK 303 (by omega) (by omega) kd44_25.2.2.2.2.2.2.2.2.2.2.1 (by decide) (fun c30154 => ?_) (fun c30154 => False.elim (by omega))
                                    refine X_aloadn hK (i := 0) 5 kd44_26.2.2.2.2.1 rfl rfl ?_
                                    refine X_getK hK fl_X12_165_13 hs_a0 ((xs_a hg30152 (xne hs_a0 hs_w77 (by decide))).trans ((hg29407 a0 13 0 76 hs_a0 (by decide)).trans ((hg26938 a0 13 0 76 hs_a0 (by decide)).trans ((hg23309 a0 13 0 76 hs_a0 (by decide)).trans ((hg17051 a0 13 0 76 hs_a0 (by decide)).trans ew76))))) kd44_26.2.2.2.2.2.1 ?_
                                    refine X_iload hK (i := 4) 2 kd44_26.2.2.2.2.2.2.1 rfl ?_
                                    refine X_iloadn hK (i := 3) 4 kd44_26.2.2.2.2.2.2.2.1 rfl rfl ?_
                                    refine X_iast hK hs_w76 (by decide) (by decide) sl_18500 (by omega) (by omega) (by omega) (by omega) kd44_26.2.2.2.2.2.2.2.2.1 (fun g30155 hg30155 => ?_)
                                    refine X_aloadn hK (i := 0) 5 kd44_26.2.2.2.2.2.2.2.2.2.1 rfl rfl ?_
                                    refine X_getK hK fl_X12_159_13 hs_a0 ((xs_a hg30155 (xne hs_a0 hs_w76 (by decide))).trans ((xs_a hg30152 (xne hs_a0 hs_w77 (by decide))).trans ((hg29407 a0 13 0 74 hs_a0 (by decide)).trans ((hg26938 a0 13 0 74 hs_a0 (by decide)).trans ((hg23309 a0 13 0 74 hs_a0 (by decide)).trans ((hg17051 a0 13 0 74 hs_a0 (by decide)).trans ew74)))))) kd44_26.2.2.2.2.2.2.2.2.2.2.1 ?_
                                    refine X_iloadn hK (i := 3) 4 kd44_26.2.2.2.2.2.2.2.2.2.2.2 rfl rfl ?_
                                    refine X_iload hK (i := 4) 2 kd44_27.1 rfl ?_
                                    refine X_iast hK hs_w74 (by decide) (by decide) sl_18300 (by omega) (by omega) (by omega) (by omega) kd44_27.2.1 (fun g30156 hg30156 => ?_)
                                    refine X_iinc hK (i := 3) (z := z29405) (n := 1) 4 [(3, .int (iI (z29405 + 1))), (6, .int (iI 0)), (5, .int (iI z30146)), (4, .int (iI z30085)), (2, .int (iI 1)), (0, .ref a0), (1, .int (iI x1))] kd44_27.2.2.1 rfl (by decide) rfl ?_
                                    refine X_goto hK 59 kd44_27.2.2.2.1 (by decide) ?_
                                    refine X_lv [(3, .int (iI (z29405 + 1))), (2, .int (iI 1)), (0, .ref a0), (1, .int (iI x1))] [0, 4, 5, 6] rfl ?_
                                    exact ihP29800  g30156 (xM_ua (xM_ua (xM_ua (xM.tr xM.rf xLe.rf hg29407 (by decide)) hg30152 hs_w77 (by decide) (by decide)) hg30155 hs_w76 (by decide) (by decide)) hg30156 hs_w74 (by decide) (by decide)) (z29405 + 1) (by omega) (by omega) 1 (by omega) (by omega) (xOf_1 (b := z29405) (c := z30085) v29801 (by omega) (by omega) (by omega) (by omega) (show xv g30156 w74 z29405 = z30085 from by rw [xv_s hg30156 (by omega)]) (fun i9 hi9 h09 => (show xv g30156 w74 i9 = xv g29407 w74 i9 from by rw [(xv_k (i := i9) hg30156 (by omega) (by omega) (by omega)), (xv_a hg30155 (xne hs_w74 hs_w76 (by decide))), (xv_a hg30152 (xne hs_w74 hs_w77 (by decide)))])) (show xv g30156 w76 z30085 = z29405 from by rw [(xv_a hg30156 (xne hs_w76 hs_w74 (by decide))), xv_s hg30155 (by omega)]) (fun i9 hi9 h09 => (show xv g30156 w76 i9 = xv g29407 w76 i9 from by rw [(xv_a hg30156 (xne hs_w76 hs_w74 (by decide))), (xv_k (i := i9) hg30155 (by omega) (by omega) (by omega)), (xv_a hg30152 (xne hs_w76 hs_w77 (by decide)))])) (xSmf (j := ((8 * z29405) + z30085)) ((show xv g30156 w77 ((8 * z29405) + z30085) = 0 from by rw [(xv_a hg30156 (xne hs_w77 hs_w74 (by decide))), (xv_a hg30155 (xne hs_w77 hs_w76 (by decide))), xv_s hg30152 (by omega)]).trans (v30141 (by omega)).2.symm) (fun i9 hi9 h09 => (show xv g30156 w77 i9 = xv g29407 w77 i9 from by rw [(xv_a hg30156 (xne hs_w77 hs_w74 (by decide))), (xv_a hg30155 (xne hs_w77 hs_w76 (by decide))), (xv_k (i := i9) hg30152 (by omega) (by omega) (by omega))])))).1 (by have h9 := (xOf_1 (b := z29405) (c := z30085) v29801 (by omega) (by omega) (by omega) (by omega) (show xv g30156 w74 z29405 = z30085 from by rw [xv_s hg30156 (by omega)]) (fun i9 hi9 h09 => (show xv g30156 w74 i9 = xv g29407 w74 i9 from by rw [(xv_k (i := i9) hg30156 (by omega) (by omega) (by omega)), (xv_a hg30155 (xne hs_w74 hs_w76 (by decide))), (xv_a hg30152 (xne hs_w74 hs_w77 (by decide)))])) (show xv g30156 w76 z30085 = z29405 from by rw [(xv_a hg30156 (xne hs_w76 hs_w74 (by decide))), xv_s hg30155 (by omega)]) (fun i9 hi9 h09 => (show xv g30156 w76 i9 = xv g29407 w76 i9 from by rw [(xv_a hg30156 (xne hs_w76 hs_w74 (by decide))), (xv_k (i := i9) hg30155 (by omega) (by omega) (by omega)), (xv_a hg30152 (xne hs_w76 hs_w77 (by decide)))])) (xSmf (j := ((8 * z29405) + z30085)) ((show xv g30156 w77 ((8 * z29405) + z30085) = 0 from by rw [(xv_a hg30156 (xne hs_w77 hs_w74 (by decide))), (xv_a hg30155 (xne hs_w77 hs_w76 (by decide))), xv_s hg30152 (by omega)]).trans (v30141 (by omega)).2.symm) (fun i9 hi9 h09 => (show xv g30156 w77 i9 = xv g29407 w77 i9 from by rw [(xv_a hg30156 (xne hs_w77 hs_w74 (by decide))), (xv_a hg30155 (xne hs_w77 hs_w76 (by decide))), (xv_k (i := i9) hg30152 (by omega) (by omega) (by omega))])))).2; omega) (fun h9 => by omega) (by omega)
                                  · refine X_aloadn hK (i := 0) 4 kd44_19.2.2.2.2.2.2.2.2.2.2.2 rfl rfl ?_
                                    refine X_getr hK 18200 64 fl_X12_156_13 hs_a0 sl_13_73 kd44_20.1 (fun b30157 eb30157 hs_b30157 => ?_)
                                    refine X_bipush hK kd44_20.2.1 (by decide) ?_
                                    refine X_iload hK (i := 5) 0 kd44_20.2.2.1 rfl ?_
                                    refine X_imul hK kd44_20.2.2.2.1 ?_
                                    refine X_iload hK (i := 4) 1 kd44_20.2.2.2.2.1 rfl ?_
                                    refine X_iadd hK kd44_20.2.2.2.2.2.1 ?_
                                    refine X_iald hK hs_b30157 (by decide) sl_18200 (by omega) (by omega) kd44_20.2.2.2.2.2.2.1 (fun z30158 ez30158 lz30158 uz30158 => ?_)
                                    refine X_aloadn hK (i := 0) 4 kd44_20.2.2.2.2.2.2.2.1 rfl rfl ?_
                                    refine X_getK hK fl_X12_156_13 hs_a0 eb30157 kd44_20.2.2.2.2.2.2.2.2.1 ?_
                                    refine X_bipush hK kd44_20.2.2.2.2.2.2.2.2.2.1 (by decide) ?_
                                    refine X_iloadn hK (i := 3) 3 kd44_20.2.2.2.2.2.2.2.2.2.2.1 rfl rfl ?_
                                    refine X_imul hK kd44_20.2.2.2.2.2.2.2.2.2.2.2 ?_
                                    refine X_iload hK (i := 4) 1 kd44_21.1 rfl ?_
                                    refine X_iadd hK kd44_21.2.1 ?_
                                    refine X_iald hK hs_b30157 (by decide) sl_18200 (by omega) (by omega) kd44_21.2.2.1 (fun z30159 ez30159 lz30159 uz30159 => ?_)
                                    refine X_icmp_gt hK 226 (by omega) (by omega) kd44_21.2.2.2.1 (by decide) (fun c30160 => ?_) (fun c30160 => ?_)
                                    · refine X_iconst hK kd44_23.1 ?_
                                      refine X_goto hK 231 kd44_23.2.1 (by decide) ?_
                                      refine X_istore hK (i := 6) [(6, .int (iI 1)), (5, .int (iI z30146)), (4, .int (iI z30085)), (2, .int (iI 1)), (3, .int (iI z29405)), (0, .ref a0), (1, .int (iI x1))] kd44_23.2.2.2.1 (by decide) rfl ?_
                                      refine X_aloadn hK (i := 0) 5 kd44_23.2.2.2.2.1 rfl rfl ?_
                                      refine X_getK hK fl_X12_168_13 hs_a0 ((hg29407 a0 13 0 77 hs_a0 (by decide)).trans ((hg26938 a0 13 0 77 hs_a0 (by decide)).trans ((hg23309 a0 13 0 77 hs_a0 (by decide)).trans ((hg17051 a0 13 0 77 hs_a0 (by decide)).trans ew77)))) kd44_23.2.2.2.2.2.1 ?_
                                      refine X_bipush hK kd44_23.2.2.2.2.2.2.1 (by decide) ?_
                                      refine X_iload hK (i := 6) 0 kd44_23.2.2.2.2.2.2.2.1 rfl ?_
                                      refine X_if_eq hK 248 (by omega) kd44_23.2.2.2.2.2.2.2.2.1 (by decide) (fun c30161 => False.elim (by omega)) (fun c30161 => ?_)
                                      refine X_iloadn hK (i := 3) 4 kd44_23.2.2.2.2.2.2.2.2.2.1 rfl rfl ?_
                                      refine X_goto hK 260 kd44_23.2.2.2.2.2.2.2.2.2.2.1 (by decide) ?_
                                      refine X_imul hK kd44_24.2.2.2.2.2.1 ?_
                                      refine X_iload hK (i := 4) 2 kd44_24.2.2.2.2.2.2.1 rfl ?_
                                      refine X_iadd hK kd44_24.2.2.2.2.2.2.2.1 ?_
                                      refine X_iload hK (i := 6) 0 kd44_24.2.2.2.2.2.2.2.2.1 rfl ?_
                                      refine X_if_ne hK 275 (by omega) kd44_24.2.2.2.2.2.2.2.2.2.1 (by decide) (fun c30162 => ?_) (fun c30162 => False.elim (by omega))
                                      refine X_iconst hK kd44_25.2.1 ?_
                                      refine X_goto hK 280 kd44_25.2.2.1 (by decide) ?_
                                      refine X_zast hK hs_w77 (by decide) (by decide) sl_19701 (by omega) (by omega) (by omega) (by omega) kd44_25.2.2.2.2.1 (fun g30163 hg30163 => ?_)
                                      refine X_iload hK (i := 6) 0 kd44_25.2.2.2.2.2.1 rfl ?_
                                      refine X_if_eq hK 289 (by omega) kd44_25.2.2.2.2.2.2.1 (by decide) (fun c30164 => False.elim (by omega)) (fun c30164 => ?_)
                                      refine X_goto hK 319 kd44_25.2.2.2.2.2.2.2.1 (by decide) ?_
                                      refine X_iinc hK (i := 3) (z := z29405) (n := 1) 4 [(3, .int (iI (z29405 + 1))), (6, .int (iI 1)), (5, .int (iI z30146)), (4, .int (iI z30085)), (2, .int (iI 1)), (0, .ref a0), (1, .int (iI x1))] kd44_27.2.2.1 rfl (by decide) rfl ?_
                                      refine X_goto hK 59 kd44_27.2.2.2.1 (by decide) ?_
                                      refine X_lv [(3, .int (iI (z29405 + 1))), (2, .int (iI 1)), (0, .ref a0), (1, .int (iI x1))] [0, 4, 5, 6] rfl ?_
                                      exact ihP29800  g30163 (xM_ua (xM.tr xM.rf xLe.rf hg29407 (by decide)) hg30163 hs_w77 (by decide) (by decide)) (z29405 + 1) (by omega) (by omega) 1 (by omega) (by omega) (xOf_2 (b := z29405) (c := z30085) (j := ((8 * z29405) + z30085)) v29801 (by omega) (by omega) (by omega) (by omega) (by omega) (by omega) (v30141 (by omega)).2 (show xv g30163 w77 ((8 * z29405) + z30085) = 1 from by rw [xv_s hg30163 (by omega)]) (fun i9 hi9 h09 => (show xv g30163 w77 i9 = xv g29407 w77 i9 from by rw [(xv_k (i := i9) hg30163 (by omega) (by omega) (by omega))])) (fun i9 hi9 => (show xv g30163 w74 i9 = xv g29407 w74 i9 from by rw [(xv_a hg30163 (xne hs_w74 hs_w77 (by decide)))])) (fun i9 hi9 => (show xv g30163 w76 i9 = xv g29407 w76 i9 from by rw [(xv_a hg30163 (xne hs_w76 hs_w77 (by decide)))]))).1 (by have h9 := (xOf_2 (b := z29405) (c := z30085) (j := ((8 * z29405) + z30085)) v29801 (by omega) (by omega) (by omega) (by omega) (by omega) (by omega) (v30141 (by omega)).2 (show xv g30163 w77 ((8 * z29405) + z30085) = 1 from by rw [xv_s hg30163 (by omega)]) (fun i9 hi9 h09 => (show xv g30163 w77 i9 = xv g29407 w77 i9 from by rw [(xv_k (i := i9) hg30163 (by omega) (by omega) (by omega))])) (fun i9 hi9 => (show xv g30163 w74 i9 = xv g29407 w74 i9 from by rw [(xv_a hg30163 (xne hs_w74 hs_w77 (by decide)))])) (fun i9 hi9 => (show xv g30163 w76 i9 = xv g29407 w76 i9 from by rw [(xv_a hg30163 (xne hs_w76 hs_w77 (by decide)))]))).2; omega) (fun h9 => by omega) (by omega)
                                    · refine X_aloadn hK (i := 0) 4 kd44_21.2.2.2.2.1 rfl rfl ?_
                                      refine X_getK hK fl_X12_156_13 hs_a0 eb30157 kd44_21.2.2.2.2.2.1 ?_
                                      refine X_bipush hK kd44_21.2.2.2.2.2.2.1 (by decide) ?_
                                      refine X_iload hK (i := 5) 0 kd44_21.2.2.2.2.2.2.2.1 rfl ?_
                                      refine X_imul hK kd44_21.2.2.2.2.2.2.2.2.1 ?_
                                      refine X_iload hK (i := 4) 1 kd44_21.2.2.2.2.2.2.2.2.2.1 rfl ?_
                                      refine X_iadd hK kd44_21.2.2.2.2.2.2.2.2.2.2.1 ?_
                                      refine X_ialdK hK hs_b30157 (by decide) (by omega) (by omega) ez30158 kd44_21.2.2.2.2.2.2.2.2.2.2.2 ?_
                                      refine X_aloadn hK (i := 0) 4 kd44_22.1 rfl rfl ?_
                                      refine X_getK hK fl_X12_156_13 hs_a0 eb30157 kd44_22.2.1 ?_
                                      refine X_bipush hK kd44_22.2.2.1 (by decide) ?_
                                      refine X_iloadn hK (i := 3) 3 kd44_22.2.2.2.1 rfl rfl ?_
                                      refine X_imul hK kd44_22.2.2.2.2.1 ?_
                                      refine X_iload hK (i := 4) 1 kd44_22.2.2.2.2.2.1 rfl ?_
                                      refine X_iadd hK kd44_22.2.2.2.2.2.2.1 ?_
                                      refine X_ialdK hK hs_b30157 (by decide) (by omega) (by omega) ez30159 kd44_22.2.2.2.2.2.2.2.1 ?_
                                      refine X_icmp_ne hK 230 (by omega) (by omega) kd44_22.2.2.2.2.2.2.2.2.1 (by decide) (fun c30165 => ?_) (fun c30165 => ?_)
                                      · refine X_iconst hK kd44_23.2.2.1 ?_
                                        refine X_istore hK (i := 6) [(6, .int (iI 0)), (5, .int (iI z30146)), (4, .int (iI z30085)), (2, .int (iI 1)), (3, .int (iI z29405)), (0, .ref a0), (1, .int (iI x1))] kd44_23.2.2.2.1 (by decide) rfl ?_
                                        refine X_aloadn hK (i := 0) 5 kd44_23.2.2.2.2.1 rfl rfl ?_
                                        refine X_getK hK fl_X12_168_13 hs_a0 ((hg29407 a0 13 0 77 hs_a0 (by decide)).trans ((hg26938 a0 13 0 77 hs_a0 (by decide)).trans ((hg23309 a0 13 0 77 hs_a0 (by decide)).trans ((hg17051 a0 13 0 77 hs_a0 (by decide)).trans ew77)))) kd44_23.2.2.2.2.2.1 ?_
                                        refine X_bipush hK kd44_23.2.2.2.2.2.2.1 (by decide) ?_
                                        refine X_iload hK (i := 6) 0 kd44_23.2.2.2.2.2.2.2.1 rfl ?_
                                        refine X_if_eq hK 248 (by omega) kd44_23.2.2.2.2.2.2.2.2.1 (by decide) (fun c30166 => ?_) (fun c30166 => False.elim (by omega))
                                        refine X_iload hK (i := 5) 1 kd44_23.2.2.2.2.2.2.2.2.2.2.2 rfl ?_
                                        refine X_iconst hK kd44_24.1 ?_
                                        refine X_icmp_ne hK 258 (by omega) (by omega) kd44_24.2.1 (by decide) (fun c30167 => ?_) (fun c30167 => False.elim (by omega))
                                        refine X_iload hK (i := 5) 1 kd44_24.2.2.2.2.1 rfl ?_
                                        refine X_imul hK kd44_24.2.2.2.2.2.1 ?_
                                        refine X_iload hK (i := 4) 2 kd44_24.2.2.2.2.2.2.1 rfl ?_
                                        refine X_iadd hK kd44_24.2.2.2.2.2.2.2.1 ?_
                                        refine X_iload hK (i := 6) 0 kd44_24.2.2.2.2.2.2.2.2.1 rfl ?_
                                        refine X_if_ne hK 275 (by omega) kd44_24.2.2.2.2.2.2.2.2.2.1 (by decide) (fun c30168 => False.elim (by omega)) (fun c30168 => ?_)
                                        refine X_iload hK (i := 5) 1 kd44_24.2.2.2.2.2.2.2.2.2.2.1 rfl ?_
                                        refine X_iconst hK kd44_24.2.2.2.2.2.2.2.2.2.2.2 ?_
                                        refine X_icmp_eq hK 279 (by omega) (by omega) kd44_25.1 (by decide) (fun c30169 => False.elim (by omega)) (fun c30169 => ?_)
                                        refine X_iconst hK kd44_25.2.1 ?_
                                        refine X_goto hK 280 kd44_25.2.2.1 (by decide) ?_
                                        refine X_zast hK hs_w77 (by decide) (by decide) sl_19701 (by omega) (by omega) (by omega) (by omega) kd44_25.2.2.2.2.1 (fun g30170 hg30170 => ?_)
                                        refine X_iload hK (i := 6) 0 kd44_25.2.2.2.2.2.1 rfl ?_
                                        refine X_if_eq hK 289 (by omega) kd44_25.2.2.2.2.2.2.1 (by decide) (fun c30171 => ?_) (fun c30171 => False.elim (by omega))
                                        refine X_iload hK (i := 5) 1 kd44_25.2.2.2.2.2.2.2.2.1 rfl ?_
                                        refine X_iconst hK kd44_25.2.2.2.2.2.2.2.2.2.1 ?_
                                        refine X_icmp_eq hK 303 (by omega) (by omega) kd44_25.2.2.2.2.2.2.2.2.2.2.1 (by decide) (fun c30172 => False.elim (by omega)) (fun c30172 => ?_)
                                        refine X_aloadn hK (i := 0) 5 kd44_25.2.2.2.2.2.2.2.2.2.2.2 rfl rfl ?_
                                        refine X_getK hK fl_X12_159_13 hs_a0 ((xs_a hg30170 (xne hs_a0 hs_w77 (by decide))).trans ((hg29407 a0 13 0 74 hs_a0 (by decide)).trans ((hg26938 a0 13 0 74 hs_a0 (by decide)).trans ((hg23309 a0 13 0 74 hs_a0 (by decide)).trans ((hg17051 a0 13 0 74 hs_a0 (by decide)).trans ew74))))) kd44_26.1 ?_
                                        refine X_iload hK (i := 5) 1 kd44_26.2.1 rfl ?_
                                        refine X_iconst hK kd44_26.2.2.1 ?_
                                        refine X_iast hK hs_w74 (by decide) (by decide) sl_18300 (by omega) (by omega) (by omega) (by omega) kd44_26.2.2.2.1 (fun g30173 hg30173 => ?_)
                                        refine X_aloadn hK (i := 0) 5 kd44_26.2.2.2.2.1 rfl rfl ?_
                                        refine X_getK hK fl_X12_165_13 hs_a0 ((xs_a hg30173 (xne hs_a0 hs_w74 (by decide))).trans ((xs_a hg30170 (xne hs_a0 hs_w77 (by decide))).trans ((hg29407 a0 13 0 76 hs_a0 (by decide)).trans ((hg26938 a0 13 0 76 hs_a0 (by decide)).trans ((hg23309 a0 13 0 76 hs_a0 (by decide)).trans ((hg17051 a0 13 0 76 hs_a0 (by decide)).trans ew76)))))) kd44_26.2.2.2.2.2.1 ?_
                                        refine X_iload hK (i := 4) 2 kd44_26.2.2.2.2.2.2.1 rfl ?_
                                        refine X_iloadn hK (i := 3) 4 kd44_26.2.2.2.2.2.2.2.1 rfl rfl ?_
                                        refine X_iast hK hs_w76 (by decide) (by decide) sl_18500 (by omega) (by omega) (by omega) (by omega) kd44_26.2.2.2.2.2.2.2.2.1 (fun g30174 hg30174 => ?_)
                                        refine X_aloadn hK (i := 0) 5 kd44_26.2.2.2.2.2.2.2.2.2.1 rfl rfl ?_
                                        refine X_getK hK fl_X12_159_13 hs_a0 ((xs_a hg30174 (xne hs_a0 hs_w76 (by decide))).trans ((xs_a hg30173 (xne hs_a0 hs_w74 (by decide))).trans ((xs_a hg30170 (xne hs_a0 hs_w77 (by decide))).trans ((hg29407 a0 13 0 74 hs_a0 (by decide)).trans ((hg26938 a0 13 0 74 hs_a0 (by decide)).trans ((hg23309 a0 13 0 74 hs_a0 (by decide)).trans ((hg17051 a0 13 0 74 hs_a0 (by decide)).trans ew74))))))) kd44_26.2.2.2.2.2.2.2.2.2.2.1 ?_
                                        refine X_iloadn hK (i := 3) 4 kd44_26.2.2.2.2.2.2.2.2.2.2.2 rfl rfl ?_
                                        refine X_iload hK (i := 4) 2 kd44_27.1 rfl ?_
                                        refine X_iast hK hs_w74 (by decide) (by decide) sl_18300 (by omega) (by omega) (by omega) (by omega) kd44_27.2.1 (fun g30175 hg30175 => ?_)
                                        refine X_iinc hK (i := 3) (z := z29405) (n := 1) 4 [(3, .int (iI (z29405 + 1))), (6, .int (iI 0)), (5, .int (iI z30146)), (4, .int (iI z30085)), (2, .int (iI 1)), (0, .ref a0), (1, .int (iI x1))] kd44_27.2.2.1 rfl (by decide) rfl ?_
                                        refine X_goto hK 59 kd44_27.2.2.2.1 (by decide) ?_
                                        refine X_lv [(3, .int (iI (z29405 + 1))), (2, .int (iI 1)), (0, .ref a0), (1, .int (iI x1))] [0, 4, 5, 6] rfl ?_
                                        exact ihP29800  g30175 (xM_ua (xM_ua (xM_ua (xM_ua (xM.tr xM.rf xLe.rf hg29407 (by decide)) hg30170 hs_w77 (by decide) (by decide)) hg30173 hs_w74 (by decide) (by decide)) hg30174 hs_w76 (by decide) (by decide)) hg30175 hs_w74 (by decide) (by decide)) (z29405 + 1) (by omega) (by omega) 1 (by omega) (by omega) (xOf_3 (b := z29405) (c := z30085) (d := z30146) (j := ((8 * z30146) + z30085)) v29801 (by omega) (by omega) (by omega) (by omega) (by omega) (by omega) (by omega) (v30141 (by omega)).2 (show xv g30175 w74 z29405 = z30085 from by rw [xv_s hg30175 (by omega)]) (show xv g30175 w74 z30146 = (-1) from by rw [(xv_k (i := z30146) hg30175 (by omega) (by omega) (by omega)), (xv_a hg30174 (xne hs_w74 hs_w76 (by decide))), xv_s hg30173 (by omega)]) (fun i9 hi9 h09 h19 => (show xv g30175 w74 i9 = xv g29407 w74 i9 from by rw [(xv_k (i := i9) hg30175 (by omega) (by omega) (by omega)), (xv_a hg30174 (xne hs_w74 hs_w76 (by decide))), (xv_k (i := i9) hg30173 (by omega) (by omega) (by omega)), (xv_a hg30170 (xne hs_w74 hs_w77 (by decide)))])) (show xv g30175 w76 z30085 = z29405 from by rw [(xv_a hg30175 (xne hs_w76 hs_w74 (by decide))), xv_s hg30174 (by omega)]) (fun i9 hi9 h09 => (show xv g30175 w76 i9 = xv g29407 w76 i9 from by rw [(xv_a hg30175 (xne hs_w76 hs_w74 (by decide))), (xv_k (i := i9) hg30174 (by omega) (by omega) (by omega)), (xv_a hg30173 (xne hs_w76 hs_w74 (by decide))), (xv_a hg30170 (xne hs_w76 hs_w77 (by decide)))])) (show xv g30175 w77 ((8 * z30146) + z30085) = 1 from by rw [(xv_a hg30175 (xne hs_w77 hs_w74 (by decide))), (xv_a hg30174 (xne hs_w77 hs_w76 (by decide))), (xv_a hg30173 (xne hs_w77 hs_w74 (by decide))), xv_s hg30170 (by omega)]) (fun i9 hi9 h09 => (show xv g30175 w77 i9 = xv g29407 w77 i9 from by rw [(xv_a hg30175 (xne hs_w77 hs_w74 (by decide))), (xv_a hg30174 (xne hs_w77 hs_w76 (by decide))), (xv_a hg30173 (xne hs_w77 hs_w74 (by decide))), (xv_k (i := i9) hg30170 (by omega) (by omega) (by omega))]))).1 (by have h9 := (xOf_3 (b := z29405) (c := z30085) (d := z30146) (j := ((8 * z30146) + z30085)) v29801 (by omega) (by omega) (by omega) (by omega) (by omega) (by omega) (by omega) (v30141 (by omega)).2 (show xv g30175 w74 z29405 = z30085 from by rw [xv_s hg30175 (by omega)]) (show xv g30175 w74 z30146 = (-1) from by rw [(xv_k (i := z30146) hg30175 (by omega) (by omega) (by omega)), (xv_a hg30174 (xne hs_w74 hs_w76 (by decide))), xv_s hg30173 (by omega)]) (fun i9 hi9 h09 h19 => (show xv g30175 w74 i9 = xv g29407 w74 i9 from by rw [(xv_k (i := i9) hg30175 (by omega) (by omega) (by omega)), (xv_a hg30174 (xne hs_w74 hs_w76 (by decide))), (xv_k (i := i9) hg30173 (by omega) (by omega) (by omega)), (xv_a hg30170 (xne hs_w74 hs_w77 (by decide)))])) (show xv g30175 w76 z30085 = z29405 from by rw [(xv_a hg30175 (xne hs_w76 hs_w74 (by decide))), xv_s hg30174 (by omega)]) (fun i9 hi9 h09 => (show xv g30175 w76 i9 = xv g29407 w76 i9 from by rw [(xv_a hg30175 (xne hs_w76 hs_w74 (by decide))), (xv_k (i := i9) hg30174 (by omega) (by omega) (by omega)), (xv_a hg30173 (xne hs_w76 hs_w74 (by decide))), (xv_a hg30170 (xne hs_w76 hs_w77 (by decide)))])) (show xv g30175 w77 ((8 * z30146) + z30085) = 1 from by rw [(xv_a hg30175 (xne hs_w77 hs_w74 (by decide))), (xv_a hg30174 (xne hs_w77 hs_w76 (by decide))), (xv_a hg30173 (xne hs_w77 hs_w74 (by decide))), xv_s hg30170 (by omega)]) (fun i9 hi9 h09 => (show xv g30175 w77 i9 = xv g29407 w77 i9 from by rw [(xv_a hg30175 (xne hs_w77 hs_w74 (by decide))), (xv_a hg30174 (xne hs_w77 hs_w76 (by decide))), (xv_a hg30173 (xne hs_w77 hs_w74 (by decide))), (xv_k (i := i9) hg30170 (by omega) (by omega) (by omega))]))).2; omega) (fun h9 => by omega) (by omega)
                                      · refine X_iload hK (i := 5) 0 kd44_22.2.2.2.2.2.2.2.2.2.1 rfl ?_
                                        refine X_iloadn hK (i := 3) 3 kd44_22.2.2.2.2.2.2.2.2.2.2.1 rfl rfl ?_
                                        refine X_icmp_ge hK 230 (by omega) (by omega) kd44_22.2.2.2.2.2.2.2.2.2.2.2 (by decide) (fun c30176 => ?_) (fun c30176 => ?_)
                                        · refine X_iconst hK kd44_23.2.2.1 ?_
                                          refine X_istore hK (i := 6) [(6, .int (iI 0)), (5, .int (iI z30146)), (4, .int (iI z30085)), (2, .int (iI 1)), (3, .int (iI z29405)), (0, .ref a0), (1, .int (iI x1))] kd44_23.2.2.2.1 (by decide) rfl ?_
                                          refine X_aloadn hK (i := 0) 5 kd44_23.2.2.2.2.1 rfl rfl ?_
                                          refine X_getK hK fl_X12_168_13 hs_a0 ((hg29407 a0 13 0 77 hs_a0 (by decide)).trans ((hg26938 a0 13 0 77 hs_a0 (by decide)).trans ((hg23309 a0 13 0 77 hs_a0 (by decide)).trans ((hg17051 a0 13 0 77 hs_a0 (by decide)).trans ew77)))) kd44_23.2.2.2.2.2.1 ?_
                                          refine X_bipush hK kd44_23.2.2.2.2.2.2.1 (by decide) ?_
                                          refine X_iload hK (i := 6) 0 kd44_23.2.2.2.2.2.2.2.1 rfl ?_
                                          refine X_if_eq hK 248 (by omega) kd44_23.2.2.2.2.2.2.2.2.1 (by decide) (fun c30177 => ?_) (fun c30177 => False.elim (by omega))
                                          refine X_iload hK (i := 5) 1 kd44_23.2.2.2.2.2.2.2.2.2.2.2 rfl ?_
                                          refine X_iconst hK kd44_24.1 ?_
                                          refine X_icmp_ne hK 258 (by omega) (by omega) kd44_24.2.1 (by decide) (fun c30178 => ?_) (fun c30178 => False.elim (by omega))
                                          refine X_iload hK (i := 5) 1 kd44_24.2.2.2.2.1 rfl ?_
                                          refine X_imul hK kd44_24.2.2.2.2.2.1 ?_
                                          refine X_iload hK (i := 4) 2 kd44_24.2.2.2.2.2.2.1 rfl ?_
                                          refine X_iadd hK kd44_24.2.2.2.2.2.2.2.1 ?_
                                          refine X_iload hK (i := 6) 0 kd44_24.2.2.2.2.2.2.2.2.1 rfl ?_
                                          refine X_if_ne hK 275 (by omega) kd44_24.2.2.2.2.2.2.2.2.2.1 (by decide) (fun c30179 => False.elim (by omega)) (fun c30179 => ?_)
                                          refine X_iload hK (i := 5) 1 kd44_24.2.2.2.2.2.2.2.2.2.2.1 rfl ?_
                                          refine X_iconst hK kd44_24.2.2.2.2.2.2.2.2.2.2.2 ?_
                                          refine X_icmp_eq hK 279 (by omega) (by omega) kd44_25.1 (by decide) (fun c30180 => False.elim (by omega)) (fun c30180 => ?_)
                                          refine X_iconst hK kd44_25.2.1 ?_
                                          refine X_goto hK 280 kd44_25.2.2.1 (by decide) ?_
                                          refine X_zast hK hs_w77 (by decide) (by decide) sl_19701 (by omega) (by omega) (by omega) (by omega) kd44_25.2.2.2.2.1 (fun g30181 hg30181 => ?_)
                                          refine X_iload hK (i := 6) 0 kd44_25.2.2.2.2.2.1 rfl ?_
                                          refine X_if_eq hK 289 (by omega) kd44_25.2.2.2.2.2.2.1 (by decide) (fun c30182 => ?_) (fun c30182 => False.elim (by omega))
                                          refine X_iload hK (i := 5) 1 kd44_25.2.2.2.2.2.2.2.2.1 rfl ?_
                                          refine X_iconst hK kd44_25.2.2.2.2.2.2.2.2.2.1 ?_
                                          refine X_icmp_eq hK 303 (by omega) (by omega) kd44_25.2.2.2.2.2.2.2.2.2.2.1 (by decide) (fun c30183 => False.elim (by omega)) (fun c30183 => ?_)
                                          refine X_aloadn hK (i := 0) 5 kd44_25.2.2.2.2.2.2.2.2.2.2.2 rfl rfl ?_
                                          refine X_getK hK fl_X12_159_13 hs_a0 ((xs_a hg30181 (xne hs_a0 hs_w77 (by decide))).trans ((hg29407 a0 13 0 74 hs_a0 (by decide)).trans ((hg26938 a0 13 0 74 hs_a0 (by decide)).trans ((hg23309 a0 13 0 74 hs_a0 (by decide)).trans ((hg17051 a0 13 0 74 hs_a0 (by decide)).trans ew74))))) kd44_26.1 ?_
                                          refine X_iload hK (i := 5) 1 kd44_26.2.1 rfl ?_
                                          refine X_iconst hK kd44_26.2.2.1 ?_
                                          refine X_iast hK hs_w74 (by decide) (by decide) sl_18300 (by omega) (by omega) (by omega) (by omega) kd44_26.2.2.2.1 (fun g30184 hg30184 => ?_)
                                          refine X_aloadn hK (i := 0) 5 kd44_26.2.2.2.2.1 rfl rfl ?_
                                          refine X_getK hK fl_X12_165_13 hs_a0 ((xs_a hg30184 (xne hs_a0 hs_w74 (by decide))).trans ((xs_a hg30181 (xne hs_a0 hs_w77 (by decide))).trans ((hg29407 a0 13 0 76 hs_a0 (by decide)).trans ((hg26938 a0 13 0 76 hs_a0 (by decide)).trans ((hg23309 a0 13 0 76 hs_a0 (by decide)).trans ((hg17051 a0 13 0 76 hs_a0 (by decide)).trans ew76)))))) kd44_26.2.2.2.2.2.1 ?_
                                          refine X_iload hK (i := 4) 2 kd44_26.2.2.2.2.2.2.1 rfl ?_
                                          refine X_iloadn hK (i := 3) 4 kd44_26.2.2.2.2.2.2.2.1 rfl rfl ?_
                                          refine X_iast hK hs_w76 (by decide) (by decide) sl_18500 (by omega) (by omega) (by omega) (by omega) kd44_26.2.2.2.2.2.2.2.2.1 (fun g30185 hg30185 => ?_)
                                          refine X_aloadn hK (i := 0) 5 kd44_26.2.2.2.2.2.2.2.2.2.1 rfl rfl ?_
                                          refine X_getK hK fl_X12_159_13 hs_a0 ((xs_a hg30185 (xne hs_a0 hs_w76 (by decide))).trans ((xs_a hg30184 (xne hs_a0 hs_w74 (by decide))).trans ((xs_a hg30181 (xne hs_a0 hs_w77 (by decide))).trans ((hg29407 a0 13 0 74 hs_a0 (by decide)).trans ((hg26938 a0 13 0 74 hs_a0 (by decide)).trans ((hg23309 a0 13 0 74 hs_a0 (by decide)).trans ((hg17051 a0 13 0 74 hs_a0 (by decide)).trans ew74))))))) kd44_26.2.2.2.2.2.2.2.2.2.2.1 ?_
                                          refine X_iloadn hK (i := 3) 4 kd44_26.2.2.2.2.2.2.2.2.2.2.2 rfl rfl ?_
                                          refine X_iload hK (i := 4) 2 kd44_27.1 rfl ?_
                                          refine X_iast hK hs_w74 (by decide) (by decide) sl_18300 (by omega) (by omega) (by omega) (by omega) kd44_27.2.1 (fun g30186 hg30186 => ?_)
                                          refine X_iinc hK (i := 3) (z := z29405) (n := 1) 4 [(3, .int (iI (z29405 + 1))), (6, .int (iI 0)), (5, .int (iI z30146)), (4, .int (iI z30085)), (2, .int (iI 1)), (0, .ref a0), (1, .int (iI x1))] kd44_27.2.2.1 rfl (by decide) rfl ?_
                                          refine X_goto hK 59 kd44_27.2.2.2.1 (by decide) ?_
                                          refine X_lv [(3, .int (iI (z29405 + 1))), (2, .int (iI 1)), (0, .ref a0), (1, .int (iI x1))] [0, 4, 5, 6] rfl ?_
                                          exact ihP29800  g30186 (xM_ua (xM_ua (xM_ua (xM_ua (xM.tr xM.rf xLe.rf hg29407 (by decide)) hg30181 hs_w77 (by decide) (by decide)) hg30184 hs_w74 (by decide) (by decide)) hg30185 hs_w76 (by decide) (by decide)) hg30186 hs_w74 (by decide) (by decide)) (z29405 + 1) (by omega) (by omega) 1 (by omega) (by omega) (xOf_3 (b := z29405) (c := z30085) (d := z30146) (j := ((8 * z30146) + z30085)) v29801 (by omega) (by omega) (by omega) (by omega) (by omega) (by omega) (by omega) (v30141 (by omega)).2 (show xv g30186 w74 z29405 = z30085 from by rw [xv_s hg30186 (by omega)]) (show xv g30186 w74 z30146 = (-1) from by rw [(xv_k (i := z30146) hg30186 (by omega) (by omega) (by omega)), (xv_a hg30185 (xne hs_w74 hs_w76 (by decide))), xv_s hg30184 (by omega)]) (fun i9 hi9 h09 h19 => (show xv g30186 w74 i9 = xv g29407 w74 i9 from by rw [(xv_k (i := i9) hg30186 (by omega) (by omega) (by omega)), (xv_a hg30185 (xne hs_w74 hs_w76 (by decide))), (xv_k (i := i9) hg30184 (by omega) (by omega) (by omega)), (xv_a hg30181 (xne hs_w74 hs_w77 (by decide)))])) (show xv g30186 w76 z30085 = z29405 from by rw [(xv_a hg30186 (xne hs_w76 hs_w74 (by decide))), xv_s hg30185 (by omega)]) (fun i9 hi9 h09 => (show xv g30186 w76 i9 = xv g29407 w76 i9 from by rw [(xv_a hg30186 (xne hs_w76 hs_w74 (by decide))), (xv_k (i := i9) hg30185 (by omega) (by omega) (by omega)), (xv_a hg30184 (xne hs_w76 hs_w74 (by decide))), (xv_a hg30181 (xne hs_w76 hs_w77 (by decide)))])) (show xv g30186 w77 ((8 * z30146) + z30085) = 1 from by rw [(xv_a hg30186 (xne hs_w77 hs_w74 (by decide))), (xv_a hg30185 (xne hs_w77 hs_w76 (by decide))), (xv_a hg30184 (xne hs_w77 hs_w74 (by decide))), xv_s hg30181 (by omega)]) (fun i9 hi9 h09 => (show xv g30186 w77 i9 = xv g29407 w77 i9 from by rw [(xv_a hg30186 (xne hs_w77 hs_w74 (by decide))), (xv_a hg30185 (xne hs_w77 hs_w76 (by decide))), (xv_a hg30184 (xne hs_w77 hs_w74 (by decide))), (xv_k (i := i9) hg30181 (by omega) (by omega) (by omega))]))).1 (by have h9 := (xOf_3 (b := z29405) (c := z30085) (d := z30146) (j := ((8 * z30146) + z30085)) v29801 (by omega) (by omega) (by omega) (by omega) (by omega) (by omega) (by omega) (v30141 (by omega)).2 (show xv g30186 w74 z29405 = z30085 from by rw [xv_s hg30186 (by omega)]) (show xv g30186 w74 z30146 = (-1) from by rw [(xv_k (i := z30146) hg30186 (by omega) (by omega) (by omega)), (xv_a hg30185 (xne hs_w74 hs_w76 (by decide))), xv_s hg30184 (by omega)]) (fun i9 hi9 h09 h19 => (show xv g30186 w74 i9 = xv g29407 w74 i9 from by rw [(xv_k (i := i9) hg30186 (by omega) (by omega) (by omega)), (xv_a hg30185 (xne hs_w74 hs_w76 (by decide))), (xv_k (i := i9) hg30184 (by omega) (by omega) (by omega)), (xv_a hg30181 (xne hs_w74 hs_w77 (by decide)))])) (show xv g30186 w76 z30085 = z29405 from by rw [(xv_a hg30186 (xne hs_w76 hs_w74 (by decide))), xv_s hg30185 (by omega)]) (fun i9 hi9 h09 => (show xv g30186 w76 i9 = xv g29407 w76 i9 from by rw [(xv_a hg30186 (xne hs_w76 hs_w74 (by decide))), (xv_k (i := i9) hg30185 (by omega) (by omega) (by omega)), (xv_a hg30184 (xne hs_w76 hs_w74 (by decide))), (xv_a hg30181 (xne hs_w76 hs_w77 (by decide)))])) (show xv g30186 w77 ((8 * z30146) + z30085) = 1 from by rw [(xv_a hg30186 (xne hs_w77 hs_w74 (by decide))), (xv_a hg30185 (xne hs_w77 hs_w76 (by decide))), (xv_a hg30184 (xne hs_w77 hs_w74 (by decide))), xv_s hg30181 (by omega)]) (fun i9 hi9 h09 => (show xv g30186 w77 i9 = xv g29407 w77 i9 from by rw [(xv_a hg30186 (xne hs_w77 hs_w74 (by decide))), (xv_a hg30185 (xne hs_w77 hs_w76 (by decide))), (xv_a hg30184 (xne hs_w77 hs_w74 (by decide))), (xv_k (i := i9) hg30181 (by omega) (by omega) (by omega))]))).2; omega) (fun h9 => by omega) (by omega)
                                        · refine X_iconst hK kd44_23.1 ?_
                                          refine X_goto hK 231 kd44_23.2.1 (by decide) ?_
                                          refine X_istore hK (i := 6) [(6, .int (iI 1)), (5, .int (iI z30146)), (4, .int (iI z30085)), (2, .int (iI 1)), (3, .int (iI z29405)), (0, .ref a0), (1, .int (iI x1))] kd44_23.2.2.2.1 (by decide) rfl ?_
                                          refine X_aloadn hK (i := 0) 5 kd44_23.2.2.2.2.1 rfl rfl ?_
                                          refine X_getK hK fl_X12_168_13 hs_a0 ((hg29407 a0 13 0 77 hs_a0 (by decide)).trans ((hg26938 a0 13 0 77 hs_a0 (by decide)).trans ((hg23309 a0 13 0 77 hs_a0 (by decide)).trans ((hg17051 a0 13 0 77 hs_a0 (by decide)).trans ew77)))) kd44_23.2.2.2.2.2.1 ?_
                                          refine X_bipush hK kd44_23.2.2.2.2.2.2.1 (by decide) ?_
                                          refine X_iload hK (i := 6) 0 kd44_23.2.2.2.2.2.2.2.1 rfl ?_
                                          refine X_if_eq hK 248 (by omega) kd44_23.2.2.2.2.2.2.2.2.1 (by decide) (fun c30187 => False.elim (by omega)) (fun c30187 => ?_)
                                          refine X_iloadn hK (i := 3) 4 kd44_23.2.2.2.2.2.2.2.2.2.1 rfl rfl ?_
                                          refine X_goto hK 260 kd44_23.2.2.2.2.2.2.2.2.2.2.1 (by decide) ?_
                                          refine X_imul hK kd44_24.2.2.2.2.2.1 ?_
                                          refine X_iload hK (i := 4) 2 kd44_24.2.2.2.2.2.2.1 rfl ?_
                                          refine X_iadd hK kd44_24.2.2.2.2.2.2.2.1 ?_
                                          refine X_iload hK (i := 6) 0 kd44_24.2.2.2.2.2.2.2.2.1 rfl ?_
                                          refine X_if_ne hK 275 (by omega) kd44_24.2.2.2.2.2.2.2.2.2.1 (by decide) (fun c30188 => ?_) (fun c30188 => False.elim (by omega))
                                          refine X_iconst hK kd44_25.2.1 ?_
                                          refine X_goto hK 280 kd44_25.2.2.1 (by decide) ?_
                                          refine X_zast hK hs_w77 (by decide) (by decide) sl_19701 (by omega) (by omega) (by omega) (by omega) kd44_25.2.2.2.2.1 (fun g30189 hg30189 => ?_)
                                          refine X_iload hK (i := 6) 0 kd44_25.2.2.2.2.2.1 rfl ?_
                                          refine X_if_eq hK 289 (by omega) kd44_25.2.2.2.2.2.2.1 (by decide) (fun c30190 => False.elim (by omega)) (fun c30190 => ?_)
                                          refine X_goto hK 319 kd44_25.2.2.2.2.2.2.2.1 (by decide) ?_
                                          refine X_iinc hK (i := 3) (z := z29405) (n := 1) 4 [(3, .int (iI (z29405 + 1))), (6, .int (iI 1)), (5, .int (iI z30146)), (4, .int (iI z30085)), (2, .int (iI 1)), (0, .ref a0), (1, .int (iI x1))] kd44_27.2.2.1 rfl (by decide) rfl ?_
                                          refine X_goto hK 59 kd44_27.2.2.2.1 (by decide) ?_
                                          refine X_lv [(3, .int (iI (z29405 + 1))), (2, .int (iI 1)), (0, .ref a0), (1, .int (iI x1))] [0, 4, 5, 6] rfl ?_
                                          exact ihP29800  g30189 (xM_ua (xM.tr xM.rf xLe.rf hg29407 (by decide)) hg30189 hs_w77 (by decide) (by decide)) (z29405 + 1) (by omega) (by omega) 1 (by omega) (by omega) (xOf_2 (b := z29405) (c := z30085) (j := ((8 * z29405) + z30085)) v29801 (by omega) (by omega) (by omega) (by omega) (by omega) (by omega) (v30141 (by omega)).2 (show xv g30189 w77 ((8 * z29405) + z30085) = 1 from by rw [xv_s hg30189 (by omega)]) (fun i9 hi9 h09 => (show xv g30189 w77 i9 = xv g29407 w77 i9 from by rw [(xv_k (i := i9) hg30189 (by omega) (by omega) (by omega))])) (fun i9 hi9 => (show xv g30189 w74 i9 = xv g29407 w74 i9 from by rw [(xv_a hg30189 (xne hs_w74 hs_w77 (by decide)))])) (fun i9 hi9 => (show xv g30189 w76 i9 = xv g29407 w76 i9 from by rw [(xv_a hg30189 (xne hs_w76 hs_w77 (by decide)))]))).1 (by have h9 := (xOf_2 (b := z29405) (c := z30085) (j := ((8 * z29405) + z30085)) v29801 (by omega) (by omega) (by omega) (by omega) (by omega) (by omega) (v30141 (by omega)).2 (show xv g30189 w77 ((8 * z29405) + z30085) = 1 from by rw [xv_s hg30189 (by omega)]) (fun i9 hi9 h09 => (show xv g30189 w77 i9 = xv g29407 w77 i9 from by rw [(xv_k (i := i9) hg30189 (by omega) (by omega) (by omega))])) (fun i9 hi9 => (show xv g30189 w74 i9 = xv g29407 w74 i9 from by rw [(xv_a hg30189 (xne hs_w74 hs_w77 (by decide)))])) (fun i9 hi9 => (show xv g30189 w76 i9 = xv g29407 w76 i9 from by rw [(xv_a hg30189 (xne hs_w76 hs_w77 (by decide)))]))).2; omega) (fun h9 => by omega) (by omega)
                                · refine X_aloadn hK (i := 0) 4 kd44_16.2.2.2.2.2.2.1 rfl rfl ?_
                                  refine X_getK hK fl_X12_168_13 hs_a0 ((hg29407 a0 13 0 77 hs_a0 (by decide)).trans ((hg26938 a0 13 0 77 hs_a0 (by decide)).trans ((hg23309 a0 13 0 77 hs_a0 (by decide)).trans ((hg17051 a0 13 0 77 hs_a0 (by decide)).trans ew77)))) kd44_16.2.2.2.2.2.2.2.1 ?_
                                  refine X_bipush hK kd44_16.2.2.2.2.2.2.2.2.1 (by decide) ?_
                                  refine X_iloadn hK (i := 3) 3 kd44_16.2.2.2.2.2.2.2.2.2.1 rfl rfl ?_
                                  refine X_imul hK kd44_16.2.2.2.2.2.2.2.2.2.2.1 ?_
                                  refine X_iload hK (i := 5) 0 kd44_16.2.2.2.2.2.2.2.2.2.2.2 rfl ?_
                                  refine X_iadd hK kd44_17.1 ?_
                                  refine X_zald hK hs_w77 (by decide) sl_19701 (by omega) (by omega) kd44_17.2.1 (fun z30191 ez30191 lz30191 uz30191 => ?_)
                                  have hvz30191 := xv_e (j := ((8 * z29405) + z30084)) ez30191 (by omega)
                                  refine X_if_ne hK 143 (by omega) kd44_17.2.2.1 (by decide) (fun c30192 => ?_) (fun c30192 => ?_)
                                  · refine X_iinc hK (i := 5) (z := z30084) (n := 1) 0 [(5, .int (iI (z30084 + 1))), (4, .int (iI z30085)), (2, .int (iI 1)), (3, .int (iI z29405)), (0, .ref a0), (1, .int (iI x1))] kd44_19.2.1 rfl (by decide) rfl ?_
                                    refine X_goto hK 85 kd44_19.2.2.1 (by decide) ?_
                                    exact ihP30139  (z30084 + 1) (by omega) (by omega) z30085 (by omega) (by omega) (fun hm c q1 q2 => by rcases (show c < z30084 ∨ c = z30084 by omega) with e9 | e9 <;> first | omega | exact v30140 (by omega) c q1 e9 | (rw [e9]; omega)) (fun hm => by first | omega | exact ⟨by omega, by omega⟩ | (have h9 := v30141 (by omega); exact ⟨by omega, h9.2⟩)) (by omega) (by omega)
                                  · refine X_iload hK (i := 4) 1 kd44_17.2.2.2.1 rfl ?_
                                    refine X_iconst hK kd44_17.2.2.2.2.1 ?_
                                    refine X_icmp_eq hK 139 (by omega) (by omega) kd44_17.2.2.2.2.2.1 (by decide) (fun c30193 => ?_) (fun c30193 => ?_)
                                    · refine X_iload hK (i := 5) 0 kd44_18.2.2.2.2.2.2.2.2.2.2.2 rfl ?_
                                      refine X_istore hK (i := 4) [(4, .int (iI z30084)), (5, .int (iI z30084)), (2, .int (iI 1)), (3, .int (iI z29405)), (0, .ref a0), (1, .int (iI x1))] kd44_19.1 (by decide) rfl ?_
                                      refine X_iinc hK (i := 5) (z := z30084) (n := 1) 1 [(5, .int (iI (z30084 + 1))), (4, .int (iI z30084)), (2, .int (iI 1)), (3, .int (iI z29405)), (0, .ref a0), (1, .int (iI x1))] kd44_19.2.1 rfl (by decide) rfl ?_
                                      refine X_goto hK 85 kd44_19.2.2.1 (by decide) ?_
                                      exact ihP30139  (z30084 + 1) (by omega) (by omega) z30084 (by omega) (by omega) (fun hm c q1 q2 => by rcases (show c < z30084 ∨ c = z30084 by omega) with e9 | e9 <;> first | omega | exact v30140 (by omega) c q1 e9 | (rw [e9]; omega)) (fun hm => by first | omega | exact ⟨by omega, by omega⟩ | (have h9 := v30141 (by omega); exact ⟨by omega, h9.2⟩)) (by omega) (by omega)
                                    · refine X_aloadn hK (i := 0) 4 kd44_17.2.2.2.2.2.2.1 rfl rfl ?_
                                      refine X_getr hK 18100 64 fl_X12_153_13 hs_a0 sl_13_72 kd44_17.2.2.2.2.2.2.2.1 (fun b30194 eb30194 hs_b30194 => ?_)
                                      refine X_bipush hK kd44_17.2.2.2.2.2.2.2.2.1 (by decide) ?_
                                      refine X_iloadn hK (i := 3) 3 kd44_17.2.2.2.2.2.2.2.2.2.1 rfl rfl ?_
                                      refine X_imul hK kd44_17.2.2.2.2.2.2.2.2.2.2.1 ?_
                                      refine X_iload hK (i := 5) 0 kd44_17.2.2.2.2.2.2.2.2.2.2.2 rfl ?_
                                      refine X_iadd hK kd44_18.1 ?_
                                      refine X_iald hK hs_b30194 (by decide) sl_18100 (by omega) (by omega) kd44_18.2.1 (fun z30195 ez30195 lz30195 uz30195 => ?_)
                                      refine X_aloadn hK (i := 0) 4 kd44_18.2.2.1 rfl rfl ?_
                                      refine X_getK hK fl_X12_153_13 hs_a0 eb30194 kd44_18.2.2.2.1 ?_
                                      refine X_bipush hK kd44_18.2.2.2.2.1 (by decide) ?_
                                      refine X_iloadn hK (i := 3) 3 kd44_18.2.2.2.2.2.1 rfl rfl ?_
                                      refine X_imul hK kd44_18.2.2.2.2.2.2.1 ?_
                                      refine X_iload hK (i := 4) 1 kd44_18.2.2.2.2.2.2.2.1 rfl ?_
                                      refine X_iadd hK kd44_18.2.2.2.2.2.2.2.2.1 ?_
                                      refine X_iald hK hs_b30194 (by decide) sl_18100 (by omega) (by omega) kd44_18.2.2.2.2.2.2.2.2.2.1 (fun z30196 ez30196 lz30196 uz30196 => ?_)
                                      refine X_icmp_le hK 143 (by omega) (by omega) kd44_18.2.2.2.2.2.2.2.2.2.2.1 (by decide) (fun c30197 => ?_) (fun c30197 => ?_)
                                      · refine X_iinc hK (i := 5) (z := z30084) (n := 1) 0 [(5, .int (iI (z30084 + 1))), (4, .int (iI z30085)), (2, .int (iI 1)), (3, .int (iI z29405)), (0, .ref a0), (1, .int (iI x1))] kd44_19.2.1 rfl (by decide) rfl ?_
                                        refine X_goto hK 85 kd44_19.2.2.1 (by decide) ?_
                                        exact ihP30139  (z30084 + 1) (by omega) (by omega) z30085 (by omega) (by omega) (fun hm c q1 q2 => by rcases (show c < z30084 ∨ c = z30084 by omega) with e9 | e9 <;> first | omega | exact v30140 (by omega) c q1 e9 | (rw [e9]; omega)) (fun hm => by first | omega | exact ⟨by omega, by omega⟩ | (have h9 := v30141 (by omega); exact ⟨by omega, h9.2⟩)) (by omega) (by omega)
                                      · refine X_iload hK (i := 5) 0 kd44_18.2.2.2.2.2.2.2.2.2.2.2 rfl ?_
                                        refine X_istore hK (i := 4) [(4, .int (iI z30084)), (5, .int (iI z30084)), (2, .int (iI 1)), (3, .int (iI z29405)), (0, .ref a0), (1, .int (iI x1))] kd44_19.1 (by decide) rfl ?_
                                        refine X_iinc hK (i := 5) (z := z30084) (n := 1) 1 [(5, .int (iI (z30084 + 1))), (4, .int (iI z30084)), (2, .int (iI 1)), (3, .int (iI z29405)), (0, .ref a0), (1, .int (iI x1))] kd44_19.2.1 rfl (by decide) rfl ?_
                                        refine X_goto hK 85 kd44_19.2.2.1 (by decide) ?_
                                        exact ihP30139  (z30084 + 1) (by omega) (by omega) z30084 (by omega) (by omega) (fun hm c q1 q2 => by rcases (show c < z30084 ∨ c = z30084 by omega) with e9 | e9 <;> first | omega | exact v30140 (by omega) c q1 e9 | (rw [e9]; omega)) (fun hm => by first | omega | exact ⟨by omega, by omega⟩ | (have h9 := v30141 (by omega); exact ⟨by omega, h9.2⟩)) (by omega) (by omega)
                            exact P30139 ((24 - 0 : Int).toNat + 1) 0 (by omega) (by omega) (-1) (by omega) (by omega) (fun _ c q1 q2 => by omega) (fun h => by omega) (by omega) (by omega)
                          · refine X_goto hK 319 kd44_15.2.2.2.2.2.2.2.2.1 (by decide) ?_
                            refine X_iinc hK (i := 3) (z := z29405) (n := 1) 0 [(3, .int (iI (z29405 + 1))), (2, .int (iI z29406)), (0, .ref a0), (1, .int (iI x1))] kd44_27.2.2.1 rfl (by decide) rfl ?_
                            refine X_goto hK 59 kd44_27.2.2.2.1 (by decide) ?_
                            exact ihP29800  g29407 (xM.tr xM.rf xLe.rf hg29407 (by decide)) (z29405 + 1) (by omega) (by omega) z29406 (by omega) (by omega) v29801 (by omega) (fun h9 => xpre (P := fun x => x ≠ -1) (v29803 (by omega)) (fun _ _ _ => rfl) (by omega)) (by omega)
                    exact P29800 ((24 - 0 : Int).toNat + 1) g26938 xM.rf 0 (by omega) (by omega) 0 (by omega) (by omega) v27455 (by omega) (fun _ k q1 q2 => by omega) (by omega)
              exact P27454 ((2 * (x1 * x1 + x1 - xPh x1 (xv g23309 w76) (xv g23309 w77)) + 1 : Int).toNat + 1) g23309 xM.rf 1 (by omega) (by omega) (xOf.ini (fun k q1 q2 => v24350 k q1 (by omega)) (fun k q1 q2 => v24351 k q1 (by omega)) (fun k q1 q2 => by rw [(xv_m hg23309 hs_w77 (by decide) (by decide))]; exact v19138 k q1 (by omega)) (by omega)) (xPh_le (n := x1) (xv g23309 w76) (xv g23309 w77) (by omega)) (fun h9 => by omega) (by omega)
            · refine X_aloadn hK (i := 0) 1 kd44_13.2.2.2.1 rfl rfl ?_
              refine X_getK hK fl_X12_159_13 hs_a0 ((hg23309 a0 13 0 74 hs_a0 (by decide)).trans ((hg17051 a0 13 0 74 hs_a0 (by decide)).trans ew74)) kd44_13.2.2.2.2.1 ?_
              refine X_iloadn hK (i := 2) 0 kd44_13.2.2.2.2.2.1 rfl rfl ?_
              refine X_iconst hK kd44_13.2.2.2.2.2.2.1 ?_
              refine X_iast hK hs_w74 (by decide) (by decide) sl_18300 (by omega) (by omega) (by omega) (by omega) kd44_13.2.2.2.2.2.2.2.1 (fun g30198 hg30198 => ?_)
              refine X_aloadn hK (i := 0) 1 kd44_13.2.2.2.2.2.2.2.2.1 rfl rfl ?_
              refine X_getK hK fl_X12_165_13 hs_a0 ((xs_a hg30198 (xne hs_a0 hs_w74 (by decide))).trans ((hg23309 a0 13 0 76 hs_a0 (by decide)).trans ((hg17051 a0 13 0 76 hs_a0 (by decide)).trans ew76))) kd44_13.2.2.2.2.2.2.2.2.2.1 ?_
              refine X_iloadn hK (i := 2) 0 kd44_13.2.2.2.2.2.2.2.2.2.2.1 rfl rfl ?_
              refine X_iconst hK kd44_13.2.2.2.2.2.2.2.2.2.2.2 ?_
              refine X_iast hK hs_w76 (by decide) (by decide) sl_18500 (by omega) (by omega) (by omega) (by omega) kd44_14.1 (fun g30199 hg30199 => ?_)
              refine X_iinc hK (i := 2) (z := z23308) (n := 1) 0 [(2, .int (iI (z23308 + 1))), (0, .ref a0), (1, .int (iI x1))] kd44_14.2.1 rfl (by decide) rfl ?_
              refine X_goto hK 23 kd44_14.2.2.1 (by decide) ?_
              exact ihP24349  g30199 (xM_ua (xM_ua (xM.tr xM.rf xLe.rf hg23309 (by decide)) hg30198 hs_w74 (by decide) (by decide)) hg30199 hs_w76 (by decide) (by decide)) (z23308 + 1) (by omega) (by omega) (xpre (P := fun x => x = -1) v24350 (fun i9 hi9 h09 => (show xv g30199 w74 i9 = xv g23309 w74 i9 from by rw [(xv_a hg30199 (xne hs_w74 hs_w76 (by decide))), (xv_k (i := i9) hg30198 (by omega) (by omega) (by omega))])) (show xv g30199 w74 z23308 = (-1) from by rw [(xv_a hg30199 (xne hs_w74 hs_w76 (by decide))), xv_s hg30198 (by omega)])) (xpre (P := fun x => x = -1) v24351 (fun i9 hi9 h09 => (show xv g30199 w76 i9 = xv g23309 w76 i9 from by rw [(xv_k (i := i9) hg30199 (by omega) (by omega) (by omega)), (xv_a hg30198 (xne hs_w76 hs_w74 (by decide)))])) (show xv g30199 w76 z23308 = (-1) from by rw [xv_s hg30199 (by omega)])) (by omega)
        exact P24349 ((24 - 0 : Int).toNat + 1) g17051 xM.rf 0 (by omega) (by omega) (fun k q1 q2 => by omega) (fun k q1 q2 => by omega) (by omega)
      · refine X_aloadn hK (i := 0) 1 kd44_12.2.2.2.1 rfl rfl ?_
        refine X_getK hK fl_X12_168_13 hs_a0 ((hg17051 a0 13 0 77 hs_a0 (by decide)).trans ew77) kd44_12.2.2.2.2.1 ?_
        refine X_iloadn hK (i := 2) 0 kd44_12.2.2.2.2.2.1 rfl rfl ?_
        refine X_iconst hK kd44_12.2.2.2.2.2.2.1 ?_
        refine X_zast hK hs_w77 (by decide) (by decide) sl_19701 (by omega) (by omega) (by omega) (by omega) kd44_12.2.2.2.2.2.2.2.1 (fun g30200 hg30200 => ?_)
        refine X_iinc hK (i := 2) (z := z17050) (n := 1) 0 [(2, .int (iI (z17050 + 1))), (0, .ref a0), (1, .int (iI x1))] kd44_12.2.2.2.2.2.2.2.2.1 rfl (by decide) rfl ?_
        refine X_goto hK 2 kd44_12.2.2.2.2.2.2.2.2.2.1 (by decide) ?_
        exact ihP19137  g30200 (xM_ua (xM.tr xM.rf xLe.rf hg17051 (by decide)) hg30200 hs_w77 (by decide) (by decide)) (z17050 + 1) (by omega) (by omega) (xpre (P := fun x => x = 0) v19138 (fun i9 hi9 h09 => (show xv g30200 w77 i9 = xv g17051 w77 i9 from by rw [(xv_k (i := i9) hg30200 (by omega) (by omega) (by omega))])) (show xv g30200 w77 z17050 = 0 from by rw [xv_s hg30200 (by omega)])) (by omega)
  exact P19137 ((80 - 0 : Int).toNat + 1) g xM.rf 0 (by omega) (by omega) (fun k q1 q2 => by omega) (by omega)

set_option maxHeartbeats 4000000 in
set_option maxRecDepth 100000 in
theorem c_X12_parted (l : Launch) (D : va_G) (kA : Nat → ClassId) (b0 : Nat) (t0 : Nat → Nat) (S : xT) (g : xG) (a0 : Nat) (x1 : Int) (x2 : Int) (x3 : Int) (n0 : Int) (hs_a0 : S a0 = some (13, 0)) (hx1 : (-2147483648) ≤ x1 ∧ x1 ≤ 2147483647) (hx2 : (-2147483648) ≤ x2 ∧ x2 ≤ 2147483647) (hx3 : (-2147483648) ≤ x3 ∧ x3 ≤ 2147483647) (hn0 : 0 ≤ n0 ∧ n0 ≤ 420) (en0 : g a0 2 = .int (iI n0)) (hp0 : xMp S g a0) : xMt l yX12_parted cX12_parted 7 (some .int) 2 0 0 52 D kA b0 t0 [(13, 0), (13, 2), (18600, 0), (18700, 0), (18100, 0), (18200, 0), (19701, 0), (18300, 0), (18500, 0), (13, 78), (13, 79), (18400, 0)] [.ref a0, .int (iI x1), .int (iI x2), .int (iI x3)] S g (fun (r : Option Value) (S1 : xT) (g1 : xG) => S = S1 ∧ ∃ z : Int, r = some (.int (iI z)) ∧ (-2147483648) ≤ z ∧ z ≤ 2147483647 ∧ (g1 a0 2 = .int (iI (0))) ∧ (xMp S g1 a0)) := by
  refine xEnterI (by decide) (by simp [lg_sl, Value.category]) [(0, .ref a0), (1, .int (iI x1)), (2, .int (iI x2)), (3, .int (iI x3))] rfl ?_
  intro K E hK hret _ _ _
  refine X_aloadn hK (i := 0) 0 kd44_27.2.2.2.2.2.2.1 rfl rfl ?_
  obtain ⟨h8, n8, z8, hpi1, hpi2, hs_h8, hpi4, hpi5, hpi6, hpi7, hpi8, hpi9, hpi10⟩ := hp0
  refine X_iconst hK kd44_27.2.2.2.2.2.2.2.1 ?_
  refine X_puti hK fl_X12_198_13 hs_a0 (by decide) sl_13_0 (by omega) (by omega) kd44_27.2.2.2.2.2.2.2.2.1 (fun g1 hg1 => ?_)
  refine X_aloadn hK (i := 0) 0 kd44_27.2.2.2.2.2.2.2.2.2.1 rfl rfl ?_
  refine X_callV hK [] [] lk_X12_222 (c_X12_take _ _ _ _ _ S g1 a0 n0 hs_a0 (by omega) ((xs_k hg1 (by decide)).trans en0)) hs_a0 ⟨by decide, rfl⟩ kd44_27.2.2.2.2.2.2.2.2.2.2.1 rfl rfl (by simp [Value.category]) (by decide) (by decide) (by decide) (by decide) (fun r2 S4 g3 pr2 qr2 hg3 => ?_)
  obtain ⟨rfl, z5, rfl, lz5, uz5, k6, k7⟩ := pr2
  refine X_st [.int (iI z5)] rfl ?_
  refine X_istore hK (i := 4) [(4, .int (iI z5)), (0, .ref a0), (1, .int (iI x1)), (2, .int (iI x2)), (3, .int (iI x3))] kd44_27.2.2.2.2.2.2.2.2.2.2.2 (by decide) rfl ?_
  refine X_iloadn hK (i := 1) 2 kd44_28.1 rfl rfl ?_
  refine X_iconst hK kd44_28.2.1 ?_
  refine X_bipush hK kd44_28.2.2.1 (by decide) ?_
  refine X_callS hK [.int (iI x1), .int (iI 1), .int (iI 8)] [] lk_X12_211 (c_X12_isIn _ _ _ _ _ S g3 x1 1 8 (by omega) (by omega) (by omega)) kd44_28.2.2.2.1 rfl rfl (by simp [Value.category]) (by decide) (by decide) (by decide) (by decide) (fun r8 S10 g9 pr8 qr8 hg9 => ?_)
  obtain ⟨rfl, rfl, z11, rfl, lz11, uz11, k12⟩ := pr8
  refine X_st [.int (iI z11)] rfl ?_
  refine X_if_eq hK 56 (by omega) kd44_28.2.2.2.2.1 (by decide) (fun c13 => ?_) (fun c13 => ?_)
  · refine X_iconst hK kd44_30.2.1 ?_
    exact hret _ _ _ _ _ _ _ kd44_30.2.2.1 ⟨rfl, (-1), rfl, (by omega), (by omega), (k7.trans (by congr 2 <;> omega)), ⟨h8, n8, z8, hs_a0, ((hg3 a0 13 0 74 hs_a0 (by decide)).trans ((xs_k hg1 (by decide)).trans hpi2)), hs_h8, ((hg3 a0 13 0 78 hs_a0 (by decide)).trans ((xs_k hg1 (by decide)).trans hpi4)), by omega, by omega, ((hg3 a0 13 0 79 hs_a0 (by decide)).trans ((xs_k hg1 (by decide)).trans hpi7)), by omega, by omega, (fun h9 => by rw [(xv_m hg3 hs_h8 (by decide) (by decide)), (xv_a hg1 (xne hs_h8 hs_a0 (by decide)))]; exact hpi10 h9)⟩⟩ (Nat.le_refl _) (Nat.le_refl _)
  · refine X_iload hK (i := 4) 0 kd44_28.2.2.2.2.2.1 rfl ?_
    refine X_iconst hK kd44_28.2.2.2.2.2.2.1 ?_
    refine X_iloadn hK (i := 1) 2 kd44_28.2.2.2.2.2.2.2.1 rfl rfl ?_
    refine X_imul hK kd44_28.2.2.2.2.2.2.2.2.1 ?_
    refine X_iloadn hK (i := 1) 2 kd44_28.2.2.2.2.2.2.2.2.2.1 rfl rfl ?_
    refine X_imul hK kd44_28.2.2.2.2.2.2.2.2.2.2.1 ?_
    have hm14 := xmulB (a := (2 * x1)) (b := x1) (A := 16) (B := 8) (by omega) (by omega) (by omega) (by omega)
    refine X_icmp_ne hK 56 (by omega) (by omega) kd44_28.2.2.2.2.2.2.2.2.2.2.2 (by decide) (fun c15 => ?_) (fun c15 => ?_)
    · refine X_iconst hK kd44_30.2.1 ?_
      exact hret _ _ _ _ _ _ _ kd44_30.2.2.1 ⟨rfl, (-1), rfl, (by omega), (by omega), (k7.trans (by congr 2 <;> omega)), ⟨h8, n8, z8, hs_a0, ((hg3 a0 13 0 74 hs_a0 (by decide)).trans ((xs_k hg1 (by decide)).trans hpi2)), hs_h8, ((hg3 a0 13 0 78 hs_a0 (by decide)).trans ((xs_k hg1 (by decide)).trans hpi4)), by omega, by omega, ((hg3 a0 13 0 79 hs_a0 (by decide)).trans ((xs_k hg1 (by decide)).trans hpi7)), by omega, by omega, (fun h9 => by rw [(xv_m hg3 hs_h8 (by decide) (by decide)), (xv_a hg1 (xne hs_h8 hs_a0 (by decide)))]; exact hpi10 h9)⟩⟩ (Nat.le_refl _) (Nat.le_refl _)
    · refine X_iloadn hK (i := 2) 3 kd44_29.1 rfl rfl ?_
      refine X_iconst hK kd44_29.2.1 ?_
      refine X_iconst hK kd44_29.2.2.1 ?_
      refine X_callS hK [.int (iI x2), .int (iI 0), .int (iI 1)] [] lk_X12_211 (c_X12_isIn _ _ _ _ _ S g3 x2 0 1 (by omega) (by omega) (by omega)) kd44_29.2.2.2.1 rfl rfl (by simp [Value.category]) (by decide) (by decide) (by decide) (by decide) (fun r16 S18 g17 pr16 qr16 hg17 => ?_)
      obtain ⟨rfl, rfl, z19, rfl, lz19, uz19, k20⟩ := pr16
      refine X_st [.int (iI z19)] rfl ?_
      refine X_if_eq hK 56 (by omega) kd44_29.2.2.2.2.1 (by decide) (fun c21 => ?_) (fun c21 => ?_)
      · refine X_iconst hK kd44_30.2.1 ?_
        exact hret _ _ _ _ _ _ _ kd44_30.2.2.1 ⟨rfl, (-1), rfl, (by omega), (by omega), (k7.trans (by congr 2 <;> omega)), ⟨h8, n8, z8, hs_a0, ((hg3 a0 13 0 74 hs_a0 (by decide)).trans ((xs_k hg1 (by decide)).trans hpi2)), hs_h8, ((hg3 a0 13 0 78 hs_a0 (by decide)).trans ((xs_k hg1 (by decide)).trans hpi4)), by omega, by omega, ((hg3 a0 13 0 79 hs_a0 (by decide)).trans ((xs_k hg1 (by decide)).trans hpi7)), by omega, by omega, (fun h9 => by rw [(xv_m hg3 hs_h8 (by decide) (by decide)), (xv_a hg1 (xne hs_h8 hs_a0 (by decide)))]; exact hpi10 h9)⟩⟩ (Nat.le_refl _) (Nat.le_refl _)
      · refine X_iloadn hK (i := 2) 3 kd44_29.2.2.2.2.2.1 rfl rfl ?_
        refine X_iconst hK kd44_29.2.2.2.2.2.2.1 ?_
        refine X_icmp_ne hK 58 (by omega) (by omega) kd44_29.2.2.2.2.2.2.2.1 (by decide) (fun c22 => ?_) (fun c22 => ?_)
        · refine X_iconst hK kd44_30.2.2.2.1 ?_
          refine X_istore hK (i := 5) [(5, .int (iI 0)), (4, .int (iI z5)), (0, .ref a0), (1, .int (iI x1)), (2, .int (iI x2)), (3, .int (iI x3))] kd44_30.2.2.2.2.1 (by decide) rfl ?_
          have P1324 : ∀ (nP1324 : Nat) (g1167 : xG) (_ : xM [(18700, 0), (18600, 0)] S g3 g1167) (z1166 : Int) (_ : 0 ≤ z1166) (_ : z1166 ≤ 64) (_ : 80 - z1166 < (nP1324 : Int)), X K E 61 [(5, .int (iI z1166)), (4, .int (iI z5)), (0, .ref a0), (1, .int (iI x1)), (2, .int (iI x2)), (3, .int (iI x3))] [] S g1167 0 0 := by
            intro nP1324
            induction nP1324 with
            | zero => intro g1167 hg1167 z1166 lz1166 uz1166 mP1324; exact False.elim (by omega)
            | succ nP1324 ihP1324 =>
              intro g1167 hg1167 z1166 lz1166 uz1166 mP1324
              refine X_iload hK (i := 5) 0 kd44_30.2.2.2.2.2.1 rfl ?_
              refine X_bipush hK kd44_30.2.2.2.2.2.2.1 (by decide) ?_
              refine X_icmp_ge hK 102 (by omega) (by omega) kd44_30.2.2.2.2.2.2.2.1 (by decide) (fun c1325 => ?_) (fun c1325 => ?_)
              · refine X_iconst hK kd44_32.2.2.1 ?_
                refine X_istore hK (i := 5) [(5, .int (iI 0)), (4, .int (iI z5)), (0, .ref a0), (1, .int (iI x1)), (2, .int (iI x2)), (3, .int (iI x3))] kd44_32.2.2.2.1 (by decide) rfl ?_
                have P1933 : ∀ (nP1933 : Nat) (g1828 : xG) (_ : xM [(18200, 0), (18100, 0)] S g1167 g1828) (z1827 : Int) (_ : 0 ≤ z1827) (_ : z1827 ≤ 8) (_ : 24 - z1827 < (nP1933 : Int)), X K E 105 [(5, .int (iI z1827)), (4, .int (iI z5)), (0, .ref a0), (1, .int (iI x1)), (2, .int (iI x2)), (3, .int (iI x3))] [] S g1828 0 0 := by
                  intro nP1933
                  induction nP1933 with
                  | zero => intro g1828 hg1828 z1827 lz1827 uz1827 mP1933; exact False.elim (by omega)
                  | succ nP1933 ihP1933 =>
                    intro g1828 hg1828 z1827 lz1827 uz1827 mP1933
                    refine X_iload hK (i := 5) 0 kd44_32.2.2.2.2.1 rfl ?_
                    refine X_iloadn hK (i := 1) 3 kd44_32.2.2.2.2.2.1 rfl rfl ?_
                    refine X_icmp_ge hK 186 (by omega) (by omega) kd44_32.2.2.2.2.2.2.1 (by decide) (fun c1934 => ?_) (fun c1934 => ?_)
                    · refine X_iloadn hK (i := 2) 4 kd44_36.2.2.2.2.1 rfl rfl ?_
                      refine X_if_ne hK 198 (by omega) kd44_36.2.2.2.2.2.1 (by decide) (fun c1935 => False.elim (by omega)) (fun c1935 => ?_)
                      refine X_aloadn hK (i := 0) 2 kd44_36.2.2.2.2.2.2.1 rfl rfl ?_
                      refine X_iloadn hK (i := 1) 3 kd44_36.2.2.2.2.2.2.2.1 rfl rfl ?_
                      refine X_knowr 18500 8 hs_a0 (by decide) sl_13_76 (fun b1936 eb1936 hs_b1936 => ?_)
                      refine X_knowr 19701 64 hs_a0 (by decide) sl_13_77 (fun b1937 eb1937 hs_b1937 => ?_)
                      refine X_callV hK [.int (iI x1)] [] lk_X12_453 (c_X12_offer _ _ _ _ _ S g1828 a0 x1 h8 b1936 b1937 hs_a0 (by omega) ((hg1828 a0 13 0 74 hs_a0 (by decide)).trans ((hg1167 a0 13 0 74 hs_a0 (by decide)).trans ((hg3 a0 13 0 74 hs_a0 (by decide)).trans ((xs_k hg1 (by decide)).trans hpi2)))) hs_h8 eb1936 hs_b1936 eb1937 hs_b1937) hs_a0 ⟨by decide, rfl⟩ kd44_36.2.2.2.2.2.2.2.2.1 rfl rfl (by simp [Value.category]) (by decide) (by decide) (by decide) (by decide) (fun r1938 S1940 g1939 pr1938 qr1938 hg1939 => ?_)
                      obtain ⟨rfl, rfl, k1941⟩ := pr1938
                      refine X_st [] rfl ?_
                      refine X_goto hK 253 kd44_36.2.2.2.2.2.2.2.2.2.1 (by decide) ?_
                      refine X_aloadn hK (i := 0) 2 kd44_39.2.2.2.2.1 rfl rfl ?_
                      refine X_iloadn hK (i := 1) 3 kd44_39.2.2.2.2.2.1 rfl rfl ?_
                      refine X_puti hK fl_X12_459_13 hs_a0 (by decide) sl_13_78 (by omega) (by omega) kd44_39.2.2.2.2.2.2.1 (fun g1942 hg1942 => ?_)
                      refine X_aloadn hK (i := 0) 2 kd44_39.2.2.2.2.2.2.2.1 rfl rfl ?_
                      refine X_iconst hK kd44_39.2.2.2.2.2.2.2.2.1 ?_
                      refine X_putz hK fl_X12_462_13 hs_a0 (by decide) sl_13_79 (by omega) (by omega) kd44_39.2.2.2.2.2.2.2.2.2.1 (fun g1943 hg1943 => ?_)
                      refine X_aloadn hK (i := 0) 2 kd44_39.2.2.2.2.2.2.2.2.2.2.1 rfl rfl ?_
                      refine X_getr hK 18100 64 fl_X12_153_13 hs_a0 sl_13_72 kd44_39.2.2.2.2.2.2.2.2.2.2.2 (fun b1944 eb1944 hs_b1944 => ?_)
                      refine X_aloadn hK (i := 0) 2 kd44_40.1 rfl rfl ?_
                      refine X_getK hK fl_X12_159_13 hs_a0 ((xs_k hg1943 (by decide)).trans ((xs_k hg1942 (by decide)).trans ((hg1939 a0 13 0 74 hs_a0 (by decide)).trans ((hg1828 a0 13 0 74 hs_a0 (by decide)).trans ((hg1167 a0 13 0 74 hs_a0 (by decide)).trans ((hg3 a0 13 0 74 hs_a0 (by decide)).trans ((xs_k hg1 (by decide)).trans hpi2))))))) kd44_40.2.1 ?_
                      refine X_iloadn hK (i := 1) 3 kd44_40.2.2.1 rfl rfl ?_
                      refine X_callS hK [.ref b1944, .ref h8, .int (iI x1)] [] lk_X12_441 (c_sumOf_h _ _ _ _ _ S g1943 b1944 h8 x1 hs_b1944 hs_h8 (by omega) (by rw [(Eq.trans (xv_a hg1943 (xne hs_h8 hs_a0 (by decide))) (xv_a hg1942 (xne hs_h8 hs_a0 (by decide))))]; exact k1941)) kd44_40.2.2.2.1 rfl rfl (by simp [Value.category]) (by decide) (by decide) (by decide) (by decide) (fun r1945 S1947 g1946 pr1945 qr1945 hg1946 => ?_)
                      obtain ⟨rfl, rfl, z1948, rfl, lz1948, uz1948⟩ := pr1945
                      refine X_st [.int (iI z1948)] rfl ?_
                      exact hret _ _ _ _ _ _ _ kd44_40.2.2.2.2.1 ⟨rfl, z1948, rfl, (by omega), (by omega), (((xs_k hg1943 (by decide)).trans ((xs_k hg1942 (by decide)).trans ((hg1939 a0 13 0 2 hs_a0 (by decide)).trans ((hg1828 a0 13 0 2 hs_a0 (by decide)).trans ((hg1167 a0 13 0 2 hs_a0 (by decide)).trans k7))))).trans (by congr 2 <;> omega)), ⟨h8, x1, 1, hs_a0, ((xs_k hg1943 (by decide)).trans ((xs_k hg1942 (by decide)).trans ((hg1939 a0 13 0 74 hs_a0 (by decide)).trans ((hg1828 a0 13 0 74 hs_a0 (by decide)).trans ((hg1167 a0 13 0 74 hs_a0 (by decide)).trans ((hg3 a0 13 0 74 hs_a0 (by decide)).trans ((xs_k hg1 (by decide)).trans hpi2))))))), hs_h8, ((xs_k hg1943 (by decide)).trans (xs_s hg1942)), by omega, by omega, (xs_s hg1943), by omega, by omega, (fun _ => by rw [(Eq.trans (xv_a hg1943 (xne hs_h8 hs_a0 (by decide))) (xv_a hg1942 (xne hs_h8 hs_a0 (by decide))))]; exact k1941)⟩⟩ (Nat.le_refl _) (Nat.le_refl _)
                    · refine X_iconst hK kd44_32.2.2.2.2.2.2.2.1 ?_
                      refine X_istore hK (i := 6) [(6, .int (iI 0)), (5, .int (iI z1827)), (4, .int (iI z5)), (0, .ref a0), (1, .int (iI x1)), (2, .int (iI x2)), (3, .int (iI x3))] kd44_32.2.2.2.2.2.2.2.2.1 (by decide) rfl ?_
                      have P2026 : ∀ (nP2026 : Nat) (g2014 : xG) (_ : xM [(18200, 0), (18100, 0)] S g1828 g2014) (z2013 : Int) (_ : 0 ≤ z2013) (_ : z2013 ≤ 8) (_ : 24 - z2013 < (nP2026 : Int)), X K E 114 [(6, .int (iI z2013)), (5, .int (iI z1827)), (4, .int (iI z5)), (0, .ref a0), (1, .int (iI x1)), (2, .int (iI x2)), (3, .int (iI x3))] [] S g2014 0 0 := by
                        intro nP2026
                        induction nP2026 with
                        | zero => intro g2014 hg2014 z2013 lz2013 uz2013 mP2026; exact False.elim (by omega)
                        | succ nP2026 ihP2026 =>
                          intro g2014 hg2014 z2013 lz2013 uz2013 mP2026
                          refine X_iload hK (i := 6) 0 kd44_32.2.2.2.2.2.2.2.2.2.1 rfl ?_
                          refine X_iloadn hK (i := 1) 4 kd44_32.2.2.2.2.2.2.2.2.2.2.1 rfl rfl ?_
                          refine X_icmp_ge hK 180 (by omega) (by omega) kd44_32.2.2.2.2.2.2.2.2.2.2.2 (by decide) (fun c2027 => ?_) (fun c2027 => ?_)
                          · refine X_iinc hK (i := 5) (z := z1827) (n := 1) 1 [(5, .int (iI (z1827 + 1))), (6, .int (iI z2013)), (4, .int (iI z5)), (0, .ref a0), (1, .int (iI x1)), (2, .int (iI x2)), (3, .int (iI x3))] kd44_36.2.2.1 rfl (by decide) rfl ?_
                            refine X_goto hK 105 kd44_36.2.2.2.1 (by decide) ?_
                            refine X_lv [(5, .int (iI (z1827 + 1))), (4, .int (iI z5)), (0, .ref a0), (1, .int (iI x1)), (2, .int (iI x2)), (3, .int (iI x3))] [0, 2, 3, 4, 5, 6] rfl ?_
                            exact ihP1933  g2014 (xM.tr (xM.tr xM.rf xLe.rf hg1828 (by decide)) xLe.rf hg2014 (by decide)) (z1827 + 1) (by omega) (by omega) (by omega)
                          · refine X_aloadn hK (i := 0) 3 kd44_33.1 rfl rfl ?_
                            refine X_getr hK 18100 64 fl_X12_153_13 hs_a0 sl_13_72 kd44_33.2.1 (fun b2028 eb2028 hs_b2028 => ?_)
                            refine X_bipush hK kd44_33.2.2.1 (by decide) ?_
                            refine X_iload hK (i := 5) 1 kd44_33.2.2.2.1 rfl ?_
                            refine X_imul hK kd44_33.2.2.2.2.1 ?_
                            refine X_iload hK (i := 6) 0 kd44_33.2.2.2.2.2.1 rfl ?_
                            refine X_iadd hK kd44_33.2.2.2.2.2.2.1 ?_
                            refine X_aloadn hK (i := 0) 3 kd44_33.2.2.2.2.2.2.2.1 rfl rfl ?_
                            refine X_getr hK 14100 420 fl_X12_7_13 hs_a0 sl_13_1 kd44_33.2.2.2.2.2.2.2.2.1 (fun b2029 eb2029 hs_b2029 => ?_)
                            refine X_iloadn hK (i := 1) 4 kd44_33.2.2.2.2.2.2.2.2.2.1 rfl rfl ?_
                            refine X_iload hK (i := 5) 1 kd44_33.2.2.2.2.2.2.2.2.2.2.1 rfl ?_
                            refine X_imul hK kd44_33.2.2.2.2.2.2.2.2.2.2.2 ?_
                            have hm2030 := xmulB (a := x1) (b := z1827) (A := 8) (B := 7) (by omega) (by omega) (by omega) (by omega)
                            refine X_iload hK (i := 6) 0 kd44_34.1 rfl ?_
                            refine X_iadd hK kd44_34.2.1 ?_
                            refine X_iald hK hs_b2029 (by decide) sl_14100 (by omega) (by omega) kd44_34.2.2.1 (fun z2031 ez2031 lz2031 uz2031 => ?_)
                            refine X_iast hK hs_b2028 (by decide) (by decide) sl_18100 (by omega) (by omega) (by omega) (by omega) kd44_34.2.2.2.1 (fun g2032 hg2032 => ?_)
                            refine X_aloadn hK (i := 0) 3 kd44_34.2.2.2.2.1 rfl rfl ?_
                            refine X_getr hK 18200 64 fl_X12_156_13 hs_a0 sl_13_73 kd44_34.2.2.2.2.2.1 (fun b2033 eb2033 hs_b2033 => ?_)
                            refine X_bipush hK kd44_34.2.2.2.2.2.2.1 (by decide) ?_
                            refine X_iload hK (i := 5) 1 kd44_34.2.2.2.2.2.2.2.1 rfl ?_
                            refine X_imul hK kd44_34.2.2.2.2.2.2.2.2.1 ?_
                            refine X_iload hK (i := 6) 0 kd44_34.2.2.2.2.2.2.2.2.2.1 rfl ?_
                            refine X_iadd hK kd44_34.2.2.2.2.2.2.2.2.2.2.1 ?_
                            refine X_aloadn hK (i := 0) 3 kd44_34.2.2.2.2.2.2.2.2.2.2.2 rfl rfl ?_
                            refine X_getK hK fl_X12_7_13 hs_a0 ((xs_a hg2032 (xne hs_a0 hs_b2028 (by decide))).trans eb2029) kd44_35.1 ?_
                            refine X_iloadn hK (i := 1) 4 kd44_35.2.1 rfl rfl ?_
                            refine X_iloadn hK (i := 1) 4 kd44_35.2.2.1 rfl rfl ?_
                            refine X_imul hK kd44_35.2.2.2.1 ?_
                            have hm2034 := xmulB (a := x1) (b := x1) (A := 8) (B := 8) (by omega) (by omega) (by omega) (by omega)
                            refine X_iloadn hK (i := 1) 4 kd44_35.2.2.2.2.1 rfl rfl ?_
                            refine X_iload hK (i := 5) 1 kd44_35.2.2.2.2.2.1 rfl ?_
                            refine X_imul hK kd44_35.2.2.2.2.2.2.1 ?_
                            have hm2035 := xmulB (a := x1) (b := z1827) (A := 8) (B := 7) (by omega) (by omega) (by omega) (by omega)
                            refine X_iadd hK kd44_35.2.2.2.2.2.2.2.1 ?_
                            refine X_iload hK (i := 6) 0 kd44_35.2.2.2.2.2.2.2.2.1 rfl ?_
                            refine X_iadd hK kd44_35.2.2.2.2.2.2.2.2.2.1 ?_
                            refine X_iald hK hs_b2029 (by decide) sl_14100 (by omega) (by omega) kd44_35.2.2.2.2.2.2.2.2.2.2.1 (fun z2036 ez2036 lz2036 uz2036 => ?_)
                            refine X_iast hK hs_b2033 (by decide) (by decide) sl_18200 (by omega) (by omega) (by omega) (by omega) kd44_35.2.2.2.2.2.2.2.2.2.2.2 (fun g2037 hg2037 => ?_)
                            refine X_iinc hK (i := 6) (z := z2013) (n := 1) 0 [(6, .int (iI (z2013 + 1))), (5, .int (iI z1827)), (4, .int (iI z5)), (0, .ref a0), (1, .int (iI x1)), (2, .int (iI x2)), (3, .int (iI x3))] kd44_36.1 rfl (by decide) rfl ?_
                            refine X_goto hK 114 kd44_36.2.1 (by decide) ?_
                            exact ihP2026  g2037 (xM_ua (xM_ua (xM.tr xM.rf xLe.rf hg2014 (by decide)) hg2032 hs_b2028 (by decide) (by decide)) hg2037 hs_b2033 (by decide) (by decide)) (z2013 + 1) (by omega) (by omega) (by omega)
                      exact P2026 ((24 - 0 : Int).toNat + 1) g1828 xM.rf 0 (by omega) (by omega) (by omega)
                exact P1933 ((24 - 0 : Int).toNat + 1) g1167 xM.rf 0 (by omega) (by omega) (by omega)
              · refine X_aloadn hK (i := 0) 2 kd44_30.2.2.2.2.2.2.2.2.1 rfl rfl ?_
                refine X_getr hK 18600 64 fl_X12_171_13 hs_a0 sl_13_80 kd44_30.2.2.2.2.2.2.2.2.2.1 (fun b2038 eb2038 hs_b2038 => ?_)
                refine X_iload hK (i := 5) 0 kd44_30.2.2.2.2.2.2.2.2.2.2.1 rfl ?_
                refine X_aloadn hK (i := 0) 2 kd44_30.2.2.2.2.2.2.2.2.2.2.2 rfl rfl ?_
                refine X_getr hK 18100 64 fl_X12_153_13 hs_a0 sl_13_72 kd44_31.1 (fun b2039 eb2039 hs_b2039 => ?_)
                refine X_iload hK (i := 5) 0 kd44_31.2.1 rfl ?_
                refine X_iald hK hs_b2039 (by decide) sl_18100 (by omega) (by omega) kd44_31.2.2.1 (fun z2040 ez2040 lz2040 uz2040 => ?_)
                refine X_iast hK hs_b2038 (by decide) (by decide) sl_18600 (by omega) (by omega) (by omega) (by omega) kd44_31.2.2.2.1 (fun g2041 hg2041 => ?_)
                refine X_aloadn hK (i := 0) 2 kd44_31.2.2.2.2.1 rfl rfl ?_
                refine X_getr hK 18700 64 fl_X12_174_13 hs_a0 sl_13_81 kd44_31.2.2.2.2.2.1 (fun b2042 eb2042 hs_b2042 => ?_)
                refine X_iload hK (i := 5) 0 kd44_31.2.2.2.2.2.2.1 rfl ?_
                refine X_aloadn hK (i := 0) 2 kd44_31.2.2.2.2.2.2.2.1 rfl rfl ?_
                refine X_getr hK 18200 64 fl_X12_156_13 hs_a0 sl_13_73 kd44_31.2.2.2.2.2.2.2.2.1 (fun b2043 eb2043 hs_b2043 => ?_)
                refine X_iload hK (i := 5) 0 kd44_31.2.2.2.2.2.2.2.2.2.1 rfl ?_
                refine X_iald hK hs_b2043 (by decide) sl_18200 (by omega) (by omega) kd44_31.2.2.2.2.2.2.2.2.2.2.1 (fun z2044 ez2044 lz2044 uz2044 => ?_)
                refine X_iast hK hs_b2042 (by decide) (by decide) sl_18700 (by omega) (by omega) (by omega) (by omega) kd44_31.2.2.2.2.2.2.2.2.2.2.2 (fun g2045 hg2045 => ?_)
                refine X_iinc hK (i := 5) (z := z1166) (n := 1) 0 [(5, .int (iI (z1166 + 1))), (4, .int (iI z5)), (0, .ref a0), (1, .int (iI x1)), (2, .int (iI x2)), (3, .int (iI x3))] kd44_32.1 rfl (by decide) rfl ?_
                refine X_goto hK 61 kd44_32.2.1 (by decide) ?_
                exact ihP1324  g2045 (xM_ua (xM_ua (xM.tr xM.rf xLe.rf hg1167 (by decide)) hg2041 hs_b2038 (by decide) (by decide)) hg2045 hs_b2042 (by decide) (by decide)) (z1166 + 1) (by omega) (by omega) (by omega)
          exact P1324 ((80 - 0 : Int).toNat + 1) g3 xM.rf 0 (by omega) (by omega) (by omega)
        · refine X_iloadn hK (i := 3) 4 kd44_29.2.2.2.2.2.2.2.2.1 rfl rfl ?_
          refine X_iconst hK kd44_29.2.2.2.2.2.2.2.2.2.1 ?_
          refine X_sipush hK kd44_29.2.2.2.2.2.2.2.2.2.2.1 (by decide) ?_
          refine X_callS hK [.int (iI x3), .int (iI 1), .int (iI 255)] [] lk_X12_211 (c_X12_isIn _ _ _ _ _ S g3 x3 1 255 (by omega) (by omega) (by omega)) kd44_29.2.2.2.2.2.2.2.2.2.2.2 rfl rfl (by simp [Value.category]) (by decide) (by decide) (by decide) (by decide) (fun r2046 S2048 g2047 pr2046 qr2046 hg2047 => ?_)
          obtain ⟨rfl, rfl, z2049, rfl, lz2049, uz2049, k2050⟩ := pr2046
          refine X_st [.int (iI z2049)] rfl ?_
          refine X_if_ne hK 58 (by omega) kd44_30.1 (by decide) (fun c2051 => ?_) (fun c2051 => ?_)
          · refine X_iconst hK kd44_30.2.2.2.1 ?_
            refine X_istore hK (i := 5) [(5, .int (iI 0)), (4, .int (iI z5)), (0, .ref a0), (1, .int (iI x1)), (2, .int (iI x2)), (3, .int (iI x3))] kd44_30.2.2.2.2.1 (by decide) rfl ?_
            have P2310 : ∀ (nP2310 : Nat) (g2053 : xG) (_ : xM [(18700, 0), (18600, 0)] S g3 g2053) (z2052 : Int) (_ : 0 ≤ z2052) (_ : z2052 ≤ 64) (_ : 80 - z2052 < (nP2310 : Int)), X K E 61 [(5, .int (iI z2052)), (4, .int (iI z5)), (0, .ref a0), (1, .int (iI x1)), (2, .int (iI x2)), (3, .int (iI x3))] [] S g2053 0 0 := by
              intro nP2310
              induction nP2310 with
              | zero => intro g2053 hg2053 z2052 lz2052 uz2052 mP2310; exact False.elim (by omega)
              | succ nP2310 ihP2310 =>
                intro g2053 hg2053 z2052 lz2052 uz2052 mP2310
                refine X_iload hK (i := 5) 0 kd44_30.2.2.2.2.2.1 rfl ?_
                refine X_bipush hK kd44_30.2.2.2.2.2.2.1 (by decide) ?_
                refine X_icmp_ge hK 102 (by omega) (by omega) kd44_30.2.2.2.2.2.2.2.1 (by decide) (fun c2311 => ?_) (fun c2311 => ?_)
                · refine X_iconst hK kd44_32.2.2.1 ?_
                  refine X_istore hK (i := 5) [(5, .int (iI 0)), (4, .int (iI z5)), (0, .ref a0), (1, .int (iI x1)), (2, .int (iI x2)), (3, .int (iI x3))] kd44_32.2.2.2.1 (by decide) rfl ?_
                  have P2441 : ∀ (nP2441 : Nat) (g2313 : xG) (_ : xM [(18200, 0), (18100, 0)] S g2053 g2313) (z2312 : Int) (_ : 0 ≤ z2312) (_ : z2312 ≤ 8) (_ : 24 - z2312 < (nP2441 : Int)), X K E 105 [(5, .int (iI z2312)), (4, .int (iI z5)), (0, .ref a0), (1, .int (iI x1)), (2, .int (iI x2)), (3, .int (iI x3))] [] S g2313 0 0 := by
                    intro nP2441
                    induction nP2441 with
                    | zero => intro g2313 hg2313 z2312 lz2312 uz2312 mP2441; exact False.elim (by omega)
                    | succ nP2441 ihP2441 =>
                      intro g2313 hg2313 z2312 lz2312 uz2312 mP2441
                      refine X_iload hK (i := 5) 0 kd44_32.2.2.2.2.1 rfl ?_
                      refine X_iloadn hK (i := 1) 3 kd44_32.2.2.2.2.2.1 rfl rfl ?_
                      refine X_icmp_ge hK 186 (by omega) (by omega) kd44_32.2.2.2.2.2.2.1 (by decide) (fun c2442 => ?_) (fun c2442 => ?_)
                      · refine X_iloadn hK (i := 2) 4 kd44_36.2.2.2.2.1 rfl rfl ?_
                        refine X_if_ne hK 198 (by omega) kd44_36.2.2.2.2.2.1 (by decide) (fun c2443 => ?_) (fun c2443 => False.elim (by omega))
                        refine X_aloadn hK (i := 0) 2 kd44_36.2.2.2.2.2.2.2.2.2.2.1 rfl rfl ?_
                        refine X_iloadn hK (i := 1) 3 kd44_36.2.2.2.2.2.2.2.2.2.2.2 rfl rfl ?_
                        refine X_iloadn hK (i := 3) 5 kd44_37.1 rfl rfl ?_
                        refine X_knowr 18400 8 hs_a0 (by decide) sl_13_75 (fun b2444 eb2444 hs_b2444 => ?_)
                        refine X_callV hK [.int (iI x1), .int (iI x3)] [] lk_X12_456 (c_X12_seek _ _ _ _ _ S g2313 a0 x1 x3 h8 b2444 hs_a0 (by omega) (by omega) ((hg2313 a0 13 0 74 hs_a0 (by decide)).trans ((hg2053 a0 13 0 74 hs_a0 (by decide)).trans ((hg3 a0 13 0 74 hs_a0 (by decide)).trans ((xs_k hg1 (by decide)).trans hpi2)))) hs_h8 eb2444 hs_b2444) hs_a0 ⟨by decide, rfl⟩ kd44_37.2.1 rfl rfl (by simp [Value.category]) (by decide) (by decide) (by decide) (by decide) (fun r2445 S2447 g2446 pr2445 qr2445 hg2446 => ?_)
                        obtain ⟨rfl, z2448, rfl, lz2448, uz2448, k2449, k2450⟩ := pr2445
                        refine X_st [.int (iI z2448)] rfl ?_
                        refine X_if_ne hK 253 (by omega) kd44_37.2.2.1 (by decide) (fun c2451 => ?_) (fun c2451 => ?_)
                        · refine X_aloadn hK (i := 0) 2 kd44_39.2.2.2.2.1 rfl rfl ?_
                          refine X_iloadn hK (i := 1) 3 kd44_39.2.2.2.2.2.1 rfl rfl ?_
                          refine X_puti hK fl_X12_459_13 hs_a0 (by decide) sl_13_78 (by omega) (by omega) kd44_39.2.2.2.2.2.2.1 (fun g2452 hg2452 => ?_)
                          refine X_aloadn hK (i := 0) 2 kd44_39.2.2.2.2.2.2.2.1 rfl rfl ?_
                          refine X_iconst hK kd44_39.2.2.2.2.2.2.2.2.1 ?_
                          refine X_putz hK fl_X12_462_13 hs_a0 (by decide) sl_13_79 (by omega) (by omega) kd44_39.2.2.2.2.2.2.2.2.2.1 (fun g2453 hg2453 => ?_)
                          refine X_aloadn hK (i := 0) 2 kd44_39.2.2.2.2.2.2.2.2.2.2.1 rfl rfl ?_
                          refine X_getr hK 18100 64 fl_X12_153_13 hs_a0 sl_13_72 kd44_39.2.2.2.2.2.2.2.2.2.2.2 (fun b2454 eb2454 hs_b2454 => ?_)
                          refine X_aloadn hK (i := 0) 2 kd44_40.1 rfl rfl ?_
                          refine X_getK hK fl_X12_159_13 hs_a0 ((xs_k hg2453 (by decide)).trans ((xs_k hg2452 (by decide)).trans ((hg2446 a0 13 0 74 hs_a0 (by decide)).trans ((hg2313 a0 13 0 74 hs_a0 (by decide)).trans ((hg2053 a0 13 0 74 hs_a0 (by decide)).trans ((hg3 a0 13 0 74 hs_a0 (by decide)).trans ((xs_k hg1 (by decide)).trans hpi2))))))) kd44_40.2.1 ?_
                          refine X_iloadn hK (i := 1) 3 kd44_40.2.2.1 rfl rfl ?_
                          refine X_callS hK [.ref b2454, .ref h8, .int (iI x1)] [] lk_X12_441 (c_sumOf_h _ _ _ _ _ S g2453 b2454 h8 x1 hs_b2454 hs_h8 (by omega) (by rw [(Eq.trans (xv_a hg2453 (xne hs_h8 hs_a0 (by decide))) (xv_a hg2452 (xne hs_h8 hs_a0 (by decide))))]; exact (k2449 (by omega)))) kd44_40.2.2.2.1 rfl rfl (by simp [Value.category]) (by decide) (by decide) (by decide) (by decide) (fun r2455 S2457 g2456 pr2455 qr2455 hg2456 => ?_)
                          obtain ⟨rfl, rfl, z2458, rfl, lz2458, uz2458⟩ := pr2455
                          refine X_st [.int (iI z2458)] rfl ?_
                          exact hret _ _ _ _ _ _ _ kd44_40.2.2.2.2.1 ⟨rfl, z2458, rfl, (by omega), (by omega), (((xs_k hg2453 (by decide)).trans ((xs_k hg2452 (by decide)).trans ((hg2446 a0 13 0 2 hs_a0 (by decide)).trans ((hg2313 a0 13 0 2 hs_a0 (by decide)).trans ((hg2053 a0 13 0 2 hs_a0 (by decide)).trans k7))))).trans (by congr 2 <;> omega)), ⟨h8, x1, 1, hs_a0, ((xs_k hg2453 (by decide)).trans ((xs_k hg2452 (by decide)).trans ((hg2446 a0 13 0 74 hs_a0 (by decide)).trans ((hg2313 a0 13 0 74 hs_a0 (by decide)).trans ((hg2053 a0 13 0 74 hs_a0 (by decide)).trans ((hg3 a0 13 0 74 hs_a0 (by decide)).trans ((xs_k hg1 (by decide)).trans hpi2))))))), hs_h8, ((xs_k hg2453 (by decide)).trans (xs_s hg2452)), by omega, by omega, (xs_s hg2453), by omega, by omega, (fun _ => by rw [(Eq.trans (xv_a hg2453 (xne hs_h8 hs_a0 (by decide))) (xv_a hg2452 (xne hs_h8 hs_a0 (by decide))))]; exact (k2449 (by omega)))⟩⟩ (Nat.le_refl _) (Nat.le_refl _)
                        · refine X_iconst hK kd44_37.2.2.2.1 ?_
                          refine X_istore hK (i := 5) [(5, .int (iI 0)), (4, .int (iI z5)), (0, .ref a0), (1, .int (iI x1)), (2, .int (iI x2)), (3, .int (iI x3))] kd44_37.2.2.2.2.1 (by decide) rfl ?_
                          have P2524 : ∀ (nP2524 : Nat) (g2514 : xG) (_ : xM [(18200, 0), (18100, 0)] S g2446 g2514) (z2513 : Int) (_ : 0 ≤ z2513) (_ : z2513 ≤ 64) (_ : 80 - z2513 < (nP2524 : Int)), X K E 210 [(5, .int (iI z2513)), (4, .int (iI z5)), (0, .ref a0), (1, .int (iI x1)), (2, .int (iI x2)), (3, .int (iI x3))] [] S g2514 0 0 := by
                            intro nP2524
                            induction nP2524 with
                            | zero => intro g2514 hg2514 z2513 lz2513 uz2513 mP2524; exact False.elim (by omega)
                            | succ nP2524 ihP2524 =>
                              intro g2514 hg2514 z2513 lz2513 uz2513 mP2524
                              refine X_iload hK (i := 5) 0 kd44_37.2.2.2.2.2.1 rfl ?_
                              refine X_bipush hK kd44_37.2.2.2.2.2.2.1 (by decide) ?_
                              refine X_icmp_ge hK 251 (by omega) (by omega) kd44_37.2.2.2.2.2.2.2.1 (by decide) (fun c2525 => ?_) (fun c2525 => ?_)
                              · refine X_iconst hK kd44_39.2.2.1 ?_
                                exact hret _ _ _ _ _ _ _ kd44_39.2.2.2.1 ⟨rfl, (-1), rfl, (by omega), (by omega), (((hg2514 a0 13 0 2 hs_a0 (by decide)).trans ((hg2446 a0 13 0 2 hs_a0 (by decide)).trans ((hg2313 a0 13 0 2 hs_a0 (by decide)).trans ((hg2053 a0 13 0 2 hs_a0 (by decide)).trans k7)))).trans (by congr 2 <;> omega)), ⟨h8, n8, z8, hs_a0, ((hg2514 a0 13 0 74 hs_a0 (by decide)).trans ((hg2446 a0 13 0 74 hs_a0 (by decide)).trans ((hg2313 a0 13 0 74 hs_a0 (by decide)).trans ((hg2053 a0 13 0 74 hs_a0 (by decide)).trans ((hg3 a0 13 0 74 hs_a0 (by decide)).trans ((xs_k hg1 (by decide)).trans hpi2)))))), hs_h8, ((hg2514 a0 13 0 78 hs_a0 (by decide)).trans ((hg2446 a0 13 0 78 hs_a0 (by decide)).trans ((hg2313 a0 13 0 78 hs_a0 (by decide)).trans ((hg2053 a0 13 0 78 hs_a0 (by decide)).trans ((hg3 a0 13 0 78 hs_a0 (by decide)).trans ((xs_k hg1 (by decide)).trans hpi4)))))), by omega, by omega, ((hg2514 a0 13 0 79 hs_a0 (by decide)).trans ((hg2446 a0 13 0 79 hs_a0 (by decide)).trans ((hg2313 a0 13 0 79 hs_a0 (by decide)).trans ((hg2053 a0 13 0 79 hs_a0 (by decide)).trans ((hg3 a0 13 0 79 hs_a0 (by decide)).trans ((xs_k hg1 (by decide)).trans hpi7)))))), by omega, by omega, (fun h9 => by rw [(xv_m hg2514 hs_h8 (by decide) (by decide)), (k2450 (by omega)), (xv_m hg2313 hs_h8 (by decide) (by decide)), (xv_m hg2053 hs_h8 (by decide) (by decide)), (xv_m hg3 hs_h8 (by decide) (by decide)), (xv_a hg1 (xne hs_h8 hs_a0 (by decide)))]; exact hpi10 h9)⟩⟩ (Nat.le_refl _) (Nat.le_refl _)
                              · refine X_aloadn hK (i := 0) 2 kd44_37.2.2.2.2.2.2.2.2.1 rfl rfl ?_
                                refine X_getr hK 18100 64 fl_X12_153_13 hs_a0 sl_13_72 kd44_37.2.2.2.2.2.2.2.2.2.1 (fun b2526 eb2526 hs_b2526 => ?_)
                                refine X_iload hK (i := 5) 0 kd44_37.2.2.2.2.2.2.2.2.2.2.1 rfl ?_
                                refine X_aloadn hK (i := 0) 2 kd44_37.2.2.2.2.2.2.2.2.2.2.2 rfl rfl ?_
                                refine X_getr hK 18600 64 fl_X12_171_13 hs_a0 sl_13_80 kd44_38.1 (fun b2527 eb2527 hs_b2527 => ?_)
                                refine X_iload hK (i := 5) 0 kd44_38.2.1 rfl ?_
                                refine X_iald hK hs_b2527 (by decide) sl_18600 (by omega) (by omega) kd44_38.2.2.1 (fun z2528 ez2528 lz2528 uz2528 => ?_)
                                refine X_iast hK hs_b2526 (by decide) (by decide) sl_18100 (by omega) (by omega) (by omega) (by omega) kd44_38.2.2.2.1 (fun g2529 hg2529 => ?_)
                                refine X_aloadn hK (i := 0) 2 kd44_38.2.2.2.2.1 rfl rfl ?_
                                refine X_getr hK 18200 64 fl_X12_156_13 hs_a0 sl_13_73 kd44_38.2.2.2.2.2.1 (fun b2530 eb2530 hs_b2530 => ?_)
                                refine X_iload hK (i := 5) 0 kd44_38.2.2.2.2.2.2.1 rfl ?_
                                refine X_aloadn hK (i := 0) 2 kd44_38.2.2.2.2.2.2.2.1 rfl rfl ?_
                                refine X_getr hK 18700 64 fl_X12_174_13 hs_a0 sl_13_81 kd44_38.2.2.2.2.2.2.2.2.1 (fun b2531 eb2531 hs_b2531 => ?_)
                                refine X_iload hK (i := 5) 0 kd44_38.2.2.2.2.2.2.2.2.2.1 rfl ?_
                                refine X_iald hK hs_b2531 (by decide) sl_18700 (by omega) (by omega) kd44_38.2.2.2.2.2.2.2.2.2.2.1 (fun z2532 ez2532 lz2532 uz2532 => ?_)
                                refine X_iast hK hs_b2530 (by decide) (by decide) sl_18200 (by omega) (by omega) (by omega) (by omega) kd44_38.2.2.2.2.2.2.2.2.2.2.2 (fun g2533 hg2533 => ?_)
                                refine X_iinc hK (i := 5) (z := z2513) (n := 1) 0 [(5, .int (iI (z2513 + 1))), (4, .int (iI z5)), (0, .ref a0), (1, .int (iI x1)), (2, .int (iI x2)), (3, .int (iI x3))] kd44_39.1 rfl (by decide) rfl ?_
                                refine X_goto hK 210 kd44_39.2.1 (by decide) ?_
                                exact ihP2524  g2533 (xM_ua (xM_ua (xM.tr xM.rf xLe.rf hg2514 (by decide)) hg2529 hs_b2526 (by decide) (by decide)) hg2533 hs_b2530 (by decide) (by decide)) (z2513 + 1) (by omega) (by omega) (by omega)
                          exact P2524 ((80 - 0 : Int).toNat + 1) g2446 xM.rf 0 (by omega) (by omega) (by omega)
                      · refine X_iconst hK kd44_32.2.2.2.2.2.2.2.1 ?_
                        refine X_istore hK (i := 6) [(6, .int (iI 0)), (5, .int (iI z2312)), (4, .int (iI z5)), (0, .ref a0), (1, .int (iI x1)), (2, .int (iI x2)), (3, .int (iI x3))] kd44_32.2.2.2.2.2.2.2.2.1 (by decide) rfl ?_
                        have P2611 : ∀ (nP2611 : Nat) (g2599 : xG) (_ : xM [(18200, 0), (18100, 0)] S g2313 g2599) (z2598 : Int) (_ : 0 ≤ z2598) (_ : z2598 ≤ 8) (_ : 24 - z2598 < (nP2611 : Int)), X K E 114 [(6, .int (iI z2598)), (5, .int (iI z2312)), (4, .int (iI z5)), (0, .ref a0), (1, .int (iI x1)), (2, .int (iI x2)), (3, .int (iI x3))] [] S g2599 0 0 := by
                          intro nP2611
                          induction nP2611 with
                          | zero => intro g2599 hg2599 z2598 lz2598 uz2598 mP2611; exact False.elim (by omega)
                          | succ nP2611 ihP2611 =>
                            intro g2599 hg2599 z2598 lz2598 uz2598 mP2611
                            refine X_iload hK (i := 6) 0 kd44_32.2.2.2.2.2.2.2.2.2.1 rfl ?_
                            refine X_iloadn hK (i := 1) 4 kd44_32.2.2.2.2.2.2.2.2.2.2.1 rfl rfl ?_
                            refine X_icmp_ge hK 180 (by omega) (by omega) kd44_32.2.2.2.2.2.2.2.2.2.2.2 (by decide) (fun c2612 => ?_) (fun c2612 => ?_)
                            · refine X_iinc hK (i := 5) (z := z2312) (n := 1) 1 [(5, .int (iI (z2312 + 1))), (6, .int (iI z2598)), (4, .int (iI z5)), (0, .ref a0), (1, .int (iI x1)), (2, .int (iI x2)), (3, .int (iI x3))] kd44_36.2.2.1 rfl (by decide) rfl ?_
                              refine X_goto hK 105 kd44_36.2.2.2.1 (by decide) ?_
                              refine X_lv [(5, .int (iI (z2312 + 1))), (4, .int (iI z5)), (0, .ref a0), (1, .int (iI x1)), (2, .int (iI x2)), (3, .int (iI x3))] [0, 2, 3, 4, 5, 6] rfl ?_
                              exact ihP2441  g2599 (xM.tr (xM.tr xM.rf xLe.rf hg2313 (by decide)) xLe.rf hg2599 (by decide)) (z2312 + 1) (by omega) (by omega) (by omega)
                            · refine X_aloadn hK (i := 0) 3 kd44_33.1 rfl rfl ?_
                              refine X_getr hK 18100 64 fl_X12_153_13 hs_a0 sl_13_72 kd44_33.2.1 (fun b2613 eb2613 hs_b2613 => ?_)
                              refine X_bipush hK kd44_33.2.2.1 (by decide) ?_
                              refine X_iload hK (i := 5) 1 kd44_33.2.2.2.1 rfl ?_
                              refine X_imul hK kd44_33.2.2.2.2.1 ?_
                              refine X_iload hK (i := 6) 0 kd44_33.2.2.2.2.2.1 rfl ?_
                              refine X_iadd hK kd44_33.2.2.2.2.2.2.1 ?_
                              refine X_aloadn hK (i := 0) 3 kd44_33.2.2.2.2.2.2.2.1 rfl rfl ?_
                              refine X_getr hK 14100 420 fl_X12_7_13 hs_a0 sl_13_1 kd44_33.2.2.2.2.2.2.2.2.1 (fun b2614 eb2614 hs_b2614 => ?_)
                              refine X_iloadn hK (i := 1) 4 kd44_33.2.2.2.2.2.2.2.2.2.1 rfl rfl ?_
                              refine X_iload hK (i := 5) 1 kd44_33.2.2.2.2.2.2.2.2.2.2.1 rfl ?_
                              refine X_imul hK kd44_33.2.2.2.2.2.2.2.2.2.2.2 ?_
                              have hm2615 := xmulB (a := x1) (b := z2312) (A := 8) (B := 7) (by omega) (by omega) (by omega) (by omega)
                              refine X_iload hK (i := 6) 0 kd44_34.1 rfl ?_
                              refine X_iadd hK kd44_34.2.1 ?_
                              refine X_iald hK hs_b2614 (by decide) sl_14100 (by omega) (by omega) kd44_34.2.2.1 (fun z2616 ez2616 lz2616 uz2616 => ?_)
                              refine X_iast hK hs_b2613 (by decide) (by decide) sl_18100 (by omega) (by omega) (by omega) (by omega) kd44_34.2.2.2.1 (fun g2617 hg2617 => ?_)
                              refine X_aloadn hK (i := 0) 3 kd44_34.2.2.2.2.1 rfl rfl ?_
                              refine X_getr hK 18200 64 fl_X12_156_13 hs_a0 sl_13_73 kd44_34.2.2.2.2.2.1 (fun b2618 eb2618 hs_b2618 => ?_)
                              refine X_bipush hK kd44_34.2.2.2.2.2.2.1 (by decide) ?_
                              refine X_iload hK (i := 5) 1 kd44_34.2.2.2.2.2.2.2.1 rfl ?_
                              refine X_imul hK kd44_34.2.2.2.2.2.2.2.2.1 ?_
                              refine X_iload hK (i := 6) 0 kd44_34.2.2.2.2.2.2.2.2.2.1 rfl ?_
                              refine X_iadd hK kd44_34.2.2.2.2.2.2.2.2.2.2.1 ?_
                              refine X_aloadn hK (i := 0) 3 kd44_34.2.2.2.2.2.2.2.2.2.2.2 rfl rfl ?_
                              refine X_getK hK fl_X12_7_13 hs_a0 ((xs_a hg2617 (xne hs_a0 hs_b2613 (by decide))).trans eb2614) kd44_35.1 ?_
                              refine X_iloadn hK (i := 1) 4 kd44_35.2.1 rfl rfl ?_
                              refine X_iloadn hK (i := 1) 4 kd44_35.2.2.1 rfl rfl ?_
                              refine X_imul hK kd44_35.2.2.2.1 ?_
                              have hm2619 := xmulB (a := x1) (b := x1) (A := 8) (B := 8) (by omega) (by omega) (by omega) (by omega)
                              refine X_iloadn hK (i := 1) 4 kd44_35.2.2.2.2.1 rfl rfl ?_
                              refine X_iload hK (i := 5) 1 kd44_35.2.2.2.2.2.1 rfl ?_
                              refine X_imul hK kd44_35.2.2.2.2.2.2.1 ?_
                              have hm2620 := xmulB (a := x1) (b := z2312) (A := 8) (B := 7) (by omega) (by omega) (by omega) (by omega)
                              refine X_iadd hK kd44_35.2.2.2.2.2.2.2.1 ?_
                              refine X_iload hK (i := 6) 0 kd44_35.2.2.2.2.2.2.2.2.1 rfl ?_
                              refine X_iadd hK kd44_35.2.2.2.2.2.2.2.2.2.1 ?_
                              refine X_iald hK hs_b2614 (by decide) sl_14100 (by omega) (by omega) kd44_35.2.2.2.2.2.2.2.2.2.2.1 (fun z2621 ez2621 lz2621 uz2621 => ?_)
                              refine X_iast hK hs_b2618 (by decide) (by decide) sl_18200 (by omega) (by omega) (by omega) (by omega) kd44_35.2.2.2.2.2.2.2.2.2.2.2 (fun g2622 hg2622 => ?_)
                              refine X_iinc hK (i := 6) (z := z2598) (n := 1) 0 [(6, .int (iI (z2598 + 1))), (5, .int (iI z2312)), (4, .int (iI z5)), (0, .ref a0), (1, .int (iI x1)), (2, .int (iI x2)), (3, .int (iI x3))] kd44_36.1 rfl (by decide) rfl ?_
                              refine X_goto hK 114 kd44_36.2.1 (by decide) ?_
                              exact ihP2611  g2622 (xM_ua (xM_ua (xM.tr xM.rf xLe.rf hg2599 (by decide)) hg2617 hs_b2613 (by decide) (by decide)) hg2622 hs_b2618 (by decide) (by decide)) (z2598 + 1) (by omega) (by omega) (by omega)
                        exact P2611 ((24 - 0 : Int).toNat + 1) g2313 xM.rf 0 (by omega) (by omega) (by omega)
                  exact P2441 ((24 - 0 : Int).toNat + 1) g2053 xM.rf 0 (by omega) (by omega) (by omega)
                · refine X_aloadn hK (i := 0) 2 kd44_30.2.2.2.2.2.2.2.2.1 rfl rfl ?_
                  refine X_getr hK 18600 64 fl_X12_171_13 hs_a0 sl_13_80 kd44_30.2.2.2.2.2.2.2.2.2.1 (fun b2623 eb2623 hs_b2623 => ?_)
                  refine X_iload hK (i := 5) 0 kd44_30.2.2.2.2.2.2.2.2.2.2.1 rfl ?_
                  refine X_aloadn hK (i := 0) 2 kd44_30.2.2.2.2.2.2.2.2.2.2.2 rfl rfl ?_
                  refine X_getr hK 18100 64 fl_X12_153_13 hs_a0 sl_13_72 kd44_31.1 (fun b2624 eb2624 hs_b2624 => ?_)
                  refine X_iload hK (i := 5) 0 kd44_31.2.1 rfl ?_
                  refine X_iald hK hs_b2624 (by decide) sl_18100 (by omega) (by omega) kd44_31.2.2.1 (fun z2625 ez2625 lz2625 uz2625 => ?_)
                  refine X_iast hK hs_b2623 (by decide) (by decide) sl_18600 (by omega) (by omega) (by omega) (by omega) kd44_31.2.2.2.1 (fun g2626 hg2626 => ?_)
                  refine X_aloadn hK (i := 0) 2 kd44_31.2.2.2.2.1 rfl rfl ?_
                  refine X_getr hK 18700 64 fl_X12_174_13 hs_a0 sl_13_81 kd44_31.2.2.2.2.2.1 (fun b2627 eb2627 hs_b2627 => ?_)
                  refine X_iload hK (i := 5) 0 kd44_31.2.2.2.2.2.2.1 rfl ?_
                  refine X_aloadn hK (i := 0) 2 kd44_31.2.2.2.2.2.2.2.1 rfl rfl ?_
                  refine X_getr hK 18200 64 fl_X12_156_13 hs_a0 sl_13_73 kd44_31.2.2.2.2.2.2.2.2.1 (fun b2628 eb2628 hs_b2628 => ?_)
                  refine X_iload hK (i := 5) 0 kd44_31.2.2.2.2.2.2.2.2.2.1 rfl ?_
                  refine X_iald hK hs_b2628 (by decide) sl_18200 (by omega) (by omega) kd44_31.2.2.2.2.2.2.2.2.2.2.1 (fun z2629 ez2629 lz2629 uz2629 => ?_)
                  refine X_iast hK hs_b2627 (by decide) (by decide) sl_18700 (by omega) (by omega) (by omega) (by omega) kd44_31.2.2.2.2.2.2.2.2.2.2.2 (fun g2630 hg2630 => ?_)
                  refine X_iinc hK (i := 5) (z := z2052) (n := 1) 0 [(5, .int (iI (z2052 + 1))), (4, .int (iI z5)), (0, .ref a0), (1, .int (iI x1)), (2, .int (iI x2)), (3, .int (iI x3))] kd44_32.1 rfl (by decide) rfl ?_
                  refine X_goto hK 61 kd44_32.2.1 (by decide) ?_
                  exact ihP2310  g2630 (xM_ua (xM_ua (xM.tr xM.rf xLe.rf hg2053 (by decide)) hg2626 hs_b2623 (by decide) (by decide)) hg2630 hs_b2627 (by decide) (by decide)) (z2052 + 1) (by omega) (by omega) (by omega)
            exact P2310 ((80 - 0 : Int).toNat + 1) g3 xM.rf 0 (by omega) (by omega) (by omega)
          · refine X_iconst hK kd44_30.2.1 ?_
            exact hret _ _ _ _ _ _ _ kd44_30.2.2.1 ⟨rfl, (-1), rfl, (by omega), (by omega), (k7.trans (by congr 2 <;> omega)), ⟨h8, n8, z8, hs_a0, ((hg3 a0 13 0 74 hs_a0 (by decide)).trans ((xs_k hg1 (by decide)).trans hpi2)), hs_h8, ((hg3 a0 13 0 78 hs_a0 (by decide)).trans ((xs_k hg1 (by decide)).trans hpi4)), by omega, by omega, ((hg3 a0 13 0 79 hs_a0 (by decide)).trans ((xs_k hg1 (by decide)).trans hpi7)), by omega, by omega, (fun h9 => by rw [(xv_m hg3 hs_h8 (by decide) (by decide)), (xv_a hg1 (xne hs_h8 hs_a0 (by decide)))]; exact hpi10 h9)⟩⟩ (Nat.le_refl _) (Nat.le_refl _)

set_option maxHeartbeats 4000000 in
set_option maxRecDepth 100000 in
theorem c_X12_peace (l : Launch) (D : va_G) (kA : Nat → ClassId) (b0 : Nat) (t0 : Nat → Nat) (S : xT) (g : xG) (a0 : Nat) (x1 : Int) (hs_a0 : S a0 = some (13, 0)) (hx1 : (-2147483648) ≤ x1 ∧ x1 ≤ 2147483647) (hp0 : xMp S g a0) : xMt l yX12_peace cX12_peace 2 (some .int) 1 0 0 26 D kA b0 t0 [(13, 0)] [.ref a0, .int (iI x1)] S g (fun (r : Option Value) (S1 : xT) (g1 : xG) => S = S1 ∧ ∃ z : Int, r = some (.int (iI z)) ∧ (-1) ≤ z ∧ z ≤ 1) := by
  refine xEnterI (by decide) (by simp [lg_sl, Value.category]) [(0, .ref a0), (1, .int (iI x1))] rfl ?_
  intro K E hK hret _ _ _
  refine X_aloadn hK (i := 0) 0 kd44_40.2.2.2.2.2.1 rfl rfl ?_
  obtain ⟨h8, n8, z8, hpi1, hpi2, hs_h8, hpi4, hpi5, hpi6, hpi7, hpi8, hpi9, hpi10⟩ := hp0
  refine X_iconst hK kd44_40.2.2.2.2.2.2.1 ?_
  refine X_puti hK fl_X12_198_13 hs_a0 (by decide) sl_13_0 (by omega) (by omega) kd44_40.2.2.2.2.2.2.2.1 (fun g1 hg1 => ?_)
  refine X_aloadn hK (i := 0) 0 kd44_40.2.2.2.2.2.2.2.2.1 rfl rfl ?_
  refine X_getK hK fl_X12_462_13 hs_a0 ((xs_k hg1 (by decide)).trans hpi7) kd44_40.2.2.2.2.2.2.2.2.2.1 ?_
  refine X_if_eq hK 23 (by omega) kd44_40.2.2.2.2.2.2.2.2.2.2.1 (by decide) (fun c2 => ?_) (fun c2 => ?_)
  · refine X_iconst hK kd44_41.2.2.2.2.1 ?_
    exact hret _ _ _ _ _ _ _ kd44_41.2.2.2.2.2.1 ⟨rfl, (-1), rfl, (by omega), (by omega)⟩ (Nat.le_refl _) (Nat.le_refl _)
  · refine X_iloadn hK (i := 1) 1 kd44_40.2.2.2.2.2.2.2.2.2.2.2 rfl rfl ?_
    refine X_iconst hK kd44_41.1 ?_
    refine X_sipush hK kd44_41.2.1 (by decide) ?_
    refine X_callS hK [.int (iI x1), .int (iI 1), .int (iI 255)] [] lk_X12_211 (c_X12_isIn _ _ _ _ _ S g1 x1 1 255 (by omega) (by omega) (by omega)) kd44_41.2.2.1 rfl rfl (by simp [Value.category]) (by decide) (by decide) (by decide) (by decide) (fun r3 S5 g4 pr3 qr3 hg4 => ?_)
    obtain ⟨rfl, rfl, z6, rfl, lz6, uz6, k7⟩ := pr3
    refine X_st [.int (iI z6)] rfl ?_
    refine X_if_ne hK 25 (by omega) kd44_41.2.2.2.1 (by decide) (fun c8 => ?_) (fun c8 => ?_)
    · refine X_aloadn hK (i := 0) 0 kd44_41.2.2.2.2.2.2.1 rfl rfl ?_
      refine X_aloadn hK (i := 0) 0 kd44_41.2.2.2.2.2.2.2.1 rfl rfl ?_
      refine X_getK hK fl_X12_159_13 hs_a0 ((xs_k hg1 (by decide)).trans hpi2) kd44_41.2.2.2.2.2.2.2.2.1 ?_
      refine X_aloadn hK (i := 0) 0 kd44_41.2.2.2.2.2.2.2.2.2.1 rfl rfl ?_
      refine X_getK hK fl_X12_459_13 hs_a0 ((xs_k hg1 (by decide)).trans hpi4) kd44_41.2.2.2.2.2.2.2.2.2.2.1 ?_
      refine X_iloadn hK (i := 1) 1 kd44_41.2.2.2.2.2.2.2.2.2.2.2 rfl rfl ?_
      refine X_callV hK [.ref h8, .int (iI n8), .int (iI x1)] [] lk_X12_445 (c_mPeace_h _ _ _ _ _ S g1 a0 h8 n8 x1 hs_a0 hs_h8 (by omega) (by omega) (by rw [(xv_a hg1 (xne hs_h8 hs_a0 (by decide)))]; exact hpi10 (by omega))) hs_a0 ⟨by decide, rfl⟩ kd44_42.1 rfl rfl (by simp [Value.category]) (by decide) (by decide) (by decide) (by decide) (fun r9 S11 g10 pr9 qr9 hg10 => ?_)
      obtain ⟨rfl, rfl, z12, rfl, lz12, uz12⟩ := pr9
      refine X_st [.int (iI z12)] rfl ?_
      refine X_if_eq hK 45 (by omega) kd44_42.2.1 (by decide) (fun c13 => ?_) (fun c13 => ?_)
      · refine X_iconst hK kd44_42.2.2.2.2.1 ?_
        exact hret _ _ _ _ _ _ _ kd44_42.2.2.2.2.2.1 ⟨rfl, 0, rfl, (by omega), (by omega)⟩ (Nat.le_refl _) (Nat.le_refl _)
      · refine X_iconst hK kd44_42.2.2.1 ?_
        refine X_goto hK 46 kd44_42.2.2.2.1 (by decide) ?_
        exact hret _ _ _ _ _ _ _ kd44_42.2.2.2.2.2.1 ⟨rfl, 1, rfl, (by omega), (by omega)⟩ (Nat.le_refl _) (Nat.le_refl _)
    · refine X_iconst hK kd44_41.2.2.2.2.1 ?_
      exact hret _ _ _ _ _ _ _ kd44_41.2.2.2.2.2.1 ⟨rfl, (-1), rfl, (by omega), (by omega)⟩ (Nat.le_refl _) (Nat.le_refl _)
