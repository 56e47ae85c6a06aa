theorem m_10_1 : Cond.fieldLink RX12 153 "PaperBoysModel" "gain" "[I" ∈ wsL_law := ch_10 _ (List.mem_of_getElem? (i := 1) rfl)
theorem m_10_2 : Cond.fieldLink RX12 156 "PaperBoysModel" "might" "[I" ∈ wsL_law := ch_10 _ (List.mem_of_getElem? (i := 2) rfl)
theorem m_10_4 : Cond.fieldLink RX12 162 "PaperBoysModel" "tryHas" "[I" ∈ wsL_law := ch_10 _ (List.mem_of_getElem? (i := 4) rfl)
theorem m_10_5 : Cond.fieldLink RX12 165 "PaperBoysModel" "by" "[I" ∈ wsL_law := ch_10 _ (List.mem_of_getElem? (i := 5) rfl)
theorem m_10_6 : Cond.fieldLink RX12 168 "PaperBoysModel" "isSent" "[Z" ∈ wsL_law := ch_10 _ (List.mem_of_getElem? (i := 6) rfl)
theorem m_52_6 : Cond.methodLink RX12 441 yX12_sumOf ∈ wsL_law := ch_52 _ (List.mem_of_getElem? (i := 6) rfl)
theorem m_52_7 : Cond.static yX12_sumOf ∈ wsL_law := ch_52 _ (List.mem_of_getElem? (i := 7) rfl)
theorem m_52_8 : Cond.code yX12_sumOf cX12_sumOf 5 (some .int) ∈ wsL_law := ch_52 _ (List.mem_of_getElem? (i := 8) rfl)
theorem m_52_9 : Cond.methodLink RX12 445 yX12_hasPeace ∈ wsL_law := ch_52 _ (List.mem_of_getElem? (i := 9) rfl)
theorem m_52_10 : Cond.instanceMethod yX12_hasPeace ∈ wsL_law := ch_52 _ (List.mem_of_getElem? (i := 10) rfl)
theorem m_52_11 : Cond.selects RX12 yX12_hasPeace yX12_hasPeace ∈ wsL_law := ch_52 _ (List.mem_of_getElem? (i := 11) rfl)
theorem m_52_12 : Cond.code yX12_hasPeace cX12_hasPeace 7 (some .boolean) ∈ wsL_law := ch_52 _ (List.mem_of_getElem? (i := 12) rfl)
theorem m_52_13 : Cond.methodLink RX12 449 yX12_goOn ∈ wsL_law := ch_52 _ (List.mem_of_getElem? (i := 13) rfl)
theorem m_52_14 : Cond.static yX12_goOn ∈ wsL_law := ch_52 _ (List.mem_of_getElem? (i := 14) rfl)
theorem m_52_15 : Cond.code yX12_goOn cX12_goOn 7 (some .boolean) ∈ wsL_law := ch_52 _ (List.mem_of_getElem? (i := 15) rfl)
theorem kd45_0 : (decode cX12_goOn 0 = .ok (.iload_n 1, 1)) ∧ (decode cX12_goOn 1 = .ok (.iconst 2, 1)) ∧ (decode cX12_goOn 2 = .ok (.isub, 1)) ∧ (decode cX12_goOn 3 = .ok (.istore_n 2, 1)) ∧ (decode cX12_goOn 4 = .ok (.iload_n 2, 1)) ∧ (decode cX12_goOn 5 = .ok (.ifCond .lt 20, 3)) ∧ (decode cX12_goOn 8 = .ok (.aload_n 0, 1)) ∧ (decode cX12_goOn 9 = .ok (.iload_n 2, 1)) ∧ (decode cX12_goOn 10 = .ok (.iaload, 1)) ∧ (decode cX12_goOn 11 = .ok (.aload_n 0, 1)) ∧ (decode cX12_goOn 12 = .ok (.iload_n 2, 1)) ∧ (decode cX12_goOn 13 = .ok (.iconst 1, 1)) := by decide +kernel
theorem kd45_1 : (decode cX12_goOn 14 = .ok (.iadd, 1)) ∧ (decode cX12_goOn 15 = .ok (.iaload, 1)) ∧ (decode cX12_goOn 16 = .ok (.if_icmp .le 9, 3)) ∧ (decode cX12_goOn 19 = .ok (.iinc 2 (-1), 3)) ∧ (decode cX12_goOn 22 = .ok (.goto (-18), 3)) ∧ (decode cX12_goOn 25 = .ok (.iload_n 2, 1)) ∧ (decode cX12_goOn 26 = .ok (.ifCond .ge 5, 3)) ∧ (decode cX12_goOn 29 = .ok (.iconst 0, 1)) ∧ (decode cX12_goOn 30 = .ok (.ireturn, 1)) ∧ (decode cX12_goOn 31 = .ok (.iload_n 1, 1)) ∧ (decode cX12_goOn 32 = .ok (.iconst 1, 1)) ∧ (decode cX12_goOn 33 = .ok (.isub, 1)) := by decide +kernel
theorem kd45_2 : (decode cX12_goOn 34 = .ok (.istore_n 3, 1)) ∧ (decode cX12_goOn 35 = .ok (.aload_n 0, 1)) ∧ (decode cX12_goOn 36 = .ok (.iload_n 3, 1)) ∧ (decode cX12_goOn 37 = .ok (.iaload, 1)) ∧ (decode cX12_goOn 38 = .ok (.aload_n 0, 1)) ∧ (decode cX12_goOn 39 = .ok (.iload_n 2, 1)) ∧ (decode cX12_goOn 40 = .ok (.iaload, 1)) ∧ (decode cX12_goOn 41 = .ok (.if_icmp .ge 9, 3)) ∧ (decode cX12_goOn 44 = .ok (.iinc 3 (-1), 3)) ∧ (decode cX12_goOn 47 = .ok (.goto (-12), 3)) ∧ (decode cX12_goOn 50 = .ok (.aload_n 0, 1)) ∧ (decode cX12_goOn 51 = .ok (.iload_n 2, 1)) := by decide +kernel
theorem kd45_3 : (decode cX12_goOn 52 = .ok (.iaload, 1)) ∧ (decode cX12_goOn 53 = .ok (.istore 4, 2)) ∧ (decode cX12_goOn 55 = .ok (.aload_n 0, 1)) ∧ (decode cX12_goOn 56 = .ok (.iload_n 2, 1)) ∧ (decode cX12_goOn 57 = .ok (.aload_n 0, 1)) ∧ (decode cX12_goOn 58 = .ok (.iload_n 3, 1)) ∧ (decode cX12_goOn 59 = .ok (.iaload, 1)) ∧ (decode cX12_goOn 60 = .ok (.iastore, 1)) ∧ (decode cX12_goOn 61 = .ok (.aload_n 0, 1)) ∧ (decode cX12_goOn 62 = .ok (.iload_n 3, 1)) ∧ (decode cX12_goOn 63 = .ok (.iload 4, 2)) ∧ (decode cX12_goOn 65 = .ok (.iastore, 1)) := by decide +kernel
theorem kd45_4 : (decode cX12_goOn 66 = .ok (.iload_n 2, 1)) ∧ (decode cX12_goOn 67 = .ok (.iconst 1, 1)) ∧ (decode cX12_goOn 68 = .ok (.iadd, 1)) ∧ (decode cX12_goOn 69 = .ok (.istore 5, 2)) ∧ (decode cX12_goOn 71 = .ok (.iload_n 1, 1)) ∧ (decode cX12_goOn 72 = .ok (.iconst 1, 1)) ∧ (decode cX12_goOn 73 = .ok (.isub, 1)) ∧ (decode cX12_goOn 74 = .ok (.istore 6, 2)) ∧ (decode cX12_goOn 76 = .ok (.iload 5, 2)) ∧ (decode cX12_goOn 78 = .ok (.iload 6, 2)) ∧ (decode cX12_goOn 80 = .ok (.if_icmp .ge 32, 3)) ∧ (decode cX12_goOn 83 = .ok (.aload_n 0, 1)) := by decide +kernel
theorem kd45_5 : (decode cX12_goOn 84 = .ok (.iload 5, 2)) ∧ (decode cX12_goOn 86 = .ok (.iaload, 1)) ∧ (decode cX12_goOn 87 = .ok (.istore 4, 2)) ∧ (decode cX12_goOn 89 = .ok (.aload_n 0, 1)) ∧ (decode cX12_goOn 90 = .ok (.iload 5, 2)) ∧ (decode cX12_goOn 92 = .ok (.aload_n 0, 1)) ∧ (decode cX12_goOn 93 = .ok (.iload 6, 2)) ∧ (decode cX12_goOn 95 = .ok (.iaload, 1)) ∧ (decode cX12_goOn 96 = .ok (.iastore, 1)) ∧ (decode cX12_goOn 97 = .ok (.aload_n 0, 1)) ∧ (decode cX12_goOn 98 = .ok (.iload 6, 2)) ∧ (decode cX12_goOn 100 = .ok (.iload 4, 2)) := by decide +kernel
theorem kd45_6 : (decode cX12_goOn 102 = .ok (.iastore, 1)) ∧ (decode cX12_goOn 103 = .ok (.iinc 5 1, 3)) ∧ (decode cX12_goOn 106 = .ok (.iinc 6 (-1), 3)) ∧ (decode cX12_goOn 109 = .ok (.goto (-33), 3)) ∧ (decode cX12_goOn 112 = .ok (.iconst 1, 1)) ∧ (decode cX12_goOn 113 = .ok (.ireturn, 1)) ∧ (decode cX12_hasPeace 0 = .ok (.iconst 0, 1)) ∧ (decode cX12_hasPeace 1 = .ok (.istore 4, 2)) ∧ (decode cX12_hasPeace 3 = .ok (.iload 4, 2)) ∧ (decode cX12_hasPeace 5 = .ok (.iload_n 2, 1)) ∧ (decode cX12_hasPeace 6 = .ok (.if_icmp .ge 104, 3)) ∧ (decode cX12_hasPeace 9 = .ok (.iconst 0, 1)) := by decide +kernel
theorem kd45_7 : (decode cX12_hasPeace 10 = .ok (.istore 5, 2)) ∧ (decode cX12_hasPeace 12 = .ok (.iload 5, 2)) ∧ (decode cX12_hasPeace 14 = .ok (.iload_n 2, 1)) ∧ (decode cX12_hasPeace 15 = .ok (.if_icmp .ge 89, 3)) ∧ (decode cX12_hasPeace 18 = .ok (.iload 5, 2)) ∧ (decode cX12_hasPeace 20 = .ok (.iload 4, 2)) ∧ (decode cX12_hasPeace 22 = .ok (.if_icmp .ne 6, 3)) ∧ (decode cX12_hasPeace 25 = .ok (.goto 73, 3)) ∧ (decode cX12_hasPeace 28 = .ok (.aload_n 1, 1)) ∧ (decode cX12_hasPeace 29 = .ok (.iload 5, 2)) ∧ (decode cX12_hasPeace 31 = .ok (.iaload, 1)) ∧ (decode cX12_hasPeace 32 = .ok (.istore 6, 2)) := by decide +kernel
theorem kd45_8 : (decode cX12_hasPeace 34 = .ok (.aload_n 0, 1)) ∧ (decode cX12_hasPeace 35 = .ok (.getfield 153, 3)) ∧ (decode cX12_hasPeace 38 = .ok (.bipush 8, 2)) ∧ (decode cX12_hasPeace 40 = .ok (.iload 4, 2)) ∧ (decode cX12_hasPeace 42 = .ok (.imul, 1)) ∧ (decode cX12_hasPeace 43 = .ok (.iload 6, 2)) ∧ (decode cX12_hasPeace 45 = .ok (.iadd, 1)) ∧ (decode cX12_hasPeace 46 = .ok (.iaload, 1)) ∧ (decode cX12_hasPeace 47 = .ok (.aload_n 0, 1)) ∧ (decode cX12_hasPeace 48 = .ok (.getfield 153, 3)) ∧ (decode cX12_hasPeace 51 = .ok (.bipush 8, 2)) ∧ (decode cX12_hasPeace 53 = .ok (.iload 4, 2)) := by decide +kernel
theorem kd45_9 : (decode cX12_hasPeace 55 = .ok (.imul, 1)) ∧ (decode cX12_hasPeace 56 = .ok (.aload_n 1, 1)) ∧ (decode cX12_hasPeace 57 = .ok (.iload 4, 2)) ∧ (decode cX12_hasPeace 59 = .ok (.iaload, 1)) ∧ (decode cX12_hasPeace 60 = .ok (.iadd, 1)) ∧ (decode cX12_hasPeace 61 = .ok (.iaload, 1)) ∧ (decode cX12_hasPeace 62 = .ok (.iload_n 3, 1)) ∧ (decode cX12_hasPeace 63 = .ok (.iadd, 1)) ∧ (decode cX12_hasPeace 64 = .ok (.if_icmp .lt 34, 3)) ∧ (decode cX12_hasPeace 67 = .ok (.aload_n 0, 1)) ∧ (decode cX12_hasPeace 68 = .ok (.getfield 156, 3)) ∧ (decode cX12_hasPeace 71 = .ok (.bipush 8, 2)) := by decide +kernel
theorem kd45_10 : (decode cX12_hasPeace 73 = .ok (.iload 4, 2)) ∧ (decode cX12_hasPeace 75 = .ok (.imul, 1)) ∧ (decode cX12_hasPeace 76 = .ok (.iload 6, 2)) ∧ (decode cX12_hasPeace 78 = .ok (.iadd, 1)) ∧ (decode cX12_hasPeace 79 = .ok (.iaload, 1)) ∧ (decode cX12_hasPeace 80 = .ok (.aload_n 0, 1)) ∧ (decode cX12_hasPeace 81 = .ok (.getfield 156, 3)) ∧ (decode cX12_hasPeace 84 = .ok (.bipush 8, 2)) ∧ (decode cX12_hasPeace 86 = .ok (.iload 5, 2)) ∧ (decode cX12_hasPeace 88 = .ok (.imul, 1)) ∧ (decode cX12_hasPeace 89 = .ok (.iload 6, 2)) ∧ (decode cX12_hasPeace 91 = .ok (.iadd, 1)) := by decide +kernel
theorem kd45_11 : (decode cX12_hasPeace 92 = .ok (.iaload, 1)) ∧ (decode cX12_hasPeace 93 = .ok (.if_icmp .le 5, 3)) ∧ (decode cX12_hasPeace 96 = .ok (.iconst 0, 1)) ∧ (decode cX12_hasPeace 97 = .ok (.ireturn, 1)) ∧ (decode cX12_hasPeace 98 = .ok (.iinc 5 1, 3)) ∧ (decode cX12_hasPeace 101 = .ok (.goto (-89), 3)) ∧ (decode cX12_hasPeace 104 = .ok (.iinc 4 1, 3)) ∧ (decode cX12_hasPeace 107 = .ok (.goto (-104), 3)) ∧ (decode cX12_hasPeace 110 = .ok (.iconst 1, 1)) ∧ (decode cX12_hasPeace 111 = .ok (.ireturn, 1)) ∧ (decode cX12_offer 0 = .ok (.iconst 0, 1)) ∧ (decode cX12_offer 1 = .ok (.istore_n 2, 1)) := by decide +kernel
theorem kd45_12 : (decode cX12_offer 2 = .ok (.iload_n 2, 1)) ∧ (decode cX12_offer 3 = .ok (.bipush 64, 2)) ∧ (decode cX12_offer 5 = .ok (.if_icmp .ge 16, 3)) ∧ (decode cX12_offer 8 = .ok (.aload_n 0, 1)) ∧ (decode cX12_offer 9 = .ok (.getfield 168, 3)) ∧ (decode cX12_offer 12 = .ok (.iload_n 2, 1)) ∧ (decode cX12_offer 13 = .ok (.iconst 0, 1)) ∧ (decode cX12_offer 14 = .ok (.bastore, 1)) ∧ (decode cX12_offer 15 = .ok (.iinc 2 1, 3)) ∧ (decode cX12_offer 18 = .ok (.goto (-16), 3)) ∧ (decode cX12_offer 21 = .ok (.iconst 0, 1)) ∧ (decode cX12_offer 22 = .ok (.istore_n 2, 1)) := by decide +kernel
theorem kd45_13 : (decode cX12_offer 23 = .ok (.iload_n 2, 1)) ∧ (decode cX12_offer 24 = .ok (.bipush 8, 2)) ∧ (decode cX12_offer 26 = .ok (.if_icmp .ge 23, 3)) ∧ (decode cX12_offer 29 = .ok (.aload_n 0, 1)) ∧ (decode cX12_offer 30 = .ok (.getfield 159, 3)) ∧ (decode cX12_offer 33 = .ok (.iload_n 2, 1)) ∧ (decode cX12_offer 34 = .ok (.iconst (-1), 1)) ∧ (decode cX12_offer 35 = .ok (.iastore, 1)) ∧ (decode cX12_offer 36 = .ok (.aload_n 0, 1)) ∧ (decode cX12_offer 37 = .ok (.getfield 165, 3)) ∧ (decode cX12_offer 40 = .ok (.iload_n 2, 1)) ∧ (decode cX12_offer 41 = .ok (.iconst (-1), 1)) := by decide +kernel
theorem kd45_14 : (decode cX12_offer 42 = .ok (.iastore, 1)) ∧ (decode cX12_offer 43 = .ok (.iinc 2 1, 3)) ∧ (decode cX12_offer 46 = .ok (.goto (-23), 3)) ∧ (decode cX12_offer 49 = .ok (.iconst 1, 1)) ∧ (decode cX12_offer 50 = .ok (.istore_n 2, 1)) ∧ (decode cX12_offer 51 = .ok (.iload_n 2, 1)) ∧ (decode cX12_offer 52 = .ok (.ifCond .eq 276, 3)) ∧ (decode cX12_offer 55 = .ok (.iconst 0, 1)) ∧ (decode cX12_offer 56 = .ok (.istore_n 2, 1)) ∧ (decode cX12_offer 57 = .ok (.iconst 0, 1)) ∧ (decode cX12_offer 58 = .ok (.istore_n 3, 1)) ∧ (decode cX12_offer 59 = .ok (.iload_n 3, 1)) := by decide +kernel
theorem kd45_15 : (decode cX12_offer 60 = .ok (.iload_n 1, 1)) ∧ (decode cX12_offer 61 = .ok (.if_icmp .ge 264, 3)) ∧ (decode cX12_offer 64 = .ok (.aload_n 0, 1)) ∧ (decode cX12_offer 65 = .ok (.getfield 159, 3)) ∧ (decode cX12_offer 68 = .ok (.iload_n 3, 1)) ∧ (decode cX12_offer 69 = .ok (.iaload, 1)) ∧ (decode cX12_offer 70 = .ok (.iconst (-1), 1)) ∧ (decode cX12_offer 71 = .ok (.if_icmp .eq 6, 3)) ∧ (decode cX12_offer 74 = .ok (.goto 245, 3)) ∧ (decode cX12_offer 77 = .ok (.iconst 1, 1)) ∧ (decode cX12_offer 78 = .ok (.istore_n 2, 1)) ∧ (decode cX12_offer 79 = .ok (.iconst (-1), 1)) := by decide +kernel
theorem kd45_16 : (decode cX12_offer 80 = .ok (.istore 4, 2)) ∧ (decode cX12_offer 82 = .ok (.iconst 0, 1)) ∧ (decode cX12_offer 83 = .ok (.istore 5, 2)) ∧ (decode cX12_offer 85 = .ok (.iload 5, 2)) ∧ (decode cX12_offer 87 = .ok (.iload_n 1, 1)) ∧ (decode cX12_offer 88 = .ok (.if_icmp .ge 61, 3)) ∧ (decode cX12_offer 91 = .ok (.aload_n 0, 1)) ∧ (decode cX12_offer 92 = .ok (.getfield 168, 3)) ∧ (decode cX12_offer 95 = .ok (.bipush 8, 2)) ∧ (decode cX12_offer 97 = .ok (.iload_n 3, 1)) ∧ (decode cX12_offer 98 = .ok (.imul, 1)) ∧ (decode cX12_offer 99 = .ok (.iload 5, 2)) := by decide +kernel
theorem kd45_17 : (decode cX12_offer 101 = .ok (.iadd, 1)) ∧ (decode cX12_offer 102 = .ok (.baload, 1)) ∧ (decode cX12_offer 103 = .ok (.ifCond .ne 40, 3)) ∧ (decode cX12_offer 106 = .ok (.iload 4, 2)) ∧ (decode cX12_offer 108 = .ok (.iconst (-1), 1)) ∧ (decode cX12_offer 109 = .ok (.if_icmp .eq 30, 3)) ∧ (decode cX12_offer 112 = .ok (.aload_n 0, 1)) ∧ (decode cX12_offer 113 = .ok (.getfield 153, 3)) ∧ (decode cX12_offer 116 = .ok (.bipush 8, 2)) ∧ (decode cX12_offer 118 = .ok (.iload_n 3, 1)) ∧ (decode cX12_offer 119 = .ok (.imul, 1)) ∧ (decode cX12_offer 120 = .ok (.iload 5, 2)) := by decide +kernel
theorem kd45_18 : (decode cX12_offer 122 = .ok (.iadd, 1)) ∧ (decode cX12_offer 123 = .ok (.iaload, 1)) ∧ (decode cX12_offer 124 = .ok (.aload_n 0, 1)) ∧ (decode cX12_offer 125 = .ok (.getfield 153, 3)) ∧ (decode cX12_offer 128 = .ok (.bipush 8, 2)) ∧ (decode cX12_offer 130 = .ok (.iload_n 3, 1)) ∧ (decode cX12_offer 131 = .ok (.imul, 1)) ∧ (decode cX12_offer 132 = .ok (.iload 4, 2)) ∧ (decode cX12_offer 134 = .ok (.iadd, 1)) ∧ (decode cX12_offer 135 = .ok (.iaload, 1)) ∧ (decode cX12_offer 136 = .ok (.if_icmp .le 7, 3)) ∧ (decode cX12_offer 139 = .ok (.iload 5, 2)) := by decide +kernel
theorem kd45_19 : (decode cX12_offer 141 = .ok (.istore 4, 2)) ∧ (decode cX12_offer 143 = .ok (.iinc 5 1, 3)) ∧ (decode cX12_offer 146 = .ok (.goto (-61), 3)) ∧ (decode cX12_offer 149 = .ok (.aload_n 0, 1)) ∧ (decode cX12_offer 150 = .ok (.getfield 165, 3)) ∧ (decode cX12_offer 153 = .ok (.iload 4, 2)) ∧ (decode cX12_offer 155 = .ok (.iaload, 1)) ∧ (decode cX12_offer 156 = .ok (.istore 5, 2)) ∧ (decode cX12_offer 158 = .ok (.iload 5, 2)) ∧ (decode cX12_offer 160 = .ok (.iconst (-1), 1)) ∧ (decode cX12_offer 161 = .ok (.if_icmp .eq 69, 3)) ∧ (decode cX12_offer 164 = .ok (.aload_n 0, 1)) := by decide +kernel
theorem kd45_20 : (decode cX12_offer 165 = .ok (.getfield 156, 3)) ∧ (decode cX12_offer 168 = .ok (.bipush 8, 2)) ∧ (decode cX12_offer 170 = .ok (.iload 5, 2)) ∧ (decode cX12_offer 172 = .ok (.imul, 1)) ∧ (decode cX12_offer 173 = .ok (.iload 4, 2)) ∧ (decode cX12_offer 175 = .ok (.iadd, 1)) ∧ (decode cX12_offer 176 = .ok (.iaload, 1)) ∧ (decode cX12_offer 177 = .ok (.aload_n 0, 1)) ∧ (decode cX12_offer 178 = .ok (.getfield 156, 3)) ∧ (decode cX12_offer 181 = .ok (.bipush 8, 2)) ∧ (decode cX12_offer 183 = .ok (.iload_n 3, 1)) ∧ (decode cX12_offer 184 = .ok (.imul, 1)) := by decide +kernel
theorem kd45_21 : (decode cX12_offer 185 = .ok (.iload 4, 2)) ∧ (decode cX12_offer 187 = .ok (.iadd, 1)) ∧ (decode cX12_offer 188 = .ok (.iaload, 1)) ∧ (decode cX12_offer 189 = .ok (.if_icmp .gt 37, 3)) ∧ (decode cX12_offer 192 = .ok (.aload_n 0, 1)) ∧ (decode cX12_offer 193 = .ok (.getfield 156, 3)) ∧ (decode cX12_offer 196 = .ok (.bipush 8, 2)) ∧ (decode cX12_offer 198 = .ok (.iload 5, 2)) ∧ (decode cX12_offer 200 = .ok (.imul, 1)) ∧ (decode cX12_offer 201 = .ok (.iload 4, 2)) ∧ (decode cX12_offer 203 = .ok (.iadd, 1)) ∧ (decode cX12_offer 204 = .ok (.iaload, 1)) := by decide +kernel
theorem kd45_22 : (decode cX12_offer 205 = .ok (.aload_n 0, 1)) ∧ (decode cX12_offer 206 = .ok (.getfield 156, 3)) ∧ (decode cX12_offer 209 = .ok (.bipush 8, 2)) ∧ (decode cX12_offer 211 = .ok (.iload_n 3, 1)) ∧ (decode cX12_offer 212 = .ok (.imul, 1)) ∧ (decode cX12_offer 213 = .ok (.iload 4, 2)) ∧ (decode cX12_offer 215 = .ok (.iadd, 1)) ∧ (decode cX12_offer 216 = .ok (.iaload, 1)) ∧ (decode cX12_offer 217 = .ok (.if_icmp .ne 13, 3)) ∧ (decode cX12_offer 220 = .ok (.iload 5, 2)) ∧ (decode cX12_offer 222 = .ok (.iload_n 3, 1)) ∧ (decode cX12_offer 223 = .ok (.if_icmp .ge 7, 3)) := by decide +kernel
theorem kd45_23 : (decode cX12_offer 226 = .ok (.iconst 1, 1)) ∧ (decode cX12_offer 227 = .ok (.goto 4, 3)) ∧ (decode cX12_offer 230 = .ok (.iconst 0, 1)) ∧ (decode cX12_offer 231 = .ok (.istore 6, 2)) ∧ (decode cX12_offer 233 = .ok (.aload_n 0, 1)) ∧ (decode cX12_offer 234 = .ok (.getfield 168, 3)) ∧ (decode cX12_offer 237 = .ok (.bipush 8, 2)) ∧ (decode cX12_offer 239 = .ok (.iload 6, 2)) ∧ (decode cX12_offer 241 = .ok (.ifCond .eq 7, 3)) ∧ (decode cX12_offer 244 = .ok (.iload_n 3, 1)) ∧ (decode cX12_offer 245 = .ok (.goto 15, 3)) ∧ (decode cX12_offer 248 = .ok (.iload 5, 2)) := by decide +kernel
theorem kd45_24 : (decode cX12_offer 250 = .ok (.iconst (-1), 1)) ∧ (decode cX12_offer 251 = .ok (.if_icmp .ne 7, 3)) ∧ (decode cX12_offer 254 = .ok (.iload_n 3, 1)) ∧ (decode cX12_offer 255 = .ok (.goto 5, 3)) ∧ (decode cX12_offer 258 = .ok (.iload 5, 2)) ∧ (decode cX12_offer 260 = .ok (.imul, 1)) ∧ (decode cX12_offer 261 = .ok (.iload 4, 2)) ∧ (decode cX12_offer 263 = .ok (.iadd, 1)) ∧ (decode cX12_offer 264 = .ok (.iload 6, 2)) ∧ (decode cX12_offer 266 = .ok (.ifCond .ne 9, 3)) ∧ (decode cX12_offer 269 = .ok (.iload 5, 2)) ∧ (decode cX12_offer 271 = .ok (.iconst (-1), 1)) := by decide +kernel
theorem kd45_25 : (decode cX12_offer 272 = .ok (.if_icmp .eq 7, 3)) ∧ (decode cX12_offer 275 = .ok (.iconst 1, 1)) ∧ (decode cX12_offer 276 = .ok (.goto 4, 3)) ∧ (decode cX12_offer 279 = .ok (.iconst 0, 1)) ∧ (decode cX12_offer 280 = .ok (.bastore, 1)) ∧ (decode cX12_offer 281 = .ok (.iload 6, 2)) ∧ (decode cX12_offer 283 = .ok (.ifCond .eq 6, 3)) ∧ (decode cX12_offer 286 = .ok (.goto 33, 3)) ∧ (decode cX12_offer 289 = .ok (.iload 5, 2)) ∧ (decode cX12_offer 291 = .ok (.iconst (-1), 1)) ∧ (decode cX12_offer 292 = .ok (.if_icmp .eq 11, 3)) ∧ (decode cX12_offer 295 = .ok (.aload_n 0, 1)) := by decide +kernel
theorem kd45_26 : (decode cX12_offer 296 = .ok (.getfield 159, 3)) ∧ (decode cX12_offer 299 = .ok (.iload 5, 2)) ∧ (decode cX12_offer 301 = .ok (.iconst (-1), 1)) ∧ (decode cX12_offer 302 = .ok (.iastore, 1)) ∧ (decode cX12_offer 303 = .ok (.aload_n 0, 1)) ∧ (decode cX12_offer 304 = .ok (.getfield 165, 3)) ∧ (decode cX12_offer 307 = .ok (.iload 4, 2)) ∧ (decode cX12_offer 309 = .ok (.iload_n 3, 1)) ∧ (decode cX12_offer 310 = .ok (.iastore, 1)) ∧ (decode cX12_offer 311 = .ok (.aload_n 0, 1)) ∧ (decode cX12_offer 312 = .ok (.getfield 159, 3)) ∧ (decode cX12_offer 315 = .ok (.iload_n 3, 1)) := by decide +kernel
theorem kd45_27 : (decode cX12_offer 316 = .ok (.iload 4, 2)) ∧ (decode cX12_offer 318 = .ok (.iastore, 1)) ∧ (decode cX12_offer 319 = .ok (.iinc 3 1, 3)) ∧ (decode cX12_offer 322 = .ok (.goto (-263), 3)) ∧ (decode cX12_offer 325 = .ok (.goto (-274), 3)) ∧ (decode cX12_offer 328 = .ok (.return_, 1)) ∧ (decode cX12_seek 0 = .ok (.iconst (-1), 1)) ∧ (decode cX12_seek 1 = .ok (.istore_n 3, 1)) ∧ (decode cX12_seek 2 = .ok (.iconst 0, 1)) ∧ (decode cX12_seek 3 = .ok (.istore 4, 2)) ∧ (decode cX12_seek 5 = .ok (.iload 4, 2)) ∧ (decode cX12_seek 7 = .ok (.iload_n 1, 1)) := by decide +kernel
theorem kd45_28 : (decode cX12_seek 8 = .ok (.if_icmp .ge 18, 3)) ∧ (decode cX12_seek 11 = .ok (.aload_n 0, 1)) ∧ (decode cX12_seek 12 = .ok (.getfield 162, 3)) ∧ (decode cX12_seek 15 = .ok (.iload 4, 2)) ∧ (decode cX12_seek 17 = .ok (.iload 4, 2)) ∧ (decode cX12_seek 19 = .ok (.iastore, 1)) ∧ (decode cX12_seek 20 = .ok (.iinc 4 1, 3)) ∧ (decode cX12_seek 23 = .ok (.goto (-18), 3)) ∧ (decode cX12_seek 26 = .ok (.iconst 1, 1)) ∧ (decode cX12_seek 27 = .ok (.istore 4, 2)) ∧ (decode cX12_seek 29 = .ok (.iload 4, 2)) ∧ (decode cX12_seek 31 = .ok (.ifCond .eq 81, 3)) := by decide +kernel
theorem kd45_29 : (decode cX12_seek 34 = .ok (.aload_n 0, 1)) ∧ (decode cX12_seek 35 = .ok (.getfield 153, 3)) ∧ (decode cX12_seek 38 = .ok (.aload_n 0, 1)) ∧ (decode cX12_seek 39 = .ok (.getfield 162, 3)) ∧ (decode cX12_seek 42 = .ok (.iload_n 1, 1)) ∧ (decode cX12_seek 43 = .ok (.invokestatic 441, 3)) ∧ (decode cX12_seek 46 = .ok (.istore 5, 2)) ∧ (decode cX12_seek 48 = .ok (.iload 5, 2)) ∧ (decode cX12_seek 50 = .ok (.iload_n 3, 1)) ∧ (decode cX12_seek 51 = .ok (.if_icmp .le 48, 3)) ∧ (decode cX12_seek 54 = .ok (.aload_n 0, 1)) ∧ (decode cX12_seek 55 = .ok (.aload_n 0, 1)) := by decide +kernel
theorem kd45_30 : (decode cX12_seek 56 = .ok (.getfield 162, 3)) ∧ (decode cX12_seek 59 = .ok (.iload_n 1, 1)) ∧ (decode cX12_seek 60 = .ok (.iload_n 2, 1)) ∧ (decode cX12_seek 61 = .ok (.invokevirtual 445, 3)) ∧ (decode cX12_seek 64 = .ok (.ifCond .eq 35, 3)) ∧ (decode cX12_seek 67 = .ok (.iload 5, 2)) ∧ (decode cX12_seek 69 = .ok (.istore_n 3, 1)) ∧ (decode cX12_seek 70 = .ok (.iconst 0, 1)) ∧ (decode cX12_seek 71 = .ok (.istore 6, 2)) ∧ (decode cX12_seek 73 = .ok (.iload 6, 2)) ∧ (decode cX12_seek 75 = .ok (.iload_n 1, 1)) ∧ (decode cX12_seek 76 = .ok (.if_icmp .ge 23, 3)) := by decide +kernel
theorem kd45_31 : (decode cX12_seek 79 = .ok (.aload_n 0, 1)) ∧ (decode cX12_seek 80 = .ok (.getfield 159, 3)) ∧ (decode cX12_seek 83 = .ok (.iload 6, 2)) ∧ (decode cX12_seek 85 = .ok (.aload_n 0, 1)) ∧ (decode cX12_seek 86 = .ok (.getfield 162, 3)) ∧ (decode cX12_seek 89 = .ok (.iload 6, 2)) ∧ (decode cX12_seek 91 = .ok (.iaload, 1)) ∧ (decode cX12_seek 92 = .ok (.iastore, 1)) ∧ (decode cX12_seek 93 = .ok (.iinc 6 1, 3)) ∧ (decode cX12_seek 96 = .ok (.goto (-23), 3)) ∧ (decode cX12_seek 99 = .ok (.aload_n 0, 1)) ∧ (decode cX12_seek 100 = .ok (.getfield 162, 3)) := by decide +kernel
theorem kd45_32 : (decode cX12_seek 103 = .ok (.iload_n 1, 1)) ∧ (decode cX12_seek 104 = .ok (.invokestatic 449, 3)) ∧ (decode cX12_seek 107 = .ok (.istore 4, 2)) ∧ (decode cX12_seek 109 = .ok (.goto (-80), 3)) ∧ (decode cX12_seek 112 = .ok (.iload_n 3, 1)) ∧ (decode cX12_seek 113 = .ok (.iconst (-1), 1)) ∧ (decode cX12_seek 114 = .ok (.if_icmp .eq 7, 3)) ∧ (decode cX12_seek 117 = .ok (.iconst 1, 1)) ∧ (decode cX12_seek 118 = .ok (.goto 4, 3)) ∧ (decode cX12_seek 121 = .ok (.iconst 0, 1)) ∧ (decode cX12_seek 122 = .ok (.ireturn, 1)) ∧ (decode cX12_sumOf 0 = .ok (.iconst 0, 1)) := by decide +kernel
theorem kd45_33 : (decode cX12_sumOf 1 = .ok (.istore_n 3, 1)) ∧ (decode cX12_sumOf 2 = .ok (.iconst 0, 1)) ∧ (decode cX12_sumOf 3 = .ok (.istore 4, 2)) ∧ (decode cX12_sumOf 5 = .ok (.iload 4, 2)) ∧ (decode cX12_sumOf 7 = .ok (.iload_n 2, 1)) ∧ (decode cX12_sumOf 8 = .ok (.if_icmp .ge 24, 3)) ∧ (decode cX12_sumOf 11 = .ok (.iload_n 3, 1)) ∧ (decode cX12_sumOf 12 = .ok (.aload_n 0, 1)) ∧ (decode cX12_sumOf 13 = .ok (.bipush 8, 2)) ∧ (decode cX12_sumOf 15 = .ok (.iload 4, 2)) ∧ (decode cX12_sumOf 17 = .ok (.imul, 1)) ∧ (decode cX12_sumOf 18 = .ok (.aload_n 1, 1)) := by decide +kernel
theorem kd45_34 : (decode cX12_sumOf 19 = .ok (.iload 4, 2)) ∧ (decode cX12_sumOf 21 = .ok (.iaload, 1)) ∧ (decode cX12_sumOf 22 = .ok (.iadd, 1)) ∧ (decode cX12_sumOf 23 = .ok (.iaload, 1)) ∧ (decode cX12_sumOf 24 = .ok (.iadd, 1)) ∧ (decode cX12_sumOf 25 = .ok (.istore_n 3, 1)) ∧ (decode cX12_sumOf 26 = .ok (.iinc 4 1, 3)) ∧ (decode cX12_sumOf 29 = .ok (.goto (-24), 3)) ∧ (decode cX12_sumOf 32 = .ok (.iload_n 3, 1)) ∧ (decode cX12_sumOf 33 = .ok (.ireturn, 1)) := by decide +kernel
theorem fl_X12_153_13 : xF RX12 153 13 72 (.array .int) true := ⟨by decide, RX12, TX12, 91, tyX12, "PaperBoysModel", rfl, inlX12, tyX12_ok, nmX12, by decide, rfl, rfl, m_10_1, Or.inl rfl⟩
theorem fl_X12_156_13 : xF RX12 156 13 73 (.array .int) true := ⟨by decide, RX12, TX12, 91, tyX12, "PaperBoysModel", rfl, inlX12, tyX12_ok, nmX12, by decide, rfl, rfl, m_10_2, Or.inl rfl⟩
theorem fl_X12_162_13 : xF RX12 162 13 75 (.array .int) true := ⟨by decide, RX12, TX12, 91, tyX12, "PaperBoysModel", rfl, inlX12, tyX12_ok, nmX12, by decide, rfl, rfl, m_10_4, Or.inl rfl⟩
theorem fl_X12_165_13 : xF RX12 165 13 76 (.array .int) true := ⟨by decide, RX12, TX12, 91, tyX12, "PaperBoysModel", rfl, inlX12, tyX12_ok, nmX12, by decide, rfl, rfl, m_10_5, Or.inl rfl⟩
theorem fl_X12_168_13 : xF RX12 168 13 77 (.array .boolean) true := ⟨by decide, RX12, TX12, 91, tyX12, "PaperBoysModel", rfl, inlX12, tyX12_ok, nmX12, by decide, rfl, rfl, m_10_6, Or.inl rfl⟩
theorem lk_X12_441 : xLS RX12 441 yX12_sumOf cX12_sumOf 5 (some .int) 3 := ⟨m_52_6, m_52_7, m_1_5, m_52_8, by decide +kernel⟩
theorem lk_X12_445 : xLV RX12 445 yX12_hasPeace cX12_hasPeace 7 (some .boolean) 3 := ⟨m_52_9, m_52_10, m_52_11, m_1_5, m_52_12, by decide +kernel⟩
theorem lk_X12_449 : xLS RX12 449 yX12_goOn cX12_goOn 7 (some .boolean) 2 := ⟨m_52_13, m_52_14, m_1_5, m_52_15, by decide +kernel⟩
theorem xSmf {f' f : Int → Int} {j : Int} (h1 : f' j = f j) (h2 : ∀ i, 0 ≤ i → i ≠ j → f' i = f i) : ∀ i, 0 ≤ i → f' i = f i := fun i hi => by
  by_cases e : i = j
  · rw [e]; exact h1
  · exact h2 i hi e
def xInj (n : Int) (f : Int → Int) : Prop := ∀ i j, 0 ≤ i → i < n → 0 ≤ j → j < n → i ≠ j → f i ≠ f j
theorem xInj_sw {n i j : Int} {f f' : Int → Int} (h : xInj n f) (hi : 0 ≤ i ∧ i < n) (hj : 0 ≤ j ∧ j < n) (h1 : f' i = f j) (h2 : f' j = f i) (h3 : ∀ k, 0 ≤ k → k ≠ i → k ≠ j → f' k = f k) : xInj n f' := by
  have key : ∀ k, 0 ≤ k → k < n → ∃ k', 0 ≤ k' ∧ k' < n ∧ f' k = f k' ∧ ((k = i ∧ k' = j) ∨ (k ≠ i ∧ k = j ∧ k' = i) ∨ (k ≠ i ∧ k ≠ j ∧ k' = k)) := fun k q1 q2 => by
    by_cases e : k = i
    · exact ⟨j, hj.1, hj.2, by rw [e, h1], Or.inl ⟨e, rfl⟩⟩
    · by_cases e' : k = j
      · exact ⟨i, hi.1, hi.2, by rw [e', h2], Or.inr (Or.inl ⟨e, e', rfl⟩)⟩
      · exact ⟨k, q1, q2, h3 k q1 e e', Or.inr (Or.inr ⟨e, e', rfl⟩)⟩
  intro a b a1 a2 b1 b2 hab
  obtain ⟨a', p1, p2, p3, p4⟩ := key a a1 a2
  obtain ⟨b', q1, q2, q3, q4⟩ := key b b1 b2
  rw [p3, q3]
  exact h a' b' p1 p2 q1 q2 (by omega)
def xnmN (f : Int → Int) : Nat → Int
  | 0 => 0
  | m + 1 => 8 * xnmN f m + f m
def xnm (n : Int) (f : Int → Int) : Int := xnmN f n.toNat
theorem xnmN_b {f : Int → Int} {m : Nat} (h : ∀ k : Int, 0 ≤ k → k < m → 0 ≤ f k ∧ f k ≤ 7) : 0 ≤ xnmN f m ∧ xnmN f m < (8 : Int) ^ m := by
  induction m with
  | zero => exact ⟨Int.le_refl _, (by show (0 : Int) < 8 ^ 0; decide)⟩
  | succ m ih =>
    have := ih (fun k q1 q2 => h k q1 (by omega))
    have q := h m (by omega) (by omega)
    unfold xnmN
    rw [Int.pow_succ]
    omega
theorem xnm_b {n : Int} {f : Int → Int} (hn : 0 ≤ n ∧ n ≤ 8) (h : ∀ k : Int, 0 ≤ k → k < n → 0 ≤ f k ∧ f k ≤ 7) : 0 ≤ xnm n f ∧ xnm n f < 16777216 := by
  have q := xnmN_b (f := f) (m := n.toNat) (fun k q1 q2 => h k q1 (by omega))
  unfold xnm
  have : (8 : Int) ^ n.toNat ≤ 16777216 := by
    have hm : n.toNat ≤ 8 := by omega
    generalize n.toNat = m at hm
    match m, hm with
    | 0, _ => decide
    | 1, _ => decide
    | 2, _ => decide
    | 3, _ => decide
    | 4, _ => decide
    | 5, _ => decide
    | 6, _ => decide
    | 7, _ => decide
    | 8, _ => decide
    | n + 9, h => omega
  omega
theorem xnmN_eq {f f' : Int → Int} {m : Nat} (h : ∀ k : Int, 0 ≤ k → k < m → f' k = f k) : xnmN f' m = xnmN f m := by
  induction m with
  | zero => rfl
  | succ m ih => unfold xnmN; rw [ih (fun k q1 q2 => h k q1 (by omega)), h m (by omega) (by omega)]
theorem xnmN_lt {f f' : Int → Int} {i m : Nat} (hi : i < m) (hs : ∀ k : Int, 0 ≤ k → k < i → f' k = f k) (hl : f i < f' i) (h : ∀ k : Int, 0 ≤ k → k < m → f k ≤ 7) (h' : ∀ k : Int, 0 ≤ k → k < m → 0 ≤ f' k) : xnmN f m < xnmN f' m := by
  induction m with
  | zero => omega
  | succ m ih =>
    unfold xnmN
    by_cases e : i = m
    · subst e
      rw [xnmN_eq hs]
      omega
    · have := ih (by omega) (fun k q1 q2 => h k q1 (by omega)) (fun k q1 q2 => h' k q1 (by omega))
      have a := h m (by omega) (by omega)
      have b := h' m (by omega) (by omega)
      omega
theorem xnm_lt {n i : Int} {f f' : Int → Int} (hi : 0 ≤ i ∧ i < n) (hs : ∀ k : Int, 0 ≤ k → k < i → f' k = f k) (hl : f i < f' i) (h : ∀ k : Int, 0 ≤ k → k < n → 0 ≤ f k ∧ f k ≤ 7) (h' : ∀ k : Int, 0 ≤ k → k < n → 0 ≤ f' k ∧ f' k ≤ 7) : xnm n f < xnm n f' := by
  have e : ((i.toNat : Nat) : Int) = i := by omega
  exact xnmN_lt (i := i.toNat) (by omega) (fun k q1 q2 => hs k q1 (by omega)) (by rw [e]; exact hl) (fun k q1 q2 => (h k q1 (by omega)).2) (fun k q1 q2 => (h' k q1 (by omega)).1)
def xMp (S : xT) (g : xG) (a : Nat) : Prop := ∃ (h : Nat) (n z : Int), S a = some (13, 0) ∧ g a 74 = .ref h ∧ S h = some (18300, 8) ∧ g a 78 = .int (iI n) ∧ 0 ≤ n ∧ n ≤ 8 ∧ g a 79 = .int (iI z) ∧ 0 ≤ z ∧ z ≤ 1 ∧ (z = 1 → xCo n (xv g h))
def xmq : List (Nat × Nat) := [(13, 74), (13, 78), (13, 79), (18300, 0)]
theorem xMp_m {S S1 : xT} {g g1 : xG} {a : Nat} {L : List (Nat × Nat)} (h : xMp S g a) (hm : xM L S g g1) (hle : xLe S S1) (hd : ∀ x ∈ xmq, x ∉ L) : xMp S1 g1 a := by
  obtain ⟨p, n, z, h1, h2, h3, h4, h5, h6, h7, h8, h9, h10⟩ := h
  refine ⟨p, n, z, hle _ _ h1, ?_, hle _ _ h3, ?_, h5, h6, ?_, h8, h9, fun e => ?_⟩
  · rw [hm _ _ _ _ h1 (hd _ (by decide))]; exact h2
  · rw [hm _ _ _ _ h1 (hd _ (by decide))]; exact h4
  · rw [hm _ _ _ _ h1 (hd _ (by decide))]; exact h7
  · rw [xv_m hm h3 (by decide) (hd _ (by decide))]; exact h10 e
def xFt (G M : Int → Int) (s b o x w : Int) : Prop := s ≤ G (8 * b + w) - G (8 * b + o) ∧ M (8 * x + w) < M (8 * b + w)
def xPc (n : Int) (G M : Int → Int) (s : Int) (v : Int → Int) : Prop := (∀ b, 0 ≤ b → b < n → 0 ≤ v b ∧ v b < n) ∧ ∀ b x, 0 ≤ b → b < n → 0 ≤ x → x < n → b ≠ x → v b ≠ v x ∧ ¬ xFt G M s b (v b) x (v x)
def xVs (n : Int) (G v : Int → Int) : Int := xsum (fun k => G (8 * k + v k)) n.toNat
theorem xVs_cg {n : Int} {G v v' : Int → Int} (h : ∀ k, 0 ≤ k → k < n → v k = v' k) : xVs n G v = xVs n G v' := xsum_cg (fun i q1 q2 => by rw [h i q1 (by omega)])
theorem xnmN_inj {f f' : Int → Int} : ∀ {m : Nat}, (∀ k : Int, 0 ≤ k → k < m → 0 ≤ f k ∧ f k ≤ 7) → (∀ k : Int, 0 ≤ k → k < m → 0 ≤ f' k ∧ f' k ≤ 7) → xnmN f m = xnmN f' m → ∀ k : Int, 0 ≤ k → k < m → f k = f' k := by
  intro m
  induction m with
  | zero => intro _ _ _ k q1 q2; omega
  | succ m ih =>
    intro h h' e k q1 q2
    have a := h m (by omega) (by omega)
    have b := h' m (by omega) (by omega)
    have e' : 8 * xnmN f m + f m = 8 * xnmN f' m + f' m := e
    by_cases q : k = m
    · rw [q]; omega
    · exact ih (fun i w1 w2 => h i w1 (by omega)) (fun i w1 w2 => h' i w1 (by omega)) (by omega) k q1 (by omega)
theorem xnm_inj {n : Int} {f f' : Int → Int} (h : ∀ k : Int, 0 ≤ k → k < n → 0 ≤ f k ∧ f k ≤ 7) (h' : ∀ k : Int, 0 ≤ k → k < n → 0 ≤ f' k ∧ f' k ≤ 7) (e : xnm n f = xnm n f') : ∀ k : Int, 0 ≤ k → k < n → f k = f' k := fun k q1 q2 => xnmN_inj (m := n.toNat) (fun i w1 w2 => h i w1 (by omega)) (fun i w1 w2 => h' i w1 (by omega)) e k q1 (by omega)
theorem xnm_cg {n : Int} {f f' : Int → Int} (h : ∀ k : Int, 0 ≤ k → k < n → f k = f' k) : xnm n f = xnm n f' := xnmN_eq (fun k q1 q2 => h k q1 (by omega))
theorem xPc.r {n : Int} {G M v : Int → Int} {s : Int} (hn : n ≤ 8) (h : xPc n G M s v) : ∀ k : Int, 0 ≤ k → k < n → 0 ≤ v k ∧ v k ≤ 7 := fun k q1 q2 => by
  have := h.1 k q1 q2
  omega
theorem xPc.cg {n : Int} {G M v v' : Int → Int} {s : Int} (h : xPc n G M s v) (e : ∀ k, 0 ≤ k → k < n → v' k = v k) : xPc n G M s v' :=
  ⟨fun b q1 q2 => by rw [e b q1 q2]; exact h.1 b q1 q2, fun b x q1 q2 q3 q4 q5 => by rw [e b q1 q2, e x q3 q4]; exact h.2 b x q1 q2 q3 q4 q5⟩
theorem xPc.gm {n : Int} {G M G' M' v : Int → Int} {s : Int} (h : xPc n G M s v) (hG : ∀ b c, 0 ≤ b → b < n → 0 ≤ c → c < n → G (8 * b + c) = G' (8 * b + c)) (hM : ∀ b c, 0 ≤ b → b < n → 0 ≤ c → c < n → M (8 * b + c) = M' (8 * b + c)) : xPc n G' M' s v :=
  ⟨h.1, fun b x q1 q2 q3 q4 q5 => by
    have r := h.1 b q1 q2
    have t := h.1 x q3 q4
    have w := h.2 b x q1 q2 q3 q4 q5
    unfold xFt at w ⊢
    rw [← hG b (v x) q1 q2 t.1 t.2, ← hG b (v b) q1 q2 r.1 r.2, ← hM x (v x) q3 q4 t.1 t.2, ← hM b (v x) q1 q2 t.1 t.2]
    exact w⟩
def xBst (n : Int) (G M : Int → Int) (s v : Int) (c : Int → Int) : Prop := (v = -1 ∧ ∀ t, ¬ xPc n G M s t) ∨ (0 ≤ v ∧ xPc n G M s c ∧ xVs n G c = v ∧ ∀ t, xPc n G M s t → xVs n G t < v ∨ (xVs n G t = v ∧ xnm n c ≤ xnm n t))
theorem xBst.det {n : Int} {G M c c' : Int → Int} {s v v' : Int} (hn : n ≤ 8) (h : xBst n G M s v c) (h' : xBst n G M s v' c') : v = v' ∧ (v ≠ -1 → ∀ k, 0 ≤ k → k < n → c k = c' k) := by
  rcases h with ⟨e, h⟩ | ⟨e, h1, h2, h3⟩
  · rcases h' with ⟨e', h'⟩ | ⟨e', h1', h2', h3'⟩
    · exact ⟨by omega, fun q => absurd e q⟩
    · exact absurd h1' (h c')
  · rcases h' with ⟨e', h'⟩ | ⟨e', h1', h2', h3'⟩
    · exact absurd h1 (h' c)
    · have a := h3 c' h1'
      have b := h3' c h1
      refine ⟨by omega, fun _ => xnm_inj (h1.r hn) (h1'.r hn) (by omega)⟩
theorem xBst.gm {n : Int} {G M G' M' c : Int → Int} {s v : Int} (h : xBst n G M s v c) (hG : ∀ b c, 0 ≤ b → b < n → 0 ≤ c → c < n → G (8 * b + c) = G' (8 * b + c)) (hM : ∀ b c, 0 ≤ b → b < n → 0 ≤ c → c < n → M (8 * b + c) = M' (8 * b + c)) : xBst n G' M' s v c := by
  have hG' : ∀ b c, 0 ≤ b → b < n → 0 ≤ c → c < n → G' (8 * b + c) = G (8 * b + c) := fun b c a1 a2 a3 a4 => (hG b c a1 a2 a3 a4).symm
  have hM' : ∀ b c, 0 ≤ b → b < n → 0 ≤ c → c < n → M' (8 * b + c) = M (8 * b + c) := fun b c a1 a2 a3 a4 => (hM b c a1 a2 a3 a4).symm
  have hV : ∀ t, xPc n G M s t → xVs n G t = xVs n G' t := fun t ht => xsum_cg (fun i q1 q2 => hG i (t i) q1 (by omega) (ht.1 i q1 (by omega)).1 (ht.1 i q1 (by omega)).2)
  rcases h with ⟨e, h⟩ | ⟨e, h1, h2, h3⟩
  · exact Or.inl ⟨e, fun t ht => h t (ht.gm hG' hM')⟩
  · refine Or.inr ⟨e, h1.gm hG hM, by rw [← hV c h1]; exact h2, fun t ht => ?_⟩
    have ht' := ht.gm hG' hM'
    rw [← hV t ht']
    exact h3 t ht'
def xD (A : (Int → Int) → Prop) (n : Int) (G M : Int → Int) (s m0 m1 : Int) (co c1 : Int → Int) : Prop := (m1 = m0 ∧ (∀ k, 0 ≤ k → k < n → c1 k = co k) ∧ ∀ t, xPc n G M s t → A t → xVs n G t ≤ m0) ∨ (m0 < m1 ∧ xPc n G M s c1 ∧ A c1 ∧ xVs n G c1 = m1 ∧ ∀ t, xPc n G M s t → A t → xVs n G t < m1 ∨ (xVs n G t = m1 ∧ xnm n c1 ≤ xnm n t))
theorem xD.none {A : (Int → Int) → Prop} {n : Int} {G M co : Int → Int} {s m0 : Int} (h : ∀ t, xPc n G M s t → A t → xVs n G t ≤ m0) : xD A n G M s m0 m0 co co := Or.inl ⟨rfl, fun _ _ _ => rfl, h⟩
theorem xD.iff {A B : (Int → Int) → Prop} {n : Int} {G M co c1 : Int → Int} {s m0 m1 : Int} (h : xD A n G M s m0 m1 co c1) (e : ∀ t, xPc n G M s t → (A t ↔ B t)) : xD B n G M s m0 m1 co c1 := by
  rcases h with ⟨a1, a2, a3⟩ | ⟨a1, a2, a3, a4, a5⟩
  · exact Or.inl ⟨a1, a2, fun t q1 q2 => a3 t q1 ((e t q1).mpr q2)⟩
  · exact Or.inr ⟨a1, a2, (e c1 a2).mp a3, a4, fun t q1 q2 => a5 t q1 ((e t q1).mpr q2)⟩
theorem xD.to {A : (Int → Int) → Prop} {n : Int} {G M co c1 co' c1' : Int → Int} {s m0 m1 : Int} (h : xD A n G M s m0 m1 co c1) (hA : ∀ t t', (∀ k, 0 ≤ k → k < n → t k = t' k) → A t → A t') (e0 : ∀ k, 0 ≤ k → k < n → co' k = co k) (e1 : ∀ k, 0 ≤ k → k < n → c1' k = c1 k) : xD A n G M s m0 m1 co' c1' := by
  rcases h with ⟨a1, a2, a3⟩ | ⟨a1, a2, a3, a4, a5⟩
  · exact Or.inl ⟨a1, fun k q1 q2 => by rw [e1 k q1 q2, e0 k q1 q2]; exact a2 k q1 q2, a3⟩
  · refine Or.inr ⟨a1, a2.cg e1, hA c1 c1' (fun k q1 q2 => (e1 k q1 q2).symm) a3, by rw [xVs_cg e1]; exact a4, fun t q1 q2 => ?_⟩
    rw [xnm_cg e1]
    exact a5 t q1 q2
theorem xD.seq {A B : (Int → Int) → Prop} {n : Int} {G M co c1 c2 : Int → Int} {s m0 m1 m2 : Int} (hA : ∀ t t', (∀ k, 0 ≤ k → k < n → t k = t' k) → A t → A t') (h : xD A n G M s m0 m1 co c1) (h2 : xD B n G M s m1 m2 c1 c2) (hl : ∀ t u, xPc n G M s t → xPc n G M s u → A t → B u → xnm n t ≤ xnm n u) : xD (fun t => A t ∨ B t) n G M s m0 m2 co c2 := by
  rcases h with ⟨a1, a2, a3⟩ | ⟨a1, a2, a3, a4, a5⟩
  · rcases h2 with ⟨b1, b2, b3⟩ | ⟨b1, b2, b3, b4, b5⟩
    · refine Or.inl ⟨by omega, fun k q1 q2 => (b2 k q1 q2).trans (a2 k q1 q2), fun t q1 q2 => ?_⟩
      rcases q2 with q2 | q2
      · exact a3 t q1 q2
      · have := b3 t q1 q2; omega
    · refine Or.inr ⟨by omega, b2, Or.inr b3, b4, fun t q1 q2 => ?_⟩
      rcases q2 with q2 | q2
      · have := a3 t q1 q2; exact Or.inl (by omega)
      · exact b5 t q1 q2
  · rcases h2 with ⟨b1, b2, b3⟩ | ⟨b1, b2, b3, b4, b5⟩
    · have p2 := a2.cg b2
      have pA : A c2 := hA c1 c2 (fun k q1 q2 => (b2 k q1 q2).symm) a3
      refine Or.inr ⟨by omega, p2, Or.inl pA, by rw [xVs_cg b2]; omega, fun t q1 q2 => ?_⟩
      rcases q2 with q2 | q2
      · have := a5 t q1 q2
        rw [xnm_cg b2]
        omega
      · have w := b3 t q1 q2
        have l := hl c2 t p2 q1 pA q2
        omega
    · refine Or.inr ⟨by omega, b2, Or.inr b3, b4, fun t q1 q2 => ?_⟩
      rcases q2 with q2 | q2
      · have := a5 t q1 q2; exact Or.inl (by omega)
      · exact b5 t q1 q2
theorem xD.bst {n : Int} {G M co c1 : Int → Int} {s m1 : Int} (hV : ∀ t, xPc n G M s t → 0 ≤ xVs n G t) (h : xD (fun _ => True) n G M s (-1) m1 co c1) : xBst n G M s m1 c1 := by
  rcases h with ⟨a1, a2, a3⟩ | ⟨a1, a2, a3, a4, a5⟩
  · refine Or.inl ⟨a1, fun t ht => ?_⟩
    have := a3 t ht trivial
    have := hV t ht
    omega
  · exact Or.inr ⟨by omega, a2, a4, fun t ht => a5 t ht trivial⟩
theorem xfirst {n : Int} {f g : Int → Int} (h : ∃ k, 0 ≤ k ∧ k < n ∧ f k ≠ g k) : ∃ d, 0 ≤ d ∧ d < n ∧ f d ≠ g d ∧ ∀ k, 0 ≤ k → k < d → f k = g k := by
  obtain ⟨k, h0, h1, h2⟩ := h
  have key : ∀ m : Nat, (∃ k : Nat, k < m ∧ f k ≠ g k) → ∃ d : Nat, d < m ∧ f d ≠ g d ∧ ∀ k : Nat, k < d → f k = g k := by
    intro m
    induction m with
    | zero => rintro ⟨k, q, _⟩; omega
    | succ m ih =>
      rintro ⟨k, q1, q2⟩
      by_cases e : ∃ k : Nat, k < m ∧ f k ≠ g k
      · obtain ⟨d, a1, a2, a3⟩ := ih e
        exact ⟨d, by omega, a2, a3⟩
      · have ek : k = m := by
          by_cases q : k = m
          · exact q
          · exact absurd ⟨k, by omega, q2⟩ e
        subst ek
        refine ⟨k, q1, q2, fun i hi => ?_⟩
        by_cases q : f i = g i
        · exact q
        · exact absurd ⟨i, hi, q⟩ e
  obtain ⟨d, a1, a2, a3⟩ := key n.toNat ⟨k.toNat, by omega, by rw [show ((k.toNat : Nat) : Int) = k by omega]; exact h2⟩
  refine ⟨d, by omega, by omega, a2, fun k q1 q2 => ?_⟩
  have := a3 k.toNat (by omega)
  rw [show ((k.toNat : Nat) : Int) = k by omega] at this
  exact this
def xPr (n : Int) (f : Int → Int) : Prop := (∀ k, 0 ≤ k → k < n → 0 ≤ f k ∧ f k < n) ∧ xInj n f
theorem xPr.surj {n : Int} {f : Int → Int} (h : xPr n f) {v : Int} (hv : 0 ≤ v ∧ v < n) : ∃ m, 0 ≤ m ∧ m < n ∧ f m = v := by
  by_cases e : ∃ m, 0 ≤ m ∧ m < n ∧ f m = v
  · exact e
  · have hne : ∀ k, 0 ≤ k → k < n → f k ≠ v := fun k q1 q2 q => e ⟨k, q1, q2, q⟩
    obtain ⟨i, j, a1, a2, a3⟩ := xpig (n - 1).toNat (fun k => if f k < v then (f k).toNat else (f k - 1).toNat) (fun k hk => by
      have r := h.1 k (by omega) (by omega)
      have q := hne k (by omega) (by omega)
      show (if f k < v then (f k).toNat else (f k - 1).toNat) < _
      split <;> omega)
    have ri := h.1 i (by omega) (by omega)
    have rj := h.1 j (by omega) (by omega)
    have qi := hne i (by omega) (by omega)
    have qj := hne j (by omega) (by omega)
    have a3' : (if f i < v then (f i).toNat else (f i - 1).toNat) = (if f j < v then (f j).toNat else (f j - 1).toNat) := a3
    have : f i = f j := by
      split at a3' <;> split at a3' <;> omega
    exact absurd this (h.2 i j (by omega) (by omega) (by omega) (by omega) (by omega))
theorem xPr.at {n d : Int} {f t : Int → Int} (h : xPr n f) (ht : xPr n t) (hd : 0 ≤ d ∧ d < n) (hs : ∀ k, 0 ≤ k → k < d → f k = t k) : ∃ m, d ≤ m ∧ m < n ∧ f m = t d := by
  obtain ⟨m, m1, m2, m3⟩ := h.surj (ht.1 d hd.1 hd.2)
  refine ⟨m, ?_, m2, m3⟩
  by_cases q : m < d
  · have e := hs m m1 q
    exact absurd (e.symm.trans m3) (ht.2 m d m1 m2 hd.1 hd.2 (by omega))
  · omega
theorem xdsc {n a : Int} {f : Int → Int} (h : ∀ k, a ≤ k → k + 1 < n → f (k + 1) < f k) (d m : Int) (hd : a ≤ d) (hm : d ≤ m) (hn : m < n) : f m ≤ f d := by
  obtain ⟨e, he⟩ : ∃ e : Nat, m = d + e := ⟨(m - d).toNat, by omega⟩
  subst he
  clear hm
  induction e with
  | zero => simp
  | succ e ih =>
    have := ih (by omega)
    have q := h (d + e) (by omega) (by omega)
    rw [show d + ((e + 1 : Nat) : Int) = d + (e : Int) + 1 by omega]
    omega
theorem xasc {n a : Int} {f : Int → Int} (h : ∀ k, a ≤ k → k + 1 < n → f k < f (k + 1)) (d m : Int) (hd : a ≤ d) (hm : d ≤ m) (hn : m < n) : f d ≤ f m := by
  have := xdsc (f := fun k => - f k) (n := n) (a := a) (fun k q1 q2 => by have := h k q1 q2; show - f (k + 1) < - f k; omega) d m hd hm hn
  have : - f m ≤ - f d := this
  omega
theorem xPr.r7 {n : Int} {f : Int → Int} (hn : n ≤ 8) (h : xPr n f) : ∀ k : Int, 0 ≤ k → k < n → 0 ≤ f k ∧ f k ≤ 7 := fun k q1 q2 => by
  have := h.1 k q1 q2
  omega
theorem xlex {n : Int} {f t : Int → Int} (hn : n ≤ 8) (hf : xPr n f) (ht : xPr n t) (h : xnm n f < xnm n t) : ∃ d, 0 ≤ d ∧ d < n ∧ f d < t d ∧ ∀ k, 0 ≤ k → k < d → f k = t k := by
  by_cases e : ∃ k, 0 ≤ k ∧ k < n ∧ f k ≠ t k
  · obtain ⟨d, d1, d2, d3, d4⟩ := xfirst e
    refine ⟨d, d1, d2, ?_, d4⟩
    by_cases q : f d < t d
    · exact q
    · have := xnm_lt (n := n) (i := d) (f := t) (f' := f) ⟨d1, d2⟩ (fun k q1 q2 => d4 k q1 q2) (by omega) (ht.r7 hn) (hf.r7 hn)
      omega
  · have : xnm n f = xnm n t := xnmN_eq (fun k q1 q2 => by
      by_cases q : f k = t k
      · exact q
      · exact absurd ⟨k, q1, by omega, q⟩ e)
    omega
theorem xnext {n i j : Int} {f f' t : Int → Int} (hn : n ≤ 8) (hf : xPr n f) (hf' : xPr n f') (ht : xPr n t) (hi : 0 ≤ i ∧ i < j ∧ j < n) (hd : ∀ k, i + 1 ≤ k → k + 1 < n → f (k + 1) < f k) (hj : f i < f j) (hk : ∀ k, j < k → k < n → f k < f i) (h1 : ∀ k, 0 ≤ k → k < i → f' k = f k) (h2 : f' i = f j) (h3 : ∀ k, i + 1 ≤ k → k + 1 < n → f' k < f' (k + 1)) (hl : xnm n f < xnm n t) : xnm n f' ≤ xnm n t := by
  obtain ⟨d, d1, d2, d3, d4⟩ := xlex hn hf ht hl
  rcases Int.lt_trichotomy d i with q | q | q
  · exact Int.le_of_lt (xnm_lt (i := d) ⟨d1, d2⟩ (fun k a1 a2 => ((h1 k a1 (by omega)).trans (d4 k a1 a2)).symm) (by rw [h1 d d1 q]; exact d3) (hf'.r7 hn) (ht.r7 hn))
  · subst q
    obtain ⟨m, m1, m2, m3⟩ := hf.at ht ⟨d1, d2⟩ d4
    have hm : d < m := by
      by_cases w : m = d
      · rw [w] at m3; omega
      · omega
    have hmj : m ≤ j := by
      by_cases w : j < m
      · have := hk m w m2; omega
      · omega
    have := xdsc hd m j (by omega) hmj hi.2.2
    by_cases w : t d = f' d
    · by_cases e : ∃ k, 0 ≤ k ∧ k < n ∧ f' k ≠ t k
      · obtain ⟨x, x1, x2, x3, x4⟩ := xfirst e
        have hx : d < x := by
          by_cases y : x < d
          · exact absurd ((h1 x x1 y).trans (d4 x x1 y)) x3
          · by_cases z : x = d
            · rw [z] at x3; exact absurd w.symm x3
            · omega
        obtain ⟨y, y1, y2, y3⟩ := hf'.at ht ⟨x1, x2⟩ x4
        have := xasc h3 x y (by omega) y1 y2
        exact Int.le_of_lt (xnm_lt (i := x) ⟨x1, x2⟩ (fun k a1 a2 => (x4 k a1 a2).symm) (by omega) (hf'.r7 hn) (ht.r7 hn))
      · have : xnm n f' = xnm n t := xnmN_eq (fun k q1 q2 => by
          by_cases z : f' k = t k
          · exact z
          · exact absurd ⟨k, q1, by omega, z⟩ e)
        omega
    · exact Int.le_of_lt (xnm_lt (i := d) ⟨d1, d2⟩ (fun k a1 a2 => ((h1 k a1 a2).trans (d4 k a1 a2)).symm) (by omega) (hf'.r7 hn) (ht.r7 hn))
  · obtain ⟨m, m1, m2, m3⟩ := hf.at ht ⟨d1, d2⟩ d4
    have := xdsc hd d m (by omega) m1 m2
    omega
theorem xlast {n : Int} {f t : Int → Int} (hn : n ≤ 8) (hf : xPr n f) (ht : xPr n t) (hd : ∀ k, 0 ≤ k → k + 1 < n → f (k + 1) < f k) : xnm n t ≤ xnm n f := by
  by_cases hl : xnm n f < xnm n t
  · obtain ⟨d, d1, d2, d3, d4⟩ := xlex hn hf ht hl
    obtain ⟨m, m1, m2, m3⟩ := hf.at ht ⟨d1, d2⟩ d4
    have := xdsc hd d m d1 m1 m2
    omega
  · omega
theorem xPc.pr {n : Int} {G M v : Int → Int} {s : Int} (h : xPc n G M s v) : xPr n v := ⟨h.1, fun i j q1 q2 q3 q4 q5 => (h.2 i j q1 q2 q3 q4 q5).1⟩
def xRev (n i a b : Int) (f B : Int → Int) : Prop := a + b = n + i ∧ (∀ k, i + 1 ≤ k → k < a → f k = B (n + i - k)) ∧ (∀ k, b < k → k < n → f k = B (n + i - k)) ∧ ∀ k, a ≤ k → k ≤ b → f k = B k
theorem xRev.z {n i : Int} {B : Int → Int} : xRev n i (i + 1) (n - 1) B B := ⟨by omega, fun k q1 q2 => by omega, fun k q1 q2 => by omega, fun _ _ _ => rfl⟩
theorem xRev.s {n i a b : Int} {f f' B : Int → Int} (h : xRev n i a b f B) (hi : 0 ≤ i) (ha : i + 1 ≤ a) (hab : a < b) (h1 : f' a = f b) (h2 : f' b = f a) (h3 : ∀ k, 0 ≤ k → k ≠ a → k ≠ b → f' k = f k) : xRev n i (a + 1) (b + (-1)) f' B := by
  obtain ⟨r0, r1, r2, r3⟩ := h
  refine ⟨by omega, fun k q1 q2 => ?_, fun k q1 q2 => ?_, fun k q1 q2 => ?_⟩
  · by_cases e : k = a
    · rw [e, h1, r3 b (by omega) (by omega), show n + i - a = b by omega]
    · rw [h3 k (by omega) e (by omega)]; exact r1 k q1 (by omega)
  · by_cases e : k = b
    · rw [e, h2, r3 a (by omega) (by omega), show n + i - b = a by omega]
    · rw [h3 k (by omega) (by omega) e]; exact r2 k (by omega) q2
  · rw [h3 k (by omega) (by omega) (by omega)]; exact r3 k (by omega) (by omega)
theorem xRev.fin {n i a b : Int} {f B : Int → Int} (h : xRev n i a b f B) (hab : b ≤ a) : ∀ k, i + 1 ≤ k → k < n → f k = B (n + i - k) := fun k q1 q2 => by
  obtain ⟨r0, r1, r2, r3⟩ := h
  by_cases e : k < a
  · exact r1 k q1 e
  · by_cases e' : b < k
    · exact r2 k e' q2
    · rw [r3 k (by omega) (by omega), show n + i - k = k by omega]
theorem xgo {n i j : Int} {f B f' : Int → Int} (hn : n ≤ 8) (hf : xPr n f) (hinj : xInj n f') (hi : 0 ≤ i ∧ i < j ∧ j < n) (hd : ∀ k, i + 1 ≤ k → k + 1 < n → f (k + 1) < f k) (hj : f i < f j) (hk : ∀ k, j < k → k < n → f k < f i) (b1 : B i = f j) (b2 : B j = f i) (b3 : ∀ k, 0 ≤ k → k ≠ i → k ≠ j → B k = f k) (h1 : ∀ k, 0 ≤ k → k ≤ i → f' k = B k) (h2 : ∀ k, i + 1 ≤ k → k < n → f' k = B (n + i - k)) : xPr n f' ∧ ∀ t, xPr n t → xnm n f < xnm n t → xnm n f' ≤ xnm n t := by
  have rB : ∀ k, 0 ≤ k → k < n → 0 ≤ B k ∧ B k < n := fun k q1 q2 => by
    by_cases e : k = i
    · rw [e, b1]; exact hf.1 j (by omega) (by omega)
    · by_cases e' : k = j
      · rw [e', b2]; exact hf.1 i (by omega) (by omega)
      · rw [b3 k q1 e e']; exact hf.1 k q1 q2
  have dB : ∀ k, i + 1 ≤ k → k + 1 < n → B (k + 1) < B k := fun k q1 q2 => by
    have d0 := hd k q1 q2
    by_cases e : k = j
    · rw [e, b2, b3 (j + 1) (by omega) (by omega) (by omega)]
      exact hk (j + 1) (by omega) (by omega)
    · by_cases e' : k + 1 = j
      · rw [e', b2, b3 k (by omega) (by omega) e]
        rw [e'] at d0
        omega
      · rw [b3 k (by omega) (by omega) e, b3 (k + 1) (by omega) (by omega) e']; exact d0
  have pr : xPr n f' := ⟨fun k q1 q2 => by
    by_cases e : k ≤ i
    · rw [h1 k q1 e]; exact rB k q1 q2
    · rw [h2 k (by omega) q2]; exact rB _ (by omega) (by omega), hinj⟩
  refine ⟨pr, fun t ht hl => ?_⟩
  refine xnext hn hf pr ht hi hd hj hk (fun k q1 q2 => ?_) (by rw [h1 i hi.1 (Int.le_refl _)]; exact b1) (fun k q1 q2 => ?_) hl
  · rw [h1 k q1 (by omega)]; exact b3 k q1 (by omega) (by omega)
  · rw [h2 k q1 (by omega), h2 (k + 1) (by omega) q2]
    have := dB (n + i - (k + 1)) (by omega) (by omega)
    rw [show n + i - (k + 1) + 1 = n + i - k by omega] at this
    exact this
theorem xid_min {n : Int} {f t : Int → Int} (hn : n ≤ 8) (hf : ∀ k, 0 ≤ k → k < n → f k = k) (ht : xPr n t) : xnm n f ≤ xnm n t := by
  by_cases hl : xnm n t < xnm n f
  · have pf : xPr n f := ⟨fun k q1 q2 => by rw [hf k q1 q2]; omega, fun i j q1 q2 q3 q4 q5 => by rw [hf i q1 q2, hf j q3 q4]; exact q5⟩
    obtain ⟨d, d1, d2, d3, d4⟩ := xlex hn ht pf hl
    rw [hf d d1 d2] at d3
    have r := ht.1 d d1 d2
    have e : t (t d) = t d := (d4 (t d) r.1 d3).trans (hf (t d) r.1 r.2)
    exact absurd e (ht.2 (t d) d r.1 r.2 d1 d2 (by omega))
  · omega
theorem xsum_nn {t : Int → Int} {n : Nat} (h : ∀ i : Int, 0 ≤ i → i < n → 0 ≤ t i) : 0 ≤ xsum t n := by
  induction n with
  | zero => exact Int.le_refl _
  | succ k ih =>
    have := ih (fun i q1 q2 => h i q1 (by omega))
    have q := h k (by omega) (by omega)
    show 0 ≤ xsum t k + t k
    omega
def xPq (n : Int) (G M : Int → Int) (s : Int) (f : Int → Int) (b0 : Int) : Prop := ∀ b x, 0 ≤ b → b < b0 → 0 ≤ x → x < n → b ≠ x → ¬ xFt G M s b (f b) x (f x)
def xPq2 (G M : Int → Int) (s : Int) (f : Int → Int) (b x0 : Int) : Prop := ∀ x, 0 ≤ x → x < x0 → b ≠ x → ¬ xFt G M s b (f b) x (f x)
theorem xPq2.z {G M f : Int → Int} {s b : Int} : xPq2 G M s f b 0 := fun x q1 q2 => by omega
theorem xPq2.s {G M f : Int → Int} {s b x : Int} (h : xPq2 G M s f b x) (hx : b = x ∨ ¬ xFt G M s b (f b) x (f x)) : xPq2 G M s f b (x + 1) := fun y q1 q2 q3 => by
  by_cases e : y = x
  · rw [e] at q3 ⊢; exact hx.resolve_left q3
  · exact h y q1 (by omega) q3
theorem xPq.z {n : Int} {G M f : Int → Int} {s : Int} : xPq n G M s f 0 := fun b x q1 q2 => by omega
theorem xPq.s {n b : Int} {G M f : Int → Int} {s x : Int} (h : xPq n G M s f b) (h2 : xPq2 G M s f b x) (hx : n ≤ x) : xPq n G M s f (b + 1) := fun c y q1 q2 q3 q4 q5 => by
  by_cases e : c = b
  · rw [e] at q5 ⊢; exact h2 y q3 (by omega) q5
  · exact h c y q1 (by omega) q3 q4 q5
theorem xPq.pc {n : Int} {G M f : Int → Int} {s b : Int} (h : xPq n G M s f b) (hb : n ≤ b) (hp : xPr n f) : xPc n G M s f := ⟨hp.1, fun i j q1 q2 q3 q4 q5 => ⟨hp.2 i j q1 q2 q3 q4 q5, h i j q1 (by omega) q3 q4 q5⟩⟩
theorem xPc.pq {n : Int} {G M f : Int → Int} {s : Int} (h : xPc n G M s f) : xPq n G M s f n := fun b x q1 q2 q3 q4 q5 => (h.2 b x q1 q2 q3 q4 q5).2
theorem xD.hit {A : (Int → Int) → Prop} {n : Int} {G M co t c' : Int → Int} {s m v : Int} (hA : ∀ t t', (∀ k, 0 ≤ k → k < n → t k = t' k) → A t → A t') (hn : n ≤ 8) (ht : xPc n G M s t) (hv : xVs n G t = v) (hm : m < v) (hat : A t) (hu : ∀ u, xPc n G M s u → A u → xnm n u = xnm n t) (hc : ∀ k, 0 ≤ k → k < n → c' k = t k) : xD A n G M s m v co c' := by
  refine Or.inr ⟨hm, ht.cg hc, hA t c' (fun k q1 q2 => (hc k q1 q2).symm) hat, by rw [xVs_cg hc]; exact hv, fun u q1 q2 => Or.inr ⟨?_, ?_⟩⟩
  · have e := xnm_inj (q1.r hn) (ht.r hn) (hu u q1 q2)
    rw [xVs_cg e]; exact hv
  · rw [xnm_cg hc, hu u q1 q2]; exact Int.le_refl _
theorem xVs_nn {n : Int} {G M t : Int → Int} {s : Int} (hn : 0 ≤ n ∧ n ≤ 8) (hG : ∀ j : Int, 0 ≤ j → j < 64 → 0 ≤ G j) (ht : xPc n G M s t) : 0 ≤ xVs n G t := xsum_nn (fun i q1 q2 => by
  have r := ht.1 i q1 (by omega)
  exact hG _ (by omega) (by omega))
theorem xsk_s {n : Int} {G M co h h' τ τ' : Int → Int} {s m m' z r : Int} (hn : n ≤ 8) (hz : z ≠ 0) (hp : xPr n τ) (hr : r = 0 ∨ r = 1) (hd : xD (fun t => z = 0 ∨ xnm n t < xnm n τ) n G M s (-1) m co h) (hB : (m' = m ∧ (∀ k, 0 ≤ k → k < n → h' k = h k) ∧ (xVs n G τ ≤ m ∨ ¬ xPq n G M s τ n)) ∨ (m < m' ∧ xPq n G M s τ n ∧ xVs n G τ = m' ∧ ∀ k, 0 ≤ k → k < n → h' k = τ k)) (h1 : r = 1 → ∀ t, xPr n t → xnm n τ < xnm n t → xnm n τ' ≤ xnm n t) (h0 : r = 0 → ∀ t, xPr n t → xnm n t ≤ xnm n τ) (hlt : xnm n τ + r ≤ xnm n τ') : xD (fun t => r = 0 ∨ xnm n t < xnm n τ') n G M s (-1) m' co h' := by
  have same : ∀ t, xPc n G M s t → xnm n t = xnm n τ → ∀ k, 0 ≤ k → k < n → t k = τ k := fun t ht e => xnm_inj (ht.r hn) (hp.r7 hn) e
  have cgB : ∀ t t' : Int → Int, (∀ k, 0 ≤ k → k < n → t k = t' k) → xnm n t = xnm n τ → xnm n t' = xnm n τ := fun t t' e q => by rw [← xnm_cg e]; exact q
  have hB' : xD (fun t => xnm n t = xnm n τ) n G M s m m' h h' := by
    rcases hB with ⟨a1, a2, a3⟩ | ⟨a1, a2, a3, a4⟩
    · subst a1
      refine Or.inl ⟨rfl, a2, fun t ht e => ?_⟩
      rcases a3 with a3 | a3
      · rw [xVs_cg (same t ht e)]; exact a3
      · exact absurd ((ht.cg (fun k q1 q2 => (same t ht e k q1 q2).symm)).pq) a3
    · exact xD.hit cgB hn (a2.pc (Int.le_refl _) hp) a3 a1 rfl (fun u _ e => e) a4
  have cgA : ∀ t t' : Int → Int, (∀ k, 0 ≤ k → k < n → t k = t' k) → (z = 0 ∨ xnm n t < xnm n τ) → (z = 0 ∨ xnm n t' < xnm n τ) := fun t t' e q => by rw [← xnm_cg e]; exact q
  refine xD.iff (xD.seq cgA hd hB' (fun t u _ _ a b => by omega)) (fun t ht => ?_)
  have pt := ht.pr
  rcases hr with e | e
  · have w := h0 e t pt
    exact ⟨fun _ => Or.inl e, fun _ => by omega⟩
  · have w := h1 e t pt
    refine ⟨fun q => Or.inr ?_, fun q => ?_⟩
    · omega
    · by_cases l : xnm n τ < xnm n t
      · have := w l; omega
      · omega
theorem xsk_e {n : Int} {G M co h : Int → Int} {s m z : Int} {τ : Int → Int} (hn : 0 ≤ n ∧ n ≤ 8) (hG : ∀ j : Int, 0 ≤ j → j < 64 → 0 ≤ G j) (hd : xD (fun t => z = 0 ∨ xnm n t < xnm n τ) n G M s (-1) m co h) (hz : z = 0) : xBst n G M s m h :=
  xD.bst (fun t ht => xVs_nn hn hG ht) (hd.iff (fun t _ => ⟨fun _ => trivial, fun _ => Or.inl hz⟩))
theorem xsk_0 {n : Int} {G M co τ : Int → Int} {s z : Int} (hn : n ≤ 8) (hz : z ≠ 0) (hf : ∀ k, 0 ≤ k → k < n → τ k = k) : xD (fun t => z = 0 ∨ xnm n t < xnm n τ) n G M s (-1) (-1) co co := xD.none (fun t ht a => by
  have := xid_min hn hf ht.pr
  omega)
theorem xPr.id {n : Int} {f : Int → Int} (hf : ∀ k, 0 ≤ k → k < n → f k = k) : xPr n f := ⟨fun k q1 q2 => by rw [hf k q1 q2]; omega, fun i j q1 q2 q3 q4 q5 => by rw [hf i q1 q2, hf j q3 q4]; exact q5⟩
def xtb (m c : Nat) : Nat := m / 2 ^ c % 2
def xpop (m : Nat) : Nat := xtb m 0 + xtb m 1 + xtb m 2 + xtb m 3 + xtb m 4 + xtb m 5 + xtb m 6 + xtb m 7
set_option maxRecDepth 100000 in
theorem xm_shr : ∀ m : Fin 256, ∀ c : Fin 8, (iI ((m.val : Nat) : Int) >>> (iI ((c.val : Nat) : Int) &&& 31)) &&& iI 1 = iI ((xtb m.val c.val : Nat) : Int) := by decide +kernel
set_option maxRecDepth 100000 in
theorem xm_or : ∀ m : Fin 256, ∀ c : Fin 8, xtb m.val c.val = 0 → iI ((m.val : Nat) : Int) ||| (iI 1 <<< (iI ((c.val : Nat) : Int) &&& 31)) = iI ((m.val + 2 ^ c.val : Nat) : Int) := by decide +kernel
set_option maxRecDepth 100000 in
theorem xm_pop : ∀ m : Fin 255, xBC (iI ((m.val : Nat) : Int)) = iI ((xpop m.val : Nat) : Int) := by decide +kernel
set_option maxRecDepth 100000 in
theorem xm_up : ∀ m : Fin 256, ∀ d : Fin 8, xtb m.val d.val = 0 → xpop (m.val + 2 ^ d.val) = xpop m.val + 1 ∧ m.val + 2 ^ d.val < 256 ∧ ∀ c : Fin 8, c ≠ d → xtb (m.val + 2 ^ d.val) c.val = xtb m.val c.val := by decide +kernel
set_option maxRecDepth 100000 in
theorem xm_lt : ∀ m : Fin 256, ∀ n : Fin 9, (∀ c : Fin 8, n.val ≤ c.val → xtb m.val c.val = 0) → m.val < 2 ^ n.val ∧ (xpop m.val = n.val → m.val + 1 = 2 ^ n.val) := by decide +kernel
set_option maxRecDepth 100000 in
theorem xm_all : ∀ n : Fin 9, xpop (2 ^ n.val - 1) = n.val := by decide +kernel
def xmk (t : Int → Int) : Nat → Nat
  | 0 => 0
  | k + 1 => xmk t k + 2 ^ (t k).toNat
theorem xmk_cg {t t' : Int → Int} {b : Nat} (h : ∀ k : Int, 0 ≤ k → k < b → t k = t' k) : xmk t b = xmk t' b := by
  induction b with
  | zero => rfl
  | succ b ih => show xmk t b + _ = xmk t' b + _; rw [ih (fun k q1 q2 => h k q1 (by omega)), h b (by omega) (by omega)]
def xPfx (n : Int) (t : Int → Int) (b : Nat) : Prop := (b : Int) ≤ n ∧ (∀ k : Int, 0 ≤ k → k < b → 0 ≤ t k ∧ t k < n) ∧ ∀ i j : Int, 0 ≤ i → i < b → 0 ≤ j → j < b → i ≠ j → t i ≠ t j
theorem xmk_in {n : Int} {t : Int → Int} (hn : n ≤ 8) : ∀ b : Nat, xPfx n t b → xmk t b < 256 ∧ xpop (xmk t b) = b ∧ ∀ c : Nat, c < 8 → (∀ k : Int, 0 ≤ k → k < b → t k ≠ c) → xtb (xmk t b) c = 0 := by
  intro b
  induction b with
  | zero =>
    intro _
    refine ⟨show 0 < 256 by decide, show xpop 0 = 0 by decide, fun c _ _ => ?_⟩
    show 0 / 2 ^ c % 2 = 0
    rw [Nat.zero_div]
  | succ b ih =>
    rintro ⟨h1, h2, h3⟩
    obtain ⟨a1, a2, a3⟩ := ih ⟨by omega, fun k q1 q2 => h2 k q1 (by omega), fun i j q1 q2 q3 q4 q5 => h3 i j q1 (by omega) q3 (by omega) q5⟩
    have r := h2 b (by omega) (by omega)
    have hd : (t b).toNat < 8 := by omega
    have z := a3 (t b).toNat hd (fun k q1 q2 => by
      rw [show (((t b).toNat : Nat) : Int) = t b by omega]
      exact h3 k b q1 (by omega) (by omega) (by omega) (by omega))
    obtain ⟨u1, u2, u3⟩ := xm_up ⟨xmk t b, a1⟩ ⟨(t b).toNat, hd⟩ z
    refine ⟨u2, ?_, fun c hc hk => ?_⟩
    · show xpop (xmk t b + 2 ^ (t b).toNat) = b + 1
      exact u1.trans (by show xpop (xmk t b) + 1 = b + 1; rw [a2])
    · have ne : (⟨c, hc⟩ : Fin 8) ≠ ⟨(t b).toNat, hd⟩ := fun e => by
        have e' : c = (t b).toNat := congrArg Fin.val e
        exact hk b (by omega) (by omega) (by omega)
      have := u3 ⟨c, hc⟩ ne
      show xtb (xmk t b + 2 ^ (t b).toNat) c = 0
      rw [show xtb (xmk t b + 2 ^ (t b).toNat) c = xtb (xmk t b) c from this]
      exact a3 c hc (fun k q1 q2 => hk k q1 (by omega))
theorem xmk_lt {n : Int} {t : Int → Int} {b : Nat} (hn : 0 ≤ n ∧ n ≤ 8) (h : xPfx n t b) : xmk t b < 2 ^ n.toNat ∧ (b = n.toNat → xmk t b + 1 = 2 ^ n.toNat) := by
  obtain ⟨a1, a2, a3⟩ := xmk_in hn.2 b h
  have q := xm_lt ⟨xmk t b, a1⟩ ⟨n.toNat, by omega⟩ (fun c hc => a3 c.val c.isLt (fun k q1 q2 => by
    have := h.2.1 k q1 q2
    have hc' : n.toNat ≤ c.val := hc
    omega))
  exact ⟨q.1, fun e => q.2 (by show xpop (xmk t b) = n.toNat; rw [a2, e])⟩
theorem xmk_full {n : Int} {t : Int → Int} {b : Nat} (hn : 0 ≤ n ∧ n ≤ 8) (h : xPfx n t b) (e : xmk t b + 1 = 2 ^ n.toNat) : b = n.toNat := by
  have a2 := (xmk_in hn.2 b h).2.1
  have := xm_all ⟨n.toNat, by omega⟩
  have e' : xmk t b = 2 ^ n.toNat - 1 := by omega
  rw [← a2, e']
  exact this
def xps (G t : Int → Int) (b : Nat) : Int := xsum (fun k => G (8 * k + t k)) b
def xRs (n : Int) (G r : Int → Int) : Prop := ∀ t, xPr n t → ∀ b : Nat, (b : Int) ≤ n → xps G t n.toNat - xps G t b ≤ r ((xmk t b : Nat) : Int)
def xRz (n : Int) (G r : Int → Int) (z : Int) : Prop := ∀ t, xPr n t → ∀ b : Nat, (b : Int) ≤ n → z < (xmk t b : Nat) → xps G t n.toNat - xps G t b ≤ r ((xmk t b : Nat) : Int)
theorem xPr.px {n : Int} {t : Int → Int} (h : xPr n t) {b : Nat} (hb : (b : Int) ≤ n) : xPfx n t b := ⟨hb, fun k q1 q2 => h.1 k q1 (by omega), fun i j q1 q2 q3 q4 q5 => h.2 i j q1 (by omega) q3 (by omega) q5⟩
theorem xRz.start {n z : Int} {G r : Int → Int} (hn : 0 ≤ n ∧ n ≤ 8) (hz : z + 1 = ((2 ^ n.toNat : Nat) : Int)) (h0 : 0 ≤ r z) : xRz n G r (z - 1) := fun t ht b hb hl => by
  have l := xmk_lt hn (ht.px hb)
  have e : xmk t b + 1 = 2 ^ n.toNat := by omega
  have eb := xmk_full hn (ht.px hb) e
  rw [eb, Int.sub_self, show ((xmk t n.toNat : Nat) : Int) = z by rw [← eb]; omega]
  exact h0
theorem xRz.step {n z b0 m : Int} {G r r' : Int → Int} (hn : 0 ≤ n ∧ n ≤ 8) (h : xRz n G r z) (hz : 0 ≤ z ∧ z < 255) (hz2 : z + 1 < ((2 ^ n.toNat : Nat) : Int)) (hb : b0 = ((xpop z.toNat : Nat) : Int)) (hm : ∀ c : Int, 0 ≤ c → c < n → xtb z.toNat c.toNat = 0 → G (8 * b0 + c) + r (z + ((2 ^ c.toNat : Nat) : Int)) ≤ m) (h1 : r' z = m) (h2 : ∀ i, 0 ≤ i → i ≠ z → r' i = r i) : xRz n G r' (z - 1) := fun t ht b hb' hl => by
  have px := ht.px hb'
  by_cases e : ((xmk t b : Nat) : Int) = z
  · obtain ⟨a1, a2, a3⟩ := xmk_in hn.2 b px
    have eb : z.toNat = xmk t b := by omega
    have hbn : (b : Int) < n := by
      by_cases q : b = n.toNat
      · have := (xmk_lt hn px).2 q; omega
      · omega
    have rb := ht.1 b (by omega) hbn
    have zb := a3 (t b).toNat (by omega) (fun k q1 q2 => by
      rw [show (((t b).toNat : Nat) : Int) = t b by omega]
      exact ht.2 k b q1 (by omega) (by omega) hbn (by omega))
    have key := hm (t b) rb.1 rb.2 (by rw [eb]; exact zb)
    have nx : xmk t (b + 1) = xmk t b + 2 ^ (t b).toNat := rfl
    have up : z < ((xmk t (b + 1) : Nat) : Int) := by
      have : 0 < 2 ^ (t b).toNat := Nat.two_pow_pos _
      omega
    have tl := h t ht (b + 1) (by omega) up
    have ps : xps G t (b + 1) = xps G t b + G (8 * b + t b) := rfl
    have hb0 : b0 = b := by rw [hb, eb, a2]
    rw [e, h1]
    rw [nx] at tl
    rw [hb0] at key
    have : z + ((2 ^ (t b).toNat : Nat) : Int) = ((xmk t b + 2 ^ (t b).toNat : Nat) : Int) := by omega
    rw [this] at key
    omega
  · rw [h2 _ (by omega) e]
    exact h t ht b hb' (by omega)
theorem xRz.all {n : Int} {G r : Int → Int} (h : xRz n G r (-1)) : xRs n G r := fun t ht b hb => h t ht b hb (by omega)
set_option maxHeartbeats 4000000 in
set_option maxRecDepth 100000 in
theorem c_sumOf_t (l : Launch) (D : va_G) (kA : Nat → ClassId) (b0 : Nat) (t0 : Nat → Nat) (S : xT) (g : xG) (a0 : Nat) (a1 : Nat) (x2 : Int) (hs_a0 : S a0 = some (18100, 64)) (hs_a1 : S a1 = some (18400, 8)) (hx2 : 1 ≤ x2 ∧ x2 ≤ 8) : xMt l yX12_sumOf cX12_sumOf 5 (some .int) 0 0 0 0 D kA b0 t0 [] [.ref a0, .ref a1, .int (iI x2)] S g (fun (r : Option Value) (S1 : xT) (g1 : xG) => S = S1 ∧ g = g1 ∧ ∃ z : Int, r = some (.int (iI z)) ∧ 0 ≤ z ∧ z ≤ 2040 ∧ (z = xsum (fun k => xv g a0 (8 * k + xv g a1 k)) x2.toNat)) := by
  refine xEnterI (by decide) (by simp [lg_sl, Value.category]) [(0, .ref a0), (1, .ref a1), (2, .int (iI x2))] rfl ?_
  intro K E hK hret _ _ _
  refine X_iconst hK kd45_32.2.2.2.2.2.2.2.2.2.2.2 ?_
  refine X_istoren hK (i := 3) [(3, .int (iI 0)), (0, .ref a0), (1, .ref a1), (2, .int (iI x2))] kd45_33.1 rfl (by decide) rfl ?_
  refine X_iconst hK kd45_33.2.1 ?_
  refine X_istore hK (i := 4) [(4, .int (iI 0)), (3, .int (iI 0)), (0, .ref a0), (1, .ref a1), (2, .int (iI x2))] kd45_33.2.2.1 (by decide) rfl ?_
  have P31 : ∀ (nP31 : Nat) (z26 : Int) (_ : 0 ≤ z26) (_ : z26 ≤ 8) (z27 : Int) (_ : 0 ≤ z27) (_ : z27 ≤ 2040) (_ : z27 = xsum (fun k => xv g a0 (8 * k + xv g a1 k)) z26.toNat) (_ : z26 ≤ x2) (_ : z27 ≤ 255 * z26) (_ : 24 - z26 < (nP31 : Int)), X K E 5 [(4, .int (iI z26)), (3, .int (iI z27)), (0, .ref a0), (1, .ref a1), (2, .int (iI x2))] [] S g 0 0 := by
    intro nP31
    induction nP31 with
    | zero => intro z26 lz26 uz26 z27 lz27 uz27 v32 v33 v34 mP31; exact False.elim (by omega)
    | succ nP31 ihP31 =>
      intro z26 lz26 uz26 z27 lz27 uz27 v32 v33 v34 mP31
      refine X_iload hK (i := 4) 0 kd45_33.2.2.2.1 rfl ?_
      refine X_iloadn hK (i := 2) 4 kd45_33.2.2.2.2.1 rfl rfl ?_
      refine X_icmp_ge hK 32 (by omega) (by omega) kd45_33.2.2.2.2.2.1 (by decide) (fun c35 => ?_) (fun c35 => ?_)
      · refine X_iloadn hK (i := 3) 1 kd45_34.2.2.2.2.2.2.2.2.1 rfl rfl ?_
        exact hret _ _ _ _ _ _ _ kd45_34.2.2.2.2.2.2.2.2.2 ⟨rfl, rfl, z27, rfl, (by omega), (by omega), (by rw [show x2.toNat = z26.toNat by omega]; exact v32)⟩ (Nat.le_refl _) (Nat.le_refl _)
      · refine X_iloadn hK (i := 3) 1 kd45_33.2.2.2.2.2.2.1 rfl rfl ?_
        refine X_aloadn hK (i := 0) 2 kd45_33.2.2.2.2.2.2.2.1 rfl rfl ?_
        refine X_bipush hK kd45_33.2.2.2.2.2.2.2.2.1 (by decide) ?_
        refine X_iload hK (i := 4) 0 kd45_33.2.2.2.2.2.2.2.2.2.1 rfl ?_
        refine X_imul hK kd45_33.2.2.2.2.2.2.2.2.2.2.1 ?_
        refine X_aloadn hK (i := 1) 3 kd45_33.2.2.2.2.2.2.2.2.2.2.2 rfl rfl ?_
        refine X_iload hK (i := 4) 0 kd45_34.1 rfl ?_
        refine X_iald hK hs_a1 (by decide) sl_18400 (by omega) (by omega) kd45_34.2.1 (fun z36 ez36 lz36 uz36 => ?_)
        have hw37 : xv g a1 z26 = z36 := xv_e (j := z26) ez36 (by omega)
        refine X_iadd hK kd45_34.2.2.1 ?_
        refine X_iald hK hs_a0 (by decide) sl_18100 (by omega) (by omega) kd45_34.2.2.2.1 (fun z38 ez38 lz38 uz38 => ?_)
        have hw39 : xv g a0 ((8 * z26) + z36) = z38 := xv_e (j := ((8 * z26) + z36)) ez38 (by omega)
        refine X_iadd hK kd45_34.2.2.2.2.1 ?_
        refine X_istoren hK (i := 3) [(3, .int (iI (z27 + z38))), (4, .int (iI z26)), (0, .ref a0), (1, .ref a1), (2, .int (iI x2))] kd45_34.2.2.2.2.2.1 rfl (by decide) rfl ?_
        refine X_iinc hK (i := 4) (z := z26) (n := 1) 1 [(4, .int (iI (z26 + 1))), (3, .int (iI (z27 + z38))), (0, .ref a0), (1, .ref a1), (2, .int (iI x2))] kd45_34.2.2.2.2.2.2.1 rfl (by decide) rfl ?_
        refine X_goto hK 5 kd45_34.2.2.2.2.2.2.2.1 (by decide) ?_
        exact ihP31  (z26 + 1) (by omega) (by omega) (z27 + z38) (by omega) (by omega) (xsum_add (v := z38) v32 (by omega) (by show xv g a0 (8 * z26 + xv g a1 z26) = _; rw [hw37]; exact hw39)) (by omega) (by omega) (by omega)
  exact P31 ((24 - 0 : Int).toNat + 1) 0 (by omega) (by omega) 0 (by omega) (by omega) rfl (by omega) (by omega) (by omega)

set_option maxHeartbeats 4000000 in
set_option maxRecDepth 100000 in
theorem c_sumOf_h (l : Launch) (D : va_G) (kA : Nat → ClassId) (b0 : Nat) (t0 : Nat → Nat) (S : xT) (g : xG) (a0 : Nat) (a1 : Nat) (x2 : Int) (hs_a0 : S a0 = some (18100, 64)) (hs_a1 : S a1 = some (18300, 8)) (hx2 : 1 ≤ x2 ∧ x2 ≤ 8) (hp0 : xCo x2 (xv g a1)) : xMt l yX12_sumOf cX12_sumOf 5 (some .int) 0 0 0 0 D kA b0 t0 [] [.ref a0, .ref a1, .int (iI x2)] S g (fun (r : Option Value) (S1 : xT) (g1 : xG) => S = S1 ∧ g = g1 ∧ ∃ z : Int, r = some (.int (iI z)) ∧ 0 ≤ z ∧ z ≤ 2040 ∧ (z = xsum (fun k => xv g a0 (8 * k + xv g a1 k)) x2.toNat)) := by
  refine xEnterI (by decide) (by simp [lg_sl, Value.category]) [(0, .ref a0), (1, .ref a1), (2, .int (iI x2))] rfl ?_
  intro K E hK hret _ _ _
  refine X_iconst hK kd45_32.2.2.2.2.2.2.2.2.2.2.2 ?_
  refine X_istoren hK (i := 3) [(3, .int (iI 0)), (0, .ref a0), (1, .ref a1), (2, .int (iI x2))] kd45_33.1 rfl (by decide) rfl ?_
  refine X_iconst hK kd45_33.2.1 ?_
  refine X_istore hK (i := 4) [(4, .int (iI 0)), (3, .int (iI 0)), (0, .ref a0), (1, .ref a1), (2, .int (iI x2))] kd45_33.2.2.1 (by decide) rfl ?_
  have P37 : ∀ (nP37 : Nat) (z31 : Int) (_ : 0 ≤ z31) (_ : z31 ≤ 8) (z32 : Int) (_ : 0 ≤ z32) (_ : z32 ≤ 2040) (_ : z32 = xsum (fun k => xv g a0 (8 * k + xv g a1 k)) z31.toNat) (_ : z31 ≤ x2) (_ : z32 ≤ 255 * z31) (_ : 24 - z31 < (nP37 : Int)), X K E 5 [(4, .int (iI z31)), (3, .int (iI z32)), (0, .ref a0), (1, .ref a1), (2, .int (iI x2))] [] S g 0 0 := by
    intro nP37
    induction nP37 with
    | zero => intro z31 lz31 uz31 z32 lz32 uz32 v38 v39 v40 mP37; exact False.elim (by omega)
    | succ nP37 ihP37 =>
      intro z31 lz31 uz31 z32 lz32 uz32 v38 v39 v40 mP37
      refine X_iload hK (i := 4) 0 kd45_33.2.2.2.1 rfl ?_
      refine X_iloadn hK (i := 2) 4 kd45_33.2.2.2.2.1 rfl rfl ?_
      refine X_icmp_ge hK 32 (by omega) (by omega) kd45_33.2.2.2.2.2.1 (by decide) (fun c41 => ?_) (fun c41 => ?_)
      · refine X_iloadn hK (i := 3) 1 kd45_34.2.2.2.2.2.2.2.2.1 rfl rfl ?_
        exact hret _ _ _ _ _ _ _ kd45_34.2.2.2.2.2.2.2.2.2 ⟨rfl, rfl, z32, rfl, (by omega), (by omega), (by rw [show x2.toNat = z31.toNat by omega]; exact v38)⟩ (Nat.le_refl _) (Nat.le_refl _)
      · refine X_iloadn hK (i := 3) 1 kd45_33.2.2.2.2.2.2.1 rfl rfl ?_
        refine X_aloadn hK (i := 0) 2 kd45_33.2.2.2.2.2.2.2.1 rfl rfl ?_
        refine X_bipush hK kd45_33.2.2.2.2.2.2.2.2.1 (by decide) ?_
        refine X_iload hK (i := 4) 0 kd45_33.2.2.2.2.2.2.2.2.2.1 rfl ?_
        refine X_imul hK kd45_33.2.2.2.2.2.2.2.2.2.2.1 ?_
        refine X_aloadn hK (i := 1) 3 kd45_33.2.2.2.2.2.2.2.2.2.2.2 rfl rfl ?_
        refine X_iload hK (i := 4) 0 kd45_34.1 rfl ?_
        refine X_iald hK hs_a1 (by decide) sl_18300 (by omega) (by omega) kd45_34.2.1 (fun z42 ez42 lz42 uz42 => ?_)
        have hch43 : 0 ≤ z42 := by have h9 := hp0 z31 (by omega) (by omega); rw [xv_e (j := z31) ez42 (by omega)] at h9; exact h9
        have hw44 : xv g a1 z31 = z42 := xv_e (j := z31) ez42 (by omega)
        refine X_iadd hK kd45_34.2.2.1 ?_
        refine X_iald hK hs_a0 (by decide) sl_18100 (by omega) (by omega) kd45_34.2.2.2.1 (fun z45 ez45 lz45 uz45 => ?_)
        have hw46 : xv g a0 ((8 * z31) + z42) = z45 := xv_e (j := ((8 * z31) + z42)) ez45 (by omega)
        refine X_iadd hK kd45_34.2.2.2.2.1 ?_
        refine X_istoren hK (i := 3) [(3, .int (iI (z32 + z45))), (4, .int (iI z31)), (0, .ref a0), (1, .ref a1), (2, .int (iI x2))] kd45_34.2.2.2.2.2.1 rfl (by decide) rfl ?_
        refine X_iinc hK (i := 4) (z := z31) (n := 1) 1 [(4, .int (iI (z31 + 1))), (3, .int (iI (z32 + z45))), (0, .ref a0), (1, .ref a1), (2, .int (iI x2))] kd45_34.2.2.2.2.2.2.1 rfl (by decide) rfl ?_
        refine X_goto hK 5 kd45_34.2.2.2.2.2.2.2.1 (by decide) ?_
        exact ihP37  (z31 + 1) (by omega) (by omega) (z32 + z45) (by omega) (by omega) (xsum_add (v := z45) v38 (by omega) (by show xv g a0 (8 * z31 + xv g a1 z31) = _; rw [hw44]; exact hw46)) (by omega) (by omega) (by omega)
  exact P37 ((24 - 0 : Int).toNat + 1) 0 (by omega) (by omega) 0 (by omega) (by omega) rfl (by omega) (by omega) (by omega)

set_option maxHeartbeats 4000000 in
set_option maxRecDepth 100000 in
theorem c_mPeace_t (l : Launch) (D : va_G) (kA : Nat → ClassId) (b0 : Nat) (t0 : Nat → Nat) (S : xT) (g : xG) (a0 : Nat) (a1 : Nat) (x2 : Int) (x3 : Int) (wg1 : Nat) (wm1 : Nat) (hs_a0 : S a0 = some (13, 0)) (hs_a1 : S a1 = some (18400, 8)) (hx2 : 1 ≤ x2 ∧ x2 ≤ 8) (hx3 : 1 ≤ x3 ∧ x3 ≤ 255) (ewg1 : g a0 72 = .ref wg1) (hs_wg1 : S wg1 = some (18100, 64)) (ewm1 : g a0 73 = .ref wm1) (hs_wm1 : S wm1 = some (18200, 64)) : xMt l yX12_hasPeace cX12_hasPeace 7 (some .boolean) 0 0 0 0 D kA b0 t0 [] [.ref a0, .ref a1, .int (iI x2), .int (iI x3)] S g (fun (r : Option Value) (S1 : xT) (g1 : xG) => S = S1 ∧ g = g1 ∧ ∃ z : Int, r = some (.int (iI z)) ∧ 0 ≤ z ∧ z ≤ 1 ∧ ((z = 1 ↔ xPq x2 (xv g wg1) (xv g wm1) x3 (xv g a1) x2))) := by
  refine xEnterZ (by decide) (by simp [lg_sl, Value.category]) [(0, .ref a0), (1, .ref a1), (2, .int (iI x2)), (3, .int (iI x3))] rfl ?_
  intro K E hK hret _ _ _
  refine X_iconst hK kd45_6.2.2.2.2.2.2.1 ?_
  refine X_istore hK (i := 4) [(4, .int (iI 0)), (0, .ref a0), (1, .ref a1), (2, .int (iI x2)), (3, .int (iI x3))] kd45_6.2.2.2.2.2.2.2.1 (by decide) rfl ?_
  have P473 : ∀ (nP473 : Nat) (z393 : Int) (_ : 0 ≤ z393) (_ : z393 ≤ 8) (_ : xPq x2 (xv g wg1) (xv g wm1) x3 (xv g a1) z393) (_ : 24 - z393 < (nP473 : Int)), X K E 3 [(4, .int (iI z393)), (0, .ref a0), (1, .ref a1), (2, .int (iI x2)), (3, .int (iI x3))] [] S g 0 0 := by
    intro nP473
    induction nP473 with
    | zero => intro z393 lz393 uz393 v474 mP473; exact False.elim (by omega)
    | succ nP473 ihP473 =>
      intro z393 lz393 uz393 v474 mP473
      refine X_iload hK (i := 4) 0 kd45_6.2.2.2.2.2.2.2.2.1 rfl ?_
      refine X_iloadn hK (i := 2) 3 kd45_6.2.2.2.2.2.2.2.2.2.1 rfl rfl ?_
      refine X_icmp_ge hK 110 (by omega) (by omega) kd45_6.2.2.2.2.2.2.2.2.2.2.1 (by decide) (fun c475 => ?_) (fun c475 => ?_)
      · refine X_iconst hK kd45_11.2.2.2.2.2.2.2.2.1 ?_
        exact hret _ _ _ _ _ _ _ kd45_11.2.2.2.2.2.2.2.2.2.1 (by omega) (by omega) ⟨rfl, rfl, 1, rfl, (by omega), (by omega), ⟨fun _ b9 x9 q1 q2 q3 q4 q5 => v474 b9 x9 q1 (by omega) q3 q4 q5, fun _ => rfl⟩⟩ (Nat.le_refl _) (Nat.le_refl _)
      · refine X_iconst hK kd45_6.2.2.2.2.2.2.2.2.2.2.2 ?_
        refine X_istore hK (i := 5) [(5, .int (iI 0)), (4, .int (iI z393)), (0, .ref a0), (1, .ref a1), (2, .int (iI x2)), (3, .int (iI x3))] kd45_7.1 (by decide) rfl ?_
        have P542 : ∀ (nP542 : Nat) (z531 : Int) (_ : 0 ≤ z531) (_ : z531 ≤ 8) (_ : xPq2 (xv g wg1) (xv g wm1) x3 (xv g a1) z393 z531) (_ : 24 - z531 < (nP542 : Int)), X K E 12 [(5, .int (iI z531)), (4, .int (iI z393)), (0, .ref a0), (1, .ref a1), (2, .int (iI x2)), (3, .int (iI x3))] [] S g 0 0 := by
          intro nP542
          induction nP542 with
          | zero => intro z531 lz531 uz531 v543 mP542; exact False.elim (by omega)
          | succ nP542 ihP542 =>
            intro z531 lz531 uz531 v543 mP542
            refine X_iload hK (i := 5) 0 kd45_7.2.1 rfl ?_
            refine X_iloadn hK (i := 2) 4 kd45_7.2.2.1 rfl rfl ?_
            refine X_icmp_ge hK 104 (by omega) (by omega) kd45_7.2.2.2.1 (by decide) (fun c544 => ?_) (fun c544 => ?_)
            · refine X_iinc hK (i := 4) (z := z393) (n := 1) 1 [(4, .int (iI (z393 + 1))), (5, .int (iI z531)), (0, .ref a0), (1, .ref a1), (2, .int (iI x2)), (3, .int (iI x3))] kd45_11.2.2.2.2.2.2.1 rfl (by decide) rfl ?_
              refine X_goto hK 3 kd45_11.2.2.2.2.2.2.2.1 (by decide) ?_
              refine X_lv [(4, .int (iI (z393 + 1))), (0, .ref a0), (1, .ref a1), (2, .int (iI x2)), (3, .int (iI x3))] [0, 2, 3, 4, 5] rfl ?_
              exact ihP473  (z393 + 1) (by omega) (by omega) (xPq.s v474 v543 (by omega)) (by omega)
            · refine X_iload hK (i := 5) 0 kd45_7.2.2.2.2.1 rfl ?_
              refine X_iload hK (i := 4) 1 kd45_7.2.2.2.2.2.1 rfl ?_
              refine X_icmp_ne hK 28 (by omega) (by omega) kd45_7.2.2.2.2.2.2.1 (by decide) (fun c545 => ?_) (fun c545 => ?_)
              · refine X_aloadn hK (i := 1) 3 kd45_7.2.2.2.2.2.2.2.2.1 rfl rfl ?_
                refine X_iload hK (i := 5) 0 kd45_7.2.2.2.2.2.2.2.2.2.1 rfl ?_
                refine X_iald hK hs_a1 (by decide) sl_18400 (by omega) (by omega) kd45_7.2.2.2.2.2.2.2.2.2.2.1 (fun z546 ez546 lz546 uz546 => ?_)
                have hw547 : xv g a1 z531 = z546 := xv_e (j := z531) ez546 (by omega)
                refine X_istore hK (i := 6) [(6, .int (iI z546)), (5, .int (iI z531)), (4, .int (iI z393)), (0, .ref a0), (1, .ref a1), (2, .int (iI x2)), (3, .int (iI x3))] kd45_7.2.2.2.2.2.2.2.2.2.2.2 (by decide) rfl ?_
                refine X_aloadn hK (i := 0) 3 kd45_8.1 rfl rfl ?_
                refine X_getK hK fl_X12_153_13 hs_a0 ewg1 kd45_8.2.1 ?_
                refine X_bipush hK kd45_8.2.2.1 (by decide) ?_
                refine X_iload hK (i := 4) 2 kd45_8.2.2.2.1 rfl ?_
                refine X_imul hK kd45_8.2.2.2.2.1 ?_
                refine X_iload hK (i := 6) 0 kd45_8.2.2.2.2.2.1 rfl ?_
                refine X_iadd hK kd45_8.2.2.2.2.2.2.1 ?_
                refine X_iald hK hs_wg1 (by decide) sl_18100 (by omega) (by omega) kd45_8.2.2.2.2.2.2.2.1 (fun z548 ez548 lz548 uz548 => ?_)
                have hw549 : xv g wg1 ((8 * z393) + z546) = z548 := xv_e (j := ((8 * z393) + z546)) ez548 (by omega)
                refine X_aloadn hK (i := 0) 3 kd45_8.2.2.2.2.2.2.2.2.1 rfl rfl ?_
                refine X_getK hK fl_X12_153_13 hs_a0 ewg1 kd45_8.2.2.2.2.2.2.2.2.2.1 ?_
                refine X_bipush hK kd45_8.2.2.2.2.2.2.2.2.2.2.1 (by decide) ?_
                refine X_iload hK (i := 4) 2 kd45_8.2.2.2.2.2.2.2.2.2.2.2 rfl ?_
                refine X_imul hK kd45_9.1 ?_
                refine X_aloadn hK (i := 1) 4 kd45_9.2.1 rfl rfl ?_
                refine X_iload hK (i := 4) 2 kd45_9.2.2.1 rfl ?_
                refine X_iald hK hs_a1 (by decide) sl_18400 (by omega) (by omega) kd45_9.2.2.2.1 (fun z550 ez550 lz550 uz550 => ?_)
                have hw551 : xv g a1 z393 = z550 := xv_e (j := z393) ez550 (by omega)
                refine X_iadd hK kd45_9.2.2.2.2.1 ?_
                refine X_iald hK hs_wg1 (by decide) sl_18100 (by omega) (by omega) kd45_9.2.2.2.2.2.1 (fun z552 ez552 lz552 uz552 => ?_)
                have hw553 : xv g wg1 ((8 * z393) + z550) = z552 := xv_e (j := ((8 * z393) + z550)) ez552 (by omega)
                refine X_iloadn hK (i := 3) 6 kd45_9.2.2.2.2.2.2.1 rfl rfl ?_
                refine X_iadd hK kd45_9.2.2.2.2.2.2.2.1 ?_
                refine X_icmp_lt hK 98 (by omega) (by omega) kd45_9.2.2.2.2.2.2.2.2.1 (by decide) (fun c554 => ?_) (fun c554 => ?_)
                · refine X_iinc hK (i := 5) (z := z531) (n := 1) 1 [(5, .int (iI (z531 + 1))), (6, .int (iI z546)), (4, .int (iI z393)), (0, .ref a0), (1, .ref a1), (2, .int (iI x2)), (3, .int (iI x3))] kd45_11.2.2.2.2.1 rfl (by decide) rfl ?_
                  refine X_goto hK 12 kd45_11.2.2.2.2.2.1 (by decide) ?_
                  refine X_lv [(5, .int (iI (z531 + 1))), (4, .int (iI z393)), (0, .ref a0), (1, .ref a1), (2, .int (iI x2)), (3, .int (iI x3))] [0, 2, 3, 4, 5, 6] rfl ?_
                  exact ihP542  (z531 + 1) (by omega) (by omega) (xPq2.s v543 (Or.inr (by unfold xFt; rw [hw547, hw551]; omega))) (by omega)
                · refine X_aloadn hK (i := 0) 3 kd45_9.2.2.2.2.2.2.2.2.2.1 rfl rfl ?_
                  refine X_getK hK fl_X12_156_13 hs_a0 ewm1 kd45_9.2.2.2.2.2.2.2.2.2.2.1 ?_
                  refine X_bipush hK kd45_9.2.2.2.2.2.2.2.2.2.2.2 (by decide) ?_
                  refine X_iload hK (i := 4) 2 kd45_10.1 rfl ?_
                  refine X_imul hK kd45_10.2.1 ?_
                  refine X_iload hK (i := 6) 0 kd45_10.2.2.1 rfl ?_
                  refine X_iadd hK kd45_10.2.2.2.1 ?_
                  refine X_iald hK hs_wm1 (by decide) sl_18200 (by omega) (by omega) kd45_10.2.2.2.2.1 (fun z555 ez555 lz555 uz555 => ?_)
                  have hw556 : xv g wm1 ((8 * z393) + z546) = z555 := xv_e (j := ((8 * z393) + z546)) ez555 (by omega)
                  refine X_aloadn hK (i := 0) 3 kd45_10.2.2.2.2.2.1 rfl rfl ?_
                  refine X_getK hK fl_X12_156_13 hs_a0 ewm1 kd45_10.2.2.2.2.2.2.1 ?_
                  refine X_bipush hK kd45_10.2.2.2.2.2.2.2.1 (by decide) ?_
                  refine X_iload hK (i := 5) 1 kd45_10.2.2.2.2.2.2.2.2.1 rfl ?_
                  refine X_imul hK kd45_10.2.2.2.2.2.2.2.2.2.1 ?_
                  refine X_iload hK (i := 6) 0 kd45_10.2.2.2.2.2.2.2.2.2.2.1 rfl ?_
                  refine X_iadd hK kd45_10.2.2.2.2.2.2.2.2.2.2.2 ?_
                  refine X_iald hK hs_wm1 (by decide) sl_18200 (by omega) (by omega) kd45_11.1 (fun z557 ez557 lz557 uz557 => ?_)
                  have hw558 : xv g wm1 ((8 * z531) + z546) = z557 := xv_e (j := ((8 * z531) + z546)) ez557 (by omega)
                  refine X_icmp_le hK 98 (by omega) (by omega) kd45_11.2.1 (by decide) (fun c559 => ?_) (fun c559 => ?_)
                  · refine X_iinc hK (i := 5) (z := z531) (n := 1) 1 [(5, .int (iI (z531 + 1))), (6, .int (iI z546)), (4, .int (iI z393)), (0, .ref a0), (1, .ref a1), (2, .int (iI x2)), (3, .int (iI x3))] kd45_11.2.2.2.2.1 rfl (by decide) rfl ?_
                    refine X_goto hK 12 kd45_11.2.2.2.2.2.1 (by decide) ?_
                    refine X_lv [(5, .int (iI (z531 + 1))), (4, .int (iI z393)), (0, .ref a0), (1, .ref a1), (2, .int (iI x2)), (3, .int (iI x3))] [0, 2, 3, 4, 5, 6] rfl ?_
                    exact ihP542  (z531 + 1) (by omega) (by omega) (xPq2.s v543 (Or.inr (by unfold xFt; rw [hw547, hw551]; omega))) (by omega)
                  · refine X_iconst hK kd45_11.2.2.1 ?_
                    exact hret _ _ _ _ _ _ _ kd45_11.2.2.2.1 (by omega) (by omega) ⟨rfl, rfl, 0, rfl, (by omega), (by omega), ⟨fun h9 => by omega, fun h9 => absurd (show xFt _ _ _ z393 _ z531 _ from by unfold xFt; rw [hw547, hw551]; omega) (h9 z393 z531 (by omega) (by omega) (by omega) (by omega) (by omega))⟩⟩ (Nat.le_refl _) (Nat.le_refl _)
              · refine X_goto hK 98 kd45_7.2.2.2.2.2.2.2.1 (by decide) ?_
                refine X_iinc hK (i := 5) (z := z531) (n := 1) 0 [(5, .int (iI (z531 + 1))), (4, .int (iI z393)), (0, .ref a0), (1, .ref a1), (2, .int (iI x2)), (3, .int (iI x3))] kd45_11.2.2.2.2.1 rfl (by decide) rfl ?_
                refine X_goto hK 12 kd45_11.2.2.2.2.2.1 (by decide) ?_
                exact ihP542  (z531 + 1) (by omega) (by omega) (xPq2.s v543 (Or.inl (by omega))) (by omega)
        exact P542 ((24 - 0 : Int).toNat + 1) 0 (by omega) (by omega) xPq2.z (by omega)
  exact P473 ((24 - 0 : Int).toNat + 1) 0 (by omega) (by omega) xPq.z (by omega)

set_option maxHeartbeats 4000000 in
set_option maxRecDepth 100000 in
theorem c_mPeace_h (l : Launch) (D : va_G) (kA : Nat → ClassId) (b0 : Nat) (t0 : Nat → Nat) (S : xT) (g : xG) (a0 : Nat) (a1 : Nat) (x2 : Int) (x3 : Int) (wg1 : Nat) (wm1 : Nat) (hs_a0 : S a0 = some (13, 0)) (hs_a1 : S a1 = some (18300, 8)) (hx2 : 0 ≤ x2 ∧ x2 ≤ 8) (hx3 : 1 ≤ x3 ∧ x3 ≤ 255) (ewg1 : g a0 72 = .ref wg1) (hs_wg1 : S wg1 = some (18100, 64)) (ewm1 : g a0 73 = .ref wm1) (hs_wm1 : S wm1 = some (18200, 64)) (hp0 : xCo x2 (xv g a1)) : xMt l yX12_hasPeace cX12_hasPeace 7 (some .boolean) 0 0 0 0 D kA b0 t0 [] [.ref a0, .ref a1, .int (iI x2), .int (iI x3)] S g (fun (r : Option Value) (S1 : xT) (g1 : xG) => S = S1 ∧ g = g1 ∧ ∃ z : Int, r = some (.int (iI z)) ∧ 0 ≤ z ∧ z ≤ 1 ∧ ((z = 1 ↔ xPq x2 (xv g wg1) (xv g wm1) x3 (xv g a1) x2))) := by
  refine xEnterZ (by decide) (by simp [lg_sl, Value.category]) [(0, .ref a0), (1, .ref a1), (2, .int (iI x2)), (3, .int (iI x3))] rfl ?_
  intro K E hK hret _ _ _
  refine X_iconst hK kd45_6.2.2.2.2.2.2.1 ?_
  refine X_istore hK (i := 4) [(4, .int (iI 0)), (0, .ref a0), (1, .ref a1), (2, .int (iI x2)), (3, .int (iI x3))] kd45_6.2.2.2.2.2.2.2.1 (by decide) rfl ?_
  have P555 : ∀ (nP555 : Nat) (z461 : Int) (_ : 0 ≤ z461) (_ : z461 ≤ 8) (_ : xPq x2 (xv g wg1) (xv g wm1) x3 (xv g a1) z461) (_ : 24 - z461 < (nP555 : Int)), X K E 3 [(4, .int (iI z461)), (0, .ref a0), (1, .ref a1), (2, .int (iI x2)), (3, .int (iI x3))] [] S g 0 0 := by
    intro nP555
    induction nP555 with
    | zero => intro z461 lz461 uz461 v556 mP555; exact False.elim (by omega)
    | succ nP555 ihP555 =>
      intro z461 lz461 uz461 v556 mP555
      refine X_iload hK (i := 4) 0 kd45_6.2.2.2.2.2.2.2.2.1 rfl ?_
      refine X_iloadn hK (i := 2) 3 kd45_6.2.2.2.2.2.2.2.2.2.1 rfl rfl ?_
      refine X_icmp_ge hK 110 (by omega) (by omega) kd45_6.2.2.2.2.2.2.2.2.2.2.1 (by decide) (fun c557 => ?_) (fun c557 => ?_)
      · refine X_iconst hK kd45_11.2.2.2.2.2.2.2.2.1 ?_
        exact hret _ _ _ _ _ _ _ kd45_11.2.2.2.2.2.2.2.2.2.1 (by omega) (by omega) ⟨rfl, rfl, 1, rfl, (by omega), (by omega), ⟨fun _ b9 x9 q1 q2 q3 q4 q5 => v556 b9 x9 q1 (by omega) q3 q4 q5, fun _ => rfl⟩⟩ (Nat.le_refl _) (Nat.le_refl _)
      · refine X_iconst hK kd45_6.2.2.2.2.2.2.2.2.2.2.2 ?_
        refine X_istore hK (i := 5) [(5, .int (iI 0)), (4, .int (iI z461)), (0, .ref a0), (1, .ref a1), (2, .int (iI x2)), (3, .int (iI x3))] kd45_7.1 (by decide) rfl ?_
        have P636 : ∀ (nP636 : Nat) (z623 : Int) (_ : 0 ≤ z623) (_ : z623 ≤ 8) (_ : xPq2 (xv g wg1) (xv g wm1) x3 (xv g a1) z461 z623) (_ : 24 - z623 < (nP636 : Int)), X K E 12 [(5, .int (iI z623)), (4, .int (iI z461)), (0, .ref a0), (1, .ref a1), (2, .int (iI x2)), (3, .int (iI x3))] [] S g 0 0 := by
          intro nP636
          induction nP636 with
          | zero => intro z623 lz623 uz623 v637 mP636; exact False.elim (by omega)
          | succ nP636 ihP636 =>
            intro z623 lz623 uz623 v637 mP636
            refine X_iload hK (i := 5) 0 kd45_7.2.1 rfl ?_
            refine X_iloadn hK (i := 2) 4 kd45_7.2.2.1 rfl rfl ?_
            refine X_icmp_ge hK 104 (by omega) (by omega) kd45_7.2.2.2.1 (by decide) (fun c638 => ?_) (fun c638 => ?_)
            · refine X_iinc hK (i := 4) (z := z461) (n := 1) 1 [(4, .int (iI (z461 + 1))), (5, .int (iI z623)), (0, .ref a0), (1, .ref a1), (2, .int (iI x2)), (3, .int (iI x3))] kd45_11.2.2.2.2.2.2.1 rfl (by decide) rfl ?_
              refine X_goto hK 3 kd45_11.2.2.2.2.2.2.2.1 (by decide) ?_
              refine X_lv [(4, .int (iI (z461 + 1))), (0, .ref a0), (1, .ref a1), (2, .int (iI x2)), (3, .int (iI x3))] [0, 2, 3, 4, 5] rfl ?_
              exact ihP555  (z461 + 1) (by omega) (by omega) (xPq.s v556 v637 (by omega)) (by omega)
            · refine X_iload hK (i := 5) 0 kd45_7.2.2.2.2.1 rfl ?_
              refine X_iload hK (i := 4) 1 kd45_7.2.2.2.2.2.1 rfl ?_
              refine X_icmp_ne hK 28 (by omega) (by omega) kd45_7.2.2.2.2.2.2.1 (by decide) (fun c639 => ?_) (fun c639 => ?_)
              · refine X_aloadn hK (i := 1) 3 kd45_7.2.2.2.2.2.2.2.2.1 rfl rfl ?_
                refine X_iload hK (i := 5) 0 kd45_7.2.2.2.2.2.2.2.2.2.1 rfl ?_
                refine X_iald hK hs_a1 (by decide) sl_18300 (by omega) (by omega) kd45_7.2.2.2.2.2.2.2.2.2.2.1 (fun z640 ez640 lz640 uz640 => ?_)
                have hch641 : 0 ≤ z640 := by have h9 := hp0 z623 (by omega) (by omega); rw [xv_e (j := z623) ez640 (by omega)] at h9; exact h9
                have hw642 : xv g a1 z623 = z640 := xv_e (j := z623) ez640 (by omega)
                refine X_istore hK (i := 6) [(6, .int (iI z640)), (5, .int (iI z623)), (4, .int (iI z461)), (0, .ref a0), (1, .ref a1), (2, .int (iI x2)), (3, .int (iI x3))] kd45_7.2.2.2.2.2.2.2.2.2.2.2 (by decide) rfl ?_
                refine X_aloadn hK (i := 0) 3 kd45_8.1 rfl rfl ?_
                refine X_getK hK fl_X12_153_13 hs_a0 ewg1 kd45_8.2.1 ?_
                refine X_bipush hK kd45_8.2.2.1 (by decide) ?_
                refine X_iload hK (i := 4) 2 kd45_8.2.2.2.1 rfl ?_
                refine X_imul hK kd45_8.2.2.2.2.1 ?_
                refine X_iload hK (i := 6) 0 kd45_8.2.2.2.2.2.1 rfl ?_
                refine X_iadd hK kd45_8.2.2.2.2.2.2.1 ?_
                refine X_iald hK hs_wg1 (by decide) sl_18100 (by omega) (by omega) kd45_8.2.2.2.2.2.2.2.1 (fun z643 ez643 lz643 uz643 => ?_)
                have hw644 : xv g wg1 ((8 * z461) + z640) = z643 := xv_e (j := ((8 * z461) + z640)) ez643 (by omega)
                refine X_aloadn hK (i := 0) 3 kd45_8.2.2.2.2.2.2.2.2.1 rfl rfl ?_
                refine X_getK hK fl_X12_153_13 hs_a0 ewg1 kd45_8.2.2.2.2.2.2.2.2.2.1 ?_
                refine X_bipush hK kd45_8.2.2.2.2.2.2.2.2.2.2.1 (by decide) ?_
                refine X_iload hK (i := 4) 2 kd45_8.2.2.2.2.2.2.2.2.2.2.2 rfl ?_
                refine X_imul hK kd45_9.1 ?_
                refine X_aloadn hK (i := 1) 4 kd45_9.2.1 rfl rfl ?_
                refine X_iload hK (i := 4) 2 kd45_9.2.2.1 rfl ?_
                refine X_iald hK hs_a1 (by decide) sl_18300 (by omega) (by omega) kd45_9.2.2.2.1 (fun z645 ez645 lz645 uz645 => ?_)
                have hch646 : 0 ≤ z645 := by have h9 := hp0 z461 (by omega) (by omega); rw [xv_e (j := z461) ez645 (by omega)] at h9; exact h9
                have hw647 : xv g a1 z461 = z645 := xv_e (j := z461) ez645 (by omega)
                refine X_iadd hK kd45_9.2.2.2.2.1 ?_
                refine X_iald hK hs_wg1 (by decide) sl_18100 (by omega) (by omega) kd45_9.2.2.2.2.2.1 (fun z648 ez648 lz648 uz648 => ?_)
                have hw649 : xv g wg1 ((8 * z461) + z645) = z648 := xv_e (j := ((8 * z461) + z645)) ez648 (by omega)
                refine X_iloadn hK (i := 3) 6 kd45_9.2.2.2.2.2.2.1 rfl rfl ?_
                refine X_iadd hK kd45_9.2.2.2.2.2.2.2.1 ?_
                refine X_icmp_lt hK 98 (by omega) (by omega) kd45_9.2.2.2.2.2.2.2.2.1 (by decide) (fun c650 => ?_) (fun c650 => ?_)
                · refine X_iinc hK (i := 5) (z := z623) (n := 1) 1 [(5, .int (iI (z623 + 1))), (6, .int (iI z640)), (4, .int (iI z461)), (0, .ref a0), (1, .ref a1), (2, .int (iI x2)), (3, .int (iI x3))] kd45_11.2.2.2.2.1 rfl (by decide) rfl ?_
                  refine X_goto hK 12 kd45_11.2.2.2.2.2.1 (by decide) ?_
                  refine X_lv [(5, .int (iI (z623 + 1))), (4, .int (iI z461)), (0, .ref a0), (1, .ref a1), (2, .int (iI x2)), (3, .int (iI x3))] [0, 2, 3, 4, 5, 6] rfl ?_
                  exact ihP636  (z623 + 1) (by omega) (by omega) (xPq2.s v637 (Or.inr (by unfold xFt; rw [hw642, hw647]; omega))) (by omega)
                · refine X_aloadn hK (i := 0) 3 kd45_9.2.2.2.2.2.2.2.2.2.1 rfl rfl ?_
                  refine X_getK hK fl_X12_156_13 hs_a0 ewm1 kd45_9.2.2.2.2.2.2.2.2.2.2.1 ?_
                  refine X_bipush hK kd45_9.2.2.2.2.2.2.2.2.2.2.2 (by decide) ?_
                  refine X_iload hK (i := 4) 2 kd45_10.1 rfl ?_
                  refine X_imul hK kd45_10.2.1 ?_
                  refine X_iload hK (i := 6) 0 kd45_10.2.2.1 rfl ?_
                  refine X_iadd hK kd45_10.2.2.2.1 ?_
                  refine X_iald hK hs_wm1 (by decide) sl_18200 (by omega) (by omega) kd45_10.2.2.2.2.1 (fun z651 ez651 lz651 uz651 => ?_)
                  have hw652 : xv g wm1 ((8 * z461) + z640) = z651 := xv_e (j := ((8 * z461) + z640)) ez651 (by omega)
                  refine X_aloadn hK (i := 0) 3 kd45_10.2.2.2.2.2.1 rfl rfl ?_
                  refine X_getK hK fl_X12_156_13 hs_a0 ewm1 kd45_10.2.2.2.2.2.2.1 ?_
                  refine X_bipush hK kd45_10.2.2.2.2.2.2.2.1 (by decide) ?_
                  refine X_iload hK (i := 5) 1 kd45_10.2.2.2.2.2.2.2.2.1 rfl ?_
                  refine X_imul hK kd45_10.2.2.2.2.2.2.2.2.2.1 ?_
                  refine X_iload hK (i := 6) 0 kd45_10.2.2.2.2.2.2.2.2.2.2.1 rfl ?_
                  refine X_iadd hK kd45_10.2.2.2.2.2.2.2.2.2.2.2 ?_
                  refine X_iald hK hs_wm1 (by decide) sl_18200 (by omega) (by omega) kd45_11.1 (fun z653 ez653 lz653 uz653 => ?_)
                  have hw654 : xv g wm1 ((8 * z623) + z640) = z653 := xv_e (j := ((8 * z623) + z640)) ez653 (by omega)
                  refine X_icmp_le hK 98 (by omega) (by omega) kd45_11.2.1 (by decide) (fun c655 => ?_) (fun c655 => ?_)
                  · refine X_iinc hK (i := 5) (z := z623) (n := 1) 1 [(5, .int (iI (z623 + 1))), (6, .int (iI z640)), (4, .int (iI z461)), (0, .ref a0), (1, .ref a1), (2, .int (iI x2)), (3, .int (iI x3))] kd45_11.2.2.2.2.1 rfl (by decide) rfl ?_
                    refine X_goto hK 12 kd45_11.2.2.2.2.2.1 (by decide) ?_
                    refine X_lv [(5, .int (iI (z623 + 1))), (4, .int (iI z461)), (0, .ref a0), (1, .ref a1), (2, .int (iI x2)), (3, .int (iI x3))] [0, 2, 3, 4, 5, 6] rfl ?_
                    exact ihP636  (z623 + 1) (by omega) (by omega) (xPq2.s v637 (Or.inr (by unfold xFt; rw [hw642, hw647]; omega))) (by omega)
                  · refine X_iconst hK kd45_11.2.2.1 ?_
                    exact hret _ _ _ _ _ _ _ kd45_11.2.2.2.1 (by omega) (by omega) ⟨rfl, rfl, 0, rfl, (by omega), (by omega), ⟨fun h9 => by omega, fun h9 => absurd (show xFt _ _ _ z461 _ z623 _ from by unfold xFt; rw [hw642, hw647]; omega) (h9 z461 z623 (by omega) (by omega) (by omega) (by omega) (by omega))⟩⟩ (Nat.le_refl _) (Nat.le_refl _)
              · refine X_goto hK 98 kd45_7.2.2.2.2.2.2.2.1 (by decide) ?_
                refine X_iinc hK (i := 5) (z := z623) (n := 1) 0 [(5, .int (iI (z623 + 1))), (4, .int (iI z461)), (0, .ref a0), (1, .ref a1), (2, .int (iI x2)), (3, .int (iI x3))] kd45_11.2.2.2.2.1 rfl (by decide) rfl ?_
                refine X_goto hK 12 kd45_11.2.2.2.2.2.1 (by decide) ?_
                exact ihP636  (z623 + 1) (by omega) (by omega) (xPq2.s v637 (Or.inl (by omega))) (by omega)
        exact P636 ((24 - 0 : Int).toNat + 1) 0 (by omega) (by omega) xPq2.z (by omega)
  exact P555 ((24 - 0 : Int).toNat + 1) 0 (by omega) (by omega) xPq.z (by omega)

set_option maxHeartbeats 4000000 in
set_option maxRecDepth 100000 in
theorem c_X12_goOn (l : Launch) (D : va_G) (kA : Nat → ClassId) (b0 : Nat) (t0 : Nat → Nat) (S : xT) (g : xG) (a0 : Nat) (x1 : Int) (hs_a0 : S a0 = some (18400, 8)) (hx1 : 1 ≤ x1 ∧ x1 ≤ 8) (hp0 : xInj x1 (xv g a0)) (hp1 : xPr x1 (xv g a0)) : xMt l yX12_goOn cX12_goOn 7 (some .boolean) 0 0 0 0 D kA b0 t0 [(18400, 0)] [.ref a0, .int (iI x1)] S g (fun (r : Option Value) (S1 : xT) (g1 : xG) => S = S1 ∧ ∃ z : Int, r = some (.int (iI z)) ∧ 0 ≤ z ∧ z ≤ 1 ∧ (xInj x1 (xv g1 a0)) ∧ (xnm x1 (xv g a0) + z ≤ xnm x1 (xv g1 a0)) ∧ (0 ≤ xnm x1 (xv g1 a0) ∧ xnm x1 (xv g1 a0) < 16777216) ∧ (z = 1 → xPr x1 (xv g1 a0) ∧ ∀ t, xPr x1 t → xnm x1 (xv g a0) < xnm x1 t → xnm x1 (xv g1 a0) ≤ xnm x1 t) ∧ (z = 0 → ∀ t, xPr x1 t → xnm x1 t ≤ xnm x1 (xv g a0))) := by
  refine xEnterZ (by decide) (by simp [lg_sl, Value.category]) [(0, .ref a0), (1, .int (iI x1))] rfl ?_
  intro K E hK hret _ _ _
  refine X_iloadn hK (i := 1) 1 kd45_0.1 rfl rfl ?_
  refine X_iconst hK kd45_0.2.1 ?_
  refine X_isub hK kd45_0.2.2.1 ?_
  refine X_istoren hK (i := 2) [(2, .int (iI (x1 - 2))), (0, .ref a0), (1, .int (iI x1))] kd45_0.2.2.2.1 rfl (by decide) rfl ?_
  refine X_wt (fun hWa => ?_)
  have hra : ∀ k : Int, 0 ≤ k → k < x1 → 0 ≤ xv g a0 k ∧ xv g a0 k ≤ 7 := fun k q1 q2 => xv_r hWa hs_a0 (by decide) sl_18400 (by decide) k q1 (by omega)
  have P1201 : ∀ (nP1201 : Nat) (z901 : Int) (_ : (-1) ≤ z901) (_ : z901 ≤ 6) (_ : z901 ≤ x1 - 2) (_ : ∀ k, z901 + 1 ≤ k → k + 1 < x1 → xv g a0 (k + 1) < xv g a0 k) (_ : z901 - (-17) < (nP1201 : Int)), X K E 4 [(2, .int (iI z901)), (0, .ref a0), (1, .int (iI x1))] [] S g 0 0 := by
    intro nP1201
    induction nP1201 with
    | zero => intro z901 lz901 uz901 v1202 v1203 mP1201; exact False.elim (by omega)
    | succ nP1201 ihP1201 =>
      intro z901 lz901 uz901 v1202 v1203 mP1201
      refine X_iloadn hK (i := 2) 0 kd45_0.2.2.2.2.1 rfl rfl ?_
      refine X_if_lt hK 25 (by omega) kd45_0.2.2.2.2.2.1 (by decide) (fun c1204 => ?_) (fun c1204 => ?_)
      · refine X_iloadn hK (i := 2) 0 kd45_1.2.2.2.2.2.1 rfl rfl ?_
        refine X_if_ge hK 31 (by omega) kd45_1.2.2.2.2.2.2.1 (by decide) (fun c1205 => False.elim (by omega)) (fun c1205 => ?_)
        refine X_iconst hK kd45_1.2.2.2.2.2.2.2.1 ?_
        refine X_wt (fun hWb => ?_)
        have hrb : ∀ k : Int, 0 ≤ k → k < x1 → 0 ≤ xv g a0 k ∧ xv g a0 k ≤ 7 := fun k q1 q2 => xv_r hWb hs_a0 (by decide) sl_18400 (by decide) k q1 (by omega)
        exact hret _ _ _ _ _ _ _ kd45_1.2.2.2.2.2.2.2.2.1 (by omega) (by omega) ⟨rfl, 0, rfl, (by omega), (by omega), hp0, (by omega), (xnm_b (by omega) hrb), (fun h9 => by omega), (fun _ t9 ht9 => xlast (by omega) hp1 ht9 (fun k q1 q2 => v1203 k (by omega) q2))⟩ (Nat.le_refl _) (Nat.le_refl _)
      · refine X_aloadn hK (i := 0) 1 kd45_0.2.2.2.2.2.2.1 rfl rfl ?_
        refine X_iloadn hK (i := 2) 0 kd45_0.2.2.2.2.2.2.2.1 rfl rfl ?_
        refine X_iald hK hs_a0 (by decide) sl_18400 (by omega) (by omega) kd45_0.2.2.2.2.2.2.2.2.1 (fun z1206 ez1206 lz1206 uz1206 => ?_)
        have hvz1206 := xv_e (j := z901) ez1206 (by omega)
        have hw1207 : xv g a0 z901 = z1206 := xv_e (j := z901) ez1206 (by omega)
        refine X_aloadn hK (i := 0) 1 kd45_0.2.2.2.2.2.2.2.2.2.1 rfl rfl ?_
        refine X_iloadn hK (i := 2) 0 kd45_0.2.2.2.2.2.2.2.2.2.2.1 rfl rfl ?_
        refine X_iconst hK kd45_0.2.2.2.2.2.2.2.2.2.2.2 ?_
        refine X_iadd hK kd45_1.1 ?_
        refine X_iald hK hs_a0 (by decide) sl_18400 (by omega) (by omega) kd45_1.2.1 (fun z1208 ez1208 lz1208 uz1208 => ?_)
        have hvz1208 := xv_e (j := (z901 + 1)) ez1208 (by omega)
        have hw1209 : xv g a0 (z901 + 1) = z1208 := xv_e (j := (z901 + 1)) ez1208 (by omega)
        refine X_icmp_le hK 25 (by omega) (by omega) kd45_1.2.2.1 (by decide) (fun c1210 => ?_) (fun c1210 => ?_)
        · refine X_iloadn hK (i := 2) 0 kd45_1.2.2.2.2.2.1 rfl rfl ?_
          refine X_if_ge hK 31 (by omega) kd45_1.2.2.2.2.2.2.1 (by decide) (fun c1211 => ?_) (fun c1211 => False.elim (by omega))
          refine X_iloadn hK (i := 1) 2 kd45_1.2.2.2.2.2.2.2.2.2.1 rfl rfl ?_
          refine X_iconst hK kd45_1.2.2.2.2.2.2.2.2.2.2.1 ?_
          refine X_isub hK kd45_1.2.2.2.2.2.2.2.2.2.2.2 ?_
          refine X_istoren hK (i := 3) [(3, .int (iI (x1 - 1))), (2, .int (iI z901)), (0, .ref a0), (1, .int (iI x1))] kd45_2.1 rfl (by decide) rfl ?_
          have P1472 : ∀ (nP1472 : Nat) (z1407 : Int) (_ : 0 ≤ z1407) (_ : z1407 ≤ 7) (_ : z901 + 1 ≤ z1407) (_ : z1407 ≤ x1 - 1) (_ : ∀ k, z1407 < k → k < x1 → xv g a0 k < xv g a0 z901) (_ : z1407 < (nP1472 : Int)), X K E 35 [(3, .int (iI z1407)), (2, .int (iI z901)), (0, .ref a0), (1, .int (iI x1))] [] S g 0 0 := by
            intro nP1472
            induction nP1472 with
            | zero => intro z1407 lz1407 uz1407 v1473 v1474 v1475 mP1472; exact False.elim (by omega)
            | succ nP1472 ihP1472 =>
              intro z1407 lz1407 uz1407 v1473 v1474 v1475 mP1472
              refine X_aloadn hK (i := 0) 2 kd45_2.2.1 rfl rfl ?_
              refine X_iloadn hK (i := 3) 0 kd45_2.2.2.1 rfl rfl ?_
              refine X_iald hK hs_a0 (by decide) sl_18400 (by omega) (by omega) kd45_2.2.2.2.1 (fun z1476 ez1476 lz1476 uz1476 => ?_)
              have hvz1476 := xv_e (j := z1407) ez1476 (by omega)
              have hjz1476 : z1407 = z901 + 1 → z1476 = z1208 := fun e9 => by have h9 := hvz1476; rw [e9] at h9; omega
              have hw1477 : xv g a0 z1407 = z1476 := xv_e (j := z1407) ez1476 (by omega)
              refine X_aloadn hK (i := 0) 2 kd45_2.2.2.2.2.1 rfl rfl ?_
              refine X_iloadn hK (i := 2) 1 kd45_2.2.2.2.2.2.1 rfl rfl ?_
              refine X_ialdK hK hs_a0 (by decide) (by omega) (by omega) ez1206 kd45_2.2.2.2.2.2.2.1 ?_
              have hvx1478 := xv_e (j := z901) ez1206 (by omega)
              have hw1479 : xv g a0 z901 = z1206 := xv_e (j := z901) ez1206 (by omega)
              refine X_icmp_ge hK 50 (by omega) (by omega) kd45_2.2.2.2.2.2.2.2.1 (by decide) (fun c1480 => ?_) (fun c1480 => ?_)
              · refine X_aloadn hK (i := 0) 2 kd45_2.2.2.2.2.2.2.2.2.2.2.1 rfl rfl ?_
                refine X_iloadn hK (i := 2) 1 kd45_2.2.2.2.2.2.2.2.2.2.2.2 rfl rfl ?_
                refine X_ialdK hK hs_a0 (by decide) (by omega) (by omega) ez1206 kd45_3.1 ?_
                have hvx1481 := xv_e (j := z901) ez1206 (by omega)
                have hw1482 : xv g a0 z901 = z1206 := xv_e (j := z901) ez1206 (by omega)
                refine X_istore hK (i := 4) [(4, .int (iI z1206)), (3, .int (iI z1407)), (2, .int (iI z901)), (0, .ref a0), (1, .int (iI x1))] kd45_3.2.1 (by decide) rfl ?_
                have hij : xv g a0 z901 ≠ xv g a0 z1407 := hp0 _ _ (by omega) (by omega) (by omega) (by omega) (by omega)
                refine X_aloadn hK (i := 0) 3 kd45_3.2.2.1 rfl rfl ?_
                refine X_iloadn hK (i := 2) 2 kd45_3.2.2.2.1 rfl rfl ?_
                refine X_aloadn hK (i := 0) 3 kd45_3.2.2.2.2.1 rfl rfl ?_
                refine X_iloadn hK (i := 3) 1 kd45_3.2.2.2.2.2.1 rfl rfl ?_
                refine X_ialdK hK hs_a0 (by decide) (by omega) (by omega) ez1476 kd45_3.2.2.2.2.2.2.1 ?_
                have hvx1483 := xv_e (j := z1407) ez1476 (by omega)
                have hw1484 : xv g a0 z1407 = z1476 := xv_e (j := z1407) ez1476 (by omega)
                refine X_iast hK hs_a0 (by decide) (by decide) sl_18400 (by omega) (by omega) (by omega) (by omega) kd45_3.2.2.2.2.2.2.2.1 (fun g1485 hg1485 => ?_)
                refine X_aloadn hK (i := 0) 3 kd45_3.2.2.2.2.2.2.2.2.1 rfl rfl ?_
                refine X_iloadn hK (i := 3) 1 kd45_3.2.2.2.2.2.2.2.2.2.1 rfl rfl ?_
                refine X_iload hK (i := 4) 0 kd45_3.2.2.2.2.2.2.2.2.2.2.1 rfl ?_
                refine X_iast hK hs_a0 (by decide) (by decide) sl_18400 (by omega) (by omega) (by omega) (by omega) kd45_3.2.2.2.2.2.2.2.2.2.2.2 (fun g1486 hg1486 => ?_)
                refine X_iloadn hK (i := 2) 2 kd45_4.1 rfl rfl ?_
                refine X_iconst hK kd45_4.2.1 ?_
                refine X_iadd hK kd45_4.2.2.1 ?_
                refine X_istore hK (i := 5) [(5, .int (iI (z901 + 1))), (4, .int (iI z1206)), (3, .int (iI z1407)), (2, .int (iI z901)), (0, .ref a0), (1, .int (iI x1))] kd45_4.2.2.2.1 (by decide) rfl ?_
                refine X_iloadn hK (i := 1) 5 kd45_4.2.2.2.2.1 rfl rfl ?_
                refine X_iconst hK kd45_4.2.2.2.2.2.1 ?_
                refine X_isub hK kd45_4.2.2.2.2.2.2.1 ?_
                refine X_istore hK (i := 6) [(6, .int (iI (x1 - 1))), (5, .int (iI (z901 + 1))), (4, .int (iI z1206)), (3, .int (iI z1407)), (2, .int (iI z901)), (0, .ref a0), (1, .int (iI x1))] kd45_4.2.2.2.2.2.2.2.1 (by decide) rfl ?_
                have P1531 : ∀ (nP1531 : Nat) (g1525 : xG) (_ : xM [(18400, 0)] S g1486 g1525) (z1522 : Int) (_ : 0 ≤ z1522) (_ : z1522 ≤ 7) (z1523 : Int) (_ : 1 ≤ z1523) (_ : z1523 ≤ 7) (z1524 : Int) (_ : 0 ≤ z1524) (_ : z1524 ≤ 7) (_ : xInj x1 (xv g1525 a0)) (_ : ∀ k, 0 ≤ k → k < z901 → xv g1525 a0 k = xv g a0 k) (_ : xv g a0 z901 < xv g1525 a0 z901) (_ : z901 + 1 ≤ z1523) (_ : z1522 ≤ x1 - 1) (_ : xRev x1 z901 z1523 z1522 (xv g1525 a0) (xv g1486 a0)) (_ : ∀ k, 0 ≤ k → k ≤ z901 → xv g1525 a0 k = xv g1486 a0 k) (_ : 16 - z1523 < (nP1531 : Int)), X K E 76 [(6, .int (iI z1522)), (5, .int (iI z1523)), (4, .int (iI z1524)), (3, .int (iI z1407)), (2, .int (iI z901)), (0, .ref a0), (1, .int (iI x1))] [] S g1525 0 0 := by
                  intro nP1531
                  induction nP1531 with
                  | zero => intro g1525 hg1525 z1522 lz1522 uz1522 z1523 lz1523 uz1523 z1524 lz1524 uz1524 v1532 v1533 v1534 v1535 v1536 v1537 v1538 mP1531; exact False.elim (by omega)
                  | succ nP1531 ihP1531 =>
                    intro g1525 hg1525 z1522 lz1522 uz1522 z1523 lz1523 uz1523 z1524 lz1524 uz1524 v1532 v1533 v1534 v1535 v1536 v1537 v1538 mP1531
                    refine X_iload hK (i := 5) 1 kd45_4.2.2.2.2.2.2.2.2.1 rfl ?_
                    refine X_iload hK (i := 6) 0 kd45_4.2.2.2.2.2.2.2.2.2.1 rfl ?_
                    refine X_icmp_ge hK 112 (by omega) (by omega) kd45_4.2.2.2.2.2.2.2.2.2.2.1 (by decide) (fun c1539 => ?_) (fun c1539 => ?_)
                    · refine X_iconst hK kd45_6.2.2.2.2.1 ?_
                      refine X_wt (fun hWb => ?_)
                      have hrb : ∀ k : Int, 0 ≤ k → k < x1 → 0 ≤ xv g1525 a0 k ∧ xv g1525 a0 k ≤ 7 := fun k q1 q2 => xv_r hWb hs_a0 (by decide) sl_18400 (by decide) k q1 (by omega)
                      exact hret _ _ _ _ _ _ _ kd45_6.2.2.2.2.2.1 (by omega) (by omega) ⟨rfl, 1, rfl, (by omega), (by omega), v1532, (by have h9 := xnm_lt (i := z901) (by omega) v1533 (by omega) hra hrb; omega), (xnm_b (by omega) hrb), (fun _ => xgo (i := z901) (j := z1407) (B := xv g1486 a0) (by omega) hp1 v1532 (by omega) v1203 (by have h9 := hw1482; have h8 := hw1484; omega) v1475 (by have h9 := (show xv g1486 a0 z901 = z1476 from by rw [(xv_k (i := z901) hg1486 (by omega) (by omega) (by omega)), xv_s hg1485 (by omega)]); have h8 := hw1484; omega) (by have h9 := (show xv g1486 a0 z1407 = z1206 from by rw [xv_s hg1486 (by omega)]); have h8 := hw1482; omega) (fun i9 hi9 h09 h19 => (show xv g1486 a0 i9 = xv g a0 i9 from by rw [(xv_k (i := i9) hg1486 (by omega) (by omega) (by omega)), (xv_k (i := i9) hg1485 (by omega) (by omega) (by omega))])) v1538 (xRev.fin v1537 (by omega))), (fun h9 => by omega)⟩ (Nat.le_refl _) (Nat.le_refl _)
                    · refine X_aloadn hK (i := 0) 5 kd45_4.2.2.2.2.2.2.2.2.2.2.2 rfl rfl ?_
                      refine X_iload hK (i := 5) 1 kd45_5.1 rfl ?_
                      refine X_iald hK hs_a0 (by decide) sl_18400 (by omega) (by omega) kd45_5.2.1 (fun z1540 ez1540 lz1540 uz1540 => ?_)
                      have hvz1540 := xv_e (j := z1523) ez1540 (by omega)
                      have hw1541 : xv g1525 a0 z1523 = z1540 := xv_e (j := z1523) ez1540 (by omega)
                      refine X_istore hK (i := 4) [(4, .int (iI z1540)), (6, .int (iI z1522)), (5, .int (iI z1523)), (3, .int (iI z1407)), (2, .int (iI z901)), (0, .ref a0), (1, .int (iI x1))] kd45_5.2.2.1 (by decide) rfl ?_
                      refine X_aloadn hK (i := 0) 5 kd45_5.2.2.2.1 rfl rfl ?_
                      refine X_iload hK (i := 5) 2 kd45_5.2.2.2.2.1 rfl ?_
                      refine X_aloadn hK (i := 0) 5 kd45_5.2.2.2.2.2.1 rfl rfl ?_
                      refine X_iload hK (i := 6) 1 kd45_5.2.2.2.2.2.2.1 rfl ?_
                      refine X_iald hK hs_a0 (by decide) sl_18400 (by omega) (by omega) kd45_5.2.2.2.2.2.2.2.1 (fun z1542 ez1542 lz1542 uz1542 => ?_)
                      have hvz1542 := xv_e (j := z1522) ez1542 (by omega)
                      have hw1543 : xv g1525 a0 z1522 = z1542 := xv_e (j := z1522) ez1542 (by omega)
                      refine X_iast hK hs_a0 (by decide) (by decide) sl_18400 (by omega) (by omega) (by omega) (by omega) kd45_5.2.2.2.2.2.2.2.2.1 (fun g1544 hg1544 => ?_)
                      refine X_aloadn hK (i := 0) 5 kd45_5.2.2.2.2.2.2.2.2.2.1 rfl rfl ?_
                      refine X_iload hK (i := 6) 1 kd45_5.2.2.2.2.2.2.2.2.2.2.1 rfl ?_
                      refine X_iload hK (i := 4) 0 kd45_5.2.2.2.2.2.2.2.2.2.2.2 rfl ?_
                      refine X_iast hK hs_a0 (by decide) (by decide) sl_18400 (by omega) (by omega) (by omega) (by omega) kd45_6.1 (fun g1545 hg1545 => ?_)
                      refine X_iinc hK (i := 5) (z := z1523) (n := 1) 2 [(5, .int (iI (z1523 + 1))), (4, .int (iI z1540)), (6, .int (iI z1522)), (3, .int (iI z1407)), (2, .int (iI z901)), (0, .ref a0), (1, .int (iI x1))] kd45_6.2.1 rfl (by decide) rfl ?_
                      refine X_iinc hK (i := 6) (z := z1522) (n := (-1)) 2 [(6, .int (iI (z1522 + (-1)))), (5, .int (iI (z1523 + 1))), (4, .int (iI z1540)), (3, .int (iI z1407)), (2, .int (iI z901)), (0, .ref a0), (1, .int (iI x1))] kd45_6.2.2.1 rfl (by decide) rfl ?_
                      refine X_goto hK 76 kd45_6.2.2.2.1 (by decide) ?_
                      exact ihP1531  g1545 (xM_ua (xM_ua (xM.tr xM.rf xLe.rf hg1525 (by decide)) hg1544 hs_a0 (by decide) (by decide)) hg1545 hs_a0 (by decide) (by decide)) (z1522 + (-1)) (by omega) (by omega) (z1523 + 1) (by omega) (by omega) z1540 (by omega) (by omega) (xInj_sw (i := z1523) (j := z1522) v1532 (by omega) (by omega) (by have h9 := (show xv g1545 a0 z1523 = z1542 from by rw [(xv_k (i := z1523) hg1545 (by omega) (by omega) (by omega)), xv_s hg1544 (by omega)]); omega) (by have h9 := (show xv g1545 a0 z1522 = z1540 from by rw [xv_s hg1545 (by omega)]); omega) (fun i9 hi9 h09 h19 => (show xv g1545 a0 i9 = xv g1525 a0 i9 from by rw [(xv_k (i := i9) hg1545 (by omega) (by omega) (by omega)), (xv_k (i := i9) hg1544 (by omega) (by omega) (by omega))]))) (fun k q1 q2 => (show xv g1545 a0 k = xv g1525 a0 k from by rw [(xv_k (i := k) hg1545 (by omega) (by omega) (by omega)), (xv_k (i := k) hg1544 (by omega) (by omega) (by omega))]).trans (v1533 k q1 q2)) (by have h9 := (show xv g1545 a0 z901 = xv g1525 a0 z901 from by rw [(xv_k (i := z901) hg1545 (by omega) (by omega) (by omega)), (xv_k (i := z901) hg1544 (by omega) (by omega) (by omega))]); omega) (by omega) (by omega) (xRev.s v1537 (by omega) (by omega) (by omega) (by have h9 := (show xv g1545 a0 z1523 = z1542 from by rw [(xv_k (i := z1523) hg1545 (by omega) (by omega) (by omega)), xv_s hg1544 (by omega)]); have h8 := hw1543; omega) (by have h9 := (show xv g1545 a0 z1522 = z1540 from by rw [xv_s hg1545 (by omega)]); have h8 := hw1541; omega) (fun i9 hi9 h09 h19 => (show xv g1545 a0 i9 = xv g1525 a0 i9 from by rw [(xv_k (i := i9) hg1545 (by omega) (by omega) (by omega)), (xv_k (i := i9) hg1544 (by omega) (by omega) (by omega))]))) (fun k q1 q2 => (show xv g1545 a0 k = xv g1525 a0 k from by rw [(xv_k (i := k) hg1545 (by omega) (by omega) (by omega)), (xv_k (i := k) hg1544 (by omega) (by omega) (by omega))]).trans (v1538 k q1 q2)) (by omega)
                exact P1531 ((16 - (z901 + 1) : Int).toNat + 1) g1486 xM.rf (x1 - 1) (by omega) (by omega) (z901 + 1) (by omega) (by omega) z1206 (by omega) (by omega) (xInj_sw (i := z901) (j := z1407) hp0 (by omega) (by omega) (by have h9 := (show xv g1486 a0 z901 = z1476 from by rw [(xv_k (i := z901) hg1486 (by omega) (by omega) (by omega)), xv_s hg1485 (by omega)]); omega) (by have h9 := (show xv g1486 a0 z1407 = z1206 from by rw [xv_s hg1486 (by omega)]); omega) (fun i9 hi9 h09 h19 => (show xv g1486 a0 i9 = xv g a0 i9 from by rw [(xv_k (i := i9) hg1486 (by omega) (by omega) (by omega)), (xv_k (i := i9) hg1485 (by omega) (by omega) (by omega))]))) (fun k q1 q2 => (show xv g1486 a0 k = xv g a0 k from by rw [(xv_k (i := k) hg1486 (by omega) (by omega) (by omega)), (xv_k (i := k) hg1485 (by omega) (by omega) (by omega))])) (by have h9 := (show xv g1486 a0 z901 = z1476 from by rw [(xv_k (i := z901) hg1486 (by omega) (by omega) (by omega)), xv_s hg1485 (by omega)]); omega) (by omega) (by omega) xRev.z (fun _ _ _ => rfl) (by omega)
              · refine X_iinc hK (i := 3) (z := z1407) (n := (-1)) 0 [(3, .int (iI (z1407 + (-1)))), (2, .int (iI z901)), (0, .ref a0), (1, .int (iI x1))] kd45_2.2.2.2.2.2.2.2.2.1 rfl (by decide) rfl ?_
                refine X_goto hK 35 kd45_2.2.2.2.2.2.2.2.2.2.1 (by decide) ?_
                exact ihP1472  (z1407 + (-1)) (by omega) (by omega) (by omega) (by omega) (fun k q1 q2 => by by_cases e9 : k = z1407; (rw [e9]; have h8 := hw1477; have h7 := hw1479; omega); exact v1475 k (by omega) q2) (by omega)
          exact P1472 (((x1 - 1) : Int).toNat + 1) (x1 - 1) (by omega) (by omega) (by omega) (by omega) (fun k q1 q2 => by omega) (by omega)
        · refine X_iinc hK (i := 2) (z := z901) (n := (-1)) 0 [(2, .int (iI (z901 + (-1)))), (0, .ref a0), (1, .int (iI x1))] kd45_1.2.2.2.1 rfl (by decide) rfl ?_
          refine X_goto hK 4 kd45_1.2.2.2.2.1 (by decide) ?_
          exact ihP1201  (z901 + (-1)) (by omega) (by omega) (by omega) (fun k q1 q2 => by by_cases e9 : k = z901 + (-1) + 1; (have e8 : k = z901 := by omega); (rw [e8]; have h8 := hw1207; have h7 := hw1209; omega); exact v1203 k (by omega) q2) (by omega)
  exact P1201 (((x1 - 2) - (-17) : Int).toNat + 1) (x1 - 2) (by omega) (by omega) (by omega) (fun k q1 q2 => by omega) (by omega)

set_option maxHeartbeats 4000000 in
set_option maxRecDepth 100000 in
theorem c_X12_seek (l : Launch) (D : va_G) (kA : Nat → ClassId) (b0 : Nat) (t0 : Nat → Nat) (S : xT) (g : xG) (a0 : Nat) (x1 : Int) (x2 : Int) (w74 : Nat) (w75 : Nat) (wg1 : Nat) (wm1 : Nat) (hs_a0 : S a0 = some (13, 0)) (hx1 : 1 ≤ x1 ∧ x1 ≤ 8) (hx2 : 1 ≤ x2 ∧ x2 ≤ 255) (ew74 : g a0 74 = .ref w74) (hs_w74 : S w74 = some (18300, 8)) (ew75 : g a0 75 = .ref w75) (hs_w75 : S w75 = some (18400, 8)) (ewg1 : g a0 72 = .ref wg1) (hs_wg1 : S wg1 = some (18100, 64)) (ewm1 : g a0 73 = .ref wm1) (hs_wm1 : S wm1 = some (18200, 64)) : xMt l yX12_seek cX12_seek 7 (some .boolean) 1 0 0 26 D kA b0 t0 [(18400, 0), (18300, 0)] [.ref a0, .int (iI x1), .int (iI x2)] S g (fun (r : Option Value) (S1 : xT) (g1 : xG) => S = S1 ∧ ∃ z : Int, r = some (.int (iI z)) ∧ 0 ≤ z ∧ z ≤ 1 ∧ (z = 1 → xCo x1 (xv g1 w74)) ∧ (z = 0 → xv g1 w74 = xv g w74) ∧ (∃ v : Int, xBst x1 (xv g wg1) (xv g wm1) x2 v (xv g1 w74) ∧ (z = 1 ↔ v ≠ -1))) := by
  refine xEnterZ (by decide) (by simp [lg_sl, Value.category]) [(0, .ref a0), (1, .int (iI x1)), (2, .int (iI x2))] rfl ?_
  intro K E hK hret _ _ _
  refine X_iconst hK kd45_27.2.2.2.2.2.2.1 ?_
  refine X_wt (fun hW0 => ?_)
  have hG0 : ∀ j : Int, 0 ≤ j → j < 64 → 0 ≤ xv g wg1 j := fun j q1 q2 => (xv_r hW0 hs_wg1 (by decide) sl_18100 (by decide) j q1 (by omega)).1
  refine X_istoren hK (i := 3) [(3, .int (iI (-1))), (0, .ref a0), (1, .int (iI x1)), (2, .int (iI x2))] kd45_27.2.2.2.2.2.2.2.1 rfl (by decide) rfl ?_
  refine X_iconst hK kd45_27.2.2.2.2.2.2.2.2.1 ?_
  refine X_istore hK (i := 4) [(4, .int (iI 0)), (3, .int (iI (-1))), (0, .ref a0), (1, .int (iI x1)), (2, .int (iI x2))] kd45_27.2.2.2.2.2.2.2.2.2.1 (by decide) rfl ?_
  have P1878 : ∀ (nP1878 : Nat) (g1624 : xG) (_ : xM [(18400, 0)] S g g1624) (z1623 : Int) (_ : 0 ≤ z1623) (_ : z1623 ≤ 8) (_ : ∀ k, 0 ≤ k → k < z1623 → xv g1624 w75 k = k) (_ : 24 - z1623 < (nP1878 : Int)), X K E 5 [(4, .int (iI z1623)), (3, .int (iI (-1))), (0, .ref a0), (1, .int (iI x1)), (2, .int (iI x2))] [] S g1624 0 0 := by
    intro nP1878
    induction nP1878 with
    | zero => intro g1624 hg1624 z1623 lz1623 uz1623 v1879 mP1878; exact False.elim (by omega)
    | succ nP1878 ihP1878 =>
      intro g1624 hg1624 z1623 lz1623 uz1623 v1879 mP1878
      refine X_iload hK (i := 4) 0 kd45_27.2.2.2.2.2.2.2.2.2.2.1 rfl ?_
      refine X_iloadn hK (i := 1) 3 kd45_27.2.2.2.2.2.2.2.2.2.2.2 rfl rfl ?_
      refine X_icmp_ge hK 26 (by omega) (by omega) kd45_28.1 (by decide) (fun c1880 => ?_) (fun c1880 => ?_)
      · refine X_iconst hK kd45_28.2.2.2.2.2.2.2.2.1 ?_
        refine X_istore hK (i := 4) [(4, .int (iI 1)), (3, .int (iI (-1))), (0, .ref a0), (1, .int (iI x1)), (2, .int (iI x2))] kd45_28.2.2.2.2.2.2.2.2.2.1 (by decide) rfl ?_
        have P2604 : ∀ (nP2604 : Nat) (g2482 : xG) (_ : xM [(18400, 0), (18300, 0)] S g1624 g2482) (z2480 : Int) (_ : 0 ≤ z2480) (_ : z2480 ≤ 1) (z2481 : Int) (_ : (-1) ≤ z2481) (_ : z2481 ≤ 2040) (_ : xInj x1 (xv g2482 w75)) (_ : (z2481 = -1 ∧ xv g2482 w74 = xv g w74) ∨ (0 ≤ z2481 ∧ xCo x1 (xv g2482 w74))) (_ : 0 ≤ xnm x1 (xv g2482 w75) ∧ xnm x1 (xv g2482 w75) < 16777216) (_ : z2480 = 1 → xPr x1 (xv g2482 w75)) (_ : xD (fun t => z2480 = 0 ∨ xnm x1 t < xnm x1 (xv g2482 w75)) x1 (xv g wg1) (xv g wm1) x2 (-1) z2481 (xv g w74) (xv g2482 w74)) (_ : 2 * (16777216 - xnm x1 (xv g2482 w75)) + z2480 < (nP2604 : Int)), X K E 29 [(4, .int (iI z2480)), (3, .int (iI z2481)), (0, .ref a0), (1, .int (iI x1)), (2, .int (iI x2))] [] S g2482 0 0 := by
          intro nP2604
          induction nP2604 with
          | zero => intro g2482 hg2482 z2480 lz2480 uz2480 z2481 lz2481 uz2481 v2605 v2606 v2607 v2608 v2609 mP2604; exact False.elim (by omega)
          | succ nP2604 ihP2604 =>
            intro g2482 hg2482 z2480 lz2480 uz2480 z2481 lz2481 uz2481 v2605 v2606 v2607 v2608 v2609 mP2604
            refine X_iload hK (i := 4) 0 kd45_28.2.2.2.2.2.2.2.2.2.2.1 rfl ?_
            refine X_if_eq hK 112 (by omega) kd45_28.2.2.2.2.2.2.2.2.2.2.2 (by decide) (fun c2610 => ?_) (fun c2610 => ?_)
            · refine X_iloadn hK (i := 3) 1 kd45_32.2.2.2.2.1 rfl rfl ?_
              refine X_iconst hK kd45_32.2.2.2.2.2.1 ?_
              refine X_icmp_eq hK 121 (by omega) (by omega) kd45_32.2.2.2.2.2.2.1 (by decide) (fun c2611 => ?_) (fun c2611 => ?_)
              · refine X_iconst hK kd45_32.2.2.2.2.2.2.2.2.2.1 ?_
                exact hret _ _ _ _ _ _ _ kd45_32.2.2.2.2.2.2.2.2.2.2.1 (by omega) (by omega) ⟨rfl, 0, rfl, (by omega), (by omega), (fun h9 => by rcases v2606 with q9 | q9 <;> first | omega | exact q9.2), (fun h9 => by rcases v2606 with q9 | q9 <;> first | omega | exact q9.2), ⟨z2481, xsk_e (by omega) hG0 v2609 (by omega), by omega⟩⟩ (Nat.le_refl _) (Nat.le_refl _)
              · refine X_iconst hK kd45_32.2.2.2.2.2.2.2.1 ?_
                refine X_goto hK 122 kd45_32.2.2.2.2.2.2.2.2.1 (by decide) ?_
                exact hret _ _ _ _ _ _ _ kd45_32.2.2.2.2.2.2.2.2.2.2.1 (by omega) (by omega) ⟨rfl, 1, rfl, (by omega), (by omega), (fun h9 => by rcases v2606 with q9 | q9 <;> first | omega | exact q9.2), (fun h9 => by rcases v2606 with q9 | q9 <;> first | omega | exact q9.2), ⟨z2481, xsk_e (by omega) hG0 v2609 (by omega), by omega⟩⟩ (Nat.le_refl _) (Nat.le_refl _)
            · refine X_aloadn hK (i := 0) 2 kd45_29.1 rfl rfl ?_
              refine X_getK hK fl_X12_153_13 hs_a0 ((hg2482 a0 13 0 72 hs_a0 (by decide)).trans ((hg1624 a0 13 0 72 hs_a0 (by decide)).trans ewg1)) kd45_29.2.1 ?_
              refine X_aloadn hK (i := 0) 2 kd45_29.2.2.1 rfl rfl ?_
              refine X_getK hK fl_X12_162_13 hs_a0 ((hg2482 a0 13 0 75 hs_a0 (by decide)).trans ((hg1624 a0 13 0 75 hs_a0 (by decide)).trans ew75)) kd45_29.2.2.2.1 ?_
              refine X_iloadn hK (i := 1) 3 kd45_29.2.2.2.2.1 rfl rfl ?_
              refine X_callS hK [.ref wg1, .ref w75, .int (iI x1)] [] lk_X12_441 (c_sumOf_t _ _ _ _ _ S g2482 wg1 w75 x1 hs_wg1 hs_w75 (by omega)) kd45_29.2.2.2.2.2.1 rfl rfl (by simp [Value.category]) (by decide) (by decide) (by decide) (by decide) (fun r2612 S2614 g2613 pr2612 qr2612 hg2613 => ?_)
              obtain ⟨rfl, rfl, z2615, rfl, lz2615, uz2615, k2616⟩ := pr2612
              refine X_st [.int (iI z2615)] rfl ?_
              refine X_istore hK (i := 5) [(5, .int (iI z2615)), (4, .int (iI z2480)), (3, .int (iI z2481)), (0, .ref a0), (1, .int (iI x1)), (2, .int (iI x2))] kd45_29.2.2.2.2.2.2.1 (by decide) rfl ?_
              refine X_iload hK (i := 5) 0 kd45_29.2.2.2.2.2.2.2.1 rfl ?_
              refine X_iloadn hK (i := 3) 2 kd45_29.2.2.2.2.2.2.2.2.1 rfl rfl ?_
              refine X_icmp_le hK 99 (by omega) (by omega) kd45_29.2.2.2.2.2.2.2.2.2.1 (by decide) (fun c2617 => ?_) (fun c2617 => ?_)
              · refine X_aloadn hK (i := 0) 3 kd45_31.2.2.2.2.2.2.2.2.2.2.1 rfl rfl ?_
                refine X_getK hK fl_X12_162_13 hs_a0 ((hg2482 a0 13 0 75 hs_a0 (by decide)).trans ((hg1624 a0 13 0 75 hs_a0 (by decide)).trans ew75)) kd45_31.2.2.2.2.2.2.2.2.2.2.2 ?_
                refine X_iloadn hK (i := 1) 4 kd45_32.1 rfl rfl ?_
                refine X_callS hK [.ref w75, .int (iI x1)] [] lk_X12_449 (c_X12_goOn _ _ _ _ _ S g2482 w75 x1 hs_w75 (by omega) v2605 (v2608 (by omega))) kd45_32.2.1 rfl rfl (by simp [Value.category]) (by decide) (by decide) (by decide) (by decide) (fun r2618 S2620 g2619 pr2618 qr2618 hg2619 => ?_)
                obtain ⟨rfl, z2621, rfl, lz2621, uz2621, k2622, k2623, k2624, k2625, k2626⟩ := pr2618
                refine X_st [.int (iI z2621)] rfl ?_
                refine X_istore hK (i := 4) [(4, .int (iI z2621)), (5, .int (iI z2615)), (3, .int (iI z2481)), (0, .ref a0), (1, .int (iI x1)), (2, .int (iI x2))] kd45_32.2.2.1 (by decide) rfl ?_
                refine X_goto hK 29 kd45_32.2.2.2.1 (by decide) ?_
                refine X_lv [(4, .int (iI z2621)), (3, .int (iI z2481)), (0, .ref a0), (1, .int (iI x1)), (2, .int (iI x2))] [0, 2, 3, 4, 5] rfl ?_
                exact ihP2604  g2619 (xM.tr (xM.tr xM.rf xLe.rf hg2482 (by decide)) xLe.rf hg2619 (by decide)) z2621 (by omega) (by omega) z2481 (by omega) (by omega) k2622 (by rw [(xv_m hg2619 hs_w74 (by decide) (by decide))]; exact v2606) k2624 (fun q9 => (k2625 q9).1) (xsk_s (by omega) (by omega) (v2608 (by omega)) (by omega) v2609 (Or.inl ⟨rfl, fun k q1 q2 => by rw [(xv_m hg2619 hs_w74 (by decide) (by decide))], Or.inl (by have h9 := (show z2615 = xVs x1 (xv g wg1) (xv g2482 w75) from by rw [← (Eq.trans (xv_m hg2482 hs_wg1 (by decide) (by decide)) (xv_m hg1624 hs_wg1 (by decide) (by decide)))]; exact k2616); omega)⟩) (fun q9 => (k2625 q9).2) (fun q9 => k2626 q9) k2623) (by omega)
              · refine X_aloadn hK (i := 0) 3 kd45_29.2.2.2.2.2.2.2.2.2.2.1 rfl rfl ?_
                refine X_aloadn hK (i := 0) 3 kd45_29.2.2.2.2.2.2.2.2.2.2.2 rfl rfl ?_
                refine X_getK hK fl_X12_162_13 hs_a0 ((hg2482 a0 13 0 75 hs_a0 (by decide)).trans ((hg1624 a0 13 0 75 hs_a0 (by decide)).trans ew75)) kd45_30.1 ?_
                refine X_iloadn hK (i := 1) 4 kd45_30.2.1 rfl rfl ?_
                refine X_iloadn hK (i := 2) 5 kd45_30.2.2.1 rfl rfl ?_
                refine X_callV hK [.ref w75, .int (iI x1), .int (iI x2)] [] lk_X12_445 (c_mPeace_t _ _ _ _ _ S g2482 a0 w75 x1 x2 wg1 wm1 hs_a0 hs_w75 (by omega) (by omega) ((hg2482 a0 13 0 72 hs_a0 (by decide)).trans ((hg1624 a0 13 0 72 hs_a0 (by decide)).trans ewg1)) hs_wg1 ((hg2482 a0 13 0 73 hs_a0 (by decide)).trans ((hg1624 a0 13 0 73 hs_a0 (by decide)).trans ewm1)) hs_wm1) hs_a0 ⟨by decide, rfl⟩ kd45_30.2.2.2.1 rfl rfl (by simp [Value.category]) (by decide) (by decide) (by decide) (by decide) (fun r2627 S2629 g2628 pr2627 qr2627 hg2628 => ?_)
                obtain ⟨rfl, rfl, z2630, rfl, lz2630, uz2630, k2631⟩ := pr2627
                refine X_st [.int (iI z2630)] rfl ?_
                refine X_if_eq hK 99 (by omega) kd45_30.2.2.2.2.1 (by decide) (fun c2632 => ?_) (fun c2632 => ?_)
                · refine X_aloadn hK (i := 0) 3 kd45_31.2.2.2.2.2.2.2.2.2.2.1 rfl rfl ?_
                  refine X_getK hK fl_X12_162_13 hs_a0 ((hg2482 a0 13 0 75 hs_a0 (by decide)).trans ((hg1624 a0 13 0 75 hs_a0 (by decide)).trans ew75)) kd45_31.2.2.2.2.2.2.2.2.2.2.2 ?_
                  refine X_iloadn hK (i := 1) 4 kd45_32.1 rfl rfl ?_
                  refine X_callS hK [.ref w75, .int (iI x1)] [] lk_X12_449 (c_X12_goOn _ _ _ _ _ S g2482 w75 x1 hs_w75 (by omega) v2605 (v2608 (by omega))) kd45_32.2.1 rfl rfl (by simp [Value.category]) (by decide) (by decide) (by decide) (by decide) (fun r2633 S2635 g2634 pr2633 qr2633 hg2634 => ?_)
                  obtain ⟨rfl, z2636, rfl, lz2636, uz2636, k2637, k2638, k2639, k2640, k2641⟩ := pr2633
                  refine X_st [.int (iI z2636)] rfl ?_
                  refine X_istore hK (i := 4) [(4, .int (iI z2636)), (5, .int (iI z2615)), (3, .int (iI z2481)), (0, .ref a0), (1, .int (iI x1)), (2, .int (iI x2))] kd45_32.2.2.1 (by decide) rfl ?_
                  refine X_goto hK 29 kd45_32.2.2.2.1 (by decide) ?_
                  refine X_lv [(4, .int (iI z2636)), (3, .int (iI z2481)), (0, .ref a0), (1, .int (iI x1)), (2, .int (iI x2))] [0, 2, 3, 4, 5] rfl ?_
                  exact ihP2604  g2634 (xM.tr (xM.tr xM.rf xLe.rf hg2482 (by decide)) xLe.rf hg2634 (by decide)) z2636 (by omega) (by omega) z2481 (by omega) (by omega) k2637 (by rw [(xv_m hg2634 hs_w74 (by decide) (by decide))]; exact v2606) k2639 (fun q9 => (k2640 q9).1) (xsk_s (by omega) (by omega) (v2608 (by omega)) (by omega) v2609 (Or.inl ⟨rfl, fun k q1 q2 => by rw [(xv_m hg2634 hs_w74 (by decide) (by decide))], Or.inr (fun q9 => by have h8 := (show _ = (1 : Int) ↔ xPq x1 (xv g wg1) (xv g wm1) x2 (xv g2482 w75) x1 from by rw [← (Eq.trans (xv_m hg2482 hs_wg1 (by decide) (by decide)) (xv_m hg1624 hs_wg1 (by decide) (by decide))), ← (Eq.trans (xv_m hg2482 hs_wm1 (by decide) (by decide)) (xv_m hg1624 hs_wm1 (by decide) (by decide)))]; exact k2631).mpr q9; omega)⟩) (fun q9 => (k2640 q9).2) (fun q9 => k2641 q9) k2638) (by omega)
                · refine X_iload hK (i := 5) 0 kd45_30.2.2.2.2.2.1 rfl ?_
                  refine X_istoren hK (i := 3) [(3, .int (iI z2615)), (5, .int (iI z2615)), (4, .int (iI z2480)), (0, .ref a0), (1, .int (iI x1)), (2, .int (iI x2))] kd45_30.2.2.2.2.2.2.1 rfl (by decide) rfl ?_
                  refine X_iconst hK kd45_30.2.2.2.2.2.2.2.1 ?_
                  refine X_istore hK (i := 6) [(6, .int (iI 0)), (3, .int (iI z2615)), (5, .int (iI z2615)), (4, .int (iI z2480)), (0, .ref a0), (1, .int (iI x1)), (2, .int (iI x2))] kd45_30.2.2.2.2.2.2.2.2.1 (by decide) rfl ?_
                  have P2716 : ∀ (nP2716 : Nat) (g2703 : xG) (_ : xM [(18300, 0)] S g2482 g2703) (z2702 : Int) (_ : 0 ≤ z2702) (_ : z2702 ≤ 8) (_ : ∀ k, 0 ≤ k → k < z2702 → 0 ≤ xv g2703 w74 k) (_ : ∀ k, 0 ≤ k → k < z2702 → xv g2703 w74 k = xv g2482 w75 k) (_ : 24 - z2702 < (nP2716 : Int)), X K E 73 [(6, .int (iI z2702)), (3, .int (iI z2615)), (5, .int (iI z2615)), (4, .int (iI z2480)), (0, .ref a0), (1, .int (iI x1)), (2, .int (iI x2))] [] S g2703 0 0 := by
                    intro nP2716
                    induction nP2716 with
                    | zero => intro g2703 hg2703 z2702 lz2702 uz2702 v2717 v2718 mP2716; exact False.elim (by omega)
                    | succ nP2716 ihP2716 =>
                      intro g2703 hg2703 z2702 lz2702 uz2702 v2717 v2718 mP2716
                      refine X_iload hK (i := 6) 0 kd45_30.2.2.2.2.2.2.2.2.2.1 rfl ?_
                      refine X_iloadn hK (i := 1) 5 kd45_30.2.2.2.2.2.2.2.2.2.2.1 rfl rfl ?_
                      refine X_icmp_ge hK 99 (by omega) (by omega) kd45_30.2.2.2.2.2.2.2.2.2.2.2 (by decide) (fun c2719 => ?_) (fun c2719 => ?_)
                      · refine X_aloadn hK (i := 0) 4 kd45_31.2.2.2.2.2.2.2.2.2.2.1 rfl rfl ?_
                        refine X_getK hK fl_X12_162_13 hs_a0 ((hg2703 a0 13 0 75 hs_a0 (by decide)).trans ((hg2482 a0 13 0 75 hs_a0 (by decide)).trans ((hg1624 a0 13 0 75 hs_a0 (by decide)).trans ew75))) kd45_31.2.2.2.2.2.2.2.2.2.2.2 ?_
                        refine X_iloadn hK (i := 1) 5 kd45_32.1 rfl rfl ?_
                        refine X_callS hK [.ref w75, .int (iI x1)] [] lk_X12_449 (c_X12_goOn _ _ _ _ _ S g2703 w75 x1 hs_w75 (by omega) (by rw [(xv_m hg2703 hs_w75 (by decide) (by decide))]; exact v2605) (by rw [(xv_m hg2703 hs_w75 (by decide) (by decide))]; exact v2608 (by omega))) kd45_32.2.1 rfl rfl (by simp [Value.category]) (by decide) (by decide) (by decide) (by decide) (fun r2720 S2722 g2721 pr2720 qr2720 hg2721 => ?_)
                        obtain ⟨rfl, z2723, rfl, lz2723, uz2723, k2724, k2725, k2726, k2727, k2728⟩ := pr2720
                        refine X_st [.int (iI z2723)] rfl ?_
                        have hnk2725 : xnm x1 (xv g2482 w75) + z2723 ≤ xnm x1 (xv g2721 w75) := by have h9 := k2725; rw [(xv_m hg2703 hs_w75 (by decide) (by decide))] at h9; exact h9
                        refine X_istore hK (i := 4) [(4, .int (iI z2723)), (6, .int (iI z2702)), (3, .int (iI z2615)), (5, .int (iI z2615)), (0, .ref a0), (1, .int (iI x1)), (2, .int (iI x2))] kd45_32.2.2.1 (by decide) rfl ?_
                        refine X_goto hK 29 kd45_32.2.2.2.1 (by decide) ?_
                        refine X_lv [(4, .int (iI z2723)), (3, .int (iI z2615)), (0, .ref a0), (1, .int (iI x1)), (2, .int (iI x2))] [0, 2, 4, 5, 6] rfl ?_
                        exact ihP2604  g2721 (xM.tr (xM.tr (xM.tr xM.rf xLe.rf hg2482 (by decide)) xLe.rf hg2703 (by decide)) xLe.rf hg2721 (by decide)) z2723 (by omega) (by omega) z2615 (by omega) (by omega) k2724 (Or.inr ⟨by omega, fun k q1 q2 => by rw [(xv_m hg2721 hs_w74 (by decide) (by decide))]; exact v2717 k q1 (by omega)⟩) k2726 (fun q9 => (k2727 q9).1) (xsk_s (by omega) (by omega) (v2608 (by omega)) (by omega) v2609 (Or.inr ⟨by omega, (show _ = (1 : Int) ↔ xPq x1 (xv g wg1) (xv g wm1) x2 (xv g2482 w75) x1 from by rw [← (Eq.trans (xv_m hg2482 hs_wg1 (by decide) (by decide)) (xv_m hg1624 hs_wg1 (by decide) (by decide))), ← (Eq.trans (xv_m hg2482 hs_wm1 (by decide) (by decide)) (xv_m hg1624 hs_wm1 (by decide) (by decide)))]; exact k2631).mp (by omega), (show z2615 = xVs x1 (xv g wg1) (xv g2482 w75) from by rw [← (Eq.trans (xv_m hg2482 hs_wg1 (by decide) (by decide)) (xv_m hg1624 hs_wg1 (by decide) (by decide)))]; exact k2616).symm, fun k q1 q2 => (by rw [(xv_m hg2721 hs_w74 (by decide) (by decide))]; exact v2718 k q1 (by omega))⟩) (fun q9 => (by rw [← (xv_m hg2703 hs_w75 (by decide) (by decide))]; exact (k2727 q9).2)) (fun q9 => (by rw [← (xv_m hg2703 hs_w75 (by decide) (by decide))]; exact k2728 q9)) (by rw [← (xv_m hg2703 hs_w75 (by decide) (by decide))]; exact k2725)) (by omega)
                      · refine X_aloadn hK (i := 0) 4 kd45_31.1 rfl rfl ?_
                        refine X_getK hK fl_X12_159_13 hs_a0 ((hg2703 a0 13 0 74 hs_a0 (by decide)).trans ((hg2482 a0 13 0 74 hs_a0 (by decide)).trans ((hg1624 a0 13 0 74 hs_a0 (by decide)).trans ew74))) kd45_31.2.1 ?_
                        refine X_iload hK (i := 6) 0 kd45_31.2.2.1 rfl ?_
                        refine X_aloadn hK (i := 0) 4 kd45_31.2.2.2.1 rfl rfl ?_
                        refine X_getK hK fl_X12_162_13 hs_a0 ((hg2703 a0 13 0 75 hs_a0 (by decide)).trans ((hg2482 a0 13 0 75 hs_a0 (by decide)).trans ((hg1624 a0 13 0 75 hs_a0 (by decide)).trans ew75))) kd45_31.2.2.2.2.1 ?_
                        refine X_iload hK (i := 6) 0 kd45_31.2.2.2.2.2.1 rfl ?_
                        refine X_iald hK hs_w75 (by decide) sl_18400 (by omega) (by omega) kd45_31.2.2.2.2.2.2.1 (fun z2729 ez2729 lz2729 uz2729 => ?_)
                        have hvz2729 := xv_e (j := z2702) ez2729 (by omega)
                        have hw2730 : xv g2703 w75 z2702 = z2729 := xv_e (j := z2702) ez2729 (by omega)
                        refine X_iast hK hs_w74 (by decide) (by decide) sl_18300 (by omega) (by omega) (by omega) (by omega) kd45_31.2.2.2.2.2.2.2.1 (fun g2731 hg2731 => ?_)
                        refine X_iinc hK (i := 6) (z := z2702) (n := 1) 0 [(6, .int (iI (z2702 + 1))), (3, .int (iI z2615)), (5, .int (iI z2615)), (4, .int (iI z2480)), (0, .ref a0), (1, .int (iI x1)), (2, .int (iI x2))] kd45_31.2.2.2.2.2.2.2.2.1 rfl (by decide) rfl ?_
                        refine X_goto hK 73 kd45_31.2.2.2.2.2.2.2.2.2.1 (by decide) ?_
                        exact ihP2716  g2731 (xM_ua (xM.tr xM.rf xLe.rf hg2703 (by decide)) hg2731 hs_w74 (by decide) (by decide)) (z2702 + 1) (by omega) (by omega) (xpre (P := fun x => 0 ≤ x) v2717 (fun i9 hi9 h09 => (show xv g2731 w74 i9 = xv g2703 w74 i9 from by rw [(xv_k (i := i9) hg2731 (by omega) (by omega) (by omega))])) (by have h9 := (show xv g2731 w74 z2702 = z2729 from by rw [xv_s hg2731 (by omega)]); omega)) (fun k q1 q2 => by by_cases e9 : k = z2702; (rw [e9, (show xv g2731 w74 z2702 = z2729 from by rw [xv_s hg2731 (by omega)])]; have h8 := hw2730; rw [(xv_m hg2703 hs_w75 (by decide) (by decide))] at h8; exact h8.symm); (rw [(show xv g2731 w74 k = xv g2703 w74 k from by rw [(xv_k (i := k) hg2731 (by omega) (by omega) (by omega))])]; exact v2718 k q1 (by omega))) (by omega)
                  exact P2716 ((24 - 0 : Int).toNat + 1) g2482 xM.rf 0 (by omega) (by omega) (fun k q1 q2 => by omega) (fun k q1 q2 => by omega) (by omega)
        exact P2604 ((2 * (16777216 - xnm x1 (xv g1624 w75)) + 1 : Int).toNat + 1) g1624 xM.rf 1 (by omega) (by omega) (-1) (by omega) (by omega) (fun i j q1 q2 q3 q4 q5 => by rw [v1879 i q1 (by omega), v1879 j q3 (by omega)]; exact q5) (Or.inl ⟨rfl, (xv_m hg1624 hs_w74 (by decide) (by decide))⟩) (xnm_b (by omega) (fun k q1 q2 => by rw [v1879 k q1 (by omega)]; omega)) (fun _ => xPr.id (fun k q1 q2 => v1879 k q1 (by omega))) (by rw [(xv_m hg1624 hs_w74 (by decide) (by decide))]; exact xsk_0 (by omega) (by omega) (fun k q1 q2 => v1879 k q1 (by omega))) (by omega)
      · refine X_aloadn hK (i := 0) 2 kd45_28.2.1 rfl rfl ?_
        refine X_getK hK fl_X12_162_13 hs_a0 ((hg1624 a0 13 0 75 hs_a0 (by decide)).trans ew75) kd45_28.2.2.1 ?_
        refine X_iload hK (i := 4) 0 kd45_28.2.2.2.1 rfl ?_
        refine X_iload hK (i := 4) 0 kd45_28.2.2.2.2.1 rfl ?_
        refine X_iast hK hs_w75 (by decide) (by decide) sl_18400 (by omega) (by omega) (by omega) (by omega) kd45_28.2.2.2.2.2.1 (fun g2732 hg2732 => ?_)
        refine X_iinc hK (i := 4) (z := z1623) (n := 1) 0 [(4, .int (iI (z1623 + 1))), (3, .int (iI (-1))), (0, .ref a0), (1, .int (iI x1)), (2, .int (iI x2))] kd45_28.2.2.2.2.2.2.1 rfl (by decide) rfl ?_
        refine X_goto hK 5 kd45_28.2.2.2.2.2.2.2.1 (by decide) ?_
        exact ihP1878  g2732 (xM_ua (xM.tr xM.rf xLe.rf hg1624 (by decide)) hg2732 hs_w75 (by decide) (by decide)) (z1623 + 1) (by omega) (by omega) (fun k q1 q2 => by rcases (show k < z1623 ∨ k = z1623 by omega) with c9 | c9 <;> first | (rw [c9]; exact (show xv g2732 w75 z1623 = z1623 from by rw [xv_s hg2732 (by omega)])) | (rw [(show xv g2732 w75 k = xv g1624 w75 k from by rw [(xv_k (i := k) hg2732 (by omega) (by omega) (by omega))])]; exact v1879 k q1 c9)) (by omega)
  exact P1878 ((24 - 0 : Int).toNat + 1) g xM.rf 0 (by omega) (by omega) (fun k q1 q2 => by omega) (by omega)

set_option maxHeartbeats 4000000 in
set_option maxRecDepth 100000 in
theorem c_X12_offer (l : Launch) (D : va_G) (kA : Nat → ClassId) (b0 : Nat) (t0 : Nat → Nat) (S : xT) (g : xG) (a0 : Nat) (x1 : Int) (w74 : Nat) (w76 : Nat) (w77 : Nat) (wg1 : Nat) (wm1 : Nat) (hs_a0 : S a0 = some (13, 0)) (hx1 : 1 ≤ x1 ∧ x1 ≤ 8) (ew74 : g a0 74 = .ref w74) (hs_w74 : S w74 = some (18300, 8)) (ew76 : g a0 76 = .ref w76) (hs_w76 : S w76 = some (18500, 8)) (ew77 : g a0 77 = .ref w77) (hs_w77 : S w77 = some (19701, 64)) (ewg1 : g a0 72 = .ref wg1) (hs_wg1 : S wg1 = some (18100, 64)) (ewm1 : g a0 73 = .ref wm1) (hs_wm1 : S wm1 = some (18200, 64)) : xMt l yX12_offer cX12_offer 7 none 0 0 0 0 D kA b0 t0 [(19701, 0), (18300, 0), (18500, 0)] [.ref a0, .int (iI x1)] S g (fun (r : Option Value) (S1 : xT) (g1 : xG) => S = S1 ∧ r = none ∧ (xCo x1 (xv g1 w74)) ∧ (xOpt x1 (xv g wg1) (xv g wm1) (xv g1 w74))) := by
  refine xEnterV (by decide) (by simp [lg_sl, Value.category]) [(0, .ref a0), (1, .int (iI x1))] rfl ?_
  intro K E hK hret _ _ _
  refine X_iconst hK kd45_11.2.2.2.2.2.2.2.2.2.2.1 ?_
  refine X_istoren hK (i := 2) [(2, .int (iI 0)), (0, .ref a0), (1, .int (iI x1))] kd45_11.2.2.2.2.2.2.2.2.2.2.2 rfl (by decide) rfl ?_
  have P19293 : ∀ (nP19293 : Nat) (g17189 : xG) (_ : xM [(19701, 0)] S g g17189) (z17188 : Int) (_ : 0 ≤ z17188) (_ : z17188 ≤ 64) (_ : ∀ k, 0 ≤ k → k < z17188 → xv g17189 w77 k = 0) (_ : 80 - z17188 < (nP19293 : Int)), X K E 2 [(2, .int (iI z17188)), (0, .ref a0), (1, .int (iI x1))] [] S g17189 0 0 := by
    intro nP19293
    induction nP19293 with
    | zero => intro g17189 hg17189 z17188 lz17188 uz17188 v19294 mP19293; exact False.elim (by omega)
    | succ nP19293 ihP19293 =>
      intro g17189 hg17189 z17188 lz17188 uz17188 v19294 mP19293
      refine X_iloadn hK (i := 2) 0 kd45_12.1 rfl rfl ?_
      refine X_bipush hK kd45_12.2.1 (by decide) ?_
      refine X_icmp_ge hK 21 (by omega) (by omega) kd45_12.2.2.1 (by decide) (fun c19295 => ?_) (fun c19295 => ?_)
      · refine X_iconst hK kd45_12.2.2.2.2.2.2.2.2.2.2.1 ?_
        refine X_istoren hK (i := 2) [(2, .int (iI 0)), (0, .ref a0), (1, .int (iI x1))] kd45_12.2.2.2.2.2.2.2.2.2.2.2 rfl (by decide) rfl ?_
        have P24550 : ∀ (nP24550 : Nat) (g23501 : xG) (_ : xM [(18500, 0), (18300, 0)] S g17189 g23501) (z23500 : Int) (_ : 0 ≤ z23500) (_ : z23500 ≤ 8) (_ : ∀ k, 0 ≤ k → k < z23500 → xv g23501 w74 k = -1) (_ : ∀ k, 0 ≤ k → k < z23500 → xv g23501 w76 k = -1) (_ : 24 - z23500 < (nP24550 : Int)), X K E 23 [(2, .int (iI z23500)), (0, .ref a0), (1, .int (iI x1))] [] S g23501 0 0 := by
          intro nP24550
          induction nP24550 with
          | zero => intro g23501 hg23501 z23500 lz23500 uz23500 v24551 v24552 mP24550; exact False.elim (by omega)
          | succ nP24550 ihP24550 =>
            intro g23501 hg23501 z23500 lz23500 uz23500 v24551 v24552 mP24550
            refine X_iloadn hK (i := 2) 0 kd45_13.1 rfl rfl ?_
            refine X_bipush hK kd45_13.2.1 (by decide) ?_
            refine X_icmp_ge hK 49 (by omega) (by omega) kd45_13.2.2.1 (by decide) (fun c24553 => ?_) (fun c24553 => ?_)
            · refine X_iconst hK kd45_14.2.2.2.1 ?_
              refine X_istoren hK (i := 2) [(2, .int (iI 1)), (0, .ref a0), (1, .int (iI x1))] kd45_14.2.2.2.2.1 rfl (by decide) rfl ?_
              have P27679 : ∀ (nP27679 : Nat) (g27159 : xG) (_ : xM [(18300, 0), (18500, 0), (19701, 0)] S g23501 g27159) (z27158 : Int) (_ : 0 ≤ z27158) (_ : z27158 ≤ 1) (_ : xOf x1 (xv g27159 w74) (xv g27159 w76) (xv g27159 w77)) (_ : 0 ≤ xPh x1 (xv g27159 w76) (xv g27159 w77) ∧ xPh x1 (xv g27159 w76) (xv g27159 w77) ≤ x1 * x1 + x1) (_ : z27158 = 0 → ∀ k, 0 ≤ k → k < x1 → xv g27159 w74 k ≠ -1) (_ : xDa x1 (xv g27159 wg1) (xv g27159 wm1) (xv g27159 w74) (xv g27159 w76) (xv g27159 w77)) (_ : 2 * (x1 * x1 + x1 - xPh x1 (xv g27159 w76) (xv g27159 w77)) + z27158 < (nP27679 : Int)), X K E 51 [(2, .int (iI z27158)), (0, .ref a0), (1, .int (iI x1))] [] S g27159 0 0 := by
                intro nP27679
                induction nP27679 with
                | zero => intro g27159 hg27159 z27158 lz27158 uz27158 v27680 v27681 v27682 v27683 mP27679; exact False.elim (by omega)
                | succ nP27679 ihP27679 =>
                  intro g27159 hg27159 z27158 lz27158 uz27158 v27680 v27681 v27682 v27683 mP27679
                  refine X_iloadn hK (i := 2) 0 kd45_14.2.2.2.2.2.1 rfl rfl ?_
                  refine X_if_eq hK 328 (by omega) kd45_14.2.2.2.2.2.2.1 (by decide) (fun c27684 => ?_) (fun c27684 => ?_)
                  · exact hret _ _ _ _ _ _ kd45_27.2.2.2.2.2.1 ⟨rfl, rfl, (xOf.co v27680 (v27682 (by omega))), (by rw [← (Eq.trans (Eq.trans (xv_m hg27159 hs_wg1 (by decide) (by decide)) (xv_m hg23501 hs_wg1 (by decide) (by decide))) (xv_m hg17189 hs_wg1 (by decide) (by decide))), ← (Eq.trans (Eq.trans (xv_m hg27159 hs_wm1 (by decide) (by decide)) (xv_m hg23501 hs_wm1 (by decide) (by decide))) (xv_m hg17189 hs_wm1 (by decide) (by decide)))]; exact xDa.fin v27683 v27680 (v27682 (by omega)))⟩ (Nat.le_refl _) (Nat.le_refl _)
                  · refine X_iconst hK kd45_14.2.2.2.2.2.2.2.1 ?_
                    refine X_istoren hK (i := 2) [(2, .int (iI 0)), (0, .ref a0), (1, .int (iI x1))] kd45_14.2.2.2.2.2.2.2.2.1 rfl (by decide) rfl ?_
                    refine X_iconst hK kd45_14.2.2.2.2.2.2.2.2.2.1 ?_
                    refine X_istoren hK (i := 3) [(3, .int (iI 0)), (2, .int (iI 0)), (0, .ref a0), (1, .int (iI x1))] kd45_14.2.2.2.2.2.2.2.2.2.2.1 rfl (by decide) rfl ?_
                    have P30038 : ∀ (nP30038 : Nat) (g29643 : xG) (_ : xM [(18300, 0), (18500, 0), (19701, 0)] S g27159 g29643) (z29641 : Int) (_ : 0 ≤ z29641) (_ : z29641 ≤ 8) (z29642 : Int) (_ : 0 ≤ z29642) (_ : z29642 ≤ 1) (_ : xOf x1 (xv g29643 w74) (xv g29643 w76) (xv g29643 w77)) (_ : xPh x1 (xv g27159 w76) (xv g27159 w77) + z29642 ≤ xPh x1 (xv g29643 w76) (xv g29643 w77)) (_ : z29642 = 0 → ∀ k, 0 ≤ k → k < z29641 → xv g29643 w74 k ≠ -1) (_ : xDa x1 (xv g29643 wg1) (xv g29643 wm1) (xv g29643 w74) (xv g29643 w76) (xv g29643 w77)) (_ : 24 - z29641 < (nP30038 : Int)), X K E 59 [(3, .int (iI z29641)), (2, .int (iI z29642)), (0, .ref a0), (1, .int (iI x1))] [] S g29643 0 0 := by
                      intro nP30038
                      induction nP30038 with
                      | zero => intro g29643 hg29643 z29641 lz29641 uz29641 z29642 lz29642 uz29642 v30039 v30040 v30041 v30042 mP30038; exact False.elim (by omega)
                      | succ nP30038 ihP30038 =>
                        intro g29643 hg29643 z29641 lz29641 uz29641 z29642 lz29642 uz29642 v30039 v30040 v30041 v30042 mP30038
                        refine X_iloadn hK (i := 3) 0 kd45_14.2.2.2.2.2.2.2.2.2.2.2 rfl rfl ?_
                        refine X_iloadn hK (i := 1) 3 kd45_15.1 rfl rfl ?_
                        refine X_icmp_ge hK 325 (by omega) (by omega) kd45_15.2.1 (by decide) (fun c30043 => ?_) (fun c30043 => ?_)
                        · refine X_goto hK 51 kd45_27.2.2.2.2.1 (by decide) ?_
                          refine X_lv [(2, .int (iI z29642)), (0, .ref a0), (1, .int (iI x1))] [1, 2, 3] rfl ?_
                          exact ihP27679  g29643 (xM.tr (xM.tr xM.rf xLe.rf hg27159 (by decide)) xLe.rf hg29643 (by decide)) z29642 (by omega) (by omega) v30039 (xPh_le (n := x1) (xv g29643 w76) (xv g29643 w77) (by omega)) (fun h9 k q1 q2 => v30041 h9 k q1 (by omega)) v30042 (by omega)
                        · refine X_aloadn hK (i := 0) 2 kd45_15.2.2.1 rfl rfl ?_
                          refine X_getK hK fl_X12_159_13 hs_a0 ((hg29643 a0 13 0 74 hs_a0 (by decide)).trans ((hg27159 a0 13 0 74 hs_a0 (by decide)).trans ((hg23501 a0 13 0 74 hs_a0 (by decide)).trans ((hg17189 a0 13 0 74 hs_a0 (by decide)).trans ew74)))) kd45_15.2.2.2.1 ?_
                          refine X_iloadn hK (i := 3) 0 kd45_15.2.2.2.2.1 rfl rfl ?_
                          refine X_iald hK hs_w74 (by decide) sl_18300 (by omega) (by omega) kd45_15.2.2.2.2.2.1 (fun z30044 ez30044 lz30044 uz30044 => ?_)
                          have hvz30044 := xv_e (j := z29641) ez30044 (by omega)
                          refine X_iconst hK kd45_15.2.2.2.2.2.2.1 ?_
                          refine X_icmp_eq hK 77 (by omega) (by omega) kd45_15.2.2.2.2.2.2.2.1 (by decide) (fun c30045 => ?_) (fun c30045 => ?_)
                          · refine X_iconst hK kd45_15.2.2.2.2.2.2.2.2.2.1 ?_
                            refine X_istoren hK (i := 2) [(2, .int (iI 1)), (3, .int (iI z29641)), (0, .ref a0), (1, .int (iI x1))] kd45_15.2.2.2.2.2.2.2.2.2.2.1 rfl (by decide) rfl ?_
                            refine X_iconst hK kd45_15.2.2.2.2.2.2.2.2.2.2.2 ?_
                            refine X_istore hK (i := 4) [(4, .int (iI (-1))), (2, .int (iI 1)), (3, .int (iI z29641)), (0, .ref a0), (1, .int (iI x1))] kd45_16.1 (by decide) rfl ?_
                            refine X_iconst hK kd45_16.2.1 ?_
                            refine X_istore hK (i := 5) [(5, .int (iI 0)), (4, .int (iI (-1))), (2, .int (iI 1)), (3, .int (iI z29641)), (0, .ref a0), (1, .int (iI x1))] kd45_16.2.2.1 (by decide) rfl ?_
                            have P30379 : ∀ (nP30379 : Nat) (z30324 : Int) (_ : 0 ≤ z30324) (_ : z30324 ≤ 8) (z30325 : Int) (_ : (-1) ≤ z30325) (_ : z30325 ≤ 7) (_ : z30325 = -1 → ∀ c, 0 ≤ c → c < z30324 → xv g29643 w77 (8 * z29641 + c) ≠ 0) (_ : z30325 ≠ -1 → z30325 < z30324 ∧ xv g29643 w77 (8 * z29641 + z30325) = 0) (_ : z30324 ≤ x1) (_ : xD3 (xv g29643 wg1) (xv g29643 w77) z29641 z30324 z30325) (_ : 24 - z30324 < (nP30379 : Int)), X K E 85 [(5, .int (iI z30324)), (4, .int (iI z30325)), (2, .int (iI 1)), (3, .int (iI z29641)), (0, .ref a0), (1, .int (iI x1))] [] S g29643 0 0 := by
                              intro nP30379
                              induction nP30379 with
                              | zero => intro z30324 lz30324 uz30324 z30325 lz30325 uz30325 v30380 v30381 v30382 v30383 mP30379; exact False.elim (by omega)
                              | succ nP30379 ihP30379 =>
                                intro z30324 lz30324 uz30324 z30325 lz30325 uz30325 v30380 v30381 v30382 v30383 mP30379
                                refine X_iload hK (i := 5) 0 kd45_16.2.2.2.1 rfl ?_
                                refine X_iloadn hK (i := 1) 5 kd45_16.2.2.2.2.1 rfl rfl ?_
                                refine X_icmp_ge hK 149 (by omega) (by omega) kd45_16.2.2.2.2.2.1 (by decide) (fun c30384 => ?_) (fun c30384 => ?_)
                                · refine X_aloadn hK (i := 0) 4 kd45_19.2.2.2.1 rfl rfl ?_
                                  refine X_getK hK fl_X12_165_13 hs_a0 ((hg29643 a0 13 0 76 hs_a0 (by decide)).trans ((hg27159 a0 13 0 76 hs_a0 (by decide)).trans ((hg23501 a0 13 0 76 hs_a0 (by decide)).trans ((hg17189 a0 13 0 76 hs_a0 (by decide)).trans ew76)))) kd45_19.2.2.2.2.1 ?_
                                  refine X_iload hK (i := 4) 1 kd45_19.2.2.2.2.2.1 rfl ?_
                                  have hfh30385 : z30325 ≠ -1 := fun e9 => xOf_free v30039 (b := z29641) (by omega) (by omega) (fun c q1 q2 => v30380 e9 c q1 (by omega))
                                  have hgh30386 := v30381 (by omega)
                                  refine X_iald hK hs_w76 (by decide) sl_18500 (by omega) (by omega) kd45_19.2.2.2.2.2.2.1 (fun z30387 ez30387 lz30387 uz30387 => ?_)
                                  have hvz30387 := xv_e (j := z30325) ez30387 (by omega)
                                  have hdz30387 : z30387 ≠ -1 → z30387 ≠ z29641 ∧ z30387 < x1 := fun e9 => by have h9 := v30039.2.1 z30325 (by omega) (by omega); rw [hvz30387] at h9; refine ⟨fun e8 => ?_, by omega⟩; rcases h9 with h9 | ⟨_, _, h9⟩ <;> first | omega | (rw [e8] at h9; omega)
                                  refine X_istore hK (i := 5) [(5, .int (iI z30387)), (4, .int (iI z30325)), (2, .int (iI 1)), (3, .int (iI z29641)), (0, .ref a0), (1, .int (iI x1))] kd45_19.2.2.2.2.2.2.2.1 (by decide) rfl ?_
                                  refine X_iload hK (i := 5) 0 kd45_19.2.2.2.2.2.2.2.2.1 rfl ?_
                                  refine X_iconst hK kd45_19.2.2.2.2.2.2.2.2.2.1 ?_
                                  refine X_icmp_eq hK 230 (by omega) (by omega) kd45_19.2.2.2.2.2.2.2.2.2.2.1 (by decide) (fun c30388 => ?_) (fun c30388 => ?_)
                                  · refine X_iconst hK kd45_23.2.2.1 ?_
                                    refine X_istore hK (i := 6) [(6, .int (iI 0)), (5, .int (iI z30387)), (4, .int (iI z30325)), (2, .int (iI 1)), (3, .int (iI z29641)), (0, .ref a0), (1, .int (iI x1))] kd45_23.2.2.2.1 (by decide) rfl ?_
                                    refine X_aloadn hK (i := 0) 5 kd45_23.2.2.2.2.1 rfl rfl ?_
                                    refine X_getK hK fl_X12_168_13 hs_a0 ((hg29643 a0 13 0 77 hs_a0 (by decide)).trans ((hg27159 a0 13 0 77 hs_a0 (by decide)).trans ((hg23501 a0 13 0 77 hs_a0 (by decide)).trans ((hg17189 a0 13 0 77 hs_a0 (by decide)).trans ew77)))) kd45_23.2.2.2.2.2.1 ?_
                                    refine X_bipush hK kd45_23.2.2.2.2.2.2.1 (by decide) ?_
                                    refine X_iload hK (i := 6) 0 kd45_23.2.2.2.2.2.2.2.1 rfl ?_
                                    refine X_if_eq hK 248 (by omega) kd45_23.2.2.2.2.2.2.2.2.1 (by decide) (fun c30389 => ?_) (fun c30389 => False.elim (by omega))
                                    refine X_iload hK (i := 5) 1 kd45_23.2.2.2.2.2.2.2.2.2.2.2 rfl ?_
                                    refine X_iconst hK kd45_24.1 ?_
                                    refine X_icmp_ne hK 258 (by omega) (by omega) kd45_24.2.1 (by decide) (fun c30390 => False.elim (by omega)) (fun c30390 => ?_)
                                    refine X_iloadn hK (i := 3) 4 kd45_24.2.2.1 rfl rfl ?_
                                    refine X_goto hK 260 kd45_24.2.2.2.1 (by decide) ?_
                                    refine X_imul hK kd45_24.2.2.2.2.2.1 ?_
                                    refine X_iload hK (i := 4) 2 kd45_24.2.2.2.2.2.2.1 rfl ?_
                                    refine X_iadd hK kd45_24.2.2.2.2.2.2.2.1 ?_
                                    refine X_iload hK (i := 6) 0 kd45_24.2.2.2.2.2.2.2.2.1 rfl ?_
                                    refine X_if_ne hK 275 (by omega) kd45_24.2.2.2.2.2.2.2.2.2.1 (by decide) (fun c30391 => False.elim (by omega)) (fun c30391 => ?_)
                                    refine X_iload hK (i := 5) 1 kd45_24.2.2.2.2.2.2.2.2.2.2.1 rfl ?_
                                    refine X_iconst hK kd45_24.2.2.2.2.2.2.2.2.2.2.2 ?_
                                    refine X_icmp_eq hK 279 (by omega) (by omega) kd45_25.1 (by decide) (fun c30392 => ?_) (fun c30392 => False.elim (by omega))
                                    refine X_iconst hK kd45_25.2.2.2.1 ?_
                                    refine X_zast hK hs_w77 (by decide) (by decide) sl_19701 (by omega) (by omega) (by omega) (by omega) kd45_25.2.2.2.2.1 (fun g30393 hg30393 => ?_)
                                    refine X_iload hK (i := 6) 0 kd45_25.2.2.2.2.2.1 rfl ?_
                                    refine X_if_eq hK 289 (by omega) kd45_25.2.2.2.2.2.2.1 (by decide) (fun c30394 => ?_) (fun c30394 => False.elim (by omega))
                                    refine X_iload hK (i := 5) 1 kd45_25.2.2.2.2.2.2.2.2.1 rfl ?_
                                    refine X_iconst hK kd45_25.2.2.2.2.2.2.2.2.2.1 ?_
                                    refine X_icmp_eq hK 303 (by omega) (by omega) kd45_25.2.2.2.2.2.2.2.2.2.2.1 (by decide) (fun c30395 => ?_) (fun c30395 => False.elim (by omega))
                                    refine X_aloadn hK (i := 0) 5 kd45_26.2.2.2.2.1 rfl rfl ?_
                                    refine X_getK hK fl_X12_165_13 hs_a0 ((xs_a hg30393 (xne hs_a0 hs_w77 (by decide))).trans ((hg29643 a0 13 0 76 hs_a0 (by decide)).trans ((hg27159 a0 13 0 76 hs_a0 (by decide)).trans ((hg23501 a0 13 0 76 hs_a0 (by decide)).trans ((hg17189 a0 13 0 76 hs_a0 (by decide)).trans ew76))))) kd45_26.2.2.2.2.2.1 ?_
                                    refine X_iload hK (i := 4) 2 kd45_26.2.2.2.2.2.2.1 rfl ?_
                                    refine X_iloadn hK (i := 3) 4 kd45_26.2.2.2.2.2.2.2.1 rfl rfl ?_
                                    refine X_iast hK hs_w76 (by decide) (by decide) sl_18500 (by omega) (by omega) (by omega) (by omega) kd45_26.2.2.2.2.2.2.2.2.1 (fun g30396 hg30396 => ?_)
                                    refine X_aloadn hK (i := 0) 5 kd45_26.2.2.2.2.2.2.2.2.2.1 rfl rfl ?_
                                    refine X_getK hK fl_X12_159_13 hs_a0 ((xs_a hg30396 (xne hs_a0 hs_w76 (by decide))).trans ((xs_a hg30393 (xne hs_a0 hs_w77 (by decide))).trans ((hg29643 a0 13 0 74 hs_a0 (by decide)).trans ((hg27159 a0 13 0 74 hs_a0 (by decide)).trans ((hg23501 a0 13 0 74 hs_a0 (by decide)).trans ((hg17189 a0 13 0 74 hs_a0 (by decide)).trans ew74)))))) kd45_26.2.2.2.2.2.2.2.2.2.2.1 ?_
                                    refine X_iloadn hK (i := 3) 4 kd45_26.2.2.2.2.2.2.2.2.2.2.2 rfl rfl ?_
                                    refine X_iload hK (i := 4) 2 kd45_27.1 rfl ?_
                                    refine X_iast hK hs_w74 (by decide) (by decide) sl_18300 (by omega) (by omega) (by omega) (by omega) kd45_27.2.1 (fun g30397 hg30397 => ?_)
                                    refine X_iinc hK (i := 3) (z := z29641) (n := 1) 4 [(3, .int (iI (z29641 + 1))), (6, .int (iI 0)), (5, .int (iI z30387)), (4, .int (iI z30325)), (2, .int (iI 1)), (0, .ref a0), (1, .int (iI x1))] kd45_27.2.2.1 rfl (by decide) rfl ?_
                                    refine X_goto hK 59 kd45_27.2.2.2.1 (by decide) ?_
                                    refine X_lv [(3, .int (iI (z29641 + 1))), (2, .int (iI 1)), (0, .ref a0), (1, .int (iI x1))] [0, 4, 5, 6] rfl ?_
                                    exact ihP30038  g30397 (xM_ua (xM_ua (xM_ua (xM.tr xM.rf xLe.rf hg29643 (by decide)) hg30393 hs_w77 (by decide) (by decide)) hg30396 hs_w76 (by decide) (by decide)) hg30397 hs_w74 (by decide) (by decide)) (z29641 + 1) (by omega) (by omega) 1 (by omega) (by omega) (xOf_1 (b := z29641) (c := z30325) v30039 (by omega) (by omega) (by omega) (by omega) (show xv g30397 w74 z29641 = z30325 from by rw [xv_s hg30397 (by omega)]) (fun i9 hi9 h09 => (show xv g30397 w74 i9 = xv g29643 w74 i9 from by rw [(xv_k (i := i9) hg30397 (by omega) (by omega) (by omega)), (xv_a hg30396 (xne hs_w74 hs_w76 (by decide))), (xv_a hg30393 (xne hs_w74 hs_w77 (by decide)))])) (show xv g30397 w76 z30325 = z29641 from by rw [(xv_a hg30397 (xne hs_w76 hs_w74 (by decide))), xv_s hg30396 (by omega)]) (fun i9 hi9 h09 => (show xv g30397 w76 i9 = xv g29643 w76 i9 from by rw [(xv_a hg30397 (xne hs_w76 hs_w74 (by decide))), (xv_k (i := i9) hg30396 (by omega) (by omega) (by omega)), (xv_a hg30393 (xne hs_w76 hs_w77 (by decide)))])) (xSmf (j := ((8 * z29641) + z30325)) ((show xv g30397 w77 ((8 * z29641) + z30325) = 0 from by rw [(xv_a hg30397 (xne hs_w77 hs_w74 (by decide))), (xv_a hg30396 (xne hs_w77 hs_w76 (by decide))), xv_s hg30393 (by omega)]).trans (v30381 (by omega)).2.symm) (fun i9 hi9 h09 => (show xv g30397 w77 i9 = xv g29643 w77 i9 from by rw [(xv_a hg30397 (xne hs_w77 hs_w74 (by decide))), (xv_a hg30396 (xne hs_w77 hs_w76 (by decide))), (xv_k (i := i9) hg30393 (by omega) (by omega) (by omega))])))).1 (by have h9 := (xOf_1 (b := z29641) (c := z30325) v30039 (by omega) (by omega) (by omega) (by omega) (show xv g30397 w74 z29641 = z30325 from by rw [xv_s hg30397 (by omega)]) (fun i9 hi9 h09 => (show xv g30397 w74 i9 = xv g29643 w74 i9 from by rw [(xv_k (i := i9) hg30397 (by omega) (by omega) (by omega)), (xv_a hg30396 (xne hs_w74 hs_w76 (by decide))), (xv_a hg30393 (xne hs_w74 hs_w77 (by decide)))])) (show xv g30397 w76 z30325 = z29641 from by rw [(xv_a hg30397 (xne hs_w76 hs_w74 (by decide))), xv_s hg30396 (by omega)]) (fun i9 hi9 h09 => (show xv g30397 w76 i9 = xv g29643 w76 i9 from by rw [(xv_a hg30397 (xne hs_w76 hs_w74 (by decide))), (xv_k (i := i9) hg30396 (by omega) (by omega) (by omega)), (xv_a hg30393 (xne hs_w76 hs_w77 (by decide)))])) (xSmf (j := ((8 * z29641) + z30325)) ((show xv g30397 w77 ((8 * z29641) + z30325) = 0 from by rw [(xv_a hg30397 (xne hs_w77 hs_w74 (by decide))), (xv_a hg30396 (xne hs_w77 hs_w76 (by decide))), xv_s hg30393 (by omega)]).trans (v30381 (by omega)).2.symm) (fun i9 hi9 h09 => (show xv g30397 w77 i9 = xv g29643 w77 i9 from by rw [(xv_a hg30397 (xne hs_w77 hs_w74 (by decide))), (xv_a hg30396 (xne hs_w77 hs_w76 (by decide))), (xv_k (i := i9) hg30393 (by omega) (by omega) (by omega))])))).2; omega) (fun h9 => by omega) (by rw [(Eq.trans (Eq.trans (xv_a hg30397 (xne hs_wg1 hs_w74 (by decide))) (xv_a hg30396 (xne hs_wg1 hs_w76 (by decide)))) (xv_a hg30393 (xne hs_wg1 hs_w77 (by decide)))), (Eq.trans (Eq.trans (xv_a hg30397 (xne hs_wm1 hs_w74 (by decide))) (xv_a hg30396 (xne hs_wm1 hs_w76 (by decide)))) (xv_a hg30393 (xne hs_wm1 hs_w77 (by decide))))]; exact xDa.s1 (b := z29641) (c := z30325) v30042 (by omega) (by omega) (by omega) (xD3.de v30383 (by omega)) (show xv g30397 w74 z29641 = z30325 from by rw [xv_s hg30397 (by omega)]) (fun i9 hi9 h09 => (show xv g30397 w74 i9 = xv g29643 w74 i9 from by rw [(xv_k (i := i9) hg30397 (by omega) (by omega) (by omega)), (xv_a hg30396 (xne hs_w74 hs_w76 (by decide))), (xv_a hg30393 (xne hs_w74 hs_w77 (by decide)))])) (fun i9 hi9 h09 => (show xv g30397 w76 i9 = xv g29643 w76 i9 from by rw [(xv_a hg30397 (xne hs_w76 hs_w74 (by decide))), (xv_k (i := i9) hg30396 (by omega) (by omega) (by omega)), (xv_a hg30393 (xne hs_w76 hs_w77 (by decide)))])) (xSmf (j := ((8 * z29641) + z30325)) ((show xv g30397 w77 ((8 * z29641) + z30325) = 0 from by rw [(xv_a hg30397 (xne hs_w77 hs_w74 (by decide))), (xv_a hg30396 (xne hs_w77 hs_w76 (by decide))), xv_s hg30393 (by omega)]).trans (v30381 (by omega)).2.symm) (fun i9 hi9 h09 => (show xv g30397 w77 i9 = xv g29643 w77 i9 from by rw [(xv_a hg30397 (xne hs_w77 hs_w74 (by decide))), (xv_a hg30396 (xne hs_w77 hs_w76 (by decide))), (xv_k (i := i9) hg30393 (by omega) (by omega) (by omega))])))) (by omega)
                                  · refine X_aloadn hK (i := 0) 4 kd45_19.2.2.2.2.2.2.2.2.2.2.2 rfl rfl ?_
                                    refine X_getK hK fl_X12_156_13 hs_a0 ((hg29643 a0 13 0 73 hs_a0 (by decide)).trans ((hg27159 a0 13 0 73 hs_a0 (by decide)).trans ((hg23501 a0 13 0 73 hs_a0 (by decide)).trans ((hg17189 a0 13 0 73 hs_a0 (by decide)).trans ewm1)))) kd45_20.1 ?_
                                    refine X_bipush hK kd45_20.2.1 (by decide) ?_
                                    refine X_iload hK (i := 5) 0 kd45_20.2.2.1 rfl ?_
                                    refine X_imul hK kd45_20.2.2.2.1 ?_
                                    refine X_iload hK (i := 4) 1 kd45_20.2.2.2.2.1 rfl ?_
                                    refine X_iadd hK kd45_20.2.2.2.2.2.1 ?_
                                    refine X_iald hK hs_wm1 (by decide) sl_18200 (by omega) (by omega) kd45_20.2.2.2.2.2.2.1 (fun z30398 ez30398 lz30398 uz30398 => ?_)
                                    have hvz30398 := xv_e (j := ((8 * z30387) + z30325)) ez30398 (by omega)
                                    refine X_aloadn hK (i := 0) 4 kd45_20.2.2.2.2.2.2.2.1 rfl rfl ?_
                                    refine X_getK hK fl_X12_156_13 hs_a0 ((hg29643 a0 13 0 73 hs_a0 (by decide)).trans ((hg27159 a0 13 0 73 hs_a0 (by decide)).trans ((hg23501 a0 13 0 73 hs_a0 (by decide)).trans ((hg17189 a0 13 0 73 hs_a0 (by decide)).trans ewm1)))) kd45_20.2.2.2.2.2.2.2.2.1 ?_
                                    refine X_bipush hK kd45_20.2.2.2.2.2.2.2.2.2.1 (by decide) ?_
                                    refine X_iloadn hK (i := 3) 3 kd45_20.2.2.2.2.2.2.2.2.2.2.1 rfl rfl ?_
                                    refine X_imul hK kd45_20.2.2.2.2.2.2.2.2.2.2.2 ?_
                                    refine X_iload hK (i := 4) 1 kd45_21.1 rfl ?_
                                    refine X_iadd hK kd45_21.2.1 ?_
                                    refine X_iald hK hs_wm1 (by decide) sl_18200 (by omega) (by omega) kd45_21.2.2.1 (fun z30399 ez30399 lz30399 uz30399 => ?_)
                                    have hvz30399 := xv_e (j := ((8 * z29641) + z30325)) ez30399 (by omega)
                                    refine X_icmp_gt hK 226 (by omega) (by omega) kd45_21.2.2.2.1 (by decide) (fun c30400 => ?_) (fun c30400 => ?_)
                                    · refine X_iconst hK kd45_23.1 ?_
                                      refine X_goto hK 231 kd45_23.2.1 (by decide) ?_
                                      refine X_istore hK (i := 6) [(6, .int (iI 1)), (5, .int (iI z30387)), (4, .int (iI z30325)), (2, .int (iI 1)), (3, .int (iI z29641)), (0, .ref a0), (1, .int (iI x1))] kd45_23.2.2.2.1 (by decide) rfl ?_
                                      refine X_aloadn hK (i := 0) 5 kd45_23.2.2.2.2.1 rfl rfl ?_
                                      refine X_getK hK fl_X12_168_13 hs_a0 ((hg29643 a0 13 0 77 hs_a0 (by decide)).trans ((hg27159 a0 13 0 77 hs_a0 (by decide)).trans ((hg23501 a0 13 0 77 hs_a0 (by decide)).trans ((hg17189 a0 13 0 77 hs_a0 (by decide)).trans ew77)))) kd45_23.2.2.2.2.2.1 ?_
                                      refine X_bipush hK kd45_23.2.2.2.2.2.2.1 (by decide) ?_
                                      refine X_iload hK (i := 6) 0 kd45_23.2.2.2.2.2.2.2.1 rfl ?_
                                      refine X_if_eq hK 248 (by omega) kd45_23.2.2.2.2.2.2.2.2.1 (by decide) (fun c30401 => False.elim (by omega)) (fun c30401 => ?_)
                                      refine X_iloadn hK (i := 3) 4 kd45_23.2.2.2.2.2.2.2.2.2.1 rfl rfl ?_
                                      refine X_goto hK 260 kd45_23.2.2.2.2.2.2.2.2.2.2.1 (by decide) ?_
                                      refine X_imul hK kd45_24.2.2.2.2.2.1 ?_
                                      refine X_iload hK (i := 4) 2 kd45_24.2.2.2.2.2.2.1 rfl ?_
                                      refine X_iadd hK kd45_24.2.2.2.2.2.2.2.1 ?_
                                      refine X_iload hK (i := 6) 0 kd45_24.2.2.2.2.2.2.2.2.1 rfl ?_
                                      refine X_if_ne hK 275 (by omega) kd45_24.2.2.2.2.2.2.2.2.2.1 (by decide) (fun c30402 => ?_) (fun c30402 => False.elim (by omega))
                                      refine X_iconst hK kd45_25.2.1 ?_
                                      refine X_goto hK 280 kd45_25.2.2.1 (by decide) ?_
                                      refine X_zast hK hs_w77 (by decide) (by decide) sl_19701 (by omega) (by omega) (by omega) (by omega) kd45_25.2.2.2.2.1 (fun g30403 hg30403 => ?_)
                                      refine X_iload hK (i := 6) 0 kd45_25.2.2.2.2.2.1 rfl ?_
                                      refine X_if_eq hK 289 (by omega) kd45_25.2.2.2.2.2.2.1 (by decide) (fun c30404 => False.elim (by omega)) (fun c30404 => ?_)
                                      refine X_goto hK 319 kd45_25.2.2.2.2.2.2.2.1 (by decide) ?_
                                      refine X_iinc hK (i := 3) (z := z29641) (n := 1) 4 [(3, .int (iI (z29641 + 1))), (6, .int (iI 1)), (5, .int (iI z30387)), (4, .int (iI z30325)), (2, .int (iI 1)), (0, .ref a0), (1, .int (iI x1))] kd45_27.2.2.1 rfl (by decide) rfl ?_
                                      refine X_goto hK 59 kd45_27.2.2.2.1 (by decide) ?_
                                      refine X_lv [(3, .int (iI (z29641 + 1))), (2, .int (iI 1)), (0, .ref a0), (1, .int (iI x1))] [0, 4, 5, 6] rfl ?_
                                      exact ihP30038  g30403 (xM_ua (xM.tr xM.rf xLe.rf hg29643 (by decide)) hg30403 hs_w77 (by decide) (by decide)) (z29641 + 1) (by omega) (by omega) 1 (by omega) (by omega) (xOf_2 (b := z29641) (c := z30325) (j := ((8 * z29641) + z30325)) v30039 (by omega) (by omega) (by omega) (by omega) (by omega) (by omega) (v30381 (by omega)).2 (show xv g30403 w77 ((8 * z29641) + z30325) = 1 from by rw [xv_s hg30403 (by omega)]) (fun i9 hi9 h09 => (show xv g30403 w77 i9 = xv g29643 w77 i9 from by rw [(xv_k (i := i9) hg30403 (by omega) (by omega) (by omega))])) (fun i9 hi9 => (show xv g30403 w74 i9 = xv g29643 w74 i9 from by rw [(xv_a hg30403 (xne hs_w74 hs_w77 (by decide)))])) (fun i9 hi9 => (show xv g30403 w76 i9 = xv g29643 w76 i9 from by rw [(xv_a hg30403 (xne hs_w76 hs_w77 (by decide)))]))).1 (by have h9 := (xOf_2 (b := z29641) (c := z30325) (j := ((8 * z29641) + z30325)) v30039 (by omega) (by omega) (by omega) (by omega) (by omega) (by omega) (v30381 (by omega)).2 (show xv g30403 w77 ((8 * z29641) + z30325) = 1 from by rw [xv_s hg30403 (by omega)]) (fun i9 hi9 h09 => (show xv g30403 w77 i9 = xv g29643 w77 i9 from by rw [(xv_k (i := i9) hg30403 (by omega) (by omega) (by omega))])) (fun i9 hi9 => (show xv g30403 w74 i9 = xv g29643 w74 i9 from by rw [(xv_a hg30403 (xne hs_w74 hs_w77 (by decide)))])) (fun i9 hi9 => (show xv g30403 w76 i9 = xv g29643 w76 i9 from by rw [(xv_a hg30403 (xne hs_w76 hs_w77 (by decide)))]))).2; omega) (fun h9 => by omega) (by rw [(xv_a hg30403 (xne hs_wg1 hs_w77 (by decide))), (xv_a hg30403 (xne hs_wm1 hs_w77 (by decide)))]; exact xDa_2 (b := z29641) (c := z30325) (d := z30387) (j := ((8 * z29641) + z30325)) v30042 v30039 (by omega) (by omega) (by omega) (by omega) (by omega) hvz30387 (by omega) (fun q9 => by unfold xcp at q9; omega) (show xv g30403 w77 ((8 * z29641) + z30325) = 1 from by rw [xv_s hg30403 (by omega)]) (fun i9 hi9 h09 => (show xv g30403 w77 i9 = xv g29643 w77 i9 from by rw [(xv_k (i := i9) hg30403 (by omega) (by omega) (by omega))])) (fun i9 hi9 => (show xv g30403 w74 i9 = xv g29643 w74 i9 from by rw [(xv_a hg30403 (xne hs_w74 hs_w77 (by decide)))])) (fun i9 hi9 => (show xv g30403 w76 i9 = xv g29643 w76 i9 from by rw [(xv_a hg30403 (xne hs_w76 hs_w77 (by decide)))]))) (by omega)
                                    · refine X_aloadn hK (i := 0) 4 kd45_21.2.2.2.2.1 rfl rfl ?_
                                      refine X_getK hK fl_X12_156_13 hs_a0 ((hg29643 a0 13 0 73 hs_a0 (by decide)).trans ((hg27159 a0 13 0 73 hs_a0 (by decide)).trans ((hg23501 a0 13 0 73 hs_a0 (by decide)).trans ((hg17189 a0 13 0 73 hs_a0 (by decide)).trans ewm1)))) kd45_21.2.2.2.2.2.1 ?_
                                      refine X_bipush hK kd45_21.2.2.2.2.2.2.1 (by decide) ?_
                                      refine X_iload hK (i := 5) 0 kd45_21.2.2.2.2.2.2.2.1 rfl ?_
                                      refine X_imul hK kd45_21.2.2.2.2.2.2.2.2.1 ?_
                                      refine X_iload hK (i := 4) 1 kd45_21.2.2.2.2.2.2.2.2.2.1 rfl ?_
                                      refine X_iadd hK kd45_21.2.2.2.2.2.2.2.2.2.2.1 ?_
                                      refine X_ialdK hK hs_wm1 (by decide) (by omega) (by omega) ez30398 kd45_21.2.2.2.2.2.2.2.2.2.2.2 ?_
                                      have hvx30405 := xv_e (j := ((8 * z30387) + z30325)) ez30398 (by omega)
                                      refine X_aloadn hK (i := 0) 4 kd45_22.1 rfl rfl ?_
                                      refine X_getK hK fl_X12_156_13 hs_a0 ((hg29643 a0 13 0 73 hs_a0 (by decide)).trans ((hg27159 a0 13 0 73 hs_a0 (by decide)).trans ((hg23501 a0 13 0 73 hs_a0 (by decide)).trans ((hg17189 a0 13 0 73 hs_a0 (by decide)).trans ewm1)))) kd45_22.2.1 ?_
                                      refine X_bipush hK kd45_22.2.2.1 (by decide) ?_
                                      refine X_iloadn hK (i := 3) 3 kd45_22.2.2.2.1 rfl rfl ?_
                                      refine X_imul hK kd45_22.2.2.2.2.1 ?_
                                      refine X_iload hK (i := 4) 1 kd45_22.2.2.2.2.2.1 rfl ?_
                                      refine X_iadd hK kd45_22.2.2.2.2.2.2.1 ?_
                                      refine X_ialdK hK hs_wm1 (by decide) (by omega) (by omega) ez30399 kd45_22.2.2.2.2.2.2.2.1 ?_
                                      have hvx30406 := xv_e (j := ((8 * z29641) + z30325)) ez30399 (by omega)
                                      refine X_icmp_ne hK 230 (by omega) (by omega) kd45_22.2.2.2.2.2.2.2.2.1 (by decide) (fun c30407 => ?_) (fun c30407 => ?_)
                                      · refine X_iconst hK kd45_23.2.2.1 ?_
                                        refine X_istore hK (i := 6) [(6, .int (iI 0)), (5, .int (iI z30387)), (4, .int (iI z30325)), (2, .int (iI 1)), (3, .int (iI z29641)), (0, .ref a0), (1, .int (iI x1))] kd45_23.2.2.2.1 (by decide) rfl ?_
                                        refine X_aloadn hK (i := 0) 5 kd45_23.2.2.2.2.1 rfl rfl ?_
                                        refine X_getK hK fl_X12_168_13 hs_a0 ((hg29643 a0 13 0 77 hs_a0 (by decide)).trans ((hg27159 a0 13 0 77 hs_a0 (by decide)).trans ((hg23501 a0 13 0 77 hs_a0 (by decide)).trans ((hg17189 a0 13 0 77 hs_a0 (by decide)).trans ew77)))) kd45_23.2.2.2.2.2.1 ?_
                                        refine X_bipush hK kd45_23.2.2.2.2.2.2.1 (by decide) ?_
                                        refine X_iload hK (i := 6) 0 kd45_23.2.2.2.2.2.2.2.1 rfl ?_
                                        refine X_if_eq hK 248 (by omega) kd45_23.2.2.2.2.2.2.2.2.1 (by decide) (fun c30408 => ?_) (fun c30408 => False.elim (by omega))
                                        refine X_iload hK (i := 5) 1 kd45_23.2.2.2.2.2.2.2.2.2.2.2 rfl ?_
                                        refine X_iconst hK kd45_24.1 ?_
                                        refine X_icmp_ne hK 258 (by omega) (by omega) kd45_24.2.1 (by decide) (fun c30409 => ?_) (fun c30409 => False.elim (by omega))
                                        refine X_iload hK (i := 5) 1 kd45_24.2.2.2.2.1 rfl ?_
                                        refine X_imul hK kd45_24.2.2.2.2.2.1 ?_
                                        refine X_iload hK (i := 4) 2 kd45_24.2.2.2.2.2.2.1 rfl ?_
                                        refine X_iadd hK kd45_24.2.2.2.2.2.2.2.1 ?_
                                        refine X_iload hK (i := 6) 0 kd45_24.2.2.2.2.2.2.2.2.1 rfl ?_
                                        refine X_if_ne hK 275 (by omega) kd45_24.2.2.2.2.2.2.2.2.2.1 (by decide) (fun c30410 => False.elim (by omega)) (fun c30410 => ?_)
                                        refine X_iload hK (i := 5) 1 kd45_24.2.2.2.2.2.2.2.2.2.2.1 rfl ?_
                                        refine X_iconst hK kd45_24.2.2.2.2.2.2.2.2.2.2.2 ?_
                                        refine X_icmp_eq hK 279 (by omega) (by omega) kd45_25.1 (by decide) (fun c30411 => False.elim (by omega)) (fun c30411 => ?_)
                                        refine X_iconst hK kd45_25.2.1 ?_
                                        refine X_goto hK 280 kd45_25.2.2.1 (by decide) ?_
                                        refine X_zast hK hs_w77 (by decide) (by decide) sl_19701 (by omega) (by omega) (by omega) (by omega) kd45_25.2.2.2.2.1 (fun g30412 hg30412 => ?_)
                                        refine X_iload hK (i := 6) 0 kd45_25.2.2.2.2.2.1 rfl ?_
                                        refine X_if_eq hK 289 (by omega) kd45_25.2.2.2.2.2.2.1 (by decide) (fun c30413 => ?_) (fun c30413 => False.elim (by omega))
                                        refine X_iload hK (i := 5) 1 kd45_25.2.2.2.2.2.2.2.2.1 rfl ?_
                                        refine X_iconst hK kd45_25.2.2.2.2.2.2.2.2.2.1 ?_
                                        refine X_icmp_eq hK 303 (by omega) (by omega) kd45_25.2.2.2.2.2.2.2.2.2.2.1 (by decide) (fun c30414 => False.elim (by omega)) (fun c30414 => ?_)
                                        refine X_aloadn hK (i := 0) 5 kd45_25.2.2.2.2.2.2.2.2.2.2.2 rfl rfl ?_
                                        refine X_getK hK fl_X12_159_13 hs_a0 ((xs_a hg30412 (xne hs_a0 hs_w77 (by decide))).trans ((hg29643 a0 13 0 74 hs_a0 (by decide)).trans ((hg27159 a0 13 0 74 hs_a0 (by decide)).trans ((hg23501 a0 13 0 74 hs_a0 (by decide)).trans ((hg17189 a0 13 0 74 hs_a0 (by decide)).trans ew74))))) kd45_26.1 ?_
                                        refine X_iload hK (i := 5) 1 kd45_26.2.1 rfl ?_
                                        refine X_iconst hK kd45_26.2.2.1 ?_
                                        refine X_iast hK hs_w74 (by decide) (by decide) sl_18300 (by omega) (by omega) (by omega) (by omega) kd45_26.2.2.2.1 (fun g30415 hg30415 => ?_)
                                        refine X_aloadn hK (i := 0) 5 kd45_26.2.2.2.2.1 rfl rfl ?_
                                        refine X_getK hK fl_X12_165_13 hs_a0 ((xs_a hg30415 (xne hs_a0 hs_w74 (by decide))).trans ((xs_a hg30412 (xne hs_a0 hs_w77 (by decide))).trans ((hg29643 a0 13 0 76 hs_a0 (by decide)).trans ((hg27159 a0 13 0 76 hs_a0 (by decide)).trans ((hg23501 a0 13 0 76 hs_a0 (by decide)).trans ((hg17189 a0 13 0 76 hs_a0 (by decide)).trans ew76)))))) kd45_26.2.2.2.2.2.1 ?_
                                        refine X_iload hK (i := 4) 2 kd45_26.2.2.2.2.2.2.1 rfl ?_
                                        refine X_iloadn hK (i := 3) 4 kd45_26.2.2.2.2.2.2.2.1 rfl rfl ?_
                                        refine X_iast hK hs_w76 (by decide) (by decide) sl_18500 (by omega) (by omega) (by omega) (by omega) kd45_26.2.2.2.2.2.2.2.2.1 (fun g30416 hg30416 => ?_)
                                        refine X_aloadn hK (i := 0) 5 kd45_26.2.2.2.2.2.2.2.2.2.1 rfl rfl ?_
                                        refine X_getK hK fl_X12_159_13 hs_a0 ((xs_a hg30416 (xne hs_a0 hs_w76 (by decide))).trans ((xs_a hg30415 (xne hs_a0 hs_w74 (by decide))).trans ((xs_a hg30412 (xne hs_a0 hs_w77 (by decide))).trans ((hg29643 a0 13 0 74 hs_a0 (by decide)).trans ((hg27159 a0 13 0 74 hs_a0 (by decide)).trans ((hg23501 a0 13 0 74 hs_a0 (by decide)).trans ((hg17189 a0 13 0 74 hs_a0 (by decide)).trans ew74))))))) kd45_26.2.2.2.2.2.2.2.2.2.2.1 ?_
                                        refine X_iloadn hK (i := 3) 4 kd45_26.2.2.2.2.2.2.2.2.2.2.2 rfl rfl ?_
                                        refine X_iload hK (i := 4) 2 kd45_27.1 rfl ?_
                                        refine X_iast hK hs_w74 (by decide) (by decide) sl_18300 (by omega) (by omega) (by omega) (by omega) kd45_27.2.1 (fun g30417 hg30417 => ?_)
                                        refine X_iinc hK (i := 3) (z := z29641) (n := 1) 4 [(3, .int (iI (z29641 + 1))), (6, .int (iI 0)), (5, .int (iI z30387)), (4, .int (iI z30325)), (2, .int (iI 1)), (0, .ref a0), (1, .int (iI x1))] kd45_27.2.2.1 rfl (by decide) rfl ?_
                                        refine X_goto hK 59 kd45_27.2.2.2.1 (by decide) ?_
                                        refine X_lv [(3, .int (iI (z29641 + 1))), (2, .int (iI 1)), (0, .ref a0), (1, .int (iI x1))] [0, 4, 5, 6] rfl ?_
                                        exact ihP30038  g30417 (xM_ua (xM_ua (xM_ua (xM_ua (xM.tr xM.rf xLe.rf hg29643 (by decide)) hg30412 hs_w77 (by decide) (by decide)) hg30415 hs_w74 (by decide) (by decide)) hg30416 hs_w76 (by decide) (by decide)) hg30417 hs_w74 (by decide) (by decide)) (z29641 + 1) (by omega) (by omega) 1 (by omega) (by omega) (xOf_3 (b := z29641) (c := z30325) (d := z30387) (j := ((8 * z30387) + z30325)) v30039 (by omega) (by omega) (by omega) (by omega) (by omega) (by omega) (by omega) (v30381 (by omega)).2 (show xv g30417 w74 z29641 = z30325 from by rw [xv_s hg30417 (by omega)]) (show xv g30417 w74 z30387 = (-1) from by rw [(xv_k (i := z30387) hg30417 (by omega) (by omega) (by omega)), (xv_a hg30416 (xne hs_w74 hs_w76 (by decide))), xv_s hg30415 (by omega)]) (fun i9 hi9 h09 h19 => (show xv g30417 w74 i9 = xv g29643 w74 i9 from by rw [(xv_k (i := i9) hg30417 (by omega) (by omega) (by omega)), (xv_a hg30416 (xne hs_w74 hs_w76 (by decide))), (xv_k (i := i9) hg30415 (by omega) (by omega) (by omega)), (xv_a hg30412 (xne hs_w74 hs_w77 (by decide)))])) (show xv g30417 w76 z30325 = z29641 from by rw [(xv_a hg30417 (xne hs_w76 hs_w74 (by decide))), xv_s hg30416 (by omega)]) (fun i9 hi9 h09 => (show xv g30417 w76 i9 = xv g29643 w76 i9 from by rw [(xv_a hg30417 (xne hs_w76 hs_w74 (by decide))), (xv_k (i := i9) hg30416 (by omega) (by omega) (by omega)), (xv_a hg30415 (xne hs_w76 hs_w74 (by decide))), (xv_a hg30412 (xne hs_w76 hs_w77 (by decide)))])) (show xv g30417 w77 ((8 * z30387) + z30325) = 1 from by rw [(xv_a hg30417 (xne hs_w77 hs_w74 (by decide))), (xv_a hg30416 (xne hs_w77 hs_w76 (by decide))), (xv_a hg30415 (xne hs_w77 hs_w74 (by decide))), xv_s hg30412 (by omega)]) (fun i9 hi9 h09 => (show xv g30417 w77 i9 = xv g29643 w77 i9 from by rw [(xv_a hg30417 (xne hs_w77 hs_w74 (by decide))), (xv_a hg30416 (xne hs_w77 hs_w76 (by decide))), (xv_a hg30415 (xne hs_w77 hs_w74 (by decide))), (xv_k (i := i9) hg30412 (by omega) (by omega) (by omega))]))).1 (by have h9 := (xOf_3 (b := z29641) (c := z30325) (d := z30387) (j := ((8 * z30387) + z30325)) v30039 (by omega) (by omega) (by omega) (by omega) (by omega) (by omega) (by omega) (v30381 (by omega)).2 (show xv g30417 w74 z29641 = z30325 from by rw [xv_s hg30417 (by omega)]) (show xv g30417 w74 z30387 = (-1) from by rw [(xv_k (i := z30387) hg30417 (by omega) (by omega) (by omega)), (xv_a hg30416 (xne hs_w74 hs_w76 (by decide))), xv_s hg30415 (by omega)]) (fun i9 hi9 h09 h19 => (show xv g30417 w74 i9 = xv g29643 w74 i9 from by rw [(xv_k (i := i9) hg30417 (by omega) (by omega) (by omega)), (xv_a hg30416 (xne hs_w74 hs_w76 (by decide))), (xv_k (i := i9) hg30415 (by omega) (by omega) (by omega)), (xv_a hg30412 (xne hs_w74 hs_w77 (by decide)))])) (show xv g30417 w76 z30325 = z29641 from by rw [(xv_a hg30417 (xne hs_w76 hs_w74 (by decide))), xv_s hg30416 (by omega)]) (fun i9 hi9 h09 => (show xv g30417 w76 i9 = xv g29643 w76 i9 from by rw [(xv_a hg30417 (xne hs_w76 hs_w74 (by decide))), (xv_k (i := i9) hg30416 (by omega) (by omega) (by omega)), (xv_a hg30415 (xne hs_w76 hs_w74 (by decide))), (xv_a hg30412 (xne hs_w76 hs_w77 (by decide)))])) (show xv g30417 w77 ((8 * z30387) + z30325) = 1 from by rw [(xv_a hg30417 (xne hs_w77 hs_w74 (by decide))), (xv_a hg30416 (xne hs_w77 hs_w76 (by decide))), (xv_a hg30415 (xne hs_w77 hs_w74 (by decide))), xv_s hg30412 (by omega)]) (fun i9 hi9 h09 => (show xv g30417 w77 i9 = xv g29643 w77 i9 from by rw [(xv_a hg30417 (xne hs_w77 hs_w74 (by decide))), (xv_a hg30416 (xne hs_w77 hs_w76 (by decide))), (xv_a hg30415 (xne hs_w77 hs_w74 (by decide))), (xv_k (i := i9) hg30412 (by omega) (by omega) (by omega))]))).2; omega) (fun h9 => by omega) (by rw [(Eq.trans (Eq.trans (Eq.trans (xv_a hg30417 (xne hs_wg1 hs_w74 (by decide))) (xv_a hg30416 (xne hs_wg1 hs_w76 (by decide)))) (xv_a hg30415 (xne hs_wg1 hs_w74 (by decide)))) (xv_a hg30412 (xne hs_wg1 hs_w77 (by decide)))), (Eq.trans (Eq.trans (Eq.trans (xv_a hg30417 (xne hs_wm1 hs_w74 (by decide))) (xv_a hg30416 (xne hs_wm1 hs_w76 (by decide)))) (xv_a hg30415 (xne hs_wm1 hs_w74 (by decide)))) (xv_a hg30412 (xne hs_wm1 hs_w77 (by decide))))]; exact xDa_3 (b := z29641) (c := z30325) (d := z30387) (j := ((8 * z30387) + z30325)) v30042 v30039 (by omega) (by omega) (by omega) (by omega) (by omega) hvz30387 (by omega) (v30381 (by omega)).2 (by unfold xcp; omega) (xD3.de v30383 (by omega)) (show xv g30417 w74 z29641 = z30325 from by rw [xv_s hg30417 (by omega)]) (show xv g30417 w74 z30387 = (-1) from by rw [(xv_k (i := z30387) hg30417 (by omega) (by omega) (by omega)), (xv_a hg30416 (xne hs_w74 hs_w76 (by decide))), xv_s hg30415 (by omega)]) (fun i9 hi9 h09 h19 => (show xv g30417 w74 i9 = xv g29643 w74 i9 from by rw [(xv_k (i := i9) hg30417 (by omega) (by omega) (by omega)), (xv_a hg30416 (xne hs_w74 hs_w76 (by decide))), (xv_k (i := i9) hg30415 (by omega) (by omega) (by omega)), (xv_a hg30412 (xne hs_w74 hs_w77 (by decide)))])) (show xv g30417 w76 z30325 = z29641 from by rw [(xv_a hg30417 (xne hs_w76 hs_w74 (by decide))), xv_s hg30416 (by omega)]) (fun i9 hi9 h09 => (show xv g30417 w76 i9 = xv g29643 w76 i9 from by rw [(xv_a hg30417 (xne hs_w76 hs_w74 (by decide))), (xv_k (i := i9) hg30416 (by omega) (by omega) (by omega)), (xv_a hg30415 (xne hs_w76 hs_w74 (by decide))), (xv_a hg30412 (xne hs_w76 hs_w77 (by decide)))])) (show xv g30417 w77 ((8 * z30387) + z30325) = 1 from by rw [(xv_a hg30417 (xne hs_w77 hs_w74 (by decide))), (xv_a hg30416 (xne hs_w77 hs_w76 (by decide))), (xv_a hg30415 (xne hs_w77 hs_w74 (by decide))), xv_s hg30412 (by omega)]) (fun i9 hi9 h09 => (show xv g30417 w77 i9 = xv g29643 w77 i9 from by rw [(xv_a hg30417 (xne hs_w77 hs_w74 (by decide))), (xv_a hg30416 (xne hs_w77 hs_w76 (by decide))), (xv_a hg30415 (xne hs_w77 hs_w74 (by decide))), (xv_k (i := i9) hg30412 (by omega) (by omega) (by omega))]))) (by omega)
                                      · refine X_iload hK (i := 5) 0 kd45_22.2.2.2.2.2.2.2.2.2.1 rfl ?_
                                        refine X_iloadn hK (i := 3) 3 kd45_22.2.2.2.2.2.2.2.2.2.2.1 rfl rfl ?_
                                        refine X_icmp_ge hK 230 (by omega) (by omega) kd45_22.2.2.2.2.2.2.2.2.2.2.2 (by decide) (fun c30418 => ?_) (fun c30418 => ?_)
                                        · refine X_iconst hK kd45_23.2.2.1 ?_
                                          refine X_istore hK (i := 6) [(6, .int (iI 0)), (5, .int (iI z30387)), (4, .int (iI z30325)), (2, .int (iI 1)), (3, .int (iI z29641)), (0, .ref a0), (1, .int (iI x1))] kd45_23.2.2.2.1 (by decide) rfl ?_
                                          refine X_aloadn hK (i := 0) 5 kd45_23.2.2.2.2.1 rfl rfl ?_
                                          refine X_getK hK fl_X12_168_13 hs_a0 ((hg29643 a0 13 0 77 hs_a0 (by decide)).trans ((hg27159 a0 13 0 77 hs_a0 (by decide)).trans ((hg23501 a0 13 0 77 hs_a0 (by decide)).trans ((hg17189 a0 13 0 77 hs_a0 (by decide)).trans ew77)))) kd45_23.2.2.2.2.2.1 ?_
                                          refine X_bipush hK kd45_23.2.2.2.2.2.2.1 (by decide) ?_
                                          refine X_iload hK (i := 6) 0 kd45_23.2.2.2.2.2.2.2.1 rfl ?_
                                          refine X_if_eq hK 248 (by omega) kd45_23.2.2.2.2.2.2.2.2.1 (by decide) (fun c30419 => ?_) (fun c30419 => False.elim (by omega))
                                          refine X_iload hK (i := 5) 1 kd45_23.2.2.2.2.2.2.2.2.2.2.2 rfl ?_
                                          refine X_iconst hK kd45_24.1 ?_
                                          refine X_icmp_ne hK 258 (by omega) (by omega) kd45_24.2.1 (by decide) (fun c30420 => ?_) (fun c30420 => False.elim (by omega))
                                          refine X_iload hK (i := 5) 1 kd45_24.2.2.2.2.1 rfl ?_
                                          refine X_imul hK kd45_24.2.2.2.2.2.1 ?_
                                          refine X_iload hK (i := 4) 2 kd45_24.2.2.2.2.2.2.1 rfl ?_
                                          refine X_iadd hK kd45_24.2.2.2.2.2.2.2.1 ?_
                                          refine X_iload hK (i := 6) 0 kd45_24.2.2.2.2.2.2.2.2.1 rfl ?_
                                          refine X_if_ne hK 275 (by omega) kd45_24.2.2.2.2.2.2.2.2.2.1 (by decide) (fun c30421 => False.elim (by omega)) (fun c30421 => ?_)
                                          refine X_iload hK (i := 5) 1 kd45_24.2.2.2.2.2.2.2.2.2.2.1 rfl ?_
                                          refine X_iconst hK kd45_24.2.2.2.2.2.2.2.2.2.2.2 ?_
                                          refine X_icmp_eq hK 279 (by omega) (by omega) kd45_25.1 (by decide) (fun c30422 => False.elim (by omega)) (fun c30422 => ?_)
                                          refine X_iconst hK kd45_25.2.1 ?_
                                          refine X_goto hK 280 kd45_25.2.2.1 (by decide) ?_
                                          refine X_zast hK hs_w77 (by decide) (by decide) sl_19701 (by omega) (by omega) (by omega) (by omega) kd45_25.2.2.2.2.1 (fun g30423 hg30423 => ?_)
                                          refine X_iload hK (i := 6) 0 kd45_25.2.2.2.2.2.1 rfl ?_
                                          refine X_if_eq hK 289 (by omega) kd45_25.2.2.2.2.2.2.1 (by decide) (fun c30424 => ?_) (fun c30424 => False.elim (by omega))
                                          refine X_iload hK (i := 5) 1 kd45_25.2.2.2.2.2.2.2.2.1 rfl ?_
                                          refine X_iconst hK kd45_25.2.2.2.2.2.2.2.2.2.1 ?_
                                          refine X_icmp_eq hK 303 (by omega) (by omega) kd45_25.2.2.2.2.2.2.2.2.2.2.1 (by decide) (fun c30425 => False.elim (by omega)) (fun c30425 => ?_)
                                          refine X_aloadn hK (i := 0) 5 kd45_25.2.2.2.2.2.2.2.2.2.2.2 rfl rfl ?_
                                          refine X_getK hK fl_X12_159_13 hs_a0 ((xs_a hg30423 (xne hs_a0 hs_w77 (by decide))).trans ((hg29643 a0 13 0 74 hs_a0 (by decide)).trans ((hg27159 a0 13 0 74 hs_a0 (by decide)).trans ((hg23501 a0 13 0 74 hs_a0 (by decide)).trans ((hg17189 a0 13 0 74 hs_a0 (by decide)).trans ew74))))) kd45_26.1 ?_
                                          refine X_iload hK (i := 5) 1 kd45_26.2.1 rfl ?_
                                          refine X_iconst hK kd45_26.2.2.1 ?_
                                          refine X_iast hK hs_w74 (by decide) (by decide) sl_18300 (by omega) (by omega) (by omega) (by omega) kd45_26.2.2.2.1 (fun g30426 hg30426 => ?_)
                                          refine X_aloadn hK (i := 0) 5 kd45_26.2.2.2.2.1 rfl rfl ?_
                                          refine X_getK hK fl_X12_165_13 hs_a0 ((xs_a hg30426 (xne hs_a0 hs_w74 (by decide))).trans ((xs_a hg30423 (xne hs_a0 hs_w77 (by decide))).trans ((hg29643 a0 13 0 76 hs_a0 (by decide)).trans ((hg27159 a0 13 0 76 hs_a0 (by decide)).trans ((hg23501 a0 13 0 76 hs_a0 (by decide)).trans ((hg17189 a0 13 0 76 hs_a0 (by decide)).trans ew76)))))) kd45_26.2.2.2.2.2.1 ?_
                                          refine X_iload hK (i := 4) 2 kd45_26.2.2.2.2.2.2.1 rfl ?_
                                          refine X_iloadn hK (i := 3) 4 kd45_26.2.2.2.2.2.2.2.1 rfl rfl ?_
                                          refine X_iast hK hs_w76 (by decide) (by decide) sl_18500 (by omega) (by omega) (by omega) (by omega) kd45_26.2.2.2.2.2.2.2.2.1 (fun g30427 hg30427 => ?_)
                                          refine X_aloadn hK (i := 0) 5 kd45_26.2.2.2.2.2.2.2.2.2.1 rfl rfl ?_
                                          refine X_getK hK fl_X12_159_13 hs_a0 ((xs_a hg30427 (xne hs_a0 hs_w76 (by decide))).trans ((xs_a hg30426 (xne hs_a0 hs_w74 (by decide))).trans ((xs_a hg30423 (xne hs_a0 hs_w77 (by decide))).trans ((hg29643 a0 13 0 74 hs_a0 (by decide)).trans ((hg27159 a0 13 0 74 hs_a0 (by decide)).trans ((hg23501 a0 13 0 74 hs_a0 (by decide)).trans ((hg17189 a0 13 0 74 hs_a0 (by decide)).trans ew74))))))) kd45_26.2.2.2.2.2.2.2.2.2.2.1 ?_
                                          refine X_iloadn hK (i := 3) 4 kd45_26.2.2.2.2.2.2.2.2.2.2.2 rfl rfl ?_
                                          refine X_iload hK (i := 4) 2 kd45_27.1 rfl ?_
                                          refine X_iast hK hs_w74 (by decide) (by decide) sl_18300 (by omega) (by omega) (by omega) (by omega) kd45_27.2.1 (fun g30428 hg30428 => ?_)
                                          refine X_iinc hK (i := 3) (z := z29641) (n := 1) 4 [(3, .int (iI (z29641 + 1))), (6, .int (iI 0)), (5, .int (iI z30387)), (4, .int (iI z30325)), (2, .int (iI 1)), (0, .ref a0), (1, .int (iI x1))] kd45_27.2.2.1 rfl (by decide) rfl ?_
                                          refine X_goto hK 59 kd45_27.2.2.2.1 (by decide) ?_
                                          refine X_lv [(3, .int (iI (z29641 + 1))), (2, .int (iI 1)), (0, .ref a0), (1, .int (iI x1))] [0, 4, 5, 6] rfl ?_
                                          exact ihP30038  g30428 (xM_ua (xM_ua (xM_ua (xM_ua (xM.tr xM.rf xLe.rf hg29643 (by decide)) hg30423 hs_w77 (by decide) (by decide)) hg30426 hs_w74 (by decide) (by decide)) hg30427 hs_w76 (by decide) (by decide)) hg30428 hs_w74 (by decide) (by decide)) (z29641 + 1) (by omega) (by omega) 1 (by omega) (by omega) (xOf_3 (b := z29641) (c := z30325) (d := z30387) (j := ((8 * z30387) + z30325)) v30039 (by omega) (by omega) (by omega) (by omega) (by omega) (by omega) (by omega) (v30381 (by omega)).2 (show xv g30428 w74 z29641 = z30325 from by rw [xv_s hg30428 (by omega)]) (show xv g30428 w74 z30387 = (-1) from by rw [(xv_k (i := z30387) hg30428 (by omega) (by omega) (by omega)), (xv_a hg30427 (xne hs_w74 hs_w76 (by decide))), xv_s hg30426 (by omega)]) (fun i9 hi9 h09 h19 => (show xv g30428 w74 i9 = xv g29643 w74 i9 from by rw [(xv_k (i := i9) hg30428 (by omega) (by omega) (by omega)), (xv_a hg30427 (xne hs_w74 hs_w76 (by decide))), (xv_k (i := i9) hg30426 (by omega) (by omega) (by omega)), (xv_a hg30423 (xne hs_w74 hs_w77 (by decide)))])) (show xv g30428 w76 z30325 = z29641 from by rw [(xv_a hg30428 (xne hs_w76 hs_w74 (by decide))), xv_s hg30427 (by omega)]) (fun i9 hi9 h09 => (show xv g30428 w76 i9 = xv g29643 w76 i9 from by rw [(xv_a hg30428 (xne hs_w76 hs_w74 (by decide))), (xv_k (i := i9) hg30427 (by omega) (by omega) (by omega)), (xv_a hg30426 (xne hs_w76 hs_w74 (by decide))), (xv_a hg30423 (xne hs_w76 hs_w77 (by decide)))])) (show xv g30428 w77 ((8 * z30387) + z30325) = 1 from by rw [(xv_a hg30428 (xne hs_w77 hs_w74 (by decide))), (xv_a hg30427 (xne hs_w77 hs_w76 (by decide))), (xv_a hg30426 (xne hs_w77 hs_w74 (by decide))), xv_s hg30423 (by omega)]) (fun i9 hi9 h09 => (show xv g30428 w77 i9 = xv g29643 w77 i9 from by rw [(xv_a hg30428 (xne hs_w77 hs_w74 (by decide))), (xv_a hg30427 (xne hs_w77 hs_w76 (by decide))), (xv_a hg30426 (xne hs_w77 hs_w74 (by decide))), (xv_k (i := i9) hg30423 (by omega) (by omega) (by omega))]))).1 (by have h9 := (xOf_3 (b := z29641) (c := z30325) (d := z30387) (j := ((8 * z30387) + z30325)) v30039 (by omega) (by omega) (by omega) (by omega) (by omega) (by omega) (by omega) (v30381 (by omega)).2 (show xv g30428 w74 z29641 = z30325 from by rw [xv_s hg30428 (by omega)]) (show xv g30428 w74 z30387 = (-1) from by rw [(xv_k (i := z30387) hg30428 (by omega) (by omega) (by omega)), (xv_a hg30427 (xne hs_w74 hs_w76 (by decide))), xv_s hg30426 (by omega)]) (fun i9 hi9 h09 h19 => (show xv g30428 w74 i9 = xv g29643 w74 i9 from by rw [(xv_k (i := i9) hg30428 (by omega) (by omega) (by omega)), (xv_a hg30427 (xne hs_w74 hs_w76 (by decide))), (xv_k (i := i9) hg30426 (by omega) (by omega) (by omega)), (xv_a hg30423 (xne hs_w74 hs_w77 (by decide)))])) (show xv g30428 w76 z30325 = z29641 from by rw [(xv_a hg30428 (xne hs_w76 hs_w74 (by decide))), xv_s hg30427 (by omega)]) (fun i9 hi9 h09 => (show xv g30428 w76 i9 = xv g29643 w76 i9 from by rw [(xv_a hg30428 (xne hs_w76 hs_w74 (by decide))), (xv_k (i := i9) hg30427 (by omega) (by omega) (by omega)), (xv_a hg30426 (xne hs_w76 hs_w74 (by decide))), (xv_a hg30423 (xne hs_w76 hs_w77 (by decide)))])) (show xv g30428 w77 ((8 * z30387) + z30325) = 1 from by rw [(xv_a hg30428 (xne hs_w77 hs_w74 (by decide))), (xv_a hg30427 (xne hs_w77 hs_w76 (by decide))), (xv_a hg30426 (xne hs_w77 hs_w74 (by decide))), xv_s hg30423 (by omega)]) (fun i9 hi9 h09 => (show xv g30428 w77 i9 = xv g29643 w77 i9 from by rw [(xv_a hg30428 (xne hs_w77 hs_w74 (by decide))), (xv_a hg30427 (xne hs_w77 hs_w76 (by decide))), (xv_a hg30426 (xne hs_w77 hs_w74 (by decide))), (xv_k (i := i9) hg30423 (by omega) (by omega) (by omega))]))).2; omega) (fun h9 => by omega) (by rw [(Eq.trans (Eq.trans (Eq.trans (xv_a hg30428 (xne hs_wg1 hs_w74 (by decide))) (xv_a hg30427 (xne hs_wg1 hs_w76 (by decide)))) (xv_a hg30426 (xne hs_wg1 hs_w74 (by decide)))) (xv_a hg30423 (xne hs_wg1 hs_w77 (by decide)))), (Eq.trans (Eq.trans (Eq.trans (xv_a hg30428 (xne hs_wm1 hs_w74 (by decide))) (xv_a hg30427 (xne hs_wm1 hs_w76 (by decide)))) (xv_a hg30426 (xne hs_wm1 hs_w74 (by decide)))) (xv_a hg30423 (xne hs_wm1 hs_w77 (by decide))))]; exact xDa_3 (b := z29641) (c := z30325) (d := z30387) (j := ((8 * z30387) + z30325)) v30042 v30039 (by omega) (by omega) (by omega) (by omega) (by omega) hvz30387 (by omega) (v30381 (by omega)).2 (by unfold xcp; omega) (xD3.de v30383 (by omega)) (show xv g30428 w74 z29641 = z30325 from by rw [xv_s hg30428 (by omega)]) (show xv g30428 w74 z30387 = (-1) from by rw [(xv_k (i := z30387) hg30428 (by omega) (by omega) (by omega)), (xv_a hg30427 (xne hs_w74 hs_w76 (by decide))), xv_s hg30426 (by omega)]) (fun i9 hi9 h09 h19 => (show xv g30428 w74 i9 = xv g29643 w74 i9 from by rw [(xv_k (i := i9) hg30428 (by omega) (by omega) (by omega)), (xv_a hg30427 (xne hs_w74 hs_w76 (by decide))), (xv_k (i := i9) hg30426 (by omega) (by omega) (by omega)), (xv_a hg30423 (xne hs_w74 hs_w77 (by decide)))])) (show xv g30428 w76 z30325 = z29641 from by rw [(xv_a hg30428 (xne hs_w76 hs_w74 (by decide))), xv_s hg30427 (by omega)]) (fun i9 hi9 h09 => (show xv g30428 w76 i9 = xv g29643 w76 i9 from by rw [(xv_a hg30428 (xne hs_w76 hs_w74 (by decide))), (xv_k (i := i9) hg30427 (by omega) (by omega) (by omega)), (xv_a hg30426 (xne hs_w76 hs_w74 (by decide))), (xv_a hg30423 (xne hs_w76 hs_w77 (by decide)))])) (show xv g30428 w77 ((8 * z30387) + z30325) = 1 from by rw [(xv_a hg30428 (xne hs_w77 hs_w74 (by decide))), (xv_a hg30427 (xne hs_w77 hs_w76 (by decide))), (xv_a hg30426 (xne hs_w77 hs_w74 (by decide))), xv_s hg30423 (by omega)]) (fun i9 hi9 h09 => (show xv g30428 w77 i9 = xv g29643 w77 i9 from by rw [(xv_a hg30428 (xne hs_w77 hs_w74 (by decide))), (xv_a hg30427 (xne hs_w77 hs_w76 (by decide))), (xv_a hg30426 (xne hs_w77 hs_w74 (by decide))), (xv_k (i := i9) hg30423 (by omega) (by omega) (by omega))]))) (by omega)
                                        · refine X_iconst hK kd45_23.1 ?_
                                          refine X_goto hK 231 kd45_23.2.1 (by decide) ?_
                                          refine X_istore hK (i := 6) [(6, .int (iI 1)), (5, .int (iI z30387)), (4, .int (iI z30325)), (2, .int (iI 1)), (3, .int (iI z29641)), (0, .ref a0), (1, .int (iI x1))] kd45_23.2.2.2.1 (by decide) rfl ?_
                                          refine X_aloadn hK (i := 0) 5 kd45_23.2.2.2.2.1 rfl rfl ?_
                                          refine X_getK hK fl_X12_168_13 hs_a0 ((hg29643 a0 13 0 77 hs_a0 (by decide)).trans ((hg27159 a0 13 0 77 hs_a0 (by decide)).trans ((hg23501 a0 13 0 77 hs_a0 (by decide)).trans ((hg17189 a0 13 0 77 hs_a0 (by decide)).trans ew77)))) kd45_23.2.2.2.2.2.1 ?_
                                          refine X_bipush hK kd45_23.2.2.2.2.2.2.1 (by decide) ?_
                                          refine X_iload hK (i := 6) 0 kd45_23.2.2.2.2.2.2.2.1 rfl ?_
                                          refine X_if_eq hK 248 (by omega) kd45_23.2.2.2.2.2.2.2.2.1 (by decide) (fun c30429 => False.elim (by omega)) (fun c30429 => ?_)
                                          refine X_iloadn hK (i := 3) 4 kd45_23.2.2.2.2.2.2.2.2.2.1 rfl rfl ?_
                                          refine X_goto hK 260 kd45_23.2.2.2.2.2.2.2.2.2.2.1 (by decide) ?_
                                          refine X_imul hK kd45_24.2.2.2.2.2.1 ?_
                                          refine X_iload hK (i := 4) 2 kd45_24.2.2.2.2.2.2.1 rfl ?_
                                          refine X_iadd hK kd45_24.2.2.2.2.2.2.2.1 ?_
                                          refine X_iload hK (i := 6) 0 kd45_24.2.2.2.2.2.2.2.2.1 rfl ?_
                                          refine X_if_ne hK 275 (by omega) kd45_24.2.2.2.2.2.2.2.2.2.1 (by decide) (fun c30430 => ?_) (fun c30430 => False.elim (by omega))
                                          refine X_iconst hK kd45_25.2.1 ?_
                                          refine X_goto hK 280 kd45_25.2.2.1 (by decide) ?_
                                          refine X_zast hK hs_w77 (by decide) (by decide) sl_19701 (by omega) (by omega) (by omega) (by omega) kd45_25.2.2.2.2.1 (fun g30431 hg30431 => ?_)
                                          refine X_iload hK (i := 6) 0 kd45_25.2.2.2.2.2.1 rfl ?_
                                          refine X_if_eq hK 289 (by omega) kd45_25.2.2.2.2.2.2.1 (by decide) (fun c30432 => False.elim (by omega)) (fun c30432 => ?_)
                                          refine X_goto hK 319 kd45_25.2.2.2.2.2.2.2.1 (by decide) ?_
                                          refine X_iinc hK (i := 3) (z := z29641) (n := 1) 4 [(3, .int (iI (z29641 + 1))), (6, .int (iI 1)), (5, .int (iI z30387)), (4, .int (iI z30325)), (2, .int (iI 1)), (0, .ref a0), (1, .int (iI x1))] kd45_27.2.2.1 rfl (by decide) rfl ?_
                                          refine X_goto hK 59 kd45_27.2.2.2.1 (by decide) ?_
                                          refine X_lv [(3, .int (iI (z29641 + 1))), (2, .int (iI 1)), (0, .ref a0), (1, .int (iI x1))] [0, 4, 5, 6] rfl ?_
                                          exact ihP30038  g30431 (xM_ua (xM.tr xM.rf xLe.rf hg29643 (by decide)) hg30431 hs_w77 (by decide) (by decide)) (z29641 + 1) (by omega) (by omega) 1 (by omega) (by omega) (xOf_2 (b := z29641) (c := z30325) (j := ((8 * z29641) + z30325)) v30039 (by omega) (by omega) (by omega) (by omega) (by omega) (by omega) (v30381 (by omega)).2 (show xv g30431 w77 ((8 * z29641) + z30325) = 1 from by rw [xv_s hg30431 (by omega)]) (fun i9 hi9 h09 => (show xv g30431 w77 i9 = xv g29643 w77 i9 from by rw [(xv_k (i := i9) hg30431 (by omega) (by omega) (by omega))])) (fun i9 hi9 => (show xv g30431 w74 i9 = xv g29643 w74 i9 from by rw [(xv_a hg30431 (xne hs_w74 hs_w77 (by decide)))])) (fun i9 hi9 => (show xv g30431 w76 i9 = xv g29643 w76 i9 from by rw [(xv_a hg30431 (xne hs_w76 hs_w77 (by decide)))]))).1 (by have h9 := (xOf_2 (b := z29641) (c := z30325) (j := ((8 * z29641) + z30325)) v30039 (by omega) (by omega) (by omega) (by omega) (by omega) (by omega) (v30381 (by omega)).2 (show xv g30431 w77 ((8 * z29641) + z30325) = 1 from by rw [xv_s hg30431 (by omega)]) (fun i9 hi9 h09 => (show xv g30431 w77 i9 = xv g29643 w77 i9 from by rw [(xv_k (i := i9) hg30431 (by omega) (by omega) (by omega))])) (fun i9 hi9 => (show xv g30431 w74 i9 = xv g29643 w74 i9 from by rw [(xv_a hg30431 (xne hs_w74 hs_w77 (by decide)))])) (fun i9 hi9 => (show xv g30431 w76 i9 = xv g29643 w76 i9 from by rw [(xv_a hg30431 (xne hs_w76 hs_w77 (by decide)))]))).2; omega) (fun h9 => by omega) (by rw [(xv_a hg30431 (xne hs_wg1 hs_w77 (by decide))), (xv_a hg30431 (xne hs_wm1 hs_w77 (by decide)))]; exact xDa_2 (b := z29641) (c := z30325) (d := z30387) (j := ((8 * z29641) + z30325)) v30042 v30039 (by omega) (by omega) (by omega) (by omega) (by omega) hvz30387 (by omega) (fun q9 => by unfold xcp at q9; omega) (show xv g30431 w77 ((8 * z29641) + z30325) = 1 from by rw [xv_s hg30431 (by omega)]) (fun i9 hi9 h09 => (show xv g30431 w77 i9 = xv g29643 w77 i9 from by rw [(xv_k (i := i9) hg30431 (by omega) (by omega) (by omega))])) (fun i9 hi9 => (show xv g30431 w74 i9 = xv g29643 w74 i9 from by rw [(xv_a hg30431 (xne hs_w74 hs_w77 (by decide)))])) (fun i9 hi9 => (show xv g30431 w76 i9 = xv g29643 w76 i9 from by rw [(xv_a hg30431 (xne hs_w76 hs_w77 (by decide)))]))) (by omega)
                                · refine X_aloadn hK (i := 0) 4 kd45_16.2.2.2.2.2.2.1 rfl rfl ?_
                                  refine X_getK hK fl_X12_168_13 hs_a0 ((hg29643 a0 13 0 77 hs_a0 (by decide)).trans ((hg27159 a0 13 0 77 hs_a0 (by decide)).trans ((hg23501 a0 13 0 77 hs_a0 (by decide)).trans ((hg17189 a0 13 0 77 hs_a0 (by decide)).trans ew77)))) kd45_16.2.2.2.2.2.2.2.1 ?_
                                  refine X_bipush hK kd45_16.2.2.2.2.2.2.2.2.1 (by decide) ?_
                                  refine X_iloadn hK (i := 3) 3 kd45_16.2.2.2.2.2.2.2.2.2.1 rfl rfl ?_
                                  refine X_imul hK kd45_16.2.2.2.2.2.2.2.2.2.2.1 ?_
                                  refine X_iload hK (i := 5) 0 kd45_16.2.2.2.2.2.2.2.2.2.2.2 rfl ?_
                                  refine X_iadd hK kd45_17.1 ?_
                                  refine X_zald hK hs_w77 (by decide) sl_19701 (by omega) (by omega) kd45_17.2.1 (fun z30433 ez30433 lz30433 uz30433 => ?_)
                                  have hvz30433 := xv_e (j := ((8 * z29641) + z30324)) ez30433 (by omega)
                                  refine X_if_ne hK 143 (by omega) kd45_17.2.2.1 (by decide) (fun c30434 => ?_) (fun c30434 => ?_)
                                  · refine X_iinc hK (i := 5) (z := z30324) (n := 1) 0 [(5, .int (iI (z30324 + 1))), (4, .int (iI z30325)), (2, .int (iI 1)), (3, .int (iI z29641)), (0, .ref a0), (1, .int (iI x1))] kd45_19.2.1 rfl (by decide) rfl ?_
                                    refine X_goto hK 85 kd45_19.2.2.1 (by decide) ?_
                                    exact ihP30379  (z30324 + 1) (by omega) (by omega) z30325 (by omega) (by omega) (fun hm c q1 q2 => by rcases (show c < z30324 ∨ c = z30324 by omega) with e9 | e9 <;> first | omega | exact v30380 (by omega) c q1 e9 | (rw [e9]; omega)) (fun hm => by first | omega | exact ⟨by omega, by omega⟩ | (have h9 := v30381 (by omega); exact ⟨by omega, h9.2⟩)) (by omega) (by first | exact xD3.sent v30383 (by omega) | exact xD3.first v30383 (by omega) (by omega)) (by omega)
                                  · refine X_iload hK (i := 4) 1 kd45_17.2.2.2.1 rfl ?_
                                    refine X_iconst hK kd45_17.2.2.2.2.1 ?_
                                    refine X_icmp_eq hK 139 (by omega) (by omega) kd45_17.2.2.2.2.2.1 (by decide) (fun c30435 => ?_) (fun c30435 => ?_)
                                    · refine X_iload hK (i := 5) 0 kd45_18.2.2.2.2.2.2.2.2.2.2.2 rfl ?_
                                      refine X_istore hK (i := 4) [(4, .int (iI z30324)), (5, .int (iI z30324)), (2, .int (iI 1)), (3, .int (iI z29641)), (0, .ref a0), (1, .int (iI x1))] kd45_19.1 (by decide) rfl ?_
                                      refine X_iinc hK (i := 5) (z := z30324) (n := 1) 1 [(5, .int (iI (z30324 + 1))), (4, .int (iI z30324)), (2, .int (iI 1)), (3, .int (iI z29641)), (0, .ref a0), (1, .int (iI x1))] kd45_19.2.1 rfl (by decide) rfl ?_
                                      refine X_goto hK 85 kd45_19.2.2.1 (by decide) ?_
                                      exact ihP30379  (z30324 + 1) (by omega) (by omega) z30324 (by omega) (by omega) (fun hm c q1 q2 => by rcases (show c < z30324 ∨ c = z30324 by omega) with e9 | e9 <;> first | omega | exact v30380 (by omega) c q1 e9 | (rw [e9]; omega)) (fun hm => by first | omega | exact ⟨by omega, by omega⟩ | (have h9 := v30381 (by omega); exact ⟨by omega, h9.2⟩)) (by omega) (by first | exact xD3.sent v30383 (by omega) | exact xD3.first v30383 (by omega) (by omega)) (by omega)
                                    · refine X_aloadn hK (i := 0) 4 kd45_17.2.2.2.2.2.2.1 rfl rfl ?_
                                      refine X_getK hK fl_X12_153_13 hs_a0 ((hg29643 a0 13 0 72 hs_a0 (by decide)).trans ((hg27159 a0 13 0 72 hs_a0 (by decide)).trans ((hg23501 a0 13 0 72 hs_a0 (by decide)).trans ((hg17189 a0 13 0 72 hs_a0 (by decide)).trans ewg1)))) kd45_17.2.2.2.2.2.2.2.1 ?_
                                      refine X_bipush hK kd45_17.2.2.2.2.2.2.2.2.1 (by decide) ?_
                                      refine X_iloadn hK (i := 3) 3 kd45_17.2.2.2.2.2.2.2.2.2.1 rfl rfl ?_
                                      refine X_imul hK kd45_17.2.2.2.2.2.2.2.2.2.2.1 ?_
                                      refine X_iload hK (i := 5) 0 kd45_17.2.2.2.2.2.2.2.2.2.2.2 rfl ?_
                                      refine X_iadd hK kd45_18.1 ?_
                                      refine X_iald hK hs_wg1 (by decide) sl_18100 (by omega) (by omega) kd45_18.2.1 (fun z30436 ez30436 lz30436 uz30436 => ?_)
                                      have hq30437 : xv g29643 wg1 ((8 * z29641) + z30324) = z30436 := xv_e (j := ((8 * z29641) + z30324)) ez30436 (by omega)
                                      refine X_aloadn hK (i := 0) 4 kd45_18.2.2.1 rfl rfl ?_
                                      refine X_getK hK fl_X12_153_13 hs_a0 ((hg29643 a0 13 0 72 hs_a0 (by decide)).trans ((hg27159 a0 13 0 72 hs_a0 (by decide)).trans ((hg23501 a0 13 0 72 hs_a0 (by decide)).trans ((hg17189 a0 13 0 72 hs_a0 (by decide)).trans ewg1)))) kd45_18.2.2.2.1 ?_
                                      refine X_bipush hK kd45_18.2.2.2.2.1 (by decide) ?_
                                      refine X_iloadn hK (i := 3) 3 kd45_18.2.2.2.2.2.1 rfl rfl ?_
                                      refine X_imul hK kd45_18.2.2.2.2.2.2.1 ?_
                                      refine X_iload hK (i := 4) 1 kd45_18.2.2.2.2.2.2.2.1 rfl ?_
                                      refine X_iadd hK kd45_18.2.2.2.2.2.2.2.2.1 ?_
                                      refine X_iald hK hs_wg1 (by decide) sl_18100 (by omega) (by omega) kd45_18.2.2.2.2.2.2.2.2.2.1 (fun z30438 ez30438 lz30438 uz30438 => ?_)
                                      have hq30439 : xv g29643 wg1 ((8 * z29641) + z30325) = z30438 := xv_e (j := ((8 * z29641) + z30325)) ez30438 (by omega)
                                      refine X_icmp_le hK 143 (by omega) (by omega) kd45_18.2.2.2.2.2.2.2.2.2.2.1 (by decide) (fun c30440 => ?_) (fun c30440 => ?_)
                                      · refine X_iinc hK (i := 5) (z := z30324) (n := 1) 0 [(5, .int (iI (z30324 + 1))), (4, .int (iI z30325)), (2, .int (iI 1)), (3, .int (iI z29641)), (0, .ref a0), (1, .int (iI x1))] kd45_19.2.1 rfl (by decide) rfl ?_
                                        refine X_goto hK 85 kd45_19.2.2.1 (by decide) ?_
                                        exact ihP30379  (z30324 + 1) (by omega) (by omega) z30325 (by omega) (by omega) (fun hm c q1 q2 => by rcases (show c < z30324 ∨ c = z30324 by omega) with e9 | e9 <;> first | omega | exact v30380 (by omega) c q1 e9 | (rw [e9]; omega)) (fun hm => by first | omega | exact ⟨by omega, by omega⟩ | (have h9 := v30381 (by omega); exact ⟨by omega, h9.2⟩)) (by omega) (by first | exact xD3.sent v30383 (by omega) | exact xD3.first v30383 (by omega) (by omega) | exact xD3.more v30383 (by omega) hq30437 hq30439 (by omega) | exact xD3.keep v30383 (by omega) (by omega) hq30437 hq30439 (by omega)) (by omega)
                                      · refine X_iload hK (i := 5) 0 kd45_18.2.2.2.2.2.2.2.2.2.2.2 rfl ?_
                                        refine X_istore hK (i := 4) [(4, .int (iI z30324)), (5, .int (iI z30324)), (2, .int (iI 1)), (3, .int (iI z29641)), (0, .ref a0), (1, .int (iI x1))] kd45_19.1 (by decide) rfl ?_
                                        refine X_iinc hK (i := 5) (z := z30324) (n := 1) 1 [(5, .int (iI (z30324 + 1))), (4, .int (iI z30324)), (2, .int (iI 1)), (3, .int (iI z29641)), (0, .ref a0), (1, .int (iI x1))] kd45_19.2.1 rfl (by decide) rfl ?_
                                        refine X_goto hK 85 kd45_19.2.2.1 (by decide) ?_
                                        exact ihP30379  (z30324 + 1) (by omega) (by omega) z30324 (by omega) (by omega) (fun hm c q1 q2 => by rcases (show c < z30324 ∨ c = z30324 by omega) with e9 | e9 <;> first | omega | exact v30380 (by omega) c q1 e9 | (rw [e9]; omega)) (fun hm => by first | omega | exact ⟨by omega, by omega⟩ | (have h9 := v30381 (by omega); exact ⟨by omega, h9.2⟩)) (by omega) (by first | exact xD3.sent v30383 (by omega) | exact xD3.first v30383 (by omega) (by omega) | exact xD3.more v30383 (by omega) hq30437 hq30439 (by omega) | exact xD3.keep v30383 (by omega) (by omega) hq30437 hq30439 (by omega)) (by omega)
                            exact P30379 ((24 - 0 : Int).toNat + 1) 0 (by omega) (by omega) (-1) (by omega) (by omega) (fun _ c q1 q2 => by omega) (fun h => by omega) (by omega) xD3.z (by omega)
                          · refine X_goto hK 319 kd45_15.2.2.2.2.2.2.2.2.1 (by decide) ?_
                            refine X_iinc hK (i := 3) (z := z29641) (n := 1) 0 [(3, .int (iI (z29641 + 1))), (2, .int (iI z29642)), (0, .ref a0), (1, .int (iI x1))] kd45_27.2.2.1 rfl (by decide) rfl ?_
                            refine X_goto hK 59 kd45_27.2.2.2.1 (by decide) ?_
                            exact ihP30038  g29643 (xM.tr xM.rf xLe.rf hg29643 (by decide)) (z29641 + 1) (by omega) (by omega) z29642 (by omega) (by omega) v30039 (by omega) (fun h9 => xpre (P := fun x => x ≠ -1) (v30041 (by omega)) (fun _ _ _ => rfl) (by omega)) v30042 (by omega)
                    exact P30038 ((24 - 0 : Int).toNat + 1) g27159 xM.rf 0 (by omega) (by omega) 0 (by omega) (by omega) v27680 (by omega) (fun _ k q1 q2 => by omega) v27683 (by omega)
              exact P27679 ((2 * (x1 * x1 + x1 - xPh x1 (xv g23501 w76) (xv g23501 w77)) + 1 : Int).toNat + 1) g23501 xM.rf 1 (by omega) (by omega) (xOf.ini (fun k q1 q2 => v24551 k q1 (by omega)) (fun k q1 q2 => v24552 k q1 (by omega)) (fun k q1 q2 => by rw [(xv_m hg23501 hs_w77 (by decide) (by decide))]; exact v19294 k q1 (by omega)) (by omega)) (xPh_le (n := x1) (xv g23501 w76) (xv g23501 w77) (by omega)) (fun h9 => by omega) (xDa.ini (fun k q1 q2 => v24551 k q1 (by omega)) (fun k q1 q2 => by rw [(xv_m hg23501 hs_w77 (by decide) (by decide))]; exact v19294 k q1 (by omega)) (by omega)) (by omega)
            · refine X_aloadn hK (i := 0) 1 kd45_13.2.2.2.1 rfl rfl ?_
              refine X_getK hK fl_X12_159_13 hs_a0 ((hg23501 a0 13 0 74 hs_a0 (by decide)).trans ((hg17189 a0 13 0 74 hs_a0 (by decide)).trans ew74)) kd45_13.2.2.2.2.1 ?_
              refine X_iloadn hK (i := 2) 0 kd45_13.2.2.2.2.2.1 rfl rfl ?_
              refine X_iconst hK kd45_13.2.2.2.2.2.2.1 ?_
              refine X_iast hK hs_w74 (by decide) (by decide) sl_18300 (by omega) (by omega) (by omega) (by omega) kd45_13.2.2.2.2.2.2.2.1 (fun g30441 hg30441 => ?_)
              refine X_aloadn hK (i := 0) 1 kd45_13.2.2.2.2.2.2.2.2.1 rfl rfl ?_
              refine X_getK hK fl_X12_165_13 hs_a0 ((xs_a hg30441 (xne hs_a0 hs_w74 (by decide))).trans ((hg23501 a0 13 0 76 hs_a0 (by decide)).trans ((hg17189 a0 13 0 76 hs_a0 (by decide)).trans ew76))) kd45_13.2.2.2.2.2.2.2.2.2.1 ?_
              refine X_iloadn hK (i := 2) 0 kd45_13.2.2.2.2.2.2.2.2.2.2.1 rfl rfl ?_
              refine X_iconst hK kd45_13.2.2.2.2.2.2.2.2.2.2.2 ?_
              refine X_iast hK hs_w76 (by decide) (by decide) sl_18500 (by omega) (by omega) (by omega) (by omega) kd45_14.1 (fun g30442 hg30442 => ?_)
              refine X_iinc hK (i := 2) (z := z23500) (n := 1) 0 [(2, .int (iI (z23500 + 1))), (0, .ref a0), (1, .int (iI x1))] kd45_14.2.1 rfl (by decide) rfl ?_
              refine X_goto hK 23 kd45_14.2.2.1 (by decide) ?_
              exact ihP24550  g30442 (xM_ua (xM_ua (xM.tr xM.rf xLe.rf hg23501 (by decide)) hg30441 hs_w74 (by decide) (by decide)) hg30442 hs_w76 (by decide) (by decide)) (z23500 + 1) (by omega) (by omega) (xpre (P := fun x => x = -1) v24551 (fun i9 hi9 h09 => (show xv g30442 w74 i9 = xv g23501 w74 i9 from by rw [(xv_a hg30442 (xne hs_w74 hs_w76 (by decide))), (xv_k (i := i9) hg30441 (by omega) (by omega) (by omega))])) (show xv g30442 w74 z23500 = (-1) from by rw [(xv_a hg30442 (xne hs_w74 hs_w76 (by decide))), xv_s hg30441 (by omega)])) (xpre (P := fun x => x = -1) v24552 (fun i9 hi9 h09 => (show xv g30442 w76 i9 = xv g23501 w76 i9 from by rw [(xv_k (i := i9) hg30442 (by omega) (by omega) (by omega)), (xv_a hg30441 (xne hs_w76 hs_w74 (by decide)))])) (show xv g30442 w76 z23500 = (-1) from by rw [xv_s hg30442 (by omega)])) (by omega)
        exact P24550 ((24 - 0 : Int).toNat + 1) g17189 xM.rf 0 (by omega) (by omega) (fun k q1 q2 => by omega) (fun k q1 q2 => by omega) (by omega)
      · refine X_aloadn hK (i := 0) 1 kd45_12.2.2.2.1 rfl rfl ?_
        refine X_getK hK fl_X12_168_13 hs_a0 ((hg17189 a0 13 0 77 hs_a0 (by decide)).trans ew77) kd45_12.2.2.2.2.1 ?_
        refine X_iloadn hK (i := 2) 0 kd45_12.2.2.2.2.2.1 rfl rfl ?_
        refine X_iconst hK kd45_12.2.2.2.2.2.2.1 ?_
        refine X_zast hK hs_w77 (by decide) (by decide) sl_19701 (by omega) (by omega) (by omega) (by omega) kd45_12.2.2.2.2.2.2.2.1 (fun g30443 hg30443 => ?_)
        refine X_iinc hK (i := 2) (z := z17188) (n := 1) 0 [(2, .int (iI (z17188 + 1))), (0, .ref a0), (1, .int (iI x1))] kd45_12.2.2.2.2.2.2.2.2.1 rfl (by decide) rfl ?_
        refine X_goto hK 2 kd45_12.2.2.2.2.2.2.2.2.2.1 (by decide) ?_
        exact ihP19293  g30443 (xM_ua (xM.tr xM.rf xLe.rf hg17189 (by decide)) hg30443 hs_w77 (by decide) (by decide)) (z17188 + 1) (by omega) (by omega) (xpre (P := fun x => x = 0) v19294 (fun i9 hi9 h09 => (show xv g30443 w77 i9 = xv g17189 w77 i9 from by rw [(xv_k (i := i9) hg30443 (by omega) (by omega) (by omega))])) (show xv g30443 w77 z17188 = 0 from by rw [xv_s hg30443 (by omega)])) (by omega)
  exact P19293 ((80 - 0 : Int).toNat + 1) g xM.rf 0 (by omega) (by omega) (fun k q1 q2 => by omega) (by omega)
