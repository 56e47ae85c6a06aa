theorem m_3_4 : Cond.fieldLink RX11 80 "PaperBoys" "nextParting" "LPaperBoys$Parting;" ∈ wsL_law := ch_3 _ (List.mem_of_getElem? (i := 4) rfl)
theorem m_10_7 : Cond.fieldLink RX12 171 "PaperBoysModel" "keptGain" "[I" ∈ wsL_law := ch_10 _ (List.mem_of_getElem? (i := 7) rfl)
theorem m_10_8 : Cond.fieldLink RX12 174 "PaperBoysModel" "keptMight" "[I" ∈ wsL_law := ch_10 _ (List.mem_of_getElem? (i := 8) rfl)
theorem m_49_0 : Cond.methodLink RX11 318 yX6_learn ∈ wsL_law := ch_49 _ (List.mem_of_getElem? (i := 0) rfl)
theorem m_49_1 : Cond.instanceMethod yX6_learn ∈ wsL_law := ch_49 _ (List.mem_of_getElem? (i := 1) rfl)
theorem m_49_2 : Cond.selects RX6 yX6_learn yX6_learn ∈ wsL_law := ch_49 _ (List.mem_of_getElem? (i := 2) rfl)
theorem m_49_3 : Cond.code yX6_learn cX6_learn 6 none ∈ wsL_law := ch_49 _ (List.mem_of_getElem? (i := 3) rfl)
theorem m_49_5 : Cond.methodLink RX11 321 yX6_partByOffers ∈ wsL_law := ch_49 _ (List.mem_of_getElem? (i := 5) rfl)
theorem m_49_6 : Cond.instanceMethod yX6_partByOffers ∈ wsL_law := ch_49 _ (List.mem_of_getElem? (i := 6) rfl)
theorem m_49_7 : Cond.selects RX6 yX6_partByOffers yX6_partByOffers ∈ wsL_law := ch_49 _ (List.mem_of_getElem? (i := 7) rfl)
theorem m_49_8 : Cond.code yX6_partByOffers cX6_partByOffers 4 (some .int) ∈ wsL_law := ch_49 _ (List.mem_of_getElem? (i := 8) rfl)
theorem m_50_5 : Cond.methodLink RX11 324 yX11_isSum ∈ wsL_law := ch_50 _ (List.mem_of_getElem? (i := 5) rfl)
theorem m_50_6 : Cond.static yX11_isSum ∈ wsL_law := ch_50 _ (List.mem_of_getElem? (i := 6) rfl)
theorem m_50_7 : Cond.code yX11_isSum cX11_isSum 1 (some .boolean) ∈ wsL_law := ch_50 _ (List.mem_of_getElem? (i := 7) rfl)
theorem m_50_8 : Cond.methodLink RX11 327 yX6_partBest ∈ wsL_law := ch_50 _ (List.mem_of_getElem? (i := 8) rfl)
theorem m_50_9 : Cond.instanceMethod yX6_partBest ∈ wsL_law := ch_50 _ (List.mem_of_getElem? (i := 9) rfl)
theorem m_50_10 : Cond.selects RX6 yX6_partBest yX6_partBest ∈ wsL_law := ch_50 _ (List.mem_of_getElem? (i := 10) rfl)
theorem m_50_11 : Cond.code yX6_partBest cX6_partBest 2 (some .int) ∈ wsL_law := ch_50 _ (List.mem_of_getElem? (i := 11) rfl)
theorem m_51_22 : Cond.methodLink RX12 453 yX12_offer ∈ wsL_law := ch_51 _ (List.mem_of_getElem? (i := 22) rfl)
theorem m_51_23 : Cond.instanceMethod yX12_offer ∈ wsL_law := ch_51 _ (List.mem_of_getElem? (i := 23) rfl)
theorem m_52_0 : Cond.selects RX12 yX12_offer yX12_offer ∈ wsL_law := ch_52 _ (List.mem_of_getElem? (i := 0) rfl)
theorem m_52_1 : Cond.code yX12_offer cX12_offer 7 none ∈ wsL_law := ch_52 _ (List.mem_of_getElem? (i := 1) rfl)
theorem m_52_2 : Cond.methodLink RX12 456 yX12_seek ∈ wsL_law := ch_52 _ (List.mem_of_getElem? (i := 2) rfl)
theorem m_52_3 : Cond.instanceMethod yX12_seek ∈ wsL_law := ch_52 _ (List.mem_of_getElem? (i := 3) rfl)
theorem m_52_4 : Cond.selects RX12 yX12_seek yX12_seek ∈ wsL_law := ch_52 _ (List.mem_of_getElem? (i := 4) rfl)
theorem m_52_5 : Cond.code yX12_seek cX12_seek 7 (some .boolean) ∈ wsL_law := ch_52 _ (List.mem_of_getElem? (i := 5) rfl)
theorem m_53_6 : Cond.methodLink RX11 336 yX6_hasPeace ∈ wsL_law := ch_53 _ (List.mem_of_getElem? (i := 6) rfl)
theorem m_53_7 : Cond.instanceMethod yX6_hasPeace ∈ wsL_law := ch_53 _ (List.mem_of_getElem? (i := 7) rfl)
theorem m_53_8 : Cond.selects RX6 yX6_hasPeace yX6_hasPeace ∈ wsL_law := ch_53 _ (List.mem_of_getElem? (i := 8) rfl)
theorem m_53_9 : Cond.code yX6_hasPeace cX6_hasPeace 4 (some .boolean) ∈ wsL_law := ch_53 _ (List.mem_of_getElem? (i := 9) rfl)
theorem kd47_0 : (decode cX11_parted 0 = .ok (.iconst (-1), 1)) ∧ (decode cX11_parted 1 = .ok (.istore 4, 2)) ∧ (decode cX11_parted 3 = .ok (.iload_n 1, 1)) ∧ (decode cX11_parted 4 = .ok (.iconst 1, 1)) ∧ (decode cX11_parted 5 = .ok (.bipush 8, 2)) ∧ (decode cX11_parted 7 = .ok (.invokestatic 115, 3)) ∧ (decode cX11_parted 10 = .ok (.ifCond .eq 68, 3)) ∧ (decode cX11_parted 13 = .ok (.aload_n 0, 1)) ∧ (decode cX11_parted 14 = .ok (.getfield 10, 3)) ∧ (decode cX11_parted 17 = .ok (.getfield 102, 3)) ∧ (decode cX11_parted 20 = .ok (.iconst 2, 1)) ∧ (decode cX11_parted 21 = .ok (.iload_n 1, 1)) := by decide +kernel
theorem kd47_1 : (decode cX11_parted 22 = .ok (.imul, 1)) ∧ (decode cX11_parted 23 = .ok (.iload_n 1, 1)) ∧ (decode cX11_parted 24 = .ok (.imul, 1)) ∧ (decode cX11_parted 25 = .ok (.if_icmp .ne 53, 3)) ∧ (decode cX11_parted 28 = .ok (.aload_n 0, 1)) ∧ (decode cX11_parted 29 = .ok (.getfield 80, 3)) ∧ (decode cX11_parted 32 = .ok (.iload_n 1, 1)) ∧ (decode cX11_parted 33 = .ok (.aload_n 0, 1)) ∧ (decode cX11_parted 34 = .ok (.getfield 10, 3)) ∧ (decode cX11_parted 37 = .ok (.invokevirtual 318, 3)) ∧ (decode cX11_parted 40 = .ok (.iload_n 2, 1)) ∧ (decode cX11_parted 41 = .ok (.ifCond .ne 15, 3)) := by decide +kernel
theorem kd47_2 : (decode cX11_parted 44 = .ok (.aload_n 0, 1)) ∧ (decode cX11_parted 45 = .ok (.getfield 80, 3)) ∧ (decode cX11_parted 48 = .ok (.invokevirtual 321, 3)) ∧ (decode cX11_parted 51 = .ok (.istore 4, 2)) ∧ (decode cX11_parted 53 = .ok (.goto 25, 3)) ∧ (decode cX11_parted 56 = .ok (.iload_n 2, 1)) ∧ (decode cX11_parted 57 = .ok (.iconst 1, 1)) ∧ (decode cX11_parted 58 = .ok (.if_icmp .ne 20, 3)) ∧ (decode cX11_parted 61 = .ok (.iload_n 3, 1)) ∧ (decode cX11_parted 62 = .ok (.invokestatic 324, 3)) ∧ (decode cX11_parted 65 = .ok (.ifCond .eq 13, 3)) ∧ (decode cX11_parted 68 = .ok (.aload_n 0, 1)) := by decide +kernel
theorem kd47_3 : (decode cX11_parted 69 = .ok (.getfield 80, 3)) ∧ (decode cX11_parted 72 = .ok (.iload_n 3, 1)) ∧ (decode cX11_parted 73 = .ok (.invokevirtual 327, 3)) ∧ (decode cX11_parted 76 = .ok (.istore 4, 2)) ∧ (decode cX11_parted 78 = .ok (.iload 4, 2)) ∧ (decode cX11_parted 80 = .ok (.iconst (-1), 1)) ∧ (decode cX11_parted 81 = .ok (.if_icmp .eq 23, 3)) ∧ (decode cX11_parted 84 = .ok (.aload_n 0, 1)) ∧ (decode cX11_parted 85 = .ok (.getfield 76, 3)) ∧ (decode cX11_parted 88 = .ok (.astore 5, 2)) ∧ (decode cX11_parted 90 = .ok (.aload_n 0, 1)) ∧ (decode cX11_parted 91 = .ok (.aload_n 0, 1)) := by decide +kernel
theorem kd47_4 : (decode cX11_parted 92 = .ok (.getfield 80, 3)) ∧ (decode cX11_parted 95 = .ok (.putfield 76, 3)) ∧ (decode cX11_parted 98 = .ok (.aload_n 0, 1)) ∧ (decode cX11_parted 99 = .ok (.aload 5, 2)) ∧ (decode cX11_parted 101 = .ok (.putfield 80, 3)) ∧ (decode cX11_parted 104 = .ok (.aload_n 0, 1)) ∧ (decode cX11_parted 105 = .ok (.getfield 10, 3)) ∧ (decode cX11_parted 108 = .ok (.iconst 0, 1)) ∧ (decode cX11_parted 109 = .ok (.putfield 102, 3)) ∧ (decode cX11_parted 112 = .ok (.iload 4, 2)) ∧ (decode cX11_parted 114 = .ok (.ireturn, 1)) ∧ (decode cX11_peace 0 = .ok (.aload_n 0, 1)) := by decide +kernel
theorem kd47_5 : (decode cX11_peace 1 = .ok (.getfield 76, 3)) ∧ (decode cX11_peace 4 = .ok (.getfield 330, 3)) ∧ (decode cX11_peace 7 = .ok (.ifCond .eq 10, 3)) ∧ (decode cX11_peace 10 = .ok (.iload_n 1, 1)) ∧ (decode cX11_peace 11 = .ok (.invokestatic 324, 3)) ∧ (decode cX11_peace 14 = .ok (.ifCond .ne 5, 3)) ∧ (decode cX11_peace 17 = .ok (.iconst (-1), 1)) ∧ (decode cX11_peace 18 = .ok (.ireturn, 1)) ∧ (decode cX11_peace 19 = .ok (.aload_n 0, 1)) ∧ (decode cX11_peace 20 = .ok (.getfield 76, 3)) ∧ (decode cX11_peace 23 = .ok (.iload_n 1, 1)) ∧ (decode cX11_peace 24 = .ok (.invokevirtual 336, 3)) := by decide +kernel
theorem kd47_6 : (decode cX11_peace 27 = .ok (.ifCond .eq 7, 3)) ∧ (decode cX11_peace 30 = .ok (.iconst 1, 1)) ∧ (decode cX11_peace 31 = .ok (.goto 4, 3)) ∧ (decode cX11_peace 34 = .ok (.iconst 0, 1)) ∧ (decode cX11_peace 35 = .ok (.ireturn, 1)) ∧ (decode cX12_parted 0 = .ok (.aload_n 0, 1)) ∧ (decode cX12_parted 1 = .ok (.iconst 0, 1)) ∧ (decode cX12_parted 2 = .ok (.putfield 198, 3)) ∧ (decode cX12_parted 5 = .ok (.aload_n 0, 1)) ∧ (decode cX12_parted 6 = .ok (.invokevirtual 222, 3)) ∧ (decode cX12_parted 9 = .ok (.istore 4, 2)) ∧ (decode cX12_parted 11 = .ok (.iload_n 1, 1)) := by decide +kernel
theorem kd47_7 : (decode cX12_parted 12 = .ok (.iconst 1, 1)) ∧ (decode cX12_parted 13 = .ok (.bipush 8, 2)) ∧ (decode cX12_parted 15 = .ok (.invokestatic 211, 3)) ∧ (decode cX12_parted 18 = .ok (.ifCond .eq 38, 3)) ∧ (decode cX12_parted 21 = .ok (.iload 4, 2)) ∧ (decode cX12_parted 23 = .ok (.iconst 2, 1)) ∧ (decode cX12_parted 24 = .ok (.iload_n 1, 1)) ∧ (decode cX12_parted 25 = .ok (.imul, 1)) ∧ (decode cX12_parted 26 = .ok (.iload_n 1, 1)) ∧ (decode cX12_parted 27 = .ok (.imul, 1)) ∧ (decode cX12_parted 28 = .ok (.if_icmp .ne 28, 3)) ∧ (decode cX12_parted 31 = .ok (.iload_n 2, 1)) := by decide +kernel
theorem kd47_8 : (decode cX12_parted 32 = .ok (.iconst 0, 1)) ∧ (decode cX12_parted 33 = .ok (.iconst 1, 1)) ∧ (decode cX12_parted 34 = .ok (.invokestatic 211, 3)) ∧ (decode cX12_parted 37 = .ok (.ifCond .eq 19, 3)) ∧ (decode cX12_parted 40 = .ok (.iload_n 2, 1)) ∧ (decode cX12_parted 41 = .ok (.iconst 1, 1)) ∧ (decode cX12_parted 42 = .ok (.if_icmp .ne 16, 3)) ∧ (decode cX12_parted 45 = .ok (.iload_n 3, 1)) ∧ (decode cX12_parted 46 = .ok (.iconst 1, 1)) ∧ (decode cX12_parted 47 = .ok (.sipush 255, 3)) ∧ (decode cX12_parted 50 = .ok (.invokestatic 211, 3)) ∧ (decode cX12_parted 53 = .ok (.ifCond .ne 5, 3)) := by decide +kernel
theorem kd47_9 : (decode cX12_parted 56 = .ok (.iconst (-1), 1)) ∧ (decode cX12_parted 57 = .ok (.ireturn, 1)) ∧ (decode cX12_parted 58 = .ok (.iconst 0, 1)) ∧ (decode cX12_parted 59 = .ok (.istore 5, 2)) ∧ (decode cX12_parted 61 = .ok (.iload 5, 2)) ∧ (decode cX12_parted 63 = .ok (.bipush 64, 2)) ∧ (decode cX12_parted 65 = .ok (.if_icmp .ge 37, 3)) ∧ (decode cX12_parted 68 = .ok (.aload_n 0, 1)) ∧ (decode cX12_parted 69 = .ok (.getfield 171, 3)) ∧ (decode cX12_parted 72 = .ok (.iload 5, 2)) ∧ (decode cX12_parted 74 = .ok (.aload_n 0, 1)) ∧ (decode cX12_parted 75 = .ok (.getfield 153, 3)) := by decide +kernel
theorem kd47_10 : (decode cX12_parted 78 = .ok (.iload 5, 2)) ∧ (decode cX12_parted 80 = .ok (.iaload, 1)) ∧ (decode cX12_parted 81 = .ok (.iastore, 1)) ∧ (decode cX12_parted 82 = .ok (.aload_n 0, 1)) ∧ (decode cX12_parted 83 = .ok (.getfield 174, 3)) ∧ (decode cX12_parted 86 = .ok (.iload 5, 2)) ∧ (decode cX12_parted 88 = .ok (.aload_n 0, 1)) ∧ (decode cX12_parted 89 = .ok (.getfield 156, 3)) ∧ (decode cX12_parted 92 = .ok (.iload 5, 2)) ∧ (decode cX12_parted 94 = .ok (.iaload, 1)) ∧ (decode cX12_parted 95 = .ok (.iastore, 1)) ∧ (decode cX12_parted 96 = .ok (.iinc 5 1, 3)) := by decide +kernel
theorem kd47_11 : (decode cX12_parted 99 = .ok (.goto (-38), 3)) ∧ (decode cX12_parted 102 = .ok (.iconst 0, 1)) ∧ (decode cX12_parted 103 = .ok (.istore 5, 2)) ∧ (decode cX12_parted 105 = .ok (.iload 5, 2)) ∧ (decode cX12_parted 107 = .ok (.iload_n 1, 1)) ∧ (decode cX12_parted 108 = .ok (.if_icmp .ge 78, 3)) ∧ (decode cX12_parted 111 = .ok (.iconst 0, 1)) ∧ (decode cX12_parted 112 = .ok (.istore 6, 2)) ∧ (decode cX12_parted 114 = .ok (.iload 6, 2)) ∧ (decode cX12_parted 116 = .ok (.iload_n 1, 1)) ∧ (decode cX12_parted 117 = .ok (.if_icmp .ge 63, 3)) ∧ (decode cX12_parted 120 = .ok (.aload_n 0, 1)) := by decide +kernel
theorem kd47_12 : (decode cX12_parted 121 = .ok (.getfield 153, 3)) ∧ (decode cX12_parted 124 = .ok (.bipush 8, 2)) ∧ (decode cX12_parted 126 = .ok (.iload 5, 2)) ∧ (decode cX12_parted 128 = .ok (.imul, 1)) ∧ (decode cX12_parted 129 = .ok (.iload 6, 2)) ∧ (decode cX12_parted 131 = .ok (.iadd, 1)) ∧ (decode cX12_parted 132 = .ok (.aload_n 0, 1)) ∧ (decode cX12_parted 133 = .ok (.getfield 7, 3)) ∧ (decode cX12_parted 136 = .ok (.iload_n 1, 1)) ∧ (decode cX12_parted 137 = .ok (.iload 5, 2)) ∧ (decode cX12_parted 139 = .ok (.imul, 1)) ∧ (decode cX12_parted 140 = .ok (.iload 6, 2)) := by decide +kernel
theorem kd47_13 : (decode cX12_parted 142 = .ok (.iadd, 1)) ∧ (decode cX12_parted 143 = .ok (.iaload, 1)) ∧ (decode cX12_parted 144 = .ok (.iastore, 1)) ∧ (decode cX12_parted 145 = .ok (.aload_n 0, 1)) ∧ (decode cX12_parted 146 = .ok (.getfield 156, 3)) ∧ (decode cX12_parted 149 = .ok (.bipush 8, 2)) ∧ (decode cX12_parted 151 = .ok (.iload 5, 2)) ∧ (decode cX12_parted 153 = .ok (.imul, 1)) ∧ (decode cX12_parted 154 = .ok (.iload 6, 2)) ∧ (decode cX12_parted 156 = .ok (.iadd, 1)) ∧ (decode cX12_parted 157 = .ok (.aload_n 0, 1)) ∧ (decode cX12_parted 158 = .ok (.getfield 7, 3)) := by decide +kernel
theorem kd47_14 : (decode cX12_parted 161 = .ok (.iload_n 1, 1)) ∧ (decode cX12_parted 162 = .ok (.iload_n 1, 1)) ∧ (decode cX12_parted 163 = .ok (.imul, 1)) ∧ (decode cX12_parted 164 = .ok (.iload_n 1, 1)) ∧ (decode cX12_parted 165 = .ok (.iload 5, 2)) ∧ (decode cX12_parted 167 = .ok (.imul, 1)) ∧ (decode cX12_parted 168 = .ok (.iadd, 1)) ∧ (decode cX12_parted 169 = .ok (.iload 6, 2)) ∧ (decode cX12_parted 171 = .ok (.iadd, 1)) ∧ (decode cX12_parted 172 = .ok (.iaload, 1)) ∧ (decode cX12_parted 173 = .ok (.iastore, 1)) ∧ (decode cX12_parted 174 = .ok (.iinc 6 1, 3)) := by decide +kernel
theorem kd47_15 : (decode cX12_parted 177 = .ok (.goto (-63), 3)) ∧ (decode cX12_parted 180 = .ok (.iinc 5 1, 3)) ∧ (decode cX12_parted 183 = .ok (.goto (-78), 3)) ∧ (decode cX12_parted 186 = .ok (.iload_n 2, 1)) ∧ (decode cX12_parted 187 = .ok (.ifCond .ne 11, 3)) ∧ (decode cX12_parted 190 = .ok (.aload_n 0, 1)) ∧ (decode cX12_parted 191 = .ok (.iload_n 1, 1)) ∧ (decode cX12_parted 192 = .ok (.invokevirtual 453, 3)) ∧ (decode cX12_parted 195 = .ok (.goto 58, 3)) ∧ (decode cX12_parted 198 = .ok (.aload_n 0, 1)) ∧ (decode cX12_parted 199 = .ok (.iload_n 1, 1)) ∧ (decode cX12_parted 200 = .ok (.iload_n 3, 1)) := by decide +kernel
theorem kd47_16 : (decode cX12_parted 201 = .ok (.invokevirtual 456, 3)) ∧ (decode cX12_parted 204 = .ok (.ifCond .ne 49, 3)) ∧ (decode cX12_parted 207 = .ok (.iconst 0, 1)) ∧ (decode cX12_parted 208 = .ok (.istore 5, 2)) ∧ (decode cX12_parted 210 = .ok (.iload 5, 2)) ∧ (decode cX12_parted 212 = .ok (.bipush 64, 2)) ∧ (decode cX12_parted 214 = .ok (.if_icmp .ge 37, 3)) ∧ (decode cX12_parted 217 = .ok (.aload_n 0, 1)) ∧ (decode cX12_parted 218 = .ok (.getfield 153, 3)) ∧ (decode cX12_parted 221 = .ok (.iload 5, 2)) ∧ (decode cX12_parted 223 = .ok (.aload_n 0, 1)) ∧ (decode cX12_parted 224 = .ok (.getfield 171, 3)) := by decide +kernel
theorem kd47_17 : (decode cX12_parted 227 = .ok (.iload 5, 2)) ∧ (decode cX12_parted 229 = .ok (.iaload, 1)) ∧ (decode cX12_parted 230 = .ok (.iastore, 1)) ∧ (decode cX12_parted 231 = .ok (.aload_n 0, 1)) ∧ (decode cX12_parted 232 = .ok (.getfield 156, 3)) ∧ (decode cX12_parted 235 = .ok (.iload 5, 2)) ∧ (decode cX12_parted 237 = .ok (.aload_n 0, 1)) ∧ (decode cX12_parted 238 = .ok (.getfield 174, 3)) ∧ (decode cX12_parted 241 = .ok (.iload 5, 2)) ∧ (decode cX12_parted 243 = .ok (.iaload, 1)) ∧ (decode cX12_parted 244 = .ok (.iastore, 1)) ∧ (decode cX12_parted 245 = .ok (.iinc 5 1, 3)) := by decide +kernel
theorem kd47_18 : (decode cX12_parted 248 = .ok (.goto (-38), 3)) ∧ (decode cX12_parted 251 = .ok (.iconst (-1), 1)) ∧ (decode cX12_parted 252 = .ok (.ireturn, 1)) ∧ (decode cX12_parted 253 = .ok (.aload_n 0, 1)) ∧ (decode cX12_parted 254 = .ok (.iload_n 1, 1)) ∧ (decode cX12_parted 255 = .ok (.putfield 459, 3)) ∧ (decode cX12_parted 258 = .ok (.aload_n 0, 1)) ∧ (decode cX12_parted 259 = .ok (.iconst 1, 1)) ∧ (decode cX12_parted 260 = .ok (.putfield 462, 3)) ∧ (decode cX12_parted 263 = .ok (.aload_n 0, 1)) ∧ (decode cX12_parted 264 = .ok (.getfield 153, 3)) ∧ (decode cX12_parted 267 = .ok (.aload_n 0, 1)) := by decide +kernel
theorem kd47_19 : (decode cX12_parted 268 = .ok (.getfield 159, 3)) ∧ (decode cX12_parted 271 = .ok (.iload_n 1, 1)) ∧ (decode cX12_parted 272 = .ok (.invokestatic 441, 3)) ∧ (decode cX12_parted 275 = .ok (.ireturn, 1)) ∧ (decode cX12_peace 0 = .ok (.aload_n 0, 1)) ∧ (decode cX12_peace 1 = .ok (.iconst 0, 1)) ∧ (decode cX12_peace 2 = .ok (.putfield 198, 3)) ∧ (decode cX12_peace 5 = .ok (.aload_n 0, 1)) ∧ (decode cX12_peace 6 = .ok (.getfield 462, 3)) ∧ (decode cX12_peace 9 = .ok (.ifCond .eq 14, 3)) ∧ (decode cX12_peace 12 = .ok (.iload_n 1, 1)) ∧ (decode cX12_peace 13 = .ok (.iconst 1, 1)) := by decide +kernel
theorem kd47_20 : (decode cX12_peace 14 = .ok (.sipush 255, 3)) ∧ (decode cX12_peace 17 = .ok (.invokestatic 211, 3)) ∧ (decode cX12_peace 20 = .ok (.ifCond .ne 5, 3)) ∧ (decode cX12_peace 23 = .ok (.iconst (-1), 1)) ∧ (decode cX12_peace 24 = .ok (.ireturn, 1)) ∧ (decode cX12_peace 25 = .ok (.aload_n 0, 1)) ∧ (decode cX12_peace 26 = .ok (.aload_n 0, 1)) ∧ (decode cX12_peace 27 = .ok (.getfield 159, 3)) ∧ (decode cX12_peace 30 = .ok (.aload_n 0, 1)) ∧ (decode cX12_peace 31 = .ok (.getfield 459, 3)) ∧ (decode cX12_peace 34 = .ok (.iload_n 1, 1)) ∧ (decode cX12_peace 35 = .ok (.invokevirtual 445, 3)) := by decide +kernel
theorem kd47_21 : (decode cX12_peace 38 = .ok (.ifCond .eq 7, 3)) ∧ (decode cX12_peace 41 = .ok (.iconst 1, 1)) ∧ (decode cX12_peace 42 = .ok (.goto 4, 3)) ∧ (decode cX12_peace 45 = .ok (.iconst 0, 1)) ∧ (decode cX12_peace 46 = .ok (.ireturn, 1)) := by decide +kernel
theorem fl_X11_80_12 : xF RX11 80 12 11 (.object "PaperBoys$Parting") false := ⟨by decide, RX11, TX11, 18, tyX11, "PaperBoys", rfl, inlX11, tyX11_ok, nmX11, by decide, rfl, rfl, m_3_4, Or.inl rfl⟩
theorem fl_X12_171_13 : xF RX12 171 13 80 (.array .int) true := ⟨by decide, RX12, TX12, 91, tyX12, "PaperBoysModel", rfl, inlX12, tyX12_ok, nmX12, by decide, rfl, rfl, m_10_7, Or.inl rfl⟩
theorem fl_X12_174_13 : xF RX12 174 13 81 (.array .int) true := ⟨by decide, RX12, TX12, 91, tyX12, "PaperBoysModel", rfl, inlX12, tyX12_ok, nmX12, by decide, rfl, rfl, m_10_8, Or.inl rfl⟩
theorem lk_X11_318 : xLV RX11 318 yX6_learn cX6_learn 6 none 2 := ⟨m_49_0, m_49_1, m_49_2, m_3_2, m_49_3, by decide +kernel⟩
theorem lk_X11_321 : xLV RX11 321 yX6_partByOffers cX6_partByOffers 4 (some .int) 0 := ⟨m_49_5, m_49_6, m_49_7, m_3_2, m_49_8, by decide +kernel⟩
theorem lk_X11_324 : xLS RX11 324 yX11_isSum cX11_isSum 1 (some .boolean) 1 := ⟨m_50_5, m_50_6, m_1_2, m_50_7, by decide +kernel⟩
theorem lk_X11_327 : xLV RX11 327 yX6_partBest cX6_partBest 2 (some .int) 1 := ⟨m_50_8, m_50_9, m_50_10, m_3_2, m_50_11, by decide +kernel⟩
theorem lk_X11_336 : xLV RX11 336 yX6_hasPeace cX6_hasPeace 4 (some .boolean) 1 := ⟨m_53_6, m_53_7, m_53_8, m_3_2, m_53_9, by decide +kernel⟩
theorem lk_X12_453 : xLV RX12 453 yX12_offer cX12_offer 7 none 1 := ⟨m_51_22, m_51_23, m_52_0, m_1_5, m_52_1, by decide +kernel⟩
theorem lk_X12_456 : xLV RX12 456 yX12_seek cX12_seek 7 (some .boolean) 2 := ⟨m_52_2, m_52_3, m_52_4, m_1_5, m_52_5, by decide +kernel⟩
def xPln (S : xT) (g : xG) (p c a m : Nat) : Prop := S p = some (7, 0) ∧ g p 3 = .ref c ∧ S c = some (12300, 8) ∧ g p 1 = .ref a ∧ S a = some (12100, 64) ∧ g p 2 = .ref m ∧ S m = some (12200, 64)
def xPa (S : xT) (g : xG) (a : Nat) (n : Int) (G M C : Int → Int) : Prop := ∃ p q c d gp gq mp mq : Nat, S a = some (12, 0) ∧ g a 10 = .ref p ∧ g a 11 = .ref q ∧ p ≠ q ∧ c ≠ d ∧ gp ≠ gq ∧ mp ≠ mq ∧ xPln S g p c gp mp ∧ xPln S g q d gq mq ∧ g p 0 = .int (iI n) ∧ 0 ≤ n ∧ n ≤ 8 ∧ (∀ k, 0 ≤ k → k < n → 0 ≤ C k ∧ C k < n) ∧ xv g gp = G ∧ xv g mp = M ∧ xv g c = C
def xpa : List (Nat × Nat) := [(12, 10), (12, 11), (7, 0), (7, 1), (7, 2), (7, 3), (12300, 0), (12100, 0), (12200, 0)]
theorem xPln_m {S S1 : xT} {g g1 : xG} {p c a m : Nat} {L : List (Nat × Nat)} (h : xPln S g p c a m) (hm : xM L S g g1) (hle : xLe S S1) (hd : ∀ x ∈ xpa, x ∉ L) : xPln S1 g1 p c a m := by
  obtain ⟨h1, h2, h3, h4, h5, h6, h7⟩ := h
  refine ⟨hle _ _ h1, ?_, hle _ _ h3, ?_, hle _ _ h5, ?_, hle _ _ h7⟩
  · rw [hm _ _ _ _ h1 (hd _ (by decide))]; exact h2
  · rw [hm _ _ _ _ h1 (hd _ (by decide))]; exact h4
  · rw [hm _ _ _ _ h1 (hd _ (by decide))]; exact h6
theorem xPa_m {S S1 : xT} {g g1 : xG} {a : Nat} {n : Int} {G M C : Int → Int} {L : List (Nat × Nat)} (h : xPa S g a n G M C) (hm : xM L S g g1) (hle : xLe S S1) (hd : ∀ x ∈ xpa, x ∉ L) : xPa S1 g1 a n G M C := by
  obtain ⟨p, q, c, d, gp, gq, mp, mq, h1, h2, h3, h4, h5, h6, h7, h8, h9, h10, h11, h12, h13, h14, h15, h16⟩ := h
  refine ⟨p, q, c, d, gp, gq, mp, mq, hle _ _ h1, ?_, ?_, h4, h5, h6, h7, xPln_m h8 hm hle hd, xPln_m h9 hm hle hd, ?_, h11, h12, h13, ?_, ?_, ?_⟩
  · rw [hm _ _ _ _ h1 (hd _ (by decide))]; exact h2
  · rw [hm _ _ _ _ h1 (hd _ (by decide))]; exact h3
  · rw [hm _ _ _ _ h8.1 (hd _ (by decide))]; exact h10
  · rw [xv_m hm h8.2.2.2.2.1 (by decide) (hd _ (by decide))]; exact h14
  · rw [xv_m hm h8.2.2.2.2.2.2 (by decide) (hd _ (by decide))]; exact h15
  · rw [xv_m hm h8.2.2.1 (by decide) (hd _ (by decide))]; exact h16
theorem xPa.pi {S : xT} {g : xG} {a : Nat} {n : Int} {G M C : Int → Int} (h : xPa S g a n G M C) : xPi S g a := by
  obtain ⟨p, q, c, d, gp, gq, mp, mq, h1, h2, h3, h4, h5, h6, h7, h8, h9, h10, h11, h12, h13, h14, h15, h16⟩ := h
  exact ⟨p, q, c, d, n, h1, h2, h3, h4, h8.1, h9.1, h8.2.1, h9.2.1, h5, h8.2.2.1, h9.2.2.1, h10, h11, h12, fun k q1 q2 => by rw [h16]; exact (h13 k q1 q2).1⟩
def xMa (S : xT) (g : xG) (a : Nat) (n : Int) (G M C : Int → Int) : Prop := ∃ (h gm mm : Nat) (n8 z8 : Int), S a = some (13, 0) ∧ g a 74 = .ref h ∧ S h = some (18300, 8) ∧ g a 72 = .ref gm ∧ S gm = some (18100, 64) ∧ g a 73 = .ref mm ∧ S mm = some (18200, 64) ∧ g a 78 = .int (iI n8) ∧ 0 ≤ n8 ∧ n8 ≤ 8 ∧ g a 79 = .int (iI z8) ∧ ((z8 = 0 ∧ n = 0) ∨ (z8 = 1 ∧ n = n8 ∧ 1 ≤ n)) ∧ (∀ k, 0 ≤ k → k < n → 0 ≤ C k ∧ C k < n) ∧ xv g gm = G ∧ xv g mm = M ∧ xv g h = C
def xma : List (Nat × Nat) := [(13, 74), (13, 72), (13, 73), (13, 78), (13, 79), (18300, 0), (18100, 0), (18200, 0)]
theorem xMa_m {S S1 : xT} {g g1 : xG} {a : Nat} {n : Int} {G M C : Int → Int} {L : List (Nat × Nat)} (h : xMa S g a n G M C) (hm : xM L S g g1) (hle : xLe S S1) (hd : ∀ x ∈ xma, x ∉ L) : xMa S1 g1 a n G M C := by
  obtain ⟨q, gm, mm, n8, z8, h1, h2, h3, h4, h5, h6, h7, h8, h9, h10, h11, h12, h13, h14, h15, h16⟩ := h
  refine ⟨q, gm, mm, n8, z8, hle _ _ h1, ?_, hle _ _ h3, ?_, hle _ _ h5, ?_, hle _ _ h7, ?_, h9, h10, ?_, h12, h13, ?_, ?_, ?_⟩
  · rw [hm _ _ _ _ h1 (hd _ (by decide))]; exact h2
  · rw [hm _ _ _ _ h1 (hd _ (by decide))]; exact h4
  · rw [hm _ _ _ _ h1 (hd _ (by decide))]; exact h6
  · rw [hm _ _ _ _ h1 (hd _ (by decide))]; exact h8
  · rw [hm _ _ _ _ h1 (hd _ (by decide))]; exact h11
  · rw [xv_m hm h5 (by decide) (hd _ (by decide))]; exact h14
  · rw [xv_m hm h7 (by decide) (hd _ (by decide))]; exact h15
  · rw [xv_m hm h3 (by decide) (hd _ (by decide))]; exact h16
theorem xMa.mp {S : xT} {g : xG} {a : Nat} {n : Int} {G M C : Int → Int} (h : xMa S g a n G M C) : xMp S g a := by
  obtain ⟨q, gm, mm, n8, z8, h1, h2, h3, h4, h5, h6, h7, h8, h9, h10, h11, h12, h13, h14, h15, h16⟩ := h
  exact ⟨q, n8, z8, h1, h2, h3, h8, h9, h10, h11, by omega, by omega, fun e k q1 q2 => by rw [h16]; exact (h13 k q1 (by omega)).1⟩
def xSa (m : Int) (f f' : Int → Int) : Prop := ∀ k, 0 ≤ k → k < m → f k = f' k
def xPv (k n w s : Int) : Prop := 1 ≤ n ∧ n ≤ 8 ∧ k = 2 * n * n ∧ (w = 0 ∨ (w = 1 ∧ 1 ≤ s ∧ s ≤ 255))
def xPs (T : Int → Int) (k n w s r m m1 : Int) (G M C G1 M1 C1 : Int → Int) : Prop :=
  (r = -1 ∧ m1 = m ∧ xSa 64 G1 G ∧ xSa 64 M1 M ∧ xSa 8 C1 C ∧ (¬ xPv k n w s ∨ (xPv k n w s ∧ w = 1 ∧ ∃ G2 M2 C2, xLr n T G2 M2 n 0 ∧ xBst n G2 M2 s (-1) C2))) ∨
  (xPv k n w s ∧ m1 = n ∧ xLr n T G1 M1 n 0 ∧ ((w = 0 ∧ xOpt n G1 M1 C1 ∧ r = xVs n G1 C1) ∨ (w = 1 ∧ r ≠ -1 ∧ xBst n G1 M1 s r C1)))
def xGq (n : Int) (G G' : Int → Int) : Prop := ∀ b c, 0 ≤ b → b < n → 0 ≤ c → c < n → G (8 * b + c) = G' (8 * b + c)
def xAl (n : Int) (G M C G' M' C' : Int → Int) : Prop := xGq n G G' ∧ xGq n M M' ∧ ∀ k, 0 ≤ k → k < n → C k = C' k
theorem xGq.sa {n : Int} {G G' H H' : Int → Int} (h : xGq n G G') (hn : n ≤ 8) (e : xSa 64 H G) (e' : xSa 64 H' G') : xGq n H H' := fun b c q1 q2 q3 q4 => by
  rw [e _ (by omega) (by omega), e' _ (by omega) (by omega)]; exact h b c q1 q2 q3 q4
theorem xLr.det {k n : Int} {T T' G M G' M' : Int → Int} (hn : 1 ≤ n ∧ n ≤ 8) (hk : k = 2 * n * n) (hT : xTc T T' k) (h : xLr n T G M n 0) (h' : xLr n T' G' M' n 0) : xGq n G G' ∧ xGq n M M' := by
  have hi : ∀ b c, 0 ≤ b → b < n → 0 ≤ c → c < n → 0 ≤ b * n + c ∧ b * n + c < k ∧ 0 ≤ n * n + (b * n + c) ∧ n * n + (b * n + c) < k := by
    intro b c q1 q2 q3 q4
    rcases (show n = 1 ∨ n = 2 ∨ n = 3 ∨ n = 4 ∨ n = 5 ∨ n = 6 ∨ n = 7 ∨ n = 8 by omega) with e | e | e | e | e | e | e | e <;> subst e <;> omega
  refine ⟨fun b c q1 q2 q3 q4 => ?_, fun b c q1 q2 q3 q4 => ?_⟩
  · obtain ⟨a1, a2, a3, a4⟩ := hi b c q1 q2 q3 q4
    rw [(h b c q1 q2 q3 q4 (Or.inl q2)).1, (h' b c q1 q2 q3 q4 (Or.inl q2)).1]; exact hT _ a1 a2
  · obtain ⟨a1, a2, a3, a4⟩ := hi b c q1 q2 q3 q4
    rw [(h b c q1 q2 q3 q4 (Or.inl q2)).2, (h' b c q1 q2 q3 q4 (Or.inl q2)).2]; exact hT _ a3 a4
theorem xVs_al {n : Int} {G G' C C' : Int → Int} (hg : xGq n G G') (hc : ∀ k, 0 ≤ k → k < n → C k = C' k) (hr : ∀ k, 0 ≤ k → k < n → 0 ≤ C k ∧ C k < n) : xVs n G C = xVs n G' C' := xsum_cg (fun i q1 q2 => by
  have r := hr i q1 (by omega)
  rw [← hc i q1 (by omega)]; exact hg i (C i) q1 (by omega) r.1 r.2)
theorem xPs.det {T T' : Int → Int} {k n w s r r' m m1 m1' : Int} {G M C G1 M1 C1 G' M' C' G1' M1' C1' : Int → Int} (hT : xTc T T' k) (hm : m ≤ 8) (ha : xAl m G M C G' M' C') (h : xPs T k n w s r m m1 G M C G1 M1 C1) (h' : xPs T' k n w s r' m m1' G' M' C' G1' M1' C1') : r = r' ∧ m1 = m1' ∧ xAl m1 G1 M1 C1 G1' M1' C1' := by
  rcases h with ⟨a1, a2, a3, a4, a5, a6⟩ | ⟨b1, b2, b3, b4⟩
  · rcases h' with ⟨c1, c2, c3, c4, c5, c6⟩ | ⟨d1, d2, d3, d4⟩
    · refine ⟨by omega, by omega, ?_⟩
      rw [a2]
      exact ⟨ha.1.sa hm a3 c3, ha.2.1.sa hm a4 c4, fun i q1 q2 => by rw [a5 i q1 (by omega), c5 i q1 (by omega)]; exact ha.2.2 i q1 q2⟩
    · exfalso
      rcases a6 with a6 | ⟨e1, e2, G2, M2, C2, e3, e4⟩
      · exact a6 d1
      · rcases d4 with ⟨f1, _⟩ | ⟨f1, f2, f3⟩
        · omega
        · obtain ⟨x1, x2⟩ := xLr.det ⟨d1.1, d1.2.1⟩ d1.2.2.1 hT e3 d3
          exact f2 (xBst.det d1.2.1 (e4.gm x1 x2) f3).1.symm
  · rcases h' with ⟨c1, c2, c3, c4, c5, c6⟩ | ⟨d1, d2, d3, d4⟩
    · exfalso
      rcases c6 with c6 | ⟨e1, e2, G2, M2, C2, e3, e4⟩
      · exact c6 b1
      · rcases b4 with ⟨f1, _⟩ | ⟨f1, f2, f3⟩
        · omega
        · obtain ⟨x1, x2⟩ := xLr.det ⟨b1.1, b1.2.1⟩ b1.2.2.1 hT b3 e3
          exact f2 (xBst.det b1.2.1 (f3.gm x1 x2) e4).1
    · obtain ⟨x1, x2⟩ := xLr.det ⟨b1.1, b1.2.1⟩ b1.2.2.1 hT b3 d3
      rcases b4 with ⟨f1, f2, f3⟩ | ⟨f1, f2, f3⟩
      · rcases d4 with ⟨g1, g2, g3⟩ | ⟨g1, g2, g3⟩
        · have e := xOpt.eq (f2.cg b1.2.1 x1 x2) g2
          refine ⟨?_, by omega, ?_⟩
          · rw [f3, g3]; exact xVs_al x1 e f2.1.1
          · rw [b2]; exact ⟨x1, x2, e⟩
        · omega
      · rcases d4 with ⟨g1, g2, g3⟩ | ⟨g1, g2, g3⟩
        · omega
        · have e := xBst.det b1.2.1 (f3.gm x1 x2) g3
          refine ⟨e.1, by omega, ?_⟩
          rw [b2]; exact ⟨x1, x2, e.2 f2⟩
def xPe (n s r : Int) (G M C : Int → Int) : Prop := (r = -1 ∧ (n = 0 ∨ ¬ (1 ≤ s ∧ s ≤ 255))) ∨ (1 ≤ n ∧ 1 ≤ s ∧ s ≤ 255 ∧ 0 ≤ r ∧ r ≤ 1 ∧ (r = 1 ↔ xPq n G M s C n))
theorem xPq.al {n s : Int} {G M C G' M' C' : Int → Int} (ha : xAl n G M C G' M' C') (hr : ∀ k, 0 ≤ k → k < n → 0 ≤ C k ∧ C k < n) (h : xPq n G M s C n) : xPq n G' M' s C' n := fun b x q1 q2 q3 q4 q5 => by
  have w := h b x q1 q2 q3 q4 q5
  have r := hr b q1 q2
  have t := hr x q3 q4
  unfold xFt at w ⊢
  rw [← ha.2.2 b q1 q2, ← ha.2.2 x q3 q4, ← ha.1 b (C x) q1 q2 t.1 t.2, ← ha.1 b (C b) q1 q2 r.1 r.2, ← ha.2.1 x (C x) q3 q4 t.1 t.2, ← ha.2.1 b (C x) q1 q2 t.1 t.2]
  exact w
theorem xAl.sy {n : Int} {G M C G' M' C' : Int → Int} (h : xAl n G M C G' M' C') : xAl n G' M' C' G M C := ⟨fun b c q1 q2 q3 q4 => (h.1 b c q1 q2 q3 q4).symm, fun b c q1 q2 q3 q4 => (h.2.1 b c q1 q2 q3 q4).symm, fun k q1 q2 => (h.2.2 k q1 q2).symm⟩
theorem xPe.det {n s r r' : Int} {G M C G' M' C' : Int → Int} (ha : xAl n G M C G' M' C') (hr : ∀ k, 0 ≤ k → k < n → 0 ≤ C k ∧ C k < n) (h : xPe n s r G M C) (h' : xPe n s r' G' M' C') : r = r' := by
  rcases h with h | ⟨a1, a2, a3, a4, a5, a6⟩ <;> rcases h' with h' | ⟨b1, b2, b3, b4, b5, b6⟩
  · omega
  · omega
  · omega
  · have hr' : ∀ k, 0 ≤ k → k < n → 0 ≤ C' k ∧ C' k < n := fun k q1 q2 => by rw [← ha.2.2 k q1 q2]; exact hr k q1 q2
    have e : r = 1 ↔ r' = 1 := ⟨fun q => b6.mpr ((a6.mp q).al ha hr), fun q => a6.mpr ((b6.mp q).al ha.sy hr')⟩
    omega
theorem xPt.det {n k r r' : Int} {G M C G' M' C' : Int → Int} (ha : xAl n G M C G' M' C') (h : r = if 0 ≤ k ∧ k < n then C k else -1) (h' : r' = if 0 ≤ k ∧ k < n then C' k else -1) : r = r' := by
  rw [h, h']
  by_cases q : 0 ≤ k ∧ k < n
  · rw [if_pos q, if_pos q]; exact ha.2.2 k q.1 q.2
  · rw [if_neg q, if_neg q]
theorem xPa.r {S : xT} {g : xG} {a : Nat} {n : Int} {G M C : Int → Int} (h : xPa S g a n G M C) : 0 ≤ n ∧ n ≤ 8 ∧ ∀ k, 0 ≤ k → k < n → 0 ≤ C k ∧ C k < n := by
  obtain ⟨p, q, c, d, gp, gq, mp, mq, h1, h2, h3, h4, h5, h6, h7, h8, h9, h10, h11, h12, h13, h14, h15, h16⟩ := h
  exact ⟨h11, h12, h13⟩
theorem xBst.rg {n : Int} {G M : Int → Int} {s v : Int} {c : Int → Int} (h : xBst n G M s v c) (hv : v ≠ -1) : (∀ k, 0 ≤ k → k < n → 0 ≤ c k ∧ c k < n) ∧ xVs n G c = v := by
  rcases h with h | h
  · exact absurd h.1 hv
  · exact ⟨h.2.1.1, h.2.2.1⟩
def xPw (S : xT) (g : xG) (a m : Nat) : Prop := ∃ (n : Int) (G M C G' M' C' : Int → Int), xPa S g a n G M C ∧ xMa S g m n G' M' C' ∧ xAl n G M C G' M' C'
theorem xPw_m {S S1 : xT} {g g1 : xG} {a m : Nat} {L : List (Nat × Nat)} (h : xPw S g a m) (hm : xM L S g g1) (hle : xLe S S1) (hd : ∀ x ∈ xpa ++ xma, x ∉ L) : xPw S1 g1 a m := by
  obtain ⟨n, G, M, C, G', M', C', h1, h2, h3⟩ := h
  exact ⟨n, G, M, C, G', M', C', xPa_m h1 hm hle (fun x q => hd x (List.mem_append.mpr (Or.inl q))), xMa_m h2 hm hle (fun x q => hd x (List.mem_append.mpr (Or.inr q))), h3⟩
set_option maxHeartbeats 4000000 in
set_option maxRecDepth 100000 in
theorem c3_parted (l : Launch) (D : va_G) (kA : Nat → ClassId) (b0 : Nat) (t0 : Nat → Nat) (S : xT) (g : xG) (a0 : Nat) (x1 : Int) (x2 : Int) (x3 : Int) (w0 : Nat) (n0 : Int) (y0 : Nat) (n8 : Int) (G8 : Int → Int) (M8 : Int → Int) (C8 : Int → Int) (hs_a0 : S a0 = some (12, 0)) (hx1 : (-2147483648) ≤ x1 ∧ x1 ≤ 2147483647) (hx2 : (-2147483648) ≤ x2 ∧ x2 ≤ 2147483647) (hx3 : (-2147483648) ≤ x3 ∧ x3 ≤ 2147483647) (ew0 : g a0 0 = .ref w0) (hs_w0 : S w0 = some (10, 0)) (hn0 : 0 ≤ n0 ∧ n0 ≤ 420) (en0 : g w0 1 = .int (iI n0)) (ey0 : g w0 0 = .ref y0) (hs_y0 : S y0 = some (13500, 420)) (hp0 : xPa S g a0 n8 G8 M8 C8) : xMt l yX11_parted cX11_parted 6 (some .int) 10 0 0 264 D kA b0 t0 [(10, 1), (7, 0), (12100, 0), (12200, 0), (12802, 0), (12600, 0), (7, 9), (12500, 0), (12300, 0), (12, 10), (12, 11), (12400, 0), (12701, 0)] [.ref a0, .int (iI x1), .int (iI x2), .int (iI x3)] S g (fun (r : Option Value) (S1 : xT) (g1 : xG) => S = S1 ∧ ∃ z : Int, r = some (.int (iI z)) ∧ (-2147483648) ≤ z ∧ z ≤ 2147483647 ∧ (g1 w0 1 = .int (iI (0))) ∧ (∃ (n1 : Int) (G1 M1 C1 : Int → Int), xPa S g1 a0 n1 G1 M1 C1 ∧ xPs (xv g y0) n0 x1 x2 x3 z n8 n1 G8 M8 C8 G1 M1 C1)) := by
  refine xEnterI (by decide) (by simp [lg_sl, Value.category]) [(0, .ref a0), (1, .int (iI x1)), (2, .int (iI x2)), (3, .int (iI x3))] rfl ?_
  intro K E hK hret _ _ _
  refine X_iconst hK kd47_0.1 ?_
  obtain ⟨p8, q8, c8, d8, gp8, gq8, mp8, mq8, hpa1, hpa2, hpa3, npq, ncd, ngg, nmm, ⟨hs_p8, ep3, hs_c8, ep1, hs_gp8, ep2, hs_mp8⟩, ⟨hs_q8, eq3, hs_d8, eq1, hs_gq8, eq2, hs_mq8⟩, hpn, hn1, hn2, hrg, hG8, hM8, hC8⟩ := hp0
  refine X_istore hK (i := 4) [(4, .int (iI (-1))), (0, .ref a0), (1, .int (iI x1)), (2, .int (iI x2)), (3, .int (iI x3))] kd47_0.2.1 (by decide) rfl ?_
  refine X_iloadn hK (i := 1) 2 kd47_0.2.2.1 rfl rfl ?_
  refine X_iconst hK kd47_0.2.2.2.1 ?_
  refine X_bipush hK kd47_0.2.2.2.2.1 (by decide) ?_
  refine X_callS hK [.int (iI x1), .int (iI 1), .int (iI 8)] [] lk_X11_115 (c_X11_within _ _ _ _ _ S g x1 1 8 (by omega) (by omega) (by omega)) kd47_0.2.2.2.2.2.1 rfl rfl (by simp [Value.category]) (by decide) (by decide) (by decide) (by decide) (fun r1 S3 g2 pr1 qr1 hg2 => ?_)
  obtain ⟨rfl, rfl, z4, rfl, lz4, uz4, k5⟩ := pr1
  refine X_st [.int (iI z4)] rfl ?_
  refine X_if_eq hK 78 (by omega) kd47_0.2.2.2.2.2.2.1 (by decide) (fun c6 => ?_) (fun c6 => ?_)
  · refine X_iload hK (i := 4) 0 kd47_3.2.2.2.2.1 rfl ?_
    refine X_iconst hK kd47_3.2.2.2.2.2.1 ?_
    refine X_icmp_eq hK 104 (by omega) (by omega) kd47_3.2.2.2.2.2.2.1 (by decide) (fun c7 => ?_) (fun c7 => False.elim (by omega))
    refine X_aloadn hK (i := 0) 1 kd47_4.2.2.2.2.2.1 rfl rfl ?_
    refine X_getK hK fl_X11_10_12 hs_a0 ew0 kd47_4.2.2.2.2.2.2.1 ?_
    refine X_iconst hK kd47_4.2.2.2.2.2.2.2.1 ?_
    refine X_puti hK fl_X11_102_10 hs_w0 (by decide) sl_10_1 (by omega) (by omega) kd47_4.2.2.2.2.2.2.2.2.1 (fun g8 hg8 => ?_)
    refine X_iload hK (i := 4) 0 kd47_4.2.2.2.2.2.2.2.2.2.1 rfl ?_
    exact hret _ _ _ _ _ _ _ kd47_4.2.2.2.2.2.2.2.2.2.2.1 ⟨rfl, (-1), rfl, (by omega), (by omega), ((xs_s hg8).trans (by congr 2 <;> omega)), ⟨n8, xv g8 gp8, xv g8 mp8, xv g8 c8, ⟨p8, q8, c8, d8, gp8, gq8, mp8, mq8, hs_a0, ((xs_k hg8 (by decide)).trans hpa2), ((xs_k hg8 (by decide)).trans hpa3), npq, ncd, ngg, nmm, ⟨hs_p8, ((xs_k hg8 (by decide)).trans ep3), hs_c8, ((xs_a hg8 (xne hs_p8 hs_w0 (by decide))).trans ep1), hs_gp8, ((xs_k hg8 (by decide)).trans ep2), hs_mp8⟩, ⟨hs_q8, ((xs_k hg8 (by decide)).trans eq3), hs_d8, ((xs_a hg8 (xne hs_q8 hs_w0 (by decide))).trans eq1), hs_gq8, ((xs_k hg8 (by decide)).trans eq2), hs_mq8⟩, ((xs_k hg8 (by decide)).trans hpn), by omega, by omega, (fun k q1 q2 => by rw [(xv_a hg8 (xne hs_c8 hs_w0 (by decide))), hC8]; exact hrg k q1 q2), rfl, rfl, rfl⟩, (Or.inl ⟨by omega, rfl, (fun k9 _ _ => congrFun ((xv_a hg8 (xne hs_gp8 hs_w0 (by decide))).trans hG8) k9), (fun k9 _ _ => congrFun ((xv_a hg8 (xne hs_mp8 hs_w0 (by decide))).trans hM8) k9), (fun k9 _ _ => congrFun ((xv_a hg8 (xne hs_c8 hs_w0 (by decide))).trans hC8) k9), (Or.inl (fun h9 => by unfold xPv at h9; omega))⟩)⟩⟩ (Nat.le_refl _) (Nat.le_refl _)
  · refine X_aloadn hK (i := 0) 1 kd47_0.2.2.2.2.2.2.2.1 rfl rfl ?_
    refine X_getK hK fl_X11_10_12 hs_a0 ew0 kd47_0.2.2.2.2.2.2.2.2.1 ?_
    refine X_getK hK fl_X11_102_10 hs_w0 en0 kd47_0.2.2.2.2.2.2.2.2.2.1 ?_
    refine X_iconst hK kd47_0.2.2.2.2.2.2.2.2.2.2.1 ?_
    refine X_iloadn hK (i := 1) 2 kd47_0.2.2.2.2.2.2.2.2.2.2.2 rfl rfl ?_
    refine X_imul hK kd47_1.1 ?_
    refine X_iloadn hK (i := 1) 2 kd47_1.2.1 rfl rfl ?_
    refine X_imul hK kd47_1.2.2.1 ?_
    have hm9 := xmulB (a := (2 * x1)) (b := x1) (A := 16) (B := 8) (by omega) (by omega) (by omega) (by omega)
    refine X_icmp_ne hK 78 (by omega) (by omega) kd47_1.2.2.2.1 (by decide) (fun c10 => ?_) (fun c10 => ?_)
    · refine X_iload hK (i := 4) 0 kd47_3.2.2.2.2.1 rfl ?_
      refine X_iconst hK kd47_3.2.2.2.2.2.1 ?_
      refine X_icmp_eq hK 104 (by omega) (by omega) kd47_3.2.2.2.2.2.2.1 (by decide) (fun c11 => ?_) (fun c11 => False.elim (by omega))
      refine X_aloadn hK (i := 0) 1 kd47_4.2.2.2.2.2.1 rfl rfl ?_
      refine X_getK hK fl_X11_10_12 hs_a0 ew0 kd47_4.2.2.2.2.2.2.1 ?_
      refine X_iconst hK kd47_4.2.2.2.2.2.2.2.1 ?_
      refine X_puti hK fl_X11_102_10 hs_w0 (by decide) sl_10_1 (by omega) (by omega) kd47_4.2.2.2.2.2.2.2.2.1 (fun g12 hg12 => ?_)
      refine X_iload hK (i := 4) 0 kd47_4.2.2.2.2.2.2.2.2.2.1 rfl ?_
      exact hret _ _ _ _ _ _ _ kd47_4.2.2.2.2.2.2.2.2.2.2.1 ⟨rfl, (-1), rfl, (by omega), (by omega), ((xs_s hg12).trans (by congr 2 <;> omega)), ⟨n8, xv g12 gp8, xv g12 mp8, xv g12 c8, ⟨p8, q8, c8, d8, gp8, gq8, mp8, mq8, hs_a0, ((xs_k hg12 (by decide)).trans hpa2), ((xs_k hg12 (by decide)).trans hpa3), npq, ncd, ngg, nmm, ⟨hs_p8, ((xs_k hg12 (by decide)).trans ep3), hs_c8, ((xs_a hg12 (xne hs_p8 hs_w0 (by decide))).trans ep1), hs_gp8, ((xs_k hg12 (by decide)).trans ep2), hs_mp8⟩, ⟨hs_q8, ((xs_k hg12 (by decide)).trans eq3), hs_d8, ((xs_a hg12 (xne hs_q8 hs_w0 (by decide))).trans eq1), hs_gq8, ((xs_k hg12 (by decide)).trans eq2), hs_mq8⟩, ((xs_k hg12 (by decide)).trans hpn), by omega, by omega, (fun k q1 q2 => by rw [(xv_a hg12 (xne hs_c8 hs_w0 (by decide))), hC8]; exact hrg k q1 q2), rfl, rfl, rfl⟩, (Or.inl ⟨by omega, rfl, (fun k9 _ _ => congrFun ((xv_a hg12 (xne hs_gp8 hs_w0 (by decide))).trans hG8) k9), (fun k9 _ _ => congrFun ((xv_a hg12 (xne hs_mp8 hs_w0 (by decide))).trans hM8) k9), (fun k9 _ _ => congrFun ((xv_a hg12 (xne hs_c8 hs_w0 (by decide))).trans hC8) k9), (Or.inl (fun h9 => by unfold xPv at h9; omega))⟩)⟩⟩ (Nat.le_refl _) (Nat.le_refl _)
    · refine X_aloadn hK (i := 0) 1 kd47_1.2.2.2.2.1 rfl rfl ?_
      refine X_getK hK fl_X11_80_12 hs_a0 hpa3 kd47_1.2.2.2.2.2.1 ?_
      refine X_iloadn hK (i := 1) 2 kd47_1.2.2.2.2.2.2.1 rfl rfl ?_
      refine X_aloadn hK (i := 0) 1 kd47_1.2.2.2.2.2.2.2.1 rfl rfl ?_
      refine X_getK hK fl_X11_10_12 hs_a0 ew0 kd47_1.2.2.2.2.2.2.2.2.1 ?_
      refine X_callV hK [.int (iI x1), .ref w0] [] lk_X11_318 (c3_learn _ _ _ _ _ S g q8 x1 w0 gq8 mq8 y0 hs_q8 (by omega) hs_w0 eq1 hs_gq8 eq2 hs_mq8 ey0 hs_y0) hs_q8 ⟨by decide, rfl⟩ kd47_1.2.2.2.2.2.2.2.2.2.1 rfl rfl (by simp [Value.category]) (by decide) (by decide) (by decide) (by decide) (fun r13 S15 g14 pr13 qr13 hg14 => ?_)
      obtain ⟨rfl, rfl, k16, k17, k18, k19, k20⟩ := pr13
      refine X_st [] rfl ?_
      have eL21 : g14 p8 0 = .int (iI n8) := (k20 p8 0 0 hs_p8 npq).trans hpn
      refine X_iloadn hK (i := 2) 3 kd47_1.2.2.2.2.2.2.2.2.2.2.1 rfl rfl ?_
      refine X_if_ne hK 56 (by omega) kd47_1.2.2.2.2.2.2.2.2.2.2.2 (by decide) (fun c22 => ?_) (fun c22 => ?_)
      · refine X_iloadn hK (i := 2) 3 kd47_2.2.2.2.2.2.1 rfl rfl ?_
        refine X_iconst hK kd47_2.2.2.2.2.2.2.1 ?_
        refine X_icmp_ne hK 78 (by omega) (by omega) kd47_2.2.2.2.2.2.2.2.1 (by decide) (fun c23 => ?_) (fun c23 => ?_)
        · refine X_iload hK (i := 4) 0 kd47_3.2.2.2.2.1 rfl ?_
          refine X_iconst hK kd47_3.2.2.2.2.2.1 ?_
          refine X_icmp_eq hK 104 (by omega) (by omega) kd47_3.2.2.2.2.2.2.1 (by decide) (fun c24 => ?_) (fun c24 => False.elim (by omega))
          refine X_aloadn hK (i := 0) 1 kd47_4.2.2.2.2.2.1 rfl rfl ?_
          refine X_getK hK fl_X11_10_12 hs_a0 ((hg14 a0 12 0 0 hs_a0 (by decide)).trans ew0) kd47_4.2.2.2.2.2.2.1 ?_
          refine X_iconst hK kd47_4.2.2.2.2.2.2.2.1 ?_
          refine X_puti hK fl_X11_102_10 hs_w0 (by decide) sl_10_1 (by omega) (by omega) kd47_4.2.2.2.2.2.2.2.2.1 (fun g25 hg25 => ?_)
          refine X_iload hK (i := 4) 0 kd47_4.2.2.2.2.2.2.2.2.2.1 rfl ?_
          exact hret _ _ _ _ _ _ _ kd47_4.2.2.2.2.2.2.2.2.2.2.1 ⟨rfl, (-1), rfl, (by omega), (by omega), ((xs_s hg25).trans (by congr 2 <;> omega)), ⟨n8, xv g25 gp8, xv g25 mp8, xv g25 c8, ⟨p8, q8, c8, d8, gp8, gq8, mp8, mq8, hs_a0, ((xs_k hg25 (by decide)).trans ((hg14 a0 12 0 10 hs_a0 (by decide)).trans hpa2)), ((xs_k hg25 (by decide)).trans ((hg14 a0 12 0 11 hs_a0 (by decide)).trans hpa3)), npq, ncd, ngg, nmm, ⟨hs_p8, ((xs_k hg25 (by decide)).trans ((hg14 p8 7 0 3 hs_p8 (by decide)).trans ep3)), hs_c8, ((xs_a hg25 (xne hs_p8 hs_w0 (by decide))).trans ((hg14 p8 7 0 1 hs_p8 (by decide)).trans ep1)), hs_gp8, ((xs_k hg25 (by decide)).trans ((hg14 p8 7 0 2 hs_p8 (by decide)).trans ep2)), hs_mp8⟩, ⟨hs_q8, ((xs_k hg25 (by decide)).trans ((hg14 q8 7 0 3 hs_q8 (by decide)).trans eq3)), hs_d8, ((xs_a hg25 (xne hs_q8 hs_w0 (by decide))).trans ((hg14 q8 7 0 1 hs_q8 (by decide)).trans eq1)), hs_gq8, ((xs_k hg25 (by decide)).trans ((hg14 q8 7 0 2 hs_q8 (by decide)).trans eq2)), hs_mq8⟩, ((xs_k hg25 (by decide)).trans eL21), by omega, by omega, (fun k q1 q2 => by rw [(Eq.trans (xv_a hg25 (xne hs_c8 hs_w0 (by decide))) (xv_m hg14 hs_c8 (by decide) (by decide))), hC8]; exact hrg k q1 q2), rfl, rfl, rfl⟩, (Or.inl ⟨by omega, rfl, (fun k9 _ _ => congrFun ((Eq.trans (xv_a hg25 (xne hs_gp8 hs_w0 (by decide))) (xFr.v k18 hs_gp8 ngg)).trans hG8) k9), (fun k9 _ _ => congrFun ((Eq.trans (xv_a hg25 (xne hs_mp8 hs_w0 (by decide))) (xFr.v k19 hs_mp8 nmm)).trans hM8) k9), (fun k9 _ _ => congrFun ((Eq.trans (xv_a hg25 (xne hs_c8 hs_w0 (by decide))) (xv_m hg14 hs_c8 (by decide) (by decide))).trans hC8) k9), (Or.inl (fun h9 => by unfold xPv at h9; omega))⟩)⟩⟩ (Nat.le_refl _) (Nat.le_refl _)
        · refine X_iloadn hK (i := 3) 4 kd47_2.2.2.2.2.2.2.2.2.1 rfl rfl ?_
          refine X_callS hK [.int (iI x3)] [] lk_X11_324 (c_X11_isSum _ _ _ _ _ S g14 x3 (by omega)) kd47_2.2.2.2.2.2.2.2.2.2.1 rfl rfl (by simp [Value.category]) (by decide) (by decide) (by decide) (by decide) (fun r26 S28 g27 pr26 qr26 hg27 => ?_)
          obtain ⟨rfl, rfl, z29, rfl, lz29, uz29, k30⟩ := pr26
          refine X_st [.int (iI z29)] rfl ?_
          refine X_if_eq hK 78 (by omega) kd47_2.2.2.2.2.2.2.2.2.2.2.1 (by decide) (fun c31 => ?_) (fun c31 => ?_)
          · refine X_iload hK (i := 4) 0 kd47_3.2.2.2.2.1 rfl ?_
            refine X_iconst hK kd47_3.2.2.2.2.2.1 ?_
            refine X_icmp_eq hK 104 (by omega) (by omega) kd47_3.2.2.2.2.2.2.1 (by decide) (fun c32 => ?_) (fun c32 => False.elim (by omega))
            refine X_aloadn hK (i := 0) 1 kd47_4.2.2.2.2.2.1 rfl rfl ?_
            refine X_getK hK fl_X11_10_12 hs_a0 ((hg14 a0 12 0 0 hs_a0 (by decide)).trans ew0) kd47_4.2.2.2.2.2.2.1 ?_
            refine X_iconst hK kd47_4.2.2.2.2.2.2.2.1 ?_
            refine X_puti hK fl_X11_102_10 hs_w0 (by decide) sl_10_1 (by omega) (by omega) kd47_4.2.2.2.2.2.2.2.2.1 (fun g33 hg33 => ?_)
            refine X_iload hK (i := 4) 0 kd47_4.2.2.2.2.2.2.2.2.2.1 rfl ?_
            exact hret _ _ _ _ _ _ _ kd47_4.2.2.2.2.2.2.2.2.2.2.1 ⟨rfl, (-1), rfl, (by omega), (by omega), ((xs_s hg33).trans (by congr 2 <;> omega)), ⟨n8, xv g33 gp8, xv g33 mp8, xv g33 c8, ⟨p8, q8, c8, d8, gp8, gq8, mp8, mq8, hs_a0, ((xs_k hg33 (by decide)).trans ((hg14 a0 12 0 10 hs_a0 (by decide)).trans hpa2)), ((xs_k hg33 (by decide)).trans ((hg14 a0 12 0 11 hs_a0 (by decide)).trans hpa3)), npq, ncd, ngg, nmm, ⟨hs_p8, ((xs_k hg33 (by decide)).trans ((hg14 p8 7 0 3 hs_p8 (by decide)).trans ep3)), hs_c8, ((xs_a hg33 (xne hs_p8 hs_w0 (by decide))).trans ((hg14 p8 7 0 1 hs_p8 (by decide)).trans ep1)), hs_gp8, ((xs_k hg33 (by decide)).trans ((hg14 p8 7 0 2 hs_p8 (by decide)).trans ep2)), hs_mp8⟩, ⟨hs_q8, ((xs_k hg33 (by decide)).trans ((hg14 q8 7 0 3 hs_q8 (by decide)).trans eq3)), hs_d8, ((xs_a hg33 (xne hs_q8 hs_w0 (by decide))).trans ((hg14 q8 7 0 1 hs_q8 (by decide)).trans eq1)), hs_gq8, ((xs_k hg33 (by decide)).trans ((hg14 q8 7 0 2 hs_q8 (by decide)).trans eq2)), hs_mq8⟩, ((xs_k hg33 (by decide)).trans eL21), by omega, by omega, (fun k q1 q2 => by rw [(Eq.trans (xv_a hg33 (xne hs_c8 hs_w0 (by decide))) (xv_m hg14 hs_c8 (by decide) (by decide))), hC8]; exact hrg k q1 q2), rfl, rfl, rfl⟩, (Or.inl ⟨by omega, rfl, (fun k9 _ _ => congrFun ((Eq.trans (xv_a hg33 (xne hs_gp8 hs_w0 (by decide))) (xFr.v k18 hs_gp8 ngg)).trans hG8) k9), (fun k9 _ _ => congrFun ((Eq.trans (xv_a hg33 (xne hs_mp8 hs_w0 (by decide))) (xFr.v k19 hs_mp8 nmm)).trans hM8) k9), (fun k9 _ _ => congrFun ((Eq.trans (xv_a hg33 (xne hs_c8 hs_w0 (by decide))) (xv_m hg14 hs_c8 (by decide) (by decide))).trans hC8) k9), (Or.inl (fun h9 => by unfold xPv at h9; omega))⟩)⟩⟩ (Nat.le_refl _) (Nat.le_refl _)
          · refine X_aloadn hK (i := 0) 1 kd47_2.2.2.2.2.2.2.2.2.2.2.2 rfl rfl ?_
            refine X_getK hK fl_X11_80_12 hs_a0 ((hg14 a0 12 0 11 hs_a0 (by decide)).trans hpa3) kd47_3.1 ?_
            refine X_iloadn hK (i := 3) 4 kd47_3.2.1 rfl rfl ?_
            refine X_knowr 12500 8 hs_q8 (by decide) sl_7_5 (fun b34 eb34 hs_b34 => ?_)
            refine X_knowr 12600 256 hs_q8 (by decide) sl_7_6 (fun b35 eb35 hs_b35 => ?_)
            refine X_knowr 12802 64 hs_q8 (by decide) sl_7_8 (fun b36 eb36 hs_b36 => ?_)
            refine X_callV hK [.int (iI x3)] [] lk_X11_327 (c3_partBest _ _ _ _ _ S g14 q8 x3 x1 d8 gq8 mq8 b34 b35 b36 hs_q8 (by omega) (by omega) k16 ((hg14 q8 7 0 3 hs_q8 (by decide)).trans eq3) hs_d8 ((hg14 q8 7 0 1 hs_q8 (by decide)).trans eq1) hs_gq8 ((hg14 q8 7 0 2 hs_q8 (by decide)).trans eq2) hs_mq8 eb34 hs_b34 eb35 hs_b35 eb36 hs_b36) hs_q8 ⟨by decide, rfl⟩ kd47_3.2.2.1 rfl rfl (by simp [Value.category]) (by decide) (by decide) (by decide) (by decide) (fun r37 S39 g38 pr37 qr37 hg38 => ?_)
            obtain ⟨rfl, z40, rfl, lz40, uz40, k41, k42, k43⟩ := pr37
            refine X_st [.int (iI z40)] rfl ?_
            refine X_istore hK (i := 4) [(4, .int (iI z40)), (0, .ref a0), (1, .int (iI x1)), (2, .int (iI x2)), (3, .int (iI x3))] kd47_3.2.2.2.1 (by decide) rfl ?_
            refine X_iload hK (i := 4) 0 kd47_3.2.2.2.2.1 rfl ?_
            refine X_iconst hK kd47_3.2.2.2.2.2.1 ?_
            refine X_icmp_eq hK 104 (by omega) (by omega) kd47_3.2.2.2.2.2.2.1 (by decide) (fun c44 => ?_) (fun c44 => ?_)
            · refine X_aloadn hK (i := 0) 1 kd47_4.2.2.2.2.2.1 rfl rfl ?_
              refine X_getK hK fl_X11_10_12 hs_a0 ((hg38 a0 12 0 0 hs_a0 (by decide)).trans ((hg14 a0 12 0 0 hs_a0 (by decide)).trans ew0)) kd47_4.2.2.2.2.2.2.1 ?_
              refine X_iconst hK kd47_4.2.2.2.2.2.2.2.1 ?_
              refine X_puti hK fl_X11_102_10 hs_w0 (by decide) sl_10_1 (by omega) (by omega) kd47_4.2.2.2.2.2.2.2.2.1 (fun g45 hg45 => ?_)
              refine X_iload hK (i := 4) 0 kd47_4.2.2.2.2.2.2.2.2.2.1 rfl ?_
              exact hret _ _ _ _ _ _ _ kd47_4.2.2.2.2.2.2.2.2.2.2.1 ⟨rfl, z40, rfl, (by omega), (by omega), ((xs_s hg45).trans (by congr 2 <;> omega)), ⟨n8, xv g45 gp8, xv g45 mp8, xv g45 c8, ⟨p8, q8, c8, d8, gp8, gq8, mp8, mq8, hs_a0, ((xs_k hg45 (by decide)).trans ((hg38 a0 12 0 10 hs_a0 (by decide)).trans ((hg14 a0 12 0 10 hs_a0 (by decide)).trans hpa2))), ((xs_k hg45 (by decide)).trans ((hg38 a0 12 0 11 hs_a0 (by decide)).trans ((hg14 a0 12 0 11 hs_a0 (by decide)).trans hpa3))), npq, ncd, ngg, nmm, ⟨hs_p8, ((xs_k hg45 (by decide)).trans ((hg38 p8 7 0 3 hs_p8 (by decide)).trans ((hg14 p8 7 0 3 hs_p8 (by decide)).trans ep3))), hs_c8, ((xs_a hg45 (xne hs_p8 hs_w0 (by decide))).trans ((hg38 p8 7 0 1 hs_p8 (by decide)).trans ((hg14 p8 7 0 1 hs_p8 (by decide)).trans ep1))), hs_gp8, ((xs_k hg45 (by decide)).trans ((hg38 p8 7 0 2 hs_p8 (by decide)).trans ((hg14 p8 7 0 2 hs_p8 (by decide)).trans ep2))), hs_mp8⟩, ⟨hs_q8, ((xs_k hg45 (by decide)).trans ((hg38 q8 7 0 3 hs_q8 (by decide)).trans ((hg14 q8 7 0 3 hs_q8 (by decide)).trans eq3))), hs_d8, ((xs_a hg45 (xne hs_q8 hs_w0 (by decide))).trans ((hg38 q8 7 0 1 hs_q8 (by decide)).trans ((hg14 q8 7 0 1 hs_q8 (by decide)).trans eq1))), hs_gq8, ((xs_k hg45 (by decide)).trans ((hg38 q8 7 0 2 hs_q8 (by decide)).trans ((hg14 q8 7 0 2 hs_q8 (by decide)).trans eq2))), hs_mq8⟩, ((xs_k hg45 (by decide)).trans ((hg38 p8 7 0 0 hs_p8 (by decide)).trans eL21)), by omega, by omega, (fun k q1 q2 => by rw [(Eq.trans (Eq.trans (xv_a hg45 (xne hs_c8 hs_w0 (by decide))) (xFr.v k43 hs_c8 ncd)) (xv_m hg14 hs_c8 (by decide) (by decide))), hC8]; exact hrg k q1 q2), rfl, rfl, rfl⟩, (Or.inl ⟨by omega, rfl, (fun k9 _ _ => congrFun ((Eq.trans (Eq.trans (xv_a hg45 (xne hs_gp8 hs_w0 (by decide))) (xv_m hg38 hs_gp8 (by decide) (by decide))) (xFr.v k18 hs_gp8 ngg)).trans hG8) k9), (fun k9 _ _ => congrFun ((Eq.trans (Eq.trans (xv_a hg45 (xne hs_mp8 hs_w0 (by decide))) (xv_m hg38 hs_mp8 (by decide) (by decide))) (xFr.v k19 hs_mp8 nmm)).trans hM8) k9), (fun k9 _ _ => congrFun ((Eq.trans (Eq.trans (xv_a hg45 (xne hs_c8 hs_w0 (by decide))) (xFr.v k43 hs_c8 ncd)) (xv_m hg14 hs_c8 (by decide) (by decide))).trans hC8) k9), (Or.inr ⟨(by unfold xPv; omega), by omega, _, _, _, k17, (by have h9 := k41; rw [show z40 = -1 by omega] at h9; exact h9)⟩)⟩)⟩⟩ (Nat.le_refl _) (Nat.le_refl _)
            · refine X_aloadn hK (i := 0) 1 kd47_3.2.2.2.2.2.2.2.1 rfl rfl ?_
              refine X_getK hK fl_X11_76_12 hs_a0 ((hg38 a0 12 0 10 hs_a0 (by decide)).trans ((hg14 a0 12 0 10 hs_a0 (by decide)).trans hpa2)) kd47_3.2.2.2.2.2.2.2.2.1 ?_
              refine X_astore hK (i := 5) [(5, .ref p8), (4, .int (iI z40)), (0, .ref a0), (1, .int (iI x1)), (2, .int (iI x2)), (3, .int (iI x3))] kd47_3.2.2.2.2.2.2.2.2.2.1 (by decide) rfl ?_
              refine X_aloadn hK (i := 0) 2 kd47_3.2.2.2.2.2.2.2.2.2.2.1 rfl rfl ?_
              refine X_aloadn hK (i := 0) 2 kd47_3.2.2.2.2.2.2.2.2.2.2.2 rfl rfl ?_
              refine X_getK hK fl_X11_80_12 hs_a0 ((hg38 a0 12 0 11 hs_a0 (by decide)).trans ((hg14 a0 12 0 11 hs_a0 (by decide)).trans hpa3)) kd47_4.1 ?_
              refine X_putr hK 7 0 fl_X11_76_12 hs_a0 (by decide) sl_12_10 hs_q8 kd47_4.2.1 (fun g46 hg46 => ?_)
              refine X_aloadn hK (i := 0) 2 kd47_4.2.2.1 rfl rfl ?_
              refine X_aload hK (i := 5) 0 kd47_4.2.2.2.1 rfl ?_
              refine X_putr hK 7 0 fl_X11_80_12 hs_a0 (by decide) sl_12_11 hs_p8 kd47_4.2.2.2.2.1 (fun g47 hg47 => ?_)
              refine X_aloadn hK (i := 0) 2 kd47_4.2.2.2.2.2.1 rfl rfl ?_
              refine X_getK hK fl_X11_10_12 hs_a0 ((xs_k hg47 (by decide)).trans ((xs_k hg46 (by decide)).trans ((hg38 a0 12 0 0 hs_a0 (by decide)).trans ((hg14 a0 12 0 0 hs_a0 (by decide)).trans ew0)))) kd47_4.2.2.2.2.2.2.1 ?_
              refine X_iconst hK kd47_4.2.2.2.2.2.2.2.1 ?_
              refine X_puti hK fl_X11_102_10 hs_w0 (by decide) sl_10_1 (by omega) (by omega) kd47_4.2.2.2.2.2.2.2.2.1 (fun g48 hg48 => ?_)
              refine X_iload hK (i := 4) 1 kd47_4.2.2.2.2.2.2.2.2.2.1 rfl ?_
              exact hret _ _ _ _ _ _ _ kd47_4.2.2.2.2.2.2.2.2.2.2.1 ⟨rfl, z40, rfl, (by omega), (by omega), ((xs_s hg48).trans (by congr 2 <;> omega)), ⟨x1, xv g48 gq8, xv g48 mq8, xv g48 d8, ⟨q8, p8, d8, c8, gq8, gp8, mq8, mp8, hs_a0, ((xs_k hg48 (by decide)).trans ((xs_k hg47 (by decide)).trans (xs_s hg46))), ((xs_k hg48 (by decide)).trans (xs_s hg47)), npq.symm, ncd.symm, ngg.symm, nmm.symm, ⟨hs_q8, ((xs_k hg48 (by decide)).trans ((xs_k hg47 (by decide)).trans ((xs_k hg46 (by decide)).trans ((hg38 q8 7 0 3 hs_q8 (by decide)).trans ((hg14 q8 7 0 3 hs_q8 (by decide)).trans eq3))))), hs_d8, ((xs_a hg48 (xne hs_q8 hs_w0 (by decide))).trans ((xs_k hg47 (by decide)).trans ((xs_k hg46 (by decide)).trans ((hg38 q8 7 0 1 hs_q8 (by decide)).trans ((hg14 q8 7 0 1 hs_q8 (by decide)).trans eq1))))), hs_gq8, ((xs_k hg48 (by decide)).trans ((xs_k hg47 (by decide)).trans ((xs_k hg46 (by decide)).trans ((hg38 q8 7 0 2 hs_q8 (by decide)).trans ((hg14 q8 7 0 2 hs_q8 (by decide)).trans eq2))))), hs_mq8⟩, ⟨hs_p8, ((xs_k hg48 (by decide)).trans ((xs_k hg47 (by decide)).trans ((xs_k hg46 (by decide)).trans ((hg38 p8 7 0 3 hs_p8 (by decide)).trans ((hg14 p8 7 0 3 hs_p8 (by decide)).trans ep3))))), hs_c8, ((xs_a hg48 (xne hs_p8 hs_w0 (by decide))).trans ((xs_k hg47 (by decide)).trans ((xs_k hg46 (by decide)).trans ((hg38 p8 7 0 1 hs_p8 (by decide)).trans ((hg14 p8 7 0 1 hs_p8 (by decide)).trans ep1))))), hs_gp8, ((xs_k hg48 (by decide)).trans ((xs_k hg47 (by decide)).trans ((xs_k hg46 (by decide)).trans ((hg38 p8 7 0 2 hs_p8 (by decide)).trans ((hg14 p8 7 0 2 hs_p8 (by decide)).trans ep2))))), hs_mp8⟩, ((xs_k hg48 (by decide)).trans ((xs_k hg47 (by decide)).trans ((xs_k hg46 (by decide)).trans ((hg38 q8 7 0 0 hs_q8 (by decide)).trans k16)))), by omega, by omega, (xBst.rg (show xBst x1 (xv g48 gq8) (xv g48 mq8) x3 z40 (xv g48 d8) from (by rw [(Eq.trans (Eq.trans (Eq.trans (xv_a hg48 (xne hs_gq8 hs_w0 (by decide))) (xv_a hg47 (xne hs_gq8 hs_a0 (by decide)))) (xv_a hg46 (xne hs_gq8 hs_a0 (by decide)))) (xv_m hg38 hs_gq8 (by decide) (by decide))), (Eq.trans (Eq.trans (Eq.trans (xv_a hg48 (xne hs_mq8 hs_w0 (by decide))) (xv_a hg47 (xne hs_mq8 hs_a0 (by decide)))) (xv_a hg46 (xne hs_mq8 hs_a0 (by decide)))) (xv_m hg38 hs_mq8 (by decide) (by decide))), (Eq.trans (Eq.trans (xv_a hg48 (xne hs_d8 hs_w0 (by decide))) (xv_a hg47 (xne hs_d8 hs_a0 (by decide)))) (xv_a hg46 (xne hs_d8 hs_a0 (by decide))))]; exact k41)) (by omega)).1, rfl, rfl, rfl⟩, (Or.inr ⟨(by unfold xPv; omega), rfl, (by rw [(Eq.trans (Eq.trans (Eq.trans (xv_a hg48 (xne hs_gq8 hs_w0 (by decide))) (xv_a hg47 (xne hs_gq8 hs_a0 (by decide)))) (xv_a hg46 (xne hs_gq8 hs_a0 (by decide)))) (xv_m hg38 hs_gq8 (by decide) (by decide))), (Eq.trans (Eq.trans (Eq.trans (xv_a hg48 (xne hs_mq8 hs_w0 (by decide))) (xv_a hg47 (xne hs_mq8 hs_a0 (by decide)))) (xv_a hg46 (xne hs_mq8 hs_a0 (by decide)))) (xv_m hg38 hs_mq8 (by decide) (by decide)))]; exact k17), (Or.inr ⟨by omega, by omega, (by rw [(Eq.trans (Eq.trans (Eq.trans (xv_a hg48 (xne hs_gq8 hs_w0 (by decide))) (xv_a hg47 (xne hs_gq8 hs_a0 (by decide)))) (xv_a hg46 (xne hs_gq8 hs_a0 (by decide)))) (xv_m hg38 hs_gq8 (by decide) (by decide))), (Eq.trans (Eq.trans (Eq.trans (xv_a hg48 (xne hs_mq8 hs_w0 (by decide))) (xv_a hg47 (xne hs_mq8 hs_a0 (by decide)))) (xv_a hg46 (xne hs_mq8 hs_a0 (by decide)))) (xv_m hg38 hs_mq8 (by decide) (by decide))), (Eq.trans (Eq.trans (xv_a hg48 (xne hs_d8 hs_w0 (by decide))) (xv_a hg47 (xne hs_d8 hs_a0 (by decide)))) (xv_a hg46 (xne hs_d8 hs_a0 (by decide))))]; exact k41)⟩)⟩)⟩⟩ (Nat.le_refl _) (Nat.le_refl _)
      · refine X_aloadn hK (i := 0) 1 kd47_2.1 rfl rfl ?_
        refine X_getK hK fl_X11_80_12 hs_a0 ((hg14 a0 12 0 11 hs_a0 (by decide)).trans hpa3) kd47_2.2.1 ?_
        refine X_knowr 12400 8 hs_q8 (by decide) sl_7_4 (fun b49 eb49 hs_b49 => ?_)
        refine X_knowr 12701 64 hs_q8 (by decide) sl_7_7 (fun b50 eb50 hs_b50 => ?_)
        refine X_callV hK [] [] lk_X11_321 (c_X6_partByOffers _ _ _ _ _ S g14 q8 x1 d8 b49 b50 gq8 mq8 hs_q8 (by omega) k16 ((hg14 q8 7 0 3 hs_q8 (by decide)).trans eq3) hs_d8 eb49 hs_b49 eb50 hs_b50 ((hg14 q8 7 0 1 hs_q8 (by decide)).trans eq1) hs_gq8 ((hg14 q8 7 0 2 hs_q8 (by decide)).trans eq2) hs_mq8) hs_q8 ⟨by decide, rfl⟩ kd47_2.2.2.1 rfl rfl (by simp [Value.category]) (by decide) (by decide) (by decide) (by decide) (fun r51 S53 g52 pr51 qr51 hg52 => ?_)
        obtain ⟨rfl, z54, rfl, lz54, uz54, k55, k56, k57, k58⟩ := pr51
        refine X_st [.int (iI z54)] rfl ?_
        refine X_istore hK (i := 4) [(4, .int (iI z54)), (0, .ref a0), (1, .int (iI x1)), (2, .int (iI x2)), (3, .int (iI x3))] kd47_2.2.2.2.1 (by decide) rfl ?_
        refine X_goto hK 78 kd47_2.2.2.2.2.1 (by decide) ?_
        refine X_iload hK (i := 4) 0 kd47_3.2.2.2.2.1 rfl ?_
        refine X_iconst hK kd47_3.2.2.2.2.2.1 ?_
        refine X_icmp_eq hK 104 (by omega) (by omega) kd47_3.2.2.2.2.2.2.1 (by decide) (fun c59 => False.elim (by omega)) (fun c59 => ?_)
        refine X_aloadn hK (i := 0) 1 kd47_3.2.2.2.2.2.2.2.1 rfl rfl ?_
        refine X_getK hK fl_X11_76_12 hs_a0 ((hg52 a0 12 0 10 hs_a0 (by decide)).trans ((hg14 a0 12 0 10 hs_a0 (by decide)).trans hpa2)) kd47_3.2.2.2.2.2.2.2.2.1 ?_
        refine X_astore hK (i := 5) [(5, .ref p8), (4, .int (iI z54)), (0, .ref a0), (1, .int (iI x1)), (2, .int (iI x2)), (3, .int (iI x3))] kd47_3.2.2.2.2.2.2.2.2.2.1 (by decide) rfl ?_
        refine X_aloadn hK (i := 0) 2 kd47_3.2.2.2.2.2.2.2.2.2.2.1 rfl rfl ?_
        refine X_aloadn hK (i := 0) 2 kd47_3.2.2.2.2.2.2.2.2.2.2.2 rfl rfl ?_
        refine X_getK hK fl_X11_80_12 hs_a0 ((hg52 a0 12 0 11 hs_a0 (by decide)).trans ((hg14 a0 12 0 11 hs_a0 (by decide)).trans hpa3)) kd47_4.1 ?_
        refine X_putr hK 7 0 fl_X11_76_12 hs_a0 (by decide) sl_12_10 hs_q8 kd47_4.2.1 (fun g60 hg60 => ?_)
        refine X_aloadn hK (i := 0) 2 kd47_4.2.2.1 rfl rfl ?_
        refine X_aload hK (i := 5) 0 kd47_4.2.2.2.1 rfl ?_
        refine X_putr hK 7 0 fl_X11_80_12 hs_a0 (by decide) sl_12_11 hs_p8 kd47_4.2.2.2.2.1 (fun g61 hg61 => ?_)
        refine X_aloadn hK (i := 0) 2 kd47_4.2.2.2.2.2.1 rfl rfl ?_
        refine X_getK hK fl_X11_10_12 hs_a0 ((xs_k hg61 (by decide)).trans ((xs_k hg60 (by decide)).trans ((hg52 a0 12 0 0 hs_a0 (by decide)).trans ((hg14 a0 12 0 0 hs_a0 (by decide)).trans ew0)))) kd47_4.2.2.2.2.2.2.1 ?_
        refine X_iconst hK kd47_4.2.2.2.2.2.2.2.1 ?_
        refine X_puti hK fl_X11_102_10 hs_w0 (by decide) sl_10_1 (by omega) (by omega) kd47_4.2.2.2.2.2.2.2.2.1 (fun g62 hg62 => ?_)
        refine X_iload hK (i := 4) 1 kd47_4.2.2.2.2.2.2.2.2.2.1 rfl ?_
        exact hret _ _ _ _ _ _ _ kd47_4.2.2.2.2.2.2.2.2.2.2.1 ⟨rfl, z54, rfl, (by omega), (by omega), ((xs_s hg62).trans (by congr 2 <;> omega)), ⟨x1, xv g62 gq8, xv g62 mq8, xv g62 d8, ⟨q8, p8, d8, c8, gq8, gp8, mq8, mp8, hs_a0, ((xs_k hg62 (by decide)).trans ((xs_k hg61 (by decide)).trans (xs_s hg60))), ((xs_k hg62 (by decide)).trans (xs_s hg61)), npq.symm, ncd.symm, ngg.symm, nmm.symm, ⟨hs_q8, ((xs_k hg62 (by decide)).trans ((xs_k hg61 (by decide)).trans ((xs_k hg60 (by decide)).trans ((hg52 q8 7 0 3 hs_q8 (by decide)).trans ((hg14 q8 7 0 3 hs_q8 (by decide)).trans eq3))))), hs_d8, ((xs_a hg62 (xne hs_q8 hs_w0 (by decide))).trans ((xs_k hg61 (by decide)).trans ((xs_k hg60 (by decide)).trans ((hg52 q8 7 0 1 hs_q8 (by decide)).trans ((hg14 q8 7 0 1 hs_q8 (by decide)).trans eq1))))), hs_gq8, ((xs_k hg62 (by decide)).trans ((xs_k hg61 (by decide)).trans ((xs_k hg60 (by decide)).trans ((hg52 q8 7 0 2 hs_q8 (by decide)).trans ((hg14 q8 7 0 2 hs_q8 (by decide)).trans eq2))))), hs_mq8⟩, ⟨hs_p8, ((xs_k hg62 (by decide)).trans ((xs_k hg61 (by decide)).trans ((xs_k hg60 (by decide)).trans ((hg52 p8 7 0 3 hs_p8 (by decide)).trans ((hg14 p8 7 0 3 hs_p8 (by decide)).trans ep3))))), hs_c8, ((xs_a hg62 (xne hs_p8 hs_w0 (by decide))).trans ((xs_k hg61 (by decide)).trans ((xs_k hg60 (by decide)).trans ((hg52 p8 7 0 1 hs_p8 (by decide)).trans ((hg14 p8 7 0 1 hs_p8 (by decide)).trans ep1))))), hs_gp8, ((xs_k hg62 (by decide)).trans ((xs_k hg61 (by decide)).trans ((xs_k hg60 (by decide)).trans ((hg52 p8 7 0 2 hs_p8 (by decide)).trans ((hg14 p8 7 0 2 hs_p8 (by decide)).trans ep2))))), hs_mp8⟩, ((xs_k hg62 (by decide)).trans ((xs_k hg61 (by decide)).trans ((xs_k hg60 (by decide)).trans ((hg52 q8 7 0 0 hs_q8 (by decide)).trans k16)))), by omega, by omega, (show xOpt x1 (xv g62 gq8) (xv g62 mq8) (xv g62 d8) from (by rw [(Eq.trans (Eq.trans (Eq.trans (xv_a hg62 (xne hs_gq8 hs_w0 (by decide))) (xv_a hg61 (xne hs_gq8 hs_a0 (by decide)))) (xv_a hg60 (xne hs_gq8 hs_a0 (by decide)))) (xv_m hg52 hs_gq8 (by decide) (by decide))), (Eq.trans (Eq.trans (Eq.trans (xv_a hg62 (xne hs_mq8 hs_w0 (by decide))) (xv_a hg61 (xne hs_mq8 hs_a0 (by decide)))) (xv_a hg60 (xne hs_mq8 hs_a0 (by decide)))) (xv_m hg52 hs_mq8 (by decide) (by decide))), (Eq.trans (Eq.trans (xv_a hg62 (xne hs_d8 hs_w0 (by decide))) (xv_a hg61 (xne hs_d8 hs_a0 (by decide)))) (xv_a hg60 (xne hs_d8 hs_a0 (by decide))))]; exact k57)).1.1, rfl, rfl, rfl⟩, (Or.inr ⟨(by unfold xPv; omega), rfl, (by rw [(Eq.trans (Eq.trans (Eq.trans (xv_a hg62 (xne hs_gq8 hs_w0 (by decide))) (xv_a hg61 (xne hs_gq8 hs_a0 (by decide)))) (xv_a hg60 (xne hs_gq8 hs_a0 (by decide)))) (xv_m hg52 hs_gq8 (by decide) (by decide))), (Eq.trans (Eq.trans (Eq.trans (xv_a hg62 (xne hs_mq8 hs_w0 (by decide))) (xv_a hg61 (xne hs_mq8 hs_a0 (by decide)))) (xv_a hg60 (xne hs_mq8 hs_a0 (by decide)))) (xv_m hg52 hs_mq8 (by decide) (by decide)))]; exact k17), (Or.inl ⟨by omega, (by rw [(Eq.trans (Eq.trans (Eq.trans (xv_a hg62 (xne hs_gq8 hs_w0 (by decide))) (xv_a hg61 (xne hs_gq8 hs_a0 (by decide)))) (xv_a hg60 (xne hs_gq8 hs_a0 (by decide)))) (xv_m hg52 hs_gq8 (by decide) (by decide))), (Eq.trans (Eq.trans (Eq.trans (xv_a hg62 (xne hs_mq8 hs_w0 (by decide))) (xv_a hg61 (xne hs_mq8 hs_a0 (by decide)))) (xv_a hg60 (xne hs_mq8 hs_a0 (by decide)))) (xv_m hg52 hs_mq8 (by decide) (by decide))), (Eq.trans (Eq.trans (xv_a hg62 (xne hs_d8 hs_w0 (by decide))) (xv_a hg61 (xne hs_d8 hs_a0 (by decide)))) (xv_a hg60 (xne hs_d8 hs_a0 (by decide))))]; exact k57), (show z54 = xVs x1 _ _ from by unfold xVs; rw [(Eq.trans (Eq.trans (xv_a hg62 (xne hs_gq8 hs_w0 (by decide))) (xv_a hg61 (xne hs_gq8 hs_a0 (by decide)))) (xv_a hg60 (xne hs_gq8 hs_a0 (by decide)))), (Eq.trans (Eq.trans (xv_a hg62 (xne hs_d8 hs_w0 (by decide))) (xv_a hg61 (xne hs_d8 hs_a0 (by decide)))) (xv_a hg60 (xne hs_d8 hs_a0 (by decide))))]; exact k58)⟩)⟩)⟩⟩ (Nat.le_refl _) (Nat.le_refl _)

set_option maxHeartbeats 4000000 in
set_option maxRecDepth 100000 in
theorem c3_peace (l : Launch) (D : va_G) (kA : Nat → ClassId) (b0 : Nat) (t0 : Nat → Nat) (S : xT) (g : xG) (a0 : Nat) (x1 : Int) (n8 : Int) (G8 : Int → Int) (M8 : Int → Int) (C8 : Int → Int) (hs_a0 : S a0 = some (12, 0)) (hx1 : (-2147483648) ≤ x1 ∧ x1 ≤ 2147483647) (hp0 : xPa S g a0 n8 G8 M8 C8) : xMt l yX11_peace cX11_peace 2 (some .int) 2 0 0 48 D kA b0 t0 [] [.ref a0, .int (iI x1)] S g (fun (r : Option Value) (S1 : xT) (g1 : xG) => S = S1 ∧ g = g1 ∧ ∃ z : Int, r = some (.int (iI z)) ∧ (-1) ≤ z ∧ z ≤ 1 ∧ (xPe n8 x1 z G8 M8 C8)) := by
  refine xEnterI (by decide) (by simp [lg_sl, Value.category]) [(0, .ref a0), (1, .int (iI x1))] rfl ?_
  intro K E hK hret _ _ _
  refine X_aloadn hK (i := 0) 0 kd47_4.2.2.2.2.2.2.2.2.2.2.2 rfl rfl ?_
  obtain ⟨p8, q8, c8, d8, gp8, gq8, mp8, mq8, hpa1, hpa2, hpa3, npq, ncd, ngg, nmm, ⟨hs_p8, ep3, hs_c8, ep1, hs_gp8, ep2, hs_mp8⟩, ⟨hs_q8, eq3, hs_d8, eq1, hs_gq8, eq2, hs_mq8⟩, hpn, hn1, hn2, hrg, hG8, hM8, hC8⟩ := hp0
  refine X_getK hK fl_X11_76_12 hs_a0 hpa2 kd47_5.1 ?_
  refine X_getK hK fl_X11_330_7 hs_p8 hpn kd47_5.2.1 ?_
  refine X_if_eq hK 17 (by omega) kd47_5.2.2.1 (by decide) (fun c1 => ?_) (fun c1 => ?_)
  · refine X_iconst hK kd47_5.2.2.2.2.2.2.1 ?_
    exact hret _ _ _ _ _ _ _ kd47_5.2.2.2.2.2.2.2.1 ⟨rfl, rfl, (-1), rfl, (by omega), (by omega), (Or.inl ⟨by omega, by omega⟩)⟩ (Nat.le_refl _) (Nat.le_refl _)
  · refine X_iloadn hK (i := 1) 1 kd47_5.2.2.2.1 rfl rfl ?_
    refine X_callS hK [.int (iI x1)] [] lk_X11_324 (c_X11_isSum _ _ _ _ _ S g x1 (by omega)) kd47_5.2.2.2.2.1 rfl rfl (by simp [Value.category]) (by decide) (by decide) (by decide) (by decide) (fun r2 S4 g3 pr2 qr2 hg3 => ?_)
    obtain ⟨rfl, rfl, z5, rfl, lz5, uz5, k6⟩ := pr2
    refine X_st [.int (iI z5)] rfl ?_
    refine X_if_ne hK 19 (by omega) kd47_5.2.2.2.2.2.1 (by decide) (fun c7 => ?_) (fun c7 => ?_)
    · refine X_aloadn hK (i := 0) 0 kd47_5.2.2.2.2.2.2.2.2.1 rfl rfl ?_
      refine X_getK hK fl_X11_76_12 hs_a0 hpa2 kd47_5.2.2.2.2.2.2.2.2.2.1 ?_
      refine X_iloadn hK (i := 1) 1 kd47_5.2.2.2.2.2.2.2.2.2.2.1 rfl rfl ?_
      refine X_callV hK [.int (iI x1)] [] lk_X11_336 (c3_hasPeace _ _ _ _ _ S g p8 x1 n8 c8 gp8 mp8 hs_p8 (by omega) (by omega) hpn ep3 hs_c8 ep1 hs_gp8 ep2 hs_mp8 (fun k q1 q2 => by rw [hC8]; exact (hrg k q1 q2).1)) hs_p8 ⟨by decide, rfl⟩ kd47_5.2.2.2.2.2.2.2.2.2.2.2 rfl rfl (by simp [Value.category]) (by decide) (by decide) (by decide) (by decide) (fun r8 S10 g9 pr8 qr8 hg9 => ?_)
      obtain ⟨rfl, rfl, z11, rfl, lz11, uz11, k12⟩ := pr8
      refine X_st [.int (iI z11)] rfl ?_
      refine X_if_eq hK 34 (by omega) kd47_6.1 (by decide) (fun c13 => ?_) (fun c13 => ?_)
      · refine X_iconst hK kd47_6.2.2.2.1 ?_
        exact hret _ _ _ _ _ _ _ kd47_6.2.2.2.2.1 ⟨rfl, rfl, 0, rfl, (by omega), (by omega), (Or.inr ⟨by omega, by omega, by omega, by omega, by omega, (by have q9 := k12; rw [hG8, hM8, hC8] at q9; rw [← q9]; omega)⟩)⟩ (Nat.le_refl _) (Nat.le_refl _)
      · refine X_iconst hK kd47_6.2.1 ?_
        refine X_goto hK 35 kd47_6.2.2.1 (by decide) ?_
        exact hret _ _ _ _ _ _ _ kd47_6.2.2.2.2.1 ⟨rfl, rfl, 1, rfl, (by omega), (by omega), (Or.inr ⟨by omega, by omega, by omega, by omega, by omega, (by have q9 := k12; rw [hG8, hM8, hC8] at q9; rw [← q9]; omega)⟩)⟩ (Nat.le_refl _) (Nat.le_refl _)
    · refine X_iconst hK kd47_5.2.2.2.2.2.2.1 ?_
      exact hret _ _ _ _ _ _ _ kd47_5.2.2.2.2.2.2.2.1 ⟨rfl, rfl, (-1), rfl, (by omega), (by omega), (Or.inl ⟨by omega, by omega⟩)⟩ (Nat.le_refl _) (Nat.le_refl _)

set_option maxHeartbeats 4000000 in
set_option maxRecDepth 100000 in
theorem c3_partedAt (l : Launch) (D : va_G) (kA : Nat → ClassId) (b0 : Nat) (t0 : Nat → Nat) (S : xT) (g : xG) (a0 : Nat) (x1 : Int) (n8 : Int) (G8 : Int → Int) (M8 : Int → Int) (C8 : Int → Int) (hs_a0 : S a0 = some (12, 0)) (hx1 : (-2147483648) ≤ x1 ∧ x1 ≤ 2147483647) (hp0 : xPa S g a0 n8 G8 M8 C8) : xMt l yX11_partedAt cX11_partedAt 2 (some .int) 1 0 0 22 D kA b0 t0 [] [.ref a0, .int (iI x1)] S g (fun (r : Option Value) (S1 : xT) (g1 : xG) => S = S1 ∧ g = g1 ∧ ∃ z : Int, r = some (.int (iI z)) ∧ (-1) ≤ z ∧ z ≤ 7 ∧ (z = if 0 ≤ x1 ∧ x1 < n8 then C8 x1 else -1)) := by
  refine xEnterI (by decide) (by simp [lg_sl, Value.category]) [(0, .ref a0), (1, .int (iI x1))] rfl ?_
  intro K E hK hret _ _ _
  refine X_iloadn hK (i := 1) 1 kd39_31.2.2.2.2.2.2.2.2.2.2.2 rfl rfl ?_
  obtain ⟨p8, q8, c8, d8, gp8, gq8, mp8, mq8, hpa1, hpa2, hpa3, npq, ncd, ngg, nmm, ⟨hs_p8, ep3, hs_c8, ep1, hs_gp8, ep2, hs_mp8⟩, ⟨hs_q8, eq3, hs_d8, eq1, hs_gq8, eq2, hs_mq8⟩, hpn, hn1, hn2, hrg, hG8, hM8, hC8⟩ := hp0
  refine X_iconst hK kd39_32.1 ?_
  refine X_aloadn hK (i := 0) 0 kd39_32.2.1 rfl rfl ?_
  refine X_getK hK fl_X11_76_12 hs_a0 hpa2 kd39_32.2.2.1 ?_
  refine X_getK hK fl_X11_330_7 hs_p8 hpn kd39_32.2.2.2.1 ?_
  refine X_iconst hK kd39_32.2.2.2.2.1 ?_
  refine X_isub hK kd39_32.2.2.2.2.2.1 ?_
  refine X_callS hK [.int (iI x1), .int (iI 0), .int (iI (n8 - 1))] [] lk_X11_115 (c_X11_within _ _ _ _ _ S g x1 0 (n8 - 1) (by omega) (by omega) (by omega)) kd39_32.2.2.2.2.2.2.1 rfl rfl (by simp [Value.category]) (by decide) (by decide) (by decide) (by decide) (fun r1 S3 g2 pr1 qr1 hg2 => ?_)
  obtain ⟨rfl, rfl, z4, rfl, lz4, uz4, k5⟩ := pr1
  refine X_st [.int (iI z4)] rfl ?_
  refine X_if_eq hK 29 (by omega) kd39_32.2.2.2.2.2.2.2.1 (by decide) (fun c6 => ?_) (fun c6 => ?_)
  · refine X_iconst hK kd39_33.2.2.1 ?_
    exact hret _ _ _ _ _ _ _ kd39_33.2.2.2.1 ⟨rfl, rfl, (-1), rfl, (by omega), (by omega), (by rw [if_neg (by omega)])⟩ (Nat.le_refl _) (Nat.le_refl _)
  · refine X_aloadn hK (i := 0) 0 kd39_32.2.2.2.2.2.2.2.2.1 rfl rfl ?_
    refine X_getK hK fl_X11_76_12 hs_a0 hpa2 kd39_32.2.2.2.2.2.2.2.2.2.1 ?_
    refine X_getK hK fl_X11_333_7 hs_p8 ep3 kd39_32.2.2.2.2.2.2.2.2.2.2.1 ?_
    refine X_iloadn hK (i := 1) 1 kd39_32.2.2.2.2.2.2.2.2.2.2.2 rfl rfl ?_
    refine X_iald hK hs_c8 (by decide) sl_12300 (by omega) (by omega) kd39_33.1 (fun z7 ez7 lz7 uz7 => ?_)
    have hr8 : C8 x1 = z7 := by rw [← hC8]; exact xv_e (j := x1) ez7 (by omega)
    refine X_goto hK 30 kd39_33.2.1 (by decide) ?_
    exact hret _ _ _ _ _ _ _ kd39_33.2.2.2.1 ⟨rfl, rfl, z7, rfl, (by omega), (by omega), (by rw [if_pos (by omega), hr8])⟩ (Nat.le_refl _) (Nat.le_refl _)

set_option maxHeartbeats 4000000 in
set_option maxRecDepth 100000 in
theorem c3_mparted (l : Launch) (D : va_G) (kA : Nat → ClassId) (b0 : Nat) (t0 : Nat → Nat) (S : xT) (g : xG) (a0 : Nat) (x1 : Int) (x2 : Int) (x3 : Int) (n0 : Int) (y0 : Nat) (kg8 : Nat) (km8 : Nat) (n8 : Int) (G8 : Int → Int) (M8 : Int → Int) (C8 : Int → Int) (hs_a0 : S a0 = some (13, 0)) (hx1 : (-2147483648) ≤ x1 ∧ x1 ≤ 2147483647) (hx2 : (-2147483648) ≤ x2 ∧ x2 ≤ 2147483647) (hx3 : (-2147483648) ≤ x3 ∧ x3 ≤ 2147483647) (hn0 : 0 ≤ n0 ∧ n0 ≤ 420) (en0 : g a0 2 = .int (iI n0)) (ey0 : g a0 1 = .ref y0) (hs_y0 : S y0 = some (14100, 420)) (ekg8 : g a0 80 = .ref kg8) (hs_kg8 : S kg8 = some (18600, 64)) (ekm8 : g a0 81 = .ref km8) (hs_km8 : S km8 = some (18700, 64)) (hp0 : xMa S g a0 n8 G8 M8 C8) : xMt l yX12_parted cX12_parted 7 (some .int) 2 0 0 52 D kA b0 t0 [(13, 0), (13, 2), (18600, 0), (18700, 0), (18100, 0), (18200, 0), (19701, 0), (18300, 0), (18500, 0), (13, 78), (13, 79), (18400, 0)] [.ref a0, .int (iI x1), .int (iI x2), .int (iI x3)] S g (fun (r : Option Value) (S1 : xT) (g1 : xG) => S = S1 ∧ ∃ z : Int, r = some (.int (iI z)) ∧ (-1) ≤ z ∧ z ≤ 2040 ∧ (g1 a0 2 = .int (iI (0))) ∧ (∃ (n1 : Int) (G1 M1 C1 : Int → Int), xMa S g1 a0 n1 G1 M1 C1 ∧ xPs (xv g y0) n0 x1 x2 x3 z n8 n1 G8 M8 C8 G1 M1 C1)) := by
  refine xEnterI (by decide) (by simp [lg_sl, Value.category]) [(0, .ref a0), (1, .int (iI x1)), (2, .int (iI x2)), (3, .int (iI x3))] rfl ?_
  intro K E hK hret _ _ _
  refine X_aloadn hK (i := 0) 0 kd47_6.2.2.2.2.2.1 rfl rfl ?_
  obtain ⟨h8, gm8, mm8, m8, z8, hma1, hma2, hs_h8, hma4, hs_gm8, hma6, hs_mm8, hma8, hma9, hma10, hma11, hma12, hrg, hG8, hM8, hC8⟩ := hp0
  refine X_iconst hK kd47_6.2.2.2.2.2.2.1 ?_
  refine X_puti hK fl_X12_198_13 hs_a0 (by decide) sl_13_0 (by omega) (by omega) kd47_6.2.2.2.2.2.2.2.1 (fun g1 hg1 => ?_)
  refine X_aloadn hK (i := 0) 0 kd47_6.2.2.2.2.2.2.2.2.1 rfl rfl ?_
  refine X_callV hK [] [] lk_X12_222 (c_X12_take _ _ _ _ _ S g1 a0 n0 hs_a0 (by omega) ((xs_k hg1 (by decide)).trans en0)) hs_a0 ⟨by decide, rfl⟩ kd47_6.2.2.2.2.2.2.2.2.2.1 rfl rfl (by simp [Value.category]) (by decide) (by decide) (by decide) (by decide) (fun r2 S4 g3 pr2 qr2 hg3 => ?_)
  obtain ⟨rfl, z5, rfl, lz5, uz5, k6, k7⟩ := pr2
  refine X_st [.int (iI z5)] rfl ?_
  refine X_istore hK (i := 4) [(4, .int (iI z5)), (0, .ref a0), (1, .int (iI x1)), (2, .int (iI x2)), (3, .int (iI x3))] kd47_6.2.2.2.2.2.2.2.2.2.2.1 (by decide) rfl ?_
  refine X_iloadn hK (i := 1) 2 kd47_6.2.2.2.2.2.2.2.2.2.2.2 rfl rfl ?_
  refine X_iconst hK kd47_7.1 ?_
  refine X_bipush hK kd47_7.2.1 (by decide) ?_
  refine X_callS hK [.int (iI x1), .int (iI 1), .int (iI 8)] [] lk_X12_211 (c_X12_isIn _ _ _ _ _ S g3 x1 1 8 (by omega) (by omega) (by omega)) kd47_7.2.2.1 rfl rfl (by simp [Value.category]) (by decide) (by decide) (by decide) (by decide) (fun r8 S10 g9 pr8 qr8 hg9 => ?_)
  obtain ⟨rfl, rfl, z11, rfl, lz11, uz11, k12⟩ := pr8
  refine X_st [.int (iI z11)] rfl ?_
  refine X_if_eq hK 56 (by omega) kd47_7.2.2.2.1 (by decide) (fun c13 => ?_) (fun c13 => ?_)
  · refine X_iconst hK kd47_9.1 ?_
    exact hret _ _ _ _ _ _ _ kd47_9.2.1 ⟨rfl, (-1), rfl, (by omega), (by omega), (k7.trans (by congr 2 <;> omega)), ⟨n8, xv g3 gm8, xv g3 mm8, xv g3 h8, ⟨h8, gm8, mm8, m8, z8, hs_a0, ((hg3 a0 13 0 74 hs_a0 (by decide)).trans ((xs_k hg1 (by decide)).trans hma2)), hs_h8, ((hg3 a0 13 0 72 hs_a0 (by decide)).trans ((xs_k hg1 (by decide)).trans hma4)), hs_gm8, ((hg3 a0 13 0 73 hs_a0 (by decide)).trans ((xs_k hg1 (by decide)).trans hma6)), hs_mm8, ((hg3 a0 13 0 78 hs_a0 (by decide)).trans ((xs_k hg1 (by decide)).trans hma8)), by omega, by omega, ((hg3 a0 13 0 79 hs_a0 (by decide)).trans ((xs_k hg1 (by decide)).trans hma11)), hma12, (fun k q1 q2 => by rw [(Eq.trans (xv_m hg3 hs_h8 (by decide) (by decide)) (xv_a hg1 (xne hs_h8 hs_a0 (by decide)))), hC8]; exact hrg k q1 q2), rfl, rfl, rfl⟩, (Or.inl ⟨by omega, rfl, (fun k9 _ _ => congrFun ((Eq.trans (xv_m hg3 hs_gm8 (by decide) (by decide)) (xv_a hg1 (xne hs_gm8 hs_a0 (by decide)))).trans hG8) k9), (fun k9 _ _ => congrFun ((Eq.trans (xv_m hg3 hs_mm8 (by decide) (by decide)) (xv_a hg1 (xne hs_mm8 hs_a0 (by decide)))).trans hM8) k9), (fun k9 _ _ => congrFun ((Eq.trans (xv_m hg3 hs_h8 (by decide) (by decide)) (xv_a hg1 (xne hs_h8 hs_a0 (by decide)))).trans hC8) k9), (Or.inl (fun h9 => by unfold xPv at h9; omega))⟩)⟩⟩ (Nat.le_refl _) (Nat.le_refl _)
  · refine X_iload hK (i := 4) 0 kd47_7.2.2.2.2.1 rfl ?_
    refine X_iconst hK kd47_7.2.2.2.2.2.1 ?_
    refine X_iloadn hK (i := 1) 2 kd47_7.2.2.2.2.2.2.1 rfl rfl ?_
    refine X_imul hK kd47_7.2.2.2.2.2.2.2.1 ?_
    refine X_iloadn hK (i := 1) 2 kd47_7.2.2.2.2.2.2.2.2.1 rfl rfl ?_
    refine X_imul hK kd47_7.2.2.2.2.2.2.2.2.2.1 ?_
    have hm14 := xmulB (a := (2 * x1)) (b := x1) (A := 16) (B := 8) (by omega) (by omega) (by omega) (by omega)
    refine X_icmp_ne hK 56 (by omega) (by omega) kd47_7.2.2.2.2.2.2.2.2.2.2.1 (by decide) (fun c15 => ?_) (fun c15 => ?_)
    · refine X_iconst hK kd47_9.1 ?_
      exact hret _ _ _ _ _ _ _ kd47_9.2.1 ⟨rfl, (-1), rfl, (by omega), (by omega), (k7.trans (by congr 2 <;> omega)), ⟨n8, xv g3 gm8, xv g3 mm8, xv g3 h8, ⟨h8, gm8, mm8, m8, z8, hs_a0, ((hg3 a0 13 0 74 hs_a0 (by decide)).trans ((xs_k hg1 (by decide)).trans hma2)), hs_h8, ((hg3 a0 13 0 72 hs_a0 (by decide)).trans ((xs_k hg1 (by decide)).trans hma4)), hs_gm8, ((hg3 a0 13 0 73 hs_a0 (by decide)).trans ((xs_k hg1 (by decide)).trans hma6)), hs_mm8, ((hg3 a0 13 0 78 hs_a0 (by decide)).trans ((xs_k hg1 (by decide)).trans hma8)), by omega, by omega, ((hg3 a0 13 0 79 hs_a0 (by decide)).trans ((xs_k hg1 (by decide)).trans hma11)), hma12, (fun k q1 q2 => by rw [(Eq.trans (xv_m hg3 hs_h8 (by decide) (by decide)) (xv_a hg1 (xne hs_h8 hs_a0 (by decide)))), hC8]; exact hrg k q1 q2), rfl, rfl, rfl⟩, (Or.inl ⟨by omega, rfl, (fun k9 _ _ => congrFun ((Eq.trans (xv_m hg3 hs_gm8 (by decide) (by decide)) (xv_a hg1 (xne hs_gm8 hs_a0 (by decide)))).trans hG8) k9), (fun k9 _ _ => congrFun ((Eq.trans (xv_m hg3 hs_mm8 (by decide) (by decide)) (xv_a hg1 (xne hs_mm8 hs_a0 (by decide)))).trans hM8) k9), (fun k9 _ _ => congrFun ((Eq.trans (xv_m hg3 hs_h8 (by decide) (by decide)) (xv_a hg1 (xne hs_h8 hs_a0 (by decide)))).trans hC8) k9), (Or.inl (fun h9 => by unfold xPv at h9; omega))⟩)⟩⟩ (Nat.le_refl _) (Nat.le_refl _)
    · refine X_iloadn hK (i := 2) 3 kd47_7.2.2.2.2.2.2.2.2.2.2.2 rfl rfl ?_
      refine X_iconst hK kd47_8.1 ?_
      refine X_iconst hK kd47_8.2.1 ?_
      refine X_callS hK [.int (iI x2), .int (iI 0), .int (iI 1)] [] lk_X12_211 (c_X12_isIn _ _ _ _ _ S g3 x2 0 1 (by omega) (by omega) (by omega)) kd47_8.2.2.1 rfl rfl (by simp [Value.category]) (by decide) (by decide) (by decide) (by decide) (fun r16 S18 g17 pr16 qr16 hg17 => ?_)
      obtain ⟨rfl, rfl, z19, rfl, lz19, uz19, k20⟩ := pr16
      refine X_st [.int (iI z19)] rfl ?_
      refine X_if_eq hK 56 (by omega) kd47_8.2.2.2.1 (by decide) (fun c21 => ?_) (fun c21 => ?_)
      · refine X_iconst hK kd47_9.1 ?_
        exact hret _ _ _ _ _ _ _ kd47_9.2.1 ⟨rfl, (-1), rfl, (by omega), (by omega), (k7.trans (by congr 2 <;> omega)), ⟨n8, xv g3 gm8, xv g3 mm8, xv g3 h8, ⟨h8, gm8, mm8, m8, z8, hs_a0, ((hg3 a0 13 0 74 hs_a0 (by decide)).trans ((xs_k hg1 (by decide)).trans hma2)), hs_h8, ((hg3 a0 13 0 72 hs_a0 (by decide)).trans ((xs_k hg1 (by decide)).trans hma4)), hs_gm8, ((hg3 a0 13 0 73 hs_a0 (by decide)).trans ((xs_k hg1 (by decide)).trans hma6)), hs_mm8, ((hg3 a0 13 0 78 hs_a0 (by decide)).trans ((xs_k hg1 (by decide)).trans hma8)), by omega, by omega, ((hg3 a0 13 0 79 hs_a0 (by decide)).trans ((xs_k hg1 (by decide)).trans hma11)), hma12, (fun k q1 q2 => by rw [(Eq.trans (xv_m hg3 hs_h8 (by decide) (by decide)) (xv_a hg1 (xne hs_h8 hs_a0 (by decide)))), hC8]; exact hrg k q1 q2), rfl, rfl, rfl⟩, (Or.inl ⟨by omega, rfl, (fun k9 _ _ => congrFun ((Eq.trans (xv_m hg3 hs_gm8 (by decide) (by decide)) (xv_a hg1 (xne hs_gm8 hs_a0 (by decide)))).trans hG8) k9), (fun k9 _ _ => congrFun ((Eq.trans (xv_m hg3 hs_mm8 (by decide) (by decide)) (xv_a hg1 (xne hs_mm8 hs_a0 (by decide)))).trans hM8) k9), (fun k9 _ _ => congrFun ((Eq.trans (xv_m hg3 hs_h8 (by decide) (by decide)) (xv_a hg1 (xne hs_h8 hs_a0 (by decide)))).trans hC8) k9), (Or.inl (fun h9 => by unfold xPv at h9; omega))⟩)⟩⟩ (Nat.le_refl _) (Nat.le_refl _)
      · refine X_iloadn hK (i := 2) 3 kd47_8.2.2.2.2.1 rfl rfl ?_
        refine X_iconst hK kd47_8.2.2.2.2.2.1 ?_
        refine X_icmp_ne hK 58 (by omega) (by omega) kd47_8.2.2.2.2.2.2.1 (by decide) (fun c22 => ?_) (fun c22 => ?_)
        · refine X_iconst hK kd47_9.2.2.1 ?_
          refine X_istore hK (i := 5) [(5, .int (iI 0)), (4, .int (iI z5)), (0, .ref a0), (1, .int (iI x1)), (2, .int (iI x2)), (3, .int (iI x3))] kd47_9.2.2.2.1 (by decide) rfl ?_
          have P1094 : ∀ (nP1094 : Nat) (g963 : xG) (_ : xM [(18700, 0), (18600, 0)] S g3 g963) (z962 : Int) (_ : 0 ≤ z962) (_ : z962 ≤ 64) (_ : ∀ k, 0 ≤ k → k < z962 → xv g963 kg8 k = xv g gm8 k) (_ : ∀ k, 0 ≤ k → k < z962 → xv g963 km8 k = xv g mm8 k) (_ : 80 - z962 < (nP1094 : Int)), X K E 61 [(5, .int (iI z962)), (4, .int (iI z5)), (0, .ref a0), (1, .int (iI x1)), (2, .int (iI x2)), (3, .int (iI x3))] [] S g963 0 0 := by
            intro nP1094
            induction nP1094 with
            | zero => intro g963 hg963 z962 lz962 uz962 v1095 v1096 mP1094; exact False.elim (by omega)
            | succ nP1094 ihP1094 =>
              intro g963 hg963 z962 lz962 uz962 v1095 v1096 mP1094
              refine X_iload hK (i := 5) 0 kd47_9.2.2.2.2.1 rfl ?_
              refine X_bipush hK kd47_9.2.2.2.2.2.1 (by decide) ?_
              refine X_icmp_ge hK 102 (by omega) (by omega) kd47_9.2.2.2.2.2.2.1 (by decide) (fun c1097 => ?_) (fun c1097 => ?_)
              · refine X_iconst hK kd47_11.2.1 ?_
                refine X_istore hK (i := 5) [(5, .int (iI 0)), (4, .int (iI z5)), (0, .ref a0), (1, .int (iI x1)), (2, .int (iI x2)), (3, .int (iI x3))] kd47_11.2.2.1 (by decide) rfl ?_
                have P1590 : ∀ (nP1590 : Nat) (g1504 : xG) (_ : xM [(18200, 0), (18100, 0)] S g963 g1504) (z1503 : Int) (_ : 0 ≤ z1503) (_ : z1503 ≤ 8) (_ : xLr x1 (xv g y0) (xv g1504 gm8) (xv g1504 mm8) z1503 0) (_ : 24 - z1503 < (nP1590 : Int)), X K E 105 [(5, .int (iI z1503)), (4, .int (iI z5)), (0, .ref a0), (1, .int (iI x1)), (2, .int (iI x2)), (3, .int (iI x3))] [] S g1504 0 0 := by
                  intro nP1590
                  induction nP1590 with
                  | zero => intro g1504 hg1504 z1503 lz1503 uz1503 v1591 mP1590; exact False.elim (by omega)
                  | succ nP1590 ihP1590 =>
                    intro g1504 hg1504 z1503 lz1503 uz1503 v1591 mP1590
                    refine X_iload hK (i := 5) 0 kd47_11.2.2.2.1 rfl ?_
                    refine X_iloadn hK (i := 1) 3 kd47_11.2.2.2.2.1 rfl rfl ?_
                    refine X_icmp_ge hK 186 (by omega) (by omega) kd47_11.2.2.2.2.2.1 (by decide) (fun c1592 => ?_) (fun c1592 => ?_)
                    · refine X_iloadn hK (i := 2) 4 kd47_15.2.2.2.1 rfl rfl ?_
                      refine X_if_ne hK 198 (by omega) kd47_15.2.2.2.2.1 (by decide) (fun c1593 => False.elim (by omega)) (fun c1593 => ?_)
                      refine X_aloadn hK (i := 0) 2 kd47_15.2.2.2.2.2.1 rfl rfl ?_
                      refine X_iloadn hK (i := 1) 3 kd47_15.2.2.2.2.2.2.1 rfl rfl ?_
                      refine X_knowr 18500 8 hs_a0 (by decide) sl_13_76 (fun b1594 eb1594 hs_b1594 => ?_)
                      refine X_knowr 19701 64 hs_a0 (by decide) sl_13_77 (fun b1595 eb1595 hs_b1595 => ?_)
                      refine X_callV hK [.int (iI x1)] [] lk_X12_453 (c_X12_offer _ _ _ _ _ S g1504 a0 x1 h8 b1594 b1595 gm8 mm8 hs_a0 (by omega) ((hg1504 a0 13 0 74 hs_a0 (by decide)).trans ((hg963 a0 13 0 74 hs_a0 (by decide)).trans ((hg3 a0 13 0 74 hs_a0 (by decide)).trans ((xs_k hg1 (by decide)).trans hma2)))) hs_h8 eb1594 hs_b1594 eb1595 hs_b1595 ((hg1504 a0 13 0 72 hs_a0 (by decide)).trans ((hg963 a0 13 0 72 hs_a0 (by decide)).trans ((hg3 a0 13 0 72 hs_a0 (by decide)).trans ((xs_k hg1 (by decide)).trans hma4)))) hs_gm8 ((hg1504 a0 13 0 73 hs_a0 (by decide)).trans ((hg963 a0 13 0 73 hs_a0 (by decide)).trans ((hg3 a0 13 0 73 hs_a0 (by decide)).trans ((xs_k hg1 (by decide)).trans hma6)))) hs_mm8) hs_a0 ⟨by decide, rfl⟩ kd47_15.2.2.2.2.2.2.2.1 rfl rfl (by simp [Value.category]) (by decide) (by decide) (by decide) (by decide) (fun r1596 S1598 g1597 pr1596 qr1596 hg1597 => ?_)
                      obtain ⟨rfl, rfl, k1599, k1600⟩ := pr1596
                      refine X_st [] rfl ?_
                      refine X_goto hK 253 kd47_15.2.2.2.2.2.2.2.2.1 (by decide) ?_
                      refine X_aloadn hK (i := 0) 2 kd47_18.2.2.2.1 rfl rfl ?_
                      refine X_iloadn hK (i := 1) 3 kd47_18.2.2.2.2.1 rfl rfl ?_
                      refine X_puti hK fl_X12_459_13 hs_a0 (by decide) sl_13_78 (by omega) (by omega) kd47_18.2.2.2.2.2.1 (fun g1601 hg1601 => ?_)
                      refine X_aloadn hK (i := 0) 2 kd47_18.2.2.2.2.2.2.1 rfl rfl ?_
                      refine X_iconst hK kd47_18.2.2.2.2.2.2.2.1 ?_
                      refine X_putz hK fl_X12_462_13 hs_a0 (by decide) sl_13_79 (by omega) (by omega) kd47_18.2.2.2.2.2.2.2.2.1 (fun g1602 hg1602 => ?_)
                      refine X_aloadn hK (i := 0) 2 kd47_18.2.2.2.2.2.2.2.2.2.1 rfl rfl ?_
                      refine X_getK hK fl_X12_153_13 hs_a0 ((xs_k hg1602 (by decide)).trans ((xs_k hg1601 (by decide)).trans ((hg1597 a0 13 0 72 hs_a0 (by decide)).trans ((hg1504 a0 13 0 72 hs_a0 (by decide)).trans ((hg963 a0 13 0 72 hs_a0 (by decide)).trans ((hg3 a0 13 0 72 hs_a0 (by decide)).trans ((xs_k hg1 (by decide)).trans hma4))))))) kd47_18.2.2.2.2.2.2.2.2.2.2.1 ?_
                      refine X_aloadn hK (i := 0) 2 kd47_18.2.2.2.2.2.2.2.2.2.2.2 rfl rfl ?_
                      refine X_getK hK fl_X12_159_13 hs_a0 ((xs_k hg1602 (by decide)).trans ((xs_k hg1601 (by decide)).trans ((hg1597 a0 13 0 74 hs_a0 (by decide)).trans ((hg1504 a0 13 0 74 hs_a0 (by decide)).trans ((hg963 a0 13 0 74 hs_a0 (by decide)).trans ((hg3 a0 13 0 74 hs_a0 (by decide)).trans ((xs_k hg1 (by decide)).trans hma2))))))) kd47_19.1 ?_
                      refine X_iloadn hK (i := 1) 3 kd47_19.2.1 rfl rfl ?_
                      refine X_callS hK [.ref gm8, .ref h8, .int (iI x1)] [] lk_X12_441 (c_sumOf_h _ _ _ _ _ S g1602 gm8 h8 x1 hs_gm8 hs_h8 (by omega) (by rw [(Eq.trans (xv_a hg1602 (xne hs_h8 hs_a0 (by decide))) (xv_a hg1601 (xne hs_h8 hs_a0 (by decide))))]; exact (fun k9 q1 q2 => ((show xOpt _ _ _ _ from k1600).1.1 k9 q1 q2).1))) kd47_19.2.2.1 rfl rfl (by simp [Value.category]) (by decide) (by decide) (by decide) (by decide) (fun r1603 S1605 g1604 pr1603 qr1603 hg1604 => ?_)
                      obtain ⟨rfl, rfl, z1606, rfl, lz1606, uz1606, k1607⟩ := pr1603
                      refine X_st [.int (iI z1606)] rfl ?_
                      exact hret _ _ _ _ _ _ _ kd47_19.2.2.2.1 ⟨rfl, z1606, rfl, (by omega), (by omega), (((xs_k hg1602 (by decide)).trans ((xs_k hg1601 (by decide)).trans ((hg1597 a0 13 0 2 hs_a0 (by decide)).trans ((hg1504 a0 13 0 2 hs_a0 (by decide)).trans ((hg963 a0 13 0 2 hs_a0 (by decide)).trans k7))))).trans (by congr 2 <;> omega)), ⟨x1, xv g1602 gm8, xv g1602 mm8, xv g1602 h8, ⟨h8, gm8, mm8, x1, 1, hs_a0, ((xs_k hg1602 (by decide)).trans ((xs_k hg1601 (by decide)).trans ((hg1597 a0 13 0 74 hs_a0 (by decide)).trans ((hg1504 a0 13 0 74 hs_a0 (by decide)).trans ((hg963 a0 13 0 74 hs_a0 (by decide)).trans ((hg3 a0 13 0 74 hs_a0 (by decide)).trans ((xs_k hg1 (by decide)).trans hma2))))))), hs_h8, ((xs_k hg1602 (by decide)).trans ((xs_k hg1601 (by decide)).trans ((hg1597 a0 13 0 72 hs_a0 (by decide)).trans ((hg1504 a0 13 0 72 hs_a0 (by decide)).trans ((hg963 a0 13 0 72 hs_a0 (by decide)).trans ((hg3 a0 13 0 72 hs_a0 (by decide)).trans ((xs_k hg1 (by decide)).trans hma4))))))), hs_gm8, ((xs_k hg1602 (by decide)).trans ((xs_k hg1601 (by decide)).trans ((hg1597 a0 13 0 73 hs_a0 (by decide)).trans ((hg1504 a0 13 0 73 hs_a0 (by decide)).trans ((hg963 a0 13 0 73 hs_a0 (by decide)).trans ((hg3 a0 13 0 73 hs_a0 (by decide)).trans ((xs_k hg1 (by decide)).trans hma6))))))), hs_mm8, ((xs_k hg1602 (by decide)).trans (xs_s hg1601)), by omega, by omega, (xs_s hg1602), (Or.inr ⟨by omega, rfl, by omega⟩), (show xOpt x1 (xv g1602 gm8) (xv g1602 mm8) (xv g1602 h8) from (by rw [(Eq.trans (Eq.trans (xv_a hg1602 (xne hs_gm8 hs_a0 (by decide))) (xv_a hg1601 (xne hs_gm8 hs_a0 (by decide)))) (xv_m hg1597 hs_gm8 (by decide) (by decide))), (Eq.trans (Eq.trans (xv_a hg1602 (xne hs_mm8 hs_a0 (by decide))) (xv_a hg1601 (xne hs_mm8 hs_a0 (by decide)))) (xv_m hg1597 hs_mm8 (by decide) (by decide))), (Eq.trans (xv_a hg1602 (xne hs_h8 hs_a0 (by decide))) (xv_a hg1601 (xne hs_h8 hs_a0 (by decide))))]; exact k1600)).1.1, rfl, rfl, rfl⟩, (Or.inr ⟨(by unfold xPv; omega), rfl, (by rw [(Eq.trans (Eq.trans (xv_a hg1602 (xne hs_gm8 hs_a0 (by decide))) (xv_a hg1601 (xne hs_gm8 hs_a0 (by decide)))) (xv_m hg1597 hs_gm8 (by decide) (by decide))), (Eq.trans (Eq.trans (xv_a hg1602 (xne hs_mm8 hs_a0 (by decide))) (xv_a hg1601 (xne hs_mm8 hs_a0 (by decide)))) (xv_m hg1597 hs_mm8 (by decide) (by decide)))]; exact (fun b9 c9 q1 q2 q3 q4 _ => v1591 b9 c9 q1 q2 q3 q4 (Or.inl (by omega)))), (Or.inl ⟨by omega, (by rw [(Eq.trans (Eq.trans (xv_a hg1602 (xne hs_gm8 hs_a0 (by decide))) (xv_a hg1601 (xne hs_gm8 hs_a0 (by decide)))) (xv_m hg1597 hs_gm8 (by decide) (by decide))), (Eq.trans (Eq.trans (xv_a hg1602 (xne hs_mm8 hs_a0 (by decide))) (xv_a hg1601 (xne hs_mm8 hs_a0 (by decide)))) (xv_m hg1597 hs_mm8 (by decide) (by decide))), (Eq.trans (xv_a hg1602 (xne hs_h8 hs_a0 (by decide))) (xv_a hg1601 (xne hs_h8 hs_a0 (by decide))))]; exact k1600), (show z1606 = xVs x1 (xv g1602 gm8) (xv g1602 h8) from by unfold xVs; exact k1607)⟩)⟩)⟩⟩ (Nat.le_refl _) (Nat.le_refl _)
                    · refine X_iconst hK kd47_11.2.2.2.2.2.2.1 ?_
                      refine X_istore hK (i := 6) [(6, .int (iI 0)), (5, .int (iI z1503)), (4, .int (iI z5)), (0, .ref a0), (1, .int (iI x1)), (2, .int (iI x2)), (3, .int (iI x3))] kd47_11.2.2.2.2.2.2.2.1 (by decide) rfl ?_
                      have P1667 : ∀ (nP1667 : Nat) (g1658 : xG) (_ : xM [(18200, 0), (18100, 0)] S g1504 g1658) (z1657 : Int) (_ : 0 ≤ z1657) (_ : z1657 ≤ 8) (_ : xLr x1 (xv g y0) (xv g1658 gm8) (xv g1658 mm8) z1503 z1657) (_ : 24 - z1657 < (nP1667 : Int)), X K E 114 [(6, .int (iI z1657)), (5, .int (iI z1503)), (4, .int (iI z5)), (0, .ref a0), (1, .int (iI x1)), (2, .int (iI x2)), (3, .int (iI x3))] [] S g1658 0 0 := by
                        intro nP1667
                        induction nP1667 with
                        | zero => intro g1658 hg1658 z1657 lz1657 uz1657 v1668 mP1667; exact False.elim (by omega)
                        | succ nP1667 ihP1667 =>
                          intro g1658 hg1658 z1657 lz1657 uz1657 v1668 mP1667
                          refine X_iload hK (i := 6) 0 kd47_11.2.2.2.2.2.2.2.2.1 rfl ?_
                          refine X_iloadn hK (i := 1) 4 kd47_11.2.2.2.2.2.2.2.2.2.1 rfl rfl ?_
                          refine X_icmp_ge hK 180 (by omega) (by omega) kd47_11.2.2.2.2.2.2.2.2.2.2.1 (by decide) (fun c1669 => ?_) (fun c1669 => ?_)
                          · refine X_iinc hK (i := 5) (z := z1503) (n := 1) 1 [(5, .int (iI (z1503 + 1))), (6, .int (iI z1657)), (4, .int (iI z5)), (0, .ref a0), (1, .int (iI x1)), (2, .int (iI x2)), (3, .int (iI x3))] kd47_15.2.1 rfl (by decide) rfl ?_
                            refine X_goto hK 105 kd47_15.2.2.1 (by decide) ?_
                            refine X_lv [(5, .int (iI (z1503 + 1))), (4, .int (iI z5)), (0, .ref a0), (1, .int (iI x1)), (2, .int (iI x2)), (3, .int (iI x3))] [0, 2, 3, 4, 5, 6] rfl ?_
                            exact ihP1590  g1658 (xM.tr (xM.tr xM.rf xLe.rf hg1504 (by decide)) xLe.rf hg1658 (by decide)) (z1503 + 1) (by omega) (by omega) (xLr.row v1668 (by omega)) (by omega)
                          · refine X_aloadn hK (i := 0) 3 kd47_11.2.2.2.2.2.2.2.2.2.2.2 rfl rfl ?_
                            refine X_getK hK fl_X12_153_13 hs_a0 ((hg1658 a0 13 0 72 hs_a0 (by decide)).trans ((hg1504 a0 13 0 72 hs_a0 (by decide)).trans ((hg963 a0 13 0 72 hs_a0 (by decide)).trans ((hg3 a0 13 0 72 hs_a0 (by decide)).trans ((xs_k hg1 (by decide)).trans hma4))))) kd47_12.1 ?_
                            refine X_bipush hK kd47_12.2.1 (by decide) ?_
                            refine X_iload hK (i := 5) 1 kd47_12.2.2.1 rfl ?_
                            refine X_imul hK kd47_12.2.2.2.1 ?_
                            refine X_iload hK (i := 6) 0 kd47_12.2.2.2.2.1 rfl ?_
                            refine X_iadd hK kd47_12.2.2.2.2.2.1 ?_
                            refine X_aloadn hK (i := 0) 3 kd47_12.2.2.2.2.2.2.1 rfl rfl ?_
                            refine X_getK hK fl_X12_7_13 hs_a0 ((hg1658 a0 13 0 1 hs_a0 (by decide)).trans ((hg1504 a0 13 0 1 hs_a0 (by decide)).trans ((hg963 a0 13 0 1 hs_a0 (by decide)).trans ((hg3 a0 13 0 1 hs_a0 (by decide)).trans ((xs_k hg1 (by decide)).trans ey0))))) kd47_12.2.2.2.2.2.2.2.1 ?_
                            refine X_iloadn hK (i := 1) 4 kd47_12.2.2.2.2.2.2.2.2.1 rfl rfl ?_
                            refine X_iload hK (i := 5) 1 kd47_12.2.2.2.2.2.2.2.2.2.1 rfl ?_
                            refine X_imul hK kd47_12.2.2.2.2.2.2.2.2.2.2.1 ?_
                            have hm1670 := xmulB (a := x1) (b := z1503) (A := 8) (B := 7) (by omega) (by omega) (by omega) (by omega)
                            refine X_iload hK (i := 6) 0 kd47_12.2.2.2.2.2.2.2.2.2.2.2 rfl ?_
                            refine X_iadd hK kd47_13.1 ?_
                            refine X_iald hK hs_y0 (by decide) sl_14100 (by omega) (by omega) kd47_13.2.1 (fun z1671 ez1671 lz1671 uz1671 => ?_)
                            have hl1672 : xv g y0 ((x1 * z1503) + z1657) = z1671 := xv_e (j := ((x1 * z1503) + z1657)) ((((((hg1658 _ _ _ _ hs_y0 (by rw [xky_a (by decide)]; decide)).trans (hg1504 _ _ _ _ hs_y0 (by rw [xky_a (by decide)]; decide))).trans (hg963 _ _ _ _ hs_y0 (by rw [xky_a (by decide)]; decide))).trans (hg3 _ _ _ _ hs_y0 (by rw [xky_a (by decide)]; decide))).trans (xs_a hg1 (xne hs_y0 hs_a0 (by decide)))).symm.trans ez1671) (by omega)
                            refine X_iast hK hs_gm8 (by decide) (by decide) sl_18100 (by omega) (by omega) (by omega) (by omega) kd47_13.2.2.1 (fun g1673 hg1673 => ?_)
                            refine X_aloadn hK (i := 0) 3 kd47_13.2.2.2.1 rfl rfl ?_
                            refine X_getK hK fl_X12_156_13 hs_a0 ((xs_a hg1673 (xne hs_a0 hs_gm8 (by decide))).trans ((hg1658 a0 13 0 73 hs_a0 (by decide)).trans ((hg1504 a0 13 0 73 hs_a0 (by decide)).trans ((hg963 a0 13 0 73 hs_a0 (by decide)).trans ((hg3 a0 13 0 73 hs_a0 (by decide)).trans ((xs_k hg1 (by decide)).trans hma6)))))) kd47_13.2.2.2.2.1 ?_
                            refine X_bipush hK kd47_13.2.2.2.2.2.1 (by decide) ?_
                            refine X_iload hK (i := 5) 1 kd47_13.2.2.2.2.2.2.1 rfl ?_
                            refine X_imul hK kd47_13.2.2.2.2.2.2.2.1 ?_
                            refine X_iload hK (i := 6) 0 kd47_13.2.2.2.2.2.2.2.2.1 rfl ?_
                            refine X_iadd hK kd47_13.2.2.2.2.2.2.2.2.2.1 ?_
                            refine X_aloadn hK (i := 0) 3 kd47_13.2.2.2.2.2.2.2.2.2.2.1 rfl rfl ?_
                            refine X_getK hK fl_X12_7_13 hs_a0 ((xs_a hg1673 (xne hs_a0 hs_gm8 (by decide))).trans ((hg1658 a0 13 0 1 hs_a0 (by decide)).trans ((hg1504 a0 13 0 1 hs_a0 (by decide)).trans ((hg963 a0 13 0 1 hs_a0 (by decide)).trans ((hg3 a0 13 0 1 hs_a0 (by decide)).trans ((xs_k hg1 (by decide)).trans ey0)))))) kd47_13.2.2.2.2.2.2.2.2.2.2.2 ?_
                            refine X_iloadn hK (i := 1) 4 kd47_14.1 rfl rfl ?_
                            refine X_iloadn hK (i := 1) 4 kd47_14.2.1 rfl rfl ?_
                            refine X_imul hK kd47_14.2.2.1 ?_
                            have hm1674 := xmulB (a := x1) (b := x1) (A := 8) (B := 8) (by omega) (by omega) (by omega) (by omega)
                            refine X_iloadn hK (i := 1) 4 kd47_14.2.2.2.1 rfl rfl ?_
                            refine X_iload hK (i := 5) 1 kd47_14.2.2.2.2.1 rfl ?_
                            refine X_imul hK kd47_14.2.2.2.2.2.1 ?_
                            have hm1675 := xmulB (a := x1) (b := z1503) (A := 8) (B := 7) (by omega) (by omega) (by omega) (by omega)
                            refine X_iadd hK kd47_14.2.2.2.2.2.2.1 ?_
                            refine X_iload hK (i := 6) 0 kd47_14.2.2.2.2.2.2.2.1 rfl ?_
                            refine X_iadd hK kd47_14.2.2.2.2.2.2.2.2.1 ?_
                            refine X_iald hK hs_y0 (by decide) sl_14100 (by omega) (by omega) kd47_14.2.2.2.2.2.2.2.2.2.1 (fun z1676 ez1676 lz1676 uz1676 => ?_)
                            have hl1677 : xv g y0 (((x1 * x1) + (x1 * z1503)) + z1657) = z1676 := xv_e (j := (((x1 * x1) + (x1 * z1503)) + z1657)) (((((((xs_a hg1673 (xne hs_y0 hs_gm8 (by decide))).trans (hg1658 _ _ _ _ hs_y0 (by rw [xky_a (by decide)]; decide))).trans (hg1504 _ _ _ _ hs_y0 (by rw [xky_a (by decide)]; decide))).trans (hg963 _ _ _ _ hs_y0 (by rw [xky_a (by decide)]; decide))).trans (hg3 _ _ _ _ hs_y0 (by rw [xky_a (by decide)]; decide))).trans (xs_a hg1 (xne hs_y0 hs_a0 (by decide)))).symm.trans ez1676) (by omega)
                            refine X_iast hK hs_mm8 (by decide) (by decide) sl_18200 (by omega) (by omega) (by omega) (by omega) kd47_14.2.2.2.2.2.2.2.2.2.2.1 (fun g1678 hg1678 => ?_)
                            refine X_iinc hK (i := 6) (z := z1657) (n := 1) 0 [(6, .int (iI (z1657 + 1))), (5, .int (iI z1503)), (4, .int (iI z5)), (0, .ref a0), (1, .int (iI x1)), (2, .int (iI x2)), (3, .int (iI x3))] kd47_14.2.2.2.2.2.2.2.2.2.2.2 rfl (by decide) rfl ?_
                            refine X_goto hK 114 kd47_15.1 (by decide) ?_
                            exact ihP1667  g1678 (xM_ua (xM_ua (xM.tr xM.rf xLe.rf hg1658 (by decide)) hg1673 hs_gm8 (by decide) (by decide)) hg1678 hs_mm8 (by decide) (by decide)) (z1657 + 1) (by omega) (by omega) (xLr.s (j := ((8 * z1503) + z1657)) v1668 (by omega) (by omega) (by omega) (by omega) (by rw [show z1503 * x1 + z1657 = x1 * z1503 + z1657 by rw [Int.mul_comm]]; exact hl1672) (by rw [show x1 * x1 + (z1503 * x1 + z1657) = x1 * x1 + x1 * z1503 + z1657 by rw [Int.mul_comm z1503 x1, ← Int.add_assoc]]; exact hl1677) (show xv g1678 gm8 ((8 * z1503) + z1657) = z1671 from by rw [(xv_a hg1678 (xne hs_gm8 hs_mm8 (by decide))), xv_s hg1673 (by omega)]) (fun i9 hi9 h09 => (show xv g1678 gm8 i9 = xv g1658 gm8 i9 from by rw [(xv_a hg1678 (xne hs_gm8 hs_mm8 (by decide))), (xv_k (i := i9) hg1673 (by omega) (by omega) (by omega))])) (show xv g1678 mm8 ((8 * z1503) + z1657) = z1676 from by rw [xv_s hg1678 (by omega)]) (fun i9 hi9 h09 => (show xv g1678 mm8 i9 = xv g1658 mm8 i9 from by rw [(xv_k (i := i9) hg1678 (by omega) (by omega) (by omega)), (xv_a hg1673 (xne hs_mm8 hs_gm8 (by decide)))]))) (by omega)
                      exact P1667 ((24 - 0 : Int).toNat + 1) g1504 xM.rf 0 (by omega) (by omega) v1591 (by omega)
                exact P1590 ((24 - 0 : Int).toNat + 1) g963 xM.rf 0 (by omega) (by omega) xLr.z (by omega)
              · refine X_aloadn hK (i := 0) 2 kd47_9.2.2.2.2.2.2.2.1 rfl rfl ?_
                refine X_getK hK fl_X12_171_13 hs_a0 ((hg963 a0 13 0 80 hs_a0 (by decide)).trans ((hg3 a0 13 0 80 hs_a0 (by decide)).trans ((xs_k hg1 (by decide)).trans ekg8))) kd47_9.2.2.2.2.2.2.2.2.1 ?_
                refine X_iload hK (i := 5) 0 kd47_9.2.2.2.2.2.2.2.2.2.1 rfl ?_
                refine X_aloadn hK (i := 0) 2 kd47_9.2.2.2.2.2.2.2.2.2.2.1 rfl rfl ?_
                refine X_getK hK fl_X12_153_13 hs_a0 ((hg963 a0 13 0 72 hs_a0 (by decide)).trans ((hg3 a0 13 0 72 hs_a0 (by decide)).trans ((xs_k hg1 (by decide)).trans hma4))) kd47_9.2.2.2.2.2.2.2.2.2.2.2 ?_
                refine X_iload hK (i := 5) 0 kd47_10.1 rfl ?_
                refine X_iald hK hs_gm8 (by decide) sl_18100 (by omega) (by omega) kd47_10.2.1 (fun z1679 ez1679 lz1679 uz1679 => ?_)
                have hw1680 : xv g963 gm8 z962 = z1679 := xv_e (j := z962) ez1679 (by omega)
                refine X_iast hK hs_kg8 (by decide) (by decide) sl_18600 (by omega) (by omega) (by omega) (by omega) kd47_10.2.2.1 (fun g1681 hg1681 => ?_)
                refine X_aloadn hK (i := 0) 2 kd47_10.2.2.2.1 rfl rfl ?_
                refine X_getK hK fl_X12_174_13 hs_a0 ((xs_a hg1681 (xne hs_a0 hs_kg8 (by decide))).trans ((hg963 a0 13 0 81 hs_a0 (by decide)).trans ((hg3 a0 13 0 81 hs_a0 (by decide)).trans ((xs_k hg1 (by decide)).trans ekm8)))) kd47_10.2.2.2.2.1 ?_
                refine X_iload hK (i := 5) 0 kd47_10.2.2.2.2.2.1 rfl ?_
                refine X_aloadn hK (i := 0) 2 kd47_10.2.2.2.2.2.2.1 rfl rfl ?_
                refine X_getK hK fl_X12_156_13 hs_a0 ((xs_a hg1681 (xne hs_a0 hs_kg8 (by decide))).trans ((hg963 a0 13 0 73 hs_a0 (by decide)).trans ((hg3 a0 13 0 73 hs_a0 (by decide)).trans ((xs_k hg1 (by decide)).trans hma6)))) kd47_10.2.2.2.2.2.2.2.1 ?_
                refine X_iload hK (i := 5) 0 kd47_10.2.2.2.2.2.2.2.2.1 rfl ?_
                refine X_iald hK hs_mm8 (by decide) sl_18200 (by omega) (by omega) kd47_10.2.2.2.2.2.2.2.2.2.1 (fun z1682 ez1682 lz1682 uz1682 => ?_)
                have hw1683 : xv g1681 mm8 z962 = z1682 := xv_e (j := z962) ez1682 (by omega)
                refine X_iast hK hs_km8 (by decide) (by decide) sl_18700 (by omega) (by omega) (by omega) (by omega) kd47_10.2.2.2.2.2.2.2.2.2.2.1 (fun g1684 hg1684 => ?_)
                refine X_iinc hK (i := 5) (z := z962) (n := 1) 0 [(5, .int (iI (z962 + 1))), (4, .int (iI z5)), (0, .ref a0), (1, .int (iI x1)), (2, .int (iI x2)), (3, .int (iI x3))] kd47_10.2.2.2.2.2.2.2.2.2.2.2 rfl (by decide) rfl ?_
                refine X_goto hK 61 kd47_11.1 (by decide) ?_
                exact ihP1094  g1684 (xM_ua (xM_ua (xM.tr xM.rf xLe.rf hg963 (by decide)) hg1681 hs_kg8 (by decide) (by decide)) hg1684 hs_km8 (by decide) (by decide)) (z962 + 1) (by omega) (by omega) (fun k9 q1 q2 => by by_cases e9 : k9 = z962; (rw [e9, (show xv g1684 kg8 z962 = z1679 from by rw [(xv_a hg1684 (xne hs_kg8 hs_km8 (by decide))), xv_s hg1681 (by omega)])]; have h8 := hw1680; rw [(Eq.trans (Eq.trans (xv_m hg963 hs_gm8 (by decide) (by decide)) (xv_m hg3 hs_gm8 (by decide) (by decide))) (xv_a hg1 (xne hs_gm8 hs_a0 (by decide))))] at h8; exact h8.symm); (rw [(show xv g1684 kg8 k9 = xv g963 kg8 k9 from by rw [(xv_a hg1684 (xne hs_kg8 hs_km8 (by decide))), (xv_k (i := k9) hg1681 (by omega) (by omega) (by omega))])]; exact v1095 k9 q1 (by omega))) (fun k9 q1 q2 => by by_cases e9 : k9 = z962; (rw [e9, (show xv g1684 km8 z962 = z1682 from by rw [xv_s hg1684 (by omega)])]; have h8 := hw1683; rw [(Eq.trans (Eq.trans (Eq.trans (xv_a hg1681 (xne hs_mm8 hs_kg8 (by decide))) (xv_m hg963 hs_mm8 (by decide) (by decide))) (xv_m hg3 hs_mm8 (by decide) (by decide))) (xv_a hg1 (xne hs_mm8 hs_a0 (by decide))))] at h8; exact h8.symm); (rw [(show xv g1684 km8 k9 = xv g963 km8 k9 from by rw [(xv_k (i := k9) hg1684 (by omega) (by omega) (by omega)), (xv_a hg1681 (xne hs_km8 hs_kg8 (by decide)))])]; exact v1096 k9 q1 (by omega))) (by omega)
          exact P1094 ((80 - 0 : Int).toNat + 1) g3 xM.rf 0 (by omega) (by omega) (fun k q1 q2 => by omega) (fun k q1 q2 => by omega) (by omega)
        · refine X_iloadn hK (i := 3) 4 kd47_8.2.2.2.2.2.2.2.1 rfl rfl ?_
          refine X_iconst hK kd47_8.2.2.2.2.2.2.2.2.1 ?_
          refine X_sipush hK kd47_8.2.2.2.2.2.2.2.2.2.1 (by decide) ?_
          refine X_callS hK [.int (iI x3), .int (iI 1), .int (iI 255)] [] lk_X12_211 (c_X12_isIn _ _ _ _ _ S g3 x3 1 255 (by omega) (by omega) (by omega)) kd47_8.2.2.2.2.2.2.2.2.2.2.1 rfl rfl (by simp [Value.category]) (by decide) (by decide) (by decide) (by decide) (fun r1685 S1687 g1686 pr1685 qr1685 hg1686 => ?_)
          obtain ⟨rfl, rfl, z1688, rfl, lz1688, uz1688, k1689⟩ := pr1685
          refine X_st [.int (iI z1688)] rfl ?_
          refine X_if_ne hK 58 (by omega) kd47_8.2.2.2.2.2.2.2.2.2.2.2 (by decide) (fun c1690 => ?_) (fun c1690 => ?_)
          · refine X_iconst hK kd47_9.2.2.1 ?_
            refine X_istore hK (i := 5) [(5, .int (iI 0)), (4, .int (iI z5)), (0, .ref a0), (1, .int (iI x1)), (2, .int (iI x2)), (3, .int (iI x3))] kd47_9.2.2.2.1 (by decide) rfl ?_
            have P1891 : ∀ (nP1891 : Nat) (g1692 : xG) (_ : xM [(18700, 0), (18600, 0)] S g3 g1692) (z1691 : Int) (_ : 0 ≤ z1691) (_ : z1691 ≤ 64) (_ : ∀ k, 0 ≤ k → k < z1691 → xv g1692 kg8 k = xv g gm8 k) (_ : ∀ k, 0 ≤ k → k < z1691 → xv g1692 km8 k = xv g mm8 k) (_ : 80 - z1691 < (nP1891 : Int)), X K E 61 [(5, .int (iI z1691)), (4, .int (iI z5)), (0, .ref a0), (1, .int (iI x1)), (2, .int (iI x2)), (3, .int (iI x3))] [] S g1692 0 0 := by
              intro nP1891
              induction nP1891 with
              | zero => intro g1692 hg1692 z1691 lz1691 uz1691 v1892 v1893 mP1891; exact False.elim (by omega)
              | succ nP1891 ihP1891 =>
                intro g1692 hg1692 z1691 lz1691 uz1691 v1892 v1893 mP1891
                refine X_iload hK (i := 5) 0 kd47_9.2.2.2.2.1 rfl ?_
                refine X_bipush hK kd47_9.2.2.2.2.2.1 (by decide) ?_
                refine X_icmp_ge hK 102 (by omega) (by omega) kd47_9.2.2.2.2.2.2.1 (by decide) (fun c1894 => ?_) (fun c1894 => ?_)
                · refine X_iconst hK kd47_11.2.1 ?_
                  refine X_istore hK (i := 5) [(5, .int (iI 0)), (4, .int (iI z5)), (0, .ref a0), (1, .int (iI x1)), (2, .int (iI x2)), (3, .int (iI x3))] kd47_11.2.2.1 (by decide) rfl ?_
                  have P1999 : ∀ (nP1999 : Nat) (g1896 : xG) (_ : xM [(18200, 0), (18100, 0)] S g1692 g1896) (z1895 : Int) (_ : 0 ≤ z1895) (_ : z1895 ≤ 8) (_ : xLr x1 (xv g y0) (xv g1896 gm8) (xv g1896 mm8) z1895 0) (_ : 24 - z1895 < (nP1999 : Int)), X K E 105 [(5, .int (iI z1895)), (4, .int (iI z5)), (0, .ref a0), (1, .int (iI x1)), (2, .int (iI x2)), (3, .int (iI x3))] [] S g1896 0 0 := by
                    intro nP1999
                    induction nP1999 with
                    | zero => intro g1896 hg1896 z1895 lz1895 uz1895 v2000 mP1999; exact False.elim (by omega)
                    | succ nP1999 ihP1999 =>
                      intro g1896 hg1896 z1895 lz1895 uz1895 v2000 mP1999
                      refine X_iload hK (i := 5) 0 kd47_11.2.2.2.1 rfl ?_
                      refine X_iloadn hK (i := 1) 3 kd47_11.2.2.2.2.1 rfl rfl ?_
                      refine X_icmp_ge hK 186 (by omega) (by omega) kd47_11.2.2.2.2.2.1 (by decide) (fun c2001 => ?_) (fun c2001 => ?_)
                      · refine X_iloadn hK (i := 2) 4 kd47_15.2.2.2.1 rfl rfl ?_
                        refine X_if_ne hK 198 (by omega) kd47_15.2.2.2.2.1 (by decide) (fun c2002 => ?_) (fun c2002 => False.elim (by omega))
                        refine X_aloadn hK (i := 0) 2 kd47_15.2.2.2.2.2.2.2.2.2.1 rfl rfl ?_
                        refine X_iloadn hK (i := 1) 3 kd47_15.2.2.2.2.2.2.2.2.2.2.1 rfl rfl ?_
                        refine X_iloadn hK (i := 3) 5 kd47_15.2.2.2.2.2.2.2.2.2.2.2 rfl rfl ?_
                        refine X_knowr 18400 8 hs_a0 (by decide) sl_13_75 (fun b2003 eb2003 hs_b2003 => ?_)
                        refine X_callV hK [.int (iI x1), .int (iI x3)] [] lk_X12_456 (c_X12_seek _ _ _ _ _ S g1896 a0 x1 x3 h8 b2003 gm8 mm8 hs_a0 (by omega) (by omega) ((hg1896 a0 13 0 74 hs_a0 (by decide)).trans ((hg1692 a0 13 0 74 hs_a0 (by decide)).trans ((hg3 a0 13 0 74 hs_a0 (by decide)).trans ((xs_k hg1 (by decide)).trans hma2)))) hs_h8 eb2003 hs_b2003 ((hg1896 a0 13 0 72 hs_a0 (by decide)).trans ((hg1692 a0 13 0 72 hs_a0 (by decide)).trans ((hg3 a0 13 0 72 hs_a0 (by decide)).trans ((xs_k hg1 (by decide)).trans hma4)))) hs_gm8 ((hg1896 a0 13 0 73 hs_a0 (by decide)).trans ((hg1692 a0 13 0 73 hs_a0 (by decide)).trans ((hg3 a0 13 0 73 hs_a0 (by decide)).trans ((xs_k hg1 (by decide)).trans hma6)))) hs_mm8) hs_a0 ⟨by decide, rfl⟩ kd47_16.1 rfl rfl (by simp [Value.category]) (by decide) (by decide) (by decide) (by decide) (fun r2004 S2006 g2005 pr2004 qr2004 hg2005 => ?_)
                        obtain ⟨rfl, z2007, rfl, lz2007, uz2007, k2008, k2009, k2010⟩ := pr2004
                        refine X_st [.int (iI z2007)] rfl ?_
                        refine X_if_ne hK 253 (by omega) kd47_16.2.1 (by decide) (fun c2011 => ?_) (fun c2011 => ?_)
                        · refine X_aloadn hK (i := 0) 2 kd47_18.2.2.2.1 rfl rfl ?_
                          refine X_iloadn hK (i := 1) 3 kd47_18.2.2.2.2.1 rfl rfl ?_
                          refine X_puti hK fl_X12_459_13 hs_a0 (by decide) sl_13_78 (by omega) (by omega) kd47_18.2.2.2.2.2.1 (fun g2012 hg2012 => ?_)
                          refine X_aloadn hK (i := 0) 2 kd47_18.2.2.2.2.2.2.1 rfl rfl ?_
                          refine X_iconst hK kd47_18.2.2.2.2.2.2.2.1 ?_
                          refine X_putz hK fl_X12_462_13 hs_a0 (by decide) sl_13_79 (by omega) (by omega) kd47_18.2.2.2.2.2.2.2.2.1 (fun g2013 hg2013 => ?_)
                          refine X_aloadn hK (i := 0) 2 kd47_18.2.2.2.2.2.2.2.2.2.1 rfl rfl ?_
                          refine X_getK hK fl_X12_153_13 hs_a0 ((xs_k hg2013 (by decide)).trans ((xs_k hg2012 (by decide)).trans ((hg2005 a0 13 0 72 hs_a0 (by decide)).trans ((hg1896 a0 13 0 72 hs_a0 (by decide)).trans ((hg1692 a0 13 0 72 hs_a0 (by decide)).trans ((hg3 a0 13 0 72 hs_a0 (by decide)).trans ((xs_k hg1 (by decide)).trans hma4))))))) kd47_18.2.2.2.2.2.2.2.2.2.2.1 ?_
                          refine X_aloadn hK (i := 0) 2 kd47_18.2.2.2.2.2.2.2.2.2.2.2 rfl rfl ?_
                          refine X_getK hK fl_X12_159_13 hs_a0 ((xs_k hg2013 (by decide)).trans ((xs_k hg2012 (by decide)).trans ((hg2005 a0 13 0 74 hs_a0 (by decide)).trans ((hg1896 a0 13 0 74 hs_a0 (by decide)).trans ((hg1692 a0 13 0 74 hs_a0 (by decide)).trans ((hg3 a0 13 0 74 hs_a0 (by decide)).trans ((xs_k hg1 (by decide)).trans hma2))))))) kd47_19.1 ?_
                          refine X_iloadn hK (i := 1) 3 kd47_19.2.1 rfl rfl ?_
                          refine X_callS hK [.ref gm8, .ref h8, .int (iI x1)] [] lk_X12_441 (c_sumOf_h _ _ _ _ _ S g2013 gm8 h8 x1 hs_gm8 hs_h8 (by omega) (by rw [(Eq.trans (xv_a hg2013 (xne hs_h8 hs_a0 (by decide))) (xv_a hg2012 (xne hs_h8 hs_a0 (by decide))))]; exact (k2008 (by omega)))) kd47_19.2.2.1 rfl rfl (by simp [Value.category]) (by decide) (by decide) (by decide) (by decide) (fun r2014 S2016 g2015 pr2014 qr2014 hg2015 => ?_)
                          obtain ⟨rfl, rfl, z2017, rfl, lz2017, uz2017, k2018⟩ := pr2014
                          refine X_st [.int (iI z2017)] rfl ?_
                          exact hret _ _ _ _ _ _ _ kd47_19.2.2.2.1 ⟨rfl, z2017, rfl, (by omega), (by omega), (((xs_k hg2013 (by decide)).trans ((xs_k hg2012 (by decide)).trans ((hg2005 a0 13 0 2 hs_a0 (by decide)).trans ((hg1896 a0 13 0 2 hs_a0 (by decide)).trans ((hg1692 a0 13 0 2 hs_a0 (by decide)).trans k7))))).trans (by congr 2 <;> omega)), ⟨x1, xv g2013 gm8, xv g2013 mm8, xv g2013 h8, ⟨h8, gm8, mm8, x1, 1, hs_a0, ((xs_k hg2013 (by decide)).trans ((xs_k hg2012 (by decide)).trans ((hg2005 a0 13 0 74 hs_a0 (by decide)).trans ((hg1896 a0 13 0 74 hs_a0 (by decide)).trans ((hg1692 a0 13 0 74 hs_a0 (by decide)).trans ((hg3 a0 13 0 74 hs_a0 (by decide)).trans ((xs_k hg1 (by decide)).trans hma2))))))), hs_h8, ((xs_k hg2013 (by decide)).trans ((xs_k hg2012 (by decide)).trans ((hg2005 a0 13 0 72 hs_a0 (by decide)).trans ((hg1896 a0 13 0 72 hs_a0 (by decide)).trans ((hg1692 a0 13 0 72 hs_a0 (by decide)).trans ((hg3 a0 13 0 72 hs_a0 (by decide)).trans ((xs_k hg1 (by decide)).trans hma4))))))), hs_gm8, ((xs_k hg2013 (by decide)).trans ((xs_k hg2012 (by decide)).trans ((hg2005 a0 13 0 73 hs_a0 (by decide)).trans ((hg1896 a0 13 0 73 hs_a0 (by decide)).trans ((hg1692 a0 13 0 73 hs_a0 (by decide)).trans ((hg3 a0 13 0 73 hs_a0 (by decide)).trans ((xs_k hg1 (by decide)).trans hma6))))))), hs_mm8, ((xs_k hg2013 (by decide)).trans (xs_s hg2012)), by omega, by omega, (xs_s hg2013), (Or.inr ⟨by omega, rfl, by omega⟩), (by obtain ⟨v9, w9, w8⟩ := (show ∃ v9 : Int, xBst x1 (xv g2013 gm8) (xv g2013 mm8) x3 v9 (xv g2013 h8) ∧ v9 ≠ -1 from by obtain ⟨v9, w9, w8⟩ := k2010; exact ⟨v9, (by rw [(Eq.trans (Eq.trans (xv_a hg2013 (xne hs_gm8 hs_a0 (by decide))) (xv_a hg2012 (xne hs_gm8 hs_a0 (by decide)))) (xv_m hg2005 hs_gm8 (by decide) (by decide))), (Eq.trans (Eq.trans (xv_a hg2013 (xne hs_mm8 hs_a0 (by decide))) (xv_a hg2012 (xne hs_mm8 hs_a0 (by decide)))) (xv_m hg2005 hs_mm8 (by decide) (by decide))), (Eq.trans (xv_a hg2013 (xne hs_h8 hs_a0 (by decide))) (xv_a hg2012 (xne hs_h8 hs_a0 (by decide))))]; exact w9), w8.mp (by omega)⟩); exact (xBst.rg w9 w8).1), rfl, rfl, rfl⟩, (Or.inr ⟨(by unfold xPv; omega), rfl, (by rw [(Eq.trans (Eq.trans (xv_a hg2013 (xne hs_gm8 hs_a0 (by decide))) (xv_a hg2012 (xne hs_gm8 hs_a0 (by decide)))) (xv_m hg2005 hs_gm8 (by decide) (by decide))), (Eq.trans (Eq.trans (xv_a hg2013 (xne hs_mm8 hs_a0 (by decide))) (xv_a hg2012 (xne hs_mm8 hs_a0 (by decide)))) (xv_m hg2005 hs_mm8 (by decide) (by decide)))]; exact (fun b9 c9 q1 q2 q3 q4 _ => v2000 b9 c9 q1 q2 q3 q4 (Or.inl (by omega)))), (Or.inr (by obtain ⟨v9, w9, w8⟩ := (show ∃ v9 : Int, xBst x1 (xv g2013 gm8) (xv g2013 mm8) x3 v9 (xv g2013 h8) ∧ v9 ≠ -1 from by obtain ⟨v9, w9, w8⟩ := k2010; exact ⟨v9, (by rw [(Eq.trans (Eq.trans (xv_a hg2013 (xne hs_gm8 hs_a0 (by decide))) (xv_a hg2012 (xne hs_gm8 hs_a0 (by decide)))) (xv_m hg2005 hs_gm8 (by decide) (by decide))), (Eq.trans (Eq.trans (xv_a hg2013 (xne hs_mm8 hs_a0 (by decide))) (xv_a hg2012 (xne hs_mm8 hs_a0 (by decide)))) (xv_m hg2005 hs_mm8 (by decide) (by decide))), (Eq.trans (xv_a hg2013 (xne hs_h8 hs_a0 (by decide))) (xv_a hg2012 (xne hs_h8 hs_a0 (by decide))))]; exact w9), w8.mp (by omega)⟩); have w7 := (xBst.rg w9 w8).2; have w6 : z2017 = v9 := (show z2017 = xVs x1 (xv g2013 gm8) (xv g2013 h8) from by unfold xVs; exact k2018).trans w7; rw [w6]; exact ⟨by omega, w8, w9⟩))⟩)⟩⟩ (Nat.le_refl _) (Nat.le_refl _)
                        · refine X_iconst hK kd47_16.2.2.1 ?_
                          refine X_istore hK (i := 5) [(5, .int (iI 0)), (4, .int (iI z5)), (0, .ref a0), (1, .int (iI x1)), (2, .int (iI x2)), (3, .int (iI x3))] kd47_16.2.2.2.1 (by decide) rfl ?_
                          have P2060 : ∀ (nP2060 : Nat) (g2054 : xG) (_ : xM [(18200, 0), (18100, 0)] S g2005 g2054) (z2053 : Int) (_ : 0 ≤ z2053) (_ : z2053 ≤ 64) (_ : ∀ k, 0 ≤ k → k < z2053 → xv g2054 gm8 k = xv g gm8 k) (_ : ∀ k, 0 ≤ k → k < z2053 → xv g2054 mm8 k = xv g mm8 k) (_ : 80 - z2053 < (nP2060 : Int)), X K E 210 [(5, .int (iI z2053)), (4, .int (iI z5)), (0, .ref a0), (1, .int (iI x1)), (2, .int (iI x2)), (3, .int (iI x3))] [] S g2054 0 0 := by
                            intro nP2060
                            induction nP2060 with
                            | zero => intro g2054 hg2054 z2053 lz2053 uz2053 v2061 v2062 mP2060; exact False.elim (by omega)
                            | succ nP2060 ihP2060 =>
                              intro g2054 hg2054 z2053 lz2053 uz2053 v2061 v2062 mP2060
                              refine X_iload hK (i := 5) 0 kd47_16.2.2.2.2.1 rfl ?_
                              refine X_bipush hK kd47_16.2.2.2.2.2.1 (by decide) ?_
                              refine X_icmp_ge hK 251 (by omega) (by omega) kd47_16.2.2.2.2.2.2.1 (by decide) (fun c2063 => ?_) (fun c2063 => ?_)
                              · refine X_iconst hK kd47_18.2.1 ?_
                                exact hret _ _ _ _ _ _ _ kd47_18.2.2.1 ⟨rfl, (-1), rfl, (by omega), (by omega), (((hg2054 a0 13 0 2 hs_a0 (by decide)).trans ((hg2005 a0 13 0 2 hs_a0 (by decide)).trans ((hg1896 a0 13 0 2 hs_a0 (by decide)).trans ((hg1692 a0 13 0 2 hs_a0 (by decide)).trans k7)))).trans (by congr 2 <;> omega)), ⟨n8, xv g2054 gm8, xv g2054 mm8, xv g2054 h8, ⟨h8, gm8, mm8, m8, z8, hs_a0, ((hg2054 a0 13 0 74 hs_a0 (by decide)).trans ((hg2005 a0 13 0 74 hs_a0 (by decide)).trans ((hg1896 a0 13 0 74 hs_a0 (by decide)).trans ((hg1692 a0 13 0 74 hs_a0 (by decide)).trans ((hg3 a0 13 0 74 hs_a0 (by decide)).trans ((xs_k hg1 (by decide)).trans hma2)))))), hs_h8, ((hg2054 a0 13 0 72 hs_a0 (by decide)).trans ((hg2005 a0 13 0 72 hs_a0 (by decide)).trans ((hg1896 a0 13 0 72 hs_a0 (by decide)).trans ((hg1692 a0 13 0 72 hs_a0 (by decide)).trans ((hg3 a0 13 0 72 hs_a0 (by decide)).trans ((xs_k hg1 (by decide)).trans hma4)))))), hs_gm8, ((hg2054 a0 13 0 73 hs_a0 (by decide)).trans ((hg2005 a0 13 0 73 hs_a0 (by decide)).trans ((hg1896 a0 13 0 73 hs_a0 (by decide)).trans ((hg1692 a0 13 0 73 hs_a0 (by decide)).trans ((hg3 a0 13 0 73 hs_a0 (by decide)).trans ((xs_k hg1 (by decide)).trans hma6)))))), hs_mm8, ((hg2054 a0 13 0 78 hs_a0 (by decide)).trans ((hg2005 a0 13 0 78 hs_a0 (by decide)).trans ((hg1896 a0 13 0 78 hs_a0 (by decide)).trans ((hg1692 a0 13 0 78 hs_a0 (by decide)).trans ((hg3 a0 13 0 78 hs_a0 (by decide)).trans ((xs_k hg1 (by decide)).trans hma8)))))), by omega, by omega, ((hg2054 a0 13 0 79 hs_a0 (by decide)).trans ((hg2005 a0 13 0 79 hs_a0 (by decide)).trans ((hg1896 a0 13 0 79 hs_a0 (by decide)).trans ((hg1692 a0 13 0 79 hs_a0 (by decide)).trans ((hg3 a0 13 0 79 hs_a0 (by decide)).trans ((xs_k hg1 (by decide)).trans hma11)))))), hma12, (fun k q1 q2 => by rw [(Eq.trans (Eq.trans (Eq.trans (Eq.trans (Eq.trans (xv_m hg2054 hs_h8 (by decide) (by decide)) (k2009 (by omega))) (xv_m hg1896 hs_h8 (by decide) (by decide))) (xv_m hg1692 hs_h8 (by decide) (by decide))) (xv_m hg3 hs_h8 (by decide) (by decide))) (xv_a hg1 (xne hs_h8 hs_a0 (by decide)))), hC8]; exact hrg k q1 q2), rfl, rfl, rfl⟩, (Or.inl ⟨by omega, rfl, (fun k9 q1 q2 => by rw [← hG8]; exact v2061 k9 q1 (by omega)), (fun k9 q1 q2 => by rw [← hM8]; exact v2062 k9 q1 (by omega)), (fun k9 _ _ => congrFun ((Eq.trans (Eq.trans (Eq.trans (Eq.trans (Eq.trans (xv_m hg2054 hs_h8 (by decide) (by decide)) (k2009 (by omega))) (xv_m hg1896 hs_h8 (by decide) (by decide))) (xv_m hg1692 hs_h8 (by decide) (by decide))) (xv_m hg3 hs_h8 (by decide) (by decide))) (xv_a hg1 (xne hs_h8 hs_a0 (by decide)))).trans hC8) k9), (Or.inr ⟨(by unfold xPv; omega), by omega, _, _, _, (fun b9 c9 q1 q2 q3 q4 _ => v2000 b9 c9 q1 q2 q3 q4 (Or.inl (by omega))), (by obtain ⟨v9, w9, w8⟩ := k2010; rw [show v9 = -1 by omega] at w9; exact w9)⟩)⟩)⟩⟩ (Nat.le_refl _) (Nat.le_refl _)
                              · refine X_aloadn hK (i := 0) 2 kd47_16.2.2.2.2.2.2.2.1 rfl rfl ?_
                                refine X_getK hK fl_X12_153_13 hs_a0 ((hg2054 a0 13 0 72 hs_a0 (by decide)).trans ((hg2005 a0 13 0 72 hs_a0 (by decide)).trans ((hg1896 a0 13 0 72 hs_a0 (by decide)).trans ((hg1692 a0 13 0 72 hs_a0 (by decide)).trans ((hg3 a0 13 0 72 hs_a0 (by decide)).trans ((xs_k hg1 (by decide)).trans hma4)))))) kd47_16.2.2.2.2.2.2.2.2.1 ?_
                                refine X_iload hK (i := 5) 0 kd47_16.2.2.2.2.2.2.2.2.2.1 rfl ?_
                                refine X_aloadn hK (i := 0) 2 kd47_16.2.2.2.2.2.2.2.2.2.2.1 rfl rfl ?_
                                refine X_getK hK fl_X12_171_13 hs_a0 ((hg2054 a0 13 0 80 hs_a0 (by decide)).trans ((hg2005 a0 13 0 80 hs_a0 (by decide)).trans ((hg1896 a0 13 0 80 hs_a0 (by decide)).trans ((hg1692 a0 13 0 80 hs_a0 (by decide)).trans ((hg3 a0 13 0 80 hs_a0 (by decide)).trans ((xs_k hg1 (by decide)).trans ekg8)))))) kd47_16.2.2.2.2.2.2.2.2.2.2.2 ?_
                                refine X_iload hK (i := 5) 0 kd47_17.1 rfl ?_
                                refine X_iald hK hs_kg8 (by decide) sl_18600 (by omega) (by omega) kd47_17.2.1 (fun z2064 ez2064 lz2064 uz2064 => ?_)
                                have hw2065 : xv g2054 kg8 z2053 = z2064 := xv_e (j := z2053) ez2064 (by omega)
                                refine X_iast hK hs_gm8 (by decide) (by decide) sl_18100 (by omega) (by omega) (by omega) (by omega) kd47_17.2.2.1 (fun g2066 hg2066 => ?_)
                                refine X_aloadn hK (i := 0) 2 kd47_17.2.2.2.1 rfl rfl ?_
                                refine X_getK hK fl_X12_156_13 hs_a0 ((xs_a hg2066 (xne hs_a0 hs_gm8 (by decide))).trans ((hg2054 a0 13 0 73 hs_a0 (by decide)).trans ((hg2005 a0 13 0 73 hs_a0 (by decide)).trans ((hg1896 a0 13 0 73 hs_a0 (by decide)).trans ((hg1692 a0 13 0 73 hs_a0 (by decide)).trans ((hg3 a0 13 0 73 hs_a0 (by decide)).trans ((xs_k hg1 (by decide)).trans hma6))))))) kd47_17.2.2.2.2.1 ?_
                                refine X_iload hK (i := 5) 0 kd47_17.2.2.2.2.2.1 rfl ?_
                                refine X_aloadn hK (i := 0) 2 kd47_17.2.2.2.2.2.2.1 rfl rfl ?_
                                refine X_getK hK fl_X12_174_13 hs_a0 ((xs_a hg2066 (xne hs_a0 hs_gm8 (by decide))).trans ((hg2054 a0 13 0 81 hs_a0 (by decide)).trans ((hg2005 a0 13 0 81 hs_a0 (by decide)).trans ((hg1896 a0 13 0 81 hs_a0 (by decide)).trans ((hg1692 a0 13 0 81 hs_a0 (by decide)).trans ((hg3 a0 13 0 81 hs_a0 (by decide)).trans ((xs_k hg1 (by decide)).trans ekm8))))))) kd47_17.2.2.2.2.2.2.2.1 ?_
                                refine X_iload hK (i := 5) 0 kd47_17.2.2.2.2.2.2.2.2.1 rfl ?_
                                refine X_iald hK hs_km8 (by decide) sl_18700 (by omega) (by omega) kd47_17.2.2.2.2.2.2.2.2.2.1 (fun z2067 ez2067 lz2067 uz2067 => ?_)
                                have hw2068 : xv g2066 km8 z2053 = z2067 := xv_e (j := z2053) ez2067 (by omega)
                                refine X_iast hK hs_mm8 (by decide) (by decide) sl_18200 (by omega) (by omega) (by omega) (by omega) kd47_17.2.2.2.2.2.2.2.2.2.2.1 (fun g2069 hg2069 => ?_)
                                refine X_iinc hK (i := 5) (z := z2053) (n := 1) 0 [(5, .int (iI (z2053 + 1))), (4, .int (iI z5)), (0, .ref a0), (1, .int (iI x1)), (2, .int (iI x2)), (3, .int (iI x3))] kd47_17.2.2.2.2.2.2.2.2.2.2.2 rfl (by decide) rfl ?_
                                refine X_goto hK 210 kd47_18.1 (by decide) ?_
                                exact ihP2060  g2069 (xM_ua (xM_ua (xM.tr xM.rf xLe.rf hg2054 (by decide)) hg2066 hs_gm8 (by decide) (by decide)) hg2069 hs_mm8 (by decide) (by decide)) (z2053 + 1) (by omega) (by omega) (fun k9 q1 q2 => by by_cases e9 : k9 = z2053; (rw [e9, (show xv g2069 gm8 z2053 = z2064 from by rw [(xv_a hg2069 (xne hs_gm8 hs_mm8 (by decide))), xv_s hg2066 (by omega)])]; have h8 := hw2065; rw [(Eq.trans (Eq.trans (xv_m hg2054 hs_kg8 (by decide) (by decide)) (xv_m hg2005 hs_kg8 (by decide) (by decide))) (xv_m hg1896 hs_kg8 (by decide) (by decide))), v1892 z2053 (by omega) (by omega)] at h8; exact h8.symm); (rw [(show xv g2069 gm8 k9 = xv g2054 gm8 k9 from by rw [(xv_a hg2069 (xne hs_gm8 hs_mm8 (by decide))), (xv_k (i := k9) hg2066 (by omega) (by omega) (by omega))])]; exact v2061 k9 q1 (by omega))) (fun k9 q1 q2 => by by_cases e9 : k9 = z2053; (rw [e9, (show xv g2069 mm8 z2053 = z2067 from by rw [xv_s hg2069 (by omega)])]; have h8 := hw2068; rw [(Eq.trans (Eq.trans (Eq.trans (xv_a hg2066 (xne hs_km8 hs_gm8 (by decide))) (xv_m hg2054 hs_km8 (by decide) (by decide))) (xv_m hg2005 hs_km8 (by decide) (by decide))) (xv_m hg1896 hs_km8 (by decide) (by decide))), v1893 z2053 (by omega) (by omega)] at h8; exact h8.symm); (rw [(show xv g2069 mm8 k9 = xv g2054 mm8 k9 from by rw [(xv_k (i := k9) hg2069 (by omega) (by omega) (by omega)), (xv_a hg2066 (xne hs_mm8 hs_gm8 (by decide)))])]; exact v2062 k9 q1 (by omega))) (by omega)
                          exact P2060 ((80 - 0 : Int).toNat + 1) g2005 xM.rf 0 (by omega) (by omega) (fun k q1 q2 => by omega) (fun k q1 q2 => by omega) (by omega)
                      · refine X_iconst hK kd47_11.2.2.2.2.2.2.1 ?_
                        refine X_istore hK (i := 6) [(6, .int (iI 0)), (5, .int (iI z1895)), (4, .int (iI z5)), (0, .ref a0), (1, .int (iI x1)), (2, .int (iI x2)), (3, .int (iI x3))] kd47_11.2.2.2.2.2.2.2.1 (by decide) rfl ?_
                        have P2129 : ∀ (nP2129 : Nat) (g2120 : xG) (_ : xM [(18200, 0), (18100, 0)] S g1896 g2120) (z2119 : Int) (_ : 0 ≤ z2119) (_ : z2119 ≤ 8) (_ : xLr x1 (xv g y0) (xv g2120 gm8) (xv g2120 mm8) z1895 z2119) (_ : 24 - z2119 < (nP2129 : Int)), X K E 114 [(6, .int (iI z2119)), (5, .int (iI z1895)), (4, .int (iI z5)), (0, .ref a0), (1, .int (iI x1)), (2, .int (iI x2)), (3, .int (iI x3))] [] S g2120 0 0 := by
                          intro nP2129
                          induction nP2129 with
                          | zero => intro g2120 hg2120 z2119 lz2119 uz2119 v2130 mP2129; exact False.elim (by omega)
                          | succ nP2129 ihP2129 =>
                            intro g2120 hg2120 z2119 lz2119 uz2119 v2130 mP2129
                            refine X_iload hK (i := 6) 0 kd47_11.2.2.2.2.2.2.2.2.1 rfl ?_
                            refine X_iloadn hK (i := 1) 4 kd47_11.2.2.2.2.2.2.2.2.2.1 rfl rfl ?_
                            refine X_icmp_ge hK 180 (by omega) (by omega) kd47_11.2.2.2.2.2.2.2.2.2.2.1 (by decide) (fun c2131 => ?_) (fun c2131 => ?_)
                            · refine X_iinc hK (i := 5) (z := z1895) (n := 1) 1 [(5, .int (iI (z1895 + 1))), (6, .int (iI z2119)), (4, .int (iI z5)), (0, .ref a0), (1, .int (iI x1)), (2, .int (iI x2)), (3, .int (iI x3))] kd47_15.2.1 rfl (by decide) rfl ?_
                              refine X_goto hK 105 kd47_15.2.2.1 (by decide) ?_
                              refine X_lv [(5, .int (iI (z1895 + 1))), (4, .int (iI z5)), (0, .ref a0), (1, .int (iI x1)), (2, .int (iI x2)), (3, .int (iI x3))] [0, 2, 3, 4, 5, 6] rfl ?_
                              exact ihP1999  g2120 (xM.tr (xM.tr xM.rf xLe.rf hg1896 (by decide)) xLe.rf hg2120 (by decide)) (z1895 + 1) (by omega) (by omega) (xLr.row v2130 (by omega)) (by omega)
                            · refine X_aloadn hK (i := 0) 3 kd47_11.2.2.2.2.2.2.2.2.2.2.2 rfl rfl ?_
                              refine X_getK hK fl_X12_153_13 hs_a0 ((hg2120 a0 13 0 72 hs_a0 (by decide)).trans ((hg1896 a0 13 0 72 hs_a0 (by decide)).trans ((hg1692 a0 13 0 72 hs_a0 (by decide)).trans ((hg3 a0 13 0 72 hs_a0 (by decide)).trans ((xs_k hg1 (by decide)).trans hma4))))) kd47_12.1 ?_
                              refine X_bipush hK kd47_12.2.1 (by decide) ?_
                              refine X_iload hK (i := 5) 1 kd47_12.2.2.1 rfl ?_
                              refine X_imul hK kd47_12.2.2.2.1 ?_
                              refine X_iload hK (i := 6) 0 kd47_12.2.2.2.2.1 rfl ?_
                              refine X_iadd hK kd47_12.2.2.2.2.2.1 ?_
                              refine X_aloadn hK (i := 0) 3 kd47_12.2.2.2.2.2.2.1 rfl rfl ?_
                              refine X_getK hK fl_X12_7_13 hs_a0 ((hg2120 a0 13 0 1 hs_a0 (by decide)).trans ((hg1896 a0 13 0 1 hs_a0 (by decide)).trans ((hg1692 a0 13 0 1 hs_a0 (by decide)).trans ((hg3 a0 13 0 1 hs_a0 (by decide)).trans ((xs_k hg1 (by decide)).trans ey0))))) kd47_12.2.2.2.2.2.2.2.1 ?_
                              refine X_iloadn hK (i := 1) 4 kd47_12.2.2.2.2.2.2.2.2.1 rfl rfl ?_
                              refine X_iload hK (i := 5) 1 kd47_12.2.2.2.2.2.2.2.2.2.1 rfl ?_
                              refine X_imul hK kd47_12.2.2.2.2.2.2.2.2.2.2.1 ?_
                              have hm2132 := xmulB (a := x1) (b := z1895) (A := 8) (B := 7) (by omega) (by omega) (by omega) (by omega)
                              refine X_iload hK (i := 6) 0 kd47_12.2.2.2.2.2.2.2.2.2.2.2 rfl ?_
                              refine X_iadd hK kd47_13.1 ?_
                              refine X_iald hK hs_y0 (by decide) sl_14100 (by omega) (by omega) kd47_13.2.1 (fun z2133 ez2133 lz2133 uz2133 => ?_)
                              have hl2134 : xv g y0 ((x1 * z1895) + z2119) = z2133 := xv_e (j := ((x1 * z1895) + z2119)) ((((((hg2120 _ _ _ _ hs_y0 (by rw [xky_a (by decide)]; decide)).trans (hg1896 _ _ _ _ hs_y0 (by rw [xky_a (by decide)]; decide))).trans (hg1692 _ _ _ _ hs_y0 (by rw [xky_a (by decide)]; decide))).trans (hg3 _ _ _ _ hs_y0 (by rw [xky_a (by decide)]; decide))).trans (xs_a hg1 (xne hs_y0 hs_a0 (by decide)))).symm.trans ez2133) (by omega)
                              refine X_iast hK hs_gm8 (by decide) (by decide) sl_18100 (by omega) (by omega) (by omega) (by omega) kd47_13.2.2.1 (fun g2135 hg2135 => ?_)
                              refine X_aloadn hK (i := 0) 3 kd47_13.2.2.2.1 rfl rfl ?_
                              refine X_getK hK fl_X12_156_13 hs_a0 ((xs_a hg2135 (xne hs_a0 hs_gm8 (by decide))).trans ((hg2120 a0 13 0 73 hs_a0 (by decide)).trans ((hg1896 a0 13 0 73 hs_a0 (by decide)).trans ((hg1692 a0 13 0 73 hs_a0 (by decide)).trans ((hg3 a0 13 0 73 hs_a0 (by decide)).trans ((xs_k hg1 (by decide)).trans hma6)))))) kd47_13.2.2.2.2.1 ?_
                              refine X_bipush hK kd47_13.2.2.2.2.2.1 (by decide) ?_
                              refine X_iload hK (i := 5) 1 kd47_13.2.2.2.2.2.2.1 rfl ?_
                              refine X_imul hK kd47_13.2.2.2.2.2.2.2.1 ?_
                              refine X_iload hK (i := 6) 0 kd47_13.2.2.2.2.2.2.2.2.1 rfl ?_
                              refine X_iadd hK kd47_13.2.2.2.2.2.2.2.2.2.1 ?_
                              refine X_aloadn hK (i := 0) 3 kd47_13.2.2.2.2.2.2.2.2.2.2.1 rfl rfl ?_
                              refine X_getK hK fl_X12_7_13 hs_a0 ((xs_a hg2135 (xne hs_a0 hs_gm8 (by decide))).trans ((hg2120 a0 13 0 1 hs_a0 (by decide)).trans ((hg1896 a0 13 0 1 hs_a0 (by decide)).trans ((hg1692 a0 13 0 1 hs_a0 (by decide)).trans ((hg3 a0 13 0 1 hs_a0 (by decide)).trans ((xs_k hg1 (by decide)).trans ey0)))))) kd47_13.2.2.2.2.2.2.2.2.2.2.2 ?_
                              refine X_iloadn hK (i := 1) 4 kd47_14.1 rfl rfl ?_
                              refine X_iloadn hK (i := 1) 4 kd47_14.2.1 rfl rfl ?_
                              refine X_imul hK kd47_14.2.2.1 ?_
                              have hm2136 := xmulB (a := x1) (b := x1) (A := 8) (B := 8) (by omega) (by omega) (by omega) (by omega)
                              refine X_iloadn hK (i := 1) 4 kd47_14.2.2.2.1 rfl rfl ?_
                              refine X_iload hK (i := 5) 1 kd47_14.2.2.2.2.1 rfl ?_
                              refine X_imul hK kd47_14.2.2.2.2.2.1 ?_
                              have hm2137 := xmulB (a := x1) (b := z1895) (A := 8) (B := 7) (by omega) (by omega) (by omega) (by omega)
                              refine X_iadd hK kd47_14.2.2.2.2.2.2.1 ?_
                              refine X_iload hK (i := 6) 0 kd47_14.2.2.2.2.2.2.2.1 rfl ?_
                              refine X_iadd hK kd47_14.2.2.2.2.2.2.2.2.1 ?_
                              refine X_iald hK hs_y0 (by decide) sl_14100 (by omega) (by omega) kd47_14.2.2.2.2.2.2.2.2.2.1 (fun z2138 ez2138 lz2138 uz2138 => ?_)
                              have hl2139 : xv g y0 (((x1 * x1) + (x1 * z1895)) + z2119) = z2138 := xv_e (j := (((x1 * x1) + (x1 * z1895)) + z2119)) (((((((xs_a hg2135 (xne hs_y0 hs_gm8 (by decide))).trans (hg2120 _ _ _ _ hs_y0 (by rw [xky_a (by decide)]; decide))).trans (hg1896 _ _ _ _ hs_y0 (by rw [xky_a (by decide)]; decide))).trans (hg1692 _ _ _ _ hs_y0 (by rw [xky_a (by decide)]; decide))).trans (hg3 _ _ _ _ hs_y0 (by rw [xky_a (by decide)]; decide))).trans (xs_a hg1 (xne hs_y0 hs_a0 (by decide)))).symm.trans ez2138) (by omega)
                              refine X_iast hK hs_mm8 (by decide) (by decide) sl_18200 (by omega) (by omega) (by omega) (by omega) kd47_14.2.2.2.2.2.2.2.2.2.2.1 (fun g2140 hg2140 => ?_)
                              refine X_iinc hK (i := 6) (z := z2119) (n := 1) 0 [(6, .int (iI (z2119 + 1))), (5, .int (iI z1895)), (4, .int (iI z5)), (0, .ref a0), (1, .int (iI x1)), (2, .int (iI x2)), (3, .int (iI x3))] kd47_14.2.2.2.2.2.2.2.2.2.2.2 rfl (by decide) rfl ?_
                              refine X_goto hK 114 kd47_15.1 (by decide) ?_
                              exact ihP2129  g2140 (xM_ua (xM_ua (xM.tr xM.rf xLe.rf hg2120 (by decide)) hg2135 hs_gm8 (by decide) (by decide)) hg2140 hs_mm8 (by decide) (by decide)) (z2119 + 1) (by omega) (by omega) (xLr.s (j := ((8 * z1895) + z2119)) v2130 (by omega) (by omega) (by omega) (by omega) (by rw [show z1895 * x1 + z2119 = x1 * z1895 + z2119 by rw [Int.mul_comm]]; exact hl2134) (by rw [show x1 * x1 + (z1895 * x1 + z2119) = x1 * x1 + x1 * z1895 + z2119 by rw [Int.mul_comm z1895 x1, ← Int.add_assoc]]; exact hl2139) (show xv g2140 gm8 ((8 * z1895) + z2119) = z2133 from by rw [(xv_a hg2140 (xne hs_gm8 hs_mm8 (by decide))), xv_s hg2135 (by omega)]) (fun i9 hi9 h09 => (show xv g2140 gm8 i9 = xv g2120 gm8 i9 from by rw [(xv_a hg2140 (xne hs_gm8 hs_mm8 (by decide))), (xv_k (i := i9) hg2135 (by omega) (by omega) (by omega))])) (show xv g2140 mm8 ((8 * z1895) + z2119) = z2138 from by rw [xv_s hg2140 (by omega)]) (fun i9 hi9 h09 => (show xv g2140 mm8 i9 = xv g2120 mm8 i9 from by rw [(xv_k (i := i9) hg2140 (by omega) (by omega) (by omega)), (xv_a hg2135 (xne hs_mm8 hs_gm8 (by decide)))]))) (by omega)
                        exact P2129 ((24 - 0 : Int).toNat + 1) g1896 xM.rf 0 (by omega) (by omega) v2000 (by omega)
                  exact P1999 ((24 - 0 : Int).toNat + 1) g1692 xM.rf 0 (by omega) (by omega) xLr.z (by omega)
                · refine X_aloadn hK (i := 0) 2 kd47_9.2.2.2.2.2.2.2.1 rfl rfl ?_
                  refine X_getK hK fl_X12_171_13 hs_a0 ((hg1692 a0 13 0 80 hs_a0 (by decide)).trans ((hg3 a0 13 0 80 hs_a0 (by decide)).trans ((xs_k hg1 (by decide)).trans ekg8))) kd47_9.2.2.2.2.2.2.2.2.1 ?_
                  refine X_iload hK (i := 5) 0 kd47_9.2.2.2.2.2.2.2.2.2.1 rfl ?_
                  refine X_aloadn hK (i := 0) 2 kd47_9.2.2.2.2.2.2.2.2.2.2.1 rfl rfl ?_
                  refine X_getK hK fl_X12_153_13 hs_a0 ((hg1692 a0 13 0 72 hs_a0 (by decide)).trans ((hg3 a0 13 0 72 hs_a0 (by decide)).trans ((xs_k hg1 (by decide)).trans hma4))) kd47_9.2.2.2.2.2.2.2.2.2.2.2 ?_
                  refine X_iload hK (i := 5) 0 kd47_10.1 rfl ?_
                  refine X_iald hK hs_gm8 (by decide) sl_18100 (by omega) (by omega) kd47_10.2.1 (fun z2141 ez2141 lz2141 uz2141 => ?_)
                  have hw2142 : xv g1692 gm8 z1691 = z2141 := xv_e (j := z1691) ez2141 (by omega)
                  refine X_iast hK hs_kg8 (by decide) (by decide) sl_18600 (by omega) (by omega) (by omega) (by omega) kd47_10.2.2.1 (fun g2143 hg2143 => ?_)
                  refine X_aloadn hK (i := 0) 2 kd47_10.2.2.2.1 rfl rfl ?_
                  refine X_getK hK fl_X12_174_13 hs_a0 ((xs_a hg2143 (xne hs_a0 hs_kg8 (by decide))).trans ((hg1692 a0 13 0 81 hs_a0 (by decide)).trans ((hg3 a0 13 0 81 hs_a0 (by decide)).trans ((xs_k hg1 (by decide)).trans ekm8)))) kd47_10.2.2.2.2.1 ?_
                  refine X_iload hK (i := 5) 0 kd47_10.2.2.2.2.2.1 rfl ?_
                  refine X_aloadn hK (i := 0) 2 kd47_10.2.2.2.2.2.2.1 rfl rfl ?_
                  refine X_getK hK fl_X12_156_13 hs_a0 ((xs_a hg2143 (xne hs_a0 hs_kg8 (by decide))).trans ((hg1692 a0 13 0 73 hs_a0 (by decide)).trans ((hg3 a0 13 0 73 hs_a0 (by decide)).trans ((xs_k hg1 (by decide)).trans hma6)))) kd47_10.2.2.2.2.2.2.2.1 ?_
                  refine X_iload hK (i := 5) 0 kd47_10.2.2.2.2.2.2.2.2.1 rfl ?_
                  refine X_iald hK hs_mm8 (by decide) sl_18200 (by omega) (by omega) kd47_10.2.2.2.2.2.2.2.2.2.1 (fun z2144 ez2144 lz2144 uz2144 => ?_)
                  have hw2145 : xv g2143 mm8 z1691 = z2144 := xv_e (j := z1691) ez2144 (by omega)
                  refine X_iast hK hs_km8 (by decide) (by decide) sl_18700 (by omega) (by omega) (by omega) (by omega) kd47_10.2.2.2.2.2.2.2.2.2.2.1 (fun g2146 hg2146 => ?_)
                  refine X_iinc hK (i := 5) (z := z1691) (n := 1) 0 [(5, .int (iI (z1691 + 1))), (4, .int (iI z5)), (0, .ref a0), (1, .int (iI x1)), (2, .int (iI x2)), (3, .int (iI x3))] kd47_10.2.2.2.2.2.2.2.2.2.2.2 rfl (by decide) rfl ?_
                  refine X_goto hK 61 kd47_11.1 (by decide) ?_
                  exact ihP1891  g2146 (xM_ua (xM_ua (xM.tr xM.rf xLe.rf hg1692 (by decide)) hg2143 hs_kg8 (by decide) (by decide)) hg2146 hs_km8 (by decide) (by decide)) (z1691 + 1) (by omega) (by omega) (fun k9 q1 q2 => by by_cases e9 : k9 = z1691; (rw [e9, (show xv g2146 kg8 z1691 = z2141 from by rw [(xv_a hg2146 (xne hs_kg8 hs_km8 (by decide))), xv_s hg2143 (by omega)])]; have h8 := hw2142; rw [(Eq.trans (Eq.trans (xv_m hg1692 hs_gm8 (by decide) (by decide)) (xv_m hg3 hs_gm8 (by decide) (by decide))) (xv_a hg1 (xne hs_gm8 hs_a0 (by decide))))] at h8; exact h8.symm); (rw [(show xv g2146 kg8 k9 = xv g1692 kg8 k9 from by rw [(xv_a hg2146 (xne hs_kg8 hs_km8 (by decide))), (xv_k (i := k9) hg2143 (by omega) (by omega) (by omega))])]; exact v1892 k9 q1 (by omega))) (fun k9 q1 q2 => by by_cases e9 : k9 = z1691; (rw [e9, (show xv g2146 km8 z1691 = z2144 from by rw [xv_s hg2146 (by omega)])]; have h8 := hw2145; rw [(Eq.trans (Eq.trans (Eq.trans (xv_a hg2143 (xne hs_mm8 hs_kg8 (by decide))) (xv_m hg1692 hs_mm8 (by decide) (by decide))) (xv_m hg3 hs_mm8 (by decide) (by decide))) (xv_a hg1 (xne hs_mm8 hs_a0 (by decide))))] at h8; exact h8.symm); (rw [(show xv g2146 km8 k9 = xv g1692 km8 k9 from by rw [(xv_k (i := k9) hg2146 (by omega) (by omega) (by omega)), (xv_a hg2143 (xne hs_km8 hs_kg8 (by decide)))])]; exact v1893 k9 q1 (by omega))) (by omega)
            exact P1891 ((80 - 0 : Int).toNat + 1) g3 xM.rf 0 (by omega) (by omega) (fun k q1 q2 => by omega) (fun k q1 q2 => by omega) (by omega)
          · refine X_iconst hK kd47_9.1 ?_
            exact hret _ _ _ _ _ _ _ kd47_9.2.1 ⟨rfl, (-1), rfl, (by omega), (by omega), (k7.trans (by congr 2 <;> omega)), ⟨n8, xv g3 gm8, xv g3 mm8, xv g3 h8, ⟨h8, gm8, mm8, m8, z8, hs_a0, ((hg3 a0 13 0 74 hs_a0 (by decide)).trans ((xs_k hg1 (by decide)).trans hma2)), hs_h8, ((hg3 a0 13 0 72 hs_a0 (by decide)).trans ((xs_k hg1 (by decide)).trans hma4)), hs_gm8, ((hg3 a0 13 0 73 hs_a0 (by decide)).trans ((xs_k hg1 (by decide)).trans hma6)), hs_mm8, ((hg3 a0 13 0 78 hs_a0 (by decide)).trans ((xs_k hg1 (by decide)).trans hma8)), by omega, by omega, ((hg3 a0 13 0 79 hs_a0 (by decide)).trans ((xs_k hg1 (by decide)).trans hma11)), hma12, (fun k q1 q2 => by rw [(Eq.trans (xv_m hg3 hs_h8 (by decide) (by decide)) (xv_a hg1 (xne hs_h8 hs_a0 (by decide)))), hC8]; exact hrg k q1 q2), rfl, rfl, rfl⟩, (Or.inl ⟨by omega, rfl, (fun k9 _ _ => congrFun ((Eq.trans (xv_m hg3 hs_gm8 (by decide) (by decide)) (xv_a hg1 (xne hs_gm8 hs_a0 (by decide)))).trans hG8) k9), (fun k9 _ _ => congrFun ((Eq.trans (xv_m hg3 hs_mm8 (by decide) (by decide)) (xv_a hg1 (xne hs_mm8 hs_a0 (by decide)))).trans hM8) k9), (fun k9 _ _ => congrFun ((Eq.trans (xv_m hg3 hs_h8 (by decide) (by decide)) (xv_a hg1 (xne hs_h8 hs_a0 (by decide)))).trans hC8) k9), (Or.inl (fun h9 => by unfold xPv at h9; omega))⟩)⟩⟩ (Nat.le_refl _) (Nat.le_refl _)

set_option maxHeartbeats 4000000 in
set_option maxRecDepth 100000 in
theorem c3_mpeace (l : Launch) (D : va_G) (kA : Nat → ClassId) (b0 : Nat) (t0 : Nat → Nat) (S : xT) (g : xG) (a0 : Nat) (x1 : Int) (n8 : Int) (G8 : Int → Int) (M8 : Int → Int) (C8 : Int → Int) (hs_a0 : S a0 = some (13, 0)) (hx1 : (-2147483648) ≤ x1 ∧ x1 ≤ 2147483647) (hp0 : xMa S g a0 n8 G8 M8 C8) : xMt l yX12_peace cX12_peace 2 (some .int) 1 0 0 26 D kA b0 t0 [(13, 0)] [.ref a0, .int (iI x1)] S g (fun (r : Option Value) (S1 : xT) (g1 : xG) => S = S1 ∧ ∃ z : Int, r = some (.int (iI z)) ∧ (-1) ≤ z ∧ z ≤ 1 ∧ (xPe n8 x1 z G8 M8 C8)) := by
  refine xEnterI (by decide) (by simp [lg_sl, Value.category]) [(0, .ref a0), (1, .int (iI x1))] rfl ?_
  intro K E hK hret _ _ _
  refine X_aloadn hK (i := 0) 0 kd47_19.2.2.2.2.1 rfl rfl ?_
  obtain ⟨h8, gm8, mm8, m8, z8, hma1, hma2, hs_h8, hma4, hs_gm8, hma6, hs_mm8, hma8, hma9, hma10, hma11, hma12, hrg, hG8, hM8, hC8⟩ := hp0
  refine X_iconst hK kd47_19.2.2.2.2.2.1 ?_
  refine X_puti hK fl_X12_198_13 hs_a0 (by decide) sl_13_0 (by omega) (by omega) kd47_19.2.2.2.2.2.2.1 (fun g1 hg1 => ?_)
  refine X_aloadn hK (i := 0) 0 kd47_19.2.2.2.2.2.2.2.1 rfl rfl ?_
  refine X_getK hK fl_X12_462_13 hs_a0 ((xs_k hg1 (by decide)).trans hma11) kd47_19.2.2.2.2.2.2.2.2.1 ?_
  refine X_if_eq hK 23 (by omega) kd47_19.2.2.2.2.2.2.2.2.2.1 (by decide) (fun c2 => ?_) (fun c2 => ?_)
  · refine X_iconst hK kd47_20.2.2.2.1 ?_
    exact hret _ _ _ _ _ _ _ kd47_20.2.2.2.2.1 ⟨rfl, (-1), rfl, (by omega), (by omega), (Or.inl ⟨by omega, by omega⟩)⟩ (Nat.le_refl _) (Nat.le_refl _)
  · refine X_iloadn hK (i := 1) 1 kd47_19.2.2.2.2.2.2.2.2.2.2.1 rfl rfl ?_
    refine X_iconst hK kd47_19.2.2.2.2.2.2.2.2.2.2.2 ?_
    refine X_sipush hK kd47_20.1 (by decide) ?_
    refine X_callS hK [.int (iI x1), .int (iI 1), .int (iI 255)] [] lk_X12_211 (c_X12_isIn _ _ _ _ _ S g1 x1 1 255 (by omega) (by omega) (by omega)) kd47_20.2.1 rfl rfl (by simp [Value.category]) (by decide) (by decide) (by decide) (by decide) (fun r3 S5 g4 pr3 qr3 hg4 => ?_)
    obtain ⟨rfl, rfl, z6, rfl, lz6, uz6, k7⟩ := pr3
    refine X_st [.int (iI z6)] rfl ?_
    refine X_if_ne hK 25 (by omega) kd47_20.2.2.1 (by decide) (fun c8 => ?_) (fun c8 => ?_)
    · refine X_aloadn hK (i := 0) 0 kd47_20.2.2.2.2.2.1 rfl rfl ?_
      refine X_aloadn hK (i := 0) 0 kd47_20.2.2.2.2.2.2.1 rfl rfl ?_
      refine X_getK hK fl_X12_159_13 hs_a0 ((xs_k hg1 (by decide)).trans hma2) kd47_20.2.2.2.2.2.2.2.1 ?_
      refine X_aloadn hK (i := 0) 0 kd47_20.2.2.2.2.2.2.2.2.1 rfl rfl ?_
      refine X_getK hK fl_X12_459_13 hs_a0 ((xs_k hg1 (by decide)).trans hma8) kd47_20.2.2.2.2.2.2.2.2.2.1 ?_
      refine X_iloadn hK (i := 1) 1 kd47_20.2.2.2.2.2.2.2.2.2.2.1 rfl rfl ?_
      refine X_callV hK [.ref h8, .int (iI m8), .int (iI x1)] [] lk_X12_445 (c_mPeace_h _ _ _ _ _ S g1 a0 h8 m8 x1 gm8 mm8 hs_a0 hs_h8 (by omega) (by omega) ((xs_k hg1 (by decide)).trans hma4) hs_gm8 ((xs_k hg1 (by decide)).trans hma6) hs_mm8 (by rw [(xv_a hg1 (xne hs_h8 hs_a0 (by decide)))]; exact (fun k9 q1 q2 => by rw [hC8]; exact (hrg k9 q1 (by omega)).1))) hs_a0 ⟨by decide, rfl⟩ kd47_20.2.2.2.2.2.2.2.2.2.2.2 rfl rfl (by simp [Value.category]) (by decide) (by decide) (by decide) (by decide) (fun r9 S11 g10 pr9 qr9 hg10 => ?_)
      obtain ⟨rfl, rfl, z12, rfl, lz12, uz12, k13⟩ := pr9
      refine X_st [.int (iI z12)] rfl ?_
      refine X_if_eq hK 45 (by omega) kd47_21.1 (by decide) (fun c14 => ?_) (fun c14 => ?_)
      · refine X_iconst hK kd47_21.2.2.2.1 ?_
        exact hret _ _ _ _ _ _ _ kd47_21.2.2.2.2 ⟨rfl, 0, rfl, (by omega), (by omega), (Or.inr ⟨by omega, by omega, by omega, by omega, by omega, (by have q9 := k13; rw [(xv_a hg1 (xne hs_gm8 hs_a0 (by decide))), hG8, (xv_a hg1 (xne hs_mm8 hs_a0 (by decide))), hM8, (xv_a hg1 (xne hs_h8 hs_a0 (by decide))), hC8] at q9; rw [show n8 = m8 by omega, ← q9]; omega)⟩)⟩ (Nat.le_refl _) (Nat.le_refl _)
      · refine X_iconst hK kd47_21.2.1 ?_
        refine X_goto hK 46 kd47_21.2.2.1 (by decide) ?_
        exact hret _ _ _ _ _ _ _ kd47_21.2.2.2.2 ⟨rfl, 1, rfl, (by omega), (by omega), (Or.inr ⟨by omega, by omega, by omega, by omega, by omega, (by have q9 := k13; rw [(xv_a hg1 (xne hs_gm8 hs_a0 (by decide))), hG8, (xv_a hg1 (xne hs_mm8 hs_a0 (by decide))), hM8, (xv_a hg1 (xne hs_h8 hs_a0 (by decide))), hC8] at q9; rw [show n8 = m8 by omega, ← q9]; omega)⟩)⟩ (Nat.le_refl _) (Nat.le_refl _)
    · refine X_iconst hK kd47_20.2.2.2.1 ?_
      exact hret _ _ _ _ _ _ _ kd47_20.2.2.2.2.1 ⟨rfl, (-1), rfl, (by omega), (by omega), (Or.inl ⟨by omega, by omega⟩)⟩ (Nat.le_refl _) (Nat.le_refl _)

set_option maxHeartbeats 4000000 in
set_option maxRecDepth 100000 in
theorem c3_mpartedAt (l : Launch) (D : va_G) (kA : Nat → ClassId) (b0 : Nat) (t0 : Nat → Nat) (S : xT) (g : xG) (a0 : Nat) (x1 : Int) (n8 : Int) (G8 : Int → Int) (M8 : Int → Int) (C8 : Int → Int) (hs_a0 : S a0 = some (13, 0)) (hx1 : (-2147483648) ≤ x1 ∧ x1 ≤ 2147483647) (hp0 : xMa S g a0 n8 G8 M8 C8) : xMt l yX12_partedAt cX12_partedAt 2 (some .int) 0 0 0 0 D kA b0 t0 [(13, 0)] [.ref a0, .int (iI x1)] S g (fun (r : Option Value) (S1 : xT) (g1 : xG) => S = S1 ∧ ∃ z : Int, r = some (.int (iI z)) ∧ (-1) ≤ z ∧ z ≤ 7 ∧ (z = if 0 ≤ x1 ∧ x1 < n8 then C8 x1 else -1)) := by
  refine xEnterI (by decide) (by simp [lg_sl, Value.category]) [(0, .ref a0), (1, .int (iI x1))] rfl ?_
  intro K E hK hret _ _ _
  refine X_aloadn hK (i := 0) 0 kd28_115.2.2.2.2.2.2.2.2.2.1 rfl rfl ?_
  obtain ⟨h8, gm8, mm8, m8, z8, hma1, hma2, hs_h8, hma4, hs_gm8, hma6, hs_mm8, hma8, hma9, hma10, hma11, hma12, hrg, hG8, hM8, hC8⟩ := hp0
  refine X_iconst hK kd28_115.2.2.2.2.2.2.2.2.2.2.1 ?_
  refine X_puti hK fl_X12_198_13 hs_a0 (by decide) sl_13_0 (by omega) (by omega) kd28_115.2.2.2.2.2.2.2.2.2.2.2 (fun g1 hg1 => ?_)
  refine X_aloadn hK (i := 0) 0 kd28_116.1 rfl rfl ?_
  refine X_getK hK fl_X12_462_13 hs_a0 ((xs_k hg1 (by decide)).trans hma11) kd28_116.2.1 ?_
  refine X_if_eq hK 33 (by omega) kd28_116.2.2.1 (by decide) (fun c2 => ?_) (fun c2 => ?_)
  · refine X_iconst hK kd28_117.2.2.1 ?_
    exact hret _ _ _ _ _ _ _ kd28_117.2.2.2.1 ⟨rfl, (-1), rfl, (by omega), (by omega), (by rw [if_neg (by omega)])⟩ (Nat.le_refl _) (Nat.le_refl _)
  · refine X_iloadn hK (i := 1) 1 kd28_116.2.2.2.1 rfl rfl ?_
    refine X_if_lt hK 33 (by omega) kd28_116.2.2.2.2.1 (by decide) (fun c3 => ?_) (fun c3 => ?_)
    · refine X_iconst hK kd28_117.2.2.1 ?_
      exact hret _ _ _ _ _ _ _ kd28_117.2.2.2.1 ⟨rfl, (-1), rfl, (by omega), (by omega), (by rw [if_neg (by omega)])⟩ (Nat.le_refl _) (Nat.le_refl _)
    · refine X_iloadn hK (i := 1) 1 kd28_116.2.2.2.2.2.1 rfl rfl ?_
      refine X_aloadn hK (i := 0) 0 kd28_116.2.2.2.2.2.2.1 rfl rfl ?_
      refine X_getK hK fl_X12_459_13 hs_a0 ((xs_k hg1 (by decide)).trans hma8) kd28_116.2.2.2.2.2.2.2.1 ?_
      refine X_icmp_ge hK 33 (by omega) (by omega) kd28_116.2.2.2.2.2.2.2.2.1 (by decide) (fun c4 => ?_) (fun c4 => ?_)
      · refine X_iconst hK kd28_117.2.2.1 ?_
        exact hret _ _ _ _ _ _ _ kd28_117.2.2.2.1 ⟨rfl, (-1), rfl, (by omega), (by omega), (by rw [if_neg (by omega)])⟩ (Nat.le_refl _) (Nat.le_refl _)
      · refine X_aloadn hK (i := 0) 0 kd28_116.2.2.2.2.2.2.2.2.2.1 rfl rfl ?_
        refine X_getK hK fl_X12_159_13 hs_a0 ((xs_k hg1 (by decide)).trans hma2) kd28_116.2.2.2.2.2.2.2.2.2.2.1 ?_
        refine X_iloadn hK (i := 1) 1 kd28_116.2.2.2.2.2.2.2.2.2.2.2 rfl rfl ?_
        refine X_iald hK hs_h8 (by decide) sl_18300 (by omega) (by omega) kd28_117.1 (fun z5 ez5 lz5 uz5 => ?_)
        have hr6 : C8 x1 = z5 := by rw [← hC8, ← (xv_a hg1 (xne hs_h8 hs_a0 (by decide)))]; exact xv_e (j := x1) ez5 (by omega)
        refine X_goto hK 34 kd28_117.2.1 (by decide) ?_
        exact hret _ _ _ _ _ _ _ kd28_117.2.2.2.1 ⟨rfl, z5, rfl, (by omega), (by omega), (by rw [if_pos (by omega), hr6])⟩ (Nat.le_refl _) (Nat.le_refl _)
