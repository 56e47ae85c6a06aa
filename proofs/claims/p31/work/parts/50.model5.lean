theorem m_10_9 : Cond.fieldLink RX12 177 "PaperBoysModel" "need" "[I" ∈ wsL_law := ch_10 _ (List.mem_of_getElem? (i := 9) rfl)
theorem m_10_10 : Cond.fieldLink RX12 180 "PaperBoysModel" "stop" "[I" ∈ wsL_law := ch_10 _ (List.mem_of_getElem? (i := 10) rfl)
theorem m_10_12 : Cond.fieldLink RX12 186 "PaperBoysModel" "tryWay" "[I" ∈ wsL_law := ch_10 _ (List.mem_of_getElem? (i := 12) rfl)
theorem m_10_13 : Cond.fieldLink RX12 189 "PaperBoysModel" "tryAt" "[I" ∈ wsL_law := ch_10 _ (List.mem_of_getElem? (i := 13) rfl)
theorem m_55_14 : Cond.constant RX12 465 (65535) ∈ wsL_law := ch_55 _ (List.mem_of_getElem? (i := 14) rfl)
theorem m_55_18 : Cond.methodLink RX12 467 yX12_mayGo ∈ wsL_law := ch_55 _ (List.mem_of_getElem? (i := 18) rfl)
theorem m_55_19 : Cond.instanceMethod yX12_mayGo ∈ wsL_law := ch_55 _ (List.mem_of_getElem? (i := 19) rfl)
theorem m_55_20 : Cond.selects RX12 yX12_mayGo yX12_mayGo ∈ wsL_law := ch_55 _ (List.mem_of_getElem? (i := 20) rfl)
theorem m_55_21 : Cond.code yX12_mayGo cX12_mayGo 6 (some .boolean) ∈ wsL_law := ch_55 _ (List.mem_of_getElem? (i := 21) rfl)
theorem m_55_22 : Cond.methodLink RX12 471 yX12_comesAt ∈ wsL_law := ch_55 _ (List.mem_of_getElem? (i := 22) rfl)
theorem m_55_23 : Cond.instanceMethod yX12_comesAt ∈ wsL_law := ch_55 _ (List.mem_of_getElem? (i := 23) rfl)
theorem m_56_0 : Cond.selects RX12 yX12_comesAt yX12_comesAt ∈ wsL_law := ch_56 _ (List.mem_of_getElem? (i := 0) rfl)
theorem m_56_1 : Cond.code yX12_comesAt cX12_comesAt 3 (some .int) ∈ wsL_law := ch_56 _ (List.mem_of_getElem? (i := 1) rfl)
theorem kd50_0 : (decode cX12_comesAt 0 = .ok (.iload_n 1, 1)) ∧ (decode cX12_comesAt 1 = .ok (.ifCond .ne 7, 3)) ∧ (decode cX12_comesAt 4 = .ok (.iconst 0, 1)) ∧ (decode cX12_comesAt 5 = .ok (.goto 11, 3)) ∧ (decode cX12_comesAt 8 = .ok (.aload_n 0, 1)) ∧ (decode cX12_comesAt 9 = .ok (.getfield 189, 3)) ∧ (decode cX12_comesAt 12 = .ok (.iload_n 1, 1)) ∧ (decode cX12_comesAt 13 = .ok (.iconst 1, 1)) ∧ (decode cX12_comesAt 14 = .ok (.isub, 1)) ∧ (decode cX12_comesAt 15 = .ok (.iaload, 1)) ∧ (decode cX12_comesAt 16 = .ok (.aload_n 0, 1)) ∧ (decode cX12_comesAt 17 = .ok (.getfield 47, 3)) := by decide +kernel
theorem kd50_1 : (decode cX12_comesAt 20 = .ok (.bipush 10, 2)) ∧ (decode cX12_comesAt 22 = .ok (.iload_n 1, 1)) ∧ (decode cX12_comesAt 23 = .ok (.ifCond .ne 7, 3)) ∧ (decode cX12_comesAt 26 = .ok (.iconst 0, 1)) ∧ (decode cX12_comesAt 27 = .ok (.goto 16, 3)) ∧ (decode cX12_comesAt 30 = .ok (.aload_n 0, 1)) ∧ (decode cX12_comesAt 31 = .ok (.getfield 180, 3)) ∧ (decode cX12_comesAt 34 = .ok (.aload_n 0, 1)) ∧ (decode cX12_comesAt 35 = .ok (.getfield 186, 3)) ∧ (decode cX12_comesAt 38 = .ok (.iload_n 1, 1)) ∧ (decode cX12_comesAt 39 = .ok (.iconst 1, 1)) ∧ (decode cX12_comesAt 40 = .ok (.isub, 1)) := by decide +kernel
theorem kd50_2 : (decode cX12_comesAt 41 = .ok (.iaload, 1)) ∧ (decode cX12_comesAt 42 = .ok (.iaload, 1)) ∧ (decode cX12_comesAt 43 = .ok (.imul, 1)) ∧ (decode cX12_comesAt 44 = .ok (.aload_n 0, 1)) ∧ (decode cX12_comesAt 45 = .ok (.getfield 180, 3)) ∧ (decode cX12_comesAt 48 = .ok (.iload_n 2, 1)) ∧ (decode cX12_comesAt 49 = .ok (.iaload, 1)) ∧ (decode cX12_comesAt 50 = .ok (.iadd, 1)) ∧ (decode cX12_comesAt 51 = .ok (.iaload, 1)) ∧ (decode cX12_comesAt 52 = .ok (.iadd, 1)) ∧ (decode cX12_comesAt 53 = .ok (.ireturn, 1)) ∧ (decode cX12_mayGo 0 = .ok (.iload_n 3, 1)) := by decide +kernel
theorem kd50_3 : (decode cX12_mayGo 1 = .ok (.iload_n 2, 1)) ∧ (decode cX12_mayGo 2 = .ok (.ishr, 1)) ∧ (decode cX12_mayGo 3 = .ok (.iconst 1, 1)) ∧ (decode cX12_mayGo 4 = .ok (.iand, 1)) ∧ (decode cX12_mayGo 5 = .ok (.iconst 1, 1)) ∧ (decode cX12_mayGo 6 = .ok (.if_icmp .ne 5, 3)) ∧ (decode cX12_mayGo 9 = .ok (.iconst 0, 1)) ∧ (decode cX12_mayGo 10 = .ok (.ireturn, 1)) ∧ (decode cX12_mayGo 11 = .ok (.aload_n 0, 1)) ∧ (decode cX12_mayGo 12 = .ok (.iload_n 1, 1)) ∧ (decode cX12_mayGo 13 = .ok (.iload_n 2, 1)) ∧ (decode cX12_mayGo 14 = .ok (.invokevirtual 471, 3)) := by decide +kernel
theorem kd50_4 : (decode cX12_mayGo 17 = .ok (.istore 5, 2)) ∧ (decode cX12_mayGo 19 = .ok (.iload 5, 2)) ∧ (decode cX12_mayGo 21 = .ok (.aload_n 0, 1)) ∧ (decode cX12_mayGo 22 = .ok (.getfield 177, 3)) ∧ (decode cX12_mayGo 25 = .ok (.aload_n 0, 1)) ∧ (decode cX12_mayGo 26 = .ok (.getfield 180, 3)) ∧ (decode cX12_mayGo 29 = .ok (.iload_n 2, 1)) ∧ (decode cX12_mayGo 30 = .ok (.iaload, 1)) ∧ (decode cX12_mayGo 31 = .ok (.iaload, 1)) ∧ (decode cX12_mayGo 32 = .ok (.if_icmp .gt 14, 3)) ∧ (decode cX12_mayGo 35 = .ok (.iload 5, 2)) ∧ (decode cX12_mayGo 37 = .ok (.iload 4, 2)) := by decide +kernel
theorem kd50_5 : (decode cX12_mayGo 39 = .ok (.if_icmp .ge 7, 3)) ∧ (decode cX12_mayGo 42 = .ok (.iconst 1, 1)) ∧ (decode cX12_mayGo 43 = .ok (.goto 4, 3)) ∧ (decode cX12_mayGo 46 = .ok (.iconst 0, 1)) ∧ (decode cX12_mayGo 47 = .ok (.ireturn, 1)) ∧ (decode cX12_truck 0 = .ok (.aload_n 0, 1)) ∧ (decode cX12_truck 1 = .ok (.iconst 0, 1)) ∧ (decode cX12_truck 2 = .ok (.putfield 198, 3)) ∧ (decode cX12_truck 5 = .ok (.aload_n 0, 1)) ∧ (decode cX12_truck 6 = .ok (.invokevirtual 222, 3)) ∧ (decode cX12_truck 9 = .ok (.bipush 20, 2)) ∧ (decode cX12_truck 11 = .ok (.if_icmp .eq 5, 3)) := by decide +kernel
theorem kd50_6 : (decode cX12_truck 14 = .ok (.iconst (-1), 1)) ∧ (decode cX12_truck 15 = .ok (.ireturn, 1)) ∧ (decode cX12_truck 16 = .ok (.aload_n 0, 1)) ∧ (decode cX12_truck 17 = .ok (.invokevirtual 250, 3)) ∧ (decode cX12_truck 20 = .ok (.iconst 0, 1)) ∧ (decode cX12_truck 21 = .ok (.istore_n 1, 1)) ∧ (decode cX12_truck 22 = .ok (.iconst 1, 1)) ∧ (decode cX12_truck 23 = .ok (.istore_n 2, 1)) ∧ (decode cX12_truck 24 = .ok (.iload_n 2, 1)) ∧ (decode cX12_truck 25 = .ok (.bipush 10, 2)) ∧ (decode cX12_truck 27 = .ok (.if_icmp .ge 63, 3)) ∧ (decode cX12_truck 30 = .ok (.aload_n 0, 1)) := by decide +kernel
theorem kd50_7 : (decode cX12_truck 31 = .ok (.getfield 177, 3)) ∧ (decode cX12_truck 34 = .ok (.iload_n 2, 1)) ∧ (decode cX12_truck 35 = .ok (.sipush 256, 3)) ∧ (decode cX12_truck 38 = .ok (.aload_n 0, 1)) ∧ (decode cX12_truck 39 = .ok (.getfield 7, 3)) ∧ (decode cX12_truck 42 = .ok (.iconst 2, 1)) ∧ (decode cX12_truck 43 = .ok (.iload_n 2, 1)) ∧ (decode cX12_truck 44 = .ok (.imul, 1)) ∧ (decode cX12_truck 45 = .ok (.iaload, 1)) ∧ (decode cX12_truck 46 = .ok (.imul, 1)) ∧ (decode cX12_truck 47 = .ok (.aload_n 0, 1)) ∧ (decode cX12_truck 48 = .ok (.getfield 7, 3)) := by decide +kernel
theorem kd50_8 : (decode cX12_truck 51 = .ok (.iconst 2, 1)) ∧ (decode cX12_truck 52 = .ok (.iload_n 2, 1)) ∧ (decode cX12_truck 53 = .ok (.imul, 1)) ∧ (decode cX12_truck 54 = .ok (.iconst 1, 1)) ∧ (decode cX12_truck 55 = .ok (.iadd, 1)) ∧ (decode cX12_truck 56 = .ok (.iaload, 1)) ∧ (decode cX12_truck 57 = .ok (.iadd, 1)) ∧ (decode cX12_truck 58 = .ok (.iastore, 1)) ∧ (decode cX12_truck 59 = .ok (.aload_n 0, 1)) ∧ (decode cX12_truck 60 = .ok (.getfield 177, 3)) ∧ (decode cX12_truck 63 = .ok (.iload_n 2, 1)) ∧ (decode cX12_truck 64 = .ok (.iaload, 1)) := by decide +kernel
theorem kd50_9 : (decode cX12_truck 65 = .ok (.ldc_w 465, 3)) ∧ (decode cX12_truck 68 = .ok (.if_icmp .ne 6, 3)) ∧ (decode cX12_truck 71 = .ok (.goto 13, 3)) ∧ (decode cX12_truck 74 = .ok (.aload_n 0, 1)) ∧ (decode cX12_truck 75 = .ok (.getfield 180, 3)) ∧ (decode cX12_truck 78 = .ok (.iload_n 1, 1)) ∧ (decode cX12_truck 79 = .ok (.iload_n 2, 1)) ∧ (decode cX12_truck 80 = .ok (.iastore, 1)) ∧ (decode cX12_truck 81 = .ok (.iinc 1 1, 3)) ∧ (decode cX12_truck 84 = .ok (.iinc 2 1, 3)) ∧ (decode cX12_truck 87 = .ok (.goto (-63), 3)) ∧ (decode cX12_truck 90 = .ok (.iload_n 1, 1)) := by decide +kernel
theorem kd50_10 : (decode cX12_truck 91 = .ok (.ifCond .ne 7, 3)) ∧ (decode cX12_truck 94 = .ok (.iconst 0, 1)) ∧ (decode cX12_truck 95 = .ok (.goto 6, 3)) ∧ (decode cX12_truck 98 = .ok (.ldc_w 466, 3)) ∧ (decode cX12_truck 101 = .ok (.istore_n 2, 1)) ∧ (decode cX12_truck 102 = .ok (.iconst 0, 1)) ∧ (decode cX12_truck 103 = .ok (.istore_n 3, 1)) ∧ (decode cX12_truck 104 = .ok (.iconst 0, 1)) ∧ (decode cX12_truck 105 = .ok (.istore 4, 2)) ∧ (decode cX12_truck 107 = .ok (.iload_n 1, 1)) ∧ (decode cX12_truck 108 = .ok (.ifCond .le 10, 3)) ∧ (decode cX12_truck 111 = .ok (.aload_n 0, 1)) := by decide +kernel
theorem kd50_11 : (decode cX12_truck 112 = .ok (.getfield 186, 3)) ∧ (decode cX12_truck 115 = .ok (.iconst 0, 1)) ∧ (decode cX12_truck 116 = .ok (.iconst (-1), 1)) ∧ (decode cX12_truck 117 = .ok (.iastore, 1)) ∧ (decode cX12_truck 118 = .ok (.iload 4, 2)) ∧ (decode cX12_truck 120 = .ok (.ifCond .lt 177, 3)) ∧ (decode cX12_truck 123 = .ok (.iload_n 1, 1)) ∧ (decode cX12_truck 124 = .ok (.ifCond .le 173, 3)) ∧ (decode cX12_truck 127 = .ok (.aload_n 0, 1)) ∧ (decode cX12_truck 128 = .ok (.getfield 186, 3)) ∧ (decode cX12_truck 131 = .ok (.iload 4, 2)) ∧ (decode cX12_truck 133 = .ok (.iaload, 1)) := by decide +kernel
theorem kd50_12 : (decode cX12_truck 134 = .ok (.ifCond .lt 17, 3)) ∧ (decode cX12_truck 137 = .ok (.iload_n 3, 1)) ∧ (decode cX12_truck 138 = .ok (.iconst 1, 1)) ∧ (decode cX12_truck 139 = .ok (.aload_n 0, 1)) ∧ (decode cX12_truck 140 = .ok (.getfield 186, 3)) ∧ (decode cX12_truck 143 = .ok (.iload 4, 2)) ∧ (decode cX12_truck 145 = .ok (.iaload, 1)) ∧ (decode cX12_truck 146 = .ok (.ishl, 1)) ∧ (decode cX12_truck 147 = .ok (.iconst (-1), 1)) ∧ (decode cX12_truck 148 = .ok (.ixor, 1)) ∧ (decode cX12_truck 149 = .ok (.iand, 1)) ∧ (decode cX12_truck 150 = .ok (.istore_n 3, 1)) := by decide +kernel
theorem kd50_13 : (decode cX12_truck 151 = .ok (.aload_n 0, 1)) ∧ (decode cX12_truck 152 = .ok (.getfield 186, 3)) ∧ (decode cX12_truck 155 = .ok (.iload 4, 2)) ∧ (decode cX12_truck 157 = .ok (.iaload, 1)) ∧ (decode cX12_truck 158 = .ok (.iconst 1, 1)) ∧ (decode cX12_truck 159 = .ok (.iadd, 1)) ∧ (decode cX12_truck 160 = .ok (.istore 5, 2)) ∧ (decode cX12_truck 162 = .ok (.iload 5, 2)) ∧ (decode cX12_truck 164 = .ok (.iload_n 1, 1)) ∧ (decode cX12_truck 165 = .ok (.if_icmp .ge 22, 3)) ∧ (decode cX12_truck 168 = .ok (.aload_n 0, 1)) ∧ (decode cX12_truck 169 = .ok (.iload 4, 2)) := by decide +kernel
theorem kd50_14 : (decode cX12_truck 171 = .ok (.iload 5, 2)) ∧ (decode cX12_truck 173 = .ok (.iload_n 3, 1)) ∧ (decode cX12_truck 174 = .ok (.iload_n 2, 1)) ∧ (decode cX12_truck 175 = .ok (.invokevirtual 467, 3)) ∧ (decode cX12_truck 178 = .ok (.ifCond .ne 9, 3)) ∧ (decode cX12_truck 181 = .ok (.iinc 5 1, 3)) ∧ (decode cX12_truck 184 = .ok (.goto (-22), 3)) ∧ (decode cX12_truck 187 = .ok (.iload 5, 2)) ∧ (decode cX12_truck 189 = .ok (.iload_n 1, 1)) ∧ (decode cX12_truck 190 = .ok (.if_icmp .ne 9, 3)) ∧ (decode cX12_truck 193 = .ok (.iinc 4 (-1), 3)) ∧ (decode cX12_truck 196 = .ok (.goto (-78), 3)) := by decide +kernel
theorem kd50_15 : (decode cX12_truck 199 = .ok (.aload_n 0, 1)) ∧ (decode cX12_truck 200 = .ok (.getfield 186, 3)) ∧ (decode cX12_truck 203 = .ok (.iload 4, 2)) ∧ (decode cX12_truck 205 = .ok (.iload 5, 2)) ∧ (decode cX12_truck 207 = .ok (.iastore, 1)) ∧ (decode cX12_truck 208 = .ok (.aload_n 0, 1)) ∧ (decode cX12_truck 209 = .ok (.getfield 189, 3)) ∧ (decode cX12_truck 212 = .ok (.iload 4, 2)) ∧ (decode cX12_truck 214 = .ok (.aload_n 0, 1)) ∧ (decode cX12_truck 215 = .ok (.iload 4, 2)) ∧ (decode cX12_truck 217 = .ok (.iload 5, 2)) ∧ (decode cX12_truck 219 = .ok (.invokevirtual 471, 3)) := by decide +kernel
theorem kd50_16 : (decode cX12_truck 222 = .ok (.iastore, 1)) ∧ (decode cX12_truck 223 = .ok (.iload_n 3, 1)) ∧ (decode cX12_truck 224 = .ok (.iconst 1, 1)) ∧ (decode cX12_truck 225 = .ok (.iload 5, 2)) ∧ (decode cX12_truck 227 = .ok (.ishl, 1)) ∧ (decode cX12_truck 228 = .ok (.ior, 1)) ∧ (decode cX12_truck 229 = .ok (.istore_n 3, 1)) ∧ (decode cX12_truck 230 = .ok (.iload 4, 2)) ∧ (decode cX12_truck 232 = .ok (.iload_n 1, 1)) ∧ (decode cX12_truck 233 = .ok (.iconst 1, 1)) ∧ (decode cX12_truck 234 = .ok (.isub, 1)) ∧ (decode cX12_truck 235 = .ok (.if_icmp .ge 17, 3)) := by decide +kernel
theorem kd50_17 : (decode cX12_truck 238 = .ok (.iinc 4 1, 3)) ∧ (decode cX12_truck 241 = .ok (.aload_n 0, 1)) ∧ (decode cX12_truck 242 = .ok (.getfield 186, 3)) ∧ (decode cX12_truck 245 = .ok (.iload 4, 2)) ∧ (decode cX12_truck 247 = .ok (.iconst (-1), 1)) ∧ (decode cX12_truck 248 = .ok (.iastore, 1)) ∧ (decode cX12_truck 249 = .ok (.goto (-131), 3)) ∧ (decode cX12_truck 252 = .ok (.aload_n 0, 1)) ∧ (decode cX12_truck 253 = .ok (.getfield 189, 3)) ∧ (decode cX12_truck 256 = .ok (.iload 4, 2)) ∧ (decode cX12_truck 258 = .ok (.iaload, 1)) ∧ (decode cX12_truck 259 = .ok (.istore_n 2, 1)) := by decide +kernel
theorem kd50_18 : (decode cX12_truck 260 = .ok (.iconst 0, 1)) ∧ (decode cX12_truck 261 = .ok (.istore 6, 2)) ∧ (decode cX12_truck 263 = .ok (.iload 6, 2)) ∧ (decode cX12_truck 265 = .ok (.iload_n 1, 1)) ∧ (decode cX12_truck 266 = .ok (.if_icmp .ge 28, 3)) ∧ (decode cX12_truck 269 = .ok (.aload_n 0, 1)) ∧ (decode cX12_truck 270 = .ok (.getfield 183, 3)) ∧ (decode cX12_truck 273 = .ok (.iload 6, 2)) ∧ (decode cX12_truck 275 = .ok (.aload_n 0, 1)) ∧ (decode cX12_truck 276 = .ok (.getfield 180, 3)) ∧ (decode cX12_truck 279 = .ok (.aload_n 0, 1)) ∧ (decode cX12_truck 280 = .ok (.getfield 186, 3)) := by decide +kernel
theorem kd50_19 : (decode cX12_truck 283 = .ok (.iload 6, 2)) ∧ (decode cX12_truck 285 = .ok (.iaload, 1)) ∧ (decode cX12_truck 286 = .ok (.iaload, 1)) ∧ (decode cX12_truck 287 = .ok (.iastore, 1)) ∧ (decode cX12_truck 288 = .ok (.iinc 6 1, 3)) ∧ (decode cX12_truck 291 = .ok (.goto (-28), 3)) ∧ (decode cX12_truck 294 = .ok (.goto (-176), 3)) ∧ (decode cX12_truck 297 = .ok (.iload_n 2, 1)) ∧ (decode cX12_truck 298 = .ok (.ldc_w 466, 3)) ∧ (decode cX12_truck 301 = .ok (.if_icmp .ne 5, 3)) ∧ (decode cX12_truck 304 = .ok (.iconst (-1), 1)) ∧ (decode cX12_truck 305 = .ok (.ireturn, 1)) := by decide +kernel
theorem kd50_20 : (decode cX12_truck 306 = .ok (.aload_n 0, 1)) ∧ (decode cX12_truck 307 = .ok (.iload_n 1, 1)) ∧ (decode cX12_truck 308 = .ok (.putfield 474, 3)) ∧ (decode cX12_truck 311 = .ok (.aload_n 0, 1)) ∧ (decode cX12_truck 312 = .ok (.iconst 1, 1)) ∧ (decode cX12_truck 313 = .ok (.putfield 477, 3)) ∧ (decode cX12_truck 316 = .ok (.iload_n 2, 1)) ∧ (decode cX12_truck 317 = .ok (.ireturn, 1)) := by decide +kernel
theorem fl_X12_177_13 : xF RX12 177 13 82 (.array .int) true := ⟨by decide, RX12, TX12, 91, tyX12, "PaperBoysModel", rfl, inlX12, tyX12_ok, nmX12, by decide, rfl, rfl, m_10_9, Or.inl rfl⟩
theorem fl_X12_180_13 : xF RX12 180 13 83 (.array .int) true := ⟨by decide, RX12, TX12, 91, tyX12, "PaperBoysModel", rfl, inlX12, tyX12_ok, nmX12, by decide, rfl, rfl, m_10_10, Or.inl rfl⟩
theorem fl_X12_186_13 : xF RX12 186 13 85 (.array .int) true := ⟨by decide, RX12, TX12, 91, tyX12, "PaperBoysModel", rfl, inlX12, tyX12_ok, nmX12, by decide, rfl, rfl, m_10_12, Or.inl rfl⟩
theorem fl_X12_189_13 : xF RX12 189 13 86 (.array .int) true := ⟨by decide, RX12, TX12, 91, tyX12, "PaperBoysModel", rfl, inlX12, tyX12_ok, nmX12, by decide, rfl, rfl, m_10_13, Or.inl rfl⟩
theorem lk_X12_467 : xLV RX12 467 yX12_mayGo cX12_mayGo 6 (some .boolean) 4 := ⟨m_55_18, m_55_19, m_55_20, m_1_5, m_55_21, by decide +kernel⟩
theorem lk_X12_471 : xLV RX12 471 yX12_comesAt cX12_comesAt 3 (some .int) 2 := ⟨m_55_22, m_55_23, m_56_0, m_1_5, m_56_1, by decide +kernel⟩
def xdsN (f : Int → Int) : Nat → Nat
  | 0 => 0
  | m + 1 => xdsN f m + (8 - f m).toNat * 11 ^ (9 - m)
theorem xdsN_cg {f f' : Int → Int} {m : Nat} (h : ∀ x : Nat, x < m → f' x = f x) : xdsN f' m = xdsN f m := by
  induction m with
  | zero => rfl
  | succ m ih => unfold xdsN; rw [ih (fun x hx => h x (by omega)), h m (by omega)]
def xdm (f : Int → Int) (k : Int) : Nat := xdsN f (k + 1).toNat + (k + 1).toNat
theorem xdm_pop {f : Int → Int} {k : Int} (hk : 0 ≤ k) : xdm f (k + (-1)) < xdm f k := by
  unfold xdm
  rw [show (k + (-1) + 1).toNat = k.toNat by omega, show (k + 1).toNat = k.toNat + 1 by omega]
  show _ < xdsN f k.toNat + _ + _
  generalize (8 - f k.toNat).toNat * 11 ^ (9 - k.toNat) = z
  omega
theorem xdm_mul {a b p : Nat} (h : a + 1 ≤ b) : a * p + p ≤ b * p := by
  have := Nat.mul_le_mul_right p h
  rw [Nat.succ_mul] at this
  exact this
theorem xdm_adv {f f' : Int → Int} {k i : Int} (hk : 0 ≤ k ∧ k ≤ 8) (h0 : f k < i) (hi : i ≤ 8) (e : f' k = i) (hs : ∀ x, 0 ≤ x → x < k → f' x = f x) : xdm f' k < xdm f k := by
  unfold xdm
  rw [show (k + 1).toNat = k.toNat + 1 by omega]
  have ek : ((k.toNat : Nat) : Int) = k := by omega
  have c := xdsN_cg (f := f) (f' := f') (m := k.toNat) (fun x hx => hs x (by omega) (by omega))
  have m := xdm_mul (a := (8 - i).toNat) (b := (8 - f k).toNat) (p := 11 ^ (9 - k.toNat)) (by omega)
  have hp : 0 < 11 ^ (9 - k.toNat) := Nat.pow_pos (by decide)
  show xdsN f' k.toNat + (8 - f' k.toNat).toNat * 11 ^ (9 - k.toNat) + _ < xdsN f k.toNat + (8 - f k.toNat).toNat * 11 ^ (9 - k.toNat) + _
  rw [c, ek, e]
  omega
theorem xdm_push {f f' : Int → Int} {k i : Int} (hk : 0 ≤ k ∧ k ≤ 7) (h0 : f k < i) (hi : i ≤ 8) (e : f' k = i) (e1 : f' (k + 1) = -1) (hs : ∀ x, 0 ≤ x → x < k → f' x = f x) : xdm f' (k + 1) < xdm f k := by
  unfold xdm
  rw [show (k + 1 + 1).toNat = k.toNat + 1 + 1 by omega, show (k + 1).toNat = k.toNat + 1 by omega]
  have ek : ((k.toNat : Nat) : Int) = k := by omega
  have ek1 : ((k.toNat + 1 : Nat) : Int) = k + 1 := by omega
  have c := xdsN_cg (f := f) (f' := f') (m := k.toNat) (fun x hx => hs x (by omega) (by omega))
  have m := xdm_mul (a := (8 - i).toNat) (b := (8 - f k).toNat) (p := 11 ^ (9 - k.toNat)) (by omega)
  have hp : 0 < 11 ^ (9 - (k.toNat + 1)) := Nat.pow_pos (by decide)
  have hq : 11 ^ (9 - k.toNat) = 11 ^ (9 - (k.toNat + 1)) * 11 := by
    rw [← Nat.pow_succ]
    congr 1
    omega
  show xdsN f' k.toNat + (8 - f' k.toNat).toNat * 11 ^ (9 - k.toNat) + (8 - f' ((k.toNat + 1 : Nat) : Int)).toNat * 11 ^ (9 - (k.toNat + 1)) + _ < xdsN f k.toNat + (8 - f k.toNat).toNat * 11 ^ (9 - k.toNat) + _
  rw [c, ek, ek1, e, e1]
  have h9 : (8 - (-1 : Int)).toNat = 9 := by decide
  rw [h9]
  omega
set_option maxHeartbeats 4000000 in
set_option maxRecDepth 100000 in
theorem c_X12_comesAt (l : Launch) (D : va_G) (kA : Nat → ClassId) (b0 : Nat) (t0 : Nat → Nat) (S : xT) (g : xG) (a0 : Nat) (x1 : Int) (x2 : Int) (w85 : Nat) (hs_a0 : S a0 = some (13, 0)) (hx1 : 0 ≤ x1 ∧ x1 ≤ 8) (hx2 : 0 ≤ x2 ∧ x2 ≤ 9) (ew85 : g a0 85 = .ref w85) (hs_w85 : S w85 = some (19100, 10)) (hp0 : x1 = 0 ∨ 0 ≤ xv g w85 (x1 - 1)) : xMt l yX12_comesAt cX12_comesAt 3 (some .int) 0 0 0 0 D kA b0 t0 [] [.ref a0, .int (iI x1), .int (iI x2)] S g (fun (r : Option Value) (S1 : xT) (g1 : xG) => S = S1 ∧ g = g1 ∧ ∃ z : Int, r = some (.int (iI z)) ∧ (-2147483648) ≤ z ∧ z ≤ 2147483647) := by
  refine xEnterI (by decide) (by simp [lg_sl, Value.category]) [(0, .ref a0), (1, .int (iI x1)), (2, .int (iI x2))] rfl ?_
  intro K E hK hret _ _ _
  refine X_iloadn hK (i := 1) 1 kd50_0.1 rfl rfl ?_
  refine X_if_ne hK 8 (by omega) kd50_0.2.1 (by decide) (fun c1 => ?_) (fun c1 => ?_)
  · refine X_aloadn hK (i := 0) 0 kd50_0.2.2.2.2.1 rfl rfl ?_
    refine X_getr hK 19200 10 fl_X12_189_13 hs_a0 sl_13_86 kd50_0.2.2.2.2.2.1 (fun b2 eb2 hs_b2 => ?_)
    refine X_iloadn hK (i := 1) 1 kd50_0.2.2.2.2.2.2.1 rfl rfl ?_
    refine X_iconst hK kd50_0.2.2.2.2.2.2.2.1 ?_
    refine X_isub hK kd50_0.2.2.2.2.2.2.2.2.1 ?_
    refine X_iald hK hs_b2 (by decide) sl_19200 (by omega) (by omega) kd50_0.2.2.2.2.2.2.2.2.2.1 (fun z3 ez3 lz3 uz3 => ?_)
    refine X_aloadn hK (i := 0) 0 kd50_0.2.2.2.2.2.2.2.2.2.2.1 rfl rfl ?_
    refine X_getr hK 15200 100 fl_X12_47_13 hs_a0 sl_13_15 kd50_0.2.2.2.2.2.2.2.2.2.2.2 (fun b4 eb4 hs_b4 => ?_)
    refine X_bipush hK kd50_1.1 (by decide) ?_
    refine X_iloadn hK (i := 1) 1 kd50_1.2.1 rfl rfl ?_
    refine X_if_ne hK 30 (by omega) kd50_1.2.2.1 (by decide) (fun c5 => ?_) (fun c5 => False.elim (by omega))
    refine X_aloadn hK (i := 0) 0 kd50_1.2.2.2.2.2.1 rfl rfl ?_
    refine X_getr hK 18900 10 fl_X12_180_13 hs_a0 sl_13_83 kd50_1.2.2.2.2.2.2.1 (fun b6 eb6 hs_b6 => ?_)
    refine X_aloadn hK (i := 0) 0 kd50_1.2.2.2.2.2.2.2.1 rfl rfl ?_
    refine X_getK hK fl_X12_186_13 hs_a0 ew85 kd50_1.2.2.2.2.2.2.2.2.1 ?_
    refine X_iloadn hK (i := 1) 1 kd50_1.2.2.2.2.2.2.2.2.2.1 rfl rfl ?_
    refine X_iconst hK kd50_1.2.2.2.2.2.2.2.2.2.2.1 ?_
    refine X_isub hK kd50_1.2.2.2.2.2.2.2.2.2.2.2 ?_
    refine X_iald hK hs_w85 (by decide) sl_19100 (by omega) (by omega) kd50_2.1 (fun z7 ez7 lz7 uz7 => ?_)
    have hvz7 := xv_e (j := (x1 - 1)) ez7 (by omega)
    have hzh8 : 0 ≤ z7 := by omega
    refine X_iald hK hs_b6 (by decide) sl_18900 (by omega) (by omega) kd50_2.2.1 (fun z9 ez9 lz9 uz9 => ?_)
    refine X_imul hK kd50_2.2.2.1 ?_
    refine X_aloadn hK (i := 0) 0 kd50_2.2.2.2.1 rfl rfl ?_
    refine X_getK hK fl_X12_180_13 hs_a0 eb6 kd50_2.2.2.2.2.1 ?_
    refine X_iloadn hK (i := 2) 2 kd50_2.2.2.2.2.2.1 rfl rfl ?_
    refine X_iald hK hs_b6 (by decide) sl_18900 (by omega) (by omega) kd50_2.2.2.2.2.2.2.1 (fun z10 ez10 lz10 uz10 => ?_)
    refine X_iadd hK kd50_2.2.2.2.2.2.2.2.1 ?_
    refine X_iald hK hs_b4 (by decide) sl_15200 (by omega) (by omega) kd50_2.2.2.2.2.2.2.2.2.1 (fun z11 ez11 lz11 uz11 => ?_)
    refine X_iadd hK kd50_2.2.2.2.2.2.2.2.2.2.1 ?_
    refine X_norm (fun z12 ez12 lz12 uz12 => ?_)
    exact hret _ _ _ _ _ _ _ kd50_2.2.2.2.2.2.2.2.2.2.2.1 ⟨rfl, rfl, z12, rfl, (by omega), (by omega)⟩ (Nat.le_refl _) (Nat.le_refl _)
  · refine X_iconst hK kd50_0.2.2.1 ?_
    refine X_goto hK 16 kd50_0.2.2.2.1 (by decide) ?_
    refine X_aloadn hK (i := 0) 0 kd50_0.2.2.2.2.2.2.2.2.2.2.1 rfl rfl ?_
    refine X_getr hK 15200 100 fl_X12_47_13 hs_a0 sl_13_15 kd50_0.2.2.2.2.2.2.2.2.2.2.2 (fun b13 eb13 hs_b13 => ?_)
    refine X_bipush hK kd50_1.1 (by decide) ?_
    refine X_iloadn hK (i := 1) 1 kd50_1.2.1 rfl rfl ?_
    refine X_if_ne hK 30 (by omega) kd50_1.2.2.1 (by decide) (fun c14 => False.elim (by omega)) (fun c14 => ?_)
    refine X_iconst hK kd50_1.2.2.2.1 ?_
    refine X_goto hK 43 kd50_1.2.2.2.2.1 (by decide) ?_
    refine X_imul hK kd50_2.2.2.1 ?_
    refine X_aloadn hK (i := 0) 0 kd50_2.2.2.2.1 rfl rfl ?_
    refine X_getr hK 18900 10 fl_X12_180_13 hs_a0 sl_13_83 kd50_2.2.2.2.2.1 (fun b15 eb15 hs_b15 => ?_)
    refine X_iloadn hK (i := 2) 2 kd50_2.2.2.2.2.2.1 rfl rfl ?_
    refine X_iald hK hs_b15 (by decide) sl_18900 (by omega) (by omega) kd50_2.2.2.2.2.2.2.1 (fun z16 ez16 lz16 uz16 => ?_)
    refine X_iadd hK kd50_2.2.2.2.2.2.2.2.1 ?_
    refine X_iald hK hs_b13 (by decide) sl_15200 (by omega) (by omega) kd50_2.2.2.2.2.2.2.2.2.1 (fun z17 ez17 lz17 uz17 => ?_)
    refine X_iadd hK kd50_2.2.2.2.2.2.2.2.2.2.1 ?_
    exact hret _ _ _ _ _ _ _ kd50_2.2.2.2.2.2.2.2.2.2.2.1 ⟨rfl, rfl, (0 + z17), rfl, (by omega), (by omega)⟩ (Nat.le_refl _) (Nat.le_refl _)

set_option maxHeartbeats 4000000 in
set_option maxRecDepth 100000 in
theorem c_X12_mayGo (l : Launch) (D : va_G) (kA : Nat → ClassId) (b0 : Nat) (t0 : Nat → Nat) (S : xT) (g : xG) (a0 : Nat) (x1 : Int) (x2 : Int) (x3 : Int) (x4 : Int) (w85 : Nat) (hs_a0 : S a0 = some (13, 0)) (hx1 : 0 ≤ x1 ∧ x1 ≤ 8) (hx2 : 0 ≤ x2 ∧ x2 ≤ 9) (hx3 : (-2147483648) ≤ x3 ∧ x3 ≤ 2147483647) (hx4 : (-2147483648) ≤ x4 ∧ x4 ≤ 2147483647) (ew85 : g a0 85 = .ref w85) (hs_w85 : S w85 = some (19100, 10)) (hp0 : x1 = 0 ∨ 0 ≤ xv g w85 (x1 - 1)) : xMt l yX12_mayGo cX12_mayGo 6 (some .boolean) 1 0 0 22 D kA b0 t0 [] [.ref a0, .int (iI x1), .int (iI x2), .int (iI x3), .int (iI x4)] S g (fun (r : Option Value) (S1 : xT) (g1 : xG) => S = S1 ∧ g = g1 ∧ ∃ z : Int, r = some (.int (iI z)) ∧ 0 ≤ z ∧ z ≤ 1) := by
  refine xEnterZ (by decide) (by simp [lg_sl, Value.category]) [(0, .ref a0), (1, .int (iI x1)), (2, .int (iI x2)), (3, .int (iI x3)), (4, .int (iI x4))] rfl ?_
  intro K E hK hret _ _ _
  refine X_iloadn hK (i := 3) 3 kd50_2.2.2.2.2.2.2.2.2.2.2.2 rfl rfl ?_
  refine X_iloadn hK (i := 2) 2 kd50_3.1 rfl rfl ?_
  refine X_ishr hK kd50_3.2.1 (fun z1 ez1 lz1 uz1 => ?_)
  refine X_iconst hK kd50_3.2.2.1 ?_
  refine X_iand hK kd50_3.2.2.2.1 (fun z2 ez2 lz2 uz2 => ?_)
  have bz2 := xandB ez2 ⟨lz2, uz2⟩ (by omega)
  refine X_iconst hK kd50_3.2.2.2.2.1 ?_
  refine X_icmp_ne hK 11 (by omega) (by omega) kd50_3.2.2.2.2.2.1 (by decide) (fun c3 => ?_) (fun c3 => ?_)
  · refine X_aloadn hK (i := 0) 0 kd50_3.2.2.2.2.2.2.2.2.1 rfl rfl ?_
    refine X_iloadn hK (i := 1) 1 kd50_3.2.2.2.2.2.2.2.2.2.1 rfl rfl ?_
    refine X_iloadn hK (i := 2) 2 kd50_3.2.2.2.2.2.2.2.2.2.2.1 rfl rfl ?_
    refine X_callV hK [.int (iI x1), .int (iI x2)] [] lk_X12_471 (c_X12_comesAt _ _ _ _ _ S g a0 x1 x2 w85 hs_a0 (by omega) (by omega) ew85 hs_w85 hp0) hs_a0 ⟨by decide, rfl⟩ kd50_3.2.2.2.2.2.2.2.2.2.2.2 rfl rfl (by simp [Value.category]) (by decide) (by decide) (by decide) (by decide) (fun r4 S6 g5 pr4 qr4 hg5 => ?_)
    obtain ⟨rfl, rfl, z7, rfl, lz7, uz7⟩ := pr4
    refine X_st [.int (iI z7)] rfl ?_
    refine X_istore hK (i := 5) [(5, .int (iI z7)), (0, .ref a0), (1, .int (iI x1)), (2, .int (iI x2)), (3, .int (iI x3)), (4, .int (iI x4))] kd50_4.1 (by decide) rfl ?_
    refine X_iload hK (i := 5) 0 kd50_4.2.1 rfl ?_
    refine X_aloadn hK (i := 0) 1 kd50_4.2.2.1 rfl rfl ?_
    refine X_getr hK 18800 10 fl_X12_177_13 hs_a0 sl_13_82 kd50_4.2.2.2.1 (fun b8 eb8 hs_b8 => ?_)
    refine X_aloadn hK (i := 0) 1 kd50_4.2.2.2.2.1 rfl rfl ?_
    refine X_getr hK 18900 10 fl_X12_180_13 hs_a0 sl_13_83 kd50_4.2.2.2.2.2.1 (fun b9 eb9 hs_b9 => ?_)
    refine X_iloadn hK (i := 2) 3 kd50_4.2.2.2.2.2.2.1 rfl rfl ?_
    refine X_iald hK hs_b9 (by decide) sl_18900 (by omega) (by omega) kd50_4.2.2.2.2.2.2.2.1 (fun z10 ez10 lz10 uz10 => ?_)
    refine X_iald hK hs_b8 (by decide) sl_18800 (by omega) (by omega) kd50_4.2.2.2.2.2.2.2.2.1 (fun z11 ez11 lz11 uz11 => ?_)
    refine X_icmp_gt hK 46 (by omega) (by omega) kd50_4.2.2.2.2.2.2.2.2.2.1 (by decide) (fun c12 => ?_) (fun c12 => ?_)
    · refine X_iconst hK kd50_5.2.2.2.1 ?_
      exact hret _ _ _ _ _ _ _ kd50_5.2.2.2.2.1 (by omega) (by omega) ⟨rfl, rfl, 0, rfl, (by omega), (by omega)⟩ (Nat.le_refl _) (Nat.le_refl _)
    · refine X_iload hK (i := 5) 0 kd50_4.2.2.2.2.2.2.2.2.2.2.1 rfl ?_
      refine X_iload hK (i := 4) 5 kd50_4.2.2.2.2.2.2.2.2.2.2.2 rfl ?_
      refine X_icmp_ge hK 46 (by omega) (by omega) kd50_5.1 (by decide) (fun c13 => ?_) (fun c13 => ?_)
      · refine X_iconst hK kd50_5.2.2.2.1 ?_
        exact hret _ _ _ _ _ _ _ kd50_5.2.2.2.2.1 (by omega) (by omega) ⟨rfl, rfl, 0, rfl, (by omega), (by omega)⟩ (Nat.le_refl _) (Nat.le_refl _)
      · refine X_iconst hK kd50_5.2.1 ?_
        refine X_goto hK 47 kd50_5.2.2.1 (by decide) ?_
        exact hret _ _ _ _ _ _ _ kd50_5.2.2.2.2.1 (by omega) (by omega) ⟨rfl, rfl, 1, rfl, (by omega), (by omega)⟩ (Nat.le_refl _) (Nat.le_refl _)
  · refine X_iconst hK kd50_3.2.2.2.2.2.2.1 ?_
    exact hret _ _ _ _ _ _ _ kd50_3.2.2.2.2.2.2.2.1 (by omega) (by omega) ⟨rfl, rfl, 0, rfl, (by omega), (by omega)⟩ (Nat.le_refl _) (Nat.le_refl _)

set_option maxHeartbeats 4000000 in
set_option maxRecDepth 100000 in
theorem c_X12_truck (l : Launch) (D : va_G) (kA : Nat → ClassId) (b0 : Nat) (t0 : Nat → Nat) (S : xT) (g : xG) (a0 : Nat) (n0 : Int) (w85 : Nat) (hs_a0 : S a0 = some (13, 0)) (hn0 : 0 ≤ n0 ∧ n0 ≤ 420) (en0 : g a0 2 = .int (iI n0)) (ew85 : g a0 85 = .ref w85) (hs_w85 : S w85 = some (19100, 10)) : xMt l yX12_truck cX12_truck 7 (some .int) 2 0 0 47 D kA b0 t0 [(13, 0), (13, 2), (13, 18), (15200, 0), (19100, 0), (19200, 0), (19000, 0), (13, 87), (13, 88), (18800, 0), (18900, 0)] [.ref a0] S g (fun (r : Option Value) (S1 : xT) (g1 : xG) => S = S1 ∧ ∃ z : Int, r = some (.int (iI z)) ∧ (-2147483648) ≤ z ∧ z ≤ 2147483647 ∧ (g1 a0 2 = .int (iI (0)))) := by
  refine xEnterI (by decide) (by simp [lg_sl, Value.category]) [(0, .ref a0)] rfl ?_
  intro K E hK hret _ _ _
  refine X_aloadn hK (i := 0) 0 kd50_5.2.2.2.2.2.1 rfl rfl ?_
  refine X_iconst hK kd50_5.2.2.2.2.2.2.1 ?_
  refine X_puti hK fl_X12_198_13 hs_a0 (by decide) sl_13_0 (by omega) (by omega) kd50_5.2.2.2.2.2.2.2.1 (fun g1 hg1 => ?_)
  refine X_aloadn hK (i := 0) 0 kd50_5.2.2.2.2.2.2.2.2.1 rfl rfl ?_
  refine X_callV hK [] [] lk_X12_222 (c_X12_take _ _ _ _ _ S g1 a0 n0 hs_a0 (by omega) ((xs_k hg1 (by decide)).trans en0)) hs_a0 ⟨by decide, rfl⟩ kd50_5.2.2.2.2.2.2.2.2.2.1 rfl rfl (by simp [Value.category]) (by decide) (by decide) (by decide) (by decide) (fun r2 S4 g3 pr2 qr2 hg3 => ?_)
  obtain ⟨rfl, z5, rfl, lz5, uz5, k6, k7⟩ := pr2
  refine X_st [.int (iI z5)] rfl ?_
  refine X_bipush hK kd50_5.2.2.2.2.2.2.2.2.2.2.1 (by decide) ?_
  refine X_icmp_eq hK 16 (by omega) (by omega) kd50_5.2.2.2.2.2.2.2.2.2.2.2 (by decide) (fun c8 => ?_) (fun c8 => ?_)
  · refine X_aloadn hK (i := 0) 0 kd50_6.2.2.1 rfl rfl ?_
    refine X_callV hK [] [] lk_X12_250 (c_X12_layWays _ _ _ _ _ S g3 a0 hs_a0) hs_a0 ⟨by decide, rfl⟩ kd50_6.2.2.2.1 rfl rfl (by simp [Value.category]) (by decide) (by decide) (by decide) (by decide) (fun r9 S11 g10 pr9 qr9 hg10 => ?_)
    obtain ⟨rfl, rfl⟩ := pr9
    refine X_st [] rfl ?_
    refine X_iconst hK kd50_6.2.2.2.2.1 ?_
    refine X_istoren hK (i := 1) [(1, .int (iI 0)), (0, .ref a0)] kd50_6.2.2.2.2.2.1 rfl (by decide) rfl ?_
    refine X_iconst hK kd50_6.2.2.2.2.2.2.1 ?_
    refine X_istoren hK (i := 2) [(2, .int (iI 1)), (1, .int (iI 0)), (0, .ref a0)] kd50_6.2.2.2.2.2.2.2.1 rfl (by decide) rfl ?_
    have P49731 : ∀ (nP49731 : Nat) (g39789 : xG) (_ : xM [(18900, 0), (18800, 0)] S g10 g39789) (z39787 : Int) (_ : 1 ≤ z39787) (_ : z39787 ≤ 10) (z39788 : Int) (_ : 0 ≤ z39788) (_ : z39788 ≤ 9) (_ : z39788 ≤ z39787 - 1) (_ : 26 - z39787 < (nP49731 : Int)), X K E 24 [(2, .int (iI z39787)), (1, .int (iI z39788)), (0, .ref a0)] [] S g39789 0 0 := by
      intro nP49731
      induction nP49731 with
      | zero => intro g39789 hg39789 z39787 lz39787 uz39787 z39788 lz39788 uz39788 v49732 mP49731; exact False.elim (by omega)
      | succ nP49731 ihP49731 =>
        intro g39789 hg39789 z39787 lz39787 uz39787 z39788 lz39788 uz39788 v49732 mP49731
        refine X_iloadn hK (i := 2) 0 kd50_6.2.2.2.2.2.2.2.2.1 rfl rfl ?_
        refine X_bipush hK kd50_6.2.2.2.2.2.2.2.2.2.1 (by decide) ?_
        refine X_icmp_ge hK 90 (by omega) (by omega) kd50_6.2.2.2.2.2.2.2.2.2.2.1 (by decide) (fun c49733 => ?_) (fun c49733 => ?_)
        · refine X_iloadn hK (i := 1) 1 kd50_9.2.2.2.2.2.2.2.2.2.2.2 rfl rfl ?_
          refine X_if_ne hK 98 (by omega) kd50_10.1 (by decide) (fun c49734 => ?_) (fun c49734 => ?_)
          · refine X_ldcw hK (n := 100000) kd50_10.2.2.2.1 m_55_15 (by decide) ?_
            refine X_istoren hK (i := 2) [(2, .int (iI 100000)), (1, .int (iI z39788)), (0, .ref a0)] kd50_10.2.2.2.2.1 rfl (by decide) rfl ?_
            refine X_iconst hK kd50_10.2.2.2.2.2.1 ?_
            refine X_istoren hK (i := 3) [(3, .int (iI 0)), (2, .int (iI 100000)), (1, .int (iI z39788)), (0, .ref a0)] kd50_10.2.2.2.2.2.2.1 rfl (by decide) rfl ?_
            refine X_iconst hK kd50_10.2.2.2.2.2.2.2.1 ?_
            refine X_istore hK (i := 4) [(4, .int (iI 0)), (3, .int (iI 0)), (2, .int (iI 100000)), (1, .int (iI z39788)), (0, .ref a0)] kd50_10.2.2.2.2.2.2.2.2.1 (by decide) rfl ?_
            refine X_iloadn hK (i := 1) 3 kd50_10.2.2.2.2.2.2.2.2.2.1 rfl rfl ?_
            refine X_if_le hK 118 (by omega) kd50_10.2.2.2.2.2.2.2.2.2.2.1 (by decide) (fun c49735 => False.elim (by omega)) (fun c49735 => ?_)
            refine X_aloadn hK (i := 0) 4 kd50_10.2.2.2.2.2.2.2.2.2.2.2 rfl rfl ?_
            refine X_getK hK fl_X12_186_13 hs_a0 ((hg39789 a0 13 0 85 hs_a0 (by decide)).trans ((hg10 a0 13 0 85 hs_a0 (by decide)).trans ((hg3 a0 13 0 85 hs_a0 (by decide)).trans ((xs_k hg1 (by decide)).trans ew85)))) kd50_11.1 ?_
            refine X_iconst hK kd50_11.2.1 ?_
            refine X_iconst hK kd50_11.2.2.1 ?_
            refine X_iast hK hs_w85 (by decide) (by decide) sl_19100 (by omega) (by omega) (by omega) (by omega) kd50_11.2.2.2.1 (fun g49736 hg49736 => ?_)
            have P58198 : ∀ (nP58198 : Nat) (g56790 : xG) (_ : xM [(19000, 0), (19200, 0), (19100, 0)] S g49736 g56790) (z56787 : Int) (_ : (-1) ≤ z56787) (_ : z56787 ≤ 8) (z56788 : Int) (_ : (-2147483648) ≤ z56788) (_ : z56788 ≤ 2147483647) (z56789 : Int) (_ : (-2147483648) ≤ z56789) (_ : z56789 ≤ 2147483647) (_ : z56787 < z39788 ∨ z39788 = 0) (_ : ∀ x, 0 ≤ x → x < z56787 → 0 ≤ xv g56790 w85 x) (_ : 0 < z39788 → ∀ x, 0 ≤ x → x ≤ z56787 → xv g56790 w85 x < z39788) (_ : ((xdm (xv g56790 w85) z56787 : Nat) : Int) < (nP58198 : Int)), X K E 118 [(4, .int (iI z56787)), (3, .int (iI z56788)), (2, .int (iI z56789)), (1, .int (iI z39788)), (0, .ref a0)] [] S g56790 0 0 := by
              intro nP58198
              induction nP58198 with
              | zero => intro g56790 hg56790 z56787 lz56787 uz56787 z56788 lz56788 uz56788 z56789 lz56789 uz56789 v58199 v58200 v58201 mP58198; exact False.elim (by omega)
              | succ nP58198 ihP58198 =>
                intro g56790 hg56790 z56787 lz56787 uz56787 z56788 lz56788 uz56788 z56789 lz56789 uz56789 v58199 v58200 v58201 mP58198
                refine X_iload hK (i := 4) 0 kd50_11.2.2.2.2.1 rfl ?_
                refine X_if_lt hK 297 (by omega) kd50_11.2.2.2.2.2.1 (by decide) (fun c58202 => ?_) (fun c58202 => ?_)
                · refine X_iloadn hK (i := 2) 2 kd50_19.2.2.2.2.2.2.2.1 rfl rfl ?_
                  refine X_ldcw hK (n := 100000) kd50_19.2.2.2.2.2.2.2.2.1 m_55_15 (by decide) ?_
                  refine X_icmp_ne hK 306 (by omega) (by omega) kd50_19.2.2.2.2.2.2.2.2.2.1 (by decide) (fun c58203 => ?_) (fun c58203 => ?_)
                  · refine X_aloadn hK (i := 0) 4 kd50_20.1 rfl rfl ?_
                    refine X_iloadn hK (i := 1) 3 kd50_20.2.1 rfl rfl ?_
                    refine X_puti hK fl_X12_474_13 hs_a0 (by decide) sl_13_87 (by omega) (by omega) kd50_20.2.2.1 (fun g58204 hg58204 => ?_)
                    refine X_aloadn hK (i := 0) 4 kd50_20.2.2.2.1 rfl rfl ?_
                    refine X_iconst hK kd50_20.2.2.2.2.1 ?_
                    refine X_putz hK fl_X12_477_13 hs_a0 (by decide) sl_13_88 (by omega) (by omega) kd50_20.2.2.2.2.2.1 (fun g58205 hg58205 => ?_)
                    refine X_iloadn hK (i := 2) 2 kd50_20.2.2.2.2.2.2.1 rfl rfl ?_
                    exact hret _ _ _ _ _ _ _ kd50_20.2.2.2.2.2.2.2 ⟨rfl, z56789, rfl, (by omega), (by omega), (((xs_k hg58205 (by decide)).trans ((xs_k hg58204 (by decide)).trans ((hg56790 a0 13 0 2 hs_a0 (by decide)).trans ((xs_a hg49736 (xne hs_a0 hs_w85 (by decide))).trans ((hg39789 a0 13 0 2 hs_a0 (by decide)).trans ((hg10 a0 13 0 2 hs_a0 (by decide)).trans k7)))))).trans (by congr 2 <;> omega))⟩ (Nat.le_refl _) (Nat.le_refl _)
                  · refine X_iconst hK kd50_19.2.2.2.2.2.2.2.2.2.2.1 ?_
                    exact hret _ _ _ _ _ _ _ kd50_19.2.2.2.2.2.2.2.2.2.2.2 ⟨rfl, (-1), rfl, (by omega), (by omega), (((hg56790 a0 13 0 2 hs_a0 (by decide)).trans ((xs_a hg49736 (xne hs_a0 hs_w85 (by decide))).trans ((hg39789 a0 13 0 2 hs_a0 (by decide)).trans ((hg10 a0 13 0 2 hs_a0 (by decide)).trans k7)))).trans (by congr 2 <;> omega))⟩ (Nat.le_refl _) (Nat.le_refl _)
                · refine X_iloadn hK (i := 1) 3 kd50_11.2.2.2.2.2.2.1 rfl rfl ?_
                  refine X_if_le hK 297 (by omega) kd50_11.2.2.2.2.2.2.2.1 (by decide) (fun c58206 => False.elim (by omega)) (fun c58206 => ?_)
                  refine X_aloadn hK (i := 0) 4 kd50_11.2.2.2.2.2.2.2.2.1 rfl rfl ?_
                  refine X_getK hK fl_X12_186_13 hs_a0 ((hg56790 a0 13 0 85 hs_a0 (by decide)).trans ((xs_a hg49736 (xne hs_a0 hs_w85 (by decide))).trans ((hg39789 a0 13 0 85 hs_a0 (by decide)).trans ((hg10 a0 13 0 85 hs_a0 (by decide)).trans ((hg3 a0 13 0 85 hs_a0 (by decide)).trans ((xs_k hg1 (by decide)).trans ew85)))))) kd50_11.2.2.2.2.2.2.2.2.2.1 ?_
                  refine X_iload hK (i := 4) 0 kd50_11.2.2.2.2.2.2.2.2.2.2.1 rfl ?_
                  refine X_iald hK hs_w85 (by decide) sl_19100 (by omega) (by omega) kd50_11.2.2.2.2.2.2.2.2.2.2.2 (fun z58207 ez58207 lz58207 uz58207 => ?_)
                  have hvz58207 := xv_e (j := z56787) ez58207 (by omega)
                  refine X_if_lt hK 151 (by omega) kd50_12.1 (by decide) (fun c58208 => ?_) (fun c58208 => ?_)
                  · refine X_aloadn hK (i := 0) 4 kd50_13.1 rfl rfl ?_
                    refine X_getK hK fl_X12_186_13 hs_a0 ((hg56790 a0 13 0 85 hs_a0 (by decide)).trans ((xs_a hg49736 (xne hs_a0 hs_w85 (by decide))).trans ((hg39789 a0 13 0 85 hs_a0 (by decide)).trans ((hg10 a0 13 0 85 hs_a0 (by decide)).trans ((hg3 a0 13 0 85 hs_a0 (by decide)).trans ((xs_k hg1 (by decide)).trans ew85)))))) kd50_13.2.1 ?_
                    refine X_iload hK (i := 4) 0 kd50_13.2.2.1 rfl ?_
                    refine X_ialdK hK hs_w85 (by decide) (by omega) (by omega) ez58207 kd50_13.2.2.2.1 ?_
                    have hvx58209 := xv_e (j := z56787) ez58207 (by omega)
                    refine X_iconst hK kd50_13.2.2.2.2.1 ?_
                    refine X_iadd hK kd50_13.2.2.2.2.2.1 ?_
                    refine X_istore hK (i := 5) [(5, .int (iI (z58207 + 1))), (4, .int (iI z56787)), (3, .int (iI z56788)), (2, .int (iI z56789)), (1, .int (iI z39788)), (0, .ref a0)] kd50_13.2.2.2.2.2.2.1 (by decide) rfl ?_
                    have hlh58210 := v58201 (by omega) z56787 (by omega) (by omega)
                    have P58767 : ∀ (nP58767 : Nat) (z58628 : Int) (_ : 0 ≤ z58628) (_ : z58628 ≤ 9) (_ : z58628 ≤ z39788) (_ : xv g56790 w85 z56787 < z58628) (_ : 25 - z58628 < (nP58767 : Int)), X K E 162 [(5, .int (iI z58628)), (4, .int (iI z56787)), (3, .int (iI z56788)), (2, .int (iI z56789)), (1, .int (iI z39788)), (0, .ref a0)] [] S g56790 0 0 := by
                      intro nP58767
                      induction nP58767 with
                      | zero => intro z58628 lz58628 uz58628 v58768 v58769 mP58767; exact False.elim (by omega)
                      | succ nP58767 ihP58767 =>
                        intro z58628 lz58628 uz58628 v58768 v58769 mP58767
                        refine X_iload hK (i := 5) 0 kd50_13.2.2.2.2.2.2.2.1 rfl ?_
                        refine X_iloadn hK (i := 1) 4 kd50_13.2.2.2.2.2.2.2.2.1 rfl rfl ?_
                        refine X_icmp_ge hK 187 (by omega) (by omega) kd50_13.2.2.2.2.2.2.2.2.2.1 (by decide) (fun c58770 => ?_) (fun c58770 => ?_)
                        · refine X_iload hK (i := 5) 0 kd50_14.2.2.2.2.2.2.2.1 rfl ?_
                          refine X_iloadn hK (i := 1) 4 kd50_14.2.2.2.2.2.2.2.2.1 rfl rfl ?_
                          refine X_icmp_ne hK 199 (by omega) (by omega) kd50_14.2.2.2.2.2.2.2.2.2.1 (by decide) (fun c58771 => ?_) (fun c58771 => ?_)
                          · refine X_aloadn hK (i := 0) 5 kd50_15.1 rfl rfl ?_
                            refine X_getK hK fl_X12_186_13 hs_a0 ((hg56790 a0 13 0 85 hs_a0 (by decide)).trans ((xs_a hg49736 (xne hs_a0 hs_w85 (by decide))).trans ((hg39789 a0 13 0 85 hs_a0 (by decide)).trans ((hg10 a0 13 0 85 hs_a0 (by decide)).trans ((hg3 a0 13 0 85 hs_a0 (by decide)).trans ((xs_k hg1 (by decide)).trans ew85)))))) kd50_15.2.1 ?_
                            refine X_iload hK (i := 4) 1 kd50_15.2.2.1 rfl ?_
                            refine X_iload hK (i := 5) 0 kd50_15.2.2.2.1 rfl ?_
                            refine X_iast hK hs_w85 (by decide) (by decide) sl_19100 (by omega) (by omega) (by omega) (by omega) kd50_15.2.2.2.2.1 (fun g58772 hg58772 => ?_)
                            refine X_aloadn hK (i := 0) 5 kd50_15.2.2.2.2.2.1 rfl rfl ?_
                            refine X_getr hK 19200 10 fl_X12_189_13 hs_a0 sl_13_86 kd50_15.2.2.2.2.2.2.1 (fun b58773 eb58773 hs_b58773 => ?_)
                            refine X_iload hK (i := 4) 1 kd50_15.2.2.2.2.2.2.2.1 rfl ?_
                            refine X_aloadn hK (i := 0) 5 kd50_15.2.2.2.2.2.2.2.2.1 rfl rfl ?_
                            refine X_iload hK (i := 4) 1 kd50_15.2.2.2.2.2.2.2.2.2.1 rfl ?_
                            refine X_iload hK (i := 5) 0 kd50_15.2.2.2.2.2.2.2.2.2.2.1 rfl ?_
                            refine X_callV hK [.int (iI z56787), .int (iI z58628)] [.int (iI z56787), .ref b58773] lk_X12_471 (c_X12_comesAt _ _ _ _ _ S g58772 a0 z56787 z58628 w85 hs_a0 (by omega) (by omega) ((xs_a hg58772 (xne hs_a0 hs_w85 (by decide))).trans ((hg56790 a0 13 0 85 hs_a0 (by decide)).trans ((xs_a hg49736 (xne hs_a0 hs_w85 (by decide))).trans ((hg39789 a0 13 0 85 hs_a0 (by decide)).trans ((hg10 a0 13 0 85 hs_a0 (by decide)).trans ((hg3 a0 13 0 85 hs_a0 (by decide)).trans ((xs_k hg1 (by decide)).trans ew85))))))) hs_w85 (by rcases (show z56787 = 0 ∨ 1 ≤ z56787 by omega) with c9 | c9 <;> first | exact Or.inl c9 | exact Or.inr (by rw [(show xv g58772 w85 (z56787 - 1) = xv g56790 w85 (z56787 - 1) from by rw [(xv_k (i := (z56787 - 1)) hg58772 (by omega) (by omega) (by omega))])]; exact (v58200 (z56787 - 1) (by omega) (by omega))))) hs_a0 ⟨by decide, rfl⟩ kd50_15.2.2.2.2.2.2.2.2.2.2.2 rfl rfl (by simp [Value.category]) (by decide) (by decide) (by decide) (by decide) (fun r58774 S58776 g58775 pr58774 qr58774 hg58775 => ?_)
                            obtain ⟨rfl, rfl, z58777, rfl, lz58777, uz58777⟩ := pr58774
                            refine X_st [.int (iI z58777), .int (iI z56787), .ref b58773] rfl ?_
                            refine X_iast hK hs_b58773 (by decide) (by decide) sl_19200 (by omega) (by omega) (by omega) (by omega) kd50_16.1 (fun g58778 hg58778 => ?_)
                            refine X_iloadn hK (i := 3) 2 kd50_16.2.1 rfl rfl ?_
                            refine X_iconst hK kd50_16.2.2.1 ?_
                            refine X_iload hK (i := 5) 0 kd50_16.2.2.2.1 rfl ?_
                            refine X_ishl hK kd50_16.2.2.2.2.1 (fun z58779 ez58779 lz58779 uz58779 => ?_)
                            have bz58779 := xshlB 9 ez58779 ⟨lz58779, uz58779⟩ (by omega) (by decide)
                            refine X_ior hK kd50_16.2.2.2.2.2.1 (fun z58780 ez58780 lz58780 uz58780 => ?_)
                            refine X_istoren hK (i := 3) [(3, .int (iI z58780)), (5, .int (iI z58628)), (4, .int (iI z56787)), (2, .int (iI z56789)), (1, .int (iI z39788)), (0, .ref a0)] kd50_16.2.2.2.2.2.2.1 rfl (by decide) rfl ?_
                            refine X_iload hK (i := 4) 2 kd50_16.2.2.2.2.2.2.2.1 rfl ?_
                            refine X_iloadn hK (i := 1) 4 kd50_16.2.2.2.2.2.2.2.2.1 rfl rfl ?_
                            refine X_iconst hK kd50_16.2.2.2.2.2.2.2.2.2.1 ?_
                            refine X_isub hK kd50_16.2.2.2.2.2.2.2.2.2.2.1 ?_
                            refine X_icmp_ge hK 252 (by omega) (by omega) kd50_16.2.2.2.2.2.2.2.2.2.2.2 (by decide) (fun c58781 => ?_) (fun c58781 => ?_)
                            · refine X_aloadn hK (i := 0) 5 kd50_17.2.2.2.2.2.2.2.1 rfl rfl ?_
                              refine X_getK hK fl_X12_189_13 hs_a0 ((xs_a hg58778 (xne hs_a0 hs_b58773 (by decide))).trans eb58773) kd50_17.2.2.2.2.2.2.2.2.1 ?_
                              refine X_iload hK (i := 4) 2 kd50_17.2.2.2.2.2.2.2.2.2.1 rfl ?_
                              refine X_ialdK hK hs_b58773 (by decide) (by omega) (by omega) (xs_s hg58778) kd50_17.2.2.2.2.2.2.2.2.2.2.1 ?_
                              refine X_istoren hK (i := 2) [(2, .int (iI z58777)), (3, .int (iI z58780)), (5, .int (iI z58628)), (4, .int (iI z56787)), (1, .int (iI z39788)), (0, .ref a0)] kd50_17.2.2.2.2.2.2.2.2.2.2.2 rfl (by decide) rfl ?_
                              refine X_iconst hK kd50_18.1 ?_
                              refine X_istore hK (i := 6) [(6, .int (iI 0)), (2, .int (iI z58777)), (3, .int (iI z58780)), (5, .int (iI z58628)), (4, .int (iI z56787)), (1, .int (iI z39788)), (0, .ref a0)] kd50_18.2.1 (by decide) rfl ?_
                              have P58829 : ∀ (nP58829 : Nat) (g58822 : xG) (_ : xM [(19000, 0)] S g58778 g58822) (z58821 : Int) (_ : 0 ≤ z58821) (_ : z58821 ≤ 9) (_ : 25 - z58821 < (nP58829 : Int)), X K E 263 [(6, .int (iI z58821)), (2, .int (iI z58777)), (3, .int (iI z58780)), (5, .int (iI z58628)), (4, .int (iI z56787)), (1, .int (iI z39788)), (0, .ref a0)] [] S g58822 0 0 := by
                                intro nP58829
                                induction nP58829 with
                                | zero => intro g58822 hg58822 z58821 lz58821 uz58821 mP58829; exact False.elim (by omega)
                                | succ nP58829 ihP58829 =>
                                  intro g58822 hg58822 z58821 lz58821 uz58821 mP58829
                                  refine X_iload hK (i := 6) 0 kd50_18.2.2.1 rfl ?_
                                  refine X_iloadn hK (i := 1) 5 kd50_18.2.2.2.1 rfl rfl ?_
                                  refine X_icmp_ge hK 294 (by omega) (by omega) kd50_18.2.2.2.2.1 (by decide) (fun c58830 => ?_) (fun c58830 => ?_)
                                  · refine X_goto hK 118 kd50_19.2.2.2.2.2.2.1 (by decide) ?_
                                    refine X_lv [(4, .int (iI z56787)), (3, .int (iI z58780)), (2, .int (iI z58777)), (1, .int (iI z39788)), (0, .ref a0)] [4, 2, 1, 5, 6] rfl ?_
                                    exact ihP58198  g58822 (xM.tr (xM_ua (xM_ua (xM.tr xM.rf xLe.rf hg56790 (by decide)) hg58772 hs_w85 (by decide) (by decide)) hg58778 hs_b58773 (by decide) (by decide)) xLe.rf hg58822 (by decide)) z56787 (by omega) (by omega) z58780 (by omega) (by omega) z58777 (by omega) (by omega) (by omega) (fun x q1 q2 => by rw [(show xv g58822 w85 x = xv g56790 w85 x from by rw [(xv_m hg58822 hs_w85 (by decide) (by decide)), (xv_a hg58778 (xne hs_w85 hs_b58773 (by decide))), (xv_k (i := x) hg58772 (by omega) (by omega) (by omega))])]; exact v58200 x q1 q2) (fun h9 x q1 q2 => by rcases (show x < z56787 ∨ x = z56787 by omega) with c9 | c9 <;> first | (rw [c9]; have h8 := (show xv g58822 w85 z56787 = z58628 from by rw [(xv_m hg58822 hs_w85 (by decide) (by decide)), (xv_a hg58778 (xne hs_w85 hs_b58773 (by decide))), xv_s hg58772 (by omega)]); omega) | (rw [(show xv g58822 w85 x = xv g56790 w85 x from by rw [(xv_m hg58822 hs_w85 (by decide) (by decide)), (xv_a hg58778 (xne hs_w85 hs_b58773 (by decide))), (xv_k (i := x) hg58772 (by omega) (by omega) (by omega))])]; exact v58201 h9 x q1 (by omega))) (by have h9 := xdm_adv (f := xv g56790 w85) (f' := xv g58822 w85) (k := z56787) (i := z58628) (by omega) (by omega) (by omega) (show xv g58822 w85 z56787 = z58628 from by rw [(xv_m hg58822 hs_w85 (by decide) (by decide)), (xv_a hg58778 (xne hs_w85 hs_b58773 (by decide))), xv_s hg58772 (by omega)]) (fun x q1 q2 => (show xv g58822 w85 x = xv g56790 w85 x from by rw [(xv_m hg58822 hs_w85 (by decide) (by decide)), (xv_a hg58778 (xne hs_w85 hs_b58773 (by decide))), (xv_k (i := x) hg58772 (by omega) (by omega) (by omega))])); omega)
                                  · refine X_aloadn hK (i := 0) 6 kd50_18.2.2.2.2.2.1 rfl rfl ?_
                                    refine X_getr hK 19000 9 fl_X12_183_13 hs_a0 sl_13_84 kd50_18.2.2.2.2.2.2.1 (fun b58831 eb58831 hs_b58831 => ?_)
                                    refine X_iload hK (i := 6) 0 kd50_18.2.2.2.2.2.2.2.1 rfl ?_
                                    refine X_aloadn hK (i := 0) 6 kd50_18.2.2.2.2.2.2.2.2.1 rfl rfl ?_
                                    refine X_getr hK 18900 10 fl_X12_180_13 hs_a0 sl_13_83 kd50_18.2.2.2.2.2.2.2.2.2.1 (fun b58832 eb58832 hs_b58832 => ?_)
                                    refine X_aloadn hK (i := 0) 6 kd50_18.2.2.2.2.2.2.2.2.2.2.1 rfl rfl ?_
                                    refine X_getK hK fl_X12_186_13 hs_a0 ((hg58822 a0 13 0 85 hs_a0 (by decide)).trans ((xs_a hg58778 (xne hs_a0 hs_b58773 (by decide))).trans ((xs_a hg58772 (xne hs_a0 hs_w85 (by decide))).trans ((hg56790 a0 13 0 85 hs_a0 (by decide)).trans ((xs_a hg49736 (xne hs_a0 hs_w85 (by decide))).trans ((hg39789 a0 13 0 85 hs_a0 (by decide)).trans ((hg10 a0 13 0 85 hs_a0 (by decide)).trans ((hg3 a0 13 0 85 hs_a0 (by decide)).trans ((xs_k hg1 (by decide)).trans ew85))))))))) kd50_18.2.2.2.2.2.2.2.2.2.2.2 ?_
                                    refine X_iload hK (i := 6) 0 kd50_19.1 rfl ?_
                                    refine X_iald hK hs_w85 (by decide) sl_19100 (by omega) (by omega) kd50_19.2.1 (fun z58833 ez58833 lz58833 uz58833 => ?_)
                                    have hvz58833 := xv_e (j := z58821) ez58833 (by omega)
                                    have hzh58834 : 0 ≤ z58833 := by have h7 := xv_e (j := z58821) ez58833 (by omega); rcases (show z58821 < z56787 ∨ z58821 = z56787 by omega) with c9 | c9 <;> first | (have h8 := (show xv g58822 w85 z58821 = xv g56790 w85 z58821 from by rw [(xv_m hg58822 hs_w85 (by decide) (by decide)), (xv_a hg58778 (xne hs_w85 hs_b58773 (by decide))), (xv_k (i := z58821) hg58772 (by omega) (by omega) (by omega))]); have h6 := v58200 z58821 (by omega) c9; omega) | (rw [c9] at h7; have h8 := (show xv g58822 w85 z56787 = z58628 from by rw [(xv_m hg58822 hs_w85 (by decide) (by decide)), (xv_a hg58778 (xne hs_w85 hs_b58773 (by decide))), xv_s hg58772 (by omega)]); omega)
                                    refine X_iald hK hs_b58832 (by decide) sl_18900 (by omega) (by omega) kd50_19.2.2.1 (fun z58835 ez58835 lz58835 uz58835 => ?_)
                                    refine X_iast hK hs_b58831 (by decide) (by decide) sl_19000 (by omega) (by omega) (by omega) (by omega) kd50_19.2.2.2.1 (fun g58836 hg58836 => ?_)
                                    refine X_iinc hK (i := 6) (z := z58821) (n := 1) 0 [(6, .int (iI (z58821 + 1))), (2, .int (iI z58777)), (3, .int (iI z58780)), (5, .int (iI z58628)), (4, .int (iI z56787)), (1, .int (iI z39788)), (0, .ref a0)] kd50_19.2.2.2.2.1 rfl (by decide) rfl ?_
                                    refine X_goto hK 263 kd50_19.2.2.2.2.2.1 (by decide) ?_
                                    exact ihP58829  g58836 (xM_ua (xM.tr xM.rf xLe.rf hg58822 (by decide)) hg58836 hs_b58831 (by decide) (by decide)) (z58821 + 1) (by omega) (by omega) (by omega)
                              exact P58829 ((25 - 0 : Int).toNat + 1) g58778 xM.rf 0 (by omega) (by omega) (by omega)
                            · refine X_iinc hK (i := 4) (z := z56787) (n := 1) 2 [(4, .int (iI (z56787 + 1))), (3, .int (iI z58780)), (5, .int (iI z58628)), (2, .int (iI z56789)), (1, .int (iI z39788)), (0, .ref a0)] kd50_17.1 rfl (by decide) rfl ?_
                              refine X_aloadn hK (i := 0) 5 kd50_17.2.1 rfl rfl ?_
                              refine X_getK hK fl_X12_186_13 hs_a0 ((xs_a hg58778 (xne hs_a0 hs_b58773 (by decide))).trans ((xs_a hg58772 (xne hs_a0 hs_w85 (by decide))).trans ((hg56790 a0 13 0 85 hs_a0 (by decide)).trans ((xs_a hg49736 (xne hs_a0 hs_w85 (by decide))).trans ((hg39789 a0 13 0 85 hs_a0 (by decide)).trans ((hg10 a0 13 0 85 hs_a0 (by decide)).trans ((hg3 a0 13 0 85 hs_a0 (by decide)).trans ((xs_k hg1 (by decide)).trans ew85)))))))) kd50_17.2.2.1 ?_
                              refine X_iload hK (i := 4) 0 kd50_17.2.2.2.1 rfl ?_
                              refine X_iconst hK kd50_17.2.2.2.2.1 ?_
                              refine X_iast hK hs_w85 (by decide) (by decide) sl_19100 (by omega) (by omega) (by omega) (by omega) kd50_17.2.2.2.2.2.1 (fun g58837 hg58837 => ?_)
                              refine X_goto hK 118 kd50_17.2.2.2.2.2.2.1 (by decide) ?_
                              refine X_lv [(4, .int (iI (z56787 + 1))), (3, .int (iI z58780)), (2, .int (iI z56789)), (1, .int (iI z39788)), (0, .ref a0)] [0, 1, 3, 4, 5] rfl ?_
                              exact ihP58198  g58837 (xM_ua (xM_ua (xM_ua (xM.tr xM.rf xLe.rf hg56790 (by decide)) hg58772 hs_w85 (by decide) (by decide)) hg58778 hs_b58773 (by decide) (by decide)) hg58837 hs_w85 (by decide) (by decide)) (z56787 + 1) (by omega) (by omega) z58780 (by omega) (by omega) z56789 (by omega) (by omega) (by omega) (fun x q1 q2 => by rcases (show x < z56787 ∨ x = z56787 by omega) with c9 | c9 <;> first | (rw [c9]; have h8 := (show xv g58837 w85 z56787 = z58628 from by rw [(xv_k (i := z56787) hg58837 (by omega) (by omega) (by omega)), (xv_a hg58778 (xne hs_w85 hs_b58773 (by decide))), xv_s hg58772 (by omega)]); omega) | (rw [(show xv g58837 w85 x = xv g56790 w85 x from by rw [(xv_k (i := x) hg58837 (by omega) (by omega) (by omega)), (xv_a hg58778 (xne hs_w85 hs_b58773 (by decide))), (xv_k (i := x) hg58772 (by omega) (by omega) (by omega))])]; exact v58200 x q1 c9)) (fun h9 x q1 q2 => by rcases (show x < z56787 ∨ x = z56787 ∨ x = (z56787 + 1) by omega) with c9 | c9 | c9 <;> first | (rw [c9]; have h8 := (show xv g58837 w85 z56787 = z58628 from by rw [(xv_k (i := z56787) hg58837 (by omega) (by omega) (by omega)), (xv_a hg58778 (xne hs_w85 hs_b58773 (by decide))), xv_s hg58772 (by omega)]); omega) | (rw [c9]; have h8 := (show xv g58837 w85 (z56787 + 1) = (-1) from by rw [xv_s hg58837 (by omega)]); omega) | (rw [(show xv g58837 w85 x = xv g56790 w85 x from by rw [(xv_k (i := x) hg58837 (by omega) (by omega) (by omega)), (xv_a hg58778 (xne hs_w85 hs_b58773 (by decide))), (xv_k (i := x) hg58772 (by omega) (by omega) (by omega))])]; exact v58201 h9 x q1 (by omega))) (by have h9 := xdm_push (f := xv g56790 w85) (f' := xv g58837 w85) (k := z56787) (i := z58628) (by omega) (by omega) (by omega) (show xv g58837 w85 z56787 = z58628 from by rw [(xv_k (i := z56787) hg58837 (by omega) (by omega) (by omega)), (xv_a hg58778 (xne hs_w85 hs_b58773 (by decide))), xv_s hg58772 (by omega)]) (show xv g58837 w85 (z56787 + 1) = (-1) from by rw [xv_s hg58837 (by omega)]) (fun x q1 q2 => (show xv g58837 w85 x = xv g56790 w85 x from by rw [(xv_k (i := x) hg58837 (by omega) (by omega) (by omega)), (xv_a hg58778 (xne hs_w85 hs_b58773 (by decide))), (xv_k (i := x) hg58772 (by omega) (by omega) (by omega))])); omega)
                          · refine X_iinc hK (i := 4) (z := z56787) (n := (-1)) 1 [(4, .int (iI (z56787 + (-1)))), (5, .int (iI z58628)), (3, .int (iI z56788)), (2, .int (iI z56789)), (1, .int (iI z39788)), (0, .ref a0)] kd50_14.2.2.2.2.2.2.2.2.2.2.1 rfl (by decide) rfl ?_
                            refine X_goto hK 118 kd50_14.2.2.2.2.2.2.2.2.2.2.2 (by decide) ?_
                            refine X_lv [(4, .int (iI (z56787 + (-1)))), (3, .int (iI z56788)), (2, .int (iI z56789)), (1, .int (iI z39788)), (0, .ref a0)] [0, 2, 3, 4, 5] rfl ?_
                            exact ihP58198  g56790 (xM.tr xM.rf xLe.rf hg56790 (by decide)) (z56787 + (-1)) (by omega) (by omega) z56788 (by omega) (by omega) z56789 (by omega) (by omega) (by omega) (fun x q1 q2 => v58200 x q1 (by omega)) (fun h9 x q1 q2 => v58201 h9 x q1 (by omega)) (by have h9 := xdm_pop (f := xv g56790 w85) (k := z56787) (by omega); omega)
                        · refine X_aloadn hK (i := 0) 5 kd50_13.2.2.2.2.2.2.2.2.2.2.1 rfl rfl ?_
                          refine X_iload hK (i := 4) 1 kd50_13.2.2.2.2.2.2.2.2.2.2.2 rfl ?_
                          refine X_iload hK (i := 5) 0 kd50_14.1 rfl ?_
                          refine X_iloadn hK (i := 3) 2 kd50_14.2.1 rfl rfl ?_
                          refine X_iloadn hK (i := 2) 3 kd50_14.2.2.1 rfl rfl ?_
                          refine X_callV hK [.int (iI z56787), .int (iI z58628), .int (iI z56788), .int (iI z56789)] [] lk_X12_467 (c_X12_mayGo _ _ _ _ _ S g56790 a0 z56787 z58628 z56788 z56789 w85 hs_a0 (by omega) (by omega) (by omega) (by omega) ((hg56790 a0 13 0 85 hs_a0 (by decide)).trans ((xs_a hg49736 (xne hs_a0 hs_w85 (by decide))).trans ((hg39789 a0 13 0 85 hs_a0 (by decide)).trans ((hg10 a0 13 0 85 hs_a0 (by decide)).trans ((hg3 a0 13 0 85 hs_a0 (by decide)).trans ((xs_k hg1 (by decide)).trans ew85)))))) hs_w85 (by rcases (show z56787 = 0 ∨ 1 ≤ z56787 by omega) with c9 | c9 <;> first | exact Or.inl c9 | exact Or.inr (v58200 (z56787 - 1) (by omega) (by omega)))) hs_a0 ⟨by decide, rfl⟩ kd50_14.2.2.2.1 rfl rfl (by simp [Value.category]) (by decide) (by decide) (by decide) (by decide) (fun r58838 S58840 g58839 pr58838 qr58838 hg58839 => ?_)
                          obtain ⟨rfl, rfl, z58841, rfl, lz58841, uz58841⟩ := pr58838
                          refine X_st [.int (iI z58841)] rfl ?_
                          refine X_if_ne hK 187 (by omega) kd50_14.2.2.2.2.1 (by decide) (fun c58842 => ?_) (fun c58842 => ?_)
                          · refine X_iload hK (i := 5) 0 kd50_14.2.2.2.2.2.2.2.1 rfl ?_
                            refine X_iloadn hK (i := 1) 4 kd50_14.2.2.2.2.2.2.2.2.1 rfl rfl ?_
                            refine X_icmp_ne hK 199 (by omega) (by omega) kd50_14.2.2.2.2.2.2.2.2.2.1 (by decide) (fun c58843 => ?_) (fun c58843 => ?_)
                            · refine X_aloadn hK (i := 0) 5 kd50_15.1 rfl rfl ?_
                              refine X_getK hK fl_X12_186_13 hs_a0 ((hg56790 a0 13 0 85 hs_a0 (by decide)).trans ((xs_a hg49736 (xne hs_a0 hs_w85 (by decide))).trans ((hg39789 a0 13 0 85 hs_a0 (by decide)).trans ((hg10 a0 13 0 85 hs_a0 (by decide)).trans ((hg3 a0 13 0 85 hs_a0 (by decide)).trans ((xs_k hg1 (by decide)).trans ew85)))))) kd50_15.2.1 ?_
                              refine X_iload hK (i := 4) 1 kd50_15.2.2.1 rfl ?_
                              refine X_iload hK (i := 5) 0 kd50_15.2.2.2.1 rfl ?_
                              refine X_iast hK hs_w85 (by decide) (by decide) sl_19100 (by omega) (by omega) (by omega) (by omega) kd50_15.2.2.2.2.1 (fun g58844 hg58844 => ?_)
                              refine X_aloadn hK (i := 0) 5 kd50_15.2.2.2.2.2.1 rfl rfl ?_
                              refine X_getr hK 19200 10 fl_X12_189_13 hs_a0 sl_13_86 kd50_15.2.2.2.2.2.2.1 (fun b58845 eb58845 hs_b58845 => ?_)
                              refine X_iload hK (i := 4) 1 kd50_15.2.2.2.2.2.2.2.1 rfl ?_
                              refine X_aloadn hK (i := 0) 5 kd50_15.2.2.2.2.2.2.2.2.1 rfl rfl ?_
                              refine X_iload hK (i := 4) 1 kd50_15.2.2.2.2.2.2.2.2.2.1 rfl ?_
                              refine X_iload hK (i := 5) 0 kd50_15.2.2.2.2.2.2.2.2.2.2.1 rfl ?_
                              refine X_callV hK [.int (iI z56787), .int (iI z58628)] [.int (iI z56787), .ref b58845] lk_X12_471 (c_X12_comesAt _ _ _ _ _ S g58844 a0 z56787 z58628 w85 hs_a0 (by omega) (by omega) ((xs_a hg58844 (xne hs_a0 hs_w85 (by decide))).trans ((hg56790 a0 13 0 85 hs_a0 (by decide)).trans ((xs_a hg49736 (xne hs_a0 hs_w85 (by decide))).trans ((hg39789 a0 13 0 85 hs_a0 (by decide)).trans ((hg10 a0 13 0 85 hs_a0 (by decide)).trans ((hg3 a0 13 0 85 hs_a0 (by decide)).trans ((xs_k hg1 (by decide)).trans ew85))))))) hs_w85 (by rcases (show z56787 = 0 ∨ 1 ≤ z56787 by omega) with c9 | c9 <;> first | exact Or.inl c9 | exact Or.inr (by rw [(show xv g58844 w85 (z56787 - 1) = xv g56790 w85 (z56787 - 1) from by rw [(xv_k (i := (z56787 - 1)) hg58844 (by omega) (by omega) (by omega))])]; exact (v58200 (z56787 - 1) (by omega) (by omega))))) hs_a0 ⟨by decide, rfl⟩ kd50_15.2.2.2.2.2.2.2.2.2.2.2 rfl rfl (by simp [Value.category]) (by decide) (by decide) (by decide) (by decide) (fun r58846 S58848 g58847 pr58846 qr58846 hg58847 => ?_)
                              obtain ⟨rfl, rfl, z58849, rfl, lz58849, uz58849⟩ := pr58846
                              refine X_st [.int (iI z58849), .int (iI z56787), .ref b58845] rfl ?_
                              refine X_iast hK hs_b58845 (by decide) (by decide) sl_19200 (by omega) (by omega) (by omega) (by omega) kd50_16.1 (fun g58850 hg58850 => ?_)
                              refine X_iloadn hK (i := 3) 2 kd50_16.2.1 rfl rfl ?_
                              refine X_iconst hK kd50_16.2.2.1 ?_
                              refine X_iload hK (i := 5) 0 kd50_16.2.2.2.1 rfl ?_
                              refine X_ishl hK kd50_16.2.2.2.2.1 (fun z58851 ez58851 lz58851 uz58851 => ?_)
                              have bz58851 := xshlB 8 ez58851 ⟨lz58851, uz58851⟩ (by omega) (by decide)
                              refine X_ior hK kd50_16.2.2.2.2.2.1 (fun z58852 ez58852 lz58852 uz58852 => ?_)
                              refine X_istoren hK (i := 3) [(3, .int (iI z58852)), (5, .int (iI z58628)), (4, .int (iI z56787)), (2, .int (iI z56789)), (1, .int (iI z39788)), (0, .ref a0)] kd50_16.2.2.2.2.2.2.1 rfl (by decide) rfl ?_
                              refine X_iload hK (i := 4) 2 kd50_16.2.2.2.2.2.2.2.1 rfl ?_
                              refine X_iloadn hK (i := 1) 4 kd50_16.2.2.2.2.2.2.2.2.1 rfl rfl ?_
                              refine X_iconst hK kd50_16.2.2.2.2.2.2.2.2.2.1 ?_
                              refine X_isub hK kd50_16.2.2.2.2.2.2.2.2.2.2.1 ?_
                              refine X_icmp_ge hK 252 (by omega) (by omega) kd50_16.2.2.2.2.2.2.2.2.2.2.2 (by decide) (fun c58853 => ?_) (fun c58853 => ?_)
                              · refine X_aloadn hK (i := 0) 5 kd50_17.2.2.2.2.2.2.2.1 rfl rfl ?_
                                refine X_getK hK fl_X12_189_13 hs_a0 ((xs_a hg58850 (xne hs_a0 hs_b58845 (by decide))).trans eb58845) kd50_17.2.2.2.2.2.2.2.2.1 ?_
                                refine X_iload hK (i := 4) 2 kd50_17.2.2.2.2.2.2.2.2.2.1 rfl ?_
                                refine X_ialdK hK hs_b58845 (by decide) (by omega) (by omega) (xs_s hg58850) kd50_17.2.2.2.2.2.2.2.2.2.2.1 ?_
                                refine X_istoren hK (i := 2) [(2, .int (iI z58849)), (3, .int (iI z58852)), (5, .int (iI z58628)), (4, .int (iI z56787)), (1, .int (iI z39788)), (0, .ref a0)] kd50_17.2.2.2.2.2.2.2.2.2.2.2 rfl (by decide) rfl ?_
                                refine X_iconst hK kd50_18.1 ?_
                                refine X_istore hK (i := 6) [(6, .int (iI 0)), (2, .int (iI z58849)), (3, .int (iI z58852)), (5, .int (iI z58628)), (4, .int (iI z56787)), (1, .int (iI z39788)), (0, .ref a0)] kd50_18.2.1 (by decide) rfl ?_
                                have P58901 : ∀ (nP58901 : Nat) (g58894 : xG) (_ : xM [(19000, 0)] S g58850 g58894) (z58893 : Int) (_ : 0 ≤ z58893) (_ : z58893 ≤ 9) (_ : 25 - z58893 < (nP58901 : Int)), X K E 263 [(6, .int (iI z58893)), (2, .int (iI z58849)), (3, .int (iI z58852)), (5, .int (iI z58628)), (4, .int (iI z56787)), (1, .int (iI z39788)), (0, .ref a0)] [] S g58894 0 0 := by
                                  intro nP58901
                                  induction nP58901 with
                                  | zero => intro g58894 hg58894 z58893 lz58893 uz58893 mP58901; exact False.elim (by omega)
                                  | succ nP58901 ihP58901 =>
                                    intro g58894 hg58894 z58893 lz58893 uz58893 mP58901
                                    refine X_iload hK (i := 6) 0 kd50_18.2.2.1 rfl ?_
                                    refine X_iloadn hK (i := 1) 5 kd50_18.2.2.2.1 rfl rfl ?_
                                    refine X_icmp_ge hK 294 (by omega) (by omega) kd50_18.2.2.2.2.1 (by decide) (fun c58902 => ?_) (fun c58902 => ?_)
                                    · refine X_goto hK 118 kd50_19.2.2.2.2.2.2.1 (by decide) ?_
                                      refine X_lv [(4, .int (iI z56787)), (3, .int (iI z58852)), (2, .int (iI z58849)), (1, .int (iI z39788)), (0, .ref a0)] [4, 2, 1, 5, 6] rfl ?_
                                      exact ihP58198  g58894 (xM.tr (xM_ua (xM_ua (xM.tr xM.rf xLe.rf hg56790 (by decide)) hg58844 hs_w85 (by decide) (by decide)) hg58850 hs_b58845 (by decide) (by decide)) xLe.rf hg58894 (by decide)) z56787 (by omega) (by omega) z58852 (by omega) (by omega) z58849 (by omega) (by omega) (by omega) (fun x q1 q2 => by rw [(show xv g58894 w85 x = xv g56790 w85 x from by rw [(xv_m hg58894 hs_w85 (by decide) (by decide)), (xv_a hg58850 (xne hs_w85 hs_b58845 (by decide))), (xv_k (i := x) hg58844 (by omega) (by omega) (by omega))])]; exact v58200 x q1 q2) (fun h9 x q1 q2 => by rcases (show x < z56787 ∨ x = z56787 by omega) with c9 | c9 <;> first | (rw [c9]; have h8 := (show xv g58894 w85 z56787 = z58628 from by rw [(xv_m hg58894 hs_w85 (by decide) (by decide)), (xv_a hg58850 (xne hs_w85 hs_b58845 (by decide))), xv_s hg58844 (by omega)]); omega) | (rw [(show xv g58894 w85 x = xv g56790 w85 x from by rw [(xv_m hg58894 hs_w85 (by decide) (by decide)), (xv_a hg58850 (xne hs_w85 hs_b58845 (by decide))), (xv_k (i := x) hg58844 (by omega) (by omega) (by omega))])]; exact v58201 h9 x q1 (by omega))) (by have h9 := xdm_adv (f := xv g56790 w85) (f' := xv g58894 w85) (k := z56787) (i := z58628) (by omega) (by omega) (by omega) (show xv g58894 w85 z56787 = z58628 from by rw [(xv_m hg58894 hs_w85 (by decide) (by decide)), (xv_a hg58850 (xne hs_w85 hs_b58845 (by decide))), xv_s hg58844 (by omega)]) (fun x q1 q2 => (show xv g58894 w85 x = xv g56790 w85 x from by rw [(xv_m hg58894 hs_w85 (by decide) (by decide)), (xv_a hg58850 (xne hs_w85 hs_b58845 (by decide))), (xv_k (i := x) hg58844 (by omega) (by omega) (by omega))])); omega)
                                    · refine X_aloadn hK (i := 0) 6 kd50_18.2.2.2.2.2.1 rfl rfl ?_
                                      refine X_getr hK 19000 9 fl_X12_183_13 hs_a0 sl_13_84 kd50_18.2.2.2.2.2.2.1 (fun b58903 eb58903 hs_b58903 => ?_)
                                      refine X_iload hK (i := 6) 0 kd50_18.2.2.2.2.2.2.2.1 rfl ?_
                                      refine X_aloadn hK (i := 0) 6 kd50_18.2.2.2.2.2.2.2.2.1 rfl rfl ?_
                                      refine X_getr hK 18900 10 fl_X12_180_13 hs_a0 sl_13_83 kd50_18.2.2.2.2.2.2.2.2.2.1 (fun b58904 eb58904 hs_b58904 => ?_)
                                      refine X_aloadn hK (i := 0) 6 kd50_18.2.2.2.2.2.2.2.2.2.2.1 rfl rfl ?_
                                      refine X_getK hK fl_X12_186_13 hs_a0 ((hg58894 a0 13 0 85 hs_a0 (by decide)).trans ((xs_a hg58850 (xne hs_a0 hs_b58845 (by decide))).trans ((xs_a hg58844 (xne hs_a0 hs_w85 (by decide))).trans ((hg56790 a0 13 0 85 hs_a0 (by decide)).trans ((xs_a hg49736 (xne hs_a0 hs_w85 (by decide))).trans ((hg39789 a0 13 0 85 hs_a0 (by decide)).trans ((hg10 a0 13 0 85 hs_a0 (by decide)).trans ((hg3 a0 13 0 85 hs_a0 (by decide)).trans ((xs_k hg1 (by decide)).trans ew85))))))))) kd50_18.2.2.2.2.2.2.2.2.2.2.2 ?_
                                      refine X_iload hK (i := 6) 0 kd50_19.1 rfl ?_
                                      refine X_iald hK hs_w85 (by decide) sl_19100 (by omega) (by omega) kd50_19.2.1 (fun z58905 ez58905 lz58905 uz58905 => ?_)
                                      have hvz58905 := xv_e (j := z58893) ez58905 (by omega)
                                      have hzh58906 : 0 ≤ z58905 := by have h7 := xv_e (j := z58893) ez58905 (by omega); rcases (show z58893 < z56787 ∨ z58893 = z56787 by omega) with c9 | c9 <;> first | (have h8 := (show xv g58894 w85 z58893 = xv g56790 w85 z58893 from by rw [(xv_m hg58894 hs_w85 (by decide) (by decide)), (xv_a hg58850 (xne hs_w85 hs_b58845 (by decide))), (xv_k (i := z58893) hg58844 (by omega) (by omega) (by omega))]); have h6 := v58200 z58893 (by omega) c9; omega) | (rw [c9] at h7; have h8 := (show xv g58894 w85 z56787 = z58628 from by rw [(xv_m hg58894 hs_w85 (by decide) (by decide)), (xv_a hg58850 (xne hs_w85 hs_b58845 (by decide))), xv_s hg58844 (by omega)]); omega)
                                      refine X_iald hK hs_b58904 (by decide) sl_18900 (by omega) (by omega) kd50_19.2.2.1 (fun z58907 ez58907 lz58907 uz58907 => ?_)
                                      refine X_iast hK hs_b58903 (by decide) (by decide) sl_19000 (by omega) (by omega) (by omega) (by omega) kd50_19.2.2.2.1 (fun g58908 hg58908 => ?_)
                                      refine X_iinc hK (i := 6) (z := z58893) (n := 1) 0 [(6, .int (iI (z58893 + 1))), (2, .int (iI z58849)), (3, .int (iI z58852)), (5, .int (iI z58628)), (4, .int (iI z56787)), (1, .int (iI z39788)), (0, .ref a0)] kd50_19.2.2.2.2.1 rfl (by decide) rfl ?_
                                      refine X_goto hK 263 kd50_19.2.2.2.2.2.1 (by decide) ?_
                                      exact ihP58901  g58908 (xM_ua (xM.tr xM.rf xLe.rf hg58894 (by decide)) hg58908 hs_b58903 (by decide) (by decide)) (z58893 + 1) (by omega) (by omega) (by omega)
                                exact P58901 ((25 - 0 : Int).toNat + 1) g58850 xM.rf 0 (by omega) (by omega) (by omega)
                              · refine X_iinc hK (i := 4) (z := z56787) (n := 1) 2 [(4, .int (iI (z56787 + 1))), (3, .int (iI z58852)), (5, .int (iI z58628)), (2, .int (iI z56789)), (1, .int (iI z39788)), (0, .ref a0)] kd50_17.1 rfl (by decide) rfl ?_
                                refine X_aloadn hK (i := 0) 5 kd50_17.2.1 rfl rfl ?_
                                refine X_getK hK fl_X12_186_13 hs_a0 ((xs_a hg58850 (xne hs_a0 hs_b58845 (by decide))).trans ((xs_a hg58844 (xne hs_a0 hs_w85 (by decide))).trans ((hg56790 a0 13 0 85 hs_a0 (by decide)).trans ((xs_a hg49736 (xne hs_a0 hs_w85 (by decide))).trans ((hg39789 a0 13 0 85 hs_a0 (by decide)).trans ((hg10 a0 13 0 85 hs_a0 (by decide)).trans ((hg3 a0 13 0 85 hs_a0 (by decide)).trans ((xs_k hg1 (by decide)).trans ew85)))))))) kd50_17.2.2.1 ?_
                                refine X_iload hK (i := 4) 0 kd50_17.2.2.2.1 rfl ?_
                                refine X_iconst hK kd50_17.2.2.2.2.1 ?_
                                refine X_iast hK hs_w85 (by decide) (by decide) sl_19100 (by omega) (by omega) (by omega) (by omega) kd50_17.2.2.2.2.2.1 (fun g58909 hg58909 => ?_)
                                refine X_goto hK 118 kd50_17.2.2.2.2.2.2.1 (by decide) ?_
                                refine X_lv [(4, .int (iI (z56787 + 1))), (3, .int (iI z58852)), (2, .int (iI z56789)), (1, .int (iI z39788)), (0, .ref a0)] [0, 1, 3, 4, 5] rfl ?_
                                exact ihP58198  g58909 (xM_ua (xM_ua (xM_ua (xM.tr xM.rf xLe.rf hg56790 (by decide)) hg58844 hs_w85 (by decide) (by decide)) hg58850 hs_b58845 (by decide) (by decide)) hg58909 hs_w85 (by decide) (by decide)) (z56787 + 1) (by omega) (by omega) z58852 (by omega) (by omega) z56789 (by omega) (by omega) (by omega) (fun x q1 q2 => by rcases (show x < z56787 ∨ x = z56787 by omega) with c9 | c9 <;> first | (rw [c9]; have h8 := (show xv g58909 w85 z56787 = z58628 from by rw [(xv_k (i := z56787) hg58909 (by omega) (by omega) (by omega)), (xv_a hg58850 (xne hs_w85 hs_b58845 (by decide))), xv_s hg58844 (by omega)]); omega) | (rw [(show xv g58909 w85 x = xv g56790 w85 x from by rw [(xv_k (i := x) hg58909 (by omega) (by omega) (by omega)), (xv_a hg58850 (xne hs_w85 hs_b58845 (by decide))), (xv_k (i := x) hg58844 (by omega) (by omega) (by omega))])]; exact v58200 x q1 c9)) (fun h9 x q1 q2 => by rcases (show x < z56787 ∨ x = z56787 ∨ x = (z56787 + 1) by omega) with c9 | c9 | c9 <;> first | (rw [c9]; have h8 := (show xv g58909 w85 z56787 = z58628 from by rw [(xv_k (i := z56787) hg58909 (by omega) (by omega) (by omega)), (xv_a hg58850 (xne hs_w85 hs_b58845 (by decide))), xv_s hg58844 (by omega)]); omega) | (rw [c9]; have h8 := (show xv g58909 w85 (z56787 + 1) = (-1) from by rw [xv_s hg58909 (by omega)]); omega) | (rw [(show xv g58909 w85 x = xv g56790 w85 x from by rw [(xv_k (i := x) hg58909 (by omega) (by omega) (by omega)), (xv_a hg58850 (xne hs_w85 hs_b58845 (by decide))), (xv_k (i := x) hg58844 (by omega) (by omega) (by omega))])]; exact v58201 h9 x q1 (by omega))) (by have h9 := xdm_push (f := xv g56790 w85) (f' := xv g58909 w85) (k := z56787) (i := z58628) (by omega) (by omega) (by omega) (show xv g58909 w85 z56787 = z58628 from by rw [(xv_k (i := z56787) hg58909 (by omega) (by omega) (by omega)), (xv_a hg58850 (xne hs_w85 hs_b58845 (by decide))), xv_s hg58844 (by omega)]) (show xv g58909 w85 (z56787 + 1) = (-1) from by rw [xv_s hg58909 (by omega)]) (fun x q1 q2 => (show xv g58909 w85 x = xv g56790 w85 x from by rw [(xv_k (i := x) hg58909 (by omega) (by omega) (by omega)), (xv_a hg58850 (xne hs_w85 hs_b58845 (by decide))), (xv_k (i := x) hg58844 (by omega) (by omega) (by omega))])); omega)
                            · refine X_iinc hK (i := 4) (z := z56787) (n := (-1)) 1 [(4, .int (iI (z56787 + (-1)))), (5, .int (iI z58628)), (3, .int (iI z56788)), (2, .int (iI z56789)), (1, .int (iI z39788)), (0, .ref a0)] kd50_14.2.2.2.2.2.2.2.2.2.2.1 rfl (by decide) rfl ?_
                              refine X_goto hK 118 kd50_14.2.2.2.2.2.2.2.2.2.2.2 (by decide) ?_
                              refine X_lv [(4, .int (iI (z56787 + (-1)))), (3, .int (iI z56788)), (2, .int (iI z56789)), (1, .int (iI z39788)), (0, .ref a0)] [0, 2, 3, 4, 5] rfl ?_
                              exact ihP58198  g56790 (xM.tr xM.rf xLe.rf hg56790 (by decide)) (z56787 + (-1)) (by omega) (by omega) z56788 (by omega) (by omega) z56789 (by omega) (by omega) (by omega) (fun x q1 q2 => v58200 x q1 (by omega)) (fun h9 x q1 q2 => v58201 h9 x q1 (by omega)) (by have h9 := xdm_pop (f := xv g56790 w85) (k := z56787) (by omega); omega)
                          · refine X_iinc hK (i := 5) (z := z58628) (n := 1) 0 [(5, .int (iI (z58628 + 1))), (4, .int (iI z56787)), (3, .int (iI z56788)), (2, .int (iI z56789)), (1, .int (iI z39788)), (0, .ref a0)] kd50_14.2.2.2.2.2.1 rfl (by decide) rfl ?_
                            refine X_goto hK 162 kd50_14.2.2.2.2.2.2.1 (by decide) ?_
                            exact ihP58767  (z58628 + 1) (by omega) (by omega) (by omega) (by omega) (by omega)
                    exact P58767 ((25 - (z58207 + 1) : Int).toNat + 1) (z58207 + 1) (by omega) (by omega) (by omega) (by omega) (by omega)
                  · refine X_iloadn hK (i := 3) 1 kd50_12.2.1 rfl rfl ?_
                    refine X_iconst hK kd50_12.2.2.1 ?_
                    refine X_aloadn hK (i := 0) 4 kd50_12.2.2.2.1 rfl rfl ?_
                    refine X_getK hK fl_X12_186_13 hs_a0 ((hg56790 a0 13 0 85 hs_a0 (by decide)).trans ((xs_a hg49736 (xne hs_a0 hs_w85 (by decide))).trans ((hg39789 a0 13 0 85 hs_a0 (by decide)).trans ((hg10 a0 13 0 85 hs_a0 (by decide)).trans ((hg3 a0 13 0 85 hs_a0 (by decide)).trans ((xs_k hg1 (by decide)).trans ew85)))))) kd50_12.2.2.2.2.1 ?_
                    refine X_iload hK (i := 4) 0 kd50_12.2.2.2.2.2.1 rfl ?_
                    refine X_ialdK hK hs_w85 (by decide) (by omega) (by omega) ez58207 kd50_12.2.2.2.2.2.2.1 ?_
                    have hvx58910 := xv_e (j := z56787) ez58207 (by omega)
                    refine X_ishl hK kd50_12.2.2.2.2.2.2.2.1 (fun z58911 ez58911 lz58911 uz58911 => ?_)
                    have bz58911 := xshlB 8 ez58911 ⟨lz58911, uz58911⟩ (by omega) (by decide)
                    refine X_iconst hK kd50_12.2.2.2.2.2.2.2.2.1 ?_
                    refine X_ixor hK kd50_12.2.2.2.2.2.2.2.2.2.1 (fun z58912 ez58912 lz58912 uz58912 => ?_)
                    refine X_iand hK kd50_12.2.2.2.2.2.2.2.2.2.2.1 (fun z58913 ez58913 lz58913 uz58913 => ?_)
                    refine X_istoren hK (i := 3) [(3, .int (iI z58913)), (4, .int (iI z56787)), (2, .int (iI z56789)), (1, .int (iI z39788)), (0, .ref a0)] kd50_12.2.2.2.2.2.2.2.2.2.2.2 rfl (by decide) rfl ?_
                    refine X_aloadn hK (i := 0) 4 kd50_13.1 rfl rfl ?_
                    refine X_getK hK fl_X12_186_13 hs_a0 ((hg56790 a0 13 0 85 hs_a0 (by decide)).trans ((xs_a hg49736 (xne hs_a0 hs_w85 (by decide))).trans ((hg39789 a0 13 0 85 hs_a0 (by decide)).trans ((hg10 a0 13 0 85 hs_a0 (by decide)).trans ((hg3 a0 13 0 85 hs_a0 (by decide)).trans ((xs_k hg1 (by decide)).trans ew85)))))) kd50_13.2.1 ?_
                    refine X_iload hK (i := 4) 1 kd50_13.2.2.1 rfl ?_
                    refine X_ialdK hK hs_w85 (by decide) (by omega) (by omega) ez58207 kd50_13.2.2.2.1 ?_
                    have hvx58914 := xv_e (j := z56787) ez58207 (by omega)
                    refine X_iconst hK kd50_13.2.2.2.2.1 ?_
                    refine X_iadd hK kd50_13.2.2.2.2.2.1 ?_
                    refine X_istore hK (i := 5) [(5, .int (iI (z58207 + 1))), (3, .int (iI z58913)), (4, .int (iI z56787)), (2, .int (iI z56789)), (1, .int (iI z39788)), (0, .ref a0)] kd50_13.2.2.2.2.2.2.1 (by decide) rfl ?_
                    have hlh58915 := v58201 (by omega) z56787 (by omega) (by omega)
                    have P59472 : ∀ (nP59472 : Nat) (z59333 : Int) (_ : 0 ≤ z59333) (_ : z59333 ≤ 9) (_ : z59333 ≤ z39788) (_ : xv g56790 w85 z56787 < z59333) (_ : 25 - z59333 < (nP59472 : Int)), X K E 162 [(5, .int (iI z59333)), (3, .int (iI z58913)), (4, .int (iI z56787)), (2, .int (iI z56789)), (1, .int (iI z39788)), (0, .ref a0)] [] S g56790 0 0 := by
                      intro nP59472
                      induction nP59472 with
                      | zero => intro z59333 lz59333 uz59333 v59473 v59474 mP59472; exact False.elim (by omega)
                      | succ nP59472 ihP59472 =>
                        intro z59333 lz59333 uz59333 v59473 v59474 mP59472
                        refine X_iload hK (i := 5) 0 kd50_13.2.2.2.2.2.2.2.1 rfl ?_
                        refine X_iloadn hK (i := 1) 4 kd50_13.2.2.2.2.2.2.2.2.1 rfl rfl ?_
                        refine X_icmp_ge hK 187 (by omega) (by omega) kd50_13.2.2.2.2.2.2.2.2.2.1 (by decide) (fun c59475 => ?_) (fun c59475 => ?_)
                        · refine X_iload hK (i := 5) 0 kd50_14.2.2.2.2.2.2.2.1 rfl ?_
                          refine X_iloadn hK (i := 1) 4 kd50_14.2.2.2.2.2.2.2.2.1 rfl rfl ?_
                          refine X_icmp_ne hK 199 (by omega) (by omega) kd50_14.2.2.2.2.2.2.2.2.2.1 (by decide) (fun c59476 => ?_) (fun c59476 => ?_)
                          · refine X_aloadn hK (i := 0) 5 kd50_15.1 rfl rfl ?_
                            refine X_getK hK fl_X12_186_13 hs_a0 ((hg56790 a0 13 0 85 hs_a0 (by decide)).trans ((xs_a hg49736 (xne hs_a0 hs_w85 (by decide))).trans ((hg39789 a0 13 0 85 hs_a0 (by decide)).trans ((hg10 a0 13 0 85 hs_a0 (by decide)).trans ((hg3 a0 13 0 85 hs_a0 (by decide)).trans ((xs_k hg1 (by decide)).trans ew85)))))) kd50_15.2.1 ?_
                            refine X_iload hK (i := 4) 2 kd50_15.2.2.1 rfl ?_
                            refine X_iload hK (i := 5) 0 kd50_15.2.2.2.1 rfl ?_
                            refine X_iast hK hs_w85 (by decide) (by decide) sl_19100 (by omega) (by omega) (by omega) (by omega) kd50_15.2.2.2.2.1 (fun g59477 hg59477 => ?_)
                            refine X_aloadn hK (i := 0) 5 kd50_15.2.2.2.2.2.1 rfl rfl ?_
                            refine X_getr hK 19200 10 fl_X12_189_13 hs_a0 sl_13_86 kd50_15.2.2.2.2.2.2.1 (fun b59478 eb59478 hs_b59478 => ?_)
                            refine X_iload hK (i := 4) 2 kd50_15.2.2.2.2.2.2.2.1 rfl ?_
                            refine X_aloadn hK (i := 0) 5 kd50_15.2.2.2.2.2.2.2.2.1 rfl rfl ?_
                            refine X_iload hK (i := 4) 2 kd50_15.2.2.2.2.2.2.2.2.2.1 rfl ?_
                            refine X_iload hK (i := 5) 0 kd50_15.2.2.2.2.2.2.2.2.2.2.1 rfl ?_
                            refine X_callV hK [.int (iI z56787), .int (iI z59333)] [.int (iI z56787), .ref b59478] lk_X12_471 (c_X12_comesAt _ _ _ _ _ S g59477 a0 z56787 z59333 w85 hs_a0 (by omega) (by omega) ((xs_a hg59477 (xne hs_a0 hs_w85 (by decide))).trans ((hg56790 a0 13 0 85 hs_a0 (by decide)).trans ((xs_a hg49736 (xne hs_a0 hs_w85 (by decide))).trans ((hg39789 a0 13 0 85 hs_a0 (by decide)).trans ((hg10 a0 13 0 85 hs_a0 (by decide)).trans ((hg3 a0 13 0 85 hs_a0 (by decide)).trans ((xs_k hg1 (by decide)).trans ew85))))))) hs_w85 (by rcases (show z56787 = 0 ∨ 1 ≤ z56787 by omega) with c9 | c9 <;> first | exact Or.inl c9 | exact Or.inr (by rw [(show xv g59477 w85 (z56787 - 1) = xv g56790 w85 (z56787 - 1) from by rw [(xv_k (i := (z56787 - 1)) hg59477 (by omega) (by omega) (by omega))])]; exact (v58200 (z56787 - 1) (by omega) (by omega))))) hs_a0 ⟨by decide, rfl⟩ kd50_15.2.2.2.2.2.2.2.2.2.2.2 rfl rfl (by simp [Value.category]) (by decide) (by decide) (by decide) (by decide) (fun r59479 S59481 g59480 pr59479 qr59479 hg59480 => ?_)
                            obtain ⟨rfl, rfl, z59482, rfl, lz59482, uz59482⟩ := pr59479
                            refine X_st [.int (iI z59482), .int (iI z56787), .ref b59478] rfl ?_
                            refine X_iast hK hs_b59478 (by decide) (by decide) sl_19200 (by omega) (by omega) (by omega) (by omega) kd50_16.1 (fun g59483 hg59483 => ?_)
                            refine X_iloadn hK (i := 3) 1 kd50_16.2.1 rfl rfl ?_
                            refine X_iconst hK kd50_16.2.2.1 ?_
                            refine X_iload hK (i := 5) 0 kd50_16.2.2.2.1 rfl ?_
                            refine X_ishl hK kd50_16.2.2.2.2.1 (fun z59484 ez59484 lz59484 uz59484 => ?_)
                            have bz59484 := xshlB 9 ez59484 ⟨lz59484, uz59484⟩ (by omega) (by decide)
                            refine X_ior hK kd50_16.2.2.2.2.2.1 (fun z59485 ez59485 lz59485 uz59485 => ?_)
                            refine X_istoren hK (i := 3) [(3, .int (iI z59485)), (5, .int (iI z59333)), (4, .int (iI z56787)), (2, .int (iI z56789)), (1, .int (iI z39788)), (0, .ref a0)] kd50_16.2.2.2.2.2.2.1 rfl (by decide) rfl ?_
                            refine X_iload hK (i := 4) 2 kd50_16.2.2.2.2.2.2.2.1 rfl ?_
                            refine X_iloadn hK (i := 1) 4 kd50_16.2.2.2.2.2.2.2.2.1 rfl rfl ?_
                            refine X_iconst hK kd50_16.2.2.2.2.2.2.2.2.2.1 ?_
                            refine X_isub hK kd50_16.2.2.2.2.2.2.2.2.2.2.1 ?_
                            refine X_icmp_ge hK 252 (by omega) (by omega) kd50_16.2.2.2.2.2.2.2.2.2.2.2 (by decide) (fun c59486 => ?_) (fun c59486 => ?_)
                            · refine X_aloadn hK (i := 0) 5 kd50_17.2.2.2.2.2.2.2.1 rfl rfl ?_
                              refine X_getK hK fl_X12_189_13 hs_a0 ((xs_a hg59483 (xne hs_a0 hs_b59478 (by decide))).trans eb59478) kd50_17.2.2.2.2.2.2.2.2.1 ?_
                              refine X_iload hK (i := 4) 2 kd50_17.2.2.2.2.2.2.2.2.2.1 rfl ?_
                              refine X_ialdK hK hs_b59478 (by decide) (by omega) (by omega) (xs_s hg59483) kd50_17.2.2.2.2.2.2.2.2.2.2.1 ?_
                              refine X_istoren hK (i := 2) [(2, .int (iI z59482)), (3, .int (iI z59485)), (5, .int (iI z59333)), (4, .int (iI z56787)), (1, .int (iI z39788)), (0, .ref a0)] kd50_17.2.2.2.2.2.2.2.2.2.2.2 rfl (by decide) rfl ?_
                              refine X_iconst hK kd50_18.1 ?_
                              refine X_istore hK (i := 6) [(6, .int (iI 0)), (2, .int (iI z59482)), (3, .int (iI z59485)), (5, .int (iI z59333)), (4, .int (iI z56787)), (1, .int (iI z39788)), (0, .ref a0)] kd50_18.2.1 (by decide) rfl ?_
                              have P59534 : ∀ (nP59534 : Nat) (g59527 : xG) (_ : xM [(19000, 0)] S g59483 g59527) (z59526 : Int) (_ : 0 ≤ z59526) (_ : z59526 ≤ 9) (_ : 25 - z59526 < (nP59534 : Int)), X K E 263 [(6, .int (iI z59526)), (2, .int (iI z59482)), (3, .int (iI z59485)), (5, .int (iI z59333)), (4, .int (iI z56787)), (1, .int (iI z39788)), (0, .ref a0)] [] S g59527 0 0 := by
                                intro nP59534
                                induction nP59534 with
                                | zero => intro g59527 hg59527 z59526 lz59526 uz59526 mP59534; exact False.elim (by omega)
                                | succ nP59534 ihP59534 =>
                                  intro g59527 hg59527 z59526 lz59526 uz59526 mP59534
                                  refine X_iload hK (i := 6) 0 kd50_18.2.2.1 rfl ?_
                                  refine X_iloadn hK (i := 1) 5 kd50_18.2.2.2.1 rfl rfl ?_
                                  refine X_icmp_ge hK 294 (by omega) (by omega) kd50_18.2.2.2.2.1 (by decide) (fun c59535 => ?_) (fun c59535 => ?_)
                                  · refine X_goto hK 118 kd50_19.2.2.2.2.2.2.1 (by decide) ?_
                                    refine X_lv [(4, .int (iI z56787)), (3, .int (iI z59485)), (2, .int (iI z59482)), (1, .int (iI z39788)), (0, .ref a0)] [4, 2, 1, 5, 6] rfl ?_
                                    exact ihP58198  g59527 (xM.tr (xM_ua (xM_ua (xM.tr xM.rf xLe.rf hg56790 (by decide)) hg59477 hs_w85 (by decide) (by decide)) hg59483 hs_b59478 (by decide) (by decide)) xLe.rf hg59527 (by decide)) z56787 (by omega) (by omega) z59485 (by omega) (by omega) z59482 (by omega) (by omega) (by omega) (fun x q1 q2 => by rw [(show xv g59527 w85 x = xv g56790 w85 x from by rw [(xv_m hg59527 hs_w85 (by decide) (by decide)), (xv_a hg59483 (xne hs_w85 hs_b59478 (by decide))), (xv_k (i := x) hg59477 (by omega) (by omega) (by omega))])]; exact v58200 x q1 q2) (fun h9 x q1 q2 => by rcases (show x < z56787 ∨ x = z56787 by omega) with c9 | c9 <;> first | (rw [c9]; have h8 := (show xv g59527 w85 z56787 = z59333 from by rw [(xv_m hg59527 hs_w85 (by decide) (by decide)), (xv_a hg59483 (xne hs_w85 hs_b59478 (by decide))), xv_s hg59477 (by omega)]); omega) | (rw [(show xv g59527 w85 x = xv g56790 w85 x from by rw [(xv_m hg59527 hs_w85 (by decide) (by decide)), (xv_a hg59483 (xne hs_w85 hs_b59478 (by decide))), (xv_k (i := x) hg59477 (by omega) (by omega) (by omega))])]; exact v58201 h9 x q1 (by omega))) (by have h9 := xdm_adv (f := xv g56790 w85) (f' := xv g59527 w85) (k := z56787) (i := z59333) (by omega) (by omega) (by omega) (show xv g59527 w85 z56787 = z59333 from by rw [(xv_m hg59527 hs_w85 (by decide) (by decide)), (xv_a hg59483 (xne hs_w85 hs_b59478 (by decide))), xv_s hg59477 (by omega)]) (fun x q1 q2 => (show xv g59527 w85 x = xv g56790 w85 x from by rw [(xv_m hg59527 hs_w85 (by decide) (by decide)), (xv_a hg59483 (xne hs_w85 hs_b59478 (by decide))), (xv_k (i := x) hg59477 (by omega) (by omega) (by omega))])); omega)
                                  · refine X_aloadn hK (i := 0) 6 kd50_18.2.2.2.2.2.1 rfl rfl ?_
                                    refine X_getr hK 19000 9 fl_X12_183_13 hs_a0 sl_13_84 kd50_18.2.2.2.2.2.2.1 (fun b59536 eb59536 hs_b59536 => ?_)
                                    refine X_iload hK (i := 6) 0 kd50_18.2.2.2.2.2.2.2.1 rfl ?_
                                    refine X_aloadn hK (i := 0) 6 kd50_18.2.2.2.2.2.2.2.2.1 rfl rfl ?_
                                    refine X_getr hK 18900 10 fl_X12_180_13 hs_a0 sl_13_83 kd50_18.2.2.2.2.2.2.2.2.2.1 (fun b59537 eb59537 hs_b59537 => ?_)
                                    refine X_aloadn hK (i := 0) 6 kd50_18.2.2.2.2.2.2.2.2.2.2.1 rfl rfl ?_
                                    refine X_getK hK fl_X12_186_13 hs_a0 ((hg59527 a0 13 0 85 hs_a0 (by decide)).trans ((xs_a hg59483 (xne hs_a0 hs_b59478 (by decide))).trans ((xs_a hg59477 (xne hs_a0 hs_w85 (by decide))).trans ((hg56790 a0 13 0 85 hs_a0 (by decide)).trans ((xs_a hg49736 (xne hs_a0 hs_w85 (by decide))).trans ((hg39789 a0 13 0 85 hs_a0 (by decide)).trans ((hg10 a0 13 0 85 hs_a0 (by decide)).trans ((hg3 a0 13 0 85 hs_a0 (by decide)).trans ((xs_k hg1 (by decide)).trans ew85))))))))) kd50_18.2.2.2.2.2.2.2.2.2.2.2 ?_
                                    refine X_iload hK (i := 6) 0 kd50_19.1 rfl ?_
                                    refine X_iald hK hs_w85 (by decide) sl_19100 (by omega) (by omega) kd50_19.2.1 (fun z59538 ez59538 lz59538 uz59538 => ?_)
                                    have hvz59538 := xv_e (j := z59526) ez59538 (by omega)
                                    have hzh59539 : 0 ≤ z59538 := by have h7 := xv_e (j := z59526) ez59538 (by omega); rcases (show z59526 < z56787 ∨ z59526 = z56787 by omega) with c9 | c9 <;> first | (have h8 := (show xv g59527 w85 z59526 = xv g56790 w85 z59526 from by rw [(xv_m hg59527 hs_w85 (by decide) (by decide)), (xv_a hg59483 (xne hs_w85 hs_b59478 (by decide))), (xv_k (i := z59526) hg59477 (by omega) (by omega) (by omega))]); have h6 := v58200 z59526 (by omega) c9; omega) | (rw [c9] at h7; have h8 := (show xv g59527 w85 z56787 = z59333 from by rw [(xv_m hg59527 hs_w85 (by decide) (by decide)), (xv_a hg59483 (xne hs_w85 hs_b59478 (by decide))), xv_s hg59477 (by omega)]); omega)
                                    refine X_iald hK hs_b59537 (by decide) sl_18900 (by omega) (by omega) kd50_19.2.2.1 (fun z59540 ez59540 lz59540 uz59540 => ?_)
                                    refine X_iast hK hs_b59536 (by decide) (by decide) sl_19000 (by omega) (by omega) (by omega) (by omega) kd50_19.2.2.2.1 (fun g59541 hg59541 => ?_)
                                    refine X_iinc hK (i := 6) (z := z59526) (n := 1) 0 [(6, .int (iI (z59526 + 1))), (2, .int (iI z59482)), (3, .int (iI z59485)), (5, .int (iI z59333)), (4, .int (iI z56787)), (1, .int (iI z39788)), (0, .ref a0)] kd50_19.2.2.2.2.1 rfl (by decide) rfl ?_
                                    refine X_goto hK 263 kd50_19.2.2.2.2.2.1 (by decide) ?_
                                    exact ihP59534  g59541 (xM_ua (xM.tr xM.rf xLe.rf hg59527 (by decide)) hg59541 hs_b59536 (by decide) (by decide)) (z59526 + 1) (by omega) (by omega) (by omega)
                              exact P59534 ((25 - 0 : Int).toNat + 1) g59483 xM.rf 0 (by omega) (by omega) (by omega)
                            · refine X_iinc hK (i := 4) (z := z56787) (n := 1) 2 [(4, .int (iI (z56787 + 1))), (3, .int (iI z59485)), (5, .int (iI z59333)), (2, .int (iI z56789)), (1, .int (iI z39788)), (0, .ref a0)] kd50_17.1 rfl (by decide) rfl ?_
                              refine X_aloadn hK (i := 0) 5 kd50_17.2.1 rfl rfl ?_
                              refine X_getK hK fl_X12_186_13 hs_a0 ((xs_a hg59483 (xne hs_a0 hs_b59478 (by decide))).trans ((xs_a hg59477 (xne hs_a0 hs_w85 (by decide))).trans ((hg56790 a0 13 0 85 hs_a0 (by decide)).trans ((xs_a hg49736 (xne hs_a0 hs_w85 (by decide))).trans ((hg39789 a0 13 0 85 hs_a0 (by decide)).trans ((hg10 a0 13 0 85 hs_a0 (by decide)).trans ((hg3 a0 13 0 85 hs_a0 (by decide)).trans ((xs_k hg1 (by decide)).trans ew85)))))))) kd50_17.2.2.1 ?_
                              refine X_iload hK (i := 4) 0 kd50_17.2.2.2.1 rfl ?_
                              refine X_iconst hK kd50_17.2.2.2.2.1 ?_
                              refine X_iast hK hs_w85 (by decide) (by decide) sl_19100 (by omega) (by omega) (by omega) (by omega) kd50_17.2.2.2.2.2.1 (fun g59542 hg59542 => ?_)
                              refine X_goto hK 118 kd50_17.2.2.2.2.2.2.1 (by decide) ?_
                              refine X_lv [(4, .int (iI (z56787 + 1))), (3, .int (iI z59485)), (2, .int (iI z56789)), (1, .int (iI z39788)), (0, .ref a0)] [0, 1, 3, 4, 5] rfl ?_
                              exact ihP58198  g59542 (xM_ua (xM_ua (xM_ua (xM.tr xM.rf xLe.rf hg56790 (by decide)) hg59477 hs_w85 (by decide) (by decide)) hg59483 hs_b59478 (by decide) (by decide)) hg59542 hs_w85 (by decide) (by decide)) (z56787 + 1) (by omega) (by omega) z59485 (by omega) (by omega) z56789 (by omega) (by omega) (by omega) (fun x q1 q2 => by rcases (show x < z56787 ∨ x = z56787 by omega) with c9 | c9 <;> first | (rw [c9]; have h8 := (show xv g59542 w85 z56787 = z59333 from by rw [(xv_k (i := z56787) hg59542 (by omega) (by omega) (by omega)), (xv_a hg59483 (xne hs_w85 hs_b59478 (by decide))), xv_s hg59477 (by omega)]); omega) | (rw [(show xv g59542 w85 x = xv g56790 w85 x from by rw [(xv_k (i := x) hg59542 (by omega) (by omega) (by omega)), (xv_a hg59483 (xne hs_w85 hs_b59478 (by decide))), (xv_k (i := x) hg59477 (by omega) (by omega) (by omega))])]; exact v58200 x q1 c9)) (fun h9 x q1 q2 => by rcases (show x < z56787 ∨ x = z56787 ∨ x = (z56787 + 1) by omega) with c9 | c9 | c9 <;> first | (rw [c9]; have h8 := (show xv g59542 w85 z56787 = z59333 from by rw [(xv_k (i := z56787) hg59542 (by omega) (by omega) (by omega)), (xv_a hg59483 (xne hs_w85 hs_b59478 (by decide))), xv_s hg59477 (by omega)]); omega) | (rw [c9]; have h8 := (show xv g59542 w85 (z56787 + 1) = (-1) from by rw [xv_s hg59542 (by omega)]); omega) | (rw [(show xv g59542 w85 x = xv g56790 w85 x from by rw [(xv_k (i := x) hg59542 (by omega) (by omega) (by omega)), (xv_a hg59483 (xne hs_w85 hs_b59478 (by decide))), (xv_k (i := x) hg59477 (by omega) (by omega) (by omega))])]; exact v58201 h9 x q1 (by omega))) (by have h9 := xdm_push (f := xv g56790 w85) (f' := xv g59542 w85) (k := z56787) (i := z59333) (by omega) (by omega) (by omega) (show xv g59542 w85 z56787 = z59333 from by rw [(xv_k (i := z56787) hg59542 (by omega) (by omega) (by omega)), (xv_a hg59483 (xne hs_w85 hs_b59478 (by decide))), xv_s hg59477 (by omega)]) (show xv g59542 w85 (z56787 + 1) = (-1) from by rw [xv_s hg59542 (by omega)]) (fun x q1 q2 => (show xv g59542 w85 x = xv g56790 w85 x from by rw [(xv_k (i := x) hg59542 (by omega) (by omega) (by omega)), (xv_a hg59483 (xne hs_w85 hs_b59478 (by decide))), (xv_k (i := x) hg59477 (by omega) (by omega) (by omega))])); omega)
                          · refine X_iinc hK (i := 4) (z := z56787) (n := (-1)) 2 [(4, .int (iI (z56787 + (-1)))), (5, .int (iI z59333)), (3, .int (iI z58913)), (2, .int (iI z56789)), (1, .int (iI z39788)), (0, .ref a0)] kd50_14.2.2.2.2.2.2.2.2.2.2.1 rfl (by decide) rfl ?_
                            refine X_goto hK 118 kd50_14.2.2.2.2.2.2.2.2.2.2.2 (by decide) ?_
                            refine X_lv [(4, .int (iI (z56787 + (-1)))), (3, .int (iI z58913)), (2, .int (iI z56789)), (1, .int (iI z39788)), (0, .ref a0)] [0, 2, 3, 4, 5] rfl ?_
                            exact ihP58198  g56790 (xM.tr xM.rf xLe.rf hg56790 (by decide)) (z56787 + (-1)) (by omega) (by omega) z58913 (by omega) (by omega) z56789 (by omega) (by omega) (by omega) (fun x q1 q2 => v58200 x q1 (by omega)) (fun h9 x q1 q2 => v58201 h9 x q1 (by omega)) (by have h9 := xdm_pop (f := xv g56790 w85) (k := z56787) (by omega); omega)
                        · refine X_aloadn hK (i := 0) 5 kd50_13.2.2.2.2.2.2.2.2.2.2.1 rfl rfl ?_
                          refine X_iload hK (i := 4) 2 kd50_13.2.2.2.2.2.2.2.2.2.2.2 rfl ?_
                          refine X_iload hK (i := 5) 0 kd50_14.1 rfl ?_
                          refine X_iloadn hK (i := 3) 1 kd50_14.2.1 rfl rfl ?_
                          refine X_iloadn hK (i := 2) 3 kd50_14.2.2.1 rfl rfl ?_
                          refine X_callV hK [.int (iI z56787), .int (iI z59333), .int (iI z58913), .int (iI z56789)] [] lk_X12_467 (c_X12_mayGo _ _ _ _ _ S g56790 a0 z56787 z59333 z58913 z56789 w85 hs_a0 (by omega) (by omega) (by omega) (by omega) ((hg56790 a0 13 0 85 hs_a0 (by decide)).trans ((xs_a hg49736 (xne hs_a0 hs_w85 (by decide))).trans ((hg39789 a0 13 0 85 hs_a0 (by decide)).trans ((hg10 a0 13 0 85 hs_a0 (by decide)).trans ((hg3 a0 13 0 85 hs_a0 (by decide)).trans ((xs_k hg1 (by decide)).trans ew85)))))) hs_w85 (by rcases (show z56787 = 0 ∨ 1 ≤ z56787 by omega) with c9 | c9 <;> first | exact Or.inl c9 | exact Or.inr (v58200 (z56787 - 1) (by omega) (by omega)))) hs_a0 ⟨by decide, rfl⟩ kd50_14.2.2.2.1 rfl rfl (by simp [Value.category]) (by decide) (by decide) (by decide) (by decide) (fun r59543 S59545 g59544 pr59543 qr59543 hg59544 => ?_)
                          obtain ⟨rfl, rfl, z59546, rfl, lz59546, uz59546⟩ := pr59543
                          refine X_st [.int (iI z59546)] rfl ?_
                          refine X_if_ne hK 187 (by omega) kd50_14.2.2.2.2.1 (by decide) (fun c59547 => ?_) (fun c59547 => ?_)
                          · refine X_iload hK (i := 5) 0 kd50_14.2.2.2.2.2.2.2.1 rfl ?_
                            refine X_iloadn hK (i := 1) 4 kd50_14.2.2.2.2.2.2.2.2.1 rfl rfl ?_
                            refine X_icmp_ne hK 199 (by omega) (by omega) kd50_14.2.2.2.2.2.2.2.2.2.1 (by decide) (fun c59548 => ?_) (fun c59548 => ?_)
                            · refine X_aloadn hK (i := 0) 5 kd50_15.1 rfl rfl ?_
                              refine X_getK hK fl_X12_186_13 hs_a0 ((hg56790 a0 13 0 85 hs_a0 (by decide)).trans ((xs_a hg49736 (xne hs_a0 hs_w85 (by decide))).trans ((hg39789 a0 13 0 85 hs_a0 (by decide)).trans ((hg10 a0 13 0 85 hs_a0 (by decide)).trans ((hg3 a0 13 0 85 hs_a0 (by decide)).trans ((xs_k hg1 (by decide)).trans ew85)))))) kd50_15.2.1 ?_
                              refine X_iload hK (i := 4) 2 kd50_15.2.2.1 rfl ?_
                              refine X_iload hK (i := 5) 0 kd50_15.2.2.2.1 rfl ?_
                              refine X_iast hK hs_w85 (by decide) (by decide) sl_19100 (by omega) (by omega) (by omega) (by omega) kd50_15.2.2.2.2.1 (fun g59549 hg59549 => ?_)
                              refine X_aloadn hK (i := 0) 5 kd50_15.2.2.2.2.2.1 rfl rfl ?_
                              refine X_getr hK 19200 10 fl_X12_189_13 hs_a0 sl_13_86 kd50_15.2.2.2.2.2.2.1 (fun b59550 eb59550 hs_b59550 => ?_)
                              refine X_iload hK (i := 4) 2 kd50_15.2.2.2.2.2.2.2.1 rfl ?_
                              refine X_aloadn hK (i := 0) 5 kd50_15.2.2.2.2.2.2.2.2.1 rfl rfl ?_
                              refine X_iload hK (i := 4) 2 kd50_15.2.2.2.2.2.2.2.2.2.1 rfl ?_
                              refine X_iload hK (i := 5) 0 kd50_15.2.2.2.2.2.2.2.2.2.2.1 rfl ?_
                              refine X_callV hK [.int (iI z56787), .int (iI z59333)] [.int (iI z56787), .ref b59550] lk_X12_471 (c_X12_comesAt _ _ _ _ _ S g59549 a0 z56787 z59333 w85 hs_a0 (by omega) (by omega) ((xs_a hg59549 (xne hs_a0 hs_w85 (by decide))).trans ((hg56790 a0 13 0 85 hs_a0 (by decide)).trans ((xs_a hg49736 (xne hs_a0 hs_w85 (by decide))).trans ((hg39789 a0 13 0 85 hs_a0 (by decide)).trans ((hg10 a0 13 0 85 hs_a0 (by decide)).trans ((hg3 a0 13 0 85 hs_a0 (by decide)).trans ((xs_k hg1 (by decide)).trans ew85))))))) hs_w85 (by rcases (show z56787 = 0 ∨ 1 ≤ z56787 by omega) with c9 | c9 <;> first | exact Or.inl c9 | exact Or.inr (by rw [(show xv g59549 w85 (z56787 - 1) = xv g56790 w85 (z56787 - 1) from by rw [(xv_k (i := (z56787 - 1)) hg59549 (by omega) (by omega) (by omega))])]; exact (v58200 (z56787 - 1) (by omega) (by omega))))) hs_a0 ⟨by decide, rfl⟩ kd50_15.2.2.2.2.2.2.2.2.2.2.2 rfl rfl (by simp [Value.category]) (by decide) (by decide) (by decide) (by decide) (fun r59551 S59553 g59552 pr59551 qr59551 hg59552 => ?_)
                              obtain ⟨rfl, rfl, z59554, rfl, lz59554, uz59554⟩ := pr59551
                              refine X_st [.int (iI z59554), .int (iI z56787), .ref b59550] rfl ?_
                              refine X_iast hK hs_b59550 (by decide) (by decide) sl_19200 (by omega) (by omega) (by omega) (by omega) kd50_16.1 (fun g59555 hg59555 => ?_)
                              refine X_iloadn hK (i := 3) 1 kd50_16.2.1 rfl rfl ?_
                              refine X_iconst hK kd50_16.2.2.1 ?_
                              refine X_iload hK (i := 5) 0 kd50_16.2.2.2.1 rfl ?_
                              refine X_ishl hK kd50_16.2.2.2.2.1 (fun z59556 ez59556 lz59556 uz59556 => ?_)
                              have bz59556 := xshlB 8 ez59556 ⟨lz59556, uz59556⟩ (by omega) (by decide)
                              refine X_ior hK kd50_16.2.2.2.2.2.1 (fun z59557 ez59557 lz59557 uz59557 => ?_)
                              refine X_istoren hK (i := 3) [(3, .int (iI z59557)), (5, .int (iI z59333)), (4, .int (iI z56787)), (2, .int (iI z56789)), (1, .int (iI z39788)), (0, .ref a0)] kd50_16.2.2.2.2.2.2.1 rfl (by decide) rfl ?_
                              refine X_iload hK (i := 4) 2 kd50_16.2.2.2.2.2.2.2.1 rfl ?_
                              refine X_iloadn hK (i := 1) 4 kd50_16.2.2.2.2.2.2.2.2.1 rfl rfl ?_
                              refine X_iconst hK kd50_16.2.2.2.2.2.2.2.2.2.1 ?_
                              refine X_isub hK kd50_16.2.2.2.2.2.2.2.2.2.2.1 ?_
                              refine X_icmp_ge hK 252 (by omega) (by omega) kd50_16.2.2.2.2.2.2.2.2.2.2.2 (by decide) (fun c59558 => ?_) (fun c59558 => ?_)
                              · refine X_aloadn hK (i := 0) 5 kd50_17.2.2.2.2.2.2.2.1 rfl rfl ?_
                                refine X_getK hK fl_X12_189_13 hs_a0 ((xs_a hg59555 (xne hs_a0 hs_b59550 (by decide))).trans eb59550) kd50_17.2.2.2.2.2.2.2.2.1 ?_
                                refine X_iload hK (i := 4) 2 kd50_17.2.2.2.2.2.2.2.2.2.1 rfl ?_
                                refine X_ialdK hK hs_b59550 (by decide) (by omega) (by omega) (xs_s hg59555) kd50_17.2.2.2.2.2.2.2.2.2.2.1 ?_
                                refine X_istoren hK (i := 2) [(2, .int (iI z59554)), (3, .int (iI z59557)), (5, .int (iI z59333)), (4, .int (iI z56787)), (1, .int (iI z39788)), (0, .ref a0)] kd50_17.2.2.2.2.2.2.2.2.2.2.2 rfl (by decide) rfl ?_
                                refine X_iconst hK kd50_18.1 ?_
                                refine X_istore hK (i := 6) [(6, .int (iI 0)), (2, .int (iI z59554)), (3, .int (iI z59557)), (5, .int (iI z59333)), (4, .int (iI z56787)), (1, .int (iI z39788)), (0, .ref a0)] kd50_18.2.1 (by decide) rfl ?_
                                have P59606 : ∀ (nP59606 : Nat) (g59599 : xG) (_ : xM [(19000, 0)] S g59555 g59599) (z59598 : Int) (_ : 0 ≤ z59598) (_ : z59598 ≤ 9) (_ : 25 - z59598 < (nP59606 : Int)), X K E 263 [(6, .int (iI z59598)), (2, .int (iI z59554)), (3, .int (iI z59557)), (5, .int (iI z59333)), (4, .int (iI z56787)), (1, .int (iI z39788)), (0, .ref a0)] [] S g59599 0 0 := by
                                  intro nP59606
                                  induction nP59606 with
                                  | zero => intro g59599 hg59599 z59598 lz59598 uz59598 mP59606; exact False.elim (by omega)
                                  | succ nP59606 ihP59606 =>
                                    intro g59599 hg59599 z59598 lz59598 uz59598 mP59606
                                    refine X_iload hK (i := 6) 0 kd50_18.2.2.1 rfl ?_
                                    refine X_iloadn hK (i := 1) 5 kd50_18.2.2.2.1 rfl rfl ?_
                                    refine X_icmp_ge hK 294 (by omega) (by omega) kd50_18.2.2.2.2.1 (by decide) (fun c59607 => ?_) (fun c59607 => ?_)
                                    · refine X_goto hK 118 kd50_19.2.2.2.2.2.2.1 (by decide) ?_
                                      refine X_lv [(4, .int (iI z56787)), (3, .int (iI z59557)), (2, .int (iI z59554)), (1, .int (iI z39788)), (0, .ref a0)] [4, 2, 1, 5, 6] rfl ?_
                                      exact ihP58198  g59599 (xM.tr (xM_ua (xM_ua (xM.tr xM.rf xLe.rf hg56790 (by decide)) hg59549 hs_w85 (by decide) (by decide)) hg59555 hs_b59550 (by decide) (by decide)) xLe.rf hg59599 (by decide)) z56787 (by omega) (by omega) z59557 (by omega) (by omega) z59554 (by omega) (by omega) (by omega) (fun x q1 q2 => by rw [(show xv g59599 w85 x = xv g56790 w85 x from by rw [(xv_m hg59599 hs_w85 (by decide) (by decide)), (xv_a hg59555 (xne hs_w85 hs_b59550 (by decide))), (xv_k (i := x) hg59549 (by omega) (by omega) (by omega))])]; exact v58200 x q1 q2) (fun h9 x q1 q2 => by rcases (show x < z56787 ∨ x = z56787 by omega) with c9 | c9 <;> first | (rw [c9]; have h8 := (show xv g59599 w85 z56787 = z59333 from by rw [(xv_m hg59599 hs_w85 (by decide) (by decide)), (xv_a hg59555 (xne hs_w85 hs_b59550 (by decide))), xv_s hg59549 (by omega)]); omega) | (rw [(show xv g59599 w85 x = xv g56790 w85 x from by rw [(xv_m hg59599 hs_w85 (by decide) (by decide)), (xv_a hg59555 (xne hs_w85 hs_b59550 (by decide))), (xv_k (i := x) hg59549 (by omega) (by omega) (by omega))])]; exact v58201 h9 x q1 (by omega))) (by have h9 := xdm_adv (f := xv g56790 w85) (f' := xv g59599 w85) (k := z56787) (i := z59333) (by omega) (by omega) (by omega) (show xv g59599 w85 z56787 = z59333 from by rw [(xv_m hg59599 hs_w85 (by decide) (by decide)), (xv_a hg59555 (xne hs_w85 hs_b59550 (by decide))), xv_s hg59549 (by omega)]) (fun x q1 q2 => (show xv g59599 w85 x = xv g56790 w85 x from by rw [(xv_m hg59599 hs_w85 (by decide) (by decide)), (xv_a hg59555 (xne hs_w85 hs_b59550 (by decide))), (xv_k (i := x) hg59549 (by omega) (by omega) (by omega))])); omega)
                                    · refine X_aloadn hK (i := 0) 6 kd50_18.2.2.2.2.2.1 rfl rfl ?_
                                      refine X_getr hK 19000 9 fl_X12_183_13 hs_a0 sl_13_84 kd50_18.2.2.2.2.2.2.1 (fun b59608 eb59608 hs_b59608 => ?_)
                                      refine X_iload hK (i := 6) 0 kd50_18.2.2.2.2.2.2.2.1 rfl ?_
                                      refine X_aloadn hK (i := 0) 6 kd50_18.2.2.2.2.2.2.2.2.1 rfl rfl ?_
                                      refine X_getr hK 18900 10 fl_X12_180_13 hs_a0 sl_13_83 kd50_18.2.2.2.2.2.2.2.2.2.1 (fun b59609 eb59609 hs_b59609 => ?_)
                                      refine X_aloadn hK (i := 0) 6 kd50_18.2.2.2.2.2.2.2.2.2.2.1 rfl rfl ?_
                                      refine X_getK hK fl_X12_186_13 hs_a0 ((hg59599 a0 13 0 85 hs_a0 (by decide)).trans ((xs_a hg59555 (xne hs_a0 hs_b59550 (by decide))).trans ((xs_a hg59549 (xne hs_a0 hs_w85 (by decide))).trans ((hg56790 a0 13 0 85 hs_a0 (by decide)).trans ((xs_a hg49736 (xne hs_a0 hs_w85 (by decide))).trans ((hg39789 a0 13 0 85 hs_a0 (by decide)).trans ((hg10 a0 13 0 85 hs_a0 (by decide)).trans ((hg3 a0 13 0 85 hs_a0 (by decide)).trans ((xs_k hg1 (by decide)).trans ew85))))))))) kd50_18.2.2.2.2.2.2.2.2.2.2.2 ?_
                                      refine X_iload hK (i := 6) 0 kd50_19.1 rfl ?_
                                      refine X_iald hK hs_w85 (by decide) sl_19100 (by omega) (by omega) kd50_19.2.1 (fun z59610 ez59610 lz59610 uz59610 => ?_)
                                      have hvz59610 := xv_e (j := z59598) ez59610 (by omega)
                                      have hzh59611 : 0 ≤ z59610 := by have h7 := xv_e (j := z59598) ez59610 (by omega); rcases (show z59598 < z56787 ∨ z59598 = z56787 by omega) with c9 | c9 <;> first | (have h8 := (show xv g59599 w85 z59598 = xv g56790 w85 z59598 from by rw [(xv_m hg59599 hs_w85 (by decide) (by decide)), (xv_a hg59555 (xne hs_w85 hs_b59550 (by decide))), (xv_k (i := z59598) hg59549 (by omega) (by omega) (by omega))]); have h6 := v58200 z59598 (by omega) c9; omega) | (rw [c9] at h7; have h8 := (show xv g59599 w85 z56787 = z59333 from by rw [(xv_m hg59599 hs_w85 (by decide) (by decide)), (xv_a hg59555 (xne hs_w85 hs_b59550 (by decide))), xv_s hg59549 (by omega)]); omega)
                                      refine X_iald hK hs_b59609 (by decide) sl_18900 (by omega) (by omega) kd50_19.2.2.1 (fun z59612 ez59612 lz59612 uz59612 => ?_)
                                      refine X_iast hK hs_b59608 (by decide) (by decide) sl_19000 (by omega) (by omega) (by omega) (by omega) kd50_19.2.2.2.1 (fun g59613 hg59613 => ?_)
                                      refine X_iinc hK (i := 6) (z := z59598) (n := 1) 0 [(6, .int (iI (z59598 + 1))), (2, .int (iI z59554)), (3, .int (iI z59557)), (5, .int (iI z59333)), (4, .int (iI z56787)), (1, .int (iI z39788)), (0, .ref a0)] kd50_19.2.2.2.2.1 rfl (by decide) rfl ?_
                                      refine X_goto hK 263 kd50_19.2.2.2.2.2.1 (by decide) ?_
                                      exact ihP59606  g59613 (xM_ua (xM.tr xM.rf xLe.rf hg59599 (by decide)) hg59613 hs_b59608 (by decide) (by decide)) (z59598 + 1) (by omega) (by omega) (by omega)
                                exact P59606 ((25 - 0 : Int).toNat + 1) g59555 xM.rf 0 (by omega) (by omega) (by omega)
                              · refine X_iinc hK (i := 4) (z := z56787) (n := 1) 2 [(4, .int (iI (z56787 + 1))), (3, .int (iI z59557)), (5, .int (iI z59333)), (2, .int (iI z56789)), (1, .int (iI z39788)), (0, .ref a0)] kd50_17.1 rfl (by decide) rfl ?_
                                refine X_aloadn hK (i := 0) 5 kd50_17.2.1 rfl rfl ?_
                                refine X_getK hK fl_X12_186_13 hs_a0 ((xs_a hg59555 (xne hs_a0 hs_b59550 (by decide))).trans ((xs_a hg59549 (xne hs_a0 hs_w85 (by decide))).trans ((hg56790 a0 13 0 85 hs_a0 (by decide)).trans ((xs_a hg49736 (xne hs_a0 hs_w85 (by decide))).trans ((hg39789 a0 13 0 85 hs_a0 (by decide)).trans ((hg10 a0 13 0 85 hs_a0 (by decide)).trans ((hg3 a0 13 0 85 hs_a0 (by decide)).trans ((xs_k hg1 (by decide)).trans ew85)))))))) kd50_17.2.2.1 ?_
                                refine X_iload hK (i := 4) 0 kd50_17.2.2.2.1 rfl ?_
                                refine X_iconst hK kd50_17.2.2.2.2.1 ?_
                                refine X_iast hK hs_w85 (by decide) (by decide) sl_19100 (by omega) (by omega) (by omega) (by omega) kd50_17.2.2.2.2.2.1 (fun g59614 hg59614 => ?_)
                                refine X_goto hK 118 kd50_17.2.2.2.2.2.2.1 (by decide) ?_
                                refine X_lv [(4, .int (iI (z56787 + 1))), (3, .int (iI z59557)), (2, .int (iI z56789)), (1, .int (iI z39788)), (0, .ref a0)] [0, 1, 3, 4, 5] rfl ?_
                                exact ihP58198  g59614 (xM_ua (xM_ua (xM_ua (xM.tr xM.rf xLe.rf hg56790 (by decide)) hg59549 hs_w85 (by decide) (by decide)) hg59555 hs_b59550 (by decide) (by decide)) hg59614 hs_w85 (by decide) (by decide)) (z56787 + 1) (by omega) (by omega) z59557 (by omega) (by omega) z56789 (by omega) (by omega) (by omega) (fun x q1 q2 => by rcases (show x < z56787 ∨ x = z56787 by omega) with c9 | c9 <;> first | (rw [c9]; have h8 := (show xv g59614 w85 z56787 = z59333 from by rw [(xv_k (i := z56787) hg59614 (by omega) (by omega) (by omega)), (xv_a hg59555 (xne hs_w85 hs_b59550 (by decide))), xv_s hg59549 (by omega)]); omega) | (rw [(show xv g59614 w85 x = xv g56790 w85 x from by rw [(xv_k (i := x) hg59614 (by omega) (by omega) (by omega)), (xv_a hg59555 (xne hs_w85 hs_b59550 (by decide))), (xv_k (i := x) hg59549 (by omega) (by omega) (by omega))])]; exact v58200 x q1 c9)) (fun h9 x q1 q2 => by rcases (show x < z56787 ∨ x = z56787 ∨ x = (z56787 + 1) by omega) with c9 | c9 | c9 <;> first | (rw [c9]; have h8 := (show xv g59614 w85 z56787 = z59333 from by rw [(xv_k (i := z56787) hg59614 (by omega) (by omega) (by omega)), (xv_a hg59555 (xne hs_w85 hs_b59550 (by decide))), xv_s hg59549 (by omega)]); omega) | (rw [c9]; have h8 := (show xv g59614 w85 (z56787 + 1) = (-1) from by rw [xv_s hg59614 (by omega)]); omega) | (rw [(show xv g59614 w85 x = xv g56790 w85 x from by rw [(xv_k (i := x) hg59614 (by omega) (by omega) (by omega)), (xv_a hg59555 (xne hs_w85 hs_b59550 (by decide))), (xv_k (i := x) hg59549 (by omega) (by omega) (by omega))])]; exact v58201 h9 x q1 (by omega))) (by have h9 := xdm_push (f := xv g56790 w85) (f' := xv g59614 w85) (k := z56787) (i := z59333) (by omega) (by omega) (by omega) (show xv g59614 w85 z56787 = z59333 from by rw [(xv_k (i := z56787) hg59614 (by omega) (by omega) (by omega)), (xv_a hg59555 (xne hs_w85 hs_b59550 (by decide))), xv_s hg59549 (by omega)]) (show xv g59614 w85 (z56787 + 1) = (-1) from by rw [xv_s hg59614 (by omega)]) (fun x q1 q2 => (show xv g59614 w85 x = xv g56790 w85 x from by rw [(xv_k (i := x) hg59614 (by omega) (by omega) (by omega)), (xv_a hg59555 (xne hs_w85 hs_b59550 (by decide))), (xv_k (i := x) hg59549 (by omega) (by omega) (by omega))])); omega)
                            · refine X_iinc hK (i := 4) (z := z56787) (n := (-1)) 2 [(4, .int (iI (z56787 + (-1)))), (5, .int (iI z59333)), (3, .int (iI z58913)), (2, .int (iI z56789)), (1, .int (iI z39788)), (0, .ref a0)] kd50_14.2.2.2.2.2.2.2.2.2.2.1 rfl (by decide) rfl ?_
                              refine X_goto hK 118 kd50_14.2.2.2.2.2.2.2.2.2.2.2 (by decide) ?_
                              refine X_lv [(4, .int (iI (z56787 + (-1)))), (3, .int (iI z58913)), (2, .int (iI z56789)), (1, .int (iI z39788)), (0, .ref a0)] [0, 2, 3, 4, 5] rfl ?_
                              exact ihP58198  g56790 (xM.tr xM.rf xLe.rf hg56790 (by decide)) (z56787 + (-1)) (by omega) (by omega) z58913 (by omega) (by omega) z56789 (by omega) (by omega) (by omega) (fun x q1 q2 => v58200 x q1 (by omega)) (fun h9 x q1 q2 => v58201 h9 x q1 (by omega)) (by have h9 := xdm_pop (f := xv g56790 w85) (k := z56787) (by omega); omega)
                          · refine X_iinc hK (i := 5) (z := z59333) (n := 1) 0 [(5, .int (iI (z59333 + 1))), (3, .int (iI z58913)), (4, .int (iI z56787)), (2, .int (iI z56789)), (1, .int (iI z39788)), (0, .ref a0)] kd50_14.2.2.2.2.2.1 rfl (by decide) rfl ?_
                            refine X_goto hK 162 kd50_14.2.2.2.2.2.2.1 (by decide) ?_
                            exact ihP59472  (z59333 + 1) (by omega) (by omega) (by omega) (by omega) (by omega)
                    exact P59472 ((25 - (z58207 + 1) : Int).toNat + 1) (z58207 + 1) (by omega) (by omega) (by omega) (by omega) (by omega)
            exact P58198 ((((xdm (xv g49736 w85) 0 : Nat) : Int) : Int).toNat + 1) g49736 xM.rf 0 (by omega) (by omega) 0 (by omega) (by omega) 100000 (by omega) (by omega) (by omega) (fun x q1 q2 => by omega) (fun h9 x q1 q2 => by rw [show x = 0 by omega]; have h8 := (show xv g49736 w85 0 = (-1) from by rw [xv_s hg49736 (by omega)]); omega) (by omega)
          · refine X_iconst hK kd50_10.2.1 ?_
            refine X_goto hK 101 kd50_10.2.2.1 (by decide) ?_
            refine X_istoren hK (i := 2) [(2, .int (iI 0)), (1, .int (iI z39788)), (0, .ref a0)] kd50_10.2.2.2.2.1 rfl (by decide) rfl ?_
            refine X_iconst hK kd50_10.2.2.2.2.2.1 ?_
            refine X_istoren hK (i := 3) [(3, .int (iI 0)), (2, .int (iI 0)), (1, .int (iI z39788)), (0, .ref a0)] kd50_10.2.2.2.2.2.2.1 rfl (by decide) rfl ?_
            refine X_iconst hK kd50_10.2.2.2.2.2.2.2.1 ?_
            refine X_istore hK (i := 4) [(4, .int (iI 0)), (3, .int (iI 0)), (2, .int (iI 0)), (1, .int (iI z39788)), (0, .ref a0)] kd50_10.2.2.2.2.2.2.2.2.1 (by decide) rfl ?_
            refine X_iloadn hK (i := 1) 3 kd50_10.2.2.2.2.2.2.2.2.2.1 rfl rfl ?_
            refine X_if_le hK 118 (by omega) kd50_10.2.2.2.2.2.2.2.2.2.2.1 (by decide) (fun c59615 => ?_) (fun c59615 => False.elim (by omega))
            have P59660 : ∀ (nP59660 : Nat) (z59649 : Int) (_ : (-1) ≤ z59649) (_ : z59649 ≤ 8) (z59650 : Int) (_ : 0 ≤ z59650) (_ : z59650 ≤ 0) (z59651 : Int) (_ : 0 ≤ z59651) (_ : z59651 ≤ 0) (_ : z59649 < z39788 ∨ z39788 = 0) (_ : ∀ x, 0 ≤ x → x < z59649 → 0 ≤ xv g39789 w85 x) (_ : 0 < z39788 → ∀ x, 0 ≤ x → x ≤ z59649 → xv g39789 w85 x < z39788) (_ : ((xdm (xv g39789 w85) z59649 : Nat) : Int) < (nP59660 : Int)), X K E 118 [(4, .int (iI z59649)), (3, .int (iI z59650)), (2, .int (iI z59651)), (1, .int (iI z39788)), (0, .ref a0)] [] S g39789 0 0 := by
              intro nP59660
              induction nP59660 with
              | zero => intro z59649 lz59649 uz59649 z59650 lz59650 uz59650 z59651 lz59651 uz59651 v59661 v59662 v59663 mP59660; exact False.elim (by omega)
              | succ nP59660 ihP59660 =>
                intro z59649 lz59649 uz59649 z59650 lz59650 uz59650 z59651 lz59651 uz59651 v59661 v59662 v59663 mP59660
                refine X_iload hK (i := 4) 0 kd50_11.2.2.2.2.1 rfl ?_
                refine X_if_lt hK 297 (by omega) kd50_11.2.2.2.2.2.1 (by decide) (fun c59664 => ?_) (fun c59664 => ?_)
                · refine X_iloadn hK (i := 2) 2 kd50_19.2.2.2.2.2.2.2.1 rfl rfl ?_
                  refine X_ldcw hK (n := 100000) kd50_19.2.2.2.2.2.2.2.2.1 m_55_15 (by decide) ?_
                  refine X_icmp_ne hK 306 (by omega) (by omega) kd50_19.2.2.2.2.2.2.2.2.2.1 (by decide) (fun c59665 => ?_) (fun c59665 => False.elim (by omega))
                  refine X_aloadn hK (i := 0) 4 kd50_20.1 rfl rfl ?_
                  refine X_iloadn hK (i := 1) 3 kd50_20.2.1 rfl rfl ?_
                  refine X_puti hK fl_X12_474_13 hs_a0 (by decide) sl_13_87 (by omega) (by omega) kd50_20.2.2.1 (fun g59666 hg59666 => ?_)
                  refine X_aloadn hK (i := 0) 4 kd50_20.2.2.2.1 rfl rfl ?_
                  refine X_iconst hK kd50_20.2.2.2.2.1 ?_
                  refine X_putz hK fl_X12_477_13 hs_a0 (by decide) sl_13_88 (by omega) (by omega) kd50_20.2.2.2.2.2.1 (fun g59667 hg59667 => ?_)
                  refine X_iloadn hK (i := 2) 2 kd50_20.2.2.2.2.2.2.1 rfl rfl ?_
                  exact hret _ _ _ _ _ _ _ kd50_20.2.2.2.2.2.2.2 ⟨rfl, z59651, rfl, (by omega), (by omega), (((xs_k hg59667 (by decide)).trans ((xs_k hg59666 (by decide)).trans ((hg39789 a0 13 0 2 hs_a0 (by decide)).trans ((hg10 a0 13 0 2 hs_a0 (by decide)).trans k7)))).trans (by congr 2 <;> omega))⟩ (Nat.le_refl _) (Nat.le_refl _)
                · refine X_iloadn hK (i := 1) 3 kd50_11.2.2.2.2.2.2.1 rfl rfl ?_
                  refine X_if_le hK 297 (by omega) kd50_11.2.2.2.2.2.2.2.1 (by decide) (fun c59668 => ?_) (fun c59668 => False.elim (by omega))
                  refine X_iloadn hK (i := 2) 2 kd50_19.2.2.2.2.2.2.2.1 rfl rfl ?_
                  refine X_ldcw hK (n := 100000) kd50_19.2.2.2.2.2.2.2.2.1 m_55_15 (by decide) ?_
                  refine X_icmp_ne hK 306 (by omega) (by omega) kd50_19.2.2.2.2.2.2.2.2.2.1 (by decide) (fun c59669 => ?_) (fun c59669 => False.elim (by omega))
                  refine X_aloadn hK (i := 0) 4 kd50_20.1 rfl rfl ?_
                  refine X_iloadn hK (i := 1) 3 kd50_20.2.1 rfl rfl ?_
                  refine X_puti hK fl_X12_474_13 hs_a0 (by decide) sl_13_87 (by omega) (by omega) kd50_20.2.2.1 (fun g59670 hg59670 => ?_)
                  refine X_aloadn hK (i := 0) 4 kd50_20.2.2.2.1 rfl rfl ?_
                  refine X_iconst hK kd50_20.2.2.2.2.1 ?_
                  refine X_putz hK fl_X12_477_13 hs_a0 (by decide) sl_13_88 (by omega) (by omega) kd50_20.2.2.2.2.2.1 (fun g59671 hg59671 => ?_)
                  refine X_iloadn hK (i := 2) 2 kd50_20.2.2.2.2.2.2.1 rfl rfl ?_
                  exact hret _ _ _ _ _ _ _ kd50_20.2.2.2.2.2.2.2 ⟨rfl, z59651, rfl, (by omega), (by omega), (((xs_k hg59671 (by decide)).trans ((xs_k hg59670 (by decide)).trans ((hg39789 a0 13 0 2 hs_a0 (by decide)).trans ((hg10 a0 13 0 2 hs_a0 (by decide)).trans k7)))).trans (by congr 2 <;> omega))⟩ (Nat.le_refl _) (Nat.le_refl _)
            exact P59660 ((((xdm (xv g39789 w85) 0 : Nat) : Int) : Int).toNat + 1) 0 (by omega) (by omega) 0 (by omega) (by omega) 0 (by omega) (by omega) (by omega) (fun x q1 q2 => by omega) (fun h9 => by omega) (by omega)
        · refine X_aloadn hK (i := 0) 2 kd50_6.2.2.2.2.2.2.2.2.2.2.2 rfl rfl ?_
          refine X_getr hK 18800 10 fl_X12_177_13 hs_a0 sl_13_82 kd50_7.1 (fun b59672 eb59672 hs_b59672 => ?_)
          refine X_iloadn hK (i := 2) 0 kd50_7.2.1 rfl rfl ?_
          refine X_sipush hK kd50_7.2.2.1 (by decide) ?_
          refine X_aloadn hK (i := 0) 2 kd50_7.2.2.2.1 rfl rfl ?_
          refine X_getr hK 14100 420 fl_X12_7_13 hs_a0 sl_13_1 kd50_7.2.2.2.2.1 (fun b59673 eb59673 hs_b59673 => ?_)
          refine X_iconst hK kd50_7.2.2.2.2.2.1 ?_
          refine X_iloadn hK (i := 2) 0 kd50_7.2.2.2.2.2.2.1 rfl rfl ?_
          refine X_imul hK kd50_7.2.2.2.2.2.2.2.1 ?_
          refine X_iald hK hs_b59673 (by decide) sl_14100 (by omega) (by omega) kd50_7.2.2.2.2.2.2.2.2.1 (fun z59674 ez59674 lz59674 uz59674 => ?_)
          refine X_imul hK kd50_7.2.2.2.2.2.2.2.2.2.1 ?_
          refine X_aloadn hK (i := 0) 2 kd50_7.2.2.2.2.2.2.2.2.2.2.1 rfl rfl ?_
          refine X_getK hK fl_X12_7_13 hs_a0 eb59673 kd50_7.2.2.2.2.2.2.2.2.2.2.2 ?_
          refine X_iconst hK kd50_8.1 ?_
          refine X_iloadn hK (i := 2) 0 kd50_8.2.1 rfl rfl ?_
          refine X_imul hK kd50_8.2.2.1 ?_
          refine X_iconst hK kd50_8.2.2.2.1 ?_
          refine X_iadd hK kd50_8.2.2.2.2.1 ?_
          refine X_iald hK hs_b59673 (by decide) sl_14100 (by omega) (by omega) kd50_8.2.2.2.2.2.1 (fun z59675 ez59675 lz59675 uz59675 => ?_)
          refine X_iadd hK kd50_8.2.2.2.2.2.2.1 ?_
          refine X_iast hK hs_b59672 (by decide) (by decide) sl_18800 (by omega) (by omega) (by omega) (by omega) kd50_8.2.2.2.2.2.2.2.1 (fun g59676 hg59676 => ?_)
          refine X_aloadn hK (i := 0) 2 kd50_8.2.2.2.2.2.2.2.2.1 rfl rfl ?_
          refine X_getK hK fl_X12_177_13 hs_a0 ((xs_a hg59676 (xne hs_a0 hs_b59672 (by decide))).trans eb59672) kd50_8.2.2.2.2.2.2.2.2.2.1 ?_
          refine X_iloadn hK (i := 2) 0 kd50_8.2.2.2.2.2.2.2.2.2.2.1 rfl rfl ?_
          refine X_ialdK hK hs_b59672 (by decide) (by omega) (by omega) (xs_s hg59676) kd50_8.2.2.2.2.2.2.2.2.2.2.2 ?_
          refine X_ldcw hK (n := 65535) kd50_9.1 m_55_14 (by decide) ?_
          refine X_icmp_ne hK 74 (by omega) (by omega) kd50_9.2.1 (by decide) (fun c59677 => ?_) (fun c59677 => ?_)
          · refine X_aloadn hK (i := 0) 2 kd50_9.2.2.2.1 rfl rfl ?_
            refine X_getr hK 18900 10 fl_X12_180_13 hs_a0 sl_13_83 kd50_9.2.2.2.2.1 (fun b59678 eb59678 hs_b59678 => ?_)
            refine X_iloadn hK (i := 1) 1 kd50_9.2.2.2.2.2.1 rfl rfl ?_
            refine X_iloadn hK (i := 2) 0 kd50_9.2.2.2.2.2.2.1 rfl rfl ?_
            refine X_iast hK hs_b59678 (by decide) (by decide) sl_18900 (by omega) (by omega) (by omega) (by omega) kd50_9.2.2.2.2.2.2.2.1 (fun g59679 hg59679 => ?_)
            refine X_iinc hK (i := 1) (z := z39788) (n := 1) 1 [(1, .int (iI (z39788 + 1))), (2, .int (iI z39787)), (0, .ref a0)] kd50_9.2.2.2.2.2.2.2.2.1 rfl (by decide) rfl ?_
            refine X_iinc hK (i := 2) (z := z39787) (n := 1) 1 [(2, .int (iI (z39787 + 1))), (1, .int (iI (z39788 + 1))), (0, .ref a0)] kd50_9.2.2.2.2.2.2.2.2.2.1 rfl (by decide) rfl ?_
            refine X_goto hK 24 kd50_9.2.2.2.2.2.2.2.2.2.2.1 (by decide) ?_
            exact ihP49731  g59679 (xM_ua (xM_ua (xM.tr xM.rf xLe.rf hg39789 (by decide)) hg59676 hs_b59672 (by decide) (by decide)) hg59679 hs_b59678 (by decide) (by decide)) (z39787 + 1) (by omega) (by omega) (z39788 + 1) (by omega) (by omega) (by omega) (by omega)
          · refine X_goto hK 84 kd50_9.2.2.1 (by decide) ?_
            refine X_iinc hK (i := 2) (z := z39787) (n := 1) 0 [(2, .int (iI (z39787 + 1))), (1, .int (iI z39788)), (0, .ref a0)] kd50_9.2.2.2.2.2.2.2.2.2.1 rfl (by decide) rfl ?_
            refine X_goto hK 24 kd50_9.2.2.2.2.2.2.2.2.2.2.1 (by decide) ?_
            exact ihP49731  g59676 (xM_ua (xM.tr xM.rf xLe.rf hg39789 (by decide)) hg59676 hs_b59672 (by decide) (by decide)) (z39787 + 1) (by omega) (by omega) z39788 (by omega) (by omega) (by omega) (by omega)
    exact P49731 ((26 - 1 : Int).toNat + 1) g10 xM.rf 1 (by omega) (by omega) 0 (by omega) (by omega) (by omega) (by omega)
  · refine X_iconst hK kd50_6.1 ?_
    exact hret _ _ _ _ _ _ _ kd50_6.2.1 ⟨rfl, (-1), rfl, (by omega), (by omega), (k7.trans (by congr 2 <;> omega))⟩ (Nat.le_refl _) (Nat.le_refl _)
