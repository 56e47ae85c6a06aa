theorem m_22_20 : Cond.methodLink RX7 35 yX7_scan ∈ wsL_law := ch_22 _ (List.mem_of_getElem? (i := 20) rfl)
theorem m_22_21 : Cond.instanceMethod yX7_scan ∈ wsL_law := ch_22 _ (List.mem_of_getElem? (i := 21) rfl)
theorem m_22_22 : Cond.selects RX7 yX7_scan yX7_scan ∈ wsL_law := ch_22 _ (List.mem_of_getElem? (i := 22) rfl)
theorem m_22_23 : Cond.code yX7_scan cX7_scan 7 none ∈ wsL_law := ch_22 _ (List.mem_of_getElem? (i := 23) rfl)
theorem m_23_0 : Cond.methodLink RX7 64 Lib.Math.min.name ∈ wsL_law := ch_23 _ (List.mem_of_getElem? (i := 0) rfl)
theorem m_23_11 : Cond.methodLink RX7 77 yX7_nameEnd ∈ wsL_law := ch_23 _ (List.mem_of_getElem? (i := 11) rfl)
theorem m_23_12 : Cond.static yX7_nameEnd ∈ wsL_law := ch_23 _ (List.mem_of_getElem? (i := 12) rfl)
theorem m_23_13 : Cond.code yX7_nameEnd cX7_nameEnd 3 (some .int) ∈ wsL_law := ch_23 _ (List.mem_of_getElem? (i := 13) rfl)
theorem m_23_14 : Cond.methodLink RX7 81 yX7_nameToken ∈ wsL_law := ch_23 _ (List.mem_of_getElem? (i := 14) rfl)
theorem m_23_15 : Cond.static yX7_nameToken ∈ wsL_law := ch_23 _ (List.mem_of_getElem? (i := 15) rfl)
theorem m_23_16 : Cond.code yX7_nameToken cX7_nameToken 6 (some .int) ∈ wsL_law := ch_23 _ (List.mem_of_getElem? (i := 16) rfl)
theorem m_23_17 : Cond.methodLink RX7 95 yX7_wordToken ∈ wsL_law := ch_23 _ (List.mem_of_getElem? (i := 17) rfl)
theorem m_23_18 : Cond.static yX7_wordToken ∈ wsL_law := ch_23 _ (List.mem_of_getElem? (i := 18) rfl)
theorem m_23_19 : Cond.code yX7_wordToken cX7_wordToken 7 (some .int) ∈ wsL_law := ch_23 _ (List.mem_of_getElem? (i := 19) rfl)
theorem m_23_20 : Cond.methodLink RX7 100 yJ0_length_8abf5 ∈ wsL_law := ch_23 _ (List.mem_of_getElem? (i := 20) rfl)
theorem m_23_21 : Cond.instanceMethod yJ0_length_8abf5 ∈ wsL_law := ch_23 _ (List.mem_of_getElem? (i := 21) rfl)
theorem m_23_22 : Cond.selects RJ0 yJ0_length_8abf5 yJ0_length_8abf5 ∈ wsL_law := ch_23 _ (List.mem_of_getElem? (i := 22) rfl)
theorem m_24_0 : Cond.code yJ0_length_8abf5 cJ0_length_8abf5 1 (some .int) ∈ wsL_law := ch_24 _ (List.mem_of_getElem? (i := 0) rfl)
theorem m_24_8 : Cond.methodLink RX7 105 yJ0_charAt_5068e ∈ wsL_law := ch_24 _ (List.mem_of_getElem? (i := 8) rfl)
theorem m_24_9 : Cond.instanceMethod yJ0_charAt_5068e ∈ wsL_law := ch_24 _ (List.mem_of_getElem? (i := 9) rfl)
theorem m_24_10 : Cond.selects RJ0 yJ0_charAt_5068e yJ0_charAt_5068e ∈ wsL_law := ch_24 _ (List.mem_of_getElem? (i := 10) rfl)
theorem m_24_11 : Cond.code yJ0_charAt_5068e cJ0_charAt_5068e 2 (some .char) ∈ wsL_law := ch_24 _ (List.mem_of_getElem? (i := 11) rfl)
theorem m_25_18 : Cond.methodLink RX7 85 yX7_markToken ∈ wsL_law := ch_25 _ (List.mem_of_getElem? (i := 18) rfl)
theorem m_25_19 : Cond.static yX7_markToken ∈ wsL_law := ch_25 _ (List.mem_of_getElem? (i := 19) rfl)
theorem m_25_20 : Cond.code yX7_markToken cX7_markToken 1 (some .int) ∈ wsL_law := ch_25 _ (List.mem_of_getElem? (i := 20) rfl)
theorem m_26_1 : Cond.methodLink RX7 51 yX7_readLine ∈ wsL_law := ch_26 _ (List.mem_of_getElem? (i := 1) rfl)
theorem m_26_2 : Cond.instanceMethod yX7_readLine ∈ wsL_law := ch_26 _ (List.mem_of_getElem? (i := 2) rfl)
theorem m_26_3 : Cond.selects RX7 yX7_readLine yX7_readLine ∈ wsL_law := ch_26 _ (List.mem_of_getElem? (i := 3) rfl)
theorem m_26_4 : Cond.code yX7_readLine cX7_readLine 5 none ∈ wsL_law := ch_26 _ (List.mem_of_getElem? (i := 4) rfl)
theorem kd34_0 : (decode cX7_nameToken 0 = .ok (.iconst 0, 1)) ∧ (decode cX7_nameToken 1 = .ok (.istore_n 3, 1)) ∧ (decode cX7_nameToken 2 = .ok (.iconst 0, 1)) ∧ (decode cX7_nameToken 3 = .ok (.istore 4, 2)) ∧ (decode cX7_nameToken 5 = .ok (.iload_n 1, 1)) ∧ (decode cX7_nameToken 6 = .ok (.istore 5, 2)) ∧ (decode cX7_nameToken 8 = .ok (.iload 5, 2)) ∧ (decode cX7_nameToken 10 = .ok (.iload_n 2, 1)) ∧ (decode cX7_nameToken 11 = .ok (.if_icmp .ge 53, 3)) ∧ (decode cX7_nameToken 14 = .ok (.aload_n 0, 1)) ∧ (decode cX7_nameToken 15 = .ok (.getfield 70, 3)) ∧ (decode cX7_nameToken 18 = .ok (.iload 5, 2)) := by decide +kernel
theorem kd34_1 : (decode cX7_nameToken 20 = .ok (.iaload, 1)) ∧ (decode cX7_nameToken 21 = .ok (.invokestatic 92, 3)) ∧ (decode cX7_nameToken 24 = .ok (.ifCond .eq 34, 3)) ∧ (decode cX7_nameToken 27 = .ok (.iinc 3 1, 3)) ∧ (decode cX7_nameToken 30 = .ok (.iload_n 3, 1)) ∧ (decode cX7_nameToken 31 = .ok (.iconst 4, 1)) ∧ (decode cX7_nameToken 32 = .ok (.if_icmp .gt 22, 3)) ∧ (decode cX7_nameToken 35 = .ok (.iload 4, 2)) ∧ (decode cX7_nameToken 37 = .ok (.bipush 10, 2)) ∧ (decode cX7_nameToken 39 = .ok (.imul, 1)) ∧ (decode cX7_nameToken 40 = .ok (.aload_n 0, 1)) ∧ (decode cX7_nameToken 41 = .ok (.getfield 70, 3)) := by decide +kernel
theorem kd34_2 : (decode cX7_nameToken 44 = .ok (.iload 5, 2)) ∧ (decode cX7_nameToken 46 = .ok (.iaload, 1)) ∧ (decode cX7_nameToken 47 = .ok (.iadd, 1)) ∧ (decode cX7_nameToken 48 = .ok (.bipush 48, 2)) ∧ (decode cX7_nameToken 50 = .ok (.isub, 1)) ∧ (decode cX7_nameToken 51 = .ok (.goto 5, 3)) ∧ (decode cX7_nameToken 54 = .ok (.iload 4, 2)) ∧ (decode cX7_nameToken 56 = .ok (.istore 4, 2)) ∧ (decode cX7_nameToken 58 = .ok (.iinc 5 1, 3)) ∧ (decode cX7_nameToken 61 = .ok (.goto (-53), 3)) ∧ (decode cX7_nameToken 64 = .ok (.iload_n 3, 1)) ∧ (decode cX7_nameToken 65 = .ok (.iload_n 2, 1)) := by decide +kernel
theorem kd34_3 : (decode cX7_nameToken 66 = .ok (.iload_n 1, 1)) ∧ (decode cX7_nameToken 67 = .ok (.isub, 1)) ∧ (decode cX7_nameToken 68 = .ok (.if_icmp .ne 19, 3)) ∧ (decode cX7_nameToken 71 = .ok (.iload_n 3, 1)) ∧ (decode cX7_nameToken 72 = .ok (.iconst 4, 1)) ∧ (decode cX7_nameToken 73 = .ok (.if_icmp .gt 11, 3)) ∧ (decode cX7_nameToken 76 = .ok (.bipush 100, 2)) ∧ (decode cX7_nameToken 78 = .ok (.iload 4, 2)) ∧ (decode cX7_nameToken 80 = .ok (.iadd, 1)) ∧ (decode cX7_nameToken 81 = .ok (.goto 5, 3)) ∧ (decode cX7_nameToken 84 = .ok (.bipush 22, 2)) ∧ (decode cX7_nameToken 86 = .ok (.ireturn, 1)) := by decide +kernel
theorem kd34_4 : (decode cX7_nameToken 87 = .ok (.iload_n 3, 1)) ∧ (decode cX7_nameToken 88 = .ok (.ifCond .ne 14, 3)) ∧ (decode cX7_nameToken 91 = .ok (.aload_n 0, 1)) ∧ (decode cX7_nameToken 92 = .ok (.iload_n 1, 1)) ∧ (decode cX7_nameToken 93 = .ok (.iload_n 2, 1)) ∧ (decode cX7_nameToken 94 = .ok (.iload_n 1, 1)) ∧ (decode cX7_nameToken 95 = .ok (.isub, 1)) ∧ (decode cX7_nameToken 96 = .ok (.invokestatic 95, 3)) ∧ (decode cX7_nameToken 99 = .ok (.goto 5, 3)) ∧ (decode cX7_nameToken 102 = .ok (.bipush 22, 2)) ∧ (decode cX7_nameToken 104 = .ok (.ireturn, 1)) ∧ (decode cX7_read 0 = .ok (.aload_n 0, 1)) := by decide +kernel
theorem kd34_5 : (decode cX7_read 1 = .ok (.aload_n 1, 1)) ∧ (decode cX7_read 2 = .ok (.invokevirtual 35, 3)) ∧ (decode cX7_read 5 = .ok (.aload_n 0, 1)) ∧ (decode cX7_read 6 = .ok (.iconst 0, 1)) ∧ (decode cX7_read 7 = .ok (.putfield 18, 3)) ∧ (decode cX7_read 10 = .ok (.aload_n 0, 1)) ∧ (decode cX7_read 11 = .ok (.iconst 0, 1)) ∧ (decode cX7_read 12 = .ok (.putfield 22, 3)) ∧ (decode cX7_read 15 = .ok (.aload_n 0, 1)) ∧ (decode cX7_read 16 = .ok (.iconst 0, 1)) ∧ (decode cX7_read 17 = .ok (.putfield 25, 3)) ∧ (decode cX7_read 20 = .ok (.aload_n 0, 1)) := by decide +kernel
theorem kd34_6 : (decode cX7_read 21 = .ok (.iconst 0, 1)) ∧ (decode cX7_read 22 = .ok (.putfield 29, 3)) ∧ (decode cX7_read 25 = .ok (.aload_n 0, 1)) ∧ (decode cX7_read 26 = .ok (.iconst 0, 1)) ∧ (decode cX7_read 27 = .ok (.putfield 32, 3)) ∧ (decode cX7_read 30 = .ok (.aload_n 2, 1)) ∧ (decode cX7_read 31 = .ok (.iconst 0, 1)) ∧ (decode cX7_read 32 = .ok (.putfield 39, 3)) ∧ (decode cX7_read 35 = .ok (.aload_n 2, 1)) ∧ (decode cX7_read 36 = .ok (.iconst 0, 1)) ∧ (decode cX7_read 37 = .ok (.putfield 44, 3)) ∧ (decode cX7_read 40 = .ok (.iconst 0, 1)) := by decide +kernel
theorem kd34_7 : (decode cX7_read 41 = .ok (.istore_n 3, 1)) ∧ (decode cX7_read 42 = .ok (.iload_n 3, 1)) ∧ (decode cX7_read 43 = .ok (.bipush 16, 2)) ∧ (decode cX7_read 45 = .ok (.if_icmp .gt 30, 3)) ∧ (decode cX7_read 48 = .ok (.aload_n 0, 1)) ∧ (decode cX7_read 49 = .ok (.getfield 29, 3)) ∧ (decode cX7_read 52 = .ok (.ifCond .ne 23, 3)) ∧ (decode cX7_read 55 = .ok (.aload_n 0, 1)) ∧ (decode cX7_read 56 = .ok (.invokevirtual 47, 3)) ∧ (decode cX7_read 59 = .ok (.bipush 23, 2)) ∧ (decode cX7_read 61 = .ok (.if_icmp .eq 14, 3)) ∧ (decode cX7_read 64 = .ok (.aload_n 0, 1)) := by decide +kernel
theorem kd34_8 : (decode cX7_read 65 = .ok (.aload_n 2, 1)) ∧ (decode cX7_read 66 = .ok (.invokevirtual 51, 3)) ∧ (decode cX7_read 69 = .ok (.iinc 3 1, 3)) ∧ (decode cX7_read 72 = .ok (.goto (-30), 3)) ∧ (decode cX7_read 75 = .ok (.aload_n 1, 1)) ∧ (decode cX7_read 76 = .ok (.getfield 55, 3)) ∧ (decode cX7_read 79 = .ok (.sipush 300, 3)) ∧ (decode cX7_read 82 = .ok (.if_icmp .le 8, 3)) ∧ (decode cX7_read 85 = .ok (.aload_n 0, 1)) ∧ (decode cX7_read 86 = .ok (.iconst 1, 1)) ∧ (decode cX7_read 87 = .ok (.invokevirtual 60, 3)) ∧ (decode cX7_read 90 = .ok (.return_, 1)) := by decide +kernel
theorem kd34_9 : (decode cX7_scan 0 = .ok (.aload_n 1, 1)) ∧ (decode cX7_scan 1 = .ok (.getfield 55, 3)) ∧ (decode cX7_scan 4 = .ok (.sipush 300, 3)) ∧ (decode cX7_scan 7 = .ok (.invokestatic 64, 3)) ∧ (decode cX7_scan 10 = .ok (.istore_n 2, 1)) ∧ (decode cX7_scan 11 = .ok (.iconst 0, 1)) ∧ (decode cX7_scan 12 = .ok (.istore_n 3, 1)) ∧ (decode cX7_scan 13 = .ok (.iconst 0, 1)) ∧ (decode cX7_scan 14 = .ok (.istore 4, 2)) ∧ (decode cX7_scan 16 = .ok (.iconst 0, 1)) ∧ (decode cX7_scan 17 = .ok (.istore 5, 2)) ∧ (decode cX7_scan 19 = .ok (.iload 5, 2)) := by decide +kernel
theorem kd34_10 : (decode cX7_scan 21 = .ok (.iload_n 2, 1)) ∧ (decode cX7_scan 22 = .ok (.if_icmp .ge 103, 3)) ∧ (decode cX7_scan 25 = .ok (.aload_n 1, 1)) ∧ (decode cX7_scan 26 = .ok (.getfield 70, 3)) ∧ (decode cX7_scan 29 = .ok (.iload 5, 2)) ∧ (decode cX7_scan 31 = .ok (.iaload, 1)) ∧ (decode cX7_scan 32 = .ok (.istore 6, 2)) ∧ (decode cX7_scan 34 = .ok (.iload 5, 2)) ∧ (decode cX7_scan 36 = .ok (.iload 4, 2)) ∧ (decode cX7_scan 38 = .ok (.if_icmp .lt 81, 3)) ∧ (decode cX7_scan 41 = .ok (.iload 6, 2)) ∧ (decode cX7_scan 43 = .ok (.bipush 32, 2)) := by decide +kernel
theorem kd34_11 : (decode cX7_scan 45 = .ok (.if_icmp .eq 74, 3)) ∧ (decode cX7_scan 48 = .ok (.iload 6, 2)) ∧ (decode cX7_scan 50 = .ok (.bipush 10, 2)) ∧ (decode cX7_scan 52 = .ok (.if_icmp .eq 67, 3)) ∧ (decode cX7_scan 55 = .ok (.iload 6, 2)) ∧ (decode cX7_scan 57 = .ok (.invokestatic 73, 3)) ∧ (decode cX7_scan 60 = .ok (.ifCond .eq 12, 3)) ∧ (decode cX7_scan 63 = .ok (.aload_n 1, 1)) ∧ (decode cX7_scan 64 = .ok (.iload 5, 2)) ∧ (decode cX7_scan 66 = .ok (.invokestatic 77, 3)) ∧ (decode cX7_scan 69 = .ok (.goto 7, 3)) ∧ (decode cX7_scan 72 = .ok (.iload 5, 2)) := by decide +kernel
theorem kd34_12 : (decode cX7_scan 74 = .ok (.iconst 1, 1)) ∧ (decode cX7_scan 75 = .ok (.iadd, 1)) ∧ (decode cX7_scan 76 = .ok (.istore 4, 2)) ∧ (decode cX7_scan 78 = .ok (.aload_n 0, 1)) ∧ (decode cX7_scan 79 = .ok (.getfield 9, 3)) ∧ (decode cX7_scan 82 = .ok (.iload_n 3, 1)) ∧ (decode cX7_scan 83 = .ok (.iload 6, 2)) ∧ (decode cX7_scan 85 = .ok (.invokestatic 73, 3)) ∧ (decode cX7_scan 88 = .ok (.ifCond .eq 14, 3)) ∧ (decode cX7_scan 91 = .ok (.aload_n 1, 1)) ∧ (decode cX7_scan 92 = .ok (.iload 5, 2)) ∧ (decode cX7_scan 94 = .ok (.iload 4, 2)) := by decide +kernel
theorem kd34_13 : (decode cX7_scan 96 = .ok (.invokestatic 81, 3)) ∧ (decode cX7_scan 99 = .ok (.goto 8, 3)) ∧ (decode cX7_scan 102 = .ok (.iload 6, 2)) ∧ (decode cX7_scan 104 = .ok (.invokestatic 85, 3)) ∧ (decode cX7_scan 107 = .ok (.iastore, 1)) ∧ (decode cX7_scan 108 = .ok (.aload_n 0, 1)) ∧ (decode cX7_scan 109 = .ok (.getfield 15, 3)) ∧ (decode cX7_scan 112 = .ok (.iload_n 3, 1)) ∧ (decode cX7_scan 113 = .ok (.iload 5, 2)) ∧ (decode cX7_scan 115 = .ok (.iastore, 1)) ∧ (decode cX7_scan 116 = .ok (.iinc 3 1, 3)) ∧ (decode cX7_scan 119 = .ok (.iinc 5 1, 3)) := by decide +kernel
theorem kd34_14 : (decode cX7_scan 122 = .ok (.goto (-103), 3)) ∧ (decode cX7_scan 125 = .ok (.aload_n 0, 1)) ∧ (decode cX7_scan 126 = .ok (.getfield 9, 3)) ∧ (decode cX7_scan 129 = .ok (.iload_n 3, 1)) ∧ (decode cX7_scan 130 = .ok (.bipush 23, 2)) ∧ (decode cX7_scan 132 = .ok (.iastore, 1)) ∧ (decode cX7_scan 133 = .ok (.aload_n 0, 1)) ∧ (decode cX7_scan 134 = .ok (.getfield 15, 3)) ∧ (decode cX7_scan 137 = .ok (.iload_n 3, 1)) ∧ (decode cX7_scan 138 = .ok (.iload_n 2, 1)) ∧ (decode cX7_scan 139 = .ok (.iastore, 1)) ∧ (decode cX7_scan 140 = .ok (.return_, 1)) := by decide +kernel
theorem kd34_15 : (decode cX7_wordToken 0 = .ok (.iconst 0, 1)) ∧ (decode cX7_wordToken 1 = .ok (.istore_n 3, 1)) ∧ (decode cX7_wordToken 2 = .ok (.iconst 0, 1)) ∧ (decode cX7_wordToken 3 = .ok (.istore 4, 2)) ∧ (decode cX7_wordToken 5 = .ok (.iconst 0, 1)) ∧ (decode cX7_wordToken 6 = .ok (.istore 5, 2)) ∧ (decode cX7_wordToken 8 = .ok (.iload 5, 2)) ∧ (decode cX7_wordToken 10 = .ok (.ldc 98, 2)) ∧ (decode cX7_wordToken 12 = .ok (.invokevirtual 100, 3)) ∧ (decode cX7_wordToken 15 = .ok (.if_icmp .ge 76, 3)) ∧ (decode cX7_wordToken 18 = .ok (.ldc 98, 2)) ∧ (decode cX7_wordToken 20 = .ok (.iload 5, 2)) := by decide +kernel
theorem kd34_16 : (decode cX7_wordToken 22 = .ok (.invokevirtual 105, 3)) ∧ (decode cX7_wordToken 25 = .ok (.istore 6, 2)) ∧ (decode cX7_wordToken 27 = .ok (.iload 6, 2)) ∧ (decode cX7_wordToken 29 = .ok (.bipush 32, 2)) ∧ (decode cX7_wordToken 31 = .ok (.if_icmp .ne 20, 3)) ∧ (decode cX7_wordToken 34 = .ok (.iload 4, 2)) ∧ (decode cX7_wordToken 36 = .ok (.iload_n 2, 1)) ∧ (decode cX7_wordToken 37 = .ok (.if_icmp .ne 5, 3)) ∧ (decode cX7_wordToken 40 = .ok (.iload_n 3, 1)) ∧ (decode cX7_wordToken 41 = .ok (.ireturn, 1)) ∧ (decode cX7_wordToken 42 = .ok (.iinc 3 1, 3)) ∧ (decode cX7_wordToken 45 = .ok (.iconst 0, 1)) := by decide +kernel
theorem kd34_17 : (decode cX7_wordToken 46 = .ok (.istore 4, 2)) ∧ (decode cX7_wordToken 48 = .ok (.goto 37, 3)) ∧ (decode cX7_wordToken 51 = .ok (.iload 4, 2)) ∧ (decode cX7_wordToken 53 = .ok (.ifCond .lt 29, 3)) ∧ (decode cX7_wordToken 56 = .ok (.iload 4, 2)) ∧ (decode cX7_wordToken 58 = .ok (.iload_n 2, 1)) ∧ (decode cX7_wordToken 59 = .ok (.if_icmp .ge 23, 3)) ∧ (decode cX7_wordToken 62 = .ok (.aload_n 0, 1)) ∧ (decode cX7_wordToken 63 = .ok (.getfield 70, 3)) ∧ (decode cX7_wordToken 66 = .ok (.iload_n 1, 1)) ∧ (decode cX7_wordToken 67 = .ok (.iload 4, 2)) ∧ (decode cX7_wordToken 69 = .ok (.iadd, 1)) := by decide +kernel
theorem kd34_18 : (decode cX7_wordToken 70 = .ok (.iaload, 1)) ∧ (decode cX7_wordToken 71 = .ok (.iload 6, 2)) ∧ (decode cX7_wordToken 73 = .ok (.if_icmp .ne 9, 3)) ∧ (decode cX7_wordToken 76 = .ok (.iinc 4 1, 3)) ∧ (decode cX7_wordToken 79 = .ok (.goto 6, 3)) ∧ (decode cX7_wordToken 82 = .ok (.iconst (-1), 1)) ∧ (decode cX7_wordToken 83 = .ok (.istore 4, 2)) ∧ (decode cX7_wordToken 85 = .ok (.iinc 5 1, 3)) ∧ (decode cX7_wordToken 88 = .ok (.goto (-80), 3)) ∧ (decode cX7_wordToken 91 = .ok (.bipush 22, 2)) ∧ (decode cX7_wordToken 93 = .ok (.ireturn, 1)) := by decide +kernel
theorem lk_X7_100 : xLV RX7 100 yJ0_length_8abf5 cJ0_length_8abf5 1 (some .int) 0 := ⟨m_23_20, m_23_21, m_23_22, m_23_23, m_24_0, by decide +kernel⟩
theorem lk_X7_105 : xLV RX7 105 yJ0_charAt_5068e cJ0_charAt_5068e 2 (some .char) 1 := ⟨m_24_8, m_24_9, m_24_10, m_23_23, m_24_11, by decide +kernel⟩
theorem lk_X7_35 : xLV RX7 35 yX7_scan cX7_scan 7 none 1 := ⟨m_22_20, m_22_21, m_22_22, m_2_13, m_22_23, by decide +kernel⟩
theorem lk_X7_51 : xLV RX7 51 yX7_readLine cX7_readLine 5 none 1 := ⟨m_26_1, m_26_2, m_26_3, m_2_13, m_26_4, by decide +kernel⟩
theorem lk_X7_77 : xLS RX7 77 yX7_nameEnd cX7_nameEnd 3 (some .int) 2 := ⟨m_23_11, m_23_12, m_2_13, m_23_13, by decide +kernel⟩
theorem lk_X7_81 : xLS RX7 81 yX7_nameToken cX7_nameToken 6 (some .int) 3 := ⟨m_23_14, m_23_15, m_2_13, m_23_16, by decide +kernel⟩
theorem lk_X7_85 : xLS RX7 85 yX7_markToken cX7_markToken 1 (some .int) 1 := ⟨m_25_18, m_25_19, m_2_13, m_25_20, by decide +kernel⟩
theorem lk_X7_95 : xLS RX7 95 yX7_wordToken cX7_wordToken 7 (some .int) 3 := ⟨m_23_17, m_23_18, m_2_13, m_23_19, by decide +kernel⟩
theorem mm_X7_64 : Cond.methodLink RX7 64 Lib.Math.min.name ∈ wsL_law ∧ Cond.static Lib.Math.min.name ∈ wsL_law ∧ Cond.initialized "java/lang/Math" ∈ wsL_law ∧ Cond.code Lib.Math.min.name Lib.Math.min.code 2 (some .int) ∈ wsL_law := ⟨m_23_0, m_15_1, m_13_23, m_15_2⟩
set_option maxHeartbeats 4000000 in
set_option maxRecDepth 100000 in
theorem c_X7_wordToken (l : Launch) (D : va_G) (kA : Nat → ClassId) (b0 : Nat) (t0 : Nat → Nat) (S : xT) (g : xG) (a0 : Nat) (x1 : Int) (x2 : Int) (hs_a0 : S a0 = some (10, 0)) (hx1 : 0 ≤ x1 ∧ x1 ≤ 420) (hx2 : 0 ≤ x2 ∧ x2 ≤ 420) (hp0 : x1 + x2 ≤ 420) : xMt l yX7_wordToken cX7_wordToken 7 (some .int) 4 0 0 85 D kA b0 t0 [] [.ref a0, .int (iI x1), .int (iI x2)] S g (fun (r : Option Value) (S1 : xT) (g1 : xG) => S = S1 ∧ g = g1 ∧ ∃ z : Int, r = some (.int (iI z)) ∧ 0 ≤ z ∧ z ≤ 114) := by
  refine xEnterI (by decide) (by simp [lg_sl, Value.category]) [(0, .ref a0), (1, .int (iI x1)), (2, .int (iI x2))] rfl ?_
  intro K E hK hret _ _ _
  refine X_iconst hK kd34_15.1 ?_
  refine X_istoren hK (i := 3) [(3, .int (iI 0)), (0, .ref a0), (1, .int (iI x1)), (2, .int (iI x2))] kd34_15.2.1 rfl (by decide) rfl ?_
  refine X_iconst hK kd34_15.2.2.1 ?_
  refine X_istore hK (i := 4) [(4, .int (iI 0)), (3, .int (iI 0)), (0, .ref a0), (1, .int (iI x1)), (2, .int (iI x2))] kd34_15.2.2.2.1 (by decide) rfl ?_
  refine X_iconst hK kd34_15.2.2.2.2.1 ?_
  refine X_istore hK (i := 5) [(5, .int (iI 0)), (4, .int (iI 0)), (3, .int (iI 0)), (0, .ref a0), (1, .int (iI x1)), (2, .int (iI x2))] kd34_15.2.2.2.2.2.1 (by decide) rfl ?_
  have P151 : ∀ (nP151 : Nat) (z126 : Int) (_ : 0 ≤ z126) (_ : z126 ≤ 114) (z127 : Int) (_ : (-1) ≤ z127) (_ : z127 ≤ 420) (z128 : Int) (_ : 0 ≤ z128) (_ : z128 ≤ 114) (_ : z128 ≤ z126) (_ : 130 - z126 < (nP151 : Int)), X K E 8 [(5, .int (iI z126)), (4, .int (iI z127)), (3, .int (iI z128)), (0, .ref a0), (1, .int (iI x1)), (2, .int (iI x2))] [] S g 0 0 := by
    intro nP151
    induction nP151 with
    | zero => intro z126 lz126 uz126 z127 lz127 uz127 z128 lz128 uz128 v152 mP151; exact False.elim (by omega)
    | succ nP151 ihP151 =>
      intro z126 lz126 uz126 z127 lz127 uz127 z128 lz128 uz128 v152 mP151
      refine X_iload hK (i := 5) 0 kd34_15.2.2.2.2.2.2.1 rfl ?_
      refine X_ldcS hK kd34_15.2.2.2.2.2.2.2.1 ?_
      refine X_callVs hK [] [.int (iI z126)] lk_X7_100 rfl (c_length _ _ _ _ _ S g) kd34_15.2.2.2.2.2.2.2.2.1 rfl rfl (by simp [Value.category]) (by decide) (by decide) (by decide) (by decide) (fun r153 S155 g154 pr153 qr153 hg154 => ?_)
      obtain ⟨rfl, rfl, z156, rfl, lz156, uz156⟩ := pr153
      refine X_st [.int (iI z156), .int (iI z126)] rfl ?_
      refine X_icmp_ge hK 91 (by omega) (by omega) kd34_15.2.2.2.2.2.2.2.2.2.1 (by decide) (fun c157 => ?_) (fun c157 => ?_)
      · refine X_bipush hK kd34_18.2.2.2.2.2.2.2.2.2.1 (by decide) ?_
        exact hret _ _ _ _ _ _ _ kd34_18.2.2.2.2.2.2.2.2.2.2 ⟨rfl, rfl, 22, rfl, (by omega), (by omega)⟩ (Nat.le_refl _) (Nat.le_refl _)
      · refine X_ldcS hK kd34_15.2.2.2.2.2.2.2.2.2.2.1 ?_
        refine X_iload hK (i := 5) 0 kd34_15.2.2.2.2.2.2.2.2.2.2.2 rfl ?_
        refine X_callVs hK [.int (iI z126)] [] lk_X7_105 rfl (c_charAt _ _ _ _ _ S g z126 (by omega)) kd34_16.1 rfl rfl (by simp [Value.category]) (by decide) (by decide) (by decide) (by decide) (fun r158 S160 g159 pr158 qr158 hg159 => ?_)
        obtain ⟨rfl, rfl, z161, rfl, lz161, uz161⟩ := pr158
        refine X_st [.int (iI z161)] rfl ?_
        refine X_istore hK (i := 6) [(6, .int (iI z161)), (5, .int (iI z126)), (4, .int (iI z127)), (3, .int (iI z128)), (0, .ref a0), (1, .int (iI x1)), (2, .int (iI x2))] kd34_16.2.1 (by decide) rfl ?_
        refine X_iload hK (i := 6) 0 kd34_16.2.2.1 rfl ?_
        refine X_bipush hK kd34_16.2.2.2.1 (by decide) ?_
        refine X_icmp_ne hK 51 (by omega) (by omega) kd34_16.2.2.2.2.1 (by decide) (fun c162 => ?_) (fun c162 => ?_)
        · refine X_iload hK (i := 4) 2 kd34_17.2.2.1 rfl ?_
          have J169 : ∀ (z168 : Int) (lz168 : (-1) ≤ z168) (uz168 : z168 ≤ 420), X K E 85 [(4, .int (iI z168)), (6, .int (iI z161)), (5, .int (iI z126)), (3, .int (iI z128)), (0, .ref a0), (1, .int (iI x1)), (2, .int (iI x2))] [] S g 0 0 := by
            intro z168 lz168 uz168
            refine X_iinc hK (i := 5) (z := z126) (n := 1) 2 [(5, .int (iI (z126 + 1))), (4, .int (iI z168)), (6, .int (iI z161)), (3, .int (iI z128)), (0, .ref a0), (1, .int (iI x1)), (2, .int (iI x2))] kd34_18.2.2.2.2.2.2.2.1 rfl (by decide) rfl ?_
            refine X_goto hK 8 kd34_18.2.2.2.2.2.2.2.2.1 (by decide) ?_
            refine X_lv [(5, .int (iI (z126 + 1))), (4, .int (iI z168)), (3, .int (iI z128)), (0, .ref a0), (1, .int (iI x1)), (2, .int (iI x2))] [0, 1, 3, 4, 5, 6] rfl ?_
            exact ihP151  (z126 + 1) (by omega) (by omega) z168 (by omega) (by omega) z128 (by omega) (by omega) (by omega) (by omega)
          refine X_if_lt hK 82 (by omega) kd34_17.2.2.2.1 (by decide) (fun c163 => ?_) (fun c163 => ?_)
          · refine X_iconst hK kd34_18.2.2.2.2.2.1 ?_
            refine X_istore hK (i := 4) [(4, .int (iI (-1))), (6, .int (iI z161)), (5, .int (iI z126)), (3, .int (iI z128)), (0, .ref a0), (1, .int (iI x1)), (2, .int (iI x2))] kd34_18.2.2.2.2.2.2.1 (by decide) rfl ?_
            exact J169 (-1) (by omega) (by omega)
          · refine X_iload hK (i := 4) 2 kd34_17.2.2.2.2.1 rfl ?_
            refine X_iloadn hK (i := 2) 6 kd34_17.2.2.2.2.2.1 rfl rfl ?_
            refine X_icmp_ge hK 82 (by omega) (by omega) kd34_17.2.2.2.2.2.2.1 (by decide) (fun c170 => ?_) (fun c170 => ?_)
            · refine X_iconst hK kd34_18.2.2.2.2.2.1 ?_
              refine X_istore hK (i := 4) [(4, .int (iI (-1))), (6, .int (iI z161)), (5, .int (iI z126)), (3, .int (iI z128)), (0, .ref a0), (1, .int (iI x1)), (2, .int (iI x2))] kd34_18.2.2.2.2.2.2.1 (by decide) rfl ?_
              exact J169 (-1) (by omega) (by omega)
            · refine X_aloadn hK (i := 0) 4 kd34_17.2.2.2.2.2.2.2.1 rfl rfl ?_
              refine X_getr hK 13500 420 fl_X7_70_10 hs_a0 sl_10_0 kd34_17.2.2.2.2.2.2.2.2.1 (fun b171 eb171 hs_b171 => ?_)
              refine X_iloadn hK (i := 1) 5 kd34_17.2.2.2.2.2.2.2.2.2.1 rfl rfl ?_
              refine X_iload hK (i := 4) 2 kd34_17.2.2.2.2.2.2.2.2.2.2.1 rfl ?_
              refine X_iadd hK kd34_17.2.2.2.2.2.2.2.2.2.2.2 ?_
              refine X_iald hK hs_b171 (by decide) sl_13500 (by omega) (by omega) kd34_18.1 (fun z172 ez172 lz172 uz172 => ?_)
              refine X_iload hK (i := 6) 0 kd34_18.2.1 rfl ?_
              refine X_icmp_ne hK 82 (by omega) (by omega) kd34_18.2.2.1 (by decide) (fun c173 => ?_) (fun c173 => ?_)
              · refine X_iconst hK kd34_18.2.2.2.2.2.1 ?_
                refine X_istore hK (i := 4) [(4, .int (iI (-1))), (6, .int (iI z161)), (5, .int (iI z126)), (3, .int (iI z128)), (0, .ref a0), (1, .int (iI x1)), (2, .int (iI x2))] kd34_18.2.2.2.2.2.2.1 (by decide) rfl ?_
                exact J169 (-1) (by omega) (by omega)
              · refine X_iinc hK (i := 4) (z := z127) (n := 1) 2 [(4, .int (iI (z127 + 1))), (6, .int (iI z161)), (5, .int (iI z126)), (3, .int (iI z128)), (0, .ref a0), (1, .int (iI x1)), (2, .int (iI x2))] kd34_18.2.2.2.1 rfl (by decide) rfl ?_
                refine X_goto hK 85 kd34_18.2.2.2.2.1 (by decide) ?_
                exact J169 (z127 + 1) (by omega) (by omega)
        · refine X_iload hK (i := 4) 2 kd34_16.2.2.2.2.2.1 rfl ?_
          refine X_iloadn hK (i := 2) 6 kd34_16.2.2.2.2.2.2.1 rfl rfl ?_
          refine X_icmp_ne hK 42 (by omega) (by omega) kd34_16.2.2.2.2.2.2.2.1 (by decide) (fun c174 => ?_) (fun c174 => ?_)
          · refine X_iinc hK (i := 3) (z := z128) (n := 1) 3 [(3, .int (iI (z128 + 1))), (6, .int (iI z161)), (5, .int (iI z126)), (4, .int (iI z127)), (0, .ref a0), (1, .int (iI x1)), (2, .int (iI x2))] kd34_16.2.2.2.2.2.2.2.2.2.2.1 rfl (by decide) rfl ?_
            refine X_iconst hK kd34_16.2.2.2.2.2.2.2.2.2.2.2 ?_
            refine X_istore hK (i := 4) [(4, .int (iI 0)), (3, .int (iI (z128 + 1))), (6, .int (iI z161)), (5, .int (iI z126)), (0, .ref a0), (1, .int (iI x1)), (2, .int (iI x2))] kd34_17.1 (by decide) rfl ?_
            refine X_goto hK 85 kd34_17.2.1 (by decide) ?_
            refine X_iinc hK (i := 5) (z := z126) (n := 1) 3 [(5, .int (iI (z126 + 1))), (4, .int (iI 0)), (3, .int (iI (z128 + 1))), (6, .int (iI z161)), (0, .ref a0), (1, .int (iI x1)), (2, .int (iI x2))] kd34_18.2.2.2.2.2.2.2.1 rfl (by decide) rfl ?_
            refine X_goto hK 8 kd34_18.2.2.2.2.2.2.2.2.1 (by decide) ?_
            refine X_lv [(5, .int (iI (z126 + 1))), (4, .int (iI 0)), (3, .int (iI (z128 + 1))), (0, .ref a0), (1, .int (iI x1)), (2, .int (iI x2))] [0, 1, 2, 4, 5, 6] rfl ?_
            exact ihP151  (z126 + 1) (by omega) (by omega) 0 (by omega) (by omega) (z128 + 1) (by omega) (by omega) (by omega) (by omega)
          · refine X_iloadn hK (i := 3) 3 kd34_16.2.2.2.2.2.2.2.2.1 rfl rfl ?_
            exact hret _ _ _ _ _ _ _ kd34_16.2.2.2.2.2.2.2.2.2.1 ⟨rfl, rfl, z128, rfl, (by omega), (by omega)⟩ (Nat.le_refl _) (Nat.le_refl _)
  exact P151 ((130 - 0 : Int).toNat + 1) 0 (by omega) (by omega) 0 (by omega) (by omega) 0 (by omega) (by omega) (by omega) (by omega)

set_option maxHeartbeats 4000000 in
set_option maxRecDepth 100000 in
theorem c_X7_nameToken (l : Launch) (D : va_G) (kA : Nat → ClassId) (b0 : Nat) (t0 : Nat → Nat) (S : xT) (g : xG) (a0 : Nat) (x1 : Int) (x2 : Int) (hs_a0 : S a0 = some (10, 0)) (hx1 : 0 ≤ x1 ∧ x1 ≤ 420) (hx2 : 0 ≤ x2 ∧ x2 ≤ 420) (hp0 : x1 ≤ x2) : xMt l yX7_nameToken cX7_nameToken 6 (some .int) 5 0 0 111 D kA b0 t0 [] [.ref a0, .int (iI x1), .int (iI x2)] S g (fun (r : Option Value) (S1 : xT) (g1 : xG) => S = S1 ∧ g = g1 ∧ ∃ z : Int, r = some (.int (iI z)) ∧ 0 ≤ z ∧ z ≤ 10099) := by
  refine xEnterI (by decide) (by simp [lg_sl, Value.category]) [(0, .ref a0), (1, .int (iI x1)), (2, .int (iI x2))] rfl ?_
  intro K E hK hret _ _ _
  refine X_iconst hK kd34_0.1 ?_
  refine X_istoren hK (i := 3) [(3, .int (iI 0)), (0, .ref a0), (1, .int (iI x1)), (2, .int (iI x2))] kd34_0.2.1 rfl (by decide) rfl ?_
  refine X_iconst hK kd34_0.2.2.1 ?_
  refine X_istore hK (i := 4) [(4, .int (iI 0)), (3, .int (iI 0)), (0, .ref a0), (1, .int (iI x1)), (2, .int (iI x2))] kd34_0.2.2.2.1 (by decide) rfl ?_
  refine X_iloadn hK (i := 1) 3 kd34_0.2.2.2.2.1 rfl rfl ?_
  refine X_istore hK (i := 5) [(5, .int (iI x1)), (4, .int (iI 0)), (3, .int (iI 0)), (0, .ref a0), (1, .int (iI x1)), (2, .int (iI x2))] kd34_0.2.2.2.2.2.1 (by decide) rfl ?_
  have P81 : ∀ (nP81 : Nat) (z61 : Int) (_ : 0 ≤ z61) (_ : z61 ≤ 420) (z62 : Int) (_ : 0 ≤ z62) (_ : z62 ≤ 9999) (z63 : Int) (_ : 0 ≤ z63) (_ : z63 ≤ 420) (_ : (z63 = 0 ∧ z62 = 0) ∨ (z63 = 1 ∧ z62 ≤ 9) ∨ (z63 = 2 ∧ z62 ≤ 99) ∨ (z63 = 3 ∧ z62 ≤ 999) ∨ (4 ≤ z63 ∧ z62 ≤ 9999)) (_ : z63 ≤ z61 - x1) (_ : x1 ≤ z61) (_ : 420 - z61 < (nP81 : Int)), X K E 8 [(5, .int (iI z61)), (4, .int (iI z62)), (3, .int (iI z63)), (0, .ref a0), (1, .int (iI x1)), (2, .int (iI x2))] [] S g 0 0 := by
    intro nP81
    induction nP81 with
    | zero => intro z61 lz61 uz61 z62 lz62 uz62 z63 lz63 uz63 v82 v83 v84 mP81; exact False.elim (by omega)
    | succ nP81 ihP81 =>
      intro z61 lz61 uz61 z62 lz62 uz62 z63 lz63 uz63 v82 v83 v84 mP81
      refine X_iload hK (i := 5) 0 kd34_0.2.2.2.2.2.2.1 rfl ?_
      refine X_iloadn hK (i := 2) 5 kd34_0.2.2.2.2.2.2.2.1 rfl rfl ?_
      refine X_icmp_ge hK 64 (by omega) (by omega) kd34_0.2.2.2.2.2.2.2.2.1 (by decide) (fun c85 => ?_) (fun c85 => ?_)
      · refine X_iloadn hK (i := 3) 2 kd34_2.2.2.2.2.2.2.2.2.2.2.1 rfl rfl ?_
        refine X_iloadn hK (i := 2) 5 kd34_2.2.2.2.2.2.2.2.2.2.2.2 rfl rfl ?_
        refine X_iloadn hK (i := 1) 4 kd34_3.1 rfl rfl ?_
        refine X_isub hK kd34_3.2.1 ?_
        refine X_icmp_ne hK 87 (by omega) (by omega) kd34_3.2.2.1 (by decide) (fun c86 => ?_) (fun c86 => ?_)
        · refine X_iloadn hK (i := 3) 2 kd34_4.1 rfl rfl ?_
          refine X_if_ne hK 102 (by omega) kd34_4.2.1 (by decide) (fun c87 => ?_) (fun c87 => ?_)
          · refine X_bipush hK kd34_4.2.2.2.2.2.2.2.2.2.1 (by decide) ?_
            exact hret _ _ _ _ _ _ _ kd34_4.2.2.2.2.2.2.2.2.2.2.1 ⟨rfl, rfl, 22, rfl, (by omega), (by omega)⟩ (Nat.le_refl _) (Nat.le_refl _)
          · refine X_aloadn hK (i := 0) 3 kd34_4.2.2.1 rfl rfl ?_
            refine X_iloadn hK (i := 1) 4 kd34_4.2.2.2.1 rfl rfl ?_
            refine X_iloadn hK (i := 2) 5 kd34_4.2.2.2.2.1 rfl rfl ?_
            refine X_iloadn hK (i := 1) 4 kd34_4.2.2.2.2.2.1 rfl rfl ?_
            refine X_isub hK kd34_4.2.2.2.2.2.2.1 ?_
            refine X_callS hK [.ref a0, .int (iI x1), .int (iI (x2 - x1))] [] lk_X7_95 (c_X7_wordToken _ _ _ _ _ S g a0 x1 (x2 - x1) hs_a0 (by omega) (by omega) (by omega)) kd34_4.2.2.2.2.2.2.2.1 rfl rfl (by simp [Value.category]) (by decide) (by decide) (by decide) (by decide) (fun r88 S90 g89 pr88 qr88 hg89 => ?_)
            obtain ⟨rfl, rfl, z91, rfl, lz91, uz91⟩ := pr88
            refine X_st [.int (iI z91)] rfl ?_
            refine X_goto hK 104 kd34_4.2.2.2.2.2.2.2.2.1 (by decide) ?_
            exact hret _ _ _ _ _ _ _ kd34_4.2.2.2.2.2.2.2.2.2.2.1 ⟨rfl, rfl, z91, rfl, (by omega), (by omega)⟩ (Nat.le_refl _) (Nat.le_refl _)
        · refine X_iloadn hK (i := 3) 2 kd34_3.2.2.2.1 rfl rfl ?_
          refine X_iconst hK kd34_3.2.2.2.2.1 ?_
          refine X_icmp_gt hK 84 (by omega) (by omega) kd34_3.2.2.2.2.2.1 (by decide) (fun c92 => ?_) (fun c92 => ?_)
          · refine X_bipush hK kd34_3.2.2.2.2.2.2.2.2.2.2.1 (by decide) ?_
            exact hret _ _ _ _ _ _ _ kd34_3.2.2.2.2.2.2.2.2.2.2.2 ⟨rfl, rfl, 22, rfl, (by omega), (by omega)⟩ (Nat.le_refl _) (Nat.le_refl _)
          · refine X_bipush hK kd34_3.2.2.2.2.2.2.1 (by decide) ?_
            refine X_iload hK (i := 4) 1 kd34_3.2.2.2.2.2.2.2.1 rfl ?_
            refine X_iadd hK kd34_3.2.2.2.2.2.2.2.2.1 ?_
            refine X_goto hK 86 kd34_3.2.2.2.2.2.2.2.2.2.1 (by decide) ?_
            exact hret _ _ _ _ _ _ _ kd34_3.2.2.2.2.2.2.2.2.2.2.2 ⟨rfl, rfl, (100 + z62), rfl, (by omega), (by omega)⟩ (Nat.le_refl _) (Nat.le_refl _)
      · refine X_aloadn hK (i := 0) 3 kd34_0.2.2.2.2.2.2.2.2.2.1 rfl rfl ?_
        refine X_getr hK 13500 420 fl_X7_70_10 hs_a0 sl_10_0 kd34_0.2.2.2.2.2.2.2.2.2.2.1 (fun b93 eb93 hs_b93 => ?_)
        refine X_iload hK (i := 5) 0 kd34_0.2.2.2.2.2.2.2.2.2.2.2 rfl ?_
        refine X_iald hK hs_b93 (by decide) sl_13500 (by omega) (by omega) kd34_1.1 (fun z94 ez94 lz94 uz94 => ?_)
        refine X_callS hK [.int (iI z94)] [] lk_X7_92 (c_X7_isDigit _ _ _ _ _ S g z94 (by omega)) kd34_1.2.1 rfl rfl (by simp [Value.category]) (by decide) (by decide) (by decide) (by decide) (fun r95 S97 g96 pr95 qr95 hg96 => ?_)
        obtain ⟨rfl, rfl, z98, rfl, lz98, uz98, k99⟩ := pr95
        refine X_st [.int (iI z98)] rfl ?_
        refine X_if_eq hK 58 (by omega) kd34_1.2.2.1 (by decide) (fun c100 => ?_) (fun c100 => ?_)
        · refine X_iinc hK (i := 5) (z := z61) (n := 1) 0 [(5, .int (iI (z61 + 1))), (4, .int (iI z62)), (3, .int (iI z63)), (0, .ref a0), (1, .int (iI x1)), (2, .int (iI x2))] kd34_2.2.2.2.2.2.2.2.2.1 rfl (by decide) rfl ?_
          refine X_goto hK 8 kd34_2.2.2.2.2.2.2.2.2.2.1 (by decide) ?_
          exact ihP81  (z61 + 1) (by omega) (by omega) z62 (by omega) (by omega) z63 (by omega) (by omega) (by omega) (by omega) (by omega) (by omega)
        · refine X_iinc hK (i := 3) (z := z63) (n := 1) 2 [(3, .int (iI (z63 + 1))), (5, .int (iI z61)), (4, .int (iI z62)), (0, .ref a0), (1, .int (iI x1)), (2, .int (iI x2))] kd34_1.2.2.2.1 rfl (by decide) rfl ?_
          refine X_iloadn hK (i := 3) 0 kd34_1.2.2.2.2.1 rfl rfl ?_
          refine X_iconst hK kd34_1.2.2.2.2.2.1 ?_
          refine X_icmp_gt hK 54 (by omega) (by omega) kd34_1.2.2.2.2.2.2.1 (by decide) (fun c101 => ?_) (fun c101 => ?_)
          · refine X_iload hK (i := 4) 2 kd34_2.2.2.2.2.2.2.1 rfl ?_
            refine X_istore hK (i := 4) [(4, .int (iI z62)), (3, .int (iI (z63 + 1))), (5, .int (iI z61)), (0, .ref a0), (1, .int (iI x1)), (2, .int (iI x2))] kd34_2.2.2.2.2.2.2.2.1 (by decide) rfl ?_
            refine X_iinc hK (i := 5) (z := z61) (n := 1) 2 [(5, .int (iI (z61 + 1))), (4, .int (iI z62)), (3, .int (iI (z63 + 1))), (0, .ref a0), (1, .int (iI x1)), (2, .int (iI x2))] kd34_2.2.2.2.2.2.2.2.2.1 rfl (by decide) rfl ?_
            refine X_goto hK 8 kd34_2.2.2.2.2.2.2.2.2.2.1 (by decide) ?_
            exact ihP81  (z61 + 1) (by omega) (by omega) z62 (by omega) (by omega) (z63 + 1) (by omega) (by omega) (by omega) (by omega) (by omega) (by omega)
          · refine X_iload hK (i := 4) 2 kd34_1.2.2.2.2.2.2.2.1 rfl ?_
            refine X_bipush hK kd34_1.2.2.2.2.2.2.2.2.1 (by decide) ?_
            refine X_imul hK kd34_1.2.2.2.2.2.2.2.2.2.1 ?_
            refine X_aloadn hK (i := 0) 3 kd34_1.2.2.2.2.2.2.2.2.2.2.1 rfl rfl ?_
            refine X_getK hK fl_X7_70_10 hs_a0 eb93 kd34_1.2.2.2.2.2.2.2.2.2.2.2 ?_
            refine X_iload hK (i := 5) 1 kd34_2.1 rfl ?_
            refine X_ialdK hK hs_b93 (by decide) (by omega) (by omega) ez94 kd34_2.2.1 ?_
            refine X_iadd hK kd34_2.2.2.1 ?_
            refine X_bipush hK kd34_2.2.2.2.1 (by decide) ?_
            refine X_isub hK kd34_2.2.2.2.2.1 ?_
            refine X_goto hK 56 kd34_2.2.2.2.2.2.1 (by decide) ?_
            refine X_istore hK (i := 4) [(4, .int (iI (((z62 * 10) + z94) - 48))), (3, .int (iI (z63 + 1))), (5, .int (iI z61)), (0, .ref a0), (1, .int (iI x1)), (2, .int (iI x2))] kd34_2.2.2.2.2.2.2.2.1 (by decide) rfl ?_
            refine X_iinc hK (i := 5) (z := z61) (n := 1) 2 [(5, .int (iI (z61 + 1))), (4, .int (iI (((z62 * 10) + z94) - 48))), (3, .int (iI (z63 + 1))), (0, .ref a0), (1, .int (iI x1)), (2, .int (iI x2))] kd34_2.2.2.2.2.2.2.2.2.1 rfl (by decide) rfl ?_
            refine X_goto hK 8 kd34_2.2.2.2.2.2.2.2.2.2.1 (by decide) ?_
            exact ihP81  (z61 + 1) (by omega) (by omega) (((z62 * 10) + z94) - 48) (by omega) (by omega) (z63 + 1) (by omega) (by omega) (by omega) (by omega) (by omega) (by omega)
  exact P81 ((420 - x1 : Int).toNat + 1) x1 (by omega) (by omega) 0 (by omega) (by omega) 0 (by omega) (by omega) (by omega) (by omega) (by omega) (by omega)

set_option maxHeartbeats 4000000 in
set_option maxRecDepth 100000 in
theorem c_X7_scan (l : Launch) (D : va_G) (kA : Nat → ClassId) (b0 : Nat) (t0 : Nat → Nat) (S : xT) (g : xG) (a0 : Nat) (a1 : Nat) (hs_a0 : S a0 = some (8, 0)) (hs_a1 : S a1 = some (10, 0)) : xMt l yX7_scan cX7_scan 7 none 6 0 0 136 D kA b0 t0 [(12900, 0), (13000, 0)] [.ref a0, .ref a1] S g (fun (r : Option Value) (S1 : xT) (g1 : xG) => S = S1 ∧ r = none) := by
  refine xEnterV (by decide) (by simp [lg_sl, Value.category]) [(0, .ref a0), (1, .ref a1)] rfl ?_
  intro K E hK hret _ _ _
  refine X_aloadn hK (i := 1) 1 kd34_9.1 rfl rfl ?_
  refine X_geti hK fl_X7_55_10 hs_a1 sl_10_1 kd34_9.2.1 (fun z1 ez1 lz1 uz1 => ?_)
  refine X_sipush hK kd34_9.2.2.1 (by decide) ?_
  refine X_mmin hK mm_X7_64 ⟨by decide, by simp [Value.category]⟩ (by decide) (by omega) (by omega) kd34_9.2.2.2.1 (fun z2 ez2 fz2 => ?_)
  have bz2 : 0 ≤ z2 ∧ z2 ≤ 300 := by omega
  refine X_istoren hK (i := 2) [(2, .int (iI z2)), (0, .ref a0), (1, .ref a1)] kd34_9.2.2.2.2.1 rfl (by decide) rfl ?_
  refine X_iconst hK kd34_9.2.2.2.2.2.1 ?_
  refine X_istoren hK (i := 3) [(3, .int (iI 0)), (2, .int (iI z2)), (0, .ref a0), (1, .ref a1)] kd34_9.2.2.2.2.2.2.1 rfl (by decide) rfl ?_
  refine X_iconst hK kd34_9.2.2.2.2.2.2.2.1 ?_
  refine X_istore hK (i := 4) [(4, .int (iI 0)), (3, .int (iI 0)), (2, .int (iI z2)), (0, .ref a0), (1, .ref a1)] kd34_9.2.2.2.2.2.2.2.2.1 (by decide) rfl ?_
  refine X_iconst hK kd34_9.2.2.2.2.2.2.2.2.2.1 ?_
  refine X_istore hK (i := 5) [(5, .int (iI 0)), (4, .int (iI 0)), (3, .int (iI 0)), (2, .int (iI z2)), (0, .ref a0), (1, .ref a1)] kd34_9.2.2.2.2.2.2.2.2.2.2.1 (by decide) rfl ?_
  have P337 : ∀ (nP337 : Nat) (g273 : xG) (_ : xM [(13000, 0), (12900, 0)] S g g273) (z270 : Int) (_ : 0 ≤ z270) (_ : z270 ≤ 300) (z271 : Int) (_ : 0 ≤ z271) (_ : z271 ≤ 420) (z272 : Int) (_ : 0 ≤ z272) (_ : z272 ≤ 300) (_ : z272 ≤ z270) (_ : 400 - z270 < (nP337 : Int)), X K E 19 [(5, .int (iI z270)), (4, .int (iI z271)), (3, .int (iI z272)), (2, .int (iI z2)), (0, .ref a0), (1, .ref a1)] [] S g273 0 0 := by
    intro nP337
    induction nP337 with
    | zero => intro g273 hg273 z270 lz270 uz270 z271 lz271 uz271 z272 lz272 uz272 v338 mP337; exact False.elim (by omega)
    | succ nP337 ihP337 =>
      intro g273 hg273 z270 lz270 uz270 z271 lz271 uz271 z272 lz272 uz272 v338 mP337
      refine X_iload hK (i := 5) 0 kd34_9.2.2.2.2.2.2.2.2.2.2.2 rfl ?_
      refine X_iloadn hK (i := 2) 3 kd34_10.1 rfl rfl ?_
      refine X_icmp_ge hK 125 (by omega) (by omega) kd34_10.2.1 (by decide) (fun c339 => ?_) (fun c339 => ?_)
      · refine X_aloadn hK (i := 0) 4 kd34_14.2.1 rfl rfl ?_
        refine X_getr hK 12900 301 fl_X7_9_8 hs_a0 sl_8_0 kd34_14.2.2.1 (fun b340 eb340 hs_b340 => ?_)
        refine X_iloadn hK (i := 3) 2 kd34_14.2.2.2.1 rfl rfl ?_
        refine X_bipush hK kd34_14.2.2.2.2.1 (by decide) ?_
        refine X_iast hK hs_b340 (by decide) (by decide) sl_12900 (by omega) (by omega) (by omega) (by omega) kd34_14.2.2.2.2.2.1 (fun g341 hg341 => ?_)
        refine X_aloadn hK (i := 0) 4 kd34_14.2.2.2.2.2.2.1 rfl rfl ?_
        refine X_getr hK 13000 301 fl_X7_15_8 hs_a0 sl_8_1 kd34_14.2.2.2.2.2.2.2.1 (fun b342 eb342 hs_b342 => ?_)
        refine X_iloadn hK (i := 3) 2 kd34_14.2.2.2.2.2.2.2.2.1 rfl rfl ?_
        refine X_iloadn hK (i := 2) 3 kd34_14.2.2.2.2.2.2.2.2.2.1 rfl rfl ?_
        refine X_iast hK hs_b342 (by decide) (by decide) sl_13000 (by omega) (by omega) (by omega) (by omega) kd34_14.2.2.2.2.2.2.2.2.2.2.1 (fun g343 hg343 => ?_)
        exact hret _ _ _ _ _ _ kd34_14.2.2.2.2.2.2.2.2.2.2.2 ⟨rfl, rfl⟩ (Nat.le_refl _) (Nat.le_refl _)
      · refine X_aloadn hK (i := 1) 5 kd34_10.2.2.1 rfl rfl ?_
        refine X_getr hK 13500 420 fl_X7_70_10 hs_a1 sl_10_0 kd34_10.2.2.2.1 (fun b344 eb344 hs_b344 => ?_)
        refine X_iload hK (i := 5) 0 kd34_10.2.2.2.2.1 rfl ?_
        refine X_iald hK hs_b344 (by decide) sl_13500 (by omega) (by omega) kd34_10.2.2.2.2.2.1 (fun z345 ez345 lz345 uz345 => ?_)
        refine X_istore hK (i := 6) [(6, .int (iI z345)), (5, .int (iI z270)), (4, .int (iI z271)), (3, .int (iI z272)), (2, .int (iI z2)), (0, .ref a0), (1, .ref a1)] kd34_10.2.2.2.2.2.2.1 (by decide) rfl ?_
        refine X_iload hK (i := 5) 1 kd34_10.2.2.2.2.2.2.2.1 rfl ?_
        refine X_iload hK (i := 4) 2 kd34_10.2.2.2.2.2.2.2.2.1 rfl ?_
        refine X_icmp_lt hK 119 (by omega) (by omega) kd34_10.2.2.2.2.2.2.2.2.2.1 (by decide) (fun c346 => ?_) (fun c346 => ?_)
        · refine X_iinc hK (i := 5) (z := z270) (n := 1) 1 [(5, .int (iI (z270 + 1))), (6, .int (iI z345)), (4, .int (iI z271)), (3, .int (iI z272)), (2, .int (iI z2)), (0, .ref a0), (1, .ref a1)] kd34_13.2.2.2.2.2.2.2.2.2.2.2 rfl (by decide) rfl ?_
          refine X_goto hK 19 kd34_14.1 (by decide) ?_
          refine X_lv [(5, .int (iI (z270 + 1))), (4, .int (iI z271)), (3, .int (iI z272)), (2, .int (iI z2)), (0, .ref a0), (1, .ref a1)] [0, 2, 3, 4, 5, 6] rfl ?_
          exact ihP337  g273 (xM.tr xM.rf xLe.rf hg273 (by decide)) (z270 + 1) (by omega) (by omega) z271 (by omega) (by omega) z272 (by omega) (by omega) (by omega) (by omega)
        · refine X_iload hK (i := 6) 0 kd34_10.2.2.2.2.2.2.2.2.2.2.1 rfl ?_
          refine X_bipush hK kd34_10.2.2.2.2.2.2.2.2.2.2.2 (by decide) ?_
          refine X_icmp_eq hK 119 (by omega) (by omega) kd34_11.1 (by decide) (fun c347 => ?_) (fun c347 => ?_)
          · refine X_iinc hK (i := 5) (z := z270) (n := 1) 1 [(5, .int (iI (z270 + 1))), (6, .int (iI z345)), (4, .int (iI z271)), (3, .int (iI z272)), (2, .int (iI z2)), (0, .ref a0), (1, .ref a1)] kd34_13.2.2.2.2.2.2.2.2.2.2.2 rfl (by decide) rfl ?_
            refine X_goto hK 19 kd34_14.1 (by decide) ?_
            refine X_lv [(5, .int (iI (z270 + 1))), (4, .int (iI z271)), (3, .int (iI z272)), (2, .int (iI z2)), (0, .ref a0), (1, .ref a1)] [0, 2, 3, 4, 5, 6] rfl ?_
            exact ihP337  g273 (xM.tr xM.rf xLe.rf hg273 (by decide)) (z270 + 1) (by omega) (by omega) z271 (by omega) (by omega) z272 (by omega) (by omega) (by omega) (by omega)
          · refine X_iload hK (i := 6) 0 kd34_11.2.1 rfl ?_
            refine X_bipush hK kd34_11.2.2.1 (by decide) ?_
            refine X_icmp_eq hK 119 (by omega) (by omega) kd34_11.2.2.2.1 (by decide) (fun c348 => ?_) (fun c348 => ?_)
            · refine X_iinc hK (i := 5) (z := z270) (n := 1) 1 [(5, .int (iI (z270 + 1))), (6, .int (iI z345)), (4, .int (iI z271)), (3, .int (iI z272)), (2, .int (iI z2)), (0, .ref a0), (1, .ref a1)] kd34_13.2.2.2.2.2.2.2.2.2.2.2 rfl (by decide) rfl ?_
              refine X_goto hK 19 kd34_14.1 (by decide) ?_
              refine X_lv [(5, .int (iI (z270 + 1))), (4, .int (iI z271)), (3, .int (iI z272)), (2, .int (iI z2)), (0, .ref a0), (1, .ref a1)] [0, 2, 3, 4, 5, 6] rfl ?_
              exact ihP337  g273 (xM.tr xM.rf xLe.rf hg273 (by decide)) (z270 + 1) (by omega) (by omega) z271 (by omega) (by omega) z272 (by omega) (by omega) (by omega) (by omega)
            · refine X_iload hK (i := 6) 0 kd34_11.2.2.2.2.1 rfl ?_
              refine X_callS hK [.int (iI z345)] [] lk_X7_73 (c_X7_isOfName _ _ _ _ _ S g273 z345 (by omega)) kd34_11.2.2.2.2.2.1 rfl rfl (by simp [Value.category]) (by decide) (by decide) (by decide) (by decide) (fun r349 S351 g350 pr349 qr349 hg350 => ?_)
              obtain ⟨rfl, rfl, z352, rfl, lz352, uz352, k353⟩ := pr349
              refine X_st [.int (iI z352)] rfl ?_
              refine X_if_eq hK 72 (by omega) kd34_11.2.2.2.2.2.2.1 (by decide) (fun c354 => ?_) (fun c354 => ?_)
              · refine X_iload hK (i := 5) 1 kd34_11.2.2.2.2.2.2.2.2.2.2.2 rfl ?_
                refine X_iconst hK kd34_12.1 ?_
                refine X_iadd hK kd34_12.2.1 ?_
                refine X_istore hK (i := 4) [(4, .int (iI (z270 + 1))), (6, .int (iI z345)), (5, .int (iI z270)), (3, .int (iI z272)), (2, .int (iI z2)), (0, .ref a0), (1, .ref a1)] kd34_12.2.2.1 (by decide) rfl ?_
                refine X_aloadn hK (i := 0) 5 kd34_12.2.2.2.1 rfl rfl ?_
                refine X_getr hK 12900 301 fl_X7_9_8 hs_a0 sl_8_0 kd34_12.2.2.2.2.1 (fun b355 eb355 hs_b355 => ?_)
                refine X_iloadn hK (i := 3) 3 kd34_12.2.2.2.2.2.1 rfl rfl ?_
                refine X_iload hK (i := 6) 1 kd34_12.2.2.2.2.2.2.1 rfl ?_
                refine X_callS hK [.int (iI z345)] [.int (iI z272), .ref b355] lk_X7_73 (c_X7_isOfName _ _ _ _ _ S g273 z345 (by omega)) kd34_12.2.2.2.2.2.2.2.1 rfl rfl (by simp [Value.category]) (by decide) (by decide) (by decide) (by decide) (fun r356 S358 g357 pr356 qr356 hg357 => ?_)
                obtain ⟨rfl, rfl, z359, rfl, lz359, uz359, k360⟩ := pr356
                refine X_st [.int (iI z359), .int (iI z272), .ref b355] rfl ?_
                refine X_if_eq hK 102 (by omega) kd34_12.2.2.2.2.2.2.2.2.1 (by decide) (fun c361 => ?_) (fun c361 => ?_)
                · refine X_iload hK (i := 6) 1 kd34_13.2.2.1 rfl ?_
                  refine X_callS hK [.int (iI z345)] [.int (iI z272), .ref b355] lk_X7_85 (c_X7_markToken _ _ _ _ _ S g273 z345 (by omega)) kd34_13.2.2.2.1 rfl rfl (by simp [Value.category]) (by decide) (by decide) (by decide) (by decide) (fun r362 S364 g363 pr362 qr362 hg363 => ?_)
                  obtain ⟨rfl, rfl, z365, rfl, lz365, uz365⟩ := pr362
                  refine X_st [.int (iI z365), .int (iI z272), .ref b355] rfl ?_
                  refine X_iast hK hs_b355 (by decide) (by decide) sl_12900 (by omega) (by omega) (by omega) (by omega) kd34_13.2.2.2.2.1 (fun g366 hg366 => ?_)
                  refine X_aloadn hK (i := 0) 5 kd34_13.2.2.2.2.2.1 rfl rfl ?_
                  refine X_getr hK 13000 301 fl_X7_15_8 hs_a0 sl_8_1 kd34_13.2.2.2.2.2.2.1 (fun b367 eb367 hs_b367 => ?_)
                  refine X_iloadn hK (i := 3) 3 kd34_13.2.2.2.2.2.2.2.1 rfl rfl ?_
                  refine X_iload hK (i := 5) 2 kd34_13.2.2.2.2.2.2.2.2.1 rfl ?_
                  refine X_iast hK hs_b367 (by decide) (by decide) sl_13000 (by omega) (by omega) (by omega) (by omega) kd34_13.2.2.2.2.2.2.2.2.2.1 (fun g368 hg368 => ?_)
                  refine X_iinc hK (i := 3) (z := z272) (n := 1) 3 [(3, .int (iI (z272 + 1))), (4, .int (iI (z270 + 1))), (6, .int (iI z345)), (5, .int (iI z270)), (2, .int (iI z2)), (0, .ref a0), (1, .ref a1)] kd34_13.2.2.2.2.2.2.2.2.2.2.1 rfl (by decide) rfl ?_
                  refine X_iinc hK (i := 5) (z := z270) (n := 1) 3 [(5, .int (iI (z270 + 1))), (3, .int (iI (z272 + 1))), (4, .int (iI (z270 + 1))), (6, .int (iI z345)), (2, .int (iI z2)), (0, .ref a0), (1, .ref a1)] kd34_13.2.2.2.2.2.2.2.2.2.2.2 rfl (by decide) rfl ?_
                  refine X_goto hK 19 kd34_14.1 (by decide) ?_
                  refine X_lv [(5, .int (iI (z270 + 1))), (4, .int (iI (z270 + 1))), (3, .int (iI (z272 + 1))), (2, .int (iI z2)), (0, .ref a0), (1, .ref a1)] [0, 2, 1, 4, 5, 6] rfl ?_
                  exact ihP337  g368 (xM_ua (xM_ua (xM.tr xM.rf xLe.rf hg273 (by decide)) hg366 hs_b355 (by decide) (by decide)) hg368 hs_b367 (by decide) (by decide)) (z270 + 1) (by omega) (by omega) (z270 + 1) (by omega) (by omega) (z272 + 1) (by omega) (by omega) (by omega) (by omega)
                · refine X_aloadn hK (i := 1) 6 kd34_12.2.2.2.2.2.2.2.2.2.1 rfl rfl ?_
                  refine X_iload hK (i := 5) 2 kd34_12.2.2.2.2.2.2.2.2.2.2.1 rfl ?_
                  refine X_iload hK (i := 4) 0 kd34_12.2.2.2.2.2.2.2.2.2.2.2 rfl ?_
                  refine X_callS hK [.ref a1, .int (iI z270), .int (iI (z270 + 1))] [.int (iI z272), .ref b355] lk_X7_81 (c_X7_nameToken _ _ _ _ _ S g273 a1 z270 (z270 + 1) hs_a1 (by omega) (by omega) (by omega)) kd34_13.1 rfl rfl (by simp [Value.category]) (by decide) (by decide) (by decide) (by decide) (fun r369 S371 g370 pr369 qr369 hg370 => ?_)
                  obtain ⟨rfl, rfl, z372, rfl, lz372, uz372⟩ := pr369
                  refine X_st [.int (iI z372), .int (iI z272), .ref b355] rfl ?_
                  refine X_goto hK 107 kd34_13.2.1 (by decide) ?_
                  refine X_iast hK hs_b355 (by decide) (by decide) sl_12900 (by omega) (by omega) (by omega) (by omega) kd34_13.2.2.2.2.1 (fun g373 hg373 => ?_)
                  refine X_aloadn hK (i := 0) 5 kd34_13.2.2.2.2.2.1 rfl rfl ?_
                  refine X_getr hK 13000 301 fl_X7_15_8 hs_a0 sl_8_1 kd34_13.2.2.2.2.2.2.1 (fun b374 eb374 hs_b374 => ?_)
                  refine X_iloadn hK (i := 3) 3 kd34_13.2.2.2.2.2.2.2.1 rfl rfl ?_
                  refine X_iload hK (i := 5) 2 kd34_13.2.2.2.2.2.2.2.2.1 rfl ?_
                  refine X_iast hK hs_b374 (by decide) (by decide) sl_13000 (by omega) (by omega) (by omega) (by omega) kd34_13.2.2.2.2.2.2.2.2.2.1 (fun g375 hg375 => ?_)
                  refine X_iinc hK (i := 3) (z := z272) (n := 1) 3 [(3, .int (iI (z272 + 1))), (4, .int (iI (z270 + 1))), (6, .int (iI z345)), (5, .int (iI z270)), (2, .int (iI z2)), (0, .ref a0), (1, .ref a1)] kd34_13.2.2.2.2.2.2.2.2.2.2.1 rfl (by decide) rfl ?_
                  refine X_iinc hK (i := 5) (z := z270) (n := 1) 3 [(5, .int (iI (z270 + 1))), (3, .int (iI (z272 + 1))), (4, .int (iI (z270 + 1))), (6, .int (iI z345)), (2, .int (iI z2)), (0, .ref a0), (1, .ref a1)] kd34_13.2.2.2.2.2.2.2.2.2.2.2 rfl (by decide) rfl ?_
                  refine X_goto hK 19 kd34_14.1 (by decide) ?_
                  refine X_lv [(5, .int (iI (z270 + 1))), (4, .int (iI (z270 + 1))), (3, .int (iI (z272 + 1))), (2, .int (iI z2)), (0, .ref a0), (1, .ref a1)] [0, 2, 1, 4, 5, 6] rfl ?_
                  exact ihP337  g375 (xM_ua (xM_ua (xM.tr xM.rf xLe.rf hg273 (by decide)) hg373 hs_b355 (by decide) (by decide)) hg375 hs_b374 (by decide) (by decide)) (z270 + 1) (by omega) (by omega) (z270 + 1) (by omega) (by omega) (z272 + 1) (by omega) (by omega) (by omega) (by omega)
              · refine X_aloadn hK (i := 1) 6 kd34_11.2.2.2.2.2.2.2.1 rfl rfl ?_
                refine X_iload hK (i := 5) 1 kd34_11.2.2.2.2.2.2.2.2.1 rfl ?_
                refine X_callS hK [.ref a1, .int (iI z270)] [] lk_X7_77 (c_X7_nameEnd _ _ _ _ _ S g273 a1 z270 hs_a1 (by omega)) kd34_11.2.2.2.2.2.2.2.2.2.1 rfl rfl (by simp [Value.category]) (by decide) (by decide) (by decide) (by decide) (fun r376 S378 g377 pr376 qr376 hg377 => ?_)
                obtain ⟨rfl, rfl, z379, rfl, lz379, uz379, k380⟩ := pr376
                refine X_st [.int (iI z379)] rfl ?_
                refine X_goto hK 76 kd34_11.2.2.2.2.2.2.2.2.2.2.1 (by decide) ?_
                refine X_istore hK (i := 4) [(4, .int (iI z379)), (6, .int (iI z345)), (5, .int (iI z270)), (3, .int (iI z272)), (2, .int (iI z2)), (0, .ref a0), (1, .ref a1)] kd34_12.2.2.1 (by decide) rfl ?_
                refine X_aloadn hK (i := 0) 5 kd34_12.2.2.2.1 rfl rfl ?_
                refine X_getr hK 12900 301 fl_X7_9_8 hs_a0 sl_8_0 kd34_12.2.2.2.2.1 (fun b381 eb381 hs_b381 => ?_)
                refine X_iloadn hK (i := 3) 3 kd34_12.2.2.2.2.2.1 rfl rfl ?_
                refine X_iload hK (i := 6) 1 kd34_12.2.2.2.2.2.2.1 rfl ?_
                refine X_callS hK [.int (iI z345)] [.int (iI z272), .ref b381] lk_X7_73 (c_X7_isOfName _ _ _ _ _ S g273 z345 (by omega)) kd34_12.2.2.2.2.2.2.2.1 rfl rfl (by simp [Value.category]) (by decide) (by decide) (by decide) (by decide) (fun r382 S384 g383 pr382 qr382 hg383 => ?_)
                obtain ⟨rfl, rfl, z385, rfl, lz385, uz385, k386⟩ := pr382
                refine X_st [.int (iI z385), .int (iI z272), .ref b381] rfl ?_
                refine X_if_eq hK 102 (by omega) kd34_12.2.2.2.2.2.2.2.2.1 (by decide) (fun c387 => ?_) (fun c387 => ?_)
                · refine X_iload hK (i := 6) 1 kd34_13.2.2.1 rfl ?_
                  refine X_callS hK [.int (iI z345)] [.int (iI z272), .ref b381] lk_X7_85 (c_X7_markToken _ _ _ _ _ S g273 z345 (by omega)) kd34_13.2.2.2.1 rfl rfl (by simp [Value.category]) (by decide) (by decide) (by decide) (by decide) (fun r388 S390 g389 pr388 qr388 hg389 => ?_)
                  obtain ⟨rfl, rfl, z391, rfl, lz391, uz391⟩ := pr388
                  refine X_st [.int (iI z391), .int (iI z272), .ref b381] rfl ?_
                  refine X_iast hK hs_b381 (by decide) (by decide) sl_12900 (by omega) (by omega) (by omega) (by omega) kd34_13.2.2.2.2.1 (fun g392 hg392 => ?_)
                  refine X_aloadn hK (i := 0) 5 kd34_13.2.2.2.2.2.1 rfl rfl ?_
                  refine X_getr hK 13000 301 fl_X7_15_8 hs_a0 sl_8_1 kd34_13.2.2.2.2.2.2.1 (fun b393 eb393 hs_b393 => ?_)
                  refine X_iloadn hK (i := 3) 3 kd34_13.2.2.2.2.2.2.2.1 rfl rfl ?_
                  refine X_iload hK (i := 5) 2 kd34_13.2.2.2.2.2.2.2.2.1 rfl ?_
                  refine X_iast hK hs_b393 (by decide) (by decide) sl_13000 (by omega) (by omega) (by omega) (by omega) kd34_13.2.2.2.2.2.2.2.2.2.1 (fun g394 hg394 => ?_)
                  refine X_iinc hK (i := 3) (z := z272) (n := 1) 3 [(3, .int (iI (z272 + 1))), (4, .int (iI z379)), (6, .int (iI z345)), (5, .int (iI z270)), (2, .int (iI z2)), (0, .ref a0), (1, .ref a1)] kd34_13.2.2.2.2.2.2.2.2.2.2.1 rfl (by decide) rfl ?_
                  refine X_iinc hK (i := 5) (z := z270) (n := 1) 3 [(5, .int (iI (z270 + 1))), (3, .int (iI (z272 + 1))), (4, .int (iI z379)), (6, .int (iI z345)), (2, .int (iI z2)), (0, .ref a0), (1, .ref a1)] kd34_13.2.2.2.2.2.2.2.2.2.2.2 rfl (by decide) rfl ?_
                  refine X_goto hK 19 kd34_14.1 (by decide) ?_
                  refine X_lv [(5, .int (iI (z270 + 1))), (4, .int (iI z379)), (3, .int (iI (z272 + 1))), (2, .int (iI z2)), (0, .ref a0), (1, .ref a1)] [0, 2, 1, 4, 5, 6] rfl ?_
                  exact ihP337  g394 (xM_ua (xM_ua (xM.tr xM.rf xLe.rf hg273 (by decide)) hg392 hs_b381 (by decide) (by decide)) hg394 hs_b393 (by decide) (by decide)) (z270 + 1) (by omega) (by omega) z379 (by omega) (by omega) (z272 + 1) (by omega) (by omega) (by omega) (by omega)
                · refine X_aloadn hK (i := 1) 6 kd34_12.2.2.2.2.2.2.2.2.2.1 rfl rfl ?_
                  refine X_iload hK (i := 5) 2 kd34_12.2.2.2.2.2.2.2.2.2.2.1 rfl ?_
                  refine X_iload hK (i := 4) 0 kd34_12.2.2.2.2.2.2.2.2.2.2.2 rfl ?_
                  refine X_callS hK [.ref a1, .int (iI z270), .int (iI z379)] [.int (iI z272), .ref b381] lk_X7_81 (c_X7_nameToken _ _ _ _ _ S g273 a1 z270 z379 hs_a1 (by omega) (by omega) (by omega)) kd34_13.1 rfl rfl (by simp [Value.category]) (by decide) (by decide) (by decide) (by decide) (fun r395 S397 g396 pr395 qr395 hg396 => ?_)
                  obtain ⟨rfl, rfl, z398, rfl, lz398, uz398⟩ := pr395
                  refine X_st [.int (iI z398), .int (iI z272), .ref b381] rfl ?_
                  refine X_goto hK 107 kd34_13.2.1 (by decide) ?_
                  refine X_iast hK hs_b381 (by decide) (by decide) sl_12900 (by omega) (by omega) (by omega) (by omega) kd34_13.2.2.2.2.1 (fun g399 hg399 => ?_)
                  refine X_aloadn hK (i := 0) 5 kd34_13.2.2.2.2.2.1 rfl rfl ?_
                  refine X_getr hK 13000 301 fl_X7_15_8 hs_a0 sl_8_1 kd34_13.2.2.2.2.2.2.1 (fun b400 eb400 hs_b400 => ?_)
                  refine X_iloadn hK (i := 3) 3 kd34_13.2.2.2.2.2.2.2.1 rfl rfl ?_
                  refine X_iload hK (i := 5) 2 kd34_13.2.2.2.2.2.2.2.2.1 rfl ?_
                  refine X_iast hK hs_b400 (by decide) (by decide) sl_13000 (by omega) (by omega) (by omega) (by omega) kd34_13.2.2.2.2.2.2.2.2.2.1 (fun g401 hg401 => ?_)
                  refine X_iinc hK (i := 3) (z := z272) (n := 1) 3 [(3, .int (iI (z272 + 1))), (4, .int (iI z379)), (6, .int (iI z345)), (5, .int (iI z270)), (2, .int (iI z2)), (0, .ref a0), (1, .ref a1)] kd34_13.2.2.2.2.2.2.2.2.2.2.1 rfl (by decide) rfl ?_
                  refine X_iinc hK (i := 5) (z := z270) (n := 1) 3 [(5, .int (iI (z270 + 1))), (3, .int (iI (z272 + 1))), (4, .int (iI z379)), (6, .int (iI z345)), (2, .int (iI z2)), (0, .ref a0), (1, .ref a1)] kd34_13.2.2.2.2.2.2.2.2.2.2.2 rfl (by decide) rfl ?_
                  refine X_goto hK 19 kd34_14.1 (by decide) ?_
                  refine X_lv [(5, .int (iI (z270 + 1))), (4, .int (iI z379)), (3, .int (iI (z272 + 1))), (2, .int (iI z2)), (0, .ref a0), (1, .ref a1)] [0, 2, 1, 4, 5, 6] rfl ?_
                  exact ihP337  g401 (xM_ua (xM_ua (xM.tr xM.rf xLe.rf hg273 (by decide)) hg399 hs_b381 (by decide) (by decide)) hg401 hs_b400 (by decide) (by decide)) (z270 + 1) (by omega) (by omega) z379 (by omega) (by omega) (z272 + 1) (by omega) (by omega) (by omega) (by omega)
  exact P337 ((400 - 0 : Int).toNat + 1) g xM.rf 0 (by omega) (by omega) 0 (by omega) (by omega) 0 (by omega) (by omega) (by omega) (by omega)

set_option maxHeartbeats 4000000 in
set_option maxRecDepth 100000 in
theorem c_X7_read (l : Launch) (D : va_G) (kA : Nat → ClassId) (b0 : Nat) (t0 : Nat → Nat) (S : xT) (g : xG) (a0 : Nat) (a1 : Nat) (a2 : Nat) (hs_a0 : S a0 = some (8, 0)) (hs_a1 : S a1 = some (10, 0)) (hs_a2 : S a2 = some (11, 0)) : xMt l yX7_read cX7_read 4 none 35 0 0 815 D kA b0 t0 [(12900, 0), (13000, 0), (8, 2), (8, 3), (8, 4), (8, 5), (8, 6), (11, 1), (11, 2), (14000, 0), (13600, 0), (13700, 0), (13800, 0), (13900, 0)] [.ref a0, .ref a1, .ref a2] S g (fun (r : Option Value) (S1 : xT) (g1 : xG) => S = S1 ∧ r = none) := by
  refine xEnterV (by decide) (by simp [lg_sl, Value.category]) [(0, .ref a0), (1, .ref a1), (2, .ref a2)] rfl ?_
  intro K E hK hret _ _ _
  refine X_aloadn hK (i := 0) 0 kd34_4.2.2.2.2.2.2.2.2.2.2.2 rfl rfl ?_
  refine X_aloadn hK (i := 1) 1 kd34_5.1 rfl rfl ?_
  refine X_callV hK [.ref a1] [] lk_X7_35 (c_X7_scan _ _ _ _ _ S g a0 a1 hs_a0 hs_a1) hs_a0 ⟨by decide, rfl⟩ kd34_5.2.1 rfl rfl (by simp [Value.category]) (by decide) (by decide) (by decide) (by decide) (fun r1 S3 g2 pr1 qr1 hg2 => ?_)
  obtain ⟨rfl, rfl⟩ := pr1
  refine X_st [] rfl ?_
  refine X_aloadn hK (i := 0) 0 kd34_5.2.2.1 rfl rfl ?_
  refine X_iconst hK kd34_5.2.2.2.1 ?_
  refine X_puti hK fl_X7_18_8 hs_a0 (by decide) sl_8_2 (by omega) (by omega) kd34_5.2.2.2.2.1 (fun g4 hg4 => ?_)
  refine X_aloadn hK (i := 0) 0 kd34_5.2.2.2.2.2.1 rfl rfl ?_
  refine X_iconst hK kd34_5.2.2.2.2.2.2.1 ?_
  refine X_puti hK fl_X7_22_8 hs_a0 (by decide) sl_8_3 (by omega) (by omega) kd34_5.2.2.2.2.2.2.2.1 (fun g5 hg5 => ?_)
  refine X_aloadn hK (i := 0) 0 kd34_5.2.2.2.2.2.2.2.2.1 rfl rfl ?_
  refine X_iconst hK kd34_5.2.2.2.2.2.2.2.2.2.1 ?_
  refine X_putz hK fl_X7_25_8 hs_a0 (by decide) sl_8_4 (by omega) (by omega) kd34_5.2.2.2.2.2.2.2.2.2.2.1 (fun g6 hg6 => ?_)
  refine X_aloadn hK (i := 0) 0 kd34_5.2.2.2.2.2.2.2.2.2.2.2 rfl rfl ?_
  refine X_iconst hK kd34_6.1 ?_
  refine X_puti hK fl_X7_29_8 hs_a0 (by decide) sl_8_5 (by omega) (by omega) kd34_6.2.1 (fun g7 hg7 => ?_)
  refine X_aloadn hK (i := 0) 0 kd34_6.2.2.1 rfl rfl ?_
  refine X_iconst hK kd34_6.2.2.2.1 ?_
  refine X_puti hK fl_X7_32_8 hs_a0 (by decide) sl_8_6 (by omega) (by omega) kd34_6.2.2.2.2.1 (fun g8 hg8 => ?_)
  refine X_aloadn hK (i := 2) 2 kd34_6.2.2.2.2.2.1 rfl rfl ?_
  refine X_iconst hK kd34_6.2.2.2.2.2.2.1 ?_
  refine X_puti hK fl_X7_39_11 hs_a2 (by decide) sl_11_1 (by omega) (by omega) kd34_6.2.2.2.2.2.2.2.1 (fun g9 hg9 => ?_)
  refine X_aloadn hK (i := 2) 2 kd34_6.2.2.2.2.2.2.2.2.1 rfl rfl ?_
  refine X_iconst hK kd34_6.2.2.2.2.2.2.2.2.2.1 ?_
  refine X_puti hK fl_X7_44_11 hs_a2 (by decide) sl_11_2 (by omega) (by omega) kd34_6.2.2.2.2.2.2.2.2.2.2.1 (fun g10 hg10 => ?_)
  refine X_iconst hK kd34_6.2.2.2.2.2.2.2.2.2.2.2 ?_
  refine X_istoren hK (i := 3) [(3, .int (iI 0)), (0, .ref a0), (1, .ref a1), (2, .ref a2)] kd34_7.1 rfl (by decide) rfl ?_
  have P178 : ∀ (nP178 : Nat) (g149 : xG) (_ : xM [(8, 5), (8, 6), (8, 2), (8, 3), (14000, 0), (11, 2), (8, 4), (13600, 0), (13700, 0), (13800, 0), (13900, 0), (11, 1)] S g10 g149) (z148 : Int) (_ : 0 ≤ z148) (_ : z148 ≤ 17) (_ : 33 - z148 < (nP178 : Int)), X K E 42 [(3, .int (iI z148)), (0, .ref a0), (1, .ref a1), (2, .ref a2)] [] S g149 0 0 := by
    intro nP178
    induction nP178 with
    | zero => intro g149 hg149 z148 lz148 uz148 mP178; exact False.elim (by omega)
    | succ nP178 ihP178 =>
      intro g149 hg149 z148 lz148 uz148 mP178
      refine X_iloadn hK (i := 3) 0 kd34_7.2.1 rfl rfl ?_
      refine X_bipush hK kd34_7.2.2.1 (by decide) ?_
      refine X_icmp_gt hK 75 (by omega) (by omega) kd34_7.2.2.2.1 (by decide) (fun c179 => ?_) (fun c179 => ?_)
      · refine X_aloadn hK (i := 1) 2 kd34_8.2.2.2.2.1 rfl rfl ?_
        refine X_geti hK fl_X7_55_10 hs_a1 sl_10_1 kd34_8.2.2.2.2.2.1 (fun z180 ez180 lz180 uz180 => ?_)
        refine X_sipush hK kd34_8.2.2.2.2.2.2.1 (by decide) ?_
        refine X_icmp_le hK 90 (by omega) (by omega) kd34_8.2.2.2.2.2.2.2.1 (by decide) (fun c181 => ?_) (fun c181 => ?_)
        · exact hret _ _ _ _ _ _ kd34_8.2.2.2.2.2.2.2.2.2.2.2 ⟨rfl, rfl⟩ (Nat.le_refl _) (Nat.le_refl _)
        · refine X_aloadn hK (i := 0) 1 kd34_8.2.2.2.2.2.2.2.2.1 rfl rfl ?_
          refine X_iconst hK kd34_8.2.2.2.2.2.2.2.2.2.1 ?_
          refine X_callV hK [.int (iI 1)] [] lk_X7_60 (c_X7_tell _ _ _ _ _ S g149 a0 1 hs_a0 (by omega)) hs_a0 ⟨by decide, rfl⟩ kd34_8.2.2.2.2.2.2.2.2.2.2.1 rfl rfl (by simp [Value.category]) (by decide) (by decide) (by decide) (by decide) (fun r182 S184 g183 pr182 qr182 hg183 => ?_)
          obtain ⟨rfl, rfl⟩ := pr182
          refine X_st [] rfl ?_
          exact hret _ _ _ _ _ _ kd34_8.2.2.2.2.2.2.2.2.2.2.2 ⟨rfl, rfl⟩ (Nat.le_refl _) (Nat.le_refl _)
      · refine X_aloadn hK (i := 0) 1 kd34_7.2.2.2.2.1 rfl rfl ?_
        refine X_geti hK fl_X7_29_8 hs_a0 sl_8_5 kd34_7.2.2.2.2.2.1 (fun z185 ez185 lz185 uz185 => ?_)
        refine X_if_ne hK 75 (by omega) kd34_7.2.2.2.2.2.2.1 (by decide) (fun c186 => ?_) (fun c186 => ?_)
        · refine X_aloadn hK (i := 1) 2 kd34_8.2.2.2.2.1 rfl rfl ?_
          refine X_geti hK fl_X7_55_10 hs_a1 sl_10_1 kd34_8.2.2.2.2.2.1 (fun z187 ez187 lz187 uz187 => ?_)
          refine X_sipush hK kd34_8.2.2.2.2.2.2.1 (by decide) ?_
          refine X_icmp_le hK 90 (by omega) (by omega) kd34_8.2.2.2.2.2.2.2.1 (by decide) (fun c188 => ?_) (fun c188 => ?_)
          · exact hret _ _ _ _ _ _ kd34_8.2.2.2.2.2.2.2.2.2.2.2 ⟨rfl, rfl⟩ (Nat.le_refl _) (Nat.le_refl _)
          · refine X_aloadn hK (i := 0) 1 kd34_8.2.2.2.2.2.2.2.2.1 rfl rfl ?_
            refine X_iconst hK kd34_8.2.2.2.2.2.2.2.2.2.1 ?_
            refine X_callV hK [.int (iI 1)] [] lk_X7_60 (c_X7_tell _ _ _ _ _ S g149 a0 1 hs_a0 (by omega)) hs_a0 ⟨by decide, rfl⟩ kd34_8.2.2.2.2.2.2.2.2.2.2.1 rfl rfl (by simp [Value.category]) (by decide) (by decide) (by decide) (by decide) (fun r189 S191 g190 pr189 qr189 hg190 => ?_)
            obtain ⟨rfl, rfl⟩ := pr189
            refine X_st [] rfl ?_
            exact hret _ _ _ _ _ _ kd34_8.2.2.2.2.2.2.2.2.2.2.2 ⟨rfl, rfl⟩ (Nat.le_refl _) (Nat.le_refl _)
        · refine X_aloadn hK (i := 0) 1 kd34_7.2.2.2.2.2.2.2.1 rfl rfl ?_
          refine X_know hs_a0 (by decide) sl_8_2 (fun z192 ez192 lz192 uz192 => ?_)
          refine X_callV hK [] [] lk_X7_47 (c_X7_now _ _ _ _ _ S g149 a0 z192 hs_a0 (by omega) ez192) hs_a0 ⟨by decide, rfl⟩ kd34_7.2.2.2.2.2.2.2.2.1 rfl rfl (by simp [Value.category]) (by decide) (by decide) (by decide) (by decide) (fun r193 S195 g194 pr193 qr193 hg194 => ?_)
          obtain ⟨rfl, rfl, z196, rfl, lz196, uz196, k197⟩ := pr193
          refine X_st [.int (iI z196)] rfl ?_
          refine X_bipush hK kd34_7.2.2.2.2.2.2.2.2.2.1 (by decide) ?_
          refine X_icmp_eq hK 75 (by omega) (by omega) kd34_7.2.2.2.2.2.2.2.2.2.2.1 (by decide) (fun c198 => ?_) (fun c198 => ?_)
          · refine X_aloadn hK (i := 1) 2 kd34_8.2.2.2.2.1 rfl rfl ?_
            refine X_geti hK fl_X7_55_10 hs_a1 sl_10_1 kd34_8.2.2.2.2.2.1 (fun z199 ez199 lz199 uz199 => ?_)
            refine X_sipush hK kd34_8.2.2.2.2.2.2.1 (by decide) ?_
            refine X_icmp_le hK 90 (by omega) (by omega) kd34_8.2.2.2.2.2.2.2.1 (by decide) (fun c200 => ?_) (fun c200 => ?_)
            · exact hret _ _ _ _ _ _ kd34_8.2.2.2.2.2.2.2.2.2.2.2 ⟨rfl, rfl⟩ (Nat.le_refl _) (Nat.le_refl _)
            · refine X_aloadn hK (i := 0) 1 kd34_8.2.2.2.2.2.2.2.2.1 rfl rfl ?_
              refine X_iconst hK kd34_8.2.2.2.2.2.2.2.2.2.1 ?_
              refine X_callV hK [.int (iI 1)] [] lk_X7_60 (c_X7_tell _ _ _ _ _ S g149 a0 1 hs_a0 (by omega)) hs_a0 ⟨by decide, rfl⟩ kd34_8.2.2.2.2.2.2.2.2.2.2.1 rfl rfl (by simp [Value.category]) (by decide) (by decide) (by decide) (by decide) (fun r201 S203 g202 pr201 qr201 hg202 => ?_)
              obtain ⟨rfl, rfl⟩ := pr201
              refine X_st [] rfl ?_
              exact hret _ _ _ _ _ _ kd34_8.2.2.2.2.2.2.2.2.2.2.2 ⟨rfl, rfl⟩ (Nat.le_refl _) (Nat.le_refl _)
          · refine X_aloadn hK (i := 0) 1 kd34_7.2.2.2.2.2.2.2.2.2.2.2 rfl rfl ?_
            refine X_aloadn hK (i := 2) 3 kd34_8.1 rfl rfl ?_
            refine X_callV hK [.ref a2] [] lk_X7_51 (c_X7_readLine _ _ _ _ _ S g149 a0 a2 hs_a0 hs_a2) hs_a0 ⟨by decide, rfl⟩ kd34_8.2.1 rfl rfl (by simp [Value.category]) (by decide) (by decide) (by decide) (by decide) (fun r204 S206 g205 pr204 qr204 hg205 => ?_)
            obtain ⟨rfl, rfl⟩ := pr204
            refine X_st [] rfl ?_
            refine X_iinc hK (i := 3) (z := z148) (n := 1) 0 [(3, .int (iI (z148 + 1))), (0, .ref a0), (1, .ref a1), (2, .ref a2)] kd34_8.2.2.1 rfl (by decide) rfl ?_
            refine X_goto hK 42 kd34_8.2.2.2.1 (by decide) ?_
            exact ihP178  g205 (xM.tr (xM.tr xM.rf xLe.rf hg149 (by decide)) xLe.rf hg205 (by decide)) (z148 + 1) (by omega) (by omega) (by omega)
  exact P178 ((33 - 0 : Int).toNat + 1) g10 xM.rf 0 (by omega) (by omega) (by omega)
