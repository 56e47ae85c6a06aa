theorem m_3_2 : Cond.initialized RX6 ∈ wsL_law := ch_3 _ (List.mem_of_getElem? (i := 2) rfl)
theorem m_7_11 : Cond.fieldLink RX6 9 "PaperBoys$Parting" "n" "I" ∈ wsL_law := ch_7 _ (List.mem_of_getElem? (i := 11) rfl)
theorem m_7_12 : Cond.fieldLink RX6 15 "PaperBoys$Parting" "gain" "[I" ∈ wsL_law := ch_7 _ (List.mem_of_getElem? (i := 12) rfl)
theorem m_7_13 : Cond.fieldLink RX6 19 "PaperBoys$Parting" "might" "[I" ∈ wsL_law := ch_7 _ (List.mem_of_getElem? (i := 13) rfl)
theorem m_7_14 : Cond.fieldLink RX6 22 "PaperBoys$Parting" "cornerOf" "[I" ∈ wsL_law := ch_7 _ (List.mem_of_getElem? (i := 14) rfl)
theorem m_7_15 : Cond.fieldLink RX6 25 "PaperBoys$Parting" "boyOf" "[I" ∈ wsL_law := ch_7 _ (List.mem_of_getElem? (i := 15) rfl)
theorem m_7_19 : Cond.fieldLink RX6 34 "PaperBoys$Parting" "sentAway" "[Z" ∈ wsL_law := ch_7 _ (List.mem_of_getElem? (i := 19) rfl)
theorem m_7_20 : Cond.fieldLink RX6 38 "PaperBoys$Parting" "clash" "[J" ∈ wsL_law := ch_7 _ (List.mem_of_getElem? (i := 20) rfl)
theorem m_49_4 : Cond.fieldLink RX6 45 "PaperBoys$Tape" "bytes" "[I" ∈ wsL_law := ch_49 _ (List.mem_of_getElem? (i := 4) rfl)
theorem m_49_21 : Cond.methodLink RX6 69 yX6_isMightier ∈ wsL_law := ch_49 _ (List.mem_of_getElem? (i := 21) rfl)
theorem m_49_22 : Cond.instanceMethod yX6_isMightier ∈ wsL_law := ch_49 _ (List.mem_of_getElem? (i := 22) rfl)
theorem m_49_23 : Cond.selects RX6 yX6_isMightier yX6_isMightier ∈ wsL_law := ch_49 _ (List.mem_of_getElem? (i := 23) rfl)
theorem m_50_0 : Cond.code yX6_isMightier cX6_isMightier 6 (some .boolean) ∈ wsL_law := ch_50 _ (List.mem_of_getElem? (i := 0) rfl)
theorem m_50_16 : Cond.methodLink RX6 95 yX6_clashesWith ∈ wsL_law := ch_50 _ (List.mem_of_getElem? (i := 16) rfl)
theorem m_50_17 : Cond.instanceMethod yX6_clashesWith ∈ wsL_law := ch_50 _ (List.mem_of_getElem? (i := 17) rfl)
theorem m_50_18 : Cond.selects RX6 yX6_clashesWith yX6_clashesWith ∈ wsL_law := ch_50 _ (List.mem_of_getElem? (i := 18) rfl)
theorem m_50_19 : Cond.code yX6_clashesWith cX6_clashesWith 8 (some .long) ∈ wsL_law := ch_50 _ (List.mem_of_getElem? (i := 19) rfl)
theorem m_50_20 : Cond.methodLink RX6 50 yX6_wouldFight ∈ wsL_law := ch_50 _ (List.mem_of_getElem? (i := 20) rfl)
theorem m_50_21 : Cond.instanceMethod yX6_wouldFight ∈ wsL_law := ch_50 _ (List.mem_of_getElem? (i := 21) rfl)
theorem m_50_22 : Cond.selects RX6 yX6_wouldFight yX6_wouldFight ∈ wsL_law := ch_50 _ (List.mem_of_getElem? (i := 22) rfl)
theorem m_50_23 : Cond.code yX6_wouldFight cX6_wouldFight 6 (some .boolean) ∈ wsL_law := ch_50 _ (List.mem_of_getElem? (i := 23) rfl)
theorem kd26_0 : (decode cX6_ask 0 = .ok (.aload_n 0, 1)) ∧ (decode cX6_ask 1 = .ok (.getfield 25, 3)) ∧ (decode cX6_ask 4 = .ok (.iload_n 2, 1)) ∧ (decode cX6_ask 5 = .ok (.iaload, 1)) ∧ (decode cX6_ask 6 = .ok (.istore_n 3, 1)) ∧ (decode cX6_ask 7 = .ok (.iload_n 3, 1)) ∧ (decode cX6_ask 8 = .ok (.iconst (-1), 1)) ∧ (decode cX6_ask 9 = .ok (.if_icmp .eq 13, 3)) ∧ (decode cX6_ask 12 = .ok (.aload_n 0, 1)) ∧ (decode cX6_ask 13 = .ok (.iload_n 1, 1)) ∧ (decode cX6_ask 14 = .ok (.iload_n 3, 1)) ∧ (decode cX6_ask 15 = .ok (.iload_n 2, 1)) := by decide +kernel
theorem kd26_1 : (decode cX6_ask 16 = .ok (.invokevirtual 69, 3)) ∧ (decode cX6_ask 19 = .ok (.ifCond .eq 44, 3)) ∧ (decode cX6_ask 22 = .ok (.aload_n 0, 1)) ∧ (decode cX6_ask 23 = .ok (.getfield 25, 3)) ∧ (decode cX6_ask 26 = .ok (.iload_n 2, 1)) ∧ (decode cX6_ask 27 = .ok (.iload_n 1, 1)) ∧ (decode cX6_ask 28 = .ok (.iastore, 1)) ∧ (decode cX6_ask 29 = .ok (.aload_n 0, 1)) ∧ (decode cX6_ask 30 = .ok (.getfield 22, 3)) ∧ (decode cX6_ask 33 = .ok (.iload_n 1, 1)) ∧ (decode cX6_ask 34 = .ok (.iload_n 2, 1)) ∧ (decode cX6_ask 35 = .ok (.iastore, 1)) := by decide +kernel
theorem kd26_2 : (decode cX6_ask 36 = .ok (.iload_n 3, 1)) ∧ (decode cX6_ask 37 = .ok (.iconst (-1), 1)) ∧ (decode cX6_ask 38 = .ok (.if_icmp .eq 37, 3)) ∧ (decode cX6_ask 41 = .ok (.aload_n 0, 1)) ∧ (decode cX6_ask 42 = .ok (.getfield 22, 3)) ∧ (decode cX6_ask 45 = .ok (.iload_n 3, 1)) ∧ (decode cX6_ask 46 = .ok (.iconst (-1), 1)) ∧ (decode cX6_ask 47 = .ok (.iastore, 1)) ∧ (decode cX6_ask 48 = .ok (.aload_n 0, 1)) ∧ (decode cX6_ask 49 = .ok (.getfield 34, 3)) ∧ (decode cX6_ask 52 = .ok (.iload_n 3, 1)) ∧ (decode cX6_ask 53 = .ok (.bipush 8, 2)) := by decide +kernel
theorem kd26_3 : (decode cX6_ask 55 = .ok (.imul, 1)) ∧ (decode cX6_ask 56 = .ok (.iload_n 2, 1)) ∧ (decode cX6_ask 57 = .ok (.iadd, 1)) ∧ (decode cX6_ask 58 = .ok (.iconst 1, 1)) ∧ (decode cX6_ask 59 = .ok (.bastore, 1)) ∧ (decode cX6_ask 60 = .ok (.goto 15, 3)) ∧ (decode cX6_ask 63 = .ok (.aload_n 0, 1)) ∧ (decode cX6_ask 64 = .ok (.getfield 34, 3)) ∧ (decode cX6_ask 67 = .ok (.iload_n 1, 1)) ∧ (decode cX6_ask 68 = .ok (.bipush 8, 2)) ∧ (decode cX6_ask 70 = .ok (.imul, 1)) ∧ (decode cX6_ask 71 = .ok (.iload_n 2, 1)) := by decide +kernel
theorem kd26_4 : (decode cX6_ask 72 = .ok (.iadd, 1)) ∧ (decode cX6_ask 73 = .ok (.iconst 1, 1)) ∧ (decode cX6_ask 74 = .ok (.bastore, 1)) ∧ (decode cX6_ask 75 = .ok (.return_, 1)) ∧ (decode cX6_boyWithout 0 = .ok (.iconst 0, 1)) ∧ (decode cX6_boyWithout 1 = .ok (.istore_n 1, 1)) ∧ (decode cX6_boyWithout 2 = .ok (.iload_n 1, 1)) ∧ (decode cX6_boyWithout 3 = .ok (.aload_n 0, 1)) ∧ (decode cX6_boyWithout 4 = .ok (.getfield 9, 3)) ∧ (decode cX6_boyWithout 7 = .ok (.if_icmp .ge 21, 3)) ∧ (decode cX6_boyWithout 10 = .ok (.aload_n 0, 1)) ∧ (decode cX6_boyWithout 11 = .ok (.getfield 22, 3)) := by decide +kernel
theorem kd26_5 : (decode cX6_boyWithout 14 = .ok (.iload_n 1, 1)) ∧ (decode cX6_boyWithout 15 = .ok (.iaload, 1)) ∧ (decode cX6_boyWithout 16 = .ok (.iconst (-1), 1)) ∧ (decode cX6_boyWithout 17 = .ok (.if_icmp .ne 5, 3)) ∧ (decode cX6_boyWithout 20 = .ok (.iload_n 1, 1)) ∧ (decode cX6_boyWithout 21 = .ok (.ireturn, 1)) ∧ (decode cX6_boyWithout 22 = .ok (.iinc 1 1, 3)) ∧ (decode cX6_boyWithout 25 = .ok (.goto (-23), 3)) ∧ (decode cX6_boyWithout 28 = .ok (.iconst (-1), 1)) ∧ (decode cX6_boyWithout 29 = .ok (.ireturn, 1)) ∧ (decode cX6_clashesWith 0 = .ok (.lconst 0, 1)) ∧ (decode cX6_clashesWith 1 = .ok (.lstore 5, 2)) := by decide +kernel
theorem kd26_6 : (decode cX6_clashesWith 3 = .ok (.iconst 0, 1)) ∧ (decode cX6_clashesWith 4 = .ok (.istore 7, 2)) ∧ (decode cX6_clashesWith 6 = .ok (.iload 7, 2)) ∧ (decode cX6_clashesWith 8 = .ok (.aload_n 0, 1)) ∧ (decode cX6_clashesWith 9 = .ok (.getfield 9, 3)) ∧ (decode cX6_clashesWith 12 = .ok (.if_icmp .ge 62, 3)) ∧ (decode cX6_clashesWith 15 = .ok (.iload_n 3, 1)) ∧ (decode cX6_clashesWith 16 = .ok (.iload_n 1, 1)) ∧ (decode cX6_clashesWith 17 = .ok (.if_icmp .eq 57, 3)) ∧ (decode cX6_clashesWith 20 = .ok (.iload 7, 2)) ∧ (decode cX6_clashesWith 22 = .ok (.iload_n 2, 1)) ∧ (decode cX6_clashesWith 23 = .ok (.if_icmp .eq 31, 3)) := by decide +kernel
theorem kd26_7 : (decode cX6_clashesWith 26 = .ok (.aload_n 0, 1)) ∧ (decode cX6_clashesWith 27 = .ok (.iload_n 1, 1)) ∧ (decode cX6_clashesWith 28 = .ok (.iload_n 2, 1)) ∧ (decode cX6_clashesWith 29 = .ok (.iload_n 3, 1)) ∧ (decode cX6_clashesWith 30 = .ok (.iload 7, 2)) ∧ (decode cX6_clashesWith 32 = .ok (.iload 4, 2)) ∧ (decode cX6_clashesWith 34 = .ok (.invokevirtual 50, 3)) ∧ (decode cX6_clashesWith 37 = .ok (.ifCond .ne 17, 3)) ∧ (decode cX6_clashesWith 40 = .ok (.aload_n 0, 1)) ∧ (decode cX6_clashesWith 41 = .ok (.iload_n 3, 1)) ∧ (decode cX6_clashesWith 42 = .ok (.iload 7, 2)) ∧ (decode cX6_clashesWith 44 = .ok (.iload_n 1, 1)) := by decide +kernel
theorem kd26_8 : (decode cX6_clashesWith 45 = .ok (.iload_n 2, 1)) ∧ (decode cX6_clashesWith 46 = .ok (.iload 4, 2)) ∧ (decode cX6_clashesWith 48 = .ok (.invokevirtual 50, 3)) ∧ (decode cX6_clashesWith 51 = .ok (.ifCond .eq 17, 3)) ∧ (decode cX6_clashesWith 54 = .ok (.lload 5, 2)) ∧ (decode cX6_clashesWith 56 = .ok (.lconst 1, 1)) ∧ (decode cX6_clashesWith 57 = .ok (.iload_n 3, 1)) ∧ (decode cX6_clashesWith 58 = .ok (.bipush 8, 2)) ∧ (decode cX6_clashesWith 60 = .ok (.imul, 1)) ∧ (decode cX6_clashesWith 61 = .ok (.iload 7, 2)) ∧ (decode cX6_clashesWith 63 = .ok (.iadd, 1)) ∧ (decode cX6_clashesWith 64 = .ok (.lshl, 1)) := by decide +kernel
theorem kd26_9 : (decode cX6_clashesWith 65 = .ok (.lor, 1)) ∧ (decode cX6_clashesWith 66 = .ok (.lstore 5, 2)) ∧ (decode cX6_clashesWith 68 = .ok (.iinc 7 1, 3)) ∧ (decode cX6_clashesWith 71 = .ok (.goto (-65), 3)) ∧ (decode cX6_clashesWith 74 = .ok (.lload 5, 2)) ∧ (decode cX6_clashesWith 76 = .ok (.lreturn, 1)) ∧ (decode cX6_dearestOf 0 = .ok (.iconst (-1), 1)) ∧ (decode cX6_dearestOf 1 = .ok (.istore_n 2, 1)) ∧ (decode cX6_dearestOf 2 = .ok (.iconst 0, 1)) ∧ (decode cX6_dearestOf 3 = .ok (.istore_n 3, 1)) ∧ (decode cX6_dearestOf 4 = .ok (.iload_n 3, 1)) ∧ (decode cX6_dearestOf 5 = .ok (.aload_n 0, 1)) := by decide +kernel
theorem kd26_10 : (decode cX6_dearestOf 6 = .ok (.getfield 9, 3)) ∧ (decode cX6_dearestOf 9 = .ok (.if_icmp .ge 55, 3)) ∧ (decode cX6_dearestOf 12 = .ok (.iload_n 1, 1)) ∧ (decode cX6_dearestOf 13 = .ok (.bipush 8, 2)) ∧ (decode cX6_dearestOf 15 = .ok (.imul, 1)) ∧ (decode cX6_dearestOf 16 = .ok (.iload_n 3, 1)) ∧ (decode cX6_dearestOf 17 = .ok (.iadd, 1)) ∧ (decode cX6_dearestOf 18 = .ok (.istore 4, 2)) ∧ (decode cX6_dearestOf 20 = .ok (.aload_n 0, 1)) ∧ (decode cX6_dearestOf 21 = .ok (.getfield 34, 3)) ∧ (decode cX6_dearestOf 24 = .ok (.iload 4, 2)) ∧ (decode cX6_dearestOf 26 = .ok (.baload, 1)) := by decide +kernel
theorem kd26_11 : (decode cX6_dearestOf 27 = .ok (.ifCond .ne 31, 3)) ∧ (decode cX6_dearestOf 30 = .ok (.iload_n 2, 1)) ∧ (decode cX6_dearestOf 31 = .ok (.iconst (-1), 1)) ∧ (decode cX6_dearestOf 32 = .ok (.if_icmp .eq 24, 3)) ∧ (decode cX6_dearestOf 35 = .ok (.aload_n 0, 1)) ∧ (decode cX6_dearestOf 36 = .ok (.getfield 15, 3)) ∧ (decode cX6_dearestOf 39 = .ok (.iload 4, 2)) ∧ (decode cX6_dearestOf 41 = .ok (.iaload, 1)) ∧ (decode cX6_dearestOf 42 = .ok (.aload_n 0, 1)) ∧ (decode cX6_dearestOf 43 = .ok (.getfield 15, 3)) ∧ (decode cX6_dearestOf 46 = .ok (.iload_n 1, 1)) ∧ (decode cX6_dearestOf 47 = .ok (.bipush 8, 2)) := by decide +kernel
theorem kd26_12 : (decode cX6_dearestOf 49 = .ok (.imul, 1)) ∧ (decode cX6_dearestOf 50 = .ok (.iload_n 2, 1)) ∧ (decode cX6_dearestOf 51 = .ok (.iadd, 1)) ∧ (decode cX6_dearestOf 52 = .ok (.iaload, 1)) ∧ (decode cX6_dearestOf 53 = .ok (.if_icmp .le 5, 3)) ∧ (decode cX6_dearestOf 56 = .ok (.iload_n 3, 1)) ∧ (decode cX6_dearestOf 57 = .ok (.istore_n 2, 1)) ∧ (decode cX6_dearestOf 58 = .ok (.iinc 3 1, 3)) ∧ (decode cX6_dearestOf 61 = .ok (.goto (-57), 3)) ∧ (decode cX6_dearestOf 64 = .ok (.iload_n 2, 1)) ∧ (decode cX6_dearestOf 65 = .ok (.ireturn, 1)) ∧ (decode cX6_findClashes 0 = .ok (.iconst 0, 1)) := by decide +kernel
theorem kd26_13 : (decode cX6_findClashes 1 = .ok (.istore_n 2, 1)) ∧ (decode cX6_findClashes 2 = .ok (.iload_n 2, 1)) ∧ (decode cX6_findClashes 3 = .ok (.aload_n 0, 1)) ∧ (decode cX6_findClashes 4 = .ok (.getfield 9, 3)) ∧ (decode cX6_findClashes 7 = .ok (.if_icmp .ge 73, 3)) ∧ (decode cX6_findClashes 10 = .ok (.iconst 0, 1)) ∧ (decode cX6_findClashes 11 = .ok (.istore_n 3, 1)) ∧ (decode cX6_findClashes 12 = .ok (.iload_n 3, 1)) ∧ (decode cX6_findClashes 13 = .ok (.aload_n 0, 1)) ∧ (decode cX6_findClashes 14 = .ok (.getfield 9, 3)) ∧ (decode cX6_findClashes 17 = .ok (.if_icmp .ge 57, 3)) ∧ (decode cX6_findClashes 20 = .ok (.lconst 0, 1)) := by decide +kernel
theorem kd26_14 : (decode cX6_findClashes 21 = .ok (.lstore 4, 2)) ∧ (decode cX6_findClashes 23 = .ok (.iconst 0, 1)) ∧ (decode cX6_findClashes 24 = .ok (.istore 6, 2)) ∧ (decode cX6_findClashes 26 = .ok (.iload 6, 2)) ∧ (decode cX6_findClashes 28 = .ok (.aload_n 0, 1)) ∧ (decode cX6_findClashes 29 = .ok (.getfield 9, 3)) ∧ (decode cX6_findClashes 32 = .ok (.if_icmp .ge 23, 3)) ∧ (decode cX6_findClashes 35 = .ok (.lload 4, 2)) ∧ (decode cX6_findClashes 37 = .ok (.aload_n 0, 1)) ∧ (decode cX6_findClashes 38 = .ok (.iload_n 2, 1)) ∧ (decode cX6_findClashes 39 = .ok (.iload_n 3, 1)) ∧ (decode cX6_findClashes 40 = .ok (.iload 6, 2)) := by decide +kernel
theorem kd26_15 : (decode cX6_findClashes 42 = .ok (.iload_n 1, 1)) ∧ (decode cX6_findClashes 43 = .ok (.invokevirtual 95, 3)) ∧ (decode cX6_findClashes 46 = .ok (.lor, 1)) ∧ (decode cX6_findClashes 47 = .ok (.lstore 4, 2)) ∧ (decode cX6_findClashes 49 = .ok (.iinc 6 1, 3)) ∧ (decode cX6_findClashes 52 = .ok (.goto (-26), 3)) ∧ (decode cX6_findClashes 55 = .ok (.aload_n 0, 1)) ∧ (decode cX6_findClashes 56 = .ok (.getfield 38, 3)) ∧ (decode cX6_findClashes 59 = .ok (.iload_n 2, 1)) ∧ (decode cX6_findClashes 60 = .ok (.bipush 8, 2)) ∧ (decode cX6_findClashes 62 = .ok (.imul, 1)) ∧ (decode cX6_findClashes 63 = .ok (.iload_n 3, 1)) := by decide +kernel
theorem kd26_16 : (decode cX6_findClashes 64 = .ok (.iadd, 1)) ∧ (decode cX6_findClashes 65 = .ok (.lload 4, 2)) ∧ (decode cX6_findClashes 67 = .ok (.lastore, 1)) ∧ (decode cX6_findClashes 68 = .ok (.iinc 3 1, 3)) ∧ (decode cX6_findClashes 71 = .ok (.goto (-59), 3)) ∧ (decode cX6_findClashes 74 = .ok (.iinc 2 1, 3)) ∧ (decode cX6_findClashes 77 = .ok (.goto (-75), 3)) ∧ (decode cX6_findClashes 80 = .ok (.return_, 1)) ∧ (decode cX6_gained 0 = .ok (.iconst 0, 1)) ∧ (decode cX6_gained 1 = .ok (.istore_n 1, 1)) ∧ (decode cX6_gained 2 = .ok (.iconst 0, 1)) ∧ (decode cX6_gained 3 = .ok (.istore_n 2, 1)) := by decide +kernel
theorem kd26_17 : (decode cX6_gained 4 = .ok (.iload_n 2, 1)) ∧ (decode cX6_gained 5 = .ok (.aload_n 0, 1)) ∧ (decode cX6_gained 6 = .ok (.getfield 9, 3)) ∧ (decode cX6_gained 9 = .ok (.if_icmp .ge 38, 3)) ∧ (decode cX6_gained 12 = .ok (.aload_n 0, 1)) ∧ (decode cX6_gained 13 = .ok (.getfield 22, 3)) ∧ (decode cX6_gained 16 = .ok (.iload_n 2, 1)) ∧ (decode cX6_gained 17 = .ok (.iaload, 1)) ∧ (decode cX6_gained 18 = .ok (.iconst (-1), 1)) ∧ (decode cX6_gained 19 = .ok (.if_icmp .eq 22, 3)) ∧ (decode cX6_gained 22 = .ok (.iload_n 1, 1)) ∧ (decode cX6_gained 23 = .ok (.aload_n 0, 1)) := by decide +kernel
theorem kd26_18 : (decode cX6_gained 24 = .ok (.getfield 15, 3)) ∧ (decode cX6_gained 27 = .ok (.iload_n 2, 1)) ∧ (decode cX6_gained 28 = .ok (.bipush 8, 2)) ∧ (decode cX6_gained 30 = .ok (.imul, 1)) ∧ (decode cX6_gained 31 = .ok (.aload_n 0, 1)) ∧ (decode cX6_gained 32 = .ok (.getfield 22, 3)) ∧ (decode cX6_gained 35 = .ok (.iload_n 2, 1)) ∧ (decode cX6_gained 36 = .ok (.iaload, 1)) ∧ (decode cX6_gained 37 = .ok (.iadd, 1)) ∧ (decode cX6_gained 38 = .ok (.iaload, 1)) ∧ (decode cX6_gained 39 = .ok (.iadd, 1)) ∧ (decode cX6_gained 40 = .ok (.istore_n 1, 1)) := by decide +kernel
theorem kd26_19 : (decode cX6_gained 41 = .ok (.iinc 2 1, 3)) ∧ (decode cX6_gained 44 = .ok (.goto (-40), 3)) ∧ (decode cX6_gained 47 = .ok (.iload_n 1, 1)) ∧ (decode cX6_gained 48 = .ok (.ireturn, 1)) ∧ (decode cX6_isMightier 0 = .ok (.aload_n 0, 1)) ∧ (decode cX6_isMightier 1 = .ok (.getfield 19, 3)) ∧ (decode cX6_isMightier 4 = .ok (.iload_n 1, 1)) ∧ (decode cX6_isMightier 5 = .ok (.bipush 8, 2)) ∧ (decode cX6_isMightier 7 = .ok (.imul, 1)) ∧ (decode cX6_isMightier 8 = .ok (.iload_n 3, 1)) ∧ (decode cX6_isMightier 9 = .ok (.iadd, 1)) ∧ (decode cX6_isMightier 10 = .ok (.iaload, 1)) := by decide +kernel
theorem kd26_20 : (decode cX6_isMightier 11 = .ok (.istore 4, 2)) ∧ (decode cX6_isMightier 13 = .ok (.aload_n 0, 1)) ∧ (decode cX6_isMightier 14 = .ok (.getfield 19, 3)) ∧ (decode cX6_isMightier 17 = .ok (.iload_n 2, 1)) ∧ (decode cX6_isMightier 18 = .ok (.bipush 8, 2)) ∧ (decode cX6_isMightier 20 = .ok (.imul, 1)) ∧ (decode cX6_isMightier 21 = .ok (.iload_n 3, 1)) ∧ (decode cX6_isMightier 22 = .ok (.iadd, 1)) ∧ (decode cX6_isMightier 23 = .ok (.iaload, 1)) ∧ (decode cX6_isMightier 24 = .ok (.istore 5, 2)) ∧ (decode cX6_isMightier 26 = .ok (.iload 4, 2)) ∧ (decode cX6_isMightier 28 = .ok (.iload 5, 2)) := by decide +kernel
theorem kd26_21 : (decode cX6_isMightier 30 = .ok (.if_icmp .gt 15, 3)) ∧ (decode cX6_isMightier 33 = .ok (.iload 4, 2)) ∧ (decode cX6_isMightier 35 = .ok (.iload 5, 2)) ∧ (decode cX6_isMightier 37 = .ok (.if_icmp .ne 12, 3)) ∧ (decode cX6_isMightier 40 = .ok (.iload_n 1, 1)) ∧ (decode cX6_isMightier 41 = .ok (.iload_n 2, 1)) ∧ (decode cX6_isMightier 42 = .ok (.if_icmp .ge 7, 3)) ∧ (decode cX6_isMightier 45 = .ok (.iconst 1, 1)) ∧ (decode cX6_isMightier 46 = .ok (.goto 4, 3)) ∧ (decode cX6_isMightier 49 = .ok (.iconst 0, 1)) ∧ (decode cX6_isMightier 50 = .ok (.ireturn, 1)) ∧ (decode cX6_learn 0 = .ok (.aload_n 0, 1)) := by decide +kernel
theorem kd26_22 : (decode cX6_learn 1 = .ok (.iload_n 1, 1)) ∧ (decode cX6_learn 2 = .ok (.putfield 9, 3)) ∧ (decode cX6_learn 5 = .ok (.iconst 0, 1)) ∧ (decode cX6_learn 6 = .ok (.istore_n 3, 1)) ∧ (decode cX6_learn 7 = .ok (.iload_n 3, 1)) ∧ (decode cX6_learn 8 = .ok (.aload_n 0, 1)) ∧ (decode cX6_learn 9 = .ok (.getfield 9, 3)) ∧ (decode cX6_learn 12 = .ok (.if_icmp .ge 86, 3)) ∧ (decode cX6_learn 15 = .ok (.iconst 0, 1)) ∧ (decode cX6_learn 16 = .ok (.istore 4, 2)) ∧ (decode cX6_learn 18 = .ok (.iload 4, 2)) ∧ (decode cX6_learn 20 = .ok (.aload_n 0, 1)) := by decide +kernel
theorem kd26_23 : (decode cX6_learn 21 = .ok (.getfield 9, 3)) ∧ (decode cX6_learn 24 = .ok (.if_icmp .ge 68, 3)) ∧ (decode cX6_learn 27 = .ok (.iload_n 3, 1)) ∧ (decode cX6_learn 28 = .ok (.aload_n 0, 1)) ∧ (decode cX6_learn 29 = .ok (.getfield 9, 3)) ∧ (decode cX6_learn 32 = .ok (.imul, 1)) ∧ (decode cX6_learn 33 = .ok (.iload 4, 2)) ∧ (decode cX6_learn 35 = .ok (.iadd, 1)) ∧ (decode cX6_learn 36 = .ok (.istore 5, 2)) ∧ (decode cX6_learn 38 = .ok (.aload_n 0, 1)) ∧ (decode cX6_learn 39 = .ok (.getfield 15, 3)) ∧ (decode cX6_learn 42 = .ok (.iload_n 3, 1)) := by decide +kernel
theorem kd26_24 : (decode cX6_learn 43 = .ok (.bipush 8, 2)) ∧ (decode cX6_learn 45 = .ok (.imul, 1)) ∧ (decode cX6_learn 46 = .ok (.iload 4, 2)) ∧ (decode cX6_learn 48 = .ok (.iadd, 1)) ∧ (decode cX6_learn 49 = .ok (.aload_n 2, 1)) ∧ (decode cX6_learn 50 = .ok (.getfield 45, 3)) ∧ (decode cX6_learn 53 = .ok (.iload 5, 2)) ∧ (decode cX6_learn 55 = .ok (.iaload, 1)) ∧ (decode cX6_learn 56 = .ok (.iastore, 1)) ∧ (decode cX6_learn 57 = .ok (.aload_n 0, 1)) ∧ (decode cX6_learn 58 = .ok (.getfield 19, 3)) ∧ (decode cX6_learn 61 = .ok (.iload_n 3, 1)) := by decide +kernel
theorem kd26_25 : (decode cX6_learn 62 = .ok (.bipush 8, 2)) ∧ (decode cX6_learn 64 = .ok (.imul, 1)) ∧ (decode cX6_learn 65 = .ok (.iload 4, 2)) ∧ (decode cX6_learn 67 = .ok (.iadd, 1)) ∧ (decode cX6_learn 68 = .ok (.aload_n 2, 1)) ∧ (decode cX6_learn 69 = .ok (.getfield 45, 3)) ∧ (decode cX6_learn 72 = .ok (.aload_n 0, 1)) ∧ (decode cX6_learn 73 = .ok (.getfield 9, 3)) ∧ (decode cX6_learn 76 = .ok (.aload_n 0, 1)) ∧ (decode cX6_learn 77 = .ok (.getfield 9, 3)) ∧ (decode cX6_learn 80 = .ok (.imul, 1)) ∧ (decode cX6_learn 81 = .ok (.iload 5, 2)) := by decide +kernel
theorem kd26_26 : (decode cX6_learn 83 = .ok (.iadd, 1)) ∧ (decode cX6_learn 84 = .ok (.iaload, 1)) ∧ (decode cX6_learn 85 = .ok (.iastore, 1)) ∧ (decode cX6_learn 86 = .ok (.iinc 4 1, 3)) ∧ (decode cX6_learn 89 = .ok (.goto (-71), 3)) ∧ (decode cX6_learn 92 = .ok (.iinc 3 1, 3)) ∧ (decode cX6_learn 95 = .ok (.goto (-88), 3)) ∧ (decode cX6_learn 98 = .ok (.return_, 1)) ∧ (decode cX6_wouldFight 0 = .ok (.aload_n 0, 1)) ∧ (decode cX6_wouldFight 1 = .ok (.getfield 15, 3)) ∧ (decode cX6_wouldFight 4 = .ok (.iload_n 1, 1)) ∧ (decode cX6_wouldFight 5 = .ok (.bipush 8, 2)) := by decide +kernel
theorem kd26_27 : (decode cX6_wouldFight 7 = .ok (.imul, 1)) ∧ (decode cX6_wouldFight 8 = .ok (.iload 4, 2)) ∧ (decode cX6_wouldFight 10 = .ok (.iadd, 1)) ∧ (decode cX6_wouldFight 11 = .ok (.iaload, 1)) ∧ (decode cX6_wouldFight 12 = .ok (.aload_n 0, 1)) ∧ (decode cX6_wouldFight 13 = .ok (.getfield 15, 3)) ∧ (decode cX6_wouldFight 16 = .ok (.iload_n 1, 1)) ∧ (decode cX6_wouldFight 17 = .ok (.bipush 8, 2)) ∧ (decode cX6_wouldFight 19 = .ok (.imul, 1)) ∧ (decode cX6_wouldFight 20 = .ok (.iload_n 2, 1)) ∧ (decode cX6_wouldFight 21 = .ok (.iadd, 1)) ∧ (decode cX6_wouldFight 22 = .ok (.iaload, 1)) := by decide +kernel
theorem kd26_28 : (decode cX6_wouldFight 23 = .ok (.isub, 1)) ∧ (decode cX6_wouldFight 24 = .ok (.iload 5, 2)) ∧ (decode cX6_wouldFight 26 = .ok (.if_icmp .lt 34, 3)) ∧ (decode cX6_wouldFight 29 = .ok (.aload_n 0, 1)) ∧ (decode cX6_wouldFight 30 = .ok (.getfield 19, 3)) ∧ (decode cX6_wouldFight 33 = .ok (.iload_n 1, 1)) ∧ (decode cX6_wouldFight 34 = .ok (.bipush 8, 2)) ∧ (decode cX6_wouldFight 36 = .ok (.imul, 1)) ∧ (decode cX6_wouldFight 37 = .ok (.iload 4, 2)) ∧ (decode cX6_wouldFight 39 = .ok (.iadd, 1)) ∧ (decode cX6_wouldFight 40 = .ok (.iaload, 1)) ∧ (decode cX6_wouldFight 41 = .ok (.aload_n 0, 1)) := by decide +kernel
theorem kd26_29 : (decode cX6_wouldFight 42 = .ok (.getfield 19, 3)) ∧ (decode cX6_wouldFight 45 = .ok (.iload_n 3, 1)) ∧ (decode cX6_wouldFight 46 = .ok (.bipush 8, 2)) ∧ (decode cX6_wouldFight 48 = .ok (.imul, 1)) ∧ (decode cX6_wouldFight 49 = .ok (.iload 4, 2)) ∧ (decode cX6_wouldFight 51 = .ok (.iadd, 1)) ∧ (decode cX6_wouldFight 52 = .ok (.iaload, 1)) ∧ (decode cX6_wouldFight 53 = .ok (.if_icmp .le 7, 3)) ∧ (decode cX6_wouldFight 56 = .ok (.iconst 1, 1)) ∧ (decode cX6_wouldFight 57 = .ok (.goto 4, 3)) ∧ (decode cX6_wouldFight 60 = .ok (.iconst 0, 1)) ∧ (decode cX6_wouldFight 61 = .ok (.ireturn, 1)) := by decide +kernel
theorem fl_X6_15_7 : xF RX6 15 7 1 (.array .int) true := ⟨by decide, RX6, TX6, 10, tyX6, "PaperBoys$Parting", rfl, inlX6, tyX6_ok, nmX6, by decide, rfl, rfl, m_7_12, Or.inl rfl⟩
theorem fl_X6_19_7 : xF RX6 19 7 2 (.array .int) true := ⟨by decide, RX6, TX6, 10, tyX6, "PaperBoys$Parting", rfl, inlX6, tyX6_ok, nmX6, by decide, rfl, rfl, m_7_13, Or.inl rfl⟩
theorem fl_X6_22_7 : xF RX6 22 7 3 (.array .int) true := ⟨by decide, RX6, TX6, 10, tyX6, "PaperBoys$Parting", rfl, inlX6, tyX6_ok, nmX6, by decide, rfl, rfl, m_7_14, Or.inl rfl⟩
theorem fl_X6_25_7 : xF RX6 25 7 4 (.array .int) true := ⟨by decide, RX6, TX6, 10, tyX6, "PaperBoys$Parting", rfl, inlX6, tyX6_ok, nmX6, by decide, rfl, rfl, m_7_15, Or.inl rfl⟩
theorem fl_X6_34_7 : xF RX6 34 7 7 (.array .boolean) true := ⟨by decide, RX6, TX6, 10, tyX6, "PaperBoys$Parting", rfl, inlX6, tyX6_ok, nmX6, by decide, rfl, rfl, m_7_19, Or.inl rfl⟩
theorem fl_X6_38_7 : xF RX6 38 7 8 (.array .long) true := ⟨by decide, RX6, TX6, 10, tyX6, "PaperBoys$Parting", rfl, inlX6, tyX6_ok, nmX6, by decide, rfl, rfl, m_7_20, Or.inl rfl⟩
theorem fl_X6_45_10 : xF RX6 45 10 0 (.array .int) true := ⟨by decide, RX9, TX9, 2, tyX9, "PaperBoys$Tape", rfl, inlX9, tyX9_ok, nmX9, by decide, rfl, rfl, m_49_4, Or.inl rfl⟩
theorem fl_X6_9_7 : xF RX6 9 7 0 .int false := ⟨by decide, RX6, TX6, 10, tyX6, "PaperBoys$Parting", rfl, inlX6, tyX6_ok, nmX6, by decide, rfl, rfl, m_7_11, Or.inl rfl⟩
theorem lk_X6_50 : xLV RX6 50 yX6_wouldFight cX6_wouldFight 6 (some .boolean) 5 := ⟨m_50_20, m_50_21, m_50_22, m_3_2, m_50_23, by decide +kernel⟩
theorem lk_X6_69 : xLV RX6 69 yX6_isMightier cX6_isMightier 6 (some .boolean) 3 := ⟨m_49_21, m_49_22, m_49_23, m_3_2, m_50_0, by decide +kernel⟩
theorem lk_X6_95 : xLV RX6 95 yX6_clashesWith cX6_clashesWith 8 (some .long) 4 := ⟨m_50_16, m_50_17, m_50_18, m_3_2, m_50_19, by decide +kernel⟩
set_option maxHeartbeats 4000000 in
set_option maxRecDepth 100000 in
theorem c_X6_wouldFight (l : Launch) (D : va_G) (kA : Nat → ClassId) (b0 : Nat) (t0 : Nat → Nat) (S : xT) (g : xG) (a0 : Nat) (x1 : Int) (x2 : Int) (x3 : Int) (x4 : Int) (x5 : Int) (hs_a0 : S a0 = some (7, 0)) (hx1 : 0 ≤ x1 ∧ x1 ≤ 7) (hx2 : 0 ≤ x2 ∧ x2 ≤ 7) (hx3 : 0 ≤ x3 ∧ x3 ≤ 7) (hx4 : 0 ≤ x4 ∧ x4 ≤ 7) (hx5 : (-2147483648) ≤ x5 ∧ x5 ≤ 2147483647) : xMt l yX6_wouldFight cX6_wouldFight 6 (some .boolean) 0 0 0 0 D kA b0 t0 [] [.ref a0, .int (iI x1), .int (iI x2), .int (iI x3), .int (iI x4), .int (iI x5)] S g (fun (r : Option Value) (S1 : xT) (g1 : xG) => S = S1 ∧ g = g1 ∧ ∃ z : Int, r = some (.int (iI z)) ∧ 0 ≤ z ∧ z ≤ 1) := by
  refine xEnterZ (by decide) (by simp [lg_sl, Value.category]) [(0, .ref a0), (1, .int (iI x1)), (2, .int (iI x2)), (3, .int (iI x3)), (4, .int (iI x4)), (5, .int (iI x5))] rfl ?_
  intro K E hK hret _ _ _
  refine X_aloadn hK (i := 0) 0 kd26_26.2.2.2.2.2.2.2.2.1 rfl rfl ?_
  refine X_getr hK 12100 64 fl_X6_15_7 hs_a0 sl_7_1 kd26_26.2.2.2.2.2.2.2.2.2.1 (fun b1 eb1 hs_b1 => ?_)
  refine X_iloadn hK (i := 1) 1 kd26_26.2.2.2.2.2.2.2.2.2.2.1 rfl rfl ?_
  refine X_bipush hK kd26_26.2.2.2.2.2.2.2.2.2.2.2 (by decide) ?_
  refine X_imul hK kd26_27.1 ?_
  refine X_iload hK (i := 4) 4 kd26_27.2.1 rfl ?_
  refine X_iadd hK kd26_27.2.2.1 ?_
  refine X_iald hK hs_b1 (by decide) sl_12100 (by omega) (by omega) kd26_27.2.2.2.1 (fun z2 ez2 lz2 uz2 => ?_)
  refine X_aloadn hK (i := 0) 0 kd26_27.2.2.2.2.1 rfl rfl ?_
  refine X_getK hK fl_X6_15_7 hs_a0 eb1 kd26_27.2.2.2.2.2.1 ?_
  refine X_iloadn hK (i := 1) 1 kd26_27.2.2.2.2.2.2.1 rfl rfl ?_
  refine X_bipush hK kd26_27.2.2.2.2.2.2.2.1 (by decide) ?_
  refine X_imul hK kd26_27.2.2.2.2.2.2.2.2.1 ?_
  refine X_iloadn hK (i := 2) 2 kd26_27.2.2.2.2.2.2.2.2.2.1 rfl rfl ?_
  refine X_iadd hK kd26_27.2.2.2.2.2.2.2.2.2.2.1 ?_
  refine X_iald hK hs_b1 (by decide) sl_12100 (by omega) (by omega) kd26_27.2.2.2.2.2.2.2.2.2.2.2 (fun z3 ez3 lz3 uz3 => ?_)
  refine X_isub hK kd26_28.1 ?_
  refine X_iload hK (i := 5) 5 kd26_28.2.1 rfl ?_
  refine X_icmp_lt hK 60 (by omega) (by omega) kd26_28.2.2.1 (by decide) (fun c4 => ?_) (fun c4 => ?_)
  · refine X_iconst hK kd26_29.2.2.2.2.2.2.2.2.2.2.1 ?_
    exact hret _ _ _ _ _ _ _ kd26_29.2.2.2.2.2.2.2.2.2.2.2 (by omega) (by omega) ⟨rfl, rfl, 0, rfl, (by omega), (by omega)⟩ (Nat.le_refl _) (Nat.le_refl _)
  · refine X_aloadn hK (i := 0) 0 kd26_28.2.2.2.1 rfl rfl ?_
    refine X_getr hK 12200 64 fl_X6_19_7 hs_a0 sl_7_2 kd26_28.2.2.2.2.1 (fun b5 eb5 hs_b5 => ?_)
    refine X_iloadn hK (i := 1) 1 kd26_28.2.2.2.2.2.1 rfl rfl ?_
    refine X_bipush hK kd26_28.2.2.2.2.2.2.1 (by decide) ?_
    refine X_imul hK kd26_28.2.2.2.2.2.2.2.1 ?_
    refine X_iload hK (i := 4) 4 kd26_28.2.2.2.2.2.2.2.2.1 rfl ?_
    refine X_iadd hK kd26_28.2.2.2.2.2.2.2.2.2.1 ?_
    refine X_iald hK hs_b5 (by decide) sl_12200 (by omega) (by omega) kd26_28.2.2.2.2.2.2.2.2.2.2.1 (fun z6 ez6 lz6 uz6 => ?_)
    refine X_aloadn hK (i := 0) 0 kd26_28.2.2.2.2.2.2.2.2.2.2.2 rfl rfl ?_
    refine X_getK hK fl_X6_19_7 hs_a0 eb5 kd26_29.1 ?_
    refine X_iloadn hK (i := 3) 3 kd26_29.2.1 rfl rfl ?_
    refine X_bipush hK kd26_29.2.2.1 (by decide) ?_
    refine X_imul hK kd26_29.2.2.2.1 ?_
    refine X_iload hK (i := 4) 4 kd26_29.2.2.2.2.1 rfl ?_
    refine X_iadd hK kd26_29.2.2.2.2.2.1 ?_
    refine X_iald hK hs_b5 (by decide) sl_12200 (by omega) (by omega) kd26_29.2.2.2.2.2.2.1 (fun z7 ez7 lz7 uz7 => ?_)
    refine X_icmp_le hK 60 (by omega) (by omega) kd26_29.2.2.2.2.2.2.2.1 (by decide) (fun c8 => ?_) (fun c8 => ?_)
    · refine X_iconst hK kd26_29.2.2.2.2.2.2.2.2.2.2.1 ?_
      exact hret _ _ _ _ _ _ _ kd26_29.2.2.2.2.2.2.2.2.2.2.2 (by omega) (by omega) ⟨rfl, rfl, 0, rfl, (by omega), (by omega)⟩ (Nat.le_refl _) (Nat.le_refl _)
    · refine X_iconst hK kd26_29.2.2.2.2.2.2.2.2.1 ?_
      refine X_goto hK 61 kd26_29.2.2.2.2.2.2.2.2.2.1 (by decide) ?_
      exact hret _ _ _ _ _ _ _ kd26_29.2.2.2.2.2.2.2.2.2.2.2 (by omega) (by omega) ⟨rfl, rfl, 1, rfl, (by omega), (by omega)⟩ (Nat.le_refl _) (Nat.le_refl _)

set_option maxHeartbeats 4000000 in
set_option maxRecDepth 100000 in
theorem c_X6_isMightier (l : Launch) (D : va_G) (kA : Nat → ClassId) (b0 : Nat) (t0 : Nat → Nat) (S : xT) (g : xG) (a0 : Nat) (x1 : Int) (x2 : Int) (x3 : Int) (hs_a0 : S a0 = some (7, 0)) (hx1 : 0 ≤ x1 ∧ x1 ≤ 7) (hx2 : 0 ≤ x2 ∧ x2 ≤ 7) (hx3 : 0 ≤ x3 ∧ x3 ≤ 7) : xMt l yX6_isMightier cX6_isMightier 6 (some .boolean) 0 0 0 0 D kA b0 t0 [] [.ref a0, .int (iI x1), .int (iI x2), .int (iI x3)] S g (fun (r : Option Value) (S1 : xT) (g1 : xG) => S = S1 ∧ g = g1 ∧ ∃ z : Int, r = some (.int (iI z)) ∧ 0 ≤ z ∧ z ≤ 1) := by
  refine xEnterZ (by decide) (by simp [lg_sl, Value.category]) [(0, .ref a0), (1, .int (iI x1)), (2, .int (iI x2)), (3, .int (iI x3))] rfl ?_
  intro K E hK hret _ _ _
  refine X_aloadn hK (i := 0) 0 kd26_19.2.2.2.2.1 rfl rfl ?_
  refine X_getr hK 12200 64 fl_X6_19_7 hs_a0 sl_7_2 kd26_19.2.2.2.2.2.1 (fun b1 eb1 hs_b1 => ?_)
  refine X_iloadn hK (i := 1) 1 kd26_19.2.2.2.2.2.2.1 rfl rfl ?_
  refine X_bipush hK kd26_19.2.2.2.2.2.2.2.1 (by decide) ?_
  refine X_imul hK kd26_19.2.2.2.2.2.2.2.2.1 ?_
  refine X_iloadn hK (i := 3) 3 kd26_19.2.2.2.2.2.2.2.2.2.1 rfl rfl ?_
  refine X_iadd hK kd26_19.2.2.2.2.2.2.2.2.2.2.1 ?_
  refine X_iald hK hs_b1 (by decide) sl_12200 (by omega) (by omega) kd26_19.2.2.2.2.2.2.2.2.2.2.2 (fun z2 ez2 lz2 uz2 => ?_)
  refine X_istore hK (i := 4) [(4, .int (iI z2)), (0, .ref a0), (1, .int (iI x1)), (2, .int (iI x2)), (3, .int (iI x3))] kd26_20.1 (by decide) rfl ?_
  refine X_aloadn hK (i := 0) 1 kd26_20.2.1 rfl rfl ?_
  refine X_getK hK fl_X6_19_7 hs_a0 eb1 kd26_20.2.2.1 ?_
  refine X_iloadn hK (i := 2) 3 kd26_20.2.2.2.1 rfl rfl ?_
  refine X_bipush hK kd26_20.2.2.2.2.1 (by decide) ?_
  refine X_imul hK kd26_20.2.2.2.2.2.1 ?_
  refine X_iloadn hK (i := 3) 4 kd26_20.2.2.2.2.2.2.1 rfl rfl ?_
  refine X_iadd hK kd26_20.2.2.2.2.2.2.2.1 ?_
  refine X_iald hK hs_b1 (by decide) sl_12200 (by omega) (by omega) kd26_20.2.2.2.2.2.2.2.2.1 (fun z3 ez3 lz3 uz3 => ?_)
  refine X_istore hK (i := 5) [(5, .int (iI z3)), (4, .int (iI z2)), (0, .ref a0), (1, .int (iI x1)), (2, .int (iI x2)), (3, .int (iI x3))] kd26_20.2.2.2.2.2.2.2.2.2.1 (by decide) rfl ?_
  refine X_iload hK (i := 4) 1 kd26_20.2.2.2.2.2.2.2.2.2.2.1 rfl ?_
  refine X_iload hK (i := 5) 0 kd26_20.2.2.2.2.2.2.2.2.2.2.2 rfl ?_
  refine X_icmp_gt hK 45 (by omega) (by omega) kd26_21.1 (by decide) (fun c4 => ?_) (fun c4 => ?_)
  · refine X_iconst hK kd26_21.2.2.2.2.2.2.2.1 ?_
    refine X_goto hK 50 kd26_21.2.2.2.2.2.2.2.2.1 (by decide) ?_
    exact hret _ _ _ _ _ _ _ kd26_21.2.2.2.2.2.2.2.2.2.2.1 (by omega) (by omega) ⟨rfl, rfl, 1, rfl, (by omega), (by omega)⟩ (Nat.le_refl _) (Nat.le_refl _)
  · refine X_iload hK (i := 4) 1 kd26_21.2.1 rfl ?_
    refine X_iload hK (i := 5) 0 kd26_21.2.2.1 rfl ?_
    refine X_icmp_ne hK 49 (by omega) (by omega) kd26_21.2.2.2.1 (by decide) (fun c5 => ?_) (fun c5 => ?_)
    · refine X_iconst hK kd26_21.2.2.2.2.2.2.2.2.2.1 ?_
      exact hret _ _ _ _ _ _ _ kd26_21.2.2.2.2.2.2.2.2.2.2.1 (by omega) (by omega) ⟨rfl, rfl, 0, rfl, (by omega), (by omega)⟩ (Nat.le_refl _) (Nat.le_refl _)
    · refine X_iloadn hK (i := 1) 3 kd26_21.2.2.2.2.1 rfl rfl ?_
      refine X_iloadn hK (i := 2) 4 kd26_21.2.2.2.2.2.1 rfl rfl ?_
      refine X_icmp_ge hK 49 (by omega) (by omega) kd26_21.2.2.2.2.2.2.1 (by decide) (fun c6 => ?_) (fun c6 => ?_)
      · refine X_iconst hK kd26_21.2.2.2.2.2.2.2.2.2.1 ?_
        exact hret _ _ _ _ _ _ _ kd26_21.2.2.2.2.2.2.2.2.2.2.1 (by omega) (by omega) ⟨rfl, rfl, 0, rfl, (by omega), (by omega)⟩ (Nat.le_refl _) (Nat.le_refl _)
      · refine X_iconst hK kd26_21.2.2.2.2.2.2.2.1 ?_
        refine X_goto hK 50 kd26_21.2.2.2.2.2.2.2.2.1 (by decide) ?_
        exact hret _ _ _ _ _ _ _ kd26_21.2.2.2.2.2.2.2.2.2.2.1 (by omega) (by omega) ⟨rfl, rfl, 1, rfl, (by omega), (by omega)⟩ (Nat.le_refl _) (Nat.le_refl _)

set_option maxHeartbeats 4000000 in
set_option maxRecDepth 100000 in
theorem c_X6_gained (l : Launch) (D : va_G) (kA : Nat → ClassId) (b0 : Nat) (t0 : Nat → Nat) (S : xT) (g : xG) (a0 : Nat) (hs_a0 : S a0 = some (7, 0)) : xMt l yX6_gained cX6_gained 3 (some .int) 0 0 0 0 D kA b0 t0 [] [.ref a0] S g (fun (r : Option Value) (S1 : xT) (g1 : xG) => S = S1 ∧ g = g1 ∧ ∃ z : Int, r = some (.int (iI z)) ∧ (-2147483648) ≤ z ∧ z ≤ 2147483647) := by
  refine xEnterI (by decide) (by simp [lg_sl, Value.category]) [(0, .ref a0)] rfl ?_
  intro K E hK hret _ _ _
  refine X_iconst hK kd26_16.2.2.2.2.2.2.2.2.1 ?_
  refine X_istoren hK (i := 1) [(1, .int (iI 0)), (0, .ref a0)] kd26_16.2.2.2.2.2.2.2.2.2.1 rfl (by decide) rfl ?_
  refine X_iconst hK kd26_16.2.2.2.2.2.2.2.2.2.2.1 ?_
  refine X_istoren hK (i := 2) [(2, .int (iI 0)), (1, .int (iI 0)), (0, .ref a0)] kd26_16.2.2.2.2.2.2.2.2.2.2.2 rfl (by decide) rfl ?_
  have P325 : ∀ (nP325 : Nat) (z310 : Int) (_ : 0 ≤ z310) (_ : z310 ≤ 8) (z311 : Int) (_ : (-2147483648) ≤ z311) (_ : z311 ≤ 2147483647) (_ : 24 - z310 < (nP325 : Int)), X K E 4 [(2, .int (iI z310)), (1, .int (iI z311)), (0, .ref a0)] [] S g 0 0 := by
    intro nP325
    induction nP325 with
    | zero => intro z310 lz310 uz310 z311 lz311 uz311 mP325; exact False.elim (by omega)
    | succ nP325 ihP325 =>
      intro z310 lz310 uz310 z311 lz311 uz311 mP325
      refine X_iloadn hK (i := 2) 0 kd26_17.1 rfl rfl ?_
      refine X_aloadn hK (i := 0) 2 kd26_17.2.1 rfl rfl ?_
      refine X_geti hK fl_X6_9_7 hs_a0 sl_7_0 kd26_17.2.2.1 (fun z326 ez326 lz326 uz326 => ?_)
      refine X_icmp_ge hK 47 (by omega) (by omega) kd26_17.2.2.2.1 (by decide) (fun c327 => ?_) (fun c327 => ?_)
      · refine X_iloadn hK (i := 1) 1 kd26_19.2.2.1 rfl rfl ?_
        exact hret _ _ _ _ _ _ _ kd26_19.2.2.2.1 ⟨rfl, rfl, z311, rfl, (by omega), (by omega)⟩ (Nat.le_refl _) (Nat.le_refl _)
      · refine X_aloadn hK (i := 0) 2 kd26_17.2.2.2.2.1 rfl rfl ?_
        refine X_getr hK 12300 8 fl_X6_22_7 hs_a0 sl_7_3 kd26_17.2.2.2.2.2.1 (fun b328 eb328 hs_b328 => ?_)
        refine X_iloadn hK (i := 2) 0 kd26_17.2.2.2.2.2.2.1 rfl rfl ?_
        refine X_iald hK hs_b328 (by decide) sl_12300 (by omega) (by omega) kd26_17.2.2.2.2.2.2.2.1 (fun z329 ez329 lz329 uz329 => ?_)
        refine X_iconst hK kd26_17.2.2.2.2.2.2.2.2.1 ?_
        have J335 : ∀ (z334 : Int) (lz334 : (-2147483648) ≤ z334) (uz334 : z334 ≤ 2147483647), X K E 41 [(2, .int (iI z310)), (1, .int (iI z334)), (0, .ref a0)] [] S g 0 0 := by
          intro z334 lz334 uz334
          refine X_iinc hK (i := 2) (z := z310) (n := 1) 0 [(2, .int (iI (z310 + 1))), (1, .int (iI z334)), (0, .ref a0)] kd26_19.1 rfl (by decide) rfl ?_
          refine X_goto hK 4 kd26_19.2.1 (by decide) ?_
          exact ihP325  (z310 + 1) (by omega) (by omega) z334 (by omega) (by omega) (by omega)
        refine X_icmp_eq hK 41 (by omega) (by omega) kd26_17.2.2.2.2.2.2.2.2.2.1 (by decide) (fun c330 => ?_) (fun c330 => ?_)
        · exact J335 z311 (by omega) (by omega)
        · refine X_iloadn hK (i := 1) 1 kd26_17.2.2.2.2.2.2.2.2.2.2.1 rfl rfl ?_
          refine X_aloadn hK (i := 0) 2 kd26_17.2.2.2.2.2.2.2.2.2.2.2 rfl rfl ?_
          refine X_getr hK 12100 64 fl_X6_15_7 hs_a0 sl_7_1 kd26_18.1 (fun b336 eb336 hs_b336 => ?_)
          refine X_iloadn hK (i := 2) 0 kd26_18.2.1 rfl rfl ?_
          refine X_bipush hK kd26_18.2.2.1 (by decide) ?_
          refine X_imul hK kd26_18.2.2.2.1 ?_
          refine X_aloadn hK (i := 0) 2 kd26_18.2.2.2.2.1 rfl rfl ?_
          refine X_getK hK fl_X6_22_7 hs_a0 eb328 kd26_18.2.2.2.2.2.1 ?_
          refine X_iloadn hK (i := 2) 0 kd26_18.2.2.2.2.2.2.1 rfl rfl ?_
          refine X_ialdK hK hs_b328 (by decide) (by omega) (by omega) ez329 kd26_18.2.2.2.2.2.2.2.1 ?_
          refine X_iadd hK kd26_18.2.2.2.2.2.2.2.2.1 ?_
          refine X_iald hK hs_b336 (by decide) sl_12100 (by omega) (by omega) kd26_18.2.2.2.2.2.2.2.2.2.1 (fun z337 ez337 lz337 uz337 => ?_)
          refine X_iadd hK kd26_18.2.2.2.2.2.2.2.2.2.2.1 ?_
          refine X_norm (fun z338 ez338 lz338 uz338 => ?_)
          refine X_istoren hK (i := 1) [(1, .int (iI z338)), (2, .int (iI z310)), (0, .ref a0)] kd26_18.2.2.2.2.2.2.2.2.2.2.2 rfl (by decide) rfl ?_
          refine X_lv [(2, .int (iI z310)), (1, .int (iI z338)), (0, .ref a0)] [1, 0, 2] rfl ?_
          exact J335 z338 (by omega) (by omega)
  exact P325 ((24 - 0 : Int).toNat + 1) 0 (by omega) (by omega) 0 (by omega) (by omega) (by omega)

set_option maxHeartbeats 4000000 in
set_option maxRecDepth 100000 in
theorem c_X6_clashesWith (l : Launch) (D : va_G) (kA : Nat → ClassId) (b0 : Nat) (t0 : Nat → Nat) (S : xT) (g : xG) (a0 : Nat) (x1 : Int) (x2 : Int) (x3 : Int) (x4 : Int) (hs_a0 : S a0 = some (7, 0)) (hx1 : 0 ≤ x1 ∧ x1 ≤ 7) (hx2 : 0 ≤ x2 ∧ x2 ≤ 7) (hx3 : 0 ≤ x3 ∧ x3 ≤ 7) (hx4 : (-2147483648) ≤ x4 ∧ x4 ≤ 2147483647) : xMt l yX6_clashesWith cX6_clashesWith 8 (some .long) 1 0 0 25 D kA b0 t0 [] [.ref a0, .int (iI x1), .int (iI x2), .int (iI x3), .int (iI x4)] S g (fun (r : Option Value) (S1 : xT) (g1 : xG) => S = S1 ∧ g = g1 ∧ ∃ z : Int64, r = some (.long z)) := by
  refine xEnterL (by decide) (by simp [lg_sl, Value.category]) [(0, .ref a0), (1, .int (iI x1)), (2, .int (iI x2)), (3, .int (iI x3)), (4, .int (iI x4))] rfl ?_
  intro K E hK hret _ _ _
  refine X_lconst hK kd26_5.2.2.2.2.2.2.2.2.2.2.1 (fun y1 => ?_)
  refine X_lstore hK (i := 5) [(5, .long y1), (0, .ref a0), (1, .int (iI x1)), (2, .int (iI x2)), (3, .int (iI x3)), (4, .int (iI x4))] kd26_5.2.2.2.2.2.2.2.2.2.2.2 (by decide) rfl ?_
  refine X_iconst hK kd26_6.1 ?_
  refine X_istore hK (i := 7) [(7, .int (iI 0)), (5, .long y1), (0, .ref a0), (1, .int (iI x1)), (2, .int (iI x2)), (3, .int (iI x3)), (4, .int (iI x4))] kd26_6.2.1 (by decide) rfl ?_
  have P278 : ∀ (nP278 : Nat) (z232 : Int) (_ : 0 ≤ z232) (_ : z232 ≤ 8) (y233 : Int64) (_ : 24 - z232 < (nP278 : Int)), X K E 6 [(7, .int (iI z232)), (5, .long y233), (0, .ref a0), (1, .int (iI x1)), (2, .int (iI x2)), (3, .int (iI x3)), (4, .int (iI x4))] [] S g 0 0 := by
    intro nP278
    induction nP278 with
    | zero => intro z232 lz232 uz232 y233 mP278; exact False.elim (by omega)
    | succ nP278 ihP278 =>
      intro z232 lz232 uz232 y233 mP278
      refine X_iload hK (i := 7) 0 kd26_6.2.2.1 rfl ?_
      refine X_aloadn hK (i := 0) 2 kd26_6.2.2.2.1 rfl rfl ?_
      refine X_geti hK fl_X6_9_7 hs_a0 sl_7_0 kd26_6.2.2.2.2.1 (fun z279 ez279 lz279 uz279 => ?_)
      refine X_icmp_ge hK 74 (by omega) (by omega) kd26_6.2.2.2.2.2.1 (by decide) (fun c280 => ?_) (fun c280 => ?_)
      · refine X_lload hK (i := 5) 1 kd26_9.2.2.2.2.1 rfl ?_
        exact hret _ _ _ _ _ _ _ kd26_9.2.2.2.2.2.1 ⟨rfl, rfl, y233, rfl⟩ (Nat.le_refl _) (Nat.le_refl _)
      · refine X_iloadn hK (i := 3) 5 kd26_6.2.2.2.2.2.2.1 rfl rfl ?_
        refine X_iloadn hK (i := 1) 3 kd26_6.2.2.2.2.2.2.2.1 rfl rfl ?_
        refine X_icmp_eq hK 74 (by omega) (by omega) kd26_6.2.2.2.2.2.2.2.2.1 (by decide) (fun c281 => ?_) (fun c281 => ?_)
        · refine X_lload hK (i := 5) 1 kd26_9.2.2.2.2.1 rfl ?_
          exact hret _ _ _ _ _ _ _ kd26_9.2.2.2.2.2.1 ⟨rfl, rfl, y233, rfl⟩ (Nat.le_refl _) (Nat.le_refl _)
        · refine X_iload hK (i := 7) 0 kd26_6.2.2.2.2.2.2.2.2.2.1 rfl ?_
          refine X_iloadn hK (i := 2) 4 kd26_6.2.2.2.2.2.2.2.2.2.2.1 rfl rfl ?_
          have J303 : ∀ (y302 : Int64), X K E 68 [(5, .long y302), (7, .int (iI z232)), (0, .ref a0), (1, .int (iI x1)), (2, .int (iI x2)), (3, .int (iI x3)), (4, .int (iI x4))] [] S g 0 0 := by
            intro y302
            refine X_iinc hK (i := 7) (z := z232) (n := 1) 1 [(7, .int (iI (z232 + 1))), (5, .long y302), (0, .ref a0), (1, .int (iI x1)), (2, .int (iI x2)), (3, .int (iI x3)), (4, .int (iI x4))] kd26_9.2.2.1 rfl (by decide) rfl ?_
            refine X_goto hK 6 kd26_9.2.2.2.1 (by decide) ?_
            exact ihP278  (z232 + 1) (by omega) (by omega) y302 (by omega)
          refine X_icmp_eq hK 54 (by omega) (by omega) kd26_6.2.2.2.2.2.2.2.2.2.2.2 (by decide) (fun c282 => ?_) (fun c282 => ?_)
          · refine X_lload hK (i := 5) 1 kd26_8.2.2.2.2.1 rfl ?_
            refine X_lconst hK kd26_8.2.2.2.2.2.1 (fun y304 => ?_)
            refine X_iloadn hK (i := 3) 5 kd26_8.2.2.2.2.2.2.1 rfl rfl ?_
            refine X_bipush hK kd26_8.2.2.2.2.2.2.2.1 (by decide) ?_
            refine X_imul hK kd26_8.2.2.2.2.2.2.2.2.1 ?_
            refine X_iload hK (i := 7) 0 kd26_8.2.2.2.2.2.2.2.2.2.1 rfl ?_
            refine X_iadd hK kd26_8.2.2.2.2.2.2.2.2.2.2.1 ?_
            refine X_lshl hK kd26_8.2.2.2.2.2.2.2.2.2.2.2 (fun y305 => ?_)
            refine X_lor hK kd26_9.1 (fun y306 => ?_)
            refine X_lstore hK (i := 5) [(5, .long y306), (7, .int (iI z232)), (0, .ref a0), (1, .int (iI x1)), (2, .int (iI x2)), (3, .int (iI x3)), (4, .int (iI x4))] kd26_9.2.1 (by decide) rfl ?_
            exact J303 y306
          · refine X_aloadn hK (i := 0) 2 kd26_7.1 rfl rfl ?_
            refine X_iloadn hK (i := 1) 3 kd26_7.2.1 rfl rfl ?_
            refine X_iloadn hK (i := 2) 4 kd26_7.2.2.1 rfl rfl ?_
            refine X_iloadn hK (i := 3) 5 kd26_7.2.2.2.1 rfl rfl ?_
            refine X_iload hK (i := 7) 0 kd26_7.2.2.2.2.1 rfl ?_
            refine X_iload hK (i := 4) 6 kd26_7.2.2.2.2.2.1 rfl ?_
            refine X_callV hK [.int (iI x1), .int (iI x2), .int (iI x3), .int (iI z232), .int (iI x4)] [] lk_X6_50 (c_X6_wouldFight _ _ _ _ _ S g a0 x1 x2 x3 z232 x4 hs_a0 (by omega) (by omega) (by omega) (by omega) (by omega)) hs_a0 ⟨by decide, rfl⟩ kd26_7.2.2.2.2.2.2.1 rfl rfl (by simp [Value.category]) (by decide) (by decide) (by decide) (by decide) (fun r307 S309 g308 pr307 qr307 hg308 => ?_)
            obtain ⟨rfl, rfl, z310, rfl, lz310, uz310⟩ := pr307
            refine X_st [.int (iI z310)] rfl ?_
            refine X_if_ne hK 54 (by omega) kd26_7.2.2.2.2.2.2.2.1 (by decide) (fun c311 => ?_) (fun c311 => ?_)
            · refine X_lload hK (i := 5) 1 kd26_8.2.2.2.2.1 rfl ?_
              refine X_lconst hK kd26_8.2.2.2.2.2.1 (fun y312 => ?_)
              refine X_iloadn hK (i := 3) 5 kd26_8.2.2.2.2.2.2.1 rfl rfl ?_
              refine X_bipush hK kd26_8.2.2.2.2.2.2.2.1 (by decide) ?_
              refine X_imul hK kd26_8.2.2.2.2.2.2.2.2.1 ?_
              refine X_iload hK (i := 7) 0 kd26_8.2.2.2.2.2.2.2.2.2.1 rfl ?_
              refine X_iadd hK kd26_8.2.2.2.2.2.2.2.2.2.2.1 ?_
              refine X_lshl hK kd26_8.2.2.2.2.2.2.2.2.2.2.2 (fun y313 => ?_)
              refine X_lor hK kd26_9.1 (fun y314 => ?_)
              refine X_lstore hK (i := 5) [(5, .long y314), (7, .int (iI z232)), (0, .ref a0), (1, .int (iI x1)), (2, .int (iI x2)), (3, .int (iI x3)), (4, .int (iI x4))] kd26_9.2.1 (by decide) rfl ?_
              exact J303 y314
            · refine X_aloadn hK (i := 0) 2 kd26_7.2.2.2.2.2.2.2.2.1 rfl rfl ?_
              refine X_iloadn hK (i := 3) 5 kd26_7.2.2.2.2.2.2.2.2.2.1 rfl rfl ?_
              refine X_iload hK (i := 7) 0 kd26_7.2.2.2.2.2.2.2.2.2.2.1 rfl ?_
              refine X_iloadn hK (i := 1) 3 kd26_7.2.2.2.2.2.2.2.2.2.2.2 rfl rfl ?_
              refine X_iloadn hK (i := 2) 4 kd26_8.1 rfl rfl ?_
              refine X_iload hK (i := 4) 6 kd26_8.2.1 rfl ?_
              refine X_callV hK [.int (iI x3), .int (iI z232), .int (iI x1), .int (iI x2), .int (iI x4)] [] lk_X6_50 (c_X6_wouldFight _ _ _ _ _ S g a0 x3 z232 x1 x2 x4 hs_a0 (by omega) (by omega) (by omega) (by omega) (by omega)) hs_a0 ⟨by decide, rfl⟩ kd26_8.2.2.1 rfl rfl (by simp [Value.category]) (by decide) (by decide) (by decide) (by decide) (fun r315 S317 g316 pr315 qr315 hg316 => ?_)
              obtain ⟨rfl, rfl, z318, rfl, lz318, uz318⟩ := pr315
              refine X_st [.int (iI z318)] rfl ?_
              refine X_if_eq hK 68 (by omega) kd26_8.2.2.2.1 (by decide) (fun c319 => ?_) (fun c319 => ?_)
              · refine X_lv [(5, .long y233), (7, .int (iI z232)), (0, .ref a0), (1, .int (iI x1)), (2, .int (iI x2)), (3, .int (iI x3)), (4, .int (iI x4))] [1, 0, 2, 3, 4, 5, 6] rfl ?_
                exact J303 y233
              · refine X_lload hK (i := 5) 1 kd26_8.2.2.2.2.1 rfl ?_
                refine X_lconst hK kd26_8.2.2.2.2.2.1 (fun y320 => ?_)
                refine X_iloadn hK (i := 3) 5 kd26_8.2.2.2.2.2.2.1 rfl rfl ?_
                refine X_bipush hK kd26_8.2.2.2.2.2.2.2.1 (by decide) ?_
                refine X_imul hK kd26_8.2.2.2.2.2.2.2.2.1 ?_
                refine X_iload hK (i := 7) 0 kd26_8.2.2.2.2.2.2.2.2.2.1 rfl ?_
                refine X_iadd hK kd26_8.2.2.2.2.2.2.2.2.2.2.1 ?_
                refine X_lshl hK kd26_8.2.2.2.2.2.2.2.2.2.2.2 (fun y321 => ?_)
                refine X_lor hK kd26_9.1 (fun y322 => ?_)
                refine X_lstore hK (i := 5) [(5, .long y322), (7, .int (iI z232)), (0, .ref a0), (1, .int (iI x1)), (2, .int (iI x2)), (3, .int (iI x3)), (4, .int (iI x4))] kd26_9.2.1 (by decide) rfl ?_
                exact J303 y322
  exact P278 ((24 - 0 : Int).toNat + 1) 0 (by omega) (by omega) y1 (by omega)

set_option maxHeartbeats 4000000 in
set_option maxRecDepth 100000 in
theorem c_X6_findClashes (l : Launch) (D : va_G) (kA : Nat → ClassId) (b0 : Nat) (t0 : Nat → Nat) (S : xT) (g : xG) (a0 : Nat) (x1 : Int) (hs_a0 : S a0 = some (7, 0)) (hx1 : (-2147483648) ≤ x1 ∧ x1 ≤ 2147483647) : xMt l yX6_findClashes cX6_findClashes 7 none 2 0 0 52 D kA b0 t0 [(12802, 0)] [.ref a0, .int (iI x1)] S g (fun (r : Option Value) (S1 : xT) (g1 : xG) => S = S1 ∧ r = none) := by
  refine xEnterV (by decide) (by simp [lg_sl, Value.category]) [(0, .ref a0), (1, .int (iI x1))] rfl ?_
  intro K E hK hret _ _ _
  refine X_iconst hK kd26_12.2.2.2.2.2.2.2.2.2.2.2 ?_
  refine X_istoren hK (i := 2) [(2, .int (iI 0)), (0, .ref a0), (1, .int (iI x1))] kd26_13.1 rfl (by decide) rfl ?_
  have P7782 : ∀ (nP7782 : Nat) (g6486 : xG) (_ : xM [(12802, 0)] S g g6486) (z6485 : Int) (_ : 0 ≤ z6485) (_ : z6485 ≤ 8) (_ : 24 - z6485 < (nP7782 : Int)), X K E 2 [(2, .int (iI z6485)), (0, .ref a0), (1, .int (iI x1))] [] S g6486 0 0 := by
    intro nP7782
    induction nP7782 with
    | zero => intro g6486 hg6486 z6485 lz6485 uz6485 mP7782; exact False.elim (by omega)
    | succ nP7782 ihP7782 =>
      intro g6486 hg6486 z6485 lz6485 uz6485 mP7782
      refine X_iloadn hK (i := 2) 0 kd26_13.2.1 rfl rfl ?_
      refine X_aloadn hK (i := 0) 1 kd26_13.2.2.1 rfl rfl ?_
      refine X_geti hK fl_X6_9_7 hs_a0 sl_7_0 kd26_13.2.2.2.1 (fun z7783 ez7783 lz7783 uz7783 => ?_)
      refine X_icmp_ge hK 80 (by omega) (by omega) kd26_13.2.2.2.2.1 (by decide) (fun c7784 => ?_) (fun c7784 => ?_)
      · exact hret _ _ _ _ _ _ kd26_16.2.2.2.2.2.2.2.1 ⟨rfl, rfl⟩ (Nat.le_refl _) (Nat.le_refl _)
      · refine X_iconst hK kd26_13.2.2.2.2.2.1 ?_
        refine X_istoren hK (i := 3) [(3, .int (iI 0)), (2, .int (iI z6485)), (0, .ref a0), (1, .int (iI x1))] kd26_13.2.2.2.2.2.2.1 rfl (by decide) rfl ?_
        have P8880 : ∀ (nP8880 : Nat) (g8682 : xG) (_ : xM [(12802, 0)] S g6486 g8682) (z8681 : Int) (_ : 0 ≤ z8681) (_ : z8681 ≤ 8) (_ : 24 - z8681 < (nP8880 : Int)), X K E 12 [(3, .int (iI z8681)), (2, .int (iI z6485)), (0, .ref a0), (1, .int (iI x1))] [] S g8682 0 0 := by
          intro nP8880
          induction nP8880 with
          | zero => intro g8682 hg8682 z8681 lz8681 uz8681 mP8880; exact False.elim (by omega)
          | succ nP8880 ihP8880 =>
            intro g8682 hg8682 z8681 lz8681 uz8681 mP8880
            refine X_iloadn hK (i := 3) 0 kd26_13.2.2.2.2.2.2.2.1 rfl rfl ?_
            refine X_aloadn hK (i := 0) 2 kd26_13.2.2.2.2.2.2.2.2.1 rfl rfl ?_
            refine X_getK hK fl_X6_9_7 hs_a0 ((hg8682 a0 7 0 0 hs_a0 (by decide)).trans ez7783) kd26_13.2.2.2.2.2.2.2.2.2.1 ?_
            refine X_icmp_ge hK 74 (by omega) (by omega) kd26_13.2.2.2.2.2.2.2.2.2.2.1 (by decide) (fun c8881 => ?_) (fun c8881 => ?_)
            · refine X_iinc hK (i := 2) (z := z6485) (n := 1) 1 [(2, .int (iI (z6485 + 1))), (3, .int (iI z8681)), (0, .ref a0), (1, .int (iI x1))] kd26_16.2.2.2.2.2.1 rfl (by decide) rfl ?_
              refine X_goto hK 2 kd26_16.2.2.2.2.2.2.1 (by decide) ?_
              refine X_lv [(2, .int (iI (z6485 + 1))), (0, .ref a0), (1, .int (iI x1))] [0, 2, 3] rfl ?_
              exact ihP7782  g8682 (xM.tr (xM.tr xM.rf xLe.rf hg6486 (by decide)) xLe.rf hg8682 (by decide)) (z6485 + 1) (by omega) (by omega) (by omega)
            · refine X_lconst hK kd26_13.2.2.2.2.2.2.2.2.2.2.2 (fun y8980 => ?_)
              refine X_lstore hK (i := 4) [(4, .long y8980), (3, .int (iI z8681)), (2, .int (iI z6485)), (0, .ref a0), (1, .int (iI x1))] kd26_14.1 (by decide) rfl ?_
              refine X_iconst hK kd26_14.2.1 ?_
              refine X_istore hK (i := 6) [(6, .int (iI 0)), (4, .long y8980), (3, .int (iI z8681)), (2, .int (iI z6485)), (0, .ref a0), (1, .int (iI x1))] kd26_14.2.2.1 (by decide) rfl ?_
              have P9064 : ∀ (nP9064 : Nat) (z9049 : Int) (_ : 0 ≤ z9049) (_ : z9049 ≤ 8) (y9050 : Int64) (_ : 24 - z9049 < (nP9064 : Int)), X K E 26 [(6, .int (iI z9049)), (4, .long y9050), (3, .int (iI z8681)), (2, .int (iI z6485)), (0, .ref a0), (1, .int (iI x1))] [] S g8682 0 0 := by
                intro nP9064
                induction nP9064 with
                | zero => intro z9049 lz9049 uz9049 y9050 mP9064; exact False.elim (by omega)
                | succ nP9064 ihP9064 =>
                  intro z9049 lz9049 uz9049 y9050 mP9064
                  refine X_iload hK (i := 6) 0 kd26_14.2.2.2.1 rfl ?_
                  refine X_aloadn hK (i := 0) 4 kd26_14.2.2.2.2.1 rfl rfl ?_
                  refine X_getK hK fl_X6_9_7 hs_a0 ((hg8682 a0 7 0 0 hs_a0 (by decide)).trans ez7783) kd26_14.2.2.2.2.2.1 ?_
                  refine X_icmp_ge hK 55 (by omega) (by omega) kd26_14.2.2.2.2.2.2.1 (by decide) (fun c9065 => ?_) (fun c9065 => ?_)
                  · refine X_aloadn hK (i := 0) 4 kd26_15.2.2.2.2.2.2.1 rfl rfl ?_
                    refine X_getr hK 12802 64 fl_X6_38_7 hs_a0 sl_7_8 kd26_15.2.2.2.2.2.2.2.1 (fun b9071 eb9071 hs_b9071 => ?_)
                    refine X_iloadn hK (i := 2) 3 kd26_15.2.2.2.2.2.2.2.2.1 rfl rfl ?_
                    refine X_bipush hK kd26_15.2.2.2.2.2.2.2.2.2.1 (by decide) ?_
                    refine X_imul hK kd26_15.2.2.2.2.2.2.2.2.2.2.1 ?_
                    refine X_iloadn hK (i := 3) 2 kd26_15.2.2.2.2.2.2.2.2.2.2.2 rfl rfl ?_
                    refine X_iadd hK kd26_16.1 ?_
                    refine X_lload hK (i := 4) 1 kd26_16.2.1 rfl ?_
                    refine X_last hK hs_b9071 (by decide) (by decide) sl_12802 (by omega) (by omega) kd26_16.2.2.1 (fun g9072 hg9072 => ?_)
                    refine X_iinc hK (i := 3) (z := z8681) (n := 1) 2 [(3, .int (iI (z8681 + 1))), (6, .int (iI z9049)), (4, .long y9050), (2, .int (iI z6485)), (0, .ref a0), (1, .int (iI x1))] kd26_16.2.2.2.1 rfl (by decide) rfl ?_
                    refine X_goto hK 12 kd26_16.2.2.2.2.1 (by decide) ?_
                    refine X_lv [(3, .int (iI (z8681 + 1))), (2, .int (iI z6485)), (0, .ref a0), (1, .int (iI x1))] [0, 3, 4, 5] rfl ?_
                    exact ihP8880  g9072 (xM_ua (xM.tr xM.rf xLe.rf hg8682 (by decide)) hg9072 hs_b9071 (by decide) (by decide)) (z8681 + 1) (by omega) (by omega) (by omega)
                  · refine X_lload hK (i := 4) 1 kd26_14.2.2.2.2.2.2.2.1 rfl ?_
                    refine X_aloadn hK (i := 0) 4 kd26_14.2.2.2.2.2.2.2.2.1 rfl rfl ?_
                    refine X_iloadn hK (i := 2) 3 kd26_14.2.2.2.2.2.2.2.2.2.1 rfl rfl ?_
                    refine X_iloadn hK (i := 3) 2 kd26_14.2.2.2.2.2.2.2.2.2.2.1 rfl rfl ?_
                    refine X_iload hK (i := 6) 0 kd26_14.2.2.2.2.2.2.2.2.2.2.2 rfl ?_
                    refine X_iloadn hK (i := 1) 5 kd26_15.1 rfl rfl ?_
                    refine X_callV hK [.int (iI z6485), .int (iI z8681), .int (iI z9049), .int (iI x1)] [.long y9050] lk_X6_95 (c_X6_clashesWith _ _ _ _ _ S g8682 a0 z6485 z8681 z9049 x1 hs_a0 (by omega) (by omega) (by omega) (by omega)) hs_a0 ⟨by decide, rfl⟩ kd26_15.2.1 rfl rfl (by simp [Value.category]) (by decide) (by decide) (by decide) (by decide) (fun r9073 S9075 g9074 pr9073 qr9073 hg9074 => ?_)
                    obtain ⟨rfl, rfl, y9076, rfl⟩ := pr9073
                    refine X_st [.long y9076, .long y9050] rfl ?_
                    refine X_lor hK kd26_15.2.2.1 (fun y9077 => ?_)
                    refine X_lstore hK (i := 4) [(4, .long y9077), (6, .int (iI z9049)), (3, .int (iI z8681)), (2, .int (iI z6485)), (0, .ref a0), (1, .int (iI x1))] kd26_15.2.2.2.1 (by decide) rfl ?_
                    refine X_iinc hK (i := 6) (z := z9049) (n := 1) 1 [(6, .int (iI (z9049 + 1))), (4, .long y9077), (3, .int (iI z8681)), (2, .int (iI z6485)), (0, .ref a0), (1, .int (iI x1))] kd26_15.2.2.2.2.1 rfl (by decide) rfl ?_
                    refine X_goto hK 26 kd26_15.2.2.2.2.2.1 (by decide) ?_
                    exact ihP9064  (z9049 + 1) (by omega) (by omega) y9077 (by omega)
              exact P9064 ((24 - 0 : Int).toNat + 1) 0 (by omega) (by omega) y8980 (by omega)
        exact P8880 ((24 - 0 : Int).toNat + 1) g6486 xM.rf 0 (by omega) (by omega) (by omega)
  exact P7782 ((24 - 0 : Int).toNat + 1) g xM.rf 0 (by omega) (by omega) (by omega)
